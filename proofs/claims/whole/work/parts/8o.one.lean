/-! THE PURE SIDE, 162: what stands alone on both sides: printed by wip/tools/gen8o.py -/
section SM
variable {bX : Int} {tp : Int → Int} {t T S s s1 s2 f : Int} {h hr g gr k kr m mr : HV} {Q : Int → HV → Prop} {d : Nat}
theorem x89 {dep n : Int} (B : BDC T f h) (hn : 0 ≤ n) : G fz1 (d + 12) 89 4 [(3, 258), (0, dep), (0, n)] [] h Q = Q 0 h := by
  have k2 := B.k.2.2
  have hT := B.1.1
  have i2 : ∀ (d : Nat) Q, Sp fz1 d 59 [(3, 129), (0, 91)] h Q = Q 0 h := fun d Q => c59b k2
  rw [q89_4]
  by_cases z : n < 30
  · simp (implicitDefEqProofs := false) (disch := omega) only [b89_4, b89_6, q89_6, x_aload0, y_call28, y_call59, y_call90, x_gc_2051, x_goto_5, x_iconst, x_ifCond_eq_6, x_ifCond_ne_5, x_if_icmp_ge_6, x_iload2, x_return, klp_0, klp_1, klp_2, klp_3, klp_9, KC_0, KC_1, KC_2, KC_3, KC_4, ne_eq, not_false_eq_true, not_true_eq_false, true_and, and_true, and_self, implies_true, eq_self, true_imp_iff, false_implies, Int.reduceEq, Int.reduceNe, Int.reduceMod, Int.reduceMul, Int.reduceAdd, Int.reduceSub, Int.reduceLT, Int.reduceLE, Nat.reduceAdd, Nat.reduceLeDiff, Nat.reduceLT, Nat.reduceSub, reduceIte, wds_n, wds_0, wds_1, wds_2, wds_3, or_true, true_or, or_false, false_or, or_self, false_and, and_false, d_pos, d_s1, d_s2, d_s3, d_s4, d_s5, d_s6, d_s7, d_s8, Classical.not_not, z258_0, TC_0 hT, TC_k hT, i2, d_s9, d_s10, d_s11, d_s12, d_s13, d_s14, d_s15, d_s16, d_s17, d_s18, d_s19, d_s20, d_s21, d_s22, d_s23, d_s24, d_s25, d_s26, d_s27, d_s28, d_s29, d_s30, le_sub1, le_T, le_F, lt_T, lt_F, eq_F, w32_T, bz0, bz1, lc_le, lc_ge, lc_lt, lc_gt, lc_eq]
  · simp (implicitDefEqProofs := false) (disch := omega) only [b89_4, b89_6, q89_6, x_aload0, y_call28, y_call59, y_call90, x_gc_2051, x_goto_5, x_iconst, x_ifCond_eq_6, x_ifCond_ne_5, x_if_icmp_ge_6, x_iload2, x_return, klp_0, klp_1, klp_2, klp_3, klp_9, KC_0, KC_1, KC_2, KC_3, KC_4, ne_eq, not_false_eq_true, not_true_eq_false, true_and, and_true, and_self, implies_true, eq_self, true_imp_iff, false_implies, Int.reduceEq, Int.reduceNe, Int.reduceMod, Int.reduceMul, Int.reduceAdd, Int.reduceSub, Int.reduceLT, Int.reduceLE, Nat.reduceAdd, Nat.reduceLeDiff, Nat.reduceLT, Nat.reduceSub, reduceIte, wds_n, wds_0, wds_1, wds_2, wds_3, or_true, true_or, or_false, false_or, or_self, false_and, and_false, d_pos, d_s1, d_s2, d_s3, d_s4, d_s5, d_s6, d_s7, d_s8, Classical.not_not, z258_0, TC_0 hT, TC_k hT, i2, d_s9, d_s10, d_s11, d_s12, d_s13, d_s14, d_s15, d_s16, d_s17, d_s18, d_s19, d_s20, d_s21, d_s22, d_s23, d_s24, d_s25, d_s26, d_s27, d_s28, d_s29, d_s30, le_sub1, le_T, le_F, lt_T, lt_F, eq_F, w32_T, bz0, bz1, lc_le, lc_ge, lc_lt, lc_gt, lc_eq]
theorem y353 (B : BDR S f hr) : G fz1 (d + 12) 353 4 [(3, 6603)] [] hr Q = Q 0 hr := by
  have q2 : ∀ (d : Nat) Q, Sp fz1 d 325 [(3, 6603)] hr Q = Q 0 hr := fun d Q => v325x B
  rw [q353_4]
  simp (implicitDefEqProofs := false) (disch := omega) only [b353_4, b353_6, q353_6, x_aload0, y_call321, y_call325, y_call334, y_call344, y_call346, x_goto_5, x_iconst, x_ifCond_eq_5, x_ifCond_eq_6, x_return, klp_0, klp_1, klp_2, klp_3, klp_9, KC_0, KC_1, KC_2, KC_3, KC_4, ne_eq, not_false_eq_true, not_true_eq_false, true_and, and_true, and_self, implies_true, eq_self, true_imp_iff, false_implies, Int.reduceEq, Int.reduceNe, Int.reduceMod, Int.reduceMul, Int.reduceAdd, Int.reduceSub, Int.reduceLT, Int.reduceLE, Nat.reduceAdd, Nat.reduceLeDiff, Nat.reduceLT, Nat.reduceSub, reduceIte, wds_n, wds_0, wds_1, wds_2, wds_3, or_true, true_or, or_false, false_or, or_self, false_and, and_false, d_pos, d_s1, d_s2, d_s3, d_s4, d_s5, d_s6, d_s7, d_s8, Classical.not_not, q2, hs_ne, hcell, hcel1, d_s9, d_s10, d_s11, d_s12, d_s13, d_s14, d_s15, d_s16, d_s17, d_s18, d_s19, d_s20, d_s21, d_s22, d_s23, d_s24, d_s25, d_s26, d_s27, d_s28, d_s29, d_s30, le_sub1, le_T, le_F, lt_T, lt_F, eq_F, w32_T, bz0, bz1, lc_le, lc_ge, lc_lt, lc_gt, lc_eq]
/-- the rest of the reference's round in [ ] behind a fault -/
theorem z353 {e2 : Nat} (B : BDR S f hr) (l : hr S 15 + 1 ≤ 11 * hr S 14 + 14) : ∃ gr, BDR S f gr ∧ FXR S hr gr ∧ gr S 14 = hr S 14 ∧ gr S 15 = hr S 15 + 1 ∧ ∀ Q, G fz1 (e2 + 12) 353 5 [(3, 6603)] [] hr Q = Q 0 gr := by
  have r7 : 0 ≤ hr 6603 7 := by have := B.2.1; omega
  obtain ⟨k1, hk1⟩ : ∃ k2, k2 = hr := ⟨_, rfl⟩
  obtain ⟨k2, hk2⟩ : ∃ k2, k2 = hr := ⟨_, rfl⟩
  have sx : ∀ Q, Sp fz1 (e2 + 11) 350 [(3, 6603)] hr Q = Q 0 k1 := fun Q => by rw [hk1]; exact v350b r7
  have s2 : ∀ Q, Sp fz1 (e2 + 11) 333 [(3, 6603), (0, 93)] k1 Q = Q 0 k2 := fun Q => by rw [hk1, hk2]; exact v333b r7
  obtain ⟨U1, U2, U3, U4⟩ := B.d12 (x := w32 (k2 6603 12 - 1))
  obtain ⟨C1, C2, C3, C4, C5⟩ := U1.cd (p := 10) (a := 0) (b := 0) (by rw [U3]; exact l)
  rw [← hk2] at U1 U2 U3 U4 C1 C2 C3 C4 C5
  have b6 := U1.2.2.2
  have cd : ∀ Q, Sp fz1 (e2 + 11) 347 [(3, 6603), (0, 10), (0, 0), (0, 0)] (hset k2 6603 12 (w32 (k2 6603 12 - 1))) Q = Q (hset k2 6603 12 (w32 (k2 6603 12 - 1)) S 15) (cdR S (hset k2 6603 12 (w32 (k2 6603 12 - 1))) 10 0 0) := fun Q => v347 U1.1.1 U1.1.2 (by omega)
  have ex : ∀ Q, G fz1 (e2 + 12) 353 4 [(3, 6603)] [] (cdR S (hset k2 6603 12 (w32 (k2 6603 12 - 1))) 10 0 0) Q = Q 0 (cdR S (hset k2 6603 12 (w32 (k2 6603 12 - 1))) 10 0 0) := fun Q => y353 C1
  refine ⟨_, C1, by rw [← hk2]; exact U2.trans C2, by rw [C4, U3, hk2], by rw [C3, U3, hk2], fun Q => ?_⟩
  rw [q353_5]
  simp (implicitDefEqProofs := false) (disch := omega) only [b353_5, q353_5, x_aload0, y_call333, y_call347, y_call350, x_dup0, x_dup3, x_gf_11360, x_goto_4, x_iconst, x_isub, x_pf_11360, x_pop0, x_pop3, klp_0, klp_1, klp_2, klp_3, klp_9, KC_0, KC_1, KC_2, KC_3, KC_4, ne_eq, not_false_eq_true, not_true_eq_false, true_and, and_true, and_self, implies_true, eq_self, true_imp_iff, false_implies, Int.reduceEq, Int.reduceNe, Int.reduceMod, Int.reduceMul, Int.reduceAdd, Int.reduceSub, Int.reduceLT, Int.reduceLE, Nat.reduceAdd, Nat.reduceLeDiff, Nat.reduceLT, Nat.reduceSub, reduceIte, wds_n, wds_0, wds_1, wds_2, wds_3, or_true, true_or, or_false, false_or, or_self, false_and, and_false, d_pos, d_s1, d_s2, d_s3, d_s4, d_s5, d_s6, d_s7, d_s8, Classical.not_not, sx, s2, cd, ex, hs_ne, hcell, hcel1, d_s9, d_s10, d_s11, d_s12, d_s13, d_s14, d_s15, d_s16, d_s17, d_s18, d_s19, d_s20, d_s21, d_s22, d_s23, d_s24, d_s25, d_s26, d_s27, d_s28, d_s29, d_s30, le_sub1, le_T, le_F, lt_T, lt_F, eq_F, w32_T, bz0, bz1, lc_le, lc_ge, lc_lt, lc_gt, lc_eq]
/-- the round of [ ] -/
theorem lp89 {dep : Int} {B e e2 : Nat} (he : B ≤ e + 10) (he2 : B ≤ e2 + 11) (O : dep < 12 → EXPQ tp t T S (dep + 1) B) (hd2 : 0 ≤ dep ∧ dep ≤ 12) : ∀ (m : Nat) (n : Int) (s : Int) (h hr : HV), n + m = 30 → 0 ≤ n → n + 1 ≤ h 258 3 → GD 1 tp t T S s h hr → hr 6603 12 = dep ∧ 1 ≤ h 258 11 ∧ h 258 11 ≤ dep + 1 → ∃ g gr, (∀ Q, G fz1 (e + 12) 89 4 [(3, 258), (0, dep), (0, n)] [] h Q = Q 0 g) ∧ (∀ Q, G fz1 (e2 + 12) 353 4 [(3, 6603)] [] hr Q = Q 0 gr) ∧ OUTC 1 tp t T S s h hr g gr 0 1
  | 0, n, s, h, hr, hm, h0, hn, D, hd => by
    have N := D.nb
    unfold NBR STQ at N
    omega
  | m + 1, n, s, h, hr, hm, h0, hn, D, hd => by
    have F := D.f
    have N := D.nb
    have S0 := D.sb
    have hT := D.2.1.1.1
    have kT := kTC D.2.1.1.1
    have kS := kTR D.2.1.2.1
    unfold NBR STQ at N
    by_cases w : sgP tp t s 91
    · have q0 : ∀ (d : Nat) Q, Sp fz1 d 325 [(3, 6603)] hr Q = Q 1 hr := fun d Q => v325g D
      have i1 : ∀ (d : Nat) Q, Sp fz1 d 334 [(3, 6603), (0, 91)] hr Q = Q 1 hr := fun d Q => v334y D w
      have i2 : ∀ (d : Nat) Q, Sp fz1 d 59 [(3, 129), (0, 91)] h Q = Q 1 h := fun d Q => c59y D (by decide) w
      obtain ⟨g1, gr1, f1, X⟩ := D.node (e + 9) (e2 + 10)
      rcases X with ⟨e1, X1, X2, X3, X4, X5⟩ | ⟨⟨k0, e1, e1p⟩, X1, X2, X3, X4, X5⟩
      · have X2' := X2
        have X3' := X3
        unfold NC at X2'
        unfold NR at X3'
        have D1 := X1.2.1
        have n1 := D1.nb
        unfold NBR STQ at n1
        by_cases z : dep < 12
        · obtain ⟨V1, V2, V3⟩ := D1.d12 (x := dep + 1)
          have V2' := V2
          unfold NR at V2'
          have dp : ∀ Q, Sp fz1 (e2 + 11) 344 [(3, 6603)] gr1 Q = Q 0 (hset gr1 6603 12 (dep + 1)) := fun Q => by rw [v344g (by omega) (by omega), show gr1 6603 12 = dep by omega]
          have q1 : ∀ (d : Nat) Q, Sp fz1 d 325 [(3, 6603)] (hset gr1 6603 12 (dep + 1)) Q = Q 1 (hset gr1 6603 12 (dep + 1)) := fun d Q => v325g V1.2.1
          obtain ⟨g2, gr2, Y1, Y2, -, -, Y3, Y4, -, -, e3, f3⟩ := V1.2.1.nx (e + 1) (e2 + 9)
          have Y3' := Y3
          have Y4' := Y4
          unfold NC at Y3'
          unfold NR at Y4'
          have op : ∀ Q, Sp fz1 (e + 10) 79 [(3, 258), (0, 91), (0, dep)] g1 Q = Q 0 g2 := fun Q => c79g D1 (by decide) w z e3
          have D2 := Y1.2.1
          have n2 := D2.nb
          unfold NBR STQ at n2
          have st41 : ∀ Q, Sp fz1 (e + 10) 41 [(3, 258)] g2 Q = Q 1 g2 := fun Q => c41g D2
          have Z := X1.trans (V1.trans Y1)
          have R0 : ∀ Q, G fz1 (e2 + 12) 353 4 [(3, 6603)] [] hr Q = G fz1 (e2 + 12) 353 5 [(3, 6603)] [] gr2 Q := fun Q => by
            rw [q353_4]
            simp (implicitDefEqProofs := false) (disch := omega) only [b353_4, x_aload0, y_call321, y_call325, y_call334, y_call344, y_call346, x_goto_5, x_iconst, x_ifCond_eq_5, x_ifCond_eq_6, klp_0, klp_1, klp_2, klp_3, klp_9, KC_0, KC_1, KC_2, KC_3, KC_4, ne_eq, not_false_eq_true, not_true_eq_false, true_and, and_true, and_self, implies_true, eq_self, true_imp_iff, false_implies, Int.reduceEq, Int.reduceNe, Int.reduceMod, Int.reduceMul, Int.reduceAdd, Int.reduceSub, Int.reduceLT, Int.reduceLE, Nat.reduceAdd, Nat.reduceLeDiff, Nat.reduceLT, Nat.reduceSub, reduceIte, wds_n, wds_0, wds_1, wds_2, wds_3, or_true, true_or, or_false, false_or, or_self, false_and, and_false, d_pos, d_s1, d_s2, d_s3, d_s4, d_s5, d_s6, d_s7, d_s8, Classical.not_not, q0, i1, f1, dp, q1, f3, hs_ne, hcell, hcel1, d_s9, d_s10, d_s11, d_s12, d_s13, d_s14, d_s15, d_s16, d_s17, d_s18, d_s19, d_s20, d_s21, d_s22, d_s23, d_s24, d_s25, d_s26, d_s27, d_s28, d_s29, d_s30, le_sub1, le_T, le_F, lt_T, lt_F, eq_F, w32_T, bz0, bz1, lc_le, lc_ge, lc_lt, lc_gt, lc_eq]
          obtain ⟨k, kr, e5, f5, V⟩ := O z (e + 10) (e2 + 11) _ g2 gr2 he he2 D2 (by omega)
          rcases V with ⟨s3, A1, A2, A3, A4, A5⟩ | V
          · have A3' := A3
            unfold DXP at A3'
            have D3 := A1.2.1
            have n3 := D3.nb
            unfold NBR STQ at n3
            obtain ⟨j, jr, e6, f6, W⟩ := D3.sign (c := 93) (by decide) (e + 1) (e2 + 8)
            have inn : ∀ Q, Sp fz1 (e + 11) 92 [(3, 258), (0, 91), (0, 93), (0, dep)] g1 Q = Q 0 j := fun Q => by
              simp (implicitDefEqProofs := false) (disch := omega) only [sp92, b92_0, b92_1, q92_1, x_aload0, y_call41, y_call58, y_call79, y_call86, x_goto_1, x_iadd, x_iconst, x_ifCond_eq_1, x_iload1, x_iload2, x_iload3, x_return, klp_0, klp_1, klp_2, klp_3, klp_9, KC_0, KC_1, KC_2, KC_3, KC_4, ne_eq, not_false_eq_true, not_true_eq_false, true_and, and_true, and_self, implies_true, eq_self, true_imp_iff, false_implies, Int.reduceEq, Int.reduceNe, Int.reduceMod, Int.reduceMul, Int.reduceAdd, Int.reduceSub, Int.reduceLT, Int.reduceLE, Nat.reduceAdd, Nat.reduceLeDiff, Nat.reduceLT, Nat.reduceSub, reduceIte, wds_n, wds_0, wds_1, wds_2, wds_3, or_true, true_or, or_false, false_or, or_self, false_and, and_false, d_pos, d_s1, d_s2, d_s3, d_s4, d_s5, d_s6, d_s7, d_s8, Classical.not_not, op, st41, e5, e6, d_s9, d_s10, d_s11, d_s12, d_s13, d_s14, d_s15, d_s16, d_s17, d_s18, d_s19, d_s20, d_s21, d_s22, d_s23, d_s24, d_s25, d_s26, d_s27, d_s28, d_s29, d_s30, le_sub1, le_T, le_F, lt_T, lt_F, eq_F, w32_T, bz0, bz1, lc_le, lc_ge, lc_lt, lc_gt, lc_eq]
            rcases W with ⟨-, s4, W1, W2, W3, W4⟩ | ⟨-, W1, W2, W3, W4, W5, W6, W7⟩
            · have W3' := W3
              have W4' := W4
              unfold NC at W3'
              unfold NR at W4'
              obtain ⟨U1, U2, U3⟩ := W2.2.1.d12 (x := dep)
              have U2' := U2
              unfold NR at U2'
              have D4 := U1.2.1
              have sb4 := D4.sb
              have q34 := A1.1
              have q23 := Z.1
              obtain ⟨H1, H2, H3, H4⟩ := D4.st1 (p := 11) (q := 10) (a := 0) (b := 0) (by omega) (by omega) (by decide)
              have H2' := H2
              have H3' := H3
              unfold NC at H2'
              unfold NR at H3'
              have em : ∀ Q, Sp fz1 (e + 11) 82 [(3, T), (0, 11)] j Q = Q 0 (emH T j 11) := fun Q => q82 hT (by omega)
              have hp := D4.2.1.1.2
              have sb12 : jr 6603 12 - 1 = dep := by omega
              have cd : ∀ Q, Sp fz1 (e2 + 11) 347 [(3, 6603), (0, 10), (0, 0), (0, 0)] (hset jr 6603 12 dep) Q = Q (hset jr 6603 12 dep S 15) (cdR S (hset jr 6603 12 dep) 10 0 0) := fun Q => v347 D4.2.1.2.1 D4.2.1.2.2 (by omega)
              obtain ⟨f', fr', e8, f8, R⟩ := lp89 he he2 O hd2 m (n + 1) _ _ _ (by omega) (by omega) (by omega) H1.2.1 (by omega)
              refine ⟨f', fr', fun Q => ?_, fun Q => ?_, ?_⟩
              · rw [q89_4]
                simp (implicitDefEqProofs := false) (disch := omega) only [b89_4, b89_5, q89_5, x_aload0, y_call28, y_call59, y_call82, y_call90, y_call92, x_gc_2051, x_gf_2059, x_goto_4, x_goto_5, x_iconst, x_ifCond_eq_6, x_ifCond_ne_5, x_if_icmp_ge_6, x_iinc2, x_iload1, x_iload2, klp_0, klp_1, klp_2, klp_3, klp_9, KC_0, KC_1, KC_2, KC_3, KC_4, ne_eq, not_false_eq_true, not_true_eq_false, true_and, and_true, and_self, implies_true, eq_self, true_imp_iff, false_implies, Int.reduceEq, Int.reduceNe, Int.reduceMod, Int.reduceMul, Int.reduceAdd, Int.reduceSub, Int.reduceLT, Int.reduceLE, Nat.reduceAdd, Nat.reduceLeDiff, Nat.reduceLT, Nat.reduceSub, reduceIte, wds_n, wds_0, wds_1, wds_2, wds_3, or_true, true_or, or_false, false_or, or_self, false_and, and_false, d_pos, d_s1, d_s2, d_s3, d_s4, d_s5, d_s6, d_s7, d_s8, Classical.not_not, z258_0, TC_0 hT, TC_k hT, i2, e1, inn, hp, em, e8, d_s9, d_s10, d_s11, d_s12, d_s13, d_s14, d_s15, d_s16, d_s17, d_s18, d_s19, d_s20, d_s21, d_s22, d_s23, d_s24, d_s25, d_s26, d_s27, d_s28, d_s29, d_s30, le_sub1, le_T, le_F, lt_T, lt_F, eq_F, w32_T, bz0, bz1, lc_le, lc_ge, lc_lt, lc_gt, lc_eq]
              · rw [R0, q353_5]
                simp (implicitDefEqProofs := false) (disch := omega) only [b353_5, q353_5, x_aload0, y_call333, y_call347, y_call350, x_dup0, x_dup3, x_gf_11360, x_goto_4, x_iconst, x_isub, x_pf_11360, x_pop0, x_pop3, klp_0, klp_1, klp_2, klp_3, klp_9, KC_0, KC_1, KC_2, KC_3, KC_4, ne_eq, not_false_eq_true, not_true_eq_false, true_and, and_true, and_self, implies_true, eq_self, true_imp_iff, false_implies, Int.reduceEq, Int.reduceNe, Int.reduceMod, Int.reduceMul, Int.reduceAdd, Int.reduceSub, Int.reduceLT, Int.reduceLE, Nat.reduceAdd, Nat.reduceLeDiff, Nat.reduceLT, Nat.reduceSub, reduceIte, wds_n, wds_0, wds_1, wds_2, wds_3, or_true, true_or, or_false, false_or, or_self, false_and, and_false, d_pos, d_s1, d_s2, d_s3, d_s4, d_s5, d_s6, d_s7, d_s8, Classical.not_not, f5, f6, sb12, cd, f8, hs_ne, hcell, hcel1, d_s9, d_s10, d_s11, d_s12, d_s13, d_s14, d_s15, d_s16, d_s17, d_s18, d_s19, d_s20, d_s21, d_s22, d_s23, d_s24, d_s25, d_s26, d_s27, d_s28, d_s29, d_s30, le_sub1, le_T, le_F, lt_T, lt_F, eq_F, w32_T, bz0, bz1, lc_le, lc_ge, lc_lt, lc_gt, lc_eq]
              · have GA := ((((Z.trans A1).trans W2).trans U1).trans H1)
                have WU := (W2.trans U1).trans H1
                refine OUTC.seq GA (((NVR.same (gr := gr2) (show g2 258 6 = h 258 6 by omega)).trans A1.2.2.1.1 A1.2.2.2.1 A2).trans WU.2.2.1.1 WU.2.2.2.1 (NVR.same (by omega))) (by unfold DXP; omega) D.nb (gg1 := 0) (lo1 := 1) (fun K V CL A => ?_) R (by omega) (by omega) (by omega) (by omega) rfl
                have B1 := A.sub (h := k) (hr := kr) (by omega) (WU.2.2.1.1.lo (c2 := h T 17) (by omega)) (WU.2.2.2.1.lo (r2 := hr S 15) (t2 := hr S 22) (by omega) (by omega)) (Int.le_refl _) (Int.le_refl _) (Int.le_refl _)
                have P1 := A5 K V CL (B1.lo (by omega) (by omega) (by omega))
                obtain ⟨u1, u2, -⟩ := H4 K V CL _ _ _ A (by omega) (by omega)
                have P2 := e_ITEM (K := K) (V := V) (CL := CL) (c := j T 17) (r := hset jr 6603 12 dep S 15) (by omega) (by omega) u1 u2
                rw [show g2 T 17 = h T 17 by omega, show gr2 S 15 = hr S 15 by omega, show k T 17 = j T 17 by omega, show kr S 15 = hset jr 6603 12 dep S 15 by omega] at P1
                have P3 := P1.seq (lo := 1) (g := 0) (m := cdR S (hset jr 6603 12 dep) 10 0 0 S 15 - hr S 15) (w := cdR S (hset jr 6603 12 dep) 10 0 0 S 15 - hr S 15) P2 (by omega) (by omega) (by omega) (by omega) (by omega) (by omega) (by omega) (by omega) (by omega)
                rw [show j T 17 + 1 = emH T j 11 T 17 by omega, show hset jr 6603 12 dep S 15 + 1 = cdR S (hset jr 6603 12 dep) 10 0 0 S 15 by omega] at P3
                exact P3
            · obtain ⟨B8, F8⟩ := W1.em (x := 11)
              have em : ∀ Q, Sp fz1 (e + 11) 82 [(3, T), (0, 11)] j Q = Q 0 (emH T j 11) := fun Q => q82 hT W1.2.2.2.1.1
              have hp := W1.1.2
              have ex : ∀ Q, G fz1 (e + 12) 89 4 [(3, 258), (0, dep), (0, n + 1)] [] (emH T j 11) Q = Q 0 (emH T j 11) := fun Q => x89 B8 (by omega)
              obtain ⟨U1, U2, U3, U4⟩ := W2.d12 (x := dep)
              have u14 : hset jr 6603 12 dep S 14 = jr S 14 := by rw [U3]
              have u15 : hset jr 6603 12 dep S 15 = jr S 15 := by rw [U3]
              obtain ⟨C1, C2, C3, C4, C5⟩ := U1.cd (p := 10) (a := 0) (b := 0) (by omega)
              have b6 := U1.2.2.2
              have sb12 : jr 6603 12 - 1 = dep := by omega
              have cd : ∀ Q, Sp fz1 (e2 + 11) 347 [(3, 6603), (0, 10), (0, 0), (0, 0)] (hset jr 6603 12 dep) Q = Q (hset jr 6603 12 dep S 15) (cdR S (hset jr 6603 12 dep) 10 0 0) := fun Q => v347 U1.1.1 U1.1.2 (by omega)
              have fx : ∀ Q, G fz1 (e2 + 12) 353 4 [(3, 6603)] [] (cdR S (hset jr 6603 12 dep) 10 0 0) Q = Q 0 (cdR S (hset jr 6603 12 dep) 10 0 0) := fun Q => y353 C1
              refine ⟨emH T j 11, cdR S (hset jr 6603 12 dep) 10 0 0, fun Q => ?_, fun Q => ?_, .inr ⟨⟨_, B8, C1⟩, (Z.trans A1).2.2.1.2.trans (W3.trans F8), (Z.trans A1).2.2.2.2.trans (W4.trans (U2.trans C2)), by omega, by omega, by omega⟩⟩
              · rw [q89_4]
                simp (implicitDefEqProofs := false) (disch := omega) only [b89_4, b89_5, q89_5, x_aload0, y_call28, y_call59, y_call82, y_call90, y_call92, x_gc_2051, x_gf_2059, x_goto_4, x_goto_5, x_iconst, x_ifCond_eq_6, x_ifCond_ne_5, x_if_icmp_ge_6, x_iinc2, x_iload1, x_iload2, klp_0, klp_1, klp_2, klp_3, klp_9, KC_0, KC_1, KC_2, KC_3, KC_4, ne_eq, not_false_eq_true, not_true_eq_false, true_and, and_true, and_self, implies_true, eq_self, true_imp_iff, false_implies, Int.reduceEq, Int.reduceNe, Int.reduceMod, Int.reduceMul, Int.reduceAdd, Int.reduceSub, Int.reduceLT, Int.reduceLE, Nat.reduceAdd, Nat.reduceLeDiff, Nat.reduceLT, Nat.reduceSub, reduceIte, wds_n, wds_0, wds_1, wds_2, wds_3, or_true, true_or, or_false, false_or, or_self, false_and, and_false, d_pos, d_s1, d_s2, d_s3, d_s4, d_s5, d_s6, d_s7, d_s8, Classical.not_not, z258_0, TC_0 hT, TC_k hT, i2, e1, inn, hp, em, ex, d_s9, d_s10, d_s11, d_s12, d_s13, d_s14, d_s15, d_s16, d_s17, d_s18, d_s19, d_s20, d_s21, d_s22, d_s23, d_s24, d_s25, d_s26, d_s27, d_s28, d_s29, d_s30, le_sub1, le_T, le_F, lt_T, lt_F, eq_F, w32_T, bz0, bz1, lc_le, lc_ge, lc_lt, lc_gt, lc_eq]
              · rw [R0, q353_5]
                simp (implicitDefEqProofs := false) (disch := omega) only [b353_5, q353_5, x_aload0, y_call333, y_call347, y_call350, x_dup0, x_dup3, x_gf_11360, x_goto_4, x_iconst, x_isub, x_pf_11360, x_pop0, x_pop3, klp_0, klp_1, klp_2, klp_3, klp_9, KC_0, KC_1, KC_2, KC_3, KC_4, ne_eq, not_false_eq_true, not_true_eq_false, true_and, and_true, and_self, implies_true, eq_self, true_imp_iff, false_implies, Int.reduceEq, Int.reduceNe, Int.reduceMod, Int.reduceMul, Int.reduceAdd, Int.reduceSub, Int.reduceLT, Int.reduceLE, Nat.reduceAdd, Nat.reduceLeDiff, Nat.reduceLT, Nat.reduceSub, reduceIte, wds_n, wds_0, wds_1, wds_2, wds_3, or_true, true_or, or_false, false_or, or_self, false_and, and_false, d_pos, d_s1, d_s2, d_s3, d_s4, d_s5, d_s6, d_s7, d_s8, Classical.not_not, f5, f6, sb12, cd, fx, hs_ne, hcell, hcel1, d_s9, d_s10, d_s11, d_s12, d_s13, d_s14, d_s15, d_s16, d_s17, d_s18, d_s19, d_s20, d_s21, d_s22, d_s23, d_s24, d_s25, d_s26, d_s27, d_s28, d_s29, d_s30, le_sub1, le_T, le_F, lt_T, lt_F, eq_F, w32_T, bz0, bz1, lc_le, lc_ge, lc_lt, lc_gt, lc_eq]
          · obtain ⟨⟨f, B1, B2⟩, F1', F2', b3, b4, b5⟩ := V
            have b58' : ∀ Q, Sp fz1 (e + 10) 58 [(3, 258), (0, 93)] k Q = Q 0 k := fun Q => b58 B1
            have inn : ∀ Q, Sp fz1 (e + 11) 92 [(3, 258), (0, 91), (0, 93), (0, dep)] g1 Q = Q 0 k := fun Q => by
              simp (implicitDefEqProofs := false) (disch := omega) only [sp92, b92_0, b92_1, q92_1, x_aload0, y_call41, y_call58, y_call79, y_call86, x_goto_1, x_iadd, x_iconst, x_ifCond_eq_1, x_iload1, x_iload2, x_iload3, x_return, klp_0, klp_1, klp_2, klp_3, klp_9, KC_0, KC_1, KC_2, KC_3, KC_4, ne_eq, not_false_eq_true, not_true_eq_false, true_and, and_true, and_self, implies_true, eq_self, true_imp_iff, false_implies, Int.reduceEq, Int.reduceNe, Int.reduceMod, Int.reduceMul, Int.reduceAdd, Int.reduceSub, Int.reduceLT, Int.reduceLE, Nat.reduceAdd, Nat.reduceLeDiff, Nat.reduceLT, Nat.reduceSub, reduceIte, wds_n, wds_0, wds_1, wds_2, wds_3, or_true, true_or, or_false, false_or, or_self, false_and, and_false, d_pos, d_s1, d_s2, d_s3, d_s4, d_s5, d_s6, d_s7, d_s8, Classical.not_not, op, st41, e5, b58', d_s9, d_s10, d_s11, d_s12, d_s13, d_s14, d_s15, d_s16, d_s17, d_s18, d_s19, d_s20, d_s21, d_s22, d_s23, d_s24, d_s25, d_s26, d_s27, d_s28, d_s29, d_s30, le_sub1, le_T, le_F, lt_T, lt_F, eq_F, w32_T, bz0, bz1, lc_le, lc_ge, lc_lt, lc_gt, lc_eq]
            obtain ⟨B8, F8⟩ := B1.em (x := 11)
            have em : ∀ Q, Sp fz1 (e + 11) 82 [(3, T), (0, 11)] k Q = Q 0 (emH T k 11) := fun Q => q82 hT B1.2.2.2.1.1
            have hp := B1.1.2
            have ex : ∀ Q, G fz1 (e + 12) 89 4 [(3, 258), (0, dep), (0, n + 1)] [] (emH T k 11) Q = Q 0 (emH T k 11) := fun Q => x89 B8 (by omega)
            obtain ⟨U1, U2, U3, U4⟩ := B2.d12 (x := w32 (kr 6603 12 - 1))
            have u14 : hset kr 6603 12 (w32 (kr 6603 12 - 1)) S 14 = kr S 14 := by rw [U3]
            have u15 : hset kr 6603 12 (w32 (kr 6603 12 - 1)) S 15 = kr S 15 := by rw [U3]
            obtain ⟨C1, C2, C3, C4, C5⟩ := U1.cd (p := 10) (a := 0) (b := 0) (by omega)
            have b6 := U1.2.2.2
            have r7 : 0 ≤ kr 6603 7 := by have := B2.2.1; omega
            obtain ⟨k2, hk2⟩ : ∃ k2, k2 = kr := ⟨_, rfl⟩
            have s2 : ∀ Q, Sp fz1 (e2 + 11) 333 [(3, 6603), (0, 93)] kr Q = Q 0 k2 := fun Q => by rw [hk2]; exact v333b r7
            have cd : ∀ Q, Sp fz1 (e2 + 11) 347 [(3, 6603), (0, 10), (0, 0), (0, 0)] (hset k2 6603 12 (w32 (k2 6603 12 - 1))) Q = Q (hset kr 6603 12 (w32 (kr 6603 12 - 1)) S 15) (cdR S (hset kr 6603 12 (w32 (kr 6603 12 - 1))) 10 0 0) := fun Q => by rw [hk2]; exact v347 U1.1.1 U1.1.2 (by omega)
            have fx : ∀ Q, G fz1 (e2 + 12) 353 4 [(3, 6603)] [] (cdR S (hset kr 6603 12 (w32 (kr 6603 12 - 1))) 10 0 0) Q = Q 0 (cdR S (hset kr 6603 12 (w32 (kr 6603 12 - 1))) 10 0 0) := fun Q => y353 C1
            refine ⟨emH T k 11, cdR S (hset kr 6603 12 (w32 (kr 6603 12 - 1))) 10 0 0, fun Q => ?_, fun Q => ?_, .inr ⟨⟨_, B8, C1⟩, Z.2.2.1.2.trans (F1'.trans F8), Z.2.2.2.2.trans (F2'.trans (U2.trans C2)), by omega, by omega, by omega⟩⟩
            · rw [q89_4]
              simp (implicitDefEqProofs := false) (disch := omega) only [b89_4, b89_5, q89_5, x_aload0, y_call28, y_call59, y_call82, y_call90, y_call92, x_gc_2051, x_gf_2059, x_goto_4, x_goto_5, x_iconst, x_ifCond_eq_6, x_ifCond_ne_5, x_if_icmp_ge_6, x_iinc2, x_iload1, x_iload2, klp_0, klp_1, klp_2, klp_3, klp_9, KC_0, KC_1, KC_2, KC_3, KC_4, ne_eq, not_false_eq_true, not_true_eq_false, true_and, and_true, and_self, implies_true, eq_self, true_imp_iff, false_implies, Int.reduceEq, Int.reduceNe, Int.reduceMod, Int.reduceMul, Int.reduceAdd, Int.reduceSub, Int.reduceLT, Int.reduceLE, Nat.reduceAdd, Nat.reduceLeDiff, Nat.reduceLT, Nat.reduceSub, reduceIte, wds_n, wds_0, wds_1, wds_2, wds_3, or_true, true_or, or_false, false_or, or_self, false_and, and_false, d_pos, d_s1, d_s2, d_s3, d_s4, d_s5, d_s6, d_s7, d_s8, Classical.not_not, z258_0, TC_0 hT, TC_k hT, i2, e1, inn, hp, em, ex, d_s9, d_s10, d_s11, d_s12, d_s13, d_s14, d_s15, d_s16, d_s17, d_s18, d_s19, d_s20, d_s21, d_s22, d_s23, d_s24, d_s25, d_s26, d_s27, d_s28, d_s29, d_s30, le_sub1, le_T, le_F, lt_T, lt_F, eq_F, w32_T, bz0, bz1, lc_le, lc_ge, lc_lt, lc_gt, lc_eq]
            · rw [R0, q353_5]
              simp (implicitDefEqProofs := false) (disch := omega) only [b353_5, q353_5, x_aload0, y_call333, y_call347, y_call350, x_dup0, x_dup3, x_gf_11360, x_goto_4, x_iconst, x_isub, x_pf_11360, x_pop0, x_pop3, klp_0, klp_1, klp_2, klp_3, klp_9, KC_0, KC_1, KC_2, KC_3, KC_4, ne_eq, not_false_eq_true, not_true_eq_false, true_and, and_true, and_self, implies_true, eq_self, true_imp_iff, false_implies, Int.reduceEq, Int.reduceNe, Int.reduceMod, Int.reduceMul, Int.reduceAdd, Int.reduceSub, Int.reduceLT, Int.reduceLE, Nat.reduceAdd, Nat.reduceLeDiff, Nat.reduceLT, Nat.reduceSub, reduceIte, wds_n, wds_0, wds_1, wds_2, wds_3, or_true, true_or, or_false, false_or, or_self, false_and, and_false, d_pos, d_s1, d_s2, d_s3, d_s4, d_s5, d_s6, d_s7, d_s8, Classical.not_not, f5, s2, cd, fx, hs_ne, hcell, hcel1, d_s9, d_s10, d_s11, d_s12, d_s13, d_s14, d_s15, d_s16, d_s17, d_s18, d_s19, d_s20, d_s21, d_s22, d_s23, d_s24, d_s25, d_s26, d_s27, d_s28, d_s29, d_s30, le_sub1, le_T, le_F, lt_T, lt_F, eq_F, w32_T, bz0, bz1, lc_le, lc_ge, lc_lt, lc_gt, lc_eq]
        · obtain ⟨B1, B2, B3, B4, B5, B6, B7⟩ := D1.bad0
          obtain ⟨U1, U2, U3, U4⟩ := B2.d12 (x := 13)
          have op : ∀ Q, Sp fz1 (e + 10) 79 [(3, 258), (0, 91), (0, dep)] g1 Q = Q 0 (bdH g1) := fun Q => c79f D1 (by decide) (fun u => z u.1)
          have st41 : ∀ Q, Sp fz1 (e + 10) 41 [(3, 258)] (bdH g1) Q = Q 0 (bdH g1) := fun Q => b41 B1
          have b58' : ∀ Q, Sp fz1 (e + 10) 58 [(3, 258), (0, 93)] (bdH g1) Q = Q 0 (bdH g1) := fun Q => b58 B1
          have inn : ∀ Q, Sp fz1 (e + 11) 92 [(3, 258), (0, 91), (0, 93), (0, dep)] g1 Q = Q 0 (bdH g1) := fun Q => by
            simp (implicitDefEqProofs := false) (disch := omega) only [sp92, b92_0, b92_1, q92_1, x_aload0, y_call41, y_call58, y_call79, y_call86, x_goto_1, x_iadd, x_iconst, x_ifCond_eq_1, x_iload1, x_iload2, x_iload3, x_return, klp_0, klp_1, klp_2, klp_3, klp_9, KC_0, KC_1, KC_2, KC_3, KC_4, ne_eq, not_false_eq_true, not_true_eq_false, true_and, and_true, and_self, implies_true, eq_self, true_imp_iff, false_implies, Int.reduceEq, Int.reduceNe, Int.reduceMod, Int.reduceMul, Int.reduceAdd, Int.reduceSub, Int.reduceLT, Int.reduceLE, Nat.reduceAdd, Nat.reduceLeDiff, Nat.reduceLT, Nat.reduceSub, reduceIte, wds_n, wds_0, wds_1, wds_2, wds_3, or_true, true_or, or_false, false_or, or_self, false_and, and_false, d_pos, d_s1, d_s2, d_s3, d_s4, d_s5, d_s6, d_s7, d_s8, Classical.not_not, op, st41, b58', d_s9, d_s10, d_s11, d_s12, d_s13, d_s14, d_s15, d_s16, d_s17, d_s18, d_s19, d_s20, d_s21, d_s22, d_s23, d_s24, d_s25, d_s26, d_s27, d_s28, d_s29, d_s30, le_sub1, le_T, le_F, lt_T, lt_F, eq_F, w32_T, bz0, bz1, lc_le, lc_ge, lc_lt, lc_gt, lc_eq]
          obtain ⟨B8, F8⟩ := B1.em (x := 11)
          have em : ∀ Q, Sp fz1 (e + 11) 82 [(3, T), (0, 11)] (bdH g1) Q = Q 0 (emH T (bdH g1) 11) := fun Q => q82 hT B1.2.2.2.1.1
          have hp := B1.1.2
          have ex : ∀ Q, G fz1 (e + 12) 89 4 [(3, 258), (0, dep), (0, n + 1)] [] (emH T (bdH g1) 11) Q = Q 0 (emH T (bdH g1) 11) := fun Q => x89 B8 (by omega)
          have dp : ∀ Q, Sp fz1 (e2 + 11) 344 [(3, 6603)] gr1 Q = Q 0 (hset (bdR gr1) 6603 12 13) := fun Q => v344x (by omega) (by omega)
          have u14 : hset (bdR gr1) 6603 12 13 S 14 = gr1 S 14 := by rw [U3]; exact B5
          have u15 : hset (bdR gr1) 6603 12 13 S 15 = gr1 S 15 := by rw [U3]; exact B6
          have FR := B4.trans U2
          generalize hset (bdR gr1) 6603 12 13 = k1 at *
          have q1 : ∀ (d : Nat) Q, Sp fz1 d 325 [(3, 6603)] k1 Q = Q 0 k1 := fun d Q => v325x U1
          obtain ⟨r9, H1, H2, H3, H4, H5⟩ := z353 (e2 := e2) U1 (by omega)
          refine ⟨emH T (bdH g1) 11, r9, fun Q => ?_, fun Q => ?_, .inr ⟨⟨_, B8, H1⟩, X1.2.2.1.2.trans (B3.trans F8), X1.2.2.2.2.trans (FR.trans H2), by omega, by omega, by omega⟩⟩
          · rw [q89_4]
            simp (implicitDefEqProofs := false) (disch := omega) only [b89_4, b89_5, q89_5, x_aload0, y_call28, y_call59, y_call82, y_call90, y_call92, x_gc_2051, x_gf_2059, x_goto_4, x_goto_5, x_iconst, x_ifCond_eq_6, x_ifCond_ne_5, x_if_icmp_ge_6, x_iinc2, x_iload1, x_iload2, klp_0, klp_1, klp_2, klp_3, klp_9, KC_0, KC_1, KC_2, KC_3, KC_4, ne_eq, not_false_eq_true, not_true_eq_false, true_and, and_true, and_self, implies_true, eq_self, true_imp_iff, false_implies, Int.reduceEq, Int.reduceNe, Int.reduceMod, Int.reduceMul, Int.reduceAdd, Int.reduceSub, Int.reduceLT, Int.reduceLE, Nat.reduceAdd, Nat.reduceLeDiff, Nat.reduceLT, Nat.reduceSub, reduceIte, wds_n, wds_0, wds_1, wds_2, wds_3, or_true, true_or, or_false, false_or, or_self, false_and, and_false, d_pos, d_s1, d_s2, d_s3, d_s4, d_s5, d_s6, d_s7, d_s8, Classical.not_not, z258_0, TC_0 hT, TC_k hT, i2, e1, inn, hp, em, ex, d_s9, d_s10, d_s11, d_s12, d_s13, d_s14, d_s15, d_s16, d_s17, d_s18, d_s19, d_s20, d_s21, d_s22, d_s23, d_s24, d_s25, d_s26, d_s27, d_s28, d_s29, d_s30, le_sub1, le_T, le_F, lt_T, lt_F, eq_F, w32_T, bz0, bz1, lc_le, lc_ge, lc_lt, lc_gt, lc_eq]
          · rw [← H5 Q, q353_4]
            simp (implicitDefEqProofs := false) (disch := omega) only [b353_4, x_aload0, y_call321, y_call325, y_call334, y_call344, y_call346, x_goto_5, x_iconst, x_ifCond_eq_5, x_ifCond_eq_6, klp_0, klp_1, klp_2, klp_3, klp_9, KC_0, KC_1, KC_2, KC_3, KC_4, ne_eq, not_false_eq_true, not_true_eq_false, true_and, and_true, and_self, implies_true, eq_self, true_imp_iff, false_implies, Int.reduceEq, Int.reduceNe, Int.reduceMod, Int.reduceMul, Int.reduceAdd, Int.reduceSub, Int.reduceLT, Int.reduceLE, Nat.reduceAdd, Nat.reduceLeDiff, Nat.reduceLT, Nat.reduceSub, reduceIte, wds_n, wds_0, wds_1, wds_2, wds_3, or_true, true_or, or_false, false_or, or_self, false_and, and_false, d_pos, d_s1, d_s2, d_s3, d_s4, d_s5, d_s6, d_s7, d_s8, Classical.not_not, q0, i1, f1, dp, q1, hs_ne, hcell, hcel1, d_s9, d_s10, d_s11, d_s12, d_s13, d_s14, d_s15, d_s16, d_s17, d_s18, d_s19, d_s20, d_s21, d_s22, d_s23, d_s24, d_s25, d_s26, d_s27, d_s28, d_s29, d_s30, le_sub1, le_T, le_F, lt_T, lt_F, eq_F, w32_T, bz0, bz1, lc_le, lc_ge, lc_lt, lc_gt, lc_eq]
      · have inn : ∀ Q, Sp fz1 (e + 11) 92 [(3, 258), (0, 91), (0, 93), (0, dep)] g1 Q = Q 0 g1 := fun Q => by
          have a1 : ∀ Q, Sp fz1 (e + 10) 79 [(3, 258), (0, 91), (0, dep)] g1 Q = Q 0 g1 := fun Q => b79 X1
          have a2 : ∀ Q, Sp fz1 (e + 10) 41 [(3, 258)] g1 Q = Q 0 g1 := fun Q => b41 X1
          have a3 : ∀ Q, Sp fz1 (e + 10) 58 [(3, 258), (0, 93)] g1 Q = Q 0 g1 := fun Q => b58 X1
          simp (implicitDefEqProofs := false) (disch := omega) only [sp92, b92_0, b92_1, q92_1, x_aload0, y_call41, y_call58, y_call79, y_call86, x_goto_1, x_iadd, x_iconst, x_ifCond_eq_1, x_iload1, x_iload2, x_iload3, x_return, klp_0, klp_1, klp_2, klp_3, klp_9, KC_0, KC_1, KC_2, KC_3, KC_4, ne_eq, not_false_eq_true, not_true_eq_false, true_and, and_true, and_self, implies_true, eq_self, true_imp_iff, false_implies, Int.reduceEq, Int.reduceNe, Int.reduceMod, Int.reduceMul, Int.reduceAdd, Int.reduceSub, Int.reduceLT, Int.reduceLE, Nat.reduceAdd, Nat.reduceLeDiff, Nat.reduceLT, Nat.reduceSub, reduceIte, wds_n, wds_0, wds_1, wds_2, wds_3, or_true, true_or, or_false, false_or, or_self, false_and, and_false, d_pos, d_s1, d_s2, d_s3, d_s4, d_s5, d_s6, d_s7, d_s8, Classical.not_not, a1, a2, a3, d_s9, d_s10, d_s11, d_s12, d_s13, d_s14, d_s15, d_s16, d_s17, d_s18, d_s19, d_s20, d_s21, d_s22, d_s23, d_s24, d_s25, d_s26, d_s27, d_s28, d_s29, d_s30, le_sub1, le_T, le_F, lt_T, lt_F, eq_F, w32_T, bz0, bz1, lc_le, lc_ge, lc_lt, lc_gt, lc_eq]
        obtain ⟨B8, F8⟩ := X1.em (x := 11)
        have em : ∀ Q, Sp fz1 (e + 11) 82 [(3, T), (0, 11)] g1 Q = Q 0 (emH T g1 11) := fun Q => q82 hT X1.2.2.2.1.1
        have hp := X1.1.2
        have ex : ∀ Q, G fz1 (e + 12) 89 4 [(3, 258), (0, dep), (0, n + 1)] [] (emH T g1 11) Q = Q 0 (emH T g1 11) := fun Q => x89 B8 (by omega)
        have r14 : gr1 S 14 = hr S 14 := by rw [X5]; unfold bdR; rw [hs_ne (by omega)]
        have r15 : gr1 S 15 = hr S 15 := by rw [X5]; unfold bdR; rw [hs_ne (by omega)]
        obtain ⟨U1, U2, U3, U4⟩ := X2.d12 (x := w32 (gr1 6603 12 + 1))
        have dp : ∀ Q, Sp fz1 (e2 + 11) 344 [(3, 6603)] gr1 Q = Q 0 (hset gr1 6603 12 (w32 (gr1 6603 12 + 1))) := fun Q => v344b (by have := X2.2.1; omega)
        have u14 : hset gr1 6603 12 (w32 (gr1 6603 12 + 1)) S 14 = gr1 S 14 := by rw [U3]
        have u15 : hset gr1 6603 12 (w32 (gr1 6603 12 + 1)) S 15 = gr1 S 15 := by rw [U3]
        generalize hset gr1 6603 12 (w32 (gr1 6603 12 + 1)) = k1 at *
        have q1 : ∀ (d : Nat) Q, Sp fz1 d 325 [(3, 6603)] k1 Q = Q 0 k1 := fun d Q => v325x U1
        obtain ⟨r9, H1, H2, H3, H4, H5⟩ := z353 (e2 := e2) U1 (by omega)
        refine ⟨emH T g1 11, r9, fun Q => ?_, fun Q => ?_, .inr ⟨⟨_, B8, H1⟩, X3.trans F8, X4.trans (U2.trans H2), by omega, by omega, by omega⟩⟩
        · rw [q89_4]
          simp (implicitDefEqProofs := false) (disch := omega) only [b89_4, b89_5, q89_5, x_aload0, y_call28, y_call59, y_call82, y_call90, y_call92, x_gc_2051, x_gf_2059, x_goto_4, x_goto_5, x_iconst, x_ifCond_eq_6, x_ifCond_ne_5, x_if_icmp_ge_6, x_iinc2, x_iload1, x_iload2, klp_0, klp_1, klp_2, klp_3, klp_9, KC_0, KC_1, KC_2, KC_3, KC_4, ne_eq, not_false_eq_true, not_true_eq_false, true_and, and_true, and_self, implies_true, eq_self, true_imp_iff, false_implies, Int.reduceEq, Int.reduceNe, Int.reduceMod, Int.reduceMul, Int.reduceAdd, Int.reduceSub, Int.reduceLT, Int.reduceLE, Nat.reduceAdd, Nat.reduceLeDiff, Nat.reduceLT, Nat.reduceSub, reduceIte, wds_n, wds_0, wds_1, wds_2, wds_3, or_true, true_or, or_false, false_or, or_self, false_and, and_false, d_pos, d_s1, d_s2, d_s3, d_s4, d_s5, d_s6, d_s7, d_s8, Classical.not_not, z258_0, TC_0 hT, TC_k hT, i2, e1, e1p, inn, hp, em, ex, d_s9, d_s10, d_s11, d_s12, d_s13, d_s14, d_s15, d_s16, d_s17, d_s18, d_s19, d_s20, d_s21, d_s22, d_s23, d_s24, d_s25, d_s26, d_s27, d_s28, d_s29, d_s30, le_sub1, le_T, le_F, lt_T, lt_F, eq_F, w32_T, bz0, bz1, lc_le, lc_ge, lc_lt, lc_gt, lc_eq]
        · rw [← H5 Q, q353_4]
          simp (implicitDefEqProofs := false) (disch := omega) only [b353_4, x_aload0, y_call321, y_call325, y_call334, y_call344, y_call346, x_goto_5, x_iconst, x_ifCond_eq_5, x_ifCond_eq_6, klp_0, klp_1, klp_2, klp_3, klp_9, KC_0, KC_1, KC_2, KC_3, KC_4, ne_eq, not_false_eq_true, not_true_eq_false, true_and, and_true, and_self, implies_true, eq_self, true_imp_iff, false_implies, Int.reduceEq, Int.reduceNe, Int.reduceMod, Int.reduceMul, Int.reduceAdd, Int.reduceSub, Int.reduceLT, Int.reduceLE, Nat.reduceAdd, Nat.reduceLeDiff, Nat.reduceLT, Nat.reduceSub, reduceIte, wds_n, wds_0, wds_1, wds_2, wds_3, or_true, true_or, or_false, false_or, or_self, false_and, and_false, d_pos, d_s1, d_s2, d_s3, d_s4, d_s5, d_s6, d_s7, d_s8, Classical.not_not, q0, i1, f1, dp, q1, hs_ne, hcell, hcel1, d_s9, d_s10, d_s11, d_s12, d_s13, d_s14, d_s15, d_s16, d_s17, d_s18, d_s19, d_s20, d_s21, d_s22, d_s23, d_s24, d_s25, d_s26, d_s27, d_s28, d_s29, d_s30, le_sub1, le_T, le_F, lt_T, lt_F, eq_F, w32_T, bz0, bz1, lc_le, lc_ge, lc_lt, lc_gt, lc_eq]
    · have q0 : ∀ (d : Nat) Q, Sp fz1 d 325 [(3, 6603)] hr Q = Q 1 hr := fun d Q => v325g D
      have i1 : ∀ (d : Nat) Q, Sp fz1 d 334 [(3, 6603), (0, 91)] hr Q = Q 0 hr := fun d Q => v334n D w
      have i2 : ∀ (d : Nat) Q, Sp fz1 d 59 [(3, 129), (0, 91)] h Q = Q 0 h := fun d Q => c59n D (by decide) w
      refine ⟨h, hr, fun Q => ?_, fun Q => ?_, OUTC.nil D⟩
      · rw [q89_4]
        simp (implicitDefEqProofs := false) (disch := omega) only [b89_4, b89_6, q89_6, x_aload0, y_call28, y_call59, y_call90, x_gc_2051, x_goto_5, x_iconst, x_ifCond_eq_6, x_ifCond_ne_5, x_if_icmp_ge_6, x_iload2, x_return, klp_0, klp_1, klp_2, klp_3, klp_9, KC_0, KC_1, KC_2, KC_3, KC_4, ne_eq, not_false_eq_true, not_true_eq_false, true_and, and_true, and_self, implies_true, eq_self, true_imp_iff, false_implies, Int.reduceEq, Int.reduceNe, Int.reduceMod, Int.reduceMul, Int.reduceAdd, Int.reduceSub, Int.reduceLT, Int.reduceLE, Nat.reduceAdd, Nat.reduceLeDiff, Nat.reduceLT, Nat.reduceSub, reduceIte, wds_n, wds_0, wds_1, wds_2, wds_3, or_true, true_or, or_false, false_or, or_self, false_and, and_false, d_pos, d_s1, d_s2, d_s3, d_s4, d_s5, d_s6, d_s7, d_s8, Classical.not_not, z258_0, TC_0 hT, TC_k hT, i2, d_s9, d_s10, d_s11, d_s12, d_s13, d_s14, d_s15, d_s16, d_s17, d_s18, d_s19, d_s20, d_s21, d_s22, d_s23, d_s24, d_s25, d_s26, d_s27, d_s28, d_s29, d_s30, le_sub1, le_T, le_F, lt_T, lt_F, eq_F, w32_T, bz0, bz1, lc_le, lc_ge, lc_lt, lc_gt, lc_eq]
      · rw [q353_4]
        simp (implicitDefEqProofs := false) (disch := omega) only [b353_4, b353_6, q353_6, x_aload0, y_call321, y_call325, y_call334, y_call344, y_call346, x_goto_5, x_iconst, x_ifCond_eq_5, x_ifCond_eq_6, x_return, klp_0, klp_1, klp_2, klp_3, klp_9, KC_0, KC_1, KC_2, KC_3, KC_4, ne_eq, not_false_eq_true, not_true_eq_false, true_and, and_true, and_self, implies_true, eq_self, true_imp_iff, false_implies, Int.reduceEq, Int.reduceNe, Int.reduceMod, Int.reduceMul, Int.reduceAdd, Int.reduceSub, Int.reduceLT, Int.reduceLE, Nat.reduceAdd, Nat.reduceLeDiff, Nat.reduceLT, Nat.reduceSub, reduceIte, wds_n, wds_0, wds_1, wds_2, wds_3, or_true, true_or, or_false, false_or, or_self, false_and, and_false, d_pos, d_s1, d_s2, d_s3, d_s4, d_s5, d_s6, d_s7, d_s8, Classical.not_not, q0, i1, hs_ne, hcell, hcel1, d_s9, d_s10, d_s11, d_s12, d_s13, d_s14, d_s15, d_s16, d_s17, d_s18, d_s19, d_s20, d_s21, d_s22, d_s23, d_s24, d_s25, d_s26, d_s27, d_s28, d_s29, d_s30, le_sub1, le_T, le_F, lt_T, lt_F, eq_F, w32_T, bz0, bz1, lc_le, lc_ge, lc_lt, lc_gt, lc_eq]
end SM
