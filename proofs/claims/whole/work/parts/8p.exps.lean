/-! THE PURE SIDE, 163: what stands alone, all exps, whole exps: printed by wip/tools/gen8p.py -/
section SM
variable {bX : Int} {tp : Int → Int} {t T S s s1 s2 f : Int} {h hr g gr k kr m mr : HV} {Q : Int → HV → Prop} {d : Nat}
/-- the rest of the reference's - behind a fault -/
theorem z353n {e2 : Nat} (B : BDR S f hr) (l : hr S 15 + 1 ≤ 11 * hr S 14 + 14) : ∃ gr, BDR S f gr ∧ FXR S hr gr ∧ gr S 14 = hr S 14 ∧ gr S 15 = hr S 15 + 1 ∧ ∀ Q, G fz1 (e2 + 12) 353 2 [(3, 6603)] [] hr Q = Q 0 gr := by
  have r7 : 0 ≤ hr 6603 7 := by have := B.2.1; omega
  obtain ⟨k1, hk1⟩ : ∃ k2, k2 = hr := ⟨_, rfl⟩
  have sx : ∀ Q, Sp fz1 (e2 + 11) 353 [(3, 6603)] hr Q = Q 0 k1 := fun Q => by rw [hk1]; exact v353b r7
  obtain ⟨U1, U2, U3, U4⟩ := B.d12 (x := w32 (k1 6603 12 - 1))
  obtain ⟨C1, C2, C3, C4, C5⟩ := U1.cd (p := 9) (a := 0) (b := 0) (by rw [U3]; exact l)
  rw [← hk1] at U1 U2 U3 U4 C1 C2 C3 C4 C5
  have b6 := U1.2.2.2
  have cd : ∀ Q, Sp fz1 (e2 + 11) 347 [(3, 6603), (0, 9), (0, 0), (0, 0)] (hset k1 6603 12 (w32 (k1 6603 12 - 1))) Q = Q (hset k1 6603 12 (w32 (k1 6603 12 - 1)) S 15) (cdR S (hset k1 6603 12 (w32 (k1 6603 12 - 1))) 9 0 0) := fun Q => v347 U1.1.1 U1.1.2 (by omega)
  refine ⟨_, C1, by rw [← hk1]; exact U2.trans C2, by rw [C4, U3, hk1], by rw [C3, U3, hk1], fun Q => ?_⟩
  rw [q353_2]
  simp (implicitDefEqProofs := false) (disch := omega) only [sp353, b353_2, q353_2, x_aload0, y_call347, y_call353, x_dup0, x_dup3, x_gf_11360, x_iconst, x_isub, x_pf_11360, x_pop0, x_pop3, x_return, klp_0, klp_1, klp_2, klp_3, klp_9, KC_0, KC_1, KC_2, KC_3, KC_4, ne_eq, not_false_eq_true, not_true_eq_false, true_and, and_true, and_self, implies_true, eq_self, true_imp_iff, false_implies, Int.reduceEq, Int.reduceNe, Int.reduceMod, Int.reduceMul, Int.reduceAdd, Int.reduceSub, Int.reduceLT, Int.reduceLE, Nat.reduceAdd, Nat.reduceLeDiff, Nat.reduceLT, Nat.reduceSub, reduceIte, wds_n, wds_0, wds_1, wds_2, wds_3, or_true, true_or, or_false, false_or, or_self, false_and, and_false, d_pos, d_s1, d_s2, d_s3, d_s4, d_s5, d_s6, d_s7, d_s8, Classical.not_not, sx, cd, hs_ne, hcell, hcel1, d_s9, d_s10, d_s11, d_s12, d_s13, d_s14, d_s15, d_s16, d_s17, d_s18, d_s19, d_s20, d_s21, d_s22, d_s23, d_s24, d_s25, d_s26, d_s27, d_s28, d_s29, d_s30, le_sub1, le_T, le_F, lt_T, lt_F, eq_F, w32_T, bz0, bz1, lc_le, lc_ge, lc_lt, lc_gt, lc_eq]
/-- a - that stands alone -/
theorem neg_pair {dep : Int} {B e e2 : Nat} (he : B ≤ e + 11) (he2 : B ≤ e2 + 11) (O : dep < 12 → EXPP tp t T S 89 353 (dep + 1) B) (D : GD 1 tp t T S s h hr) (w : sgP tp t s 45) (hd : hr 6603 12 = dep ∧ 1 ≤ h 258 11 ∧ h 258 11 ≤ dep + 1) (hd2 : 0 ≤ dep ∧ dep ≤ 12) : ∃ g gr, (∀ Q, Sp fz1 (e + 12) 89 [(3, 258), (0, dep)] h Q = Q 0 g) ∧ (∀ Q, Sp fz1 (e2 + 12) 353 [(3, 6603)] hr Q = Q 0 gr) ∧ OUTC 1 tp t T S s h hr g gr 1 0 := by
  have F := D.f
  have N := D.nb
  have S0 := D.sb
  have hT := D.2.1.1.1
  have kT := kTC D.2.1.1.1
  have kS := kTR D.2.1.2.1
  unfold NBR STQ at N
  have q0 : ∀ (d : Nat) Q, Sp fz1 d 325 [(3, 6603)] hr Q = Q 1 hr := fun d Q => v325g D
  have i1 : ∀ (d : Nat) Q, Sp fz1 d 334 [(3, 6603), (0, 45)] hr Q = Q 1 hr := fun d Q => v334y D w
  have i2 : ∀ (d : Nat) Q, Sp fz1 d 59 [(3, 129), (0, 45)] h Q = Q 1 h := fun d Q => c59y D (by decide) w
  obtain ⟨g1, gr1, f1, X⟩ := D.node (e + 9) (e2 + 10)
  rcases X with ⟨e1, X1, X2, X3, X4, X5⟩ | ⟨⟨k0, e1, e1p⟩, X1, X2, X3, X4, X5⟩
  · have X2' := X2
    have X3' := X3
    unfold NC at X2'
    unfold NR at X3'
    have D1 := X1.2.1
    have n1 := D1.nb
    unfold NBR STQ at n1
    by_cases z : dep < 12
    · obtain ⟨V1, V2, V3⟩ := D1.d12 (x := dep + 1)
      have V2' := V2
      unfold NR at V2'
      have dp : ∀ Q, Sp fz1 (e2 + 11) 344 [(3, 6603)] gr1 Q = Q 0 (hset gr1 6603 12 (dep + 1)) := fun Q => by rw [v344g (by omega) (by omega), show gr1 6603 12 = dep by omega]
      have q1 : ∀ (d : Nat) Q, Sp fz1 d 325 [(3, 6603)] (hset gr1 6603 12 (dep + 1)) Q = Q 1 (hset gr1 6603 12 (dep + 1)) := fun d Q => v325g V1.2.1
      obtain ⟨g2, gr2, Y1, Y2, -, -, Y3, Y4, -, -, e3, f3⟩ := V1.2.1.nx (e + 2) (e2 + 9)
      have Y3' := Y3
      have Y4' := Y4
      unfold NC at Y3'
      unfold NR at Y4'
      have op : ∀ Q, Sp fz1 (e + 11) 79 [(3, 258), (0, 45), (0, dep)] g1 Q = Q 0 g2 := fun Q => c79g D1 (by decide) w z e3
      have D2 := Y1.2.1
      have n2 := D2.nb
      unfold NBR STQ at n2
      have st41 : ∀ Q, Sp fz1 (e + 11) 41 [(3, 258)] g2 Q = Q 1 g2 := fun Q => c41g D2
      have Z := X1.trans (V1.trans Y1)
      have R0 : ∀ Q, Sp fz1 (e2 + 12) 353 [(3, 6603)] hr Q = G fz1 (e2 + 12) 353 2 [(3, 6603)] [] gr2 Q := fun Q => by
        simp (implicitDefEqProofs := false) (disch := omega) only [sp353, b353_0, b353_1, q353_1, x_aload0, y_call321, y_call325, y_call334, y_call344, y_call346, x_goto_2, x_iconst, x_ifCond_eq_2, x_ifCond_eq_3, x_ifCond_ne_1, x_return, klp_0, klp_1, klp_2, klp_3, klp_9, KC_0, KC_1, KC_2, KC_3, KC_4, ne_eq, not_false_eq_true, not_true_eq_false, true_and, and_true, and_self, implies_true, eq_self, true_imp_iff, false_implies, Int.reduceEq, Int.reduceNe, Int.reduceMod, Int.reduceMul, Int.reduceAdd, Int.reduceSub, Int.reduceLT, Int.reduceLE, Nat.reduceAdd, Nat.reduceLeDiff, Nat.reduceLT, Nat.reduceSub, reduceIte, wds_n, wds_0, wds_1, wds_2, wds_3, or_true, true_or, or_false, false_or, or_self, false_and, and_false, d_pos, d_s1, d_s2, d_s3, d_s4, d_s5, d_s6, d_s7, d_s8, Classical.not_not, q0, i1, f1, dp, q1, f3, hs_ne, hcell, hcel1, d_s9, d_s10, d_s11, d_s12, d_s13, d_s14, d_s15, d_s16, d_s17, d_s18, d_s19, d_s20, d_s21, d_s22, d_s23, d_s24, d_s25, d_s26, d_s27, d_s28, d_s29, d_s30, le_sub1, le_T, le_F, lt_T, lt_F, eq_F, w32_T, bz0, bz1, lc_le, lc_ge, lc_lt, lc_gt, lc_eq]
      obtain ⟨k, kr, e5, f5, V⟩ := O z (e + 11) (e2 + 11) _ g2 gr2 he he2 D2 (by omega)
      rcases V with ⟨s3, A1, A2, A3, A4, A5⟩ | V
      · have A3' := A3
        unfold DXP at A3'
        have D3 := A1.2.1
        have n3 := D3.nb
        unfold NBR STQ at n3
        obtain ⟨U1, U2, U3⟩ := D3.d12 (x := dep)
        have U2' := U2
        unfold NR at U2'
        have D4 := U1.2.1
        have sb4 := D4.sb
        have q34 := A1.1
        have q23 := Z.1
        obtain ⟨H1, H2, H3, H4⟩ := D4.st1 (p := 10) (q := 9) (a := 0) (b := 0) (by omega) (by omega) (by decide)
        have H2' := H2
        have H3' := H3
        unfold NC at H2'
        unfold NR at H3'
        have em : ∀ Q, Sp fz1 (e + 11) 82 [(3, T), (0, 10)] k Q = Q 0 (emH T k 10) := fun Q => q82 hT (by omega)
        have hp := D4.2.1.1.2
        have sb12 : kr 6603 12 - 1 = dep := by omega
        have cd : ∀ Q, Sp fz1 (e2 + 11) 347 [(3, 6603), (0, 9), (0, 0), (0, 0)] (hset kr 6603 12 dep) Q = Q (hset kr 6603 12 dep S 15) (cdR S (hset kr 6603 12 dep) 9 0 0) := fun Q => v347 D4.2.1.2.1 D4.2.1.2.2 (by omega)
        refine ⟨emH T k 10, cdR S (hset kr 6603 12 dep) 9 0 0, fun Q => ?_, fun Q => ?_, ?_⟩
        · simp (implicitDefEqProofs := false) (disch := omega) only [sp89, b89_0, b89_1, b89_2, q89_1, q89_2, x_aload0, y_call28, y_call41, y_call59, y_call79, y_call82, y_call89, y_call90, x_gc_2051, x_gf_2059, x_goto_1, x_goto_2, x_iadd, x_iconst, x_ifCond_eq_2, x_ifCond_eq_3, x_ifCond_ne_1, x_iload1, x_return, klp_0, klp_1, klp_2, klp_3, klp_9, KC_0, KC_1, KC_2, KC_3, KC_4, ne_eq, not_false_eq_true, not_true_eq_false, true_and, and_true, and_self, implies_true, eq_self, true_imp_iff, false_implies, Int.reduceEq, Int.reduceNe, Int.reduceMod, Int.reduceMul, Int.reduceAdd, Int.reduceSub, Int.reduceLT, Int.reduceLE, Nat.reduceAdd, Nat.reduceLeDiff, Nat.reduceLT, Nat.reduceSub, reduceIte, wds_n, wds_0, wds_1, wds_2, wds_3, or_true, true_or, or_false, false_or, or_self, false_and, and_false, d_pos, d_s1, d_s2, d_s3, d_s4, d_s5, d_s6, d_s7, d_s8, Classical.not_not, z258_0, TC_0 hT, TC_k hT, i2, e1, op, st41, e5, hp, em, d_s9, d_s10, d_s11, d_s12, d_s13, d_s14, d_s15, d_s16, d_s17, d_s18, d_s19, d_s20, d_s21, d_s22, d_s23, d_s24, d_s25, d_s26, d_s27, d_s28, d_s29, d_s30, le_sub1, le_T, le_F, lt_T, lt_F, eq_F, w32_T, bz0, bz1, lc_le, lc_ge, lc_lt, lc_gt, lc_eq]
        · rw [R0, q353_2]
          simp (implicitDefEqProofs := false) (disch := omega) only [sp353, b353_2, q353_2, x_aload0, y_call347, y_call353, x_dup0, x_dup3, x_gf_11360, x_iconst, x_isub, x_pf_11360, x_pop0, x_pop3, x_return, klp_0, klp_1, klp_2, klp_3, klp_9, KC_0, KC_1, KC_2, KC_3, KC_4, ne_eq, not_false_eq_true, not_true_eq_false, true_and, and_true, and_self, implies_true, eq_self, true_imp_iff, false_implies, Int.reduceEq, Int.reduceNe, Int.reduceMod, Int.reduceMul, Int.reduceAdd, Int.reduceSub, Int.reduceLT, Int.reduceLE, Nat.reduceAdd, Nat.reduceLeDiff, Nat.reduceLT, Nat.reduceSub, reduceIte, wds_n, wds_0, wds_1, wds_2, wds_3, or_true, true_or, or_false, false_or, or_self, false_and, and_false, d_pos, d_s1, d_s2, d_s3, d_s4, d_s5, d_s6, d_s7, d_s8, Classical.not_not, f5, sb12, cd, hs_ne, hcell, hcel1, d_s9, d_s10, d_s11, d_s12, d_s13, d_s14, d_s15, d_s16, d_s17, d_s18, d_s19, d_s20, d_s21, d_s22, d_s23, d_s24, d_s25, d_s26, d_s27, d_s28, d_s29, d_s30, le_sub1, le_T, le_F, lt_T, lt_F, eq_F, w32_T, bz0, bz1, lc_le, lc_ge, lc_lt, lc_gt, lc_eq]
        · have GA := ((Z.trans A1).trans U1).trans H1
          have WU := U1.trans H1
          refine .inl ⟨s3, GA, ((NVR.same (gr := gr2) (show g2 258 6 = h 258 6 by omega)).trans A1.2.2.1.1 A1.2.2.2.1 A2).trans WU.2.2.1.1 WU.2.2.2.1 (NVR.same (by omega)), by unfold DXP; omega, by omega, fun K V CL A => ?_⟩
          have B1 := A.sub (h := k) (hr := kr) (by omega) (WU.2.2.1.1.lo (c2 := h T 17) (by omega)) (WU.2.2.2.1.lo (r2 := hr S 15) (t2 := hr S 22) (by omega) (by omega)) (Int.le_refl _) (Int.le_refl _) (Int.le_refl _)
          have P1 := A5 K V CL (B1.lo (by omega) (by omega) (by omega))
          obtain ⟨u1, u2, -⟩ := H4 K V CL _ _ _ A (by omega) (by omega)
          have P2 := e_NEG (K := K) (V := V) (CL := CL) (c := k T 17) (r := hset kr 6603 12 dep S 15) (by omega) (by omega) u1 u2
          rw [show g2 T 17 = h T 17 by omega, show gr2 S 15 = hr S 15 by omega, show kr S 15 = hset kr 6603 12 dep S 15 by omega] at P1
          have P3 := P1.seq (lo := 0) (g := 1) (m := cdR S (hset kr 6603 12 dep) 9 0 0 S 15 - hr S 15) (w := cdR S (hset kr 6603 12 dep) 9 0 0 S 15 - hr S 15) P2 (by omega) (by omega) (by omega) (by omega) (by omega) (by omega) (by omega) (by omega) (by omega)
          rw [show k T 17 + 1 = emH T k 10 T 17 by omega, show hset kr 6603 12 dep S 15 + 1 = cdR S (hset kr 6603 12 dep) 9 0 0 S 15 by omega] at P3
          exact P3
      · obtain ⟨⟨f, B1, B2⟩, F1', F2', b3, b4, b5⟩ := V
        obtain ⟨B8, F8⟩ := B1.em (x := 10)
        have em : ∀ Q, Sp fz1 (e + 11) 82 [(3, T), (0, 10)] k Q = Q 0 (emH T k 10) := fun Q => q82 hT B1.2.2.2.1.1
        have hp := B1.1.2
        obtain ⟨U1, U2, U3, U4⟩ := B2.d12 (x := w32 (kr 6603 12 - 1))
        have u14 : hset kr 6603 12 (w32 (kr 6603 12 - 1)) S 14 = kr S 14 := by rw [U3]
        have u15 : hset kr 6603 12 (w32 (kr 6603 12 - 1)) S 15 = kr S 15 := by rw [U3]
        obtain ⟨C1, C2, C3, C4, C5⟩ := U1.cd (p := 9) (a := 0) (b := 0) (by omega)
        have b6 := U1.2.2.2
        have cd : ∀ Q, Sp fz1 (e2 + 11) 347 [(3, 6603), (0, 9), (0, 0), (0, 0)] (hset kr 6603 12 (w32 (kr 6603 12 - 1))) Q = Q (hset kr 6603 12 (w32 (kr 6603 12 - 1)) S 15) (cdR S (hset kr 6603 12 (w32 (kr 6603 12 - 1))) 9 0 0) := fun Q => v347 U1.1.1 U1.1.2 (by omega)
        refine ⟨emH T k 10, cdR S (hset kr 6603 12 (w32 (kr 6603 12 - 1))) 9 0 0, fun Q => ?_, fun Q => ?_, .inr ⟨⟨_, B8, C1⟩, Z.2.2.1.2.trans (F1'.trans F8), Z.2.2.2.2.trans (F2'.trans (U2.trans C2)), by omega, by omega, by omega⟩⟩
        · simp (implicitDefEqProofs := false) (disch := omega) only [sp89, b89_0, b89_1, b89_2, q89_1, q89_2, x_aload0, y_call28, y_call41, y_call59, y_call79, y_call82, y_call89, y_call90, x_gc_2051, x_gf_2059, x_goto_1, x_goto_2, x_iadd, x_iconst, x_ifCond_eq_2, x_ifCond_eq_3, x_ifCond_ne_1, x_iload1, x_return, klp_0, klp_1, klp_2, klp_3, klp_9, KC_0, KC_1, KC_2, KC_3, KC_4, ne_eq, not_false_eq_true, not_true_eq_false, true_and, and_true, and_self, implies_true, eq_self, true_imp_iff, false_implies, Int.reduceEq, Int.reduceNe, Int.reduceMod, Int.reduceMul, Int.reduceAdd, Int.reduceSub, Int.reduceLT, Int.reduceLE, Nat.reduceAdd, Nat.reduceLeDiff, Nat.reduceLT, Nat.reduceSub, reduceIte, wds_n, wds_0, wds_1, wds_2, wds_3, or_true, true_or, or_false, false_or, or_self, false_and, and_false, d_pos, d_s1, d_s2, d_s3, d_s4, d_s5, d_s6, d_s7, d_s8, Classical.not_not, z258_0, TC_0 hT, TC_k hT, i2, e1, op, st41, e5, hp, em, d_s9, d_s10, d_s11, d_s12, d_s13, d_s14, d_s15, d_s16, d_s17, d_s18, d_s19, d_s20, d_s21, d_s22, d_s23, d_s24, d_s25, d_s26, d_s27, d_s28, d_s29, d_s30, le_sub1, le_T, le_F, lt_T, lt_F, eq_F, w32_T, bz0, bz1, lc_le, lc_ge, lc_lt, lc_gt, lc_eq]
        · rw [R0, q353_2]
          simp (implicitDefEqProofs := false) (disch := omega) only [sp353, b353_2, q353_2, x_aload0, y_call347, y_call353, x_dup0, x_dup3, x_gf_11360, x_iconst, x_isub, x_pf_11360, x_pop0, x_pop3, x_return, klp_0, klp_1, klp_2, klp_3, klp_9, KC_0, KC_1, KC_2, KC_3, KC_4, ne_eq, not_false_eq_true, not_true_eq_false, true_and, and_true, and_self, implies_true, eq_self, true_imp_iff, false_implies, Int.reduceEq, Int.reduceNe, Int.reduceMod, Int.reduceMul, Int.reduceAdd, Int.reduceSub, Int.reduceLT, Int.reduceLE, Nat.reduceAdd, Nat.reduceLeDiff, Nat.reduceLT, Nat.reduceSub, reduceIte, wds_n, wds_0, wds_1, wds_2, wds_3, or_true, true_or, or_false, false_or, or_self, false_and, and_false, d_pos, d_s1, d_s2, d_s3, d_s4, d_s5, d_s6, d_s7, d_s8, Classical.not_not, f5, cd, hs_ne, hcell, hcel1, d_s9, d_s10, d_s11, d_s12, d_s13, d_s14, d_s15, d_s16, d_s17, d_s18, d_s19, d_s20, d_s21, d_s22, d_s23, d_s24, d_s25, d_s26, d_s27, d_s28, d_s29, d_s30, le_sub1, le_T, le_F, lt_T, lt_F, eq_F, w32_T, bz0, bz1, lc_le, lc_ge, lc_lt, lc_gt, lc_eq]
    · obtain ⟨B1, B2, B3, B4, B5, B6, B7⟩ := D1.bad0
      obtain ⟨U1, U2, U3, U4⟩ := B2.d12 (x := 13)
      have op : ∀ Q, Sp fz1 (e + 11) 79 [(3, 258), (0, 45), (0, dep)] g1 Q = Q 0 (bdH g1) := fun Q => c79f D1 (by decide) (fun u => z u.1)
      have st41 : ∀ Q, Sp fz1 (e + 11) 41 [(3, 258)] (bdH g1) Q = Q 0 (bdH g1) := fun Q => b41 B1
      obtain ⟨B8, F8⟩ := B1.em (x := 10)
      have em : ∀ Q, Sp fz1 (e + 11) 82 [(3, T), (0, 10)] (bdH g1) Q = Q 0 (emH T (bdH g1) 10) := fun Q => q82 hT B1.2.2.2.1.1
      have hp := B1.1.2
      have dp : ∀ Q, Sp fz1 (e2 + 11) 344 [(3, 6603)] gr1 Q = Q 0 (hset (bdR gr1) 6603 12 13) := fun Q => v344x (by omega) (by omega)
      have u14 : hset (bdR gr1) 6603 12 13 S 14 = gr1 S 14 := by rw [U3]; exact B5
      have u15 : hset (bdR gr1) 6603 12 13 S 15 = gr1 S 15 := by rw [U3]; exact B6
      have FR := B4.trans U2
      generalize hset (bdR gr1) 6603 12 13 = k1 at *
      have q1 : ∀ (d : Nat) Q, Sp fz1 d 325 [(3, 6603)] k1 Q = Q 0 k1 := fun d Q => v325x U1
      obtain ⟨r9, H1, H2, H3, H4, H5⟩ := z353n (e2 := e2) U1 (by omega)
      refine ⟨emH T (bdH g1) 10, r9, fun Q => ?_, fun Q => ?_, .inr ⟨⟨_, B8, H1⟩, X1.2.2.1.2.trans (B3.trans F8), X1.2.2.2.2.trans (FR.trans H2), by omega, by omega, by omega⟩⟩
      · simp (implicitDefEqProofs := false) (disch := omega) only [sp89, b89_0, b89_1, b89_2, q89_1, q89_2, x_aload0, y_call28, y_call41, y_call59, y_call79, y_call82, y_call89, y_call90, x_gc_2051, x_gf_2059, x_goto_1, x_goto_2, x_iadd, x_iconst, x_ifCond_eq_2, x_ifCond_eq_3, x_ifCond_ne_1, x_iload1, x_return, klp_0, klp_1, klp_2, klp_3, klp_9, KC_0, KC_1, KC_2, KC_3, KC_4, ne_eq, not_false_eq_true, not_true_eq_false, true_and, and_true, and_self, implies_true, eq_self, true_imp_iff, false_implies, Int.reduceEq, Int.reduceNe, Int.reduceMod, Int.reduceMul, Int.reduceAdd, Int.reduceSub, Int.reduceLT, Int.reduceLE, Nat.reduceAdd, Nat.reduceLeDiff, Nat.reduceLT, Nat.reduceSub, reduceIte, wds_n, wds_0, wds_1, wds_2, wds_3, or_true, true_or, or_false, false_or, or_self, false_and, and_false, d_pos, d_s1, d_s2, d_s3, d_s4, d_s5, d_s6, d_s7, d_s8, Classical.not_not, z258_0, TC_0 hT, TC_k hT, i2, e1, op, st41, hp, em, d_s9, d_s10, d_s11, d_s12, d_s13, d_s14, d_s15, d_s16, d_s17, d_s18, d_s19, d_s20, d_s21, d_s22, d_s23, d_s24, d_s25, d_s26, d_s27, d_s28, d_s29, d_s30, le_sub1, le_T, le_F, lt_T, lt_F, eq_F, w32_T, bz0, bz1, lc_le, lc_ge, lc_lt, lc_gt, lc_eq]
      · rw [← H5 Q]
        simp (implicitDefEqProofs := false) (disch := omega) only [sp353, b353_0, b353_1, q353_1, x_aload0, y_call321, y_call325, y_call334, y_call344, y_call346, x_goto_2, x_iconst, x_ifCond_eq_2, x_ifCond_eq_3, x_ifCond_ne_1, x_return, klp_0, klp_1, klp_2, klp_3, klp_9, KC_0, KC_1, KC_2, KC_3, KC_4, ne_eq, not_false_eq_true, not_true_eq_false, true_and, and_true, and_self, implies_true, eq_self, true_imp_iff, false_implies, Int.reduceEq, Int.reduceNe, Int.reduceMod, Int.reduceMul, Int.reduceAdd, Int.reduceSub, Int.reduceLT, Int.reduceLE, Nat.reduceAdd, Nat.reduceLeDiff, Nat.reduceLT, Nat.reduceSub, reduceIte, wds_n, wds_0, wds_1, wds_2, wds_3, or_true, true_or, or_false, false_or, or_self, false_and, and_false, d_pos, d_s1, d_s2, d_s3, d_s4, d_s5, d_s6, d_s7, d_s8, Classical.not_not, q0, i1, f1, dp, q1, hs_ne, hcell, hcel1, d_s9, d_s10, d_s11, d_s12, d_s13, d_s14, d_s15, d_s16, d_s17, d_s18, d_s19, d_s20, d_s21, d_s22, d_s23, d_s24, d_s25, d_s26, d_s27, d_s28, d_s29, d_s30, le_sub1, le_T, le_F, lt_T, lt_F, eq_F, w32_T, bz0, bz1, lc_le, lc_ge, lc_lt, lc_gt, lc_eq]
  · have op : ∀ Q, Sp fz1 (e + 11) 79 [(3, 258), (0, 45), (0, dep)] g1 Q = Q 0 g1 := fun Q => b79 X1
    have st41 : ∀ Q, Sp fz1 (e + 11) 41 [(3, 258)] g1 Q = Q 0 g1 := fun Q => b41 X1
    obtain ⟨B8, F8⟩ := X1.em (x := 10)
    have em : ∀ Q, Sp fz1 (e + 11) 82 [(3, T), (0, 10)] g1 Q = Q 0 (emH T g1 10) := fun Q => q82 hT X1.2.2.2.1.1
    have hp := X1.1.2
    have r14 : gr1 S 14 = hr S 14 := by rw [X5]; unfold bdR; rw [hs_ne (by omega)]
    have r15 : gr1 S 15 = hr S 15 := by rw [X5]; unfold bdR; rw [hs_ne (by omega)]
    obtain ⟨U1, U2, U3, U4⟩ := X2.d12 (x := w32 (gr1 6603 12 + 1))
    have dp : ∀ Q, Sp fz1 (e2 + 11) 344 [(3, 6603)] gr1 Q = Q 0 (hset gr1 6603 12 (w32 (gr1 6603 12 + 1))) := fun Q => v344b (by have := X2.2.1; omega)
    have u14 : hset gr1 6603 12 (w32 (gr1 6603 12 + 1)) S 14 = gr1 S 14 := by rw [U3]
    have u15 : hset gr1 6603 12 (w32 (gr1 6603 12 + 1)) S 15 = gr1 S 15 := by rw [U3]
    generalize hset gr1 6603 12 (w32 (gr1 6603 12 + 1)) = k1 at *
    have q1 : ∀ (d : Nat) Q, Sp fz1 d 325 [(3, 6603)] k1 Q = Q 0 k1 := fun d Q => v325x U1
    obtain ⟨r9, H1, H2, H3, H4, H5⟩ := z353n (e2 := e2) U1 (by omega)
    refine ⟨emH T g1 10, r9, fun Q => ?_, fun Q => ?_, .inr ⟨⟨_, B8, H1⟩, X3.trans F8, X4.trans (U2.trans H2), by omega, by omega, by omega⟩⟩
    · simp (implicitDefEqProofs := false) (disch := omega) only [sp89, b89_0, b89_1, b89_2, q89_1, q89_2, x_aload0, y_call28, y_call41, y_call59, y_call79, y_call82, y_call89, y_call90, x_gc_2051, x_gf_2059, x_goto_1, x_goto_2, x_iadd, x_iconst, x_ifCond_eq_2, x_ifCond_eq_3, x_ifCond_ne_1, x_iload1, x_return, klp_0, klp_1, klp_2, klp_3, klp_9, KC_0, KC_1, KC_2, KC_3, KC_4, ne_eq, not_false_eq_true, not_true_eq_false, true_and, and_true, and_self, implies_true, eq_self, true_imp_iff, false_implies, Int.reduceEq, Int.reduceNe, Int.reduceMod, Int.reduceMul, Int.reduceAdd, Int.reduceSub, Int.reduceLT, Int.reduceLE, Nat.reduceAdd, Nat.reduceLeDiff, Nat.reduceLT, Nat.reduceSub, reduceIte, wds_n, wds_0, wds_1, wds_2, wds_3, or_true, true_or, or_false, false_or, or_self, false_and, and_false, d_pos, d_s1, d_s2, d_s3, d_s4, d_s5, d_s6, d_s7, d_s8, Classical.not_not, z258_0, TC_0 hT, TC_k hT, i2, e1, e1p, op, st41, hp, em, d_s9, d_s10, d_s11, d_s12, d_s13, d_s14, d_s15, d_s16, d_s17, d_s18, d_s19, d_s20, d_s21, d_s22, d_s23, d_s24, d_s25, d_s26, d_s27, d_s28, d_s29, d_s30, le_sub1, le_T, le_F, lt_T, lt_F, eq_F, w32_T, bz0, bz1, lc_le, lc_ge, lc_lt, lc_gt, lc_eq]
    · rw [← H5 Q]
      simp (implicitDefEqProofs := false) (disch := omega) only [sp353, b353_0, b353_1, q353_1, x_aload0, y_call321, y_call325, y_call334, y_call344, y_call346, x_goto_2, x_iconst, x_ifCond_eq_2, x_ifCond_eq_3, x_ifCond_ne_1, x_return, klp_0, klp_1, klp_2, klp_3, klp_9, KC_0, KC_1, KC_2, KC_3, KC_4, ne_eq, not_false_eq_true, not_true_eq_false, true_and, and_true, and_self, implies_true, eq_self, true_imp_iff, false_implies, Int.reduceEq, Int.reduceNe, Int.reduceMod, Int.reduceMul, Int.reduceAdd, Int.reduceSub, Int.reduceLT, Int.reduceLE, Nat.reduceAdd, Nat.reduceLeDiff, Nat.reduceLT, Nat.reduceSub, reduceIte, wds_n, wds_0, wds_1, wds_2, wds_3, or_true, true_or, or_false, false_or, or_self, false_and, and_false, d_pos, d_s1, d_s2, d_s3, d_s4, d_s5, d_s6, d_s7, d_s8, Classical.not_not, q0, i1, f1, dp, q1, hs_ne, hcell, hcel1, d_s9, d_s10, d_s11, d_s12, d_s13, d_s14, d_s15, d_s16, d_s17, d_s18, d_s19, d_s20, d_s21, d_s22, d_s23, d_s24, d_s25, d_s26, d_s27, d_s28, d_s29, d_s30, le_sub1, le_T, le_F, lt_T, lt_F, eq_F, w32_T, bz0, bz1, lc_le, lc_ge, lc_lt, lc_gt, lc_eq]
/-- what stands alone -/
theorem ex89 {dep : Int} {B B1 B2 B3 : Nat} (hB : 12 ≤ B) (h1 : B1 + 1 ≤ B) (h2 : B2 + 1 ≤ B) (h3 : B3 + 2 ≤ B) (hd2 : 0 ≤ dep ∧ dep ≤ 12) (O1 : EXPP tp t T S 91 354 dep B1) (O2 : dep < 12 → EXPP tp t T S 89 353 (dep + 1) B2) (O3 : dep < 12 → EXPQ tp t T S (dep + 1) B3) : EXPP tp t T S 89 353 dep B := by
  intro dc dr s h hr hc1 hc2 D hd
  obtain ⟨e, rfl⟩ : ∃ e, dc = e + 12 := ⟨dc - 12, by omega⟩
  obtain ⟨e2, rfl⟩ : ∃ e, dr = e + 12 := ⟨dr - 12, by omega⟩
  by_cases w : sgP tp t s 45
  · exact neg_pair (by omega) (by omega) O2 D w hd hd2
  have hT := D.2.1.1.1
  have N := D.nb
  unfold NBR STQ at N
  have q0 : ∀ (d : Nat) Q, Sp fz1 d 325 [(3, 6603)] hr Q = Q 1 hr := fun d Q => v325g D
  have i1 : ∀ (d : Nat) Q, Sp fz1 d 334 [(3, 6603), (0, 45)] hr Q = Q 0 hr := fun d Q => v334n D w
  have i2 : ∀ (d : Nat) Q, Sp fz1 d 59 [(3, 129), (0, 45)] h Q = Q 0 h := fun d Q => c59n D (by decide) w
  obtain ⟨g, gr, e1, f1, W⟩ := O1 (e + 11) (e2 + 11) s h hr (by omega) (by omega) D hd
  have CC : ∀ k, (∀ Q, G fz1 (e + 12) 89 4 [(3, 258), (0, dep), (0, 0)] [] g Q = Q 0 k) → ∀ Q, Sp fz1 (e + 12) 89 [(3, 258), (0, dep)] h Q = Q 0 k := fun k e6 Q => by
    simp (implicitDefEqProofs := false) (disch := omega) only [sp89, b89_0, b89_3, q89_3, x_aload0, y_call28, y_call59, y_call90, y_call91, x_gc_2051, x_goto_1, x_goto_4, x_iconst, x_ifCond_eq_3, x_ifCond_ne_1, x_iload1, x_istore2, klp_0, klp_1, klp_2, klp_3, klp_9, KC_0, KC_1, KC_2, KC_3, KC_4, ne_eq, not_false_eq_true, not_true_eq_false, true_and, and_true, and_self, implies_true, eq_self, true_imp_iff, false_implies, Int.reduceEq, Int.reduceNe, Int.reduceMod, Int.reduceMul, Int.reduceAdd, Int.reduceSub, Int.reduceLT, Int.reduceLE, Nat.reduceAdd, Nat.reduceLeDiff, Nat.reduceLT, Nat.reduceSub, reduceIte, wds_n, wds_0, wds_1, wds_2, wds_3, or_true, true_or, or_false, false_or, or_self, false_and, and_false, d_pos, d_s1, d_s2, d_s3, d_s4, d_s5, d_s6, d_s7, d_s8, Classical.not_not, z258_0, TC_0 hT, TC_k hT, i2, e1, e6, d_s9, d_s10, d_s11, d_s12, d_s13, d_s14, d_s15, d_s16, d_s17, d_s18, d_s19, d_s20, d_s21, d_s22, d_s23, d_s24, d_s25, d_s26, d_s27, d_s28, d_s29, d_s30, le_sub1, le_T, le_F, lt_T, lt_F, eq_F, w32_T, bz0, bz1, lc_le, lc_ge, lc_lt, lc_gt, lc_eq]
  have RR : ∀ k, (∀ Q, G fz1 (e2 + 12) 353 4 [(3, 6603)] [] gr Q = Q 0 k) → ∀ Q, Sp fz1 (e2 + 12) 353 [(3, 6603)] hr Q = Q 0 k := fun k f6 Q => by
    simp (implicitDefEqProofs := false) (disch := omega) only [sp353, b353_0, b353_1, b353_3, q353_1, q353_3, x_aload0, y_call321, y_call325, y_call334, y_call344, y_call346, y_call354, x_goto_2, x_goto_4, x_iconst, x_ifCond_eq_2, x_ifCond_eq_3, x_ifCond_ne_1, x_return, klp_0, klp_1, klp_2, klp_3, klp_9, KC_0, KC_1, KC_2, KC_3, KC_4, ne_eq, not_false_eq_true, not_true_eq_false, true_and, and_true, and_self, implies_true, eq_self, true_imp_iff, false_implies, Int.reduceEq, Int.reduceNe, Int.reduceMod, Int.reduceMul, Int.reduceAdd, Int.reduceSub, Int.reduceLT, Int.reduceLE, Nat.reduceAdd, Nat.reduceLeDiff, Nat.reduceLT, Nat.reduceSub, reduceIte, wds_n, wds_0, wds_1, wds_2, wds_3, or_true, true_or, or_false, false_or, or_self, false_and, and_false, d_pos, d_s1, d_s2, d_s3, d_s4, d_s5, d_s6, d_s7, d_s8, Classical.not_not, q0, i1, f1, f6, hs_ne, hcell, hcel1, d_s9, d_s10, d_s11, d_s12, d_s13, d_s14, d_s15, d_s16, d_s17, d_s18, d_s19, d_s20, d_s21, d_s22, d_s23, d_s24, d_s25, d_s26, d_s27, d_s28, d_s29, d_s30, le_sub1, le_T, le_F, lt_T, lt_F, eq_F, w32_T, bz0, bz1, lc_le, lc_ge, lc_lt, lc_gt, lc_eq]
  rcases W with ⟨s3, W1, W2, W3, W4, W5⟩ | W
  · have W3' := W3
    unfold DXP at W3'
    obtain ⟨k, kr, e6, f6, V⟩ := lp89 (e := e) (e2 := e2) (by omega) (by omega) O3 hd2 30 0 s3 g gr (by decide) (by decide) (by omega) W1.2.1 (by omega)
    exact ⟨k, kr, CC k e6, RR kr f6, OUTC.seq W1 W2 W3 D.nb W5 V (by omega) (by omega) (by omega) W4 rfl⟩
  · obtain ⟨⟨f, B1', B2'⟩, -⟩ := id W
    exact ⟨g, gr, CC g (fun Q => x89 B1' (by decide)), RR gr (fun Q => y353 B2'), .inr W⟩
theorem EXPP.up {m1 m2 : Nat} {dep : Int} {B B2 : Nat} (E : EXPP tp t T S m1 m2 dep B) (l : B ≤ B2) : EXPP tp t T S m1 m2 dep B2 := fun dc dr s h hr h1 h2 D hd => E dc dr s h hr (by omega) (by omega) D hd
theorem EXPQ.up {dep : Int} {B B2 : Nat} (E : EXPQ tp t T S dep B) (l : B ≤ B2) : EXPQ tp t T S dep B2 := fun dc dr s h hr h1 h2 D hd => E dc dr s h hr (by omega) (by omega) D hd
/-- exps, to any depth -/
theorem ex_all (n : Nat) : ∀ dep : Int, dep + n = 12 → 0 ≤ dep → EXPP tp t T S 87 351 dep (12 + 7 * n + 6) ∧ EXPP tp t T S 89 353 dep (12 + 7 * n + 4) := by
  induction n with
  | zero =>
    intro dep h1 h0
    have O : dep < 12 → EXPQ tp t T S (dep + 1) 12 := fun w => by omega
    have O2 : dep < 12 → EXPP tp t T S 89 353 (dep + 1) 12 := fun w => by omega
    have a := ex91 (tp := tp) (t := t) (T := T) (S := S) (by decide) ⟨h0, by omega⟩ O
    have b := ex89 (B := 16) (by decide) (by decide) (by decide) (by decide) ⟨h0, by omega⟩ a O2 O
    exact ⟨ex87 (by decide) (ex88 (by decide) b), b⟩
  | succ n ih =>
    intro dep h1 h0
    have i := ih (dep + 1) (by omega) (by omega)
    have O : dep < 12 → EXPQ tp t T S (dep + 1) (12 + 7 * (n + 1)) := fun w => (ex86 (by omega) (by omega) i.1).up (by omega)
    have O2 : dep < 12 → EXPP tp t T S 89 353 (dep + 1) (12 + 7 * n + 4) := fun w => i.2
    have a := ex91 (by omega) ⟨h0, by omega⟩ O
    have b := ex89 (B := 12 + 7 * (n + 1) + 4) (by omega) (by omega) (by omega) (by omega) ⟨h0, by omega⟩ a O2 O
    exact ⟨(ex87 (B := 12 + 7 * (n + 1) + 4 + 1) (by omega) (ex88 (B := 12 + 7 * (n + 1) + 4) (by omega) b)).up (by omega), b⟩
theorem ex_any {dep : Int} (hd : 0 ≤ dep ∧ dep ≤ 12) : EXPP tp t T S 87 351 dep 102 := by
  have a := (ex_all (tp := tp) (t := t) (T := T) (S := S) (12 - dep).toNat dep (by omega) hd.1).1
  exact a.up (by omega)
/-- an exp that lies in no other: its nodes are counted from 0 on -/
theorem GD.wk (D : GD 1 tp t T S s h hr) : GD bX tp t T S s h hr := by
  obtain ⟨a, b, c, ⟨n1, ⟨n2, n3⟩, n4⟩, e⟩ := D
  exact ⟨a, b, c, ⟨n1, ⟨fun _ => n2 rfl, n3⟩, n4⟩, e⟩
theorem GOM.wk (G : GOM 1 tp t T S s h hr s1 g gr) : GOM bX tp t T S s h hr s1 g gr := ⟨G.1, G.2.1.wk, G.2.2⟩
theorem GD.x0 (D : GD bX tp t T S s h hr) : GOM 1 tp t T S s h hr s (hset h 258 3 0) (hset hr 6603 13 0) := by
  obtain ⟨⟨K, k1, k2⟩, ⟨⟨d1, d2⟩, d3, d4⟩, ⟨s1, s3⟩, N, M, L, R⟩ := D
  have kT := kTC d1
  have kS := kTR d3
  have co : ∀ o, o ≠ 258 → hset h 258 3 0 o = h o := fun o a => hs_ne a
  have c8 : ∀ i, i ≠ 3 → hset h 258 3 0 258 i = h 258 i := fun i a => hcell a
  have fo : ∀ o, o ≠ 6603 → hset hr 6603 13 0 o = hr o := fun o a => hs_ne a
  have fi : ∀ i, i ≠ 13 → hset hr 6603 13 0 6603 i = hr 6603 i := fun i a => hcell a
  have eS := fo S (by omega)
  have eT := co T (by omega)
  refine ⟨Int.le_refl _, ⟨⟨K, k1.fr (co _ (by decide)) (co _ (by decide)), k2.fr (fun i _ _ => fi i (by omega)) (fo _ (by decide))⟩, ⟨⟨d1, by rw [c8 1 (by decide)]; exact d2⟩, d3, by rw [fi 9 (by decide)]; exact d4⟩, ⟨fun o w => by rw [co o (by omega)]; exact s1 o w, fun o w => by rw [fo o (by omega)]; exact s3 o w⟩, ?_, ?_, ?_, ?_⟩, ⟨?_, fun o _ a _ _ _ _ _ _ _ => co o a, fun i _ _ => by rw [eT], fun i a _ _ => c8 i a.1⟩, ?_, fun o a _ _ _ _ _ _ _ _ _ _ _ _ _ _ _ => fo o a, fun i _ _ _ _ _ => by rw [eS], fun i _ _ _ _ _ _ _ a _ _ _ => fi i a⟩
  · unfold NBR STQ at *
    rw [eS, eT, fi 15 (by decide), fi 19 (by decide), fi 24 (by decide), fo (S + 84) (by omega), c8 6 (by decide), c8 10 (by decide), hcel1, hcel1]
    omega
  · exact M.fr (c8 6 (by decide)) (co _ (by decide)) (co _ (by decide)) (fi 15 (by decide)) (fo _ (by decide)) (fi 19 (by decide)) (fo _ (by decide)) (fo _ (by decide))
  · exact L.fr (c8 10 (by decide)) (co _ (by decide)) (co _ (by decide)) (co _ (by decide)) (by rw [eT]; exact Int.le_refl _) (PRE.of_eq (co _ (by omega))) (fo _ (by decide)) (fo _ (by decide)) (fo _ (by decide)) (fo _ (by decide)) (by rw [eS]; exact Int.le_refl _)
  · exact R.fr (by rw [eS]) (fo _ (by omega)) (fo _ (by omega)) (by rw [eS]; exact Int.le_refl _) ⟨fi 19 (by decide), fi 24 (by decide)⟩ ⟨fo _ (by decide), fo _ (by decide), fo _ (by omega), fo _ (by omega)⟩
  · unfold ECP
    rw [eT, c8 6 (by decide), c8 10 (by decide), co (T + 1430) (by omega), co 353 (by omega), co 416 (by omega), co 481 (by omega), co 544 (by omega), co 608 (by omega)]
    exact ECP.rfl'
  · unfold ERP
    rw [eS, fi 15 (by decide), fi 19 (by decide), fi 24 (by decide), fo (S + 980) (by omega), fo (S + 1044) (by omega), fo (S + 1108) (by omega), fo (S + 1174) (by omega), fo (S + 1236) (by omega), fo (S + 1300) (by omega), fo 9505 (by omega), fo 9569 (by omega), fo 9632 (by omega), fo 9696 (by omega), fo 9761 (by omega), fo 9824 (by omega), fo 9888 (by omega), fo 9952 (by omega)]
    exact ERP.rfl'
def DXW (T S : Int) (h hr g gr : HV) : Prop := (1 ≤ g T 15 - h T 15 ∧ g T 15 - h T 15 ≤ 30 ∧ gr S 15 - hr S 15 = g T 15 - h T 15 ∧ g 258 11 = h 258 11) ∧ (0 ≤ g T 17 - h T 17 ∧ g T 17 - h T 17 ≤ 3 * (g T 15 - h T 15)) ∧ (g 258 6 - h 258 6 ≤ g T 15 - h T 15 ∧ gr 6603 15 = hr 6603 15 ∧ gr 6603 19 - hr 6603 19 ≤ g T 15 - h T 15 ∧ g 258 10 - h 258 10 ≤ g T 15 - h T 15) ∧ (gr S 20 - hr S 20 ≤ g T 15 - h T 15 ∧ gr S 21 = hr S 21 ∧ gr S 22 = hr S 22) ∧ gr 6603 12 = hr 6603 12 ∧ gr (S + 84) 6 = hr (S + 84) 6
def OUTW (bX : Int) (tp : Int → Int) (t T S s : Int) (h hr g gr : HV) : Prop := (∃ s1, GOM bX tp t T S s h hr s1 g gr ∧ NVR h g gr ∧ DXW T S h hr g gr ∧ ∀ K V CL, AGK K V CL T S (h T 17) (hr S 15) (hr S 22) g gr → EXK K V CL (h T 17) (hr S 15) (g T 17) (gr S 15) (gr S 15 - hr S 15) 1 (gr S 15 - hr S 15) 0) ∨ BADO T S h hr g gr
theorem whole_any {dep : Int} (hd : 0 ≤ dep ∧ dep ≤ 12) (dc dr : Nat) (hc : 110 ≤ dc) (hr' : 110 ≤ dr) (D : GD bX tp t T S s h hr) (e : hr 6603 12 = dep ∧ h 258 11 = 0) : ∃ g gr, (∀ Q, Sp fz1 dc 86 [(3, 258), (0, dep)] h Q = Q 0 g) ∧ (∀ Q, Sp fz1 dr 349 [(3, 6603)] hr Q = Q 0 gr) ∧ OUTW bX tp t T S s h hr g gr := by
  obtain ⟨n, rfl⟩ : ∃ e, dc = e + 12 := ⟨dc - 12, by omega⟩
  obtain ⟨n2, rfl⟩ : ∃ e, dr = e + 13 := ⟨dr - 13, by omega⟩
  have X := D.x0
  have kT := kTC D.2.1.1.1
  have kS := kTR D.2.1.2.1
  have eo : ∀ o, o ≠ 258 → hset h 258 3 0 o = h o := fun o a => hs_ne a
  have ei : ∀ i, i ≠ 3 → hset h 258 3 0 258 i = h 258 i := fun i a => hcell a
  have e3 : hset h 258 3 0 258 3 = 0 := hcel1
  have ro : ∀ o, o ≠ 6603 → hset hr 6603 13 0 o = hr o := fun o a => hs_ne a
  have ri : ∀ i, i ≠ 13 → hset hr 6603 13 0 6603 i = hr 6603 i := fun i a => hcell a
  have G0 := GOM.o11 (y := hset h 258 3 0 258 11 + 1) X.2.1
  obtain ⟨v, f, gr, e1, f1, W0⟩ := ex86c (e := n) (e2 := n2) (B := 102) (by decide) (by omega) (by omega) (ex_any hd) (h0 := hset h 258 3 0) (by rw [ei 11 (by decide)]; omega) rfl G0.2.1 (by rw [hcel1, ei 11 (by decide), ri 12 (by decide)]; omega)
  have W := OUTC.o11 (y := w32 (f 258 11 - 1)) X.2.1 W0 (fun w => by rw [w, ei 11 (by decide), w32_id (by omega)]; omega)
  obtain ⟨g, hg⟩ : ∃ g, g = hset f 258 11 (w32 (f 258 11 - 1)) := ⟨_, rfl⟩
  rw [← hg] at W
  refine ⟨g, gr, fun Q => ?_, fun Q => ?_, ?_⟩
  · have z11 := e.2
    simp (implicitDefEqProofs := false) (disch := omega) only [sp86, b86_0, x_aload0, x_gf_2136, x_goto_1, x_iconst, x_ifCond_ne_1, x_pf_2072, klp_0, klp_1, klp_2, klp_3, klp_9, KC_0, KC_1, KC_2, KC_3, KC_4, ne_eq, not_false_eq_true, not_true_eq_false, true_and, and_true, and_self, implies_true, eq_self, true_imp_iff, false_implies, Int.reduceEq, Int.reduceNe, Int.reduceMod, Int.reduceMul, Int.reduceAdd, Int.reduceSub, Int.reduceLT, Int.reduceLE, Nat.reduceAdd, Nat.reduceLeDiff, Nat.reduceLT, Nat.reduceSub, reduceIte, wds_n, wds_0, wds_1, wds_2, wds_3, or_true, true_or, or_false, false_or, or_self, false_and, and_false, d_pos, d_s1, d_s2, d_s3, d_s4, d_s5, d_s6, d_s7, d_s8, Classical.not_not, z258_0, z11, e1, hs_ne, hcell, hcel1, d_s9, d_s10, d_s11, d_s12, d_s13, d_s14, d_s15, d_s16, d_s17, d_s18, d_s19, d_s20, d_s21, d_s22, d_s23, d_s24, d_s25, d_s26, d_s27, d_s28, d_s29, d_s30, le_sub1, le_T, le_F, lt_T, lt_F, eq_F, w32_T, bz0, bz1, lc_le, lc_ge, lc_lt, lc_gt, lc_eq]
    rw [q86_2]
    simp (implicitDefEqProofs := false) (disch := omega) only [b86_2, q86_2, x_aload0, x_dup0, x_dup3, x_gf_2136, x_iconst, x_isub, x_pf_2136, x_return, klp_0, klp_1, klp_2, klp_3, klp_9, KC_0, KC_1, KC_2, KC_3, KC_4, ne_eq, not_false_eq_true, not_true_eq_false, true_and, and_true, and_self, implies_true, eq_self, true_imp_iff, false_implies, Int.reduceEq, Int.reduceNe, Int.reduceMod, Int.reduceMul, Int.reduceAdd, Int.reduceSub, Int.reduceLT, Int.reduceLE, Nat.reduceAdd, Nat.reduceLeDiff, Nat.reduceLT, Nat.reduceSub, reduceIte, wds_n, wds_0, wds_1, wds_2, wds_3, or_true, true_or, or_false, false_or, or_self, false_and, and_false, d_pos, d_s1, d_s2, d_s3, d_s4, d_s5, d_s6, d_s7, d_s8, Classical.not_not, z258_0, hg, hs_ne, hcell, hcel1, d_s9, d_s10, d_s11, d_s12, d_s13, d_s14, d_s15, d_s16, d_s17, d_s18, d_s19, d_s20, d_s21, d_s22, d_s23, d_s24, d_s25, d_s26, d_s27, d_s28, d_s29, d_s30, le_sub1, le_T, le_F, lt_T, lt_F, eq_F, w32_T, bz0, bz1, lc_le, lc_ge, lc_lt, lc_gt, lc_eq]
  · have e1 := f1
    simp (implicitDefEqProofs := false) (disch := omega) only [sp349, b349_0, x_aload0, y_call350, x_iconst, x_pf_11368, x_return, klp_0, klp_1, klp_2, klp_3, klp_9, KC_0, KC_1, KC_2, KC_3, KC_4, ne_eq, not_false_eq_true, not_true_eq_false, true_and, and_true, and_self, implies_true, eq_self, true_imp_iff, false_implies, Int.reduceEq, Int.reduceNe, Int.reduceMod, Int.reduceMul, Int.reduceAdd, Int.reduceSub, Int.reduceLT, Int.reduceLE, Nat.reduceAdd, Nat.reduceLeDiff, Nat.reduceLT, Nat.reduceSub, reduceIte, wds_n, wds_0, wds_1, wds_2, wds_3, or_true, true_or, or_false, false_or, or_self, false_and, and_false, d_pos, d_s1, d_s2, d_s3, d_s4, d_s5, d_s6, d_s7, d_s8, Classical.not_not, e1, hs_ne, hcell, hcel1, d_s9, d_s10, d_s11, d_s12, d_s13, d_s14, d_s15, d_s16, d_s17, d_s18, d_s19, d_s20, d_s21, d_s22, d_s23, d_s24, d_s25, d_s26, d_s27, d_s28, d_s29, d_s30, le_sub1, le_T, le_F, lt_T, lt_F, eq_F, w32_T, bz0, bz1, lc_le, lc_ge, lc_lt, lc_gt, lc_eq]
  · have eT := eo T (by omega)
    have eS := ro S (by omega)
    rcases W with ⟨s3, W1, W2, W3, W4, W5⟩ | W
    · have n3 := W1.2.1.nb
      unfold NBR STQ at n3
      unfold DXP at W3
      rw [eT, eS] at W3
      rw [eS] at W4
      rw [ei 6 (by decide), ei 10 (by decide), ei 11 (by decide), e3, ri 15 (by decide), ri 19 (by decide), ri 12 (by decide), ro (S + 84) (by omega)] at W3
      refine .inl ⟨s3, (X.trans W1).wk, fun v v0 v1 v2 v3 => W2 v v0 (by rw [ei 6 (by decide)]; exact v1) v2 v3, by unfold DXW; omega, fun K V CL A => ?_⟩
      have z := W5 K V CL
      rw [eT, eS] at z
      exact z A
    · obtain ⟨b1, b2, b3, b4, b5, b6⟩ := W
      rw [eS] at b4 b5 b6
      exact .inr ⟨b1, X.2.2.1.2.trans b2, X.2.2.2.2.trans b3, b4, b5, b6⟩
end SM
