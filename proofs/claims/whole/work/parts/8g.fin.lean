/-! THE PURE SIDE, 154: calls in exps on both sides, whole: printed by wip/tools/gen8g.py -/
section SM
variable {bX : Int} {tp : Int → Int} {t T S s s1 s2 f : Int} {h hr g gr k kr m mr : HV} {Q : Int → HV → Prop} {d : Nat}
theorem BDC.cs {w p : Int} (B : BDC T f h) (l : h 258 10 < 400) : BDC T f (csH T h w p) ∧ FXC T h (csH T h w p) := by
  have kT := kTC B.1.1
  have f1 : ∀ o, o ≠ 258 → o ≠ 481 → o ≠ 544 → o ≠ 608 → csH T h w p o = h o := fun o a b c d => by
    unfold csH
    rw [hs_ne a, hs_ne d, hs_ne c, hs_ne b]
  have f2 : ∀ i, i ≠ 10 → csH T h w p 258 i = h 258 i := fun i a => by
    unfold csH
    rw [hcell a, hs_ne (by decide), hs_ne (by decide), hs_ne (by decide)]
  have f3 : csH T h w p 258 10 = h 258 10 + 1 := by
    unfold csH
    rw [hcel1]
  have F : FXC T h (csH T h w p) := ⟨fun o _ a _ _ b c d _ _ => f1 o a b c d, fun i _ _ => by rw [f1 T (by omega) (by omega) (by omega) (by omega)], fun i _ _ a => f2 i a⟩
  have b6 := B.2.2.2.2.2
  exact ⟨B.fr F (f1 _ (by decide) (by decide) (by decide) (by decide)) (by rw [f1 T (by omega) (by omega) (by omega) (by omega)]; exact B.2.2.2.1) (by rw [f2 6 (by decide)]; exact B.2.2.2.2.1) (by rw [f3]; omega), F⟩
/-- the end of a call behind a fault -/
theorem x109 {dep w p x : Int} {lx : AV} {e : Nat} (B : BDC T f h) : ∃ g, BDC T f g ∧ FXC T h g ∧ ∀ Q, G fz1 (e + 11) 109 2 [(3, 258), (1, w), (9, 0), (0, p), (0, dep), (0, x), lx] [] h Q = Q 0 g := by
  have hT := B.1.1
  have kT := kTC hT
  have sg : ∀ Q, Sp fz1 (e + 10) 58 [(3, 258), (0, 41)] h Q = Q 0 h := fun Q => b58 B
  have hp := B.1.2
  obtain ⟨B1, F1⟩ := B.em (x := 13)
  have em : ∀ Q, Sp fz1 (e + 10) 82 [(3, T), (0, 13)] h Q = Q 0 (emH T h 13) := fun Q => q82 hT B.2.2.2.1.1
  generalize emH T h 13 = a at *
  have ap := B1.1.2
  have a10 := B1.2.2.2.2.2
  by_cases l : a 258 10 < 400
  · obtain ⟨B2, F2⟩ := B1.cs (w := w) (p := p) l
    obtain ⟨B3, F3⟩ := B2.em (x := -1)
    obtain ⟨B4, F4⟩ := B3.em (x := x)
    have cl : ∀ (d : Nat) (b : HV) Q, Sp fz1 d 77 [(3, T)] b Q = Q (b T 17) b := fun d b Q => q77 hT
    have em2 : ∀ Q, Sp fz1 (e + 10) 93 [(3, 258), (0, -1), (0, x)] (hset (hset (hset (hset a 481 (a 258 10) w) 544 (a 258 10) p) 608 (a 258 10) (a T 17)) 258 10 (a 258 10 + 1)) Q = Q 0 (emH T (emH T (csH T a w p) (-1)) x) := fun Q => q93 hT B2.1.2 B2.2.2.2.1
    refine ⟨_, B4, F1.trans (F2.trans (F3.trans F4)), fun Q => ?_⟩
    rw [q109_2]
    simp (implicitDefEqProofs := false) (disch := omega) only [b109_2, b109_3, q109_3, x_aload0, y_call58, y_call77, y_call82, y_call93, x_dup0, x_dup3, x_gc_2107, x_gc_2115, x_gc_2123, x_gf_2059, x_gf_2128, x_goto_3, x_iadd, x_iastore, x_iconst, x_if_icmp_ge_3, x_iload3, x_iload5, x_lastore, x_lload1, x_pf_2128, x_return, klp_0, klp_1, klp_2, klp_3, klp_9, KC_0, KC_1, KC_2, KC_3, KC_4, ne_eq, not_false_eq_true, not_true_eq_false, true_and, and_true, and_self, implies_true, eq_self, true_imp_iff, false_implies, Int.reduceEq, Int.reduceNe, Int.reduceMod, Int.reduceMul, Int.reduceAdd, Int.reduceSub, Int.reduceLT, Int.reduceLE, Nat.reduceAdd, Nat.reduceLeDiff, Nat.reduceLT, Nat.reduceSub, reduceIte, wds_n, wds_0, wds_1, wds_2, wds_3, or_true, true_or, or_false, false_or, or_self, false_and, and_false, d_pos, d_s1, d_s2, d_s3, d_s4, d_s5, d_s6, d_s7, d_s8, Classical.not_not, z258_0, z258_7, z481_l, z258_8, z544_l, z258_9, z608_l, TC_0 hT, TC_k hT, sg, hp, em, ap, cl, em2, d_s9, d_s10, d_s11, d_s12, d_s13, d_s14, d_s15, d_s16, d_s17, d_s18, d_s19, d_s20, d_s21, d_s22, d_s23, d_s24, d_s25, d_s26, d_s27, d_s28, d_s29, d_s30, hs_ne, hcell, hcel1, le_sub1, le_T, le_F, lt_T, lt_F, eq_F, w32_T, bz0, bz1, lc_le, lc_ge, lc_lt, lc_gt, lc_eq]
  · obtain ⟨B3, F3⟩ := B1.em (x := -1)
    obtain ⟨B4, F4⟩ := B3.em (x := x)
    have em2 : ∀ Q, Sp fz1 (e + 10) 93 [(3, 258), (0, -1), (0, x)] a Q = Q 0 (emH T (emH T a (-1)) x) := fun Q => q93 hT B1.1.2 B1.2.2.2.1
    refine ⟨_, B4, F1.trans (F3.trans F4), fun Q => ?_⟩
    rw [q109_2]
    simp (implicitDefEqProofs := false) (disch := omega) only [b109_2, b109_3, q109_3, x_aload0, y_call58, y_call77, y_call82, y_call93, x_dup0, x_dup3, x_gc_2107, x_gc_2115, x_gc_2123, x_gf_2059, x_gf_2128, x_goto_3, x_iadd, x_iastore, x_iconst, x_if_icmp_ge_3, x_iload3, x_iload5, x_lastore, x_lload1, x_pf_2128, x_return, klp_0, klp_1, klp_2, klp_3, klp_9, KC_0, KC_1, KC_2, KC_3, KC_4, ne_eq, not_false_eq_true, not_true_eq_false, true_and, and_true, and_self, implies_true, eq_self, true_imp_iff, false_implies, Int.reduceEq, Int.reduceNe, Int.reduceMod, Int.reduceMul, Int.reduceAdd, Int.reduceSub, Int.reduceLT, Int.reduceLE, Nat.reduceAdd, Nat.reduceLeDiff, Nat.reduceLT, Nat.reduceSub, reduceIte, wds_n, wds_0, wds_1, wds_2, wds_3, or_true, true_or, or_false, false_or, or_self, false_and, and_false, d_pos, d_s1, d_s2, d_s3, d_s4, d_s5, d_s6, d_s7, d_s8, Classical.not_not, z258_0, z258_7, z481_l, z258_8, z544_l, z258_9, z608_l, TC_0 hT, TC_k hT, sg, hp, em, ap, em2, d_s9, d_s10, d_s11, d_s12, d_s13, d_s14, d_s15, d_s16, d_s17, d_s18, d_s19, d_s20, d_s21, d_s22, d_s23, d_s24, d_s25, d_s26, d_s27, d_s28, d_s29, d_s30, hs_ne, hcell, hcel1, le_sub1, le_T, le_F, lt_T, lt_F, eq_F, w32_T, bz0, bz1, lc_le, lc_ge, lc_lt, lc_gt, lc_eq]
/-- the end of a call -/
theorem fin_call {dep w p x : Int} {lx : AV} {e e2 : Nat} (D : GD 1 tp t T S s h hr) (hd : hr 6603 12 = dep + 1) (hdp : 0 ≤ dep ∧ dep < 12) (hx : 0 ≤ x ∧ x ≤ 31) (p0 : 0 ≤ p) (l1 : 2 * (h T 17 + 3) ≤ 6 * h T 15 + s) (l2 : hr S 15 + 1 ≤ 11 * h T 15 + hr (S + 84) 6) (l3 : h 258 10 + 1 ≤ h T 15) : ∃ g gr, (∀ Q, G fz1 (e + 11) 109 2 [(3, 258), (1, w), (9, 0), (0, p), (0, dep), (0, x), lx] [] h Q = Q 0 g) ∧ (∀ Q, G fz1 (e2 + 13) 357 4 [(3, 6603), (1, w), (9, 0), (0, p), (0, x)] [] hr Q = Q 0 gr) ∧ ((∃ s1, GOM 1 tp t T S s h hr s1 g gr ∧ NC T h g 0 0 3 0 1 ∧ NR S hr gr 1 0 0 0 (-1) 0 0 ∧ (CEL T g (h T 17) 13 ∧ CEL T g (h T 17 + 2) x) ∧ (g 608 (h 258 10) = h T 17 + 1 ∧ gr 9888 (h 258 10) = hr S 15) ∧ RCO S gr (hr S 15) 7 0 0) ∨ BADO T S h hr g gr) := by
  have hT := D.2.1.1.1
  have kT := kTC hT
  have kS := kTR D.2.1.2.1
  have N := D.nb
  unfold NBR STQ at N
  obtain ⟨g1, gr1, e1, f1, X⟩ := D.sign (c := 41) (by decide) (e + 1) (e2 + 9)
  rcases X with ⟨-, s1, X1, X2, X3, X4⟩ | ⟨-, X1, X2, X3, X4, X5, X6, X7⟩
  · have X3' := X3
    have X4' := X4
    unfold NC at X3'
    unfold NR at X4'
    obtain ⟨U1, U2, U3⟩ := X2.2.1.d12 (x := dep)
    have U2' := U2
    unfold NR at U2'
    have D2 := U1.2.1
    have N2 := D2.nb
    unfold NBR STQ at N2
    obtain ⟨V1, V2, V3, V4, V5, V6⟩ := D2.call (w := w) (p := p) (n := x) hx.1 p0 (by omega) (by omega) (by omega)
    have sb12 : gr1 6603 12 - 1 = dep := by omega
    have gd := X2.2.1
    have q1 : ∀ (d : Nat) Q, Sp fz1 d 325 [(3, 6603)] (hset gr1 6603 12 dep) Q = Q 1 (hset gr1 6603 12 dep) := fun d Q => v325g D2
    have em : ∀ Q, Sp fz1 (e + 10) 82 [(3, T), (0, 13)] g1 Q = Q 0 (emH T g1 13) := fun Q => q82 hT (by omega)
    have e17 : emH T g1 13 T 17 = g1 T 17 + 1 := em_17 (by have := D2.sb; omega)
    have a8 : emH T g1 13 258 = g1 258 := em_ne (by omega) (by omega)
    have hp := gd.2.1.1.2
    have clr : clR S (hset gr1 6603 12 dep) w p x = hset (hset (cdR S (hset (hset (hset (hset gr1 6603 12 dep) 9761 (gr1 6603 24) w) 9824 (gr1 6603 24) p) 9952 (gr1 6603 24) x) 7 0 0) 9888 (gr1 6603 24) (gr1 S 15)) 6603 24 (gr1 6603 24 + 1) := by
      unfold clR
      rw [show hset gr1 6603 12 dep 6603 24 = gr1 6603 24 from hcell (by decide), show hset gr1 6603 12 dep S 15 = gr1 S 15 by rw [hs_ne (by omega)]]
    have S2 := D2.sb
    refine ⟨clH T g1 w p x, clR S (hset gr1 6603 12 dep) w p x, fun Q => ?_, fun Q => ?_, .inl ⟨s1, (X2.trans U1).trans V1, ?_, ?_, ?_, ?_, ?_⟩⟩
    · have hcl : clH T g1 w p x = emH T (emH T (csH T (emH T g1 13) w p) (-1)) x := rfl
      rw [hcl]
      have ap : emH T g1 13 258 1 = T := by rw [a8]; exact hp
      have a10 : emH T g1 13 258 10 = g1 258 10 := by rw [a8]
      have hcs : csH T (emH T g1 13) w p 258 1 = T ∧ (0 ≤ csH T (emH T g1 13) w p T 17 ∧ csH T (emH T g1 13) w p T 17 ≤ 2400) := by
        unfold csH
        rw [hcell (by decide), hs_ne (by decide), hs_ne (by decide), hs_ne (by decide), hs_ne (a := T) (by omega), hs_ne (a := T) (by omega), hs_ne (a := T) (by omega), hs_ne (a := T) (by omega)]
        exact ⟨ap, by omega⟩
      generalize emH T g1 13 = a at *
      have cl : ∀ (d : Nat) (b : HV) Q, Sp fz1 d 77 [(3, T)] b Q = Q (b T 17) b := fun d b Q => q77 hT
      have em2 : ∀ Q, Sp fz1 (e + 10) 93 [(3, 258), (0, -1), (0, x)] (hset (hset (hset (hset a 481 (a 258 10) w) 544 (a 258 10) p) 608 (a 258 10) (a T 17)) 258 10 (a 258 10 + 1)) Q = Q 0 (emH T (emH T (csH T a w p) (-1)) x) := fun Q => q93 hT hcs.1 hcs.2
      have b10 : 0 ≤ a 258 10 ∧ a 258 10 < 400 := by omega
      clear a8 hcl
      rw [q109_2]
      simp (implicitDefEqProofs := false) (disch := omega) only [b109_2, b109_3, q109_3, x_aload0, y_call58, y_call77, y_call82, y_call93, x_dup0, x_dup3, x_gc_2107, x_gc_2115, x_gc_2123, x_gf_2059, x_gf_2128, x_goto_3, x_iadd, x_iastore, x_iconst, x_if_icmp_ge_3, x_iload3, x_iload5, x_lastore, x_lload1, x_pf_2128, x_return, klp_0, klp_1, klp_2, klp_3, klp_9, KC_0, KC_1, KC_2, KC_3, KC_4, ne_eq, not_false_eq_true, not_true_eq_false, true_and, and_true, and_self, implies_true, eq_self, true_imp_iff, false_implies, Int.reduceEq, Int.reduceNe, Int.reduceMod, Int.reduceMul, Int.reduceAdd, Int.reduceSub, Int.reduceLT, Int.reduceLE, Nat.reduceAdd, Nat.reduceLeDiff, Nat.reduceLT, Nat.reduceSub, reduceIte, wds_n, wds_0, wds_1, wds_2, wds_3, or_true, true_or, or_false, false_or, or_self, false_and, and_false, d_pos, d_s1, d_s2, d_s3, d_s4, d_s5, d_s6, d_s7, d_s8, Classical.not_not, z258_0, z258_7, z481_l, z258_8, z544_l, z258_9, z608_l, TC_0 hT, TC_k hT, e1, hp, em, ap, cl, em2, d_s9, d_s10, d_s11, d_s12, d_s13, d_s14, d_s15, d_s16, d_s17, d_s18, d_s19, d_s20, d_s21, d_s22, d_s23, d_s24, d_s25, d_s26, d_s27, d_s28, d_s29, d_s30, hs_ne, hcell, hcel1, le_sub1, le_T, le_F, lt_T, lt_F, eq_F, w32_T, bz0, bz1, lc_le, lc_ge, lc_lt, lc_gt, lc_eq]
    · rw [clr]
      have c3 : ∀ (b : HV) (x2 : Int), cdR S b 7 0 0 6603 x2 = b 6603 x2 := fun b x2 => by
        unfold cdR
        rw [hs_ne (by omega), hs_ne (by omega), hs_ne (by omega), hs_ne (by omega)]
      have b24 : 0 ≤ gr1 6603 24 ∧ gr1 6603 24 < 400 := by
        have h24 : hset gr1 6603 12 dep 6603 24 = gr1 6603 24 := hcell (by decide)
        omega
      have h9 : gr1 6603 9 = S := gd.2.1.2.2
      have cd : ∀ Q, Sp fz1 (e2 + 12) 347 [(3, 6603), (0, 7), (0, 0), (0, 0)] (hset (hset (hset (hset gr1 6603 12 dep) 9761 (gr1 6603 24) w) 9824 (gr1 6603 24) p) 9952 (gr1 6603 24) x) Q = Q (gr1 S 15) (cdR S (hset (hset (hset (hset gr1 6603 12 dep) 9761 (gr1 6603 24) w) 9824 (gr1 6603 24) p) 9952 (gr1 6603 24) x) 7 0 0) := fun Q => by
        have eq : hset (hset (hset (hset gr1 6603 12 dep) 9761 (gr1 6603 24) w) 9824 (gr1 6603 24) p) 9952 (gr1 6603 24) x S 15 = gr1 S 15 := by rw [hs_ne (by omega), hs_ne (by omega), hs_ne (by omega), hs_ne (by omega)]
        rw [v347 (S := S) gd.2.1.2.1 (by rw [hs_ne (by decide), hs_ne (by decide), hs_ne (by decide), hcell (by decide)]; exact h9) (by rw [eq]; omega), eq]
      rw [q357_4]
      simp (implicitDefEqProofs := false) (disch := omega) only [b357_4, b357_5, q357_5, x_aload0, y_call325, y_call333, y_call347, x_dup0, x_dup3, x_gc_11427, x_gc_11435, x_gc_11443, x_gc_11451, x_gf_11360, x_gf_11456, x_goto_5, x_iadd, x_iastore, x_iconst, x_ifCond_eq_5, x_iload3, x_iload4, x_isub, x_lastore, x_lload1, x_pf_11360, x_pf_11456, x_return, klp_0, klp_1, klp_2, klp_3, klp_9, KC_0, KC_1, KC_2, KC_3, KC_4, ne_eq, not_false_eq_true, not_true_eq_false, true_and, and_true, and_self, implies_true, eq_self, true_imp_iff, false_implies, Int.reduceEq, Int.reduceNe, Int.reduceMod, Int.reduceMul, Int.reduceAdd, Int.reduceSub, Int.reduceLT, Int.reduceLE, Nat.reduceAdd, Nat.reduceLeDiff, Nat.reduceLT, Nat.reduceSub, reduceIte, wds_n, wds_0, wds_1, wds_2, wds_3, or_true, true_or, or_false, false_or, or_self, false_and, and_false, d_pos, d_s1, d_s2, d_s3, d_s4, d_s5, d_s6, d_s7, d_s8, Classical.not_not, z6603_20, z9761_l, z6603_21, z9824_l, z6603_22, z9888_l, z6603_23, z9952_l, f1, sb12, q1, cd, c3, h9, d_s9, d_s10, d_s11, d_s12, d_s13, d_s14, d_s15, d_s16, d_s17, d_s18, d_s19, d_s20, d_s21, d_s22, d_s23, d_s24, d_s25, d_s26, d_s27, d_s28, d_s29, d_s30, hs_ne, hcell, hcel1, le_sub1, le_T, le_F, lt_T, lt_F, eq_F, w32_T, bz0, bz1, lc_le, lc_ge, lc_lt, lc_gt, lc_eq]
    · unfold NC at *
      omega
    · unfold NR at *
      omega
    · rw [show h T 17 = g1 T 17 by omega]
      exact V4
    · rw [show h 258 10 = g1 258 10 by omega, show h T 17 = g1 T 17 by omega, show hr S 15 = hset gr1 6603 12 dep S 15 by omega]
      exact V5
    · rw [show hr S 15 = hset gr1 6603 12 dep S 15 by omega]
      exact V6
  · obtain ⟨U1, U2, U3, U4⟩ := X2.d12 (x := dep)
    have sb12 : gr1 6603 12 - 1 = dep := by omega
    have u14 : hset gr1 6603 12 dep S 14 = gr1 S 14 := by rw [U3]
    have u15 : hset gr1 6603 12 dep S 15 = gr1 S 15 := by rw [U3]
    have q2 : ∀ (d : Nat) Q, Sp fz1 d 325 [(3, 6603)] (hset gr1 6603 12 dep) Q = Q 0 (hset gr1 6603 12 dep) := fun d Q => v325x U1
    have hp := X1.1.2
    obtain ⟨B1, F1⟩ := X1.em (x := 13)
    have em : ∀ Q, Sp fz1 (e + 10) 82 [(3, T), (0, 13)] g1 Q = Q 0 (emH T g1 13) := fun Q => q82 hT X1.2.2.2.1.1
    generalize emH T g1 13 = a at *
    have ap := B1.1.2
    have b10 := B1.2.2.2.2.2
    have R : ∀ Q, G fz1 (e2 + 13) 357 4 [(3, 6603), (1, w), (9, 0), (0, p), (0, x)] [] hr Q = Q 0 (hset gr1 6603 12 dep) := fun Q => by
      rw [q357_4]
      simp (implicitDefEqProofs := false) (disch := omega) only [b357_4, b357_5, q357_5, x_aload0, y_call325, y_call333, y_call347, x_dup0, x_dup3, x_gc_11427, x_gc_11435, x_gc_11443, x_gc_11451, x_gf_11360, x_gf_11456, x_goto_5, x_iadd, x_iastore, x_iconst, x_ifCond_eq_5, x_iload3, x_iload4, x_isub, x_lastore, x_lload1, x_pf_11360, x_pf_11456, x_return, klp_0, klp_1, klp_2, klp_3, klp_9, KC_0, KC_1, KC_2, KC_3, KC_4, ne_eq, not_false_eq_true, not_true_eq_false, true_and, and_true, and_self, implies_true, eq_self, true_imp_iff, false_implies, Int.reduceEq, Int.reduceNe, Int.reduceMod, Int.reduceMul, Int.reduceAdd, Int.reduceSub, Int.reduceLT, Int.reduceLE, Nat.reduceAdd, Nat.reduceLeDiff, Nat.reduceLT, Nat.reduceSub, reduceIte, wds_n, wds_0, wds_1, wds_2, wds_3, or_true, true_or, or_false, false_or, or_self, false_and, and_false, d_pos, d_s1, d_s2, d_s3, d_s4, d_s5, d_s6, d_s7, d_s8, Classical.not_not, z6603_20, z9761_l, z6603_21, z9824_l, z6603_22, z9888_l, z6603_23, z9952_l, f1, sb12, q2, d_s9, d_s10, d_s11, d_s12, d_s13, d_s14, d_s15, d_s16, d_s17, d_s18, d_s19, d_s20, d_s21, d_s22, d_s23, d_s24, d_s25, d_s26, d_s27, d_s28, d_s29, d_s30, hs_ne, hcell, hcel1, le_sub1, le_T, le_F, lt_T, lt_F, eq_F, w32_T, bz0, bz1, lc_le, lc_ge, lc_lt, lc_gt, lc_eq]
    by_cases l : a 258 10 < 400
    · obtain ⟨B2, F2⟩ := B1.cs (w := w) (p := p) l
      obtain ⟨B3, F3⟩ := B2.em (x := -1)
      obtain ⟨B4, F4⟩ := B3.em (x := x)
      have cl : ∀ (d : Nat) (b : HV) Q, Sp fz1 d 77 [(3, T)] b Q = Q (b T 17) b := fun d b Q => q77 hT
      have em2 : ∀ Q, Sp fz1 (e + 10) 93 [(3, 258), (0, -1), (0, x)] (hset (hset (hset (hset a 481 (a 258 10) w) 544 (a 258 10) p) 608 (a 258 10) (a T 17)) 258 10 (a 258 10 + 1)) Q = Q 0 (emH T (emH T (csH T a w p) (-1)) x) := fun Q => q93 hT B2.1.2 B2.2.2.2.1
      refine ⟨emH T (emH T (csH T a w p) (-1)) x, hset gr1 6603 12 dep, fun Q => ?_, R, .inr ⟨⟨_, B4, U1⟩, X3.trans (F1.trans (F2.trans (F3.trans F4))), X4.trans U2, by omega, by omega, by omega⟩⟩
      rw [q109_2]
      simp (implicitDefEqProofs := false) (disch := omega) only [b109_2, b109_3, q109_3, x_aload0, y_call58, y_call77, y_call82, y_call93, x_dup0, x_dup3, x_gc_2107, x_gc_2115, x_gc_2123, x_gf_2059, x_gf_2128, x_goto_3, x_iadd, x_iastore, x_iconst, x_if_icmp_ge_3, x_iload3, x_iload5, x_lastore, x_lload1, x_pf_2128, x_return, klp_0, klp_1, klp_2, klp_3, klp_9, KC_0, KC_1, KC_2, KC_3, KC_4, ne_eq, not_false_eq_true, not_true_eq_false, true_and, and_true, and_self, implies_true, eq_self, true_imp_iff, false_implies, Int.reduceEq, Int.reduceNe, Int.reduceMod, Int.reduceMul, Int.reduceAdd, Int.reduceSub, Int.reduceLT, Int.reduceLE, Nat.reduceAdd, Nat.reduceLeDiff, Nat.reduceLT, Nat.reduceSub, reduceIte, wds_n, wds_0, wds_1, wds_2, wds_3, or_true, true_or, or_false, false_or, or_self, false_and, and_false, d_pos, d_s1, d_s2, d_s3, d_s4, d_s5, d_s6, d_s7, d_s8, Classical.not_not, z258_0, z258_7, z481_l, z258_8, z544_l, z258_9, z608_l, TC_0 hT, TC_k hT, e1, hp, em, ap, cl, em2, d_s9, d_s10, d_s11, d_s12, d_s13, d_s14, d_s15, d_s16, d_s17, d_s18, d_s19, d_s20, d_s21, d_s22, d_s23, d_s24, d_s25, d_s26, d_s27, d_s28, d_s29, d_s30, hs_ne, hcell, hcel1, le_sub1, le_T, le_F, lt_T, lt_F, eq_F, w32_T, bz0, bz1, lc_le, lc_ge, lc_lt, lc_gt, lc_eq]
    · obtain ⟨B3, F3⟩ := B1.em (x := -1)
      obtain ⟨B4, F4⟩ := B3.em (x := x)
      have em2 : ∀ Q, Sp fz1 (e + 10) 93 [(3, 258), (0, -1), (0, x)] a Q = Q 0 (emH T (emH T a (-1)) x) := fun Q => q93 hT B1.1.2 B1.2.2.2.1
      refine ⟨emH T (emH T a (-1)) x, hset gr1 6603 12 dep, fun Q => ?_, R, .inr ⟨⟨_, B4, U1⟩, X3.trans (F1.trans (F3.trans F4)), X4.trans U2, by omega, by omega, by omega⟩⟩
      rw [q109_2]
      simp (implicitDefEqProofs := false) (disch := omega) only [b109_2, b109_3, q109_3, x_aload0, y_call58, y_call77, y_call82, y_call93, x_dup0, x_dup3, x_gc_2107, x_gc_2115, x_gc_2123, x_gf_2059, x_gf_2128, x_goto_3, x_iadd, x_iastore, x_iconst, x_if_icmp_ge_3, x_iload3, x_iload5, x_lastore, x_lload1, x_pf_2128, x_return, klp_0, klp_1, klp_2, klp_3, klp_9, KC_0, KC_1, KC_2, KC_3, KC_4, ne_eq, not_false_eq_true, not_true_eq_false, true_and, and_true, and_self, implies_true, eq_self, true_imp_iff, false_implies, Int.reduceEq, Int.reduceNe, Int.reduceMod, Int.reduceMul, Int.reduceAdd, Int.reduceSub, Int.reduceLT, Int.reduceLE, Nat.reduceAdd, Nat.reduceLeDiff, Nat.reduceLT, Nat.reduceSub, reduceIte, wds_n, wds_0, wds_1, wds_2, wds_3, or_true, true_or, or_false, false_or, or_self, false_and, and_false, d_pos, d_s1, d_s2, d_s3, d_s4, d_s5, d_s6, d_s7, d_s8, Classical.not_not, z258_0, z258_7, z481_l, z258_8, z544_l, z258_9, z608_l, TC_0 hT, TC_k hT, e1, hp, em, ap, em2, d_s9, d_s10, d_s11, d_s12, d_s13, d_s14, d_s15, d_s16, d_s17, d_s18, d_s19, d_s20, d_s21, d_s22, d_s23, d_s24, d_s25, d_s26, d_s27, d_s28, d_s29, d_s30, hs_ne, hcell, hcel1, le_sub1, le_T, le_F, lt_T, lt_F, eq_F, w32_T, bz0, bz1, lc_le, lc_ge, lc_lt, lc_gt, lc_eq]
end SM
