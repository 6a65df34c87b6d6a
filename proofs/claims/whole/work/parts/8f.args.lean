/-! THE PURE SIDE, 153: calls in exps on both sides: printed by wip/tools/gen8f.py -/
section SM
variable {bX : Int} {tp : Int → Int} {t T S s s1 s2 f : Int} {h hr g gr k kr : HV} {Q : Int → HV → Prop} {d : Nat}
/-- the exps of a call, behind the first one -/
theorem lpArg {dep w p : Int} {B e e2 : Nat} (he : B ≤ e + 10) (he2 : B ≤ e2 + 12) (O : EXPQ tp t T S (dep + 1) B) (hdp : 0 ≤ dep ∧ dep < 12) : ∀ (m : Nat) (j : Int) (s : Int) (h hr : HV), j + m = 31 → 1 ≤ j → j ≤ h 258 3 → GD 1 tp t T S s h hr → hr 6603 12 = dep + 1 ∧ 1 ≤ h 258 11 ∧ h 258 11 ≤ dep + 1 → ∃ (x y n' : Int) (g gr : HV), (∀ Q, G fz1 (e + 11) 109 1 [(3, 258), (1, w), (9, 0), (0, p), (0, dep), (0, j), (0, j - 1)] [] h Q = G fz1 (e + 11) 109 2 [(3, 258), (1, w), (9, 0), (0, p), (0, dep), (0, x), (0, n')] [] g Q) ∧ (∀ Q, G fz1 (e2 + 13) 357 3 [(3, 6603), (1, w), (9, 0), (0, p), (0, j)] [] hr Q = G fz1 (e2 + 13) 357 4 [(3, 6603), (1, w), (9, 0), (0, p), (0, y)] [] gr Q) ∧ ((x = y ∧ (j ≤ x ∧ x ≤ 30) ∧ ∃ s1, GOM 1 tp t T S s h hr s1 g gr ∧ NVR h g gr ∧ DXP T S h hr g gr ∧ x - j ≤ gr S 15 - hr S 15 ∧ ∀ K V CL, AGK K V CL T S (h T 17) (hr S 15) (hr S 22) g gr → EXK K V CL (h T 17) (hr S 15) (g T 17) (gr S 15) (gr S 15 - hr S 15) (x - j) (gr S 15 - hr S 15) 0) ∨ BADO T S h hr g gr)
  | 0, j, s, h, hr, hm, h0, hn, D, hd => by
    have N := D.nb
    unfold NBR STQ at N
    omega
  | m + 1, j, s, h, hr, hm, h0, hn, D, hd => by
    have N := D.nb
    unfold NBR STQ at N
    by_cases z : sgP tp t s 44
    · obtain ⟨g1, gr1, X1, X2, -, -, X3, X4, -, -, e1, f1⟩ := D.nx (e + 2) (e2 + 10)
      have X3' := X3
      have X4' := X4
      unfold NC at X3'
      unfold NR at X4'
      have q1 : ∀ (d : Nat) Q, Sp fz1 d 325 [(3, 6603)] hr Q = Q 1 hr := fun d Q => v325g D
      have i1 : ∀ (d : Nat) Q, Sp fz1 d 334 [(3, 6603), (0, 44)] hr Q = Q 1 hr := fun d Q => v334y D z
      have i2 : ∀ (d : Nat) Q, Sp fz1 d 59 [(3, 129), (0, 44)] h Q = Q 1 h := fun d Q => c59y D (by decide) z
      obtain ⟨k, kr, e3, f3, V⟩ := O (e + 10) (e2 + 12) _ g1 gr1 he he2 X1.2.1 (by omega)
      rcases V with ⟨s3, V1, V2, V3, V4, V5⟩ | V
      · have V3' := V3
        unfold DXP at V3'
        obtain ⟨x, y, n', g, gr, e4, f4, W⟩ := lpArg he he2 O hdp m (j + 1) s3 k kr (by omega) (by omega) (by omega) V1.2.1 (by omega)
        refine ⟨x, y, n', g, gr, fun Q => ?_, fun Q => ?_, ?_⟩
        · have e4' := e4 Q
          rw [show j + 1 - 1 = j by omega] at e4'
          have ej : j - 1 + 1 = j := by omega
          rw [q109_1]
          simp (implicitDefEqProofs := false) (disch := omega) only [b109_1, x_aload0, y_call28, y_call59, y_call86, x_gc_2051, x_goto_1, x_iadd, x_iconst, x_ifCond_eq_2, x_if_icmp_ge_2, x_iinc5, x_iinc6, x_iload4, x_iload6, klp_0, klp_1, klp_2, klp_3, klp_9, KC_0, KC_1, KC_2, KC_3, KC_4, ne_eq, not_false_eq_true, not_true_eq_false, true_and, and_true, and_self, implies_true, eq_self, true_imp_iff, false_implies, Int.reduceEq, Int.reduceNe, Int.reduceMod, Int.reduceMul, Int.reduceAdd, Int.reduceSub, Int.reduceLT, Int.reduceLE, Nat.reduceAdd, Nat.reduceLeDiff, Nat.reduceLT, Nat.reduceSub, reduceIte, wds_n, wds_0, wds_1, wds_2, wds_3, or_true, true_or, or_false, false_or, or_self, false_and, and_false, d_pos, d_s1, d_s2, d_s3, d_s4, d_s5, d_s6, d_s7, d_s8, Classical.not_not, z258_0, z258_7, z481_l, z258_8, z544_l, z258_9, z608_l, i2, e1, e3, ej, d_s9, d_s10, d_s11, d_s12, d_s13, d_s14, d_s15, d_s16, d_s17, d_s18, d_s19, d_s20, d_s21, d_s22, d_s23, d_s24, d_s25, d_s26, d_s27, d_s28, d_s29, d_s30, le_sub1, le_T, le_F, lt_T, lt_F, eq_F, w32_T, bz0, bz1, lc_le, lc_ge, lc_lt, lc_gt, lc_eq]
          exact e4'
        · have f4' := f4 Q
          rw [q357_3]
          simp (implicitDefEqProofs := false) (disch := omega) only [b357_3, x_aload0, y_call321, y_call325, y_call334, y_call350, x_goto_3, x_iconst, x_ifCond_eq_4, x_iinc4, klp_0, klp_1, klp_2, klp_3, klp_9, KC_0, KC_1, KC_2, KC_3, KC_4, ne_eq, not_false_eq_true, not_true_eq_false, true_and, and_true, and_self, implies_true, eq_self, true_imp_iff, false_implies, Int.reduceEq, Int.reduceNe, Int.reduceMod, Int.reduceMul, Int.reduceAdd, Int.reduceSub, Int.reduceLT, Int.reduceLE, Nat.reduceAdd, Nat.reduceLeDiff, Nat.reduceLT, Nat.reduceSub, reduceIte, wds_n, wds_0, wds_1, wds_2, wds_3, or_true, true_or, or_false, false_or, or_self, false_and, and_false, d_pos, d_s1, d_s2, d_s3, d_s4, d_s5, d_s6, d_s7, d_s8, Classical.not_not, z6603_20, z9761_l, z6603_21, z9824_l, z6603_22, z9888_l, z6603_23, z9952_l, q1, i1, f1, f3, d_s9, d_s10, d_s11, d_s12, d_s13, d_s14, d_s15, d_s16, d_s17, d_s18, d_s19, d_s20, d_s21, d_s22, d_s23, d_s24, d_s25, d_s26, d_s27, d_s28, d_s29, d_s30, le_sub1, le_T, le_F, lt_T, lt_F, eq_F, w32_T, bz0, bz1, lc_le, lc_ge, lc_lt, lc_gt, lc_eq]
          exact f4'
        · rcases W with ⟨w1, w2, s4, W1, W2, W3, W4, W5⟩ | W
          · have W3' := W3
            unfold DXP at W3'
            have kN := V1.2.1.nb
            have wN := W1.2.1.nb
            unfold NBR STQ at kN wN
            refine .inl ⟨w1, by omega, s4, (X1.trans V1).trans W1, ((NVR.same (gr := gr1) (show g1 258 6 = h 258 6 by omega)).trans V1.2.2.1.1 V1.2.2.2.1 V2).trans W1.2.2.1.1 W1.2.2.2.1 W2, by unfold DXP; omega, by omega, fun K V CL A => ?_⟩
            have P2 := W5 K V CL (A.lo (by omega) (by omega) (by omega))
            have A1 := A.sub (h := k) (hr := kr) (by omega) (W1.2.2.1.1.lo (c2 := h T 17) (by omega)) (W1.2.2.2.1.lo (r2 := hr S 15) (t2 := hr S 22) (by omega) (by omega)) (Int.le_refl _) (Int.le_refl _) (Int.le_refl _)
            have P1 := V5 K V CL (A1.lo (by omega) (by omega) (by omega))
            rw [show g1 T 17 = h T 17 by omega, show gr1 S 15 = hr S 15 by omega] at P1
            exact P1.seq P2 (by omega) (by omega) (by omega) (by omega) (by omega) (by omega) (by omega) (by omega) (by omega)
          · have gN := X1.2.1.nb
            have kN := V1.2.1.nb
            unfold NBR STQ at gN kN
            obtain ⟨b1, b2, b3, b4, b5, b6⟩ := W
            exact .inr ⟨b1, (X1.trans V1).2.2.1.2.trans b2, (X1.trans V1).2.2.2.2.trans b3, by omega, by omega, by omega⟩
      · obtain ⟨⟨f, B1, B2⟩, F1, F2, b3, b4, b5⟩ := V
        have gN := X1.2.1.nb
        unfold NBR STQ at gN
        have k2 := B1.k.2.2
        have q2 : ∀ (d : Nat) Q, Sp fz1 d 325 [(3, 6603)] kr Q = Q 0 kr := fun d Q => v325x B2
        have i3 : ∀ (d : Nat) Q, Sp fz1 d 59 [(3, 129), (0, 44)] k Q = Q 0 k := fun d Q => c59b k2
        refine ⟨j + 1, j + 1, j, k, kr, fun Q => ?_, fun Q => ?_, .inr ⟨⟨f, B1, B2⟩, X1.2.2.1.2.trans F1, X1.2.2.2.2.trans F2, by omega, by omega, by omega⟩⟩
        · have ej : j - 1 + 1 = j := by omega
          by_cases zz : j < 30
          · rw [q109_1]
            simp (implicitDefEqProofs := false) (disch := omega) only [b109_1, x_aload0, y_call28, y_call59, y_call86, x_gc_2051, x_goto_1, x_iadd, x_iconst, x_ifCond_eq_2, x_if_icmp_ge_2, x_iinc5, x_iinc6, x_iload4, x_iload6, klp_0, klp_1, klp_2, klp_3, klp_9, KC_0, KC_1, KC_2, KC_3, KC_4, ne_eq, not_false_eq_true, not_true_eq_false, true_and, and_true, and_self, implies_true, eq_self, true_imp_iff, false_implies, Int.reduceEq, Int.reduceNe, Int.reduceMod, Int.reduceMul, Int.reduceAdd, Int.reduceSub, Int.reduceLT, Int.reduceLE, Nat.reduceAdd, Nat.reduceLeDiff, Nat.reduceLT, Nat.reduceSub, reduceIte, wds_n, wds_0, wds_1, wds_2, wds_3, or_true, true_or, or_false, false_or, or_self, false_and, and_false, d_pos, d_s1, d_s2, d_s3, d_s4, d_s5, d_s6, d_s7, d_s8, Classical.not_not, z258_0, z258_7, z481_l, z258_8, z544_l, z258_9, z608_l, i2, e1, e3, ej, d_s9, d_s10, d_s11, d_s12, d_s13, d_s14, d_s15, d_s16, d_s17, d_s18, d_s19, d_s20, d_s21, d_s22, d_s23, d_s24, d_s25, d_s26, d_s27, d_s28, d_s29, d_s30, le_sub1, le_T, le_F, lt_T, lt_F, eq_F, w32_T, bz0, bz1, lc_le, lc_ge, lc_lt, lc_gt, lc_eq]
            rw [q109_1]
            simp (implicitDefEqProofs := false) (disch := omega) only [b109_1, x_aload0, y_call28, y_call59, y_call86, x_gc_2051, x_goto_1, x_iadd, x_iconst, x_ifCond_eq_2, x_if_icmp_ge_2, x_iinc5, x_iinc6, x_iload4, x_iload6, klp_0, klp_1, klp_2, klp_3, klp_9, KC_0, KC_1, KC_2, KC_3, KC_4, ne_eq, not_false_eq_true, not_true_eq_false, true_and, and_true, and_self, implies_true, eq_self, true_imp_iff, false_implies, Int.reduceEq, Int.reduceNe, Int.reduceMod, Int.reduceMul, Int.reduceAdd, Int.reduceSub, Int.reduceLT, Int.reduceLE, Nat.reduceAdd, Nat.reduceLeDiff, Nat.reduceLT, Nat.reduceSub, reduceIte, wds_n, wds_0, wds_1, wds_2, wds_3, or_true, true_or, or_false, false_or, or_self, false_and, and_false, d_pos, d_s1, d_s2, d_s3, d_s4, d_s5, d_s6, d_s7, d_s8, Classical.not_not, z258_0, z258_7, z481_l, z258_8, z544_l, z258_9, z608_l, i3, d_s9, d_s10, d_s11, d_s12, d_s13, d_s14, d_s15, d_s16, d_s17, d_s18, d_s19, d_s20, d_s21, d_s22, d_s23, d_s24, d_s25, d_s26, d_s27, d_s28, d_s29, d_s30, le_sub1, le_T, le_F, lt_T, lt_F, eq_F, w32_T, bz0, bz1, lc_le, lc_ge, lc_lt, lc_gt, lc_eq]
          · rw [q109_1]
            simp (implicitDefEqProofs := false) (disch := omega) only [b109_1, x_aload0, y_call28, y_call59, y_call86, x_gc_2051, x_goto_1, x_iadd, x_iconst, x_ifCond_eq_2, x_if_icmp_ge_2, x_iinc5, x_iinc6, x_iload4, x_iload6, klp_0, klp_1, klp_2, klp_3, klp_9, KC_0, KC_1, KC_2, KC_3, KC_4, ne_eq, not_false_eq_true, not_true_eq_false, true_and, and_true, and_self, implies_true, eq_self, true_imp_iff, false_implies, Int.reduceEq, Int.reduceNe, Int.reduceMod, Int.reduceMul, Int.reduceAdd, Int.reduceSub, Int.reduceLT, Int.reduceLE, Nat.reduceAdd, Nat.reduceLeDiff, Nat.reduceLT, Nat.reduceSub, reduceIte, wds_n, wds_0, wds_1, wds_2, wds_3, or_true, true_or, or_false, false_or, or_self, false_and, and_false, d_pos, d_s1, d_s2, d_s3, d_s4, d_s5, d_s6, d_s7, d_s8, Classical.not_not, z258_0, z258_7, z481_l, z258_8, z544_l, z258_9, z608_l, i2, e1, e3, ej, d_s9, d_s10, d_s11, d_s12, d_s13, d_s14, d_s15, d_s16, d_s17, d_s18, d_s19, d_s20, d_s21, d_s22, d_s23, d_s24, d_s25, d_s26, d_s27, d_s28, d_s29, d_s30, le_sub1, le_T, le_F, lt_T, lt_F, eq_F, w32_T, bz0, bz1, lc_le, lc_ge, lc_lt, lc_gt, lc_eq]
            rw [q109_1]
            simp (implicitDefEqProofs := false) (disch := omega) only [b109_1, x_aload0, y_call28, y_call59, y_call86, x_gc_2051, x_goto_1, x_iadd, x_iconst, x_ifCond_eq_2, x_if_icmp_ge_2, x_iinc5, x_iinc6, x_iload4, x_iload6, klp_0, klp_1, klp_2, klp_3, klp_9, KC_0, KC_1, KC_2, KC_3, KC_4, ne_eq, not_false_eq_true, not_true_eq_false, true_and, and_true, and_self, implies_true, eq_self, true_imp_iff, false_implies, Int.reduceEq, Int.reduceNe, Int.reduceMod, Int.reduceMul, Int.reduceAdd, Int.reduceSub, Int.reduceLT, Int.reduceLE, Nat.reduceAdd, Nat.reduceLeDiff, Nat.reduceLT, Nat.reduceSub, reduceIte, wds_n, wds_0, wds_1, wds_2, wds_3, or_true, true_or, or_false, false_or, or_self, false_and, and_false, d_pos, d_s1, d_s2, d_s3, d_s4, d_s5, d_s6, d_s7, d_s8, Classical.not_not, z258_0, z258_7, z481_l, z258_8, z544_l, z258_9, z608_l, i3, d_s9, d_s10, d_s11, d_s12, d_s13, d_s14, d_s15, d_s16, d_s17, d_s18, d_s19, d_s20, d_s21, d_s22, d_s23, d_s24, d_s25, d_s26, d_s27, d_s28, d_s29, d_s30, le_sub1, le_T, le_F, lt_T, lt_F, eq_F, w32_T, bz0, bz1, lc_le, lc_ge, lc_lt, lc_gt, lc_eq]
        · rw [q357_3]
          simp (implicitDefEqProofs := false) (disch := omega) only [b357_3, x_aload0, y_call321, y_call325, y_call334, y_call350, x_goto_3, x_iconst, x_ifCond_eq_4, x_iinc4, klp_0, klp_1, klp_2, klp_3, klp_9, KC_0, KC_1, KC_2, KC_3, KC_4, ne_eq, not_false_eq_true, not_true_eq_false, true_and, and_true, and_self, implies_true, eq_self, true_imp_iff, false_implies, Int.reduceEq, Int.reduceNe, Int.reduceMod, Int.reduceMul, Int.reduceAdd, Int.reduceSub, Int.reduceLT, Int.reduceLE, Nat.reduceAdd, Nat.reduceLeDiff, Nat.reduceLT, Nat.reduceSub, reduceIte, wds_n, wds_0, wds_1, wds_2, wds_3, or_true, true_or, or_false, false_or, or_self, false_and, and_false, d_pos, d_s1, d_s2, d_s3, d_s4, d_s5, d_s6, d_s7, d_s8, Classical.not_not, z6603_20, z9761_l, z6603_21, z9824_l, z6603_22, z9888_l, z6603_23, z9952_l, q1, i1, f1, f3, d_s9, d_s10, d_s11, d_s12, d_s13, d_s14, d_s15, d_s16, d_s17, d_s18, d_s19, d_s20, d_s21, d_s22, d_s23, d_s24, d_s25, d_s26, d_s27, d_s28, d_s29, d_s30, le_sub1, le_T, le_F, lt_T, lt_F, eq_F, w32_T, bz0, bz1, lc_le, lc_ge, lc_lt, lc_gt, lc_eq]
          rw [q357_3]
          simp (implicitDefEqProofs := false) (disch := omega) only [b357_3, x_aload0, y_call321, y_call325, y_call334, y_call350, x_goto_3, x_iconst, x_ifCond_eq_4, x_iinc4, klp_0, klp_1, klp_2, klp_3, klp_9, KC_0, KC_1, KC_2, KC_3, KC_4, ne_eq, not_false_eq_true, not_true_eq_false, true_and, and_true, and_self, implies_true, eq_self, true_imp_iff, false_implies, Int.reduceEq, Int.reduceNe, Int.reduceMod, Int.reduceMul, Int.reduceAdd, Int.reduceSub, Int.reduceLT, Int.reduceLE, Nat.reduceAdd, Nat.reduceLeDiff, Nat.reduceLT, Nat.reduceSub, reduceIte, wds_n, wds_0, wds_1, wds_2, wds_3, or_true, true_or, or_false, false_or, or_self, false_and, and_false, d_pos, d_s1, d_s2, d_s3, d_s4, d_s5, d_s6, d_s7, d_s8, Classical.not_not, z6603_20, z9761_l, z6603_21, z9824_l, z6603_22, z9888_l, z6603_23, z9952_l, q2, d_s9, d_s10, d_s11, d_s12, d_s13, d_s14, d_s15, d_s16, d_s17, d_s18, d_s19, d_s20, d_s21, d_s22, d_s23, d_s24, d_s25, d_s26, d_s27, d_s28, d_s29, d_s30, le_sub1, le_T, le_F, lt_T, lt_F, eq_F, w32_T, bz0, bz1, lc_le, lc_ge, lc_lt, lc_gt, lc_eq]
    · have q1 : ∀ (d : Nat) Q, Sp fz1 d 325 [(3, 6603)] hr Q = Q 1 hr := fun d Q => v325g D
      have i1 : ∀ (d : Nat) Q, Sp fz1 d 334 [(3, 6603), (0, 44)] hr Q = Q 0 hr := fun d Q => v334n D z
      have i2 : ∀ (d : Nat) Q, Sp fz1 d 59 [(3, 129), (0, 44)] h Q = Q 0 h := fun d Q => c59n D (by decide) z
      refine ⟨j, j, j - 1, h, hr, fun Q => ?_, fun Q => ?_, .inl ⟨rfl, by omega, s, GOM.rfl' D, NVR.same rfl, ⟨by omega, by omega, by omega, by omega, rfl, rfl⟩, by omega, fun K V CL _ => ?_⟩⟩
      · rw [q109_1]
        simp (implicitDefEqProofs := false) (disch := omega) only [b109_1, x_aload0, y_call28, y_call59, y_call86, x_gc_2051, x_goto_1, x_iadd, x_iconst, x_ifCond_eq_2, x_if_icmp_ge_2, x_iinc5, x_iinc6, x_iload4, x_iload6, klp_0, klp_1, klp_2, klp_3, klp_9, KC_0, KC_1, KC_2, KC_3, KC_4, ne_eq, not_false_eq_true, not_true_eq_false, true_and, and_true, and_self, implies_true, eq_self, true_imp_iff, false_implies, Int.reduceEq, Int.reduceNe, Int.reduceMod, Int.reduceMul, Int.reduceAdd, Int.reduceSub, Int.reduceLT, Int.reduceLE, Nat.reduceAdd, Nat.reduceLeDiff, Nat.reduceLT, Nat.reduceSub, reduceIte, wds_n, wds_0, wds_1, wds_2, wds_3, or_true, true_or, or_false, false_or, or_self, false_and, and_false, d_pos, d_s1, d_s2, d_s3, d_s4, d_s5, d_s6, d_s7, d_s8, Classical.not_not, z258_0, z258_7, z481_l, z258_8, z544_l, z258_9, z608_l, i2, d_s9, d_s10, d_s11, d_s12, d_s13, d_s14, d_s15, d_s16, d_s17, d_s18, d_s19, d_s20, d_s21, d_s22, d_s23, d_s24, d_s25, d_s26, d_s27, d_s28, d_s29, d_s30, le_sub1, le_T, le_F, lt_T, lt_F, eq_F, w32_T, bz0, bz1, lc_le, lc_ge, lc_lt, lc_gt, lc_eq]
      · rw [q357_3]
        simp (implicitDefEqProofs := false) (disch := omega) only [b357_3, x_aload0, y_call321, y_call325, y_call334, y_call350, x_goto_3, x_iconst, x_ifCond_eq_4, x_iinc4, klp_0, klp_1, klp_2, klp_3, klp_9, KC_0, KC_1, KC_2, KC_3, KC_4, ne_eq, not_false_eq_true, not_true_eq_false, true_and, and_true, and_self, implies_true, eq_self, true_imp_iff, false_implies, Int.reduceEq, Int.reduceNe, Int.reduceMod, Int.reduceMul, Int.reduceAdd, Int.reduceSub, Int.reduceLT, Int.reduceLE, Nat.reduceAdd, Nat.reduceLeDiff, Nat.reduceLT, Nat.reduceSub, reduceIte, wds_n, wds_0, wds_1, wds_2, wds_3, or_true, true_or, or_false, false_or, or_self, false_and, and_false, d_pos, d_s1, d_s2, d_s3, d_s4, d_s5, d_s6, d_s7, d_s8, Classical.not_not, z6603_20, z9761_l, z6603_21, z9824_l, z6603_22, z9888_l, z6603_23, z9952_l, q1, i1, d_s9, d_s10, d_s11, d_s12, d_s13, d_s14, d_s15, d_s16, d_s17, d_s18, d_s19, d_s20, d_s21, d_s22, d_s23, d_s24, d_s25, d_s26, d_s27, d_s28, d_s29, d_s30, le_sub1, le_T, le_F, lt_T, lt_F, eq_F, w32_T, bz0, bz1, lc_le, lc_ge, lc_lt, lc_gt, lc_eq]
      · rw [Int.sub_self j]
        exact EXK.nil (by omega)
end SM
