/-! THE PURE SIDE, 167b: acts on both sides: copy: printed by wip/tools/gen8t2.py -/
def DXC (T S j : Int) (h hr g gr : HV) : Prop := (0 ≤ g T 15 - h T 15 ∧ g T 15 - h T 15 ≤ 30 * j ∧ gr S 15 - hr S 15 = g T 15 - h T 15) ∧ (0 ≤ g T 17 - h T 17 ∧ g T 17 - h T 17 ≤ 3 * (g T 15 - h T 15)) ∧ (g 258 6 - h 258 6 ≤ g T 15 - h T 15 ∧ gr 6603 15 = hr 6603 15 ∧ gr 6603 19 - hr 6603 19 ≤ g T 15 - h T 15 ∧ g 258 10 - h 258 10 ≤ g T 15 - h T 15) ∧ (gr S 20 - hr S 20 ≤ g T 15 - h T 15 ∧ gr S 21 = hr S 21 ∧ gr S 22 = hr S 22) ∧ gr 6603 12 = hr 6603 12 ∧ gr (S + 84) 6 = hr (S + 84) 6 ∧ g 258 11 = h 258 11
section SM
variable {bX : Int} {tp : Int → Int} {t T S s s1 s2 f : Int} {h hr g gr k kr m mr : HV} {Q : Int → HV → Prop} {d : Nat}
theorem xC {dep : Int} {e : Nat} : ∀ (j : Nat) (n : Int) (h : HV), BDC T f h → n + j = 4 → 0 ≤ n → ∃ g, KPC T f h g ∧ ∀ Q, G fz1 (e + 14) 122 1 [(3, 258), (0, dep), (0, n)] [] h Q = G fz1 (e + 14) 122 2 [(3, 258), (0, dep), (0, 4)] [] g Q
  | 0, n, h, B, h1, h0 => by
    have e : n = 4 := by omega
    subst e
    refine ⟨h, ⟨B, FXC.rfl'⟩, fun Q => ?_⟩
    rw [q122_1]
    simp (implicitDefEqProofs := false) (disch := omega) only [b122_1, x_aload0, y_call58, y_call86, x_goto_1, x_iconst, x_if_icmp_ge_2, x_iinc2, x_iload1, x_iload2, klp_0, klp_1, klp_2, klp_3, klp_9, KC_0, KC_1, KC_2, KC_3, KC_4, ne_eq, not_false_eq_true, not_true_eq_false, true_and, and_true, and_self, implies_true, eq_self, true_imp_iff, false_implies, Int.reduceEq, Int.reduceNe, Int.reduceMod, Int.reduceMul, Int.reduceAdd, Int.reduceSub, Int.reduceLT, Int.reduceLE, Nat.reduceAdd, Nat.reduceLeDiff, Nat.reduceLT, Nat.reduceSub, reduceIte, wds_n, wds_0, wds_1, wds_2, wds_3, or_true, true_or, or_false, false_or, or_self, false_and, and_false, d_pos, d_s1, d_s2, d_s3, d_s4, d_s5, d_s6, d_s7, d_s8, Classical.not_not, d_s9, d_s10, d_s11, d_s12, d_s13, d_s14, d_s15, d_s16, d_s17, d_s18, d_s19, d_s20, d_s21, d_s22, d_s23, d_s24, d_s25, d_s26, d_s27, d_s28, d_s29, d_s30, hs_ne, hcell, hcel1, le_sub1, le_T, le_F, lt_T, lt_F, eq_F, w32_T, bz0, bz1, lc_le, lc_ge, lc_lt, lc_gt, lc_eq]
  | j + 1, n, h, B, h1, h0 => by
    have x1 : ∀ Q, Sp fz1 (e + 13) 58 [(3, 258), (0, 44)] h Q = Q 0 h := fun Q => b58 B
    obtain ⟨k, W, x2⟩ := B.wh (e := dep) e
    obtain ⟨g, V, x3⟩ := xC (e := e) (dep := dep) j (n + 1) k W.1 (by omega) (by omega)
    refine ⟨g, W.trans V, fun Q => ?_⟩
    rw [← x3 Q, q122_1]
    simp (implicitDefEqProofs := false) (disch := omega) only [b122_1, x_aload0, y_call58, y_call86, x_goto_1, x_iconst, x_if_icmp_ge_2, x_iinc2, x_iload1, x_iload2, klp_0, klp_1, klp_2, klp_3, klp_9, KC_0, KC_1, KC_2, KC_3, KC_4, ne_eq, not_false_eq_true, not_true_eq_false, true_and, and_true, and_self, implies_true, eq_self, true_imp_iff, false_implies, Int.reduceEq, Int.reduceNe, Int.reduceMod, Int.reduceMul, Int.reduceAdd, Int.reduceSub, Int.reduceLT, Int.reduceLE, Nat.reduceAdd, Nat.reduceLeDiff, Nat.reduceLT, Nat.reduceSub, reduceIte, wds_n, wds_0, wds_1, wds_2, wds_3, or_true, true_or, or_false, false_or, or_self, false_and, and_false, d_pos, d_s1, d_s2, d_s3, d_s4, d_s5, d_s6, d_s7, d_s8, Classical.not_not, x1, x2, d_s9, d_s10, d_s11, d_s12, d_s13, d_s14, d_s15, d_s16, d_s17, d_s18, d_s19, d_s20, d_s21, d_s22, d_s23, d_s24, d_s25, d_s26, d_s27, d_s28, d_s29, d_s30, hs_ne, hcell, hcel1, le_sub1, le_T, le_F, lt_T, lt_F, eq_F, w32_T, bz0, bz1, lc_le, lc_ge, lc_lt, lc_gt, lc_eq]
theorem zC {e2 : Nat} : ∀ (j : Nat) (n : Int) (hr : HV), BDQ S f hr → n + j = 4 → 0 ≤ n → ∃ gr, KPR S f hr gr 0 ∧ ∀ Q, G fz1 (e2 + 15) 345 10 [(3, 6603), (0, n)] [] hr Q = G fz1 (e2 + 15) 345 11 [(3, 6603), (0, 4)] [] gr Q
  | 0, n, hr, B, h1, h0 => by
    have e : n = 4 := by omega
    subst e
    refine ⟨hr, ⟨B, FXR.rfl', rfl, by omega, rfl⟩, fun Q => ?_⟩
    rw [q345_10]
    simp (implicitDefEqProofs := false) (disch := omega) only [b345_10, x_aload0, y_call333, y_call349, x_goto_10, x_iconst, x_if_icmp_ge_11, x_iinc1, x_iload1, klp_0, klp_1, klp_2, klp_3, klp_9, KC_0, KC_1, KC_2, KC_3, KC_4, ne_eq, not_false_eq_true, not_true_eq_false, true_and, and_true, and_self, implies_true, eq_self, true_imp_iff, false_implies, Int.reduceEq, Int.reduceNe, Int.reduceMod, Int.reduceMul, Int.reduceAdd, Int.reduceSub, Int.reduceLT, Int.reduceLE, Nat.reduceAdd, Nat.reduceLeDiff, Nat.reduceLT, Nat.reduceSub, reduceIte, wds_n, wds_0, wds_1, wds_2, wds_3, or_true, true_or, or_false, false_or, or_self, false_and, and_false, d_pos, d_s1, d_s2, d_s3, d_s4, d_s5, d_s6, d_s7, d_s8, Classical.not_not, d_s9, d_s10, d_s11, d_s12, d_s13, d_s14, d_s15, d_s16, d_s17, d_s18, d_s19, d_s20, d_s21, d_s22, d_s23, d_s24, d_s25, d_s26, d_s27, d_s28, d_s29, d_s30, hs_ne, hcell, hcel1, le_sub1, le_T, le_F, lt_T, lt_F, eq_F, w32_T, bz0, bz1, lc_le, lc_ge, lc_lt, lc_gt, lc_eq]
  | j + 1, n, hr, B, h1, h0 => by
    have x1 : ∀ Q, Sp fz1 (e2 + 14) 333 [(3, 6603), (0, 44)] hr Q = Q 0 hr := fun Q => B.sg
    obtain ⟨k, W, x2⟩ := B.w0
    have x2' : ∀ Q, Sp fz1 (e2 + 14) 349 [(3, 6603)] hr Q = Q 0 k := fun Q => x2 (e2 + 9) Q
    obtain ⟨g, V, x3⟩ := zC (e2 := e2) j (n + 1) k W.1 (by omega) (by omega)
    refine ⟨g, W.trans V, fun Q => ?_⟩
    rw [← x3 Q, q345_10]
    simp (implicitDefEqProofs := false) (disch := omega) only [b345_10, x_aload0, y_call333, y_call349, x_goto_10, x_iconst, x_if_icmp_ge_11, x_iinc1, x_iload1, klp_0, klp_1, klp_2, klp_3, klp_9, KC_0, KC_1, KC_2, KC_3, KC_4, ne_eq, not_false_eq_true, not_true_eq_false, true_and, and_true, and_self, implies_true, eq_self, true_imp_iff, false_implies, Int.reduceEq, Int.reduceNe, Int.reduceMod, Int.reduceMul, Int.reduceAdd, Int.reduceSub, Int.reduceLT, Int.reduceLE, Nat.reduceAdd, Nat.reduceLeDiff, Nat.reduceLT, Nat.reduceSub, reduceIte, wds_n, wds_0, wds_1, wds_2, wds_3, or_true, true_or, or_false, false_or, or_self, false_and, and_false, d_pos, d_s1, d_s2, d_s3, d_s4, d_s5, d_s6, d_s7, d_s8, Classical.not_not, x1, x2', d_s9, d_s10, d_s11, d_s12, d_s13, d_s14, d_s15, d_s16, d_s17, d_s18, d_s19, d_s20, d_s21, d_s22, d_s23, d_s24, d_s25, d_s26, d_s27, d_s28, d_s29, d_s30, hs_ne, hcell, hcel1, le_sub1, le_T, le_F, lt_T, lt_F, eq_F, w32_T, bz0, bz1, lc_le, lc_ge, lc_lt, lc_gt, lc_eq]
/-- the exps of copy -/
theorem lpC {dep : Int} {e e2 : Nat} (he : 110 ≤ e + 13) (he2 : 110 ≤ e2 + 13) (hdp : 1 ≤ dep ∧ dep ≤ 12) : ∀ (j : Nat) (n s : Int) (h hr : HV), n + j = 4 → 0 ≤ n → GD bX tp t T S s h hr → hr 6603 12 = dep ∧ h 258 11 = 0 → hr S 15 + 2 ≤ 11 * h T 15 + hr (S + 84) 6 → ∃ g gr, (∀ Q, G fz1 (e + 14) 122 1 [(3, 258), (0, dep), (0, n)] [] h Q = G fz1 (e + 14) 122 2 [(3, 258), (0, dep), (0, 4)] [] g Q) ∧ (∀ Q, G fz1 (e2 + 15) 345 10 [(3, 6603), (0, n)] [] hr Q = G fz1 (e2 + 15) 345 11 [(3, 6603), (0, 4)] [] gr Q) ∧ ((∃ s1, GOM bX tp t T S s h hr s1 g gr ∧ NVR h g gr ∧ DXC T S j h hr g gr ∧ ∀ K V CL, AGK K V CL T S (h T 17) (hr S 15) (hr S 22) g gr → EXK K V CL (h T 17) (hr S 15) (g T 17) (gr S 15) (gr S 15 - hr S 15) j (30 + (j : Int)) 0) ∨ BADB T S 1 h hr g gr)
  | 0, n, s, h, hr, h1, h0, D, hd, hl => by
    have e : n = 4 := by omega
    subst e
    refine ⟨h, hr, fun Q => ?_, fun Q => ?_, .inl ⟨s, GOM.rfl' D, NVR.same rfl, by unfold DXC; omega, fun K V CL A => ?_⟩⟩
    · rw [q122_1]
      simp (implicitDefEqProofs := false) (disch := omega) only [b122_1, x_aload0, y_call58, y_call86, x_goto_1, x_iconst, x_if_icmp_ge_2, x_iinc2, x_iload1, x_iload2, klp_0, klp_1, klp_2, klp_3, klp_9, KC_0, KC_1, KC_2, KC_3, KC_4, ne_eq, not_false_eq_true, not_true_eq_false, true_and, and_true, and_self, implies_true, eq_self, true_imp_iff, false_implies, Int.reduceEq, Int.reduceNe, Int.reduceMod, Int.reduceMul, Int.reduceAdd, Int.reduceSub, Int.reduceLT, Int.reduceLE, Nat.reduceAdd, Nat.reduceLeDiff, Nat.reduceLT, Nat.reduceSub, reduceIte, wds_n, wds_0, wds_1, wds_2, wds_3, or_true, true_or, or_false, false_or, or_self, false_and, and_false, d_pos, d_s1, d_s2, d_s3, d_s4, d_s5, d_s6, d_s7, d_s8, Classical.not_not, d_s9, d_s10, d_s11, d_s12, d_s13, d_s14, d_s15, d_s16, d_s17, d_s18, d_s19, d_s20, d_s21, d_s22, d_s23, d_s24, d_s25, d_s26, d_s27, d_s28, d_s29, d_s30, hs_ne, hcell, hcel1, le_sub1, le_T, le_F, lt_T, lt_F, eq_F, w32_T, bz0, bz1, lc_le, lc_ge, lc_lt, lc_gt, lc_eq]
    · rw [q345_10]
      simp (implicitDefEqProofs := false) (disch := omega) only [b345_10, x_aload0, y_call333, y_call349, x_goto_10, x_iconst, x_if_icmp_ge_11, x_iinc1, x_iload1, klp_0, klp_1, klp_2, klp_3, klp_9, KC_0, KC_1, KC_2, KC_3, KC_4, ne_eq, not_false_eq_true, not_true_eq_false, true_and, and_true, and_self, implies_true, eq_self, true_imp_iff, false_implies, Int.reduceEq, Int.reduceNe, Int.reduceMod, Int.reduceMul, Int.reduceAdd, Int.reduceSub, Int.reduceLT, Int.reduceLE, Nat.reduceAdd, Nat.reduceLeDiff, Nat.reduceLT, Nat.reduceSub, reduceIte, wds_n, wds_0, wds_1, wds_2, wds_3, or_true, true_or, or_false, false_or, or_self, false_and, and_false, d_pos, d_s1, d_s2, d_s3, d_s4, d_s5, d_s6, d_s7, d_s8, Classical.not_not, d_s9, d_s10, d_s11, d_s12, d_s13, d_s14, d_s15, d_s16, d_s17, d_s18, d_s19, d_s20, d_s21, d_s22, d_s23, d_s24, d_s25, d_s26, d_s27, d_s28, d_s29, d_s30, hs_ne, hcell, hcel1, le_sub1, le_T, le_F, lt_T, lt_F, eq_F, w32_T, bz0, bz1, lc_le, lc_ge, lc_lt, lc_gt, lc_eq]
    · have z := EXK.nil (K := K) (V := V) (CL := CL) (c := h T 17) (r := hr S 15) (lo := 0) (m := hr S 15 - hr S 15) (by omega)
      exact z.up (w2 := 30 + ((0 : Nat) : Int)) (by omega) (Int.le_refl _)
  | j + 1, n, s, h, hr, h1, h0, D, hd, hl => by
    have F := D.f
    have N := D.nb
    have S0 := D.sb
    have hT := D.2.1.1.1
    have hS := D.2.1.2.1
    have kT := kTC D.2.1.1.1
    have kS := kTR D.2.1.2.1
    unfold NBR at N
    obtain ⟨g1, r1, ec1, er1, W1⟩ := D.sign (c := 44) (by decide) (e + 4) (e2 + 11)
    rcases W1 with W1 | W1
    rotate_left
    · obtain ⟨-, B0, E00, F0, H0, b14, b15, -⟩ := W1
      have z19 := E00.2.1
      have E0 := E00.q
      have hp_0 := B0.1.2
      have h9_0 := E0.1.2
      have y0 := E0.2.2.2
      obtain ⟨k1, ⟨B1, F1⟩, x1⟩ := B0.wh (e := dep) (e + 0)
      have hp_1 := B1.1.2
      obtain ⟨k2, ⟨B2, F2⟩, x2⟩ := xC (e := e) (dep := dep) j (n + 1) _ B1 (by omega) (by omega)
      have hp_2 := B2.1.2
      obtain ⟨m3, ⟨E3, H3, y3a, y3b, y3c⟩, x3⟩ := E0.w0
      have h9_3 := E3.1.2
      have y3 := E3.2.2.2
      obtain ⟨m4, ⟨E4, H4, y4a, y4b, y4c⟩, x4⟩ := zC (e2 := e2) j (n + 1) _ E3 (by omega) (by omega)
      have y4 := E4.2.2.2
      refine ⟨k2, m4, fun Q => ?_, fun Q => ?_, .inr ⟨⟨_, B2, E4⟩, ((GOM.rfl' D).2.2.1.2.trans (F0.trans (F1.trans F2))), ((GOM.rfl' D).2.2.2.2.trans (H0.trans (H3.trans H4))), by omega, by omega, by omega⟩⟩
      · rw [q122_1]
        simp (implicitDefEqProofs := false) (disch := omega) only [b122_1, x_aload0, y_call58, y_call86, x_goto_1, x_iconst, x_if_icmp_ge_2, x_iinc2, x_iload1, x_iload2, klp_0, klp_1, klp_2, klp_3, klp_9, KC_0, KC_1, KC_2, KC_3, KC_4, ne_eq, not_false_eq_true, not_true_eq_false, true_and, and_true, and_self, implies_true, eq_self, true_imp_iff, false_implies, Int.reduceEq, Int.reduceNe, Int.reduceMod, Int.reduceMul, Int.reduceAdd, Int.reduceSub, Int.reduceLT, Int.reduceLE, Nat.reduceAdd, Nat.reduceLeDiff, Nat.reduceLT, Nat.reduceSub, reduceIte, wds_n, wds_0, wds_1, wds_2, wds_3, or_true, true_or, or_false, false_or, or_self, false_and, and_false, d_pos, d_s1, d_s2, d_s3, d_s4, d_s5, d_s6, d_s7, d_s8, Classical.not_not, TC_0 hT, TC_k hT, ec1, hp_0, x1, hp_1, x2, hp_2, d_s9, d_s10, d_s11, d_s12, d_s13, d_s14, d_s15, d_s16, d_s17, d_s18, d_s19, d_s20, d_s21, d_s22, d_s23, d_s24, d_s25, d_s26, d_s27, d_s28, d_s29, d_s30, hs_ne, hcell, hcel1, le_sub1, le_T, le_F, lt_T, lt_F, eq_F, w32_T, bz0, bz1, lc_le, lc_ge, lc_lt, lc_gt, lc_eq]
      · rw [q345_10]
        simp (implicitDefEqProofs := false) (disch := omega) only [b345_10, x_aload0, y_call333, y_call349, x_goto_10, x_iconst, x_if_icmp_ge_11, x_iinc1, x_iload1, klp_0, klp_1, klp_2, klp_3, klp_9, KC_0, KC_1, KC_2, KC_3, KC_4, ne_eq, not_false_eq_true, not_true_eq_false, true_and, and_true, and_self, implies_true, eq_self, true_imp_iff, false_implies, Int.reduceEq, Int.reduceNe, Int.reduceMod, Int.reduceMul, Int.reduceAdd, Int.reduceSub, Int.reduceLT, Int.reduceLE, Nat.reduceAdd, Nat.reduceLeDiff, Nat.reduceLT, Nat.reduceSub, reduceIte, wds_n, wds_0, wds_1, wds_2, wds_3, or_true, true_or, or_false, false_or, or_self, false_and, and_false, d_pos, d_s1, d_s2, d_s3, d_s4, d_s5, d_s6, d_s7, d_s8, Classical.not_not, TR_0 hS, TR_k hS, er1, h9_0, x3, h9_3, x4, d_s9, d_s10, d_s11, d_s12, d_s13, d_s14, d_s15, d_s16, d_s17, d_s18, d_s19, d_s20, d_s21, d_s22, d_s23, d_s24, d_s25, d_s26, d_s27, d_s28, d_s29, d_s30, hs_ne, hcell, hcel1, le_sub1, le_T, le_F, lt_T, lt_F, eq_F, w32_T, bz0, bz1, lc_le, lc_ge, lc_lt, lc_gt, lc_eq]
    obtain ⟨-, p1, q1, X1, N1, M1⟩ := W1
    have N1' := N1
    have M1' := M1
    unfold NC at N1'
    unfold NR at M1'
    have D1 := X1.2.1
    have Z1 := (GOM.rfl' D).trans X1
    have pq1 := X1.1
    have hp1 : g1 258 1 = T := D1.2.1.1.2
    have h91 : r1 6603 9 = S := D1.2.1.2.2
    have sb1 := D1.sb
    have lm1 := D1.lim
    obtain ⟨g2, r2, ec2, er2, W2⟩ := whole_any (dep := dep) (by omega) (e + 13) (e2 + 14) (by omega) (by omega) D1 (by omega)
    rcases W2 with W2 | W2
    rotate_left
    · obtain ⟨⟨f0, B0, E00⟩, F0, H0, b14, b15, b16⟩ := W2
      have z19 := E00.2.1
      have E0 := E00.q
      have hp_0 := B0.1.2
      have h9_0 := E0.1.2
      have y0 := E0.2.2.2
      obtain ⟨k1, ⟨B1, F1⟩, x1⟩ := xC (e := e) (dep := dep) j (n + 1) _ B0 (by omega) (by omega)
      have hp_1 := B1.1.2
      obtain ⟨m2, ⟨E2, H2, y2a, y2b, y2c⟩, x2⟩ := zC (e2 := e2) j (n + 1) _ E0 (by omega) (by omega)
      have y2 := E2.2.2.2
      refine ⟨k1, m2, fun Q => ?_, fun Q => ?_, .inr ⟨⟨_, B1, E2⟩, (Z1.2.2.1.2.trans (F0.trans F1)), (Z1.2.2.2.2.trans (H0.trans H2)), by omega, by omega, by omega⟩⟩
      · rw [q122_1]
        simp (implicitDefEqProofs := false) (disch := omega) only [b122_1, x_aload0, y_call58, y_call86, x_goto_1, x_iconst, x_if_icmp_ge_2, x_iinc2, x_iload1, x_iload2, klp_0, klp_1, klp_2, klp_3, klp_9, KC_0, KC_1, KC_2, KC_3, KC_4, ne_eq, not_false_eq_true, not_true_eq_false, true_and, and_true, and_self, implies_true, eq_self, true_imp_iff, false_implies, Int.reduceEq, Int.reduceNe, Int.reduceMod, Int.reduceMul, Int.reduceAdd, Int.reduceSub, Int.reduceLT, Int.reduceLE, Nat.reduceAdd, Nat.reduceLeDiff, Nat.reduceLT, Nat.reduceSub, reduceIte, wds_n, wds_0, wds_1, wds_2, wds_3, or_true, true_or, or_false, false_or, or_self, false_and, and_false, d_pos, d_s1, d_s2, d_s3, d_s4, d_s5, d_s6, d_s7, d_s8, Classical.not_not, TC_0 hT, TC_k hT, ec1, hp1, ec2, hp_0, x1, hp_1, d_s9, d_s10, d_s11, d_s12, d_s13, d_s14, d_s15, d_s16, d_s17, d_s18, d_s19, d_s20, d_s21, d_s22, d_s23, d_s24, d_s25, d_s26, d_s27, d_s28, d_s29, d_s30, hs_ne, hcell, hcel1, le_sub1, le_T, le_F, lt_T, lt_F, eq_F, w32_T, bz0, bz1, lc_le, lc_ge, lc_lt, lc_gt, lc_eq]
      · rw [q345_10]
        simp (implicitDefEqProofs := false) (disch := omega) only [b345_10, x_aload0, y_call333, y_call349, x_goto_10, x_iconst, x_if_icmp_ge_11, x_iinc1, x_iload1, klp_0, klp_1, klp_2, klp_3, klp_9, KC_0, KC_1, KC_2, KC_3, KC_4, ne_eq, not_false_eq_true, not_true_eq_false, true_and, and_true, and_self, implies_true, eq_self, true_imp_iff, false_implies, Int.reduceEq, Int.reduceNe, Int.reduceMod, Int.reduceMul, Int.reduceAdd, Int.reduceSub, Int.reduceLT, Int.reduceLE, Nat.reduceAdd, Nat.reduceLeDiff, Nat.reduceLT, Nat.reduceSub, reduceIte, wds_n, wds_0, wds_1, wds_2, wds_3, or_true, true_or, or_false, false_or, or_self, false_and, and_false, d_pos, d_s1, d_s2, d_s3, d_s4, d_s5, d_s6, d_s7, d_s8, Classical.not_not, TR_0 hS, TR_k hS, er1, h91, er2, h9_0, x2, d_s9, d_s10, d_s11, d_s12, d_s13, d_s14, d_s15, d_s16, d_s17, d_s18, d_s19, d_s20, d_s21, d_s22, d_s23, d_s24, d_s25, d_s26, d_s27, d_s28, d_s29, d_s30, hs_ne, hcell, hcel1, le_sub1, le_T, le_F, lt_T, lt_F, eq_F, w32_T, bz0, bz1, lc_le, lc_ge, lc_lt, lc_gt, lc_eq]
    obtain ⟨p2, X2, V2, DX2, PX2⟩ := W2
    have DX2' := DX2
    unfold DXW at DX2'
    have mc2 := X2.2.2.1.1.2.1.1
    have md2 := X2.2.2.2.1.2.1.1
    have me2 := X2.2.2.2.1.2.2.2.1.1
    have D2 := X2.2.1
    have Z2 := Z1.trans X2
    have pq2 := X2.1
    have hp2 : g2 258 1 = T := D2.2.1.1.2
    have h92 : r2 6603 9 = S := D2.2.1.2.2
    have sb2 := D2.sb
    have lm2 := D2.lim
    obtain ⟨g3, r3, x3, y3, W3⟩ := lpC he he2 hdp j (n + 1) _ g2 r2 (by omega) (by omega) D2 (by omega) (by omega)
    have CC : ∀ Q, G fz1 (e + 14) 122 1 [(3, 258), (0, dep), (0, n)] [] h Q = G fz1 (e + 14) 122 2 [(3, 258), (0, dep), (0, 4)] [] g3 Q := fun Q => by
      rw [← x3 Q, q122_1]
      simp (implicitDefEqProofs := false) (disch := omega) only [b122_1, x_aload0, y_call58, y_call86, x_goto_1, x_iconst, x_if_icmp_ge_2, x_iinc2, x_iload1, x_iload2, klp_0, klp_1, klp_2, klp_3, klp_9, KC_0, KC_1, KC_2, KC_3, KC_4, ne_eq, not_false_eq_true, not_true_eq_false, true_and, and_true, and_self, implies_true, eq_self, true_imp_iff, false_implies, Int.reduceEq, Int.reduceNe, Int.reduceMod, Int.reduceMul, Int.reduceAdd, Int.reduceSub, Int.reduceLT, Int.reduceLE, Nat.reduceAdd, Nat.reduceLeDiff, Nat.reduceLT, Nat.reduceSub, reduceIte, wds_n, wds_0, wds_1, wds_2, wds_3, or_true, true_or, or_false, false_or, or_self, false_and, and_false, d_pos, d_s1, d_s2, d_s3, d_s4, d_s5, d_s6, d_s7, d_s8, Classical.not_not, TC_0 hT, TC_k hT, ec1, hp1, ec2, hp2, d_s9, d_s10, d_s11, d_s12, d_s13, d_s14, d_s15, d_s16, d_s17, d_s18, d_s19, d_s20, d_s21, d_s22, d_s23, d_s24, d_s25, d_s26, d_s27, d_s28, d_s29, d_s30, hs_ne, hcell, hcel1, le_sub1, le_T, le_F, lt_T, lt_F, eq_F, w32_T, bz0, bz1, lc_le, lc_ge, lc_lt, lc_gt, lc_eq]
    have RR : ∀ Q, G fz1 (e2 + 15) 345 10 [(3, 6603), (0, n)] [] hr Q = G fz1 (e2 + 15) 345 11 [(3, 6603), (0, 4)] [] r3 Q := fun Q => by
      rw [← y3 Q, q345_10]
      simp (implicitDefEqProofs := false) (disch := omega) only [b345_10, x_aload0, y_call333, y_call349, x_goto_10, x_iconst, x_if_icmp_ge_11, x_iinc1, x_iload1, klp_0, klp_1, klp_2, klp_3, klp_9, KC_0, KC_1, KC_2, KC_3, KC_4, ne_eq, not_false_eq_true, not_true_eq_false, true_and, and_true, and_self, implies_true, eq_self, true_imp_iff, false_implies, Int.reduceEq, Int.reduceNe, Int.reduceMod, Int.reduceMul, Int.reduceAdd, Int.reduceSub, Int.reduceLT, Int.reduceLE, Nat.reduceAdd, Nat.reduceLeDiff, Nat.reduceLT, Nat.reduceSub, reduceIte, wds_n, wds_0, wds_1, wds_2, wds_3, or_true, true_or, or_false, false_or, or_self, false_and, and_false, d_pos, d_s1, d_s2, d_s3, d_s4, d_s5, d_s6, d_s7, d_s8, Classical.not_not, TR_0 hS, TR_k hS, er1, h91, er2, h92, d_s9, d_s10, d_s11, d_s12, d_s13, d_s14, d_s15, d_s16, d_s17, d_s18, d_s19, d_s20, d_s21, d_s22, d_s23, d_s24, d_s25, d_s26, d_s27, d_s28, d_s29, d_s30, hs_ne, hcell, hcel1, le_sub1, le_T, le_F, lt_T, lt_F, eq_F, w32_T, bz0, bz1, lc_le, lc_ge, lc_lt, lc_gt, lc_eq]
    refine ⟨g3, r3, CC, RR, ?_⟩
    rcases W3 with ⟨p3, X3, V3, DX3, P3⟩ | ⟨b1, b2, b3, b4, b5, b6⟩
    · have DX3' := DX3
      unfold DXC at DX3'
      have pq3 := X3.1
      refine .inl ⟨p3, Z2.trans X3, (NVR.trans (((NVR.same (h := h) (g := g1) (gr := r1) (by omega)).trans ((ECP.rfl' (T := T) (c := 2400) (h := g1)).trans (X2.2.2.1.1.lo (by omega))) ((ERP.rfl' (S := S) (r := 6000) (t := 500) (h := r1)).trans (X2.2.2.2.1.lo (by omega) (by omega))) V2).trans (ECP.rfl' (T := T) (c := 2400) (h := g2)) (ERP.rfl' (S := S) (r := 6000) (t := 500) (h := r2)) (NVR.same (by omega))) X3.2.2.1.1 X3.2.2.2.1 V3), by unfold DXC; omega, fun K V CL A => ?_⟩
      have A2 := A.sub (h := g2) (hr := r2) (c2 := g1 T 17) (r2 := r1 S 15) (t2 := r1 S 22) (by have := D2.nb; unfold NBR at this; omega) (X3.2.2.1.1.lo (by omega)) (X3.2.2.2.1.lo (by omega) (by omega)) (by omega) (by omega) (by omega)
      have P2 := PX2 K V CL A2
      have PP := P3 K V CL (A.lo (by omega) (by omega) (by omega))
      have R := P2.seq (lo := 0) (g := ((j + 1 : Nat) : Int)) (m := r3 S 15 - hr S 15) (w := 30 + ((j + 1 : Nat) : Int)) PP (by omega) (by omega) (by omega) (by omega) (by omega) (by omega) (by omega) (by omega) (by omega)
      rw [show g1 T 17 = h T 17 by omega, show r1 S 15 = hr S 15 by omega] at R
      exact R
    · exact .inr ⟨b1, Z2.2.2.1.2.trans b2, Z2.2.2.2.2.trans b3, by omega, by omega, by omega⟩
/-- copy -/
theorem copy_pair {dep : Int} {B e e2 : Nat} (hB : 110 ≤ B) (he : B ≤ e + 13) (he2 : B ≤ e2 + 13) (hdp : 1 ≤ dep ∧ dep ≤ 12) (OB : BLKP bX tp t T S dep B) (D : GD bX tp t T S s h hr) (PR : PRA T S s h hr) (hd : hr 6603 12 = dep ∧ h 258 11 = 0) (w : tkK tp t s = 1 ∧ wdT tp t s = 1668247673) : ∃ h1 g gr, (∀ Q, Sp fz1 (e + 14) 28 [(3, 129), (0, 1)] h Q = Q 0 h1) ∧ (∀ Q, Sp fz1 (e + 14) 122 [(3, 258), (0, dep)] h1 Q = Q 0 g) ∧ (∀ Q, G fz1 (e2 + 15) 345 9 [(3, 6603), (9, 0)] [] hr Q = Q 0 gr) ∧ OUTA bX tp t T S s h hr g gr (dep - 1) := by
  have F := D.f
  have N := D.nb
  have S0 := D.sb
  have hT := D.2.1.1.1
  have hS := D.2.1.2.1
  have kT := kTC D.2.1.1.1
  have kS := kTR D.2.1.2.1
  unfold NBR at N
  unfold PRA at PR
  have jcopy : ∀ (d : Nat) Q, Sp fz1 (d + 5) 327 [(3, 6603), (3, NV_3891)] hr Q = Q 1 hr := fun d Q => by rw [NV_3891_e, iw_copy D.1.2.2 D.1.1 D.2.2.1.2]; exact congrArg (fun x => Q x hr) (if_pos w)
  obtain ⟨g1, r1, X1, X1a, X1b, X1c, N1, M1, -, -, ec1, er1⟩ := D.nx (e + 6) (e2 + 12)
  obtain ⟨p1, hp1p⟩ : ∃ p, p = nxS tp t s := ⟨_, rfl⟩
  rw [← hp1p] at X1 X1a X1c
  have N1' := N1
  have M1' := M1
  unfold NC at N1'
  unfold NR at M1'
  have D1 := X1.2.1
  have Z1 := (GOM.rfl' D).trans X1
  have pq1 := X1.1
  have hp1 : g1 258 1 = T := D1.2.1.1.2
  have h91 : r1 6603 9 = S := D1.2.1.2.2
  have sb1 := D1.sb
  have lm1 := D1.lim
  obtain ⟨g2, r2, ec2, er2, W2⟩ := whole_any (dep := dep) (by omega) (e + 13) (e2 + 14) (by omega) (by omega) D1 (by omega)
  rcases W2 with W2 | W2
  rotate_left
  · obtain ⟨⟨f0, B0, E00⟩, F0, H0, b14, b15, b16⟩ := W2
    have z19 := E00.2.1
    have E0 := E00.q
    have hp_0 := B0.1.2
    have h9_0 := E0.1.2
    have y0 := E0.2.2.2
    obtain ⟨k1, ⟨B1, F1⟩, x1⟩ := xC (e := e) (dep := dep) 4 (0) _ B0 (by omega) (by omega)
    have hp_1 := B1.1.2
    obtain ⟨k2, ⟨B2, F2⟩, x2⟩ := B1.e1 (x := 20)
    have hp_2 := B2.1.2
    have x3 : ∀ Q, Sp fz1 (e + 13) 58 [(3, 258), (0, 59)] k2 Q = Q 0 k2 := fun Q => b58 B2
    obtain ⟨m4, ⟨E4, H4, y4a, y4b, y4c⟩, x4⟩ := zC (e2 := e2) 4 (0) _ E0 (by omega) (by omega)
    have y4 := E4.2.2.2
    have x5 : ∀ Q, Sp fz1 (e2 + 14) 333 [(3, 6603), (0, 59)] m4 Q = Q 0 m4 := fun Q => E4.sg
    obtain ⟨m6, ⟨E6, H6, y6a, y6b, y6c⟩, x6⟩ := E4.cx (p := 28) (a := 0) (b := 0) (by omega)
    have h9_6 := E6.1.2
    have y6 := E6.2.2.2
    refine ⟨g1, k2, m6, ec1, fun Q => ?_, fun Q => ?_, .inr ⟨⟨_, B2, E6⟩, (Z1.2.2.1.2.trans (F0.trans (F1.trans F2))), (Z1.2.2.2.2.trans (H0.trans (H4.trans H6))), by omega, by omega, by omega⟩⟩
    · simp (implicitDefEqProofs := false) (disch := omega) only [sp122, b122_0, x_aload0, y_call86, x_goto_1, x_iconst, x_iload1, x_istore2, klp_0, klp_1, klp_2, klp_3, klp_9, KC_0, KC_1, KC_2, KC_3, KC_4, ne_eq, not_false_eq_true, not_true_eq_false, true_and, and_true, and_self, implies_true, eq_self, true_imp_iff, false_implies, Int.reduceEq, Int.reduceNe, Int.reduceMod, Int.reduceMul, Int.reduceAdd, Int.reduceSub, Int.reduceLT, Int.reduceLE, Nat.reduceAdd, Nat.reduceLeDiff, Nat.reduceLT, Nat.reduceSub, reduceIte, wds_n, wds_0, wds_1, wds_2, wds_3, or_true, true_or, or_false, false_or, or_self, false_and, and_false, d_pos, d_s1, d_s2, d_s3, d_s4, d_s5, d_s6, d_s7, d_s8, Classical.not_not, TC_0 hT, TC_k hT, hp1, ec2, hp_0, x1, hp_1, x2, hp_2, x3, d_s9, d_s10, d_s11, d_s12, d_s13, d_s14, d_s15, d_s16, d_s17, d_s18, d_s19, d_s20, d_s21, d_s22, d_s23, d_s24, d_s25, d_s26, d_s27, d_s28, d_s29, d_s30, hs_ne, hcell, hcel1, le_sub1, le_T, le_F, lt_T, lt_F, eq_F, w32_T, bz0, bz1, lc_le, lc_ge, lc_lt, lc_gt, lc_eq]
      first | rw [q122_2] | rw [x1, q122_2]
      simp (implicitDefEqProofs := false) (disch := omega) only [b122_2, x_aload0, y_call58, y_call82, x_gf_2059, x_iconst, x_return, klp_0, klp_1, klp_2, klp_3, klp_9, KC_0, KC_1, KC_2, KC_3, KC_4, ne_eq, not_false_eq_true, not_true_eq_false, true_and, and_true, and_self, implies_true, eq_self, true_imp_iff, false_implies, Int.reduceEq, Int.reduceNe, Int.reduceMod, Int.reduceMul, Int.reduceAdd, Int.reduceSub, Int.reduceLT, Int.reduceLE, Nat.reduceAdd, Nat.reduceLeDiff, Nat.reduceLT, Nat.reduceSub, reduceIte, wds_n, wds_0, wds_1, wds_2, wds_3, or_true, true_or, or_false, false_or, or_self, false_and, and_false, d_pos, d_s1, d_s2, d_s3, d_s4, d_s5, d_s6, d_s7, d_s8, Classical.not_not, TC_0 hT, TC_k hT, hp1, ec2, hp_0, x1, hp_1, x2, hp_2, x3, d_s9, d_s10, d_s11, d_s12, d_s13, d_s14, d_s15, d_s16, d_s17, d_s18, d_s19, d_s20, d_s21, d_s22, d_s23, d_s24, d_s25, d_s26, d_s27, d_s28, d_s29, d_s30, hs_ne, hcell, hcel1, le_sub1, le_T, le_F, lt_T, lt_F, eq_F, w32_T, bz0, bz1, lc_le, lc_ge, lc_lt, lc_gt, lc_eq]
    · rw [q345_9]
      simp (implicitDefEqProofs := false) (disch := omega) only [n345_9, x_aload0, y_call321, y_call327, y_call349, x_goto_10, x_iconst, x_ifCond_eq_12, x_istore1, x_jsr, klp_0, klp_1, klp_2, klp_3, klp_9, KC_0, KC_1, KC_2, KC_3, KC_4, ne_eq, not_false_eq_true, not_true_eq_false, true_and, and_true, and_self, implies_true, eq_self, true_imp_iff, false_implies, Int.reduceEq, Int.reduceNe, Int.reduceMod, Int.reduceMul, Int.reduceAdd, Int.reduceSub, Int.reduceLT, Int.reduceLE, Nat.reduceAdd, Nat.reduceLeDiff, Nat.reduceLT, Nat.reduceSub, reduceIte, wds_n, wds_0, wds_1, wds_2, wds_3, or_true, true_or, or_false, false_or, or_self, false_and, and_false, d_pos, d_s1, d_s2, d_s3, d_s4, d_s5, d_s6, d_s7, d_s8, Classical.not_not, TR_0 hS, TR_k hS, jcopy, er1, h91, er2, h9_0, x4, x5, x6, h9_6, d_s9, d_s10, d_s11, d_s12, d_s13, d_s14, d_s15, d_s16, d_s17, d_s18, d_s19, d_s20, d_s21, d_s22, d_s23, d_s24, d_s25, d_s26, d_s27, d_s28, d_s29, d_s30, hs_ne, hcell, hcel1, le_sub1, le_T, le_F, lt_T, lt_F, eq_F, w32_T, bz0, bz1, lc_le, lc_ge, lc_lt, lc_gt, lc_eq]
      first | rw [q345_11] | rw [x4, q345_11]
      simp (implicitDefEqProofs := false) (disch := omega) only [b345_11, b345_13, q345_13, x_aload0, y_call333, y_call347, x_goto_13, x_iconst, x_pop0, x_pop3, x_return, klp_0, klp_1, klp_2, klp_3, klp_9, KC_0, KC_1, KC_2, KC_3, KC_4, ne_eq, not_false_eq_true, not_true_eq_false, true_and, and_true, and_self, implies_true, eq_self, true_imp_iff, false_implies, Int.reduceEq, Int.reduceNe, Int.reduceMod, Int.reduceMul, Int.reduceAdd, Int.reduceSub, Int.reduceLT, Int.reduceLE, Nat.reduceAdd, Nat.reduceLeDiff, Nat.reduceLT, Nat.reduceSub, reduceIte, wds_n, wds_0, wds_1, wds_2, wds_3, or_true, true_or, or_false, false_or, or_self, false_and, and_false, d_pos, d_s1, d_s2, d_s3, d_s4, d_s5, d_s6, d_s7, d_s8, Classical.not_not, TR_0 hS, TR_k hS, er1, h91, er2, h9_0, x4, x5, x6, h9_6, d_s9, d_s10, d_s11, d_s12, d_s13, d_s14, d_s15, d_s16, d_s17, d_s18, d_s19, d_s20, d_s21, d_s22, d_s23, d_s24, d_s25, d_s26, d_s27, d_s28, d_s29, d_s30, hs_ne, hcell, hcel1, le_sub1, le_T, le_F, lt_T, lt_F, eq_F, w32_T, bz0, bz1, lc_le, lc_ge, lc_lt, lc_gt, lc_eq]
  obtain ⟨p2, X2, V2, DX2, PX2⟩ := W2
  have DX2' := DX2
  unfold DXW at DX2'
  have mc2 := X2.2.2.1.1.2.1.1
  have md2 := X2.2.2.2.1.2.1.1
  have me2 := X2.2.2.2.1.2.2.2.1.1
  have D2 := X2.2.1
  have Z2 := Z1.trans X2
  have pq2 := X2.1
  have hp2 : g2 258 1 = T := D2.2.1.1.2
  have h92 : r2 6603 9 = S := D2.2.1.2.2
  have sb2 := D2.sb
  have lm2 := D2.lim
  obtain ⟨g3, r3, c3, d3, W3⟩ := lpC (e := e) (e2 := e2) (by omega) (by omega) hdp 4 0 p2 g2 r2 (by decide) (by decide) D2 (by omega) (by omega)
  rcases W3 with W3 | W3
  rotate_left
  · obtain ⟨⟨f0, B0, E0⟩, F0, H0, b14, b15, b16⟩ := W3
    have hp_0 := B0.1.2
    have h9_0 := E0.1.2
    have y0 := E0.2.2.2
    obtain ⟨k1, ⟨B1, F1⟩, x1⟩ := B0.e1 (x := 20)
    have hp_1 := B1.1.2
    have x2 : ∀ Q, Sp fz1 (e + 13) 58 [(3, 258), (0, 59)] k1 Q = Q 0 k1 := fun Q => b58 B1
    have x3 : ∀ Q, Sp fz1 (e2 + 14) 333 [(3, 6603), (0, 59)] r3 Q = Q 0 r3 := fun Q => E0.sg
    obtain ⟨m4, ⟨E4, H4, y4a, y4b, y4c⟩, x4⟩ := E0.cx (p := 28) (a := 0) (b := 0) (by omega)
    have h9_4 := E4.1.2
    have y4 := E4.2.2.2
    refine ⟨g1, k1, m4, ec1, fun Q => ?_, fun Q => ?_, .inr ⟨⟨_, B1, E4⟩, (Z2.2.2.1.2.trans (F0.trans F1)), (Z2.2.2.2.2.trans (H0.trans H4)), by omega, by omega, by omega⟩⟩
    · simp (implicitDefEqProofs := false) (disch := omega) only [sp122, b122_0, x_aload0, y_call86, x_goto_1, x_iconst, x_iload1, x_istore2, klp_0, klp_1, klp_2, klp_3, klp_9, KC_0, KC_1, KC_2, KC_3, KC_4, ne_eq, not_false_eq_true, not_true_eq_false, true_and, and_true, and_self, implies_true, eq_self, true_imp_iff, false_implies, Int.reduceEq, Int.reduceNe, Int.reduceMod, Int.reduceMul, Int.reduceAdd, Int.reduceSub, Int.reduceLT, Int.reduceLE, Nat.reduceAdd, Nat.reduceLeDiff, Nat.reduceLT, Nat.reduceSub, reduceIte, wds_n, wds_0, wds_1, wds_2, wds_3, or_true, true_or, or_false, false_or, or_self, false_and, and_false, d_pos, d_s1, d_s2, d_s3, d_s4, d_s5, d_s6, d_s7, d_s8, Classical.not_not, TC_0 hT, TC_k hT, hp1, ec2, hp2, hp_0, x1, hp_1, x2, d_s9, d_s10, d_s11, d_s12, d_s13, d_s14, d_s15, d_s16, d_s17, d_s18, d_s19, d_s20, d_s21, d_s22, d_s23, d_s24, d_s25, d_s26, d_s27, d_s28, d_s29, d_s30, hs_ne, hcell, hcel1, le_sub1, le_T, le_F, lt_T, lt_F, eq_F, w32_T, bz0, bz1, lc_le, lc_ge, lc_lt, lc_gt, lc_eq]
      first | rw [q122_2] | rw [c3, q122_2]
      simp (implicitDefEqProofs := false) (disch := omega) only [b122_2, x_aload0, y_call58, y_call82, x_gf_2059, x_iconst, x_return, klp_0, klp_1, klp_2, klp_3, klp_9, KC_0, KC_1, KC_2, KC_3, KC_4, ne_eq, not_false_eq_true, not_true_eq_false, true_and, and_true, and_self, implies_true, eq_self, true_imp_iff, false_implies, Int.reduceEq, Int.reduceNe, Int.reduceMod, Int.reduceMul, Int.reduceAdd, Int.reduceSub, Int.reduceLT, Int.reduceLE, Nat.reduceAdd, Nat.reduceLeDiff, Nat.reduceLT, Nat.reduceSub, reduceIte, wds_n, wds_0, wds_1, wds_2, wds_3, or_true, true_or, or_false, false_or, or_self, false_and, and_false, d_pos, d_s1, d_s2, d_s3, d_s4, d_s5, d_s6, d_s7, d_s8, Classical.not_not, TC_0 hT, TC_k hT, hp1, ec2, hp2, hp_0, x1, hp_1, x2, d_s9, d_s10, d_s11, d_s12, d_s13, d_s14, d_s15, d_s16, d_s17, d_s18, d_s19, d_s20, d_s21, d_s22, d_s23, d_s24, d_s25, d_s26, d_s27, d_s28, d_s29, d_s30, hs_ne, hcell, hcel1, le_sub1, le_T, le_F, lt_T, lt_F, eq_F, w32_T, bz0, bz1, lc_le, lc_ge, lc_lt, lc_gt, lc_eq]
    · rw [q345_9]
      simp (implicitDefEqProofs := false) (disch := omega) only [n345_9, x_aload0, y_call321, y_call327, y_call349, x_goto_10, x_iconst, x_ifCond_eq_12, x_istore1, x_jsr, klp_0, klp_1, klp_2, klp_3, klp_9, KC_0, KC_1, KC_2, KC_3, KC_4, ne_eq, not_false_eq_true, not_true_eq_false, true_and, and_true, and_self, implies_true, eq_self, true_imp_iff, false_implies, Int.reduceEq, Int.reduceNe, Int.reduceMod, Int.reduceMul, Int.reduceAdd, Int.reduceSub, Int.reduceLT, Int.reduceLE, Nat.reduceAdd, Nat.reduceLeDiff, Nat.reduceLT, Nat.reduceSub, reduceIte, wds_n, wds_0, wds_1, wds_2, wds_3, or_true, true_or, or_false, false_or, or_self, false_and, and_false, d_pos, d_s1, d_s2, d_s3, d_s4, d_s5, d_s6, d_s7, d_s8, Classical.not_not, TR_0 hS, TR_k hS, jcopy, er1, h91, er2, h92, h9_0, x3, x4, h9_4, d_s9, d_s10, d_s11, d_s12, d_s13, d_s14, d_s15, d_s16, d_s17, d_s18, d_s19, d_s20, d_s21, d_s22, d_s23, d_s24, d_s25, d_s26, d_s27, d_s28, d_s29, d_s30, hs_ne, hcell, hcel1, le_sub1, le_T, le_F, lt_T, lt_F, eq_F, w32_T, bz0, bz1, lc_le, lc_ge, lc_lt, lc_gt, lc_eq]
      first | rw [q345_11] | rw [d3, q345_11]
      simp (implicitDefEqProofs := false) (disch := omega) only [b345_11, b345_13, q345_13, x_aload0, y_call333, y_call347, x_goto_13, x_iconst, x_pop0, x_pop3, x_return, klp_0, klp_1, klp_2, klp_3, klp_9, KC_0, KC_1, KC_2, KC_3, KC_4, ne_eq, not_false_eq_true, not_true_eq_false, true_and, and_true, and_self, implies_true, eq_self, true_imp_iff, false_implies, Int.reduceEq, Int.reduceNe, Int.reduceMod, Int.reduceMul, Int.reduceAdd, Int.reduceSub, Int.reduceLT, Int.reduceLE, Nat.reduceAdd, Nat.reduceLeDiff, Nat.reduceLT, Nat.reduceSub, reduceIte, wds_n, wds_0, wds_1, wds_2, wds_3, or_true, true_or, or_false, false_or, or_self, false_and, and_false, d_pos, d_s1, d_s2, d_s3, d_s4, d_s5, d_s6, d_s7, d_s8, Classical.not_not, TR_0 hS, TR_k hS, er1, h91, er2, h92, h9_0, x3, x4, h9_4, d_s9, d_s10, d_s11, d_s12, d_s13, d_s14, d_s15, d_s16, d_s17, d_s18, d_s19, d_s20, d_s21, d_s22, d_s23, d_s24, d_s25, d_s26, d_s27, d_s28, d_s29, d_s30, hs_ne, hcell, hcel1, le_sub1, le_T, le_F, lt_T, lt_F, eq_F, w32_T, bz0, bz1, lc_le, lc_ge, lc_lt, lc_gt, lc_eq]
  obtain ⟨p3, X3, V3, DX3, PX3⟩ := W3
  have DX3' := DX3
  unfold DXC at DX3'
  have mc3 := X3.2.2.1.1.2.1.1
  have md3 := X3.2.2.2.1.2.1.1
  have me3 := X3.2.2.2.1.2.2.2.1.1
  have D3 := X3.2.1
  have Z3 := Z2.trans X3
  have pq3 := X3.1
  have hp3 : g3 258 1 = T := D3.2.1.1.2
  have h93 : r3 6603 9 = S := D3.2.1.2.2
  have sb3 := D3.sb
  have lm3 := D3.lim
  obtain ⟨X4, N4, C4⟩ := D3.em (x := 20) (by omega)
  have ec4 : ∀ Q, Sp fz1 (e + 13) 82 [(3, T), (0, 20)] g3 Q = Q 0 (emH T g3 20) := fun Q => q82 hT (by omega)
  have HO4 := D3.hol (x := 20) (by omega)
  generalize emH T g3 20 = g4 at X4 N4 C4 ec4 HO4
  have N4' := N4
  unfold NC at N4'
  have D4 := X4.2.1
  have Z4 := Z3.trans X4
  have pq4 := X4.1
  have hp4 : g4 258 1 = T := D4.2.1.1.2
  have h94 : r3 6603 9 = S := D4.2.1.2.2
  have sb4 := D4.sb
  have lm4 := D4.lim
  obtain ⟨g5, r5, ec5, er5, W5⟩ := D4.sign (c := 59) (by decide) (e + 4) (e2 + 11)
  rcases W5 with W5 | W5
  rotate_left
  · obtain ⟨-, B0, E00, F0, H0, b14, b15, -⟩ := W5
    have z19 := E00.2.1
    have E0 := E00.q
    have hp_0 := B0.1.2
    have h9_0 := E0.1.2
    have y0 := E0.2.2.2
    obtain ⟨m1, ⟨E1, H1, y1a, y1b, y1c⟩, x1⟩ := E0.cx (p := 28) (a := 0) (b := 0) (by omega)
    have h9_1 := E1.1.2
    have y1 := E1.2.2.2
    refine ⟨g1, g5, m1, ec1, fun Q => ?_, fun Q => ?_, .inr ⟨⟨_, B0, E1⟩, (Z4.2.2.1.2.trans F0), (Z4.2.2.2.2.trans (H0.trans H1)), by omega, by omega, by omega⟩⟩
    · simp (implicitDefEqProofs := false) (disch := omega) only [sp122, b122_0, x_aload0, y_call86, x_goto_1, x_iconst, x_iload1, x_istore2, klp_0, klp_1, klp_2, klp_3, klp_9, KC_0, KC_1, KC_2, KC_3, KC_4, ne_eq, not_false_eq_true, not_true_eq_false, true_and, and_true, and_self, implies_true, eq_self, true_imp_iff, false_implies, Int.reduceEq, Int.reduceNe, Int.reduceMod, Int.reduceMul, Int.reduceAdd, Int.reduceSub, Int.reduceLT, Int.reduceLE, Nat.reduceAdd, Nat.reduceLeDiff, Nat.reduceLT, Nat.reduceSub, reduceIte, wds_n, wds_0, wds_1, wds_2, wds_3, or_true, true_or, or_false, false_or, or_self, false_and, and_false, d_pos, d_s1, d_s2, d_s3, d_s4, d_s5, d_s6, d_s7, d_s8, Classical.not_not, TC_0 hT, TC_k hT, hp1, ec2, hp2, hp3, ec4, hp4, ec5, hp_0, d_s9, d_s10, d_s11, d_s12, d_s13, d_s14, d_s15, d_s16, d_s17, d_s18, d_s19, d_s20, d_s21, d_s22, d_s23, d_s24, d_s25, d_s26, d_s27, d_s28, d_s29, d_s30, hs_ne, hcell, hcel1, le_sub1, le_T, le_F, lt_T, lt_F, eq_F, w32_T, bz0, bz1, lc_le, lc_ge, lc_lt, lc_gt, lc_eq]
      first | rw [q122_2] | rw [c3, q122_2]
      simp (implicitDefEqProofs := false) (disch := omega) only [b122_2, x_aload0, y_call58, y_call82, x_gf_2059, x_iconst, x_return, klp_0, klp_1, klp_2, klp_3, klp_9, KC_0, KC_1, KC_2, KC_3, KC_4, ne_eq, not_false_eq_true, not_true_eq_false, true_and, and_true, and_self, implies_true, eq_self, true_imp_iff, false_implies, Int.reduceEq, Int.reduceNe, Int.reduceMod, Int.reduceMul, Int.reduceAdd, Int.reduceSub, Int.reduceLT, Int.reduceLE, Nat.reduceAdd, Nat.reduceLeDiff, Nat.reduceLT, Nat.reduceSub, reduceIte, wds_n, wds_0, wds_1, wds_2, wds_3, or_true, true_or, or_false, false_or, or_self, false_and, and_false, d_pos, d_s1, d_s2, d_s3, d_s4, d_s5, d_s6, d_s7, d_s8, Classical.not_not, TC_0 hT, TC_k hT, hp1, ec2, hp2, hp3, ec4, hp4, ec5, hp_0, d_s9, d_s10, d_s11, d_s12, d_s13, d_s14, d_s15, d_s16, d_s17, d_s18, d_s19, d_s20, d_s21, d_s22, d_s23, d_s24, d_s25, d_s26, d_s27, d_s28, d_s29, d_s30, hs_ne, hcell, hcel1, le_sub1, le_T, le_F, lt_T, lt_F, eq_F, w32_T, bz0, bz1, lc_le, lc_ge, lc_lt, lc_gt, lc_eq]
    · rw [q345_9]
      simp (implicitDefEqProofs := false) (disch := omega) only [n345_9, x_aload0, y_call321, y_call327, y_call349, x_goto_10, x_iconst, x_ifCond_eq_12, x_istore1, x_jsr, klp_0, klp_1, klp_2, klp_3, klp_9, KC_0, KC_1, KC_2, KC_3, KC_4, ne_eq, not_false_eq_true, not_true_eq_false, true_and, and_true, and_self, implies_true, eq_self, true_imp_iff, false_implies, Int.reduceEq, Int.reduceNe, Int.reduceMod, Int.reduceMul, Int.reduceAdd, Int.reduceSub, Int.reduceLT, Int.reduceLE, Nat.reduceAdd, Nat.reduceLeDiff, Nat.reduceLT, Nat.reduceSub, reduceIte, wds_n, wds_0, wds_1, wds_2, wds_3, or_true, true_or, or_false, false_or, or_self, false_and, and_false, d_pos, d_s1, d_s2, d_s3, d_s4, d_s5, d_s6, d_s7, d_s8, Classical.not_not, TR_0 hS, TR_k hS, jcopy, er1, h91, er2, h92, h93, h94, er5, h9_0, x1, h9_1, d_s9, d_s10, d_s11, d_s12, d_s13, d_s14, d_s15, d_s16, d_s17, d_s18, d_s19, d_s20, d_s21, d_s22, d_s23, d_s24, d_s25, d_s26, d_s27, d_s28, d_s29, d_s30, hs_ne, hcell, hcel1, le_sub1, le_T, le_F, lt_T, lt_F, eq_F, w32_T, bz0, bz1, lc_le, lc_ge, lc_lt, lc_gt, lc_eq]
      first | rw [q345_11] | rw [d3, q345_11]
      simp (implicitDefEqProofs := false) (disch := omega) only [b345_11, b345_13, q345_13, x_aload0, y_call333, y_call347, x_goto_13, x_iconst, x_pop0, x_pop3, x_return, klp_0, klp_1, klp_2, klp_3, klp_9, KC_0, KC_1, KC_2, KC_3, KC_4, ne_eq, not_false_eq_true, not_true_eq_false, true_and, and_true, and_self, implies_true, eq_self, true_imp_iff, false_implies, Int.reduceEq, Int.reduceNe, Int.reduceMod, Int.reduceMul, Int.reduceAdd, Int.reduceSub, Int.reduceLT, Int.reduceLE, Nat.reduceAdd, Nat.reduceLeDiff, Nat.reduceLT, Nat.reduceSub, reduceIte, wds_n, wds_0, wds_1, wds_2, wds_3, or_true, true_or, or_false, false_or, or_self, false_and, and_false, d_pos, d_s1, d_s2, d_s3, d_s4, d_s5, d_s6, d_s7, d_s8, Classical.not_not, TR_0 hS, TR_k hS, er1, h91, er2, h92, h93, h94, er5, h9_0, x1, h9_1, d_s9, d_s10, d_s11, d_s12, d_s13, d_s14, d_s15, d_s16, d_s17, d_s18, d_s19, d_s20, d_s21, d_s22, d_s23, d_s24, d_s25, d_s26, d_s27, d_s28, d_s29, d_s30, hs_ne, hcell, hcel1, le_sub1, le_T, le_F, lt_T, lt_F, eq_F, w32_T, bz0, bz1, lc_le, lc_ge, lc_lt, lc_gt, lc_eq]
  obtain ⟨-, p5, q5, X5, N5, M5⟩ := W5
  have N5' := N5
  have M5' := M5
  unfold NC at N5'
  unfold NR at M5'
  have D5 := X5.2.1
  have Z5 := Z4.trans X5
  have pq5 := X5.1
  have hp5 : g5 258 1 = T := D5.2.1.1.2
  have h95 : r5 6603 9 = S := D5.2.1.2.2
  have sb5 := D5.sb
  have lm5 := D5.lim
  obtain ⟨X6, M6, R6⟩ := D5.cd (p := 28) (a := 0) (b := 0) (by omega) (fun w => absurd w (by decide))
  have er6 : ∀ Q, Sp fz1 (e2 + 14) 347 [(3, 6603), (0, 28), (0, 0), (0, 0)] r5 Q = Q (r5 S 15) (cdR S r5 28 0 0) := fun Q => v347 D5.2.1.2.1 D5.2.1.2.2 (by omega)
  generalize cdR S r5 28 0 0 = r6 at X6 M6 R6 er6
  have M6' := M6
  unfold NR at M6'
  have D6 := X6.2.1
  have Z6 := Z5.trans X6
  have pq6 := X6.1
  have hp6 : g5 258 1 = T := D6.2.1.1.2
  have h96 : r6 6603 9 = S := D6.2.1.2.2
  have sb6 := D6.sb
  have lm6 := D6.lim
  refine ⟨g1, g5, r6, ec1, fun Q => ?_, fun Q => ?_, .inl ⟨p5, Z6, (((((NVR.same (h := h) (g := g1) (gr := r1) (by omega)).trans ((ECP.rfl' (T := T) (c := 2400) (h := g1)).trans (X2.2.2.1.1.lo (by omega))) ((ERP.rfl' (S := S) (r := 6000) (t := 500) (h := r1)).trans (X2.2.2.2.1.lo (by omega) (by omega))) V2).trans (ECP.rfl' (T := T) (c := 2400) (h := g2)) (ERP.rfl' (S := S) (r := 6000) (t := 500) (h := r2)) (NVR.same (h := g2) (g := g2) (gr := r2) (by omega))).trans ((ECP.rfl' (T := T) (c := 2400) (h := g2)).trans (X3.2.2.1.1.lo (by omega))) ((ERP.rfl' (S := S) (r := 6000) (t := 500) (h := r2)).trans (X3.2.2.2.1.lo (by omega) (by omega))) V3).trans (((ECP.rfl' (T := T) (c := 2400) (h := g3)).trans (X4.2.2.1.1.lo (by omega))).trans (X5.2.2.1.1.lo (by omega))) (((ERP.rfl' (S := S) (r := 6000) (t := 500) (h := r3)).trans (X5.2.2.2.1.lo (by omega) (by omega))).trans (X6.2.2.2.1.lo (by omega) (by omega))) (NVR.same (by omega))), by unfold DXB; omega, fun K V CL A s1 s2 => ?_⟩⟩
  · simp (implicitDefEqProofs := false) (disch := omega) only [sp122, b122_0, x_aload0, y_call86, x_goto_1, x_iconst, x_iload1, x_istore2, klp_0, klp_1, klp_2, klp_3, klp_9, KC_0, KC_1, KC_2, KC_3, KC_4, ne_eq, not_false_eq_true, not_true_eq_false, true_and, and_true, and_self, implies_true, eq_self, true_imp_iff, false_implies, Int.reduceEq, Int.reduceNe, Int.reduceMod, Int.reduceMul, Int.reduceAdd, Int.reduceSub, Int.reduceLT, Int.reduceLE, Nat.reduceAdd, Nat.reduceLeDiff, Nat.reduceLT, Nat.reduceSub, reduceIte, wds_n, wds_0, wds_1, wds_2, wds_3, or_true, true_or, or_false, false_or, or_self, false_and, and_false, d_pos, d_s1, d_s2, d_s3, d_s4, d_s5, d_s6, d_s7, d_s8, Classical.not_not, TC_0 hT, TC_k hT, hp1, ec2, hp2, hp3, ec4, hp4, ec5, hp5, hp6, d_s9, d_s10, d_s11, d_s12, d_s13, d_s14, d_s15, d_s16, d_s17, d_s18, d_s19, d_s20, d_s21, d_s22, d_s23, d_s24, d_s25, d_s26, d_s27, d_s28, d_s29, d_s30, hs_ne, hcell, hcel1, le_sub1, le_T, le_F, lt_T, lt_F, eq_F, w32_T, bz0, bz1, lc_le, lc_ge, lc_lt, lc_gt, lc_eq]
    rw [c3, q122_2]
    simp (implicitDefEqProofs := false) (disch := omega) only [b122_2, x_aload0, y_call58, y_call82, x_gf_2059, x_iconst, x_return, klp_0, klp_1, klp_2, klp_3, klp_9, KC_0, KC_1, KC_2, KC_3, KC_4, ne_eq, not_false_eq_true, not_true_eq_false, true_and, and_true, and_self, implies_true, eq_self, true_imp_iff, false_implies, Int.reduceEq, Int.reduceNe, Int.reduceMod, Int.reduceMul, Int.reduceAdd, Int.reduceSub, Int.reduceLT, Int.reduceLE, Nat.reduceAdd, Nat.reduceLeDiff, Nat.reduceLT, Nat.reduceSub, reduceIte, wds_n, wds_0, wds_1, wds_2, wds_3, or_true, true_or, or_false, false_or, or_self, false_and, and_false, d_pos, d_s1, d_s2, d_s3, d_s4, d_s5, d_s6, d_s7, d_s8, Classical.not_not, TC_0 hT, TC_k hT, hp1, ec2, hp2, hp3, ec4, hp4, ec5, hp5, hp6, d_s9, d_s10, d_s11, d_s12, d_s13, d_s14, d_s15, d_s16, d_s17, d_s18, d_s19, d_s20, d_s21, d_s22, d_s23, d_s24, d_s25, d_s26, d_s27, d_s28, d_s29, d_s30, hs_ne, hcell, hcel1, le_sub1, le_T, le_F, lt_T, lt_F, eq_F, w32_T, bz0, bz1, lc_le, lc_ge, lc_lt, lc_gt, lc_eq]
  · rw [q345_9]
    simp (implicitDefEqProofs := false) (disch := omega) only [n345_9, x_aload0, y_call321, y_call327, y_call349, x_goto_10, x_iconst, x_ifCond_eq_12, x_istore1, x_jsr, klp_0, klp_1, klp_2, klp_3, klp_9, KC_0, KC_1, KC_2, KC_3, KC_4, ne_eq, not_false_eq_true, not_true_eq_false, true_and, and_true, and_self, implies_true, eq_self, true_imp_iff, false_implies, Int.reduceEq, Int.reduceNe, Int.reduceMod, Int.reduceMul, Int.reduceAdd, Int.reduceSub, Int.reduceLT, Int.reduceLE, Nat.reduceAdd, Nat.reduceLeDiff, Nat.reduceLT, Nat.reduceSub, reduceIte, wds_n, wds_0, wds_1, wds_2, wds_3, or_true, true_or, or_false, false_or, or_self, false_and, and_false, d_pos, d_s1, d_s2, d_s3, d_s4, d_s5, d_s6, d_s7, d_s8, Classical.not_not, TR_0 hS, TR_k hS, jcopy, er1, h91, er2, h92, h93, h94, er5, h95, er6, h96, d_s9, d_s10, d_s11, d_s12, d_s13, d_s14, d_s15, d_s16, d_s17, d_s18, d_s19, d_s20, d_s21, d_s22, d_s23, d_s24, d_s25, d_s26, d_s27, d_s28, d_s29, d_s30, hs_ne, hcell, hcel1, le_sub1, le_T, le_F, lt_T, lt_F, eq_F, w32_T, bz0, bz1, lc_le, lc_ge, lc_lt, lc_gt, lc_eq]
    rw [d3, q345_11]
    simp (implicitDefEqProofs := false) (disch := omega) only [b345_11, b345_13, q345_13, x_aload0, y_call333, y_call347, x_goto_13, x_iconst, x_pop0, x_pop3, x_return, klp_0, klp_1, klp_2, klp_3, klp_9, KC_0, KC_1, KC_2, KC_3, KC_4, ne_eq, not_false_eq_true, not_true_eq_false, true_and, and_true, and_self, implies_true, eq_self, true_imp_iff, false_implies, Int.reduceEq, Int.reduceNe, Int.reduceMod, Int.reduceMul, Int.reduceAdd, Int.reduceSub, Int.reduceLT, Int.reduceLE, Nat.reduceAdd, Nat.reduceLeDiff, Nat.reduceLT, Nat.reduceSub, reduceIte, wds_n, wds_0, wds_1, wds_2, wds_3, or_true, true_or, or_false, false_or, or_self, false_and, and_false, d_pos, d_s1, d_s2, d_s3, d_s4, d_s5, d_s6, d_s7, d_s8, Classical.not_not, TR_0 hS, TR_k hS, er1, h91, er2, h92, h93, h94, er5, h95, er6, h96, d_s9, d_s10, d_s11, d_s12, d_s13, d_s14, d_s15, d_s16, d_s17, d_s18, d_s19, d_s20, d_s21, d_s22, d_s23, d_s24, d_s25, d_s26, d_s27, d_s28, d_s29, d_s30, hs_ne, hcell, hcel1, le_sub1, le_T, le_F, lt_T, lt_F, eq_F, w32_T, bz0, bz1, lc_le, lc_ge, lc_lt, lc_gt, lc_eq]
  · have EP1j : ECP T (g1 T 17) g2 g5 := ((((ECP.rfl' (T := T) (c := g1 T 17) (h := g2)).trans (X3.2.2.1.1.lo (by omega))).trans (X4.2.2.1.1.lo (by omega))).trans (X5.2.2.1.1.lo (by omega)))
    have FP1j : ERP S (r1 S 15) (r1 S 22) r2 r6 := ((((ERP.rfl' (S := S) (r := r1 S 15) (t := r1 S 22) (h := r2)).trans (X3.2.2.2.1.lo (by omega) (by omega))).trans (X5.2.2.2.1.lo (by omega) (by omega))).trans (X6.2.2.2.1.lo (by omega) (by omega)))
    have AP1j := A.sub (h := g2) (hr := r2) (c2 := g1 T 17) (r2 := r1 S 15) (t2 := r1 S 22) (by have := D2.nb; unfold NBR at this; omega) EP1j FP1j (by omega) (by omega) (by omega)
    have P1 := PX2 K V CL AP1j
    have EP2j : ECP T (g2 T 17) g3 g5 := (((ECP.rfl' (T := T) (c := g2 T 17) (h := g3)).trans (X4.2.2.1.1.lo (by omega))).trans (X5.2.2.1.1.lo (by omega)))
    have FP2j : ERP S (r2 S 15) (r2 S 22) r3 r6 := (((ERP.rfl' (S := S) (r := r2 S 15) (t := r2 S 22) (h := r3)).trans (X5.2.2.2.1.lo (by omega) (by omega))).trans (X6.2.2.2.1.lo (by omega) (by omega)))
    have AP2j := A.sub (h := g3) (hr := r3) (c2 := g2 T 17) (r2 := r2 S 15) (t2 := r2 S 22) (by have := D3.nb; unfold NBR at this; omega) EP2j FP2j (by omega) (by omega) (by omega)
    have P2 := PX3 K V CL AP2j
    have u1 := A.cel (by omega) (CEL.ec (c := 0) C4 X5.2.2.1.1 (by omega))
    have v1 := A.rco (by omega) R6
    have P1z : EXK K V CL (h T 17 - 1 + 1) (hr S 15 - 1 + 1) (g2 T 17) (r2 S 15) (r2 S 15 - r1 S 15) 1 (r2 S 15 - r1 S 15) 0 := by rw [show h T 17 - 1 + 1 = g1 T 17 by omega, show hr S 15 - 1 + 1 = r1 S 15 by omega]; exact P1
    have P3 := P1z.seq (lo := 0) (g := 5) (m := (r2 S 15 - r1 S 15) + (r3 S 15 - r2 S 15)) (w := 35) P2 (by omega) (by omega) (by omega) (by omega) (by omega) (by omega) (by omega) rfl (by omega)
    have R := a_COPY (K := K) (V := V) (CL := CL) (c0 := h T 17 - 1) (r0 := hr S 15 - 1) (c1 := g3 T 17) (r1 := r3 S 15) (f := hr S 21) (t := hr S 22) (dp := dep - 1) (m := (r2 S 15 - r1 S 15) + (r3 S 15 - r2 S 15)) (w := 35) (by omega) (by omega) (by omega) s1 s2 P3 (by omega) (by omega) u1 (by rw [show r3 S 15 = r5 S 15 by omega]; exact v1.1)
    rw [show g3 T 17 + 1 = g5 T 17 by omega, show r3 S 15 + 1 = r6 S 15 by omega] at R
    exact R
end SM
