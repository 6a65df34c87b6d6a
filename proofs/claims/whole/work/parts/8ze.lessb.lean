/-! THE PURE SIDE, 187: lessons behind a fault: printed by wip/tools/gen8ze.py -/
section SM
variable {bX : Int} {tp : Int → Int} {t T S s s1 s2 f : Int} {h hr g gr k kr m mr : HV} {Q : Int → HV → Prop} {d : Nat}
/-- the class's lesson behind a fault -/
theorem c67_6 {x x2 x3 x4 a : Int} {u5 : AV} {e : Nat} {h0 : HV} (B : BXC T f h) (p1 : ∀ Q, Sp fz1 (e + 9) 28 [(3, 129), (0, a)] h0 Q = Q 0 h) : G fz1 (e + 10) 67 6 [(3, 258), (0, x), (0, x2), (0, x3), (0, x4), u5] [(0, a), (3, 129)] h0 Q = Q 0 h := by
  have hT := B.1.1
  have hp := B.1.2
  have n1 : ∀ Q, Sp fz1 (e + 9) 61 [(3, 258), (0, 3)] h Q = Q (w32 (h 129 7)) h := fun Q => B.no (d := e + 6)
  have sg : ∀ Q, Sp fz1 (e + 9) 58 [(3, 258), (0, 59)] h Q = Q 0 h := fun Q => B.sg (d := e + 8)
  have st : ∀ Q, Sp fz1 (e + 9) 41 [(3, 258)] h Q = Q 0 h := fun Q => B.c41 (d := e + 8)
  rw [q67_6]
  simp (implicitDefEqProofs := false) (disch := omega) only [b67_6, b67_7, q67_6, q67_7, x_aload0, y_call28, y_call41, y_call58, y_call61, y_call70, x_gc_10291, x_gc_10299, x_gc_10307, x_gf_2059, x_goto_7, x_iastore, x_iconst, x_ifCond_eq_7, x_iload1, x_iload2, x_iload3, x_iload4, x_iload5, x_istore5, x_return, klp_0, klp_1, klp_2, klp_3, klp_9, KC_0, KC_1, KC_2, KC_3, KC_4, ne_eq, not_false_eq_true, not_true_eq_false, true_and, and_true, and_self, implies_true, eq_self, true_imp_iff, false_implies, Int.reduceEq, Int.reduceNe, Int.reduceMod, Int.reduceMul, Int.reduceAdd, Int.reduceSub, Int.reduceLT, Int.reduceLE, Nat.reduceAdd, Nat.reduceLeDiff, Nat.reduceLT, Nat.reduceSub, reduceIte, wds_n, wds_0, wds_1, wds_2, wds_3, or_true, true_or, or_false, false_or, or_self, false_and, and_false, d_pos, d_s1, d_s2, d_s3, d_s4, d_s5, d_s6, d_s7, d_s8, Classical.not_not, c6 hT, c6l hT, c6k hT, c7 hT, c7l hT, c7k hT, c8 hT, c8l hT, c8k hT, z258_0, TC_0 hT, TC_k hT, hp, p1, n1, sg, st, d_s9, d_s10, d_s11, d_s12, d_s13, d_s14, d_s15, d_s16, d_s17, d_s18, d_s19, d_s20, d_s21, d_s22, d_s23, d_s24, d_s25, d_s26, d_s27, d_s28, d_s29, d_s30, hs_ne, hcell, hcel1, le_sub1, le_T, le_F, lt_T, lt_F, eq_F, w32_T, bz0, bz1, lc_le, lc_ge, lc_lt, lc_gt, lc_eq]
theorem c67_4 {x x2 x3 a : Int} {u4 u5 : AV} {e : Nat} {h0 : HV} (B : BXC T f h) (p1 : ∀ Q, Sp fz1 (e + 9) 28 [(3, 129), (0, a)] h0 Q = Q 0 h) : G fz1 (e + 10) 67 4 [(3, 258), (0, x), (0, x2), (0, x3), u4, u5] [(0, a), (3, 129)] h0 Q = Q 0 h := by
  have hT := B.1.1
  have t1 : ∀ Q, Sp fz1 (e + 9) 65 [(3, 258), (0, 2)] h Q = Q (-1) h := fun Q => B.td (d := e + 2)
  have nx := c67_6 (Q := Q) (x := x) (x2 := x2) (x3 := x3) (x4 := -1) (a := 0) (u5 := u5) (e := e) (h0 := h) B (fun Q => B.p28)
  rw [q67_4]
  simp (implicitDefEqProofs := false) (disch := omega) only [b67_4, b67_5, q67_4, q67_5, x_aload0, y_call28, y_call65, y_call68, x_gc_2051, x_gf_2059, x_goto_6, x_iconst, x_ifCond_eq_5, x_ifCond_lt_5, x_iload2, x_iload4, x_istore4, klp_0, klp_1, klp_2, klp_3, klp_9, KC_0, KC_1, KC_2, KC_3, KC_4, ne_eq, not_false_eq_true, not_true_eq_false, true_and, and_true, and_self, implies_true, eq_self, true_imp_iff, false_implies, Int.reduceEq, Int.reduceNe, Int.reduceMod, Int.reduceMul, Int.reduceAdd, Int.reduceSub, Int.reduceLT, Int.reduceLE, Nat.reduceAdd, Nat.reduceLeDiff, Nat.reduceLT, Nat.reduceSub, reduceIte, wds_n, wds_0, wds_1, wds_2, wds_3, or_true, true_or, or_false, false_or, or_self, false_and, and_false, d_pos, d_s1, d_s2, d_s3, d_s4, d_s5, d_s6, d_s7, d_s8, Classical.not_not, c6 hT, c6l hT, c6k hT, c7 hT, c7l hT, c7k hT, c8 hT, c8l hT, c8k hT, z258_0, TC_0 hT, TC_k hT, p1, t1, nx, d_s9, d_s10, d_s11, d_s12, d_s13, d_s14, d_s15, d_s16, d_s17, d_s18, d_s19, d_s20, d_s21, d_s22, d_s23, d_s24, d_s25, d_s26, d_s27, d_s28, d_s29, d_s30, hs_ne, hcell, hcel1, le_sub1, le_T, le_F, lt_T, lt_F, eq_F, w32_T, bz0, bz1, lc_le, lc_ge, lc_lt, lc_gt, lc_eq]
theorem c67_2 {x x2 a : Int} {u3 u4 u5 : AV} {e : Nat} {h0 : HV} (B : BXC T f h) (p1 : ∀ Q, Sp fz1 (e + 9) 28 [(3, 129), (0, a)] h0 Q = Q 0 h) : G fz1 (e + 10) 67 2 [(3, 258), (0, x), (0, x2), u3, u4, u5] [(0, a), (3, 129)] h0 Q = Q 0 h := by
  have hT := B.1.1
  have t1 : ∀ Q, Sp fz1 (e + 9) 65 [(3, 258), (0, 3)] h Q = Q (-1) h := fun Q => B.td (d := e + 2)
  have nx := c67_4 (Q := Q) (x := x) (x2 := x2) (x3 := -1) (a := 0) (u4 := u4) (u5 := u5) (e := e) (h0 := h) B (fun Q => B.p28)
  rw [q67_2]
  simp (implicitDefEqProofs := false) (disch := omega) only [b67_2, b67_3, q67_2, q67_3, x_aload0, y_call28, y_call65, x_gc_2051, x_goto_4, x_iconst, x_ifCond_lt_3, x_iload3, x_istore3, klp_0, klp_1, klp_2, klp_3, klp_9, KC_0, KC_1, KC_2, KC_3, KC_4, ne_eq, not_false_eq_true, not_true_eq_false, true_and, and_true, and_self, implies_true, eq_self, true_imp_iff, false_implies, Int.reduceEq, Int.reduceNe, Int.reduceMod, Int.reduceMul, Int.reduceAdd, Int.reduceSub, Int.reduceLT, Int.reduceLE, Nat.reduceAdd, Nat.reduceLeDiff, Nat.reduceLT, Nat.reduceSub, reduceIte, wds_n, wds_0, wds_1, wds_2, wds_3, or_true, true_or, or_false, false_or, or_self, false_and, and_false, d_pos, d_s1, d_s2, d_s3, d_s4, d_s5, d_s6, d_s7, d_s8, Classical.not_not, c6 hT, c6l hT, c6k hT, c7 hT, c7l hT, c7k hT, c8 hT, c8l hT, c8k hT, z258_0, TC_0 hT, TC_k hT, p1, t1, nx, d_s9, d_s10, d_s11, d_s12, d_s13, d_s14, d_s15, d_s16, d_s17, d_s18, d_s19, d_s20, d_s21, d_s22, d_s23, d_s24, d_s25, d_s26, d_s27, d_s28, d_s29, d_s30, hs_ne, hcell, hcel1, le_sub1, le_T, le_F, lt_T, lt_F, eq_F, w32_T, bz0, bz1, lc_le, lc_ge, lc_lt, lc_gt, lc_eq]
/-- the reference's lesson behind a fault: from the staff on -/
theorem l1 {y : Int} {n2 : AV} {e2 : Nat} (B : BXR S f kr) (hy : 0 ≤ y ∧ y < 12) : ∃ gr, BXR S f gr ∧ FIR S kr gr ∧ (∀ Q, Sp fz1 (e2 + 9) 325 [(3, 6603)] kr Q = Q 0 kr) ∧ ∀ Q, G fz1 (e2 + 10) 337 1 [(3, 6603), (0, y), n2] [] kr Q = Q 0 gr := by
  have hS := B.1.1
  have h9 := B.1.2
  have w1 : ∀ Q, Sp fz1 (e2 + 9) 332 [(3, 6603)] kr Q = Q 0 kr := fun Q => v332b (by have := B.2.1; omega)
  obtain ⟨gr, B3, F3, x3⟩ := l5 (e2 := e2) (n2 := (0, -9)) B hy
  refine ⟨gr, B3, F3, fun Q => B.g325, fun Q => ?_⟩
  have x3 := x3 Q
  rw [← x3, q337_1]
  simp (implicitDefEqProofs := false) (disch := omega) only [b337_1, b337_2, b337_3, q337_1, q337_2, q337_3, x_aload0, y_call332, x_gc_12323, x_gc_12339, x_gf_11339, x_goto_2, x_goto_3, x_goto_5, x_iaload, x_iand, x_iconst, x_ifCond_ne_4, x_if_icmp_eq_3, x_iload1, x_iload2, x_ishr, x_istore2, klp_0, klp_1, klp_2, klp_3, klp_9, KC_0, KC_1, KC_2, KC_3, KC_4, ne_eq, not_false_eq_true, not_true_eq_false, true_and, and_true, and_self, implies_true, eq_self, true_imp_iff, false_implies, Int.reduceEq, Int.reduceNe, Int.reduceMod, Int.reduceMul, Int.reduceAdd, Int.reduceSub, Int.reduceLT, Int.reduceLE, Nat.reduceAdd, Nat.reduceLeDiff, Nat.reduceLT, Nat.reduceSub, reduceIte, wds_n, wds_0, wds_1, wds_2, wds_3, or_true, true_or, or_false, false_or, or_self, false_and, and_false, d_pos, d_s1, d_s2, d_s3, d_s4, d_s5, d_s6, d_s7, d_s8, Classical.not_not, r4 hS, r4l hS, r4k hS, r6 hS, r6l hS, r6k hS, r7 hS, r7l hS, r7k hS, r8 hS, r8l hS, r8k hS, r9 hS, r9l hS, r9k hS, TR_0 hS, TR_k hS, w1, d_s9, d_s10, d_s11, d_s12, d_s13, d_s14, d_s15, d_s16, d_s17, d_s18, d_s19, d_s20, d_s21, d_s22, d_s23, d_s24, d_s25, d_s26, d_s27, d_s28, d_s29, d_s30, hs_ne, hcell, hcel1, le_sub1, le_T, le_F, lt_T, lt_F, eq_F, w32_T, bz0, bz1, lc_le, lc_ge, lc_lt, lc_gt, lc_eq]
/-- the reference's lesson: the staff can't be told -/
theorem l3 {y : Int} {n2 : AV} {e2 : Nat} (D : TKX tp t T S s h kr) (hy : 0 ≤ y ∧ y < 12) : ∃ gr, BXR S s gr ∧ FIR S kr gr ∧ ∀ Q, G fz1 (e2 + 10) 337 3 [(3, 6603), (0, y), n2] [] kr Q = Q 0 gr := by
  have hS := D.2.1.2.1
  have h9 := D.2.1.2.2
  have w1 : ∀ Q, Sp fz1 (e2 + 9) 332 [(3, 6603)] kr Q = Q 0 (bdR kr) := fun Q => v332g (by have := D.fz; omega)
  obtain ⟨gr, B3, F3, x3⟩ := l5 (e2 := e2) (n2 := n2) D.bad.2 hy
  refine ⟨gr, B3, FIR.bd.trans F3, fun Q => ?_⟩
  have x3 := x3 Q
  rw [← x3, q337_3]
  simp (implicitDefEqProofs := false) (disch := omega) only [b337_3, q337_3, x_aload0, y_call332, x_goto_5, klp_0, klp_1, klp_2, klp_3, klp_9, KC_0, KC_1, KC_2, KC_3, KC_4, ne_eq, not_false_eq_true, not_true_eq_false, true_and, and_true, and_self, implies_true, eq_self, true_imp_iff, false_implies, Int.reduceEq, Int.reduceNe, Int.reduceMod, Int.reduceMul, Int.reduceAdd, Int.reduceSub, Int.reduceLT, Int.reduceLE, Nat.reduceAdd, Nat.reduceLeDiff, Nat.reduceLT, Nat.reduceSub, reduceIte, wds_n, wds_0, wds_1, wds_2, wds_3, or_true, true_or, or_false, false_or, or_self, false_and, and_false, d_pos, d_s1, d_s2, d_s3, d_s4, d_s5, d_s6, d_s7, d_s8, Classical.not_not, r4 hS, r4l hS, r4k hS, r6 hS, r6l hS, r6k hS, r7 hS, r7l hS, r7k hS, r8 hS, r8l hS, r8k hS, r9 hS, r9l hS, r9k hS, TR_0 hS, TR_k hS, w1, d_s9, d_s10, d_s11, d_s12, d_s13, d_s14, d_s15, d_s16, d_s17, d_s18, d_s19, d_s20, d_s21, d_s22, d_s23, d_s24, d_s25, d_s26, d_s27, d_s28, d_s29, d_s30, hs_ne, hcell, hcel1, le_sub1, le_T, le_F, lt_T, lt_F, eq_F, w32_T, bz0, bz1, lc_le, lc_ge, lc_lt, lc_gt, lc_eq]
/-- the reference's lesson behind a fault: from the group on -/
theorem l0b {y : Int} {n2 : AV} {e2 : Nat} (B : BXR S f kr) (hy : 0 ≤ y ∧ y < 12) : ∃ r2 gr, BXR S f gr ∧ FIR S kr gr ∧ r2 6603 9 = S ∧ (∀ Q, Sp fz1 (e2 + 9) 338 [(3, 6603), (0, 3)] kr Q = Q 0 r2) ∧ (∀ Q, Sp fz1 (e2 + 9) 325 [(3, 6603)] (hset r2 (S + 532) y 0) Q = Q 0 (hset r2 (S + 532) y 0)) ∧ ∀ Q, G fz1 (e2 + 10) 337 1 [(3, 6603), (0, y), n2] [] (hset r2 (S + 532) y 0) Q = Q 0 gr := by
  have hS := B.1.1
  have kS := kTR hS
  obtain ⟨gr, B3, F3, x1, x2⟩ := l1 (e2 := e2) (n2 := n2) (B.st (o := S + 532) (i := y) (v := 0) (by omega)) hy
  exact ⟨kr, gr, B3, FIR.trans (FIR.st (by omega) hS) F3, B.1.2, fun Q => B.old (d := e2 + 8), x1, x2⟩
/-- the reference's lesson behind a fault: from the subject on -/
theorem l0a {y : Int} {n2 : AV} {e2 : Nat} (B : BXR S f kr) (hy : 0 ≤ y ∧ y < 12) : ∃ r1 r2 gr, BXR S f gr ∧ FIR S kr gr ∧ (r1 6603 9 = S ∧ r2 6603 9 = S) ∧ (∀ Q, Sp fz1 (e2 + 9) 338 [(3, 6603), (0, 0)] kr Q = Q 0 r1) ∧ (∀ Q, Sp fz1 (e2 + 9) 338 [(3, 6603), (0, 3)] (hset r1 (S + 468) y 0) Q = Q 0 r2) ∧ (∀ Q, Sp fz1 (e2 + 9) 325 [(3, 6603)] (hset r2 (S + 532) y 0) Q = Q 0 (hset r2 (S + 532) y 0)) ∧ ∀ Q, G fz1 (e2 + 10) 337 1 [(3, 6603), (0, y), n2] [] (hset r2 (S + 532) y 0) Q = Q 0 gr := by
  have hS := B.1.1
  have kS := kTR hS
  obtain ⟨r2, gr, B3, F3, x0, x1, x2, x3⟩ := l0b (e2 := e2) (n2 := n2) (B.st (o := S + 468) (i := y) (v := 0) (by omega)) hy
  exact ⟨kr, r2, gr, B3, FIR.trans (FIR.st (by omega) hS) F3, ⟨B.1.2, x0⟩, fun Q => B.old (d := e2 + 8), x1, x2, x3⟩
end SM
