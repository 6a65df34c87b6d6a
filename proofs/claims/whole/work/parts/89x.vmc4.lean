/-! THE PURE SIDE, 94: the class's machine, variables, if, for, try: printed by wip/tools/gen89x.py -/
def alH (h : HV) (t w b p : Int) : HV := hset (hset (hset (hset h 1632 t 2) 1824 t w) 1889 t b) 1157 4 p
theorem cdT_p {h : HV} {s v i : Int} (hT : TC (h 1157 3)) (hs : s ≠ 3) : cdT (hset h 1157 s v) i = cdT h i := by
  have e : h 1157 3 ≠ 1157 := by rcases hT with t | t <;> omega
  have e2 : h 1157 3 + 1430 ≠ 1157 := by rcases hT with t | t <;> omega
  have e3 : hset h 1157 s v 1157 3 = h 1157 3 := by rw [hset_v, if_neg (fun w => hs w.2.symm)]
  unfold cdT
  rw [e3, hs_ne e, hs_ne e2]
theorem m57 {h : HV} {o i v : Int} (ho : o ≠ 1157) : hset h o i v 1157 = h 1157 := hs_ne (fun e => ho e.symm)
theorem m22 {h : HV} {o i v : Int} (ho : o ≠ 1222) : hset h o i v 1222 = h 1222 := hs_ne (fun e => ho e.symm)
theorem hcell {h : HV} {o i v s : Int} (hs : s ≠ i) : hset h o i v o s = h o s := by rw [hset_v, if_neg (fun w => hs w.2)]
theorem hcel1 {h : HV} {o i v : Int} : hset h o i v o i = v := by rw [hset_v, if_pos ⟨rfl, rfl⟩]
theorem h57 {h : HV} {s v o : Int} (ho : o ≠ 1157) : hset h 1157 s v o = h o := hs_ne ho
theorem stv_s {h : HV} {p k b : Int} (V : VOK h) : stvH h p k b 1222 = h 1222 := by
  have n1 := V.1.2.2.1
  have n2 := V.2.1.2.2.1
  unfold stvH
  rw [hs_ne (by omega), hs_ne (by omega)]
theorem s177 {d : Nat} {h : HV} {Q : Int → HV → Prop} {s : Int} (V : VOK h) (hd : 0 ≤ h 1157 5 ∧ h 1157 5 < 8) (hs : 0 ≤ s ∧ s ≤ 1000) (hb : 0 ≤ h 1440 (h 1157 5) ∧ h 1440 (h 1157 5) ≤ 20000) (hl : h 1222 2 < h (h 1222 0) (-1)) : Sp fz1 (d + 2) 177 [(3, 1157), (0, s)] h Q = Q (0) (pshH h (kA h (h 1440 (h 1157 5) + s)) (bA h (h 1440 (h 1157 5) + s))) := by
  simp (implicitDefEqProofs := false) (disch := omega) only [sp177, b177_0, x_aload0, y_call168, y_call178, y_call179, y_call180, x_gc_5139, x_iload1, x_iload2, x_istore2, x_return, klp_0, klp_1, klp_2, klp_3, klp_9, KC_0, KC_1, KC_2, KC_3, KC_4, ne_eq, not_false_eq_true, not_true_eq_false, true_and, and_true, and_self, implies_true, eq_self, true_imp_iff, false_implies, Int.reduceEq, Int.reduceNe, Int.reduceMod, Int.reduceMul, Int.reduceAdd, Int.reduceSub, Int.reduceLT, Int.reduceLE, Nat.reduceAdd, Nat.reduceLeDiff, Nat.reduceLT, Nat.reduceSub, reduceIte, wds_n, wds_0, wds_1, wds_2, wds_3, or_true, true_or, or_false, false_or, or_self, false_and, and_false, d_pos, d_s1, d_s2, d_s3, d_s4, d_s5, d_s6, d_s7, d_s8, Classical.not_not, z1157_2, s178 hd hs hb, s179 V, s180 V, s168 V, le_sub1, le_T, le_F, lt_T, lt_F, eq_F, w32_T, bz0, bz1, lc_le, lc_ge, lc_lt, lc_gt, lc_eq] <;> first | rfl | (rw [if_pos (by omega)] <;> rfl) | (rw [if_neg (by omega)] <;> rfl) | (exfalso; omega)
theorem s181 {d : Nat} {h : HV} {Q : Int → HV → Prop} {s : Int} (V : VOK h) (hd : 0 ≤ h 1157 5 ∧ h 1157 5 < 8) (hs : 0 ≤ s ∧ s ≤ 1000) (hb : 0 ≤ h 1440 (h 1157 5) ∧ h 1440 (h 1157 5) ≤ 20000) (hp : h 1440 (h 1157 5) + s < h 1222 2) : Sp fz1 (d + 2) 181 [(3, 1157), (0, s)] h Q = Q (0) (cutH (stvH h (h 1440 (h 1157 5) + s) (tK h 0) (tB h 0)) (h 1222 2 - 1)) := by
  have v4 := V.2.2.2.1
  have v5 := V.2.2.2.2
  have hp2 : 0 ≤ h 1440 (h 1157 5) + s ∧ h 1440 (h 1157 5) + s < h 1222 2 := by omega
  simp (implicitDefEqProofs := false) (disch := omega) only [sp181, b181_0, x_aload0, y_call167, y_call170, y_call178, y_call182, y_call183, y_call184, x_gc_5139, x_iconst, x_iload1, x_isub, x_return, klp_0, klp_1, klp_2, klp_3, klp_9, KC_0, KC_1, KC_2, KC_3, KC_4, ne_eq, not_false_eq_true, not_true_eq_false, true_and, and_true, and_self, implies_true, eq_self, true_imp_iff, false_implies, Int.reduceEq, Int.reduceNe, Int.reduceMod, Int.reduceMul, Int.reduceAdd, Int.reduceSub, Int.reduceLT, Int.reduceLE, Nat.reduceAdd, Nat.reduceLeDiff, Nat.reduceLT, Nat.reduceSub, reduceIte, wds_n, wds_0, wds_1, wds_2, wds_3, or_true, true_or, or_false, false_or, or_self, false_and, and_false, d_pos, d_s1, d_s2, d_s3, d_s4, d_s5, d_s6, d_s7, d_s8, Classical.not_not, z1157_2, s178 hd hs hb, s182t V, s183t V, s184 V hp2, s170, stv_s V, s167, le_sub1, le_T, le_F, lt_T, lt_F, eq_F, w32_T, bz0, bz1, lc_le, lc_ge, lc_lt, lc_gt, lc_eq] <;> first | rfl | (rw [if_pos (by omega)] <;> rfl) | (rw [if_neg (by omega)] <;> rfl) | (exfalso; omega)
theorem s176 {d : Nat} {h : HV} {Q : Int → HV → Prop} (V : VOK h) (hT : TC (h 1157 3)) (hl : h (h 1157 3) 17 ≤ 2400) (hp : 0 ≤ h 1157 4 ∧ h 1157 4 ≤ 2999) (hn : h 1222 2 < h (h 1222 0) (-1)) : Sp fz1 (d + 2) 176 [(3, 1157)] h Q = Q 0 (pshH (hset h 1157 4 (h 1157 4 + 2)) 2 (l_or (l_shl (cdT h (h 1157 4)) 32) (l_and (cdT h (h 1157 4 + 1)) 4294967295))) := by
  have e3 : hset h 1157 4 (h 1157 4 + 1) 1157 3 = h 1157 3 := by rw [hset_v, if_neg (by decide)]
  have e4 : hset h 1157 4 (h 1157 4 + 1) 1157 4 = h 1157 4 + 1 := by rw [hset_v, if_pos ⟨rfl, rfl⟩]
  have t := hT
  have e5 : h 1157 3 ≠ 1157 := by rcases hT with t | t <;> omega
  have hpq : 0 ≤ h 1157 4 ∧ h 1157 4 ≤ 3000 := by omega
  have W2 : ∀ Q, Sp fz1 (d + 1) 172 [(3, 1157)] (hset h 1157 4 (h 1157 4 + 1)) Q = Q (cdT h (h 1157 4 + 1)) (hset h 1157 4 (h 1157 4 + 2)) := fun Q => by
    rw [s172 (by rw [e3]; exact hT) (by rw [e3, hs_ne e5]; exact hl) (by rw [e4]; omega), e4, cdT_p hT (by decide), hset_hset, show h 1157 4 + 1 + 1 = h 1157 4 + 2 by omega]
  have V2 : VOK (hset h 1157 4 (h 1157 4 + 2)) := set_V V
  have n1 := V.1.2.2.1
  have hn2 : hset h 1157 4 (h 1157 4 + 2) 1222 2 < hset h 1157 4 (h 1157 4 + 2) (hset h 1157 4 (h 1157 4 + 2) 1222 0) (-1) := by
    rw [hs_ne (a := 1222) (by decide), hs_ne (a := h 1222 0) (by omega)]; exact hn
  simp (implicitDefEqProofs := false) (disch := omega) only [sp176, b176_0, x_aload0, x_bipush, y_call168, y_call172, x_gc_5139, x_i2l, x_iconst, x_land, x_lload1, x_lor, x_lshl, x_lstore1, x_return, klp_0, klp_1, klp_2, klp_3, klp_9, KC_0, KC_1, KC_2, KC_3, KC_4, ne_eq, not_false_eq_true, not_true_eq_false, true_and, and_true, and_self, implies_true, eq_self, true_imp_iff, false_implies, Int.reduceEq, Int.reduceNe, Int.reduceMod, Int.reduceMul, Int.reduceAdd, Int.reduceSub, Int.reduceLT, Int.reduceLE, Nat.reduceAdd, Nat.reduceLeDiff, Nat.reduceLT, Nat.reduceSub, reduceIte, wds_n, wds_0, wds_1, wds_2, wds_3, or_true, true_or, or_false, false_or, or_self, false_and, and_false, d_pos, d_s1, d_s2, d_s3, d_s4, d_s5, d_s6, d_s7, d_s8, Classical.not_not, z1157_2, s172 hT hl hpq, W2, s168 V2 hn2, le_sub1, le_T, le_F, lt_T, lt_F, eq_F, w32_T, bz0, bz1, lc_le, lc_ge, lc_lt, lc_gt, lc_eq]
theorem s216f {d : Nat} {h : HV} {Q : Int → HV → Prop} {a : Int} (V : VOK h) (F : FOK h) (hn : ¬ lwF (tK h 0) = 0) : Sp fz1 (d + 4) 216 [(3, 1157), (0, a)] h Q = Q (0) (flH h (lwF (tK h 0))) := by
  simp (implicitDefEqProofs := false) (disch := omega) only [sp216, b216_0, b216_1, b216_2, q216_1, q216_2, x_aload0, x_bipush, y_call167, y_call170, y_call183, y_call186, y_call187, x_gc_5139, x_goto_2, x_iconst, x_ifCond_eq_1, x_ifCond_ne_2, x_iload1, x_isub, x_lcmp, x_pf_5152, x_return, klp_0, klp_1, klp_2, klp_3, klp_9, KC_0, KC_1, KC_2, KC_3, KC_4, ne_eq, not_false_eq_true, not_true_eq_false, true_and, and_true, and_self, implies_true, eq_self, true_imp_iff, false_implies, Int.reduceEq, Int.reduceNe, Int.reduceMod, Int.reduceMul, Int.reduceAdd, Int.reduceSub, Int.reduceLT, Int.reduceLE, Nat.reduceAdd, Nat.reduceLeDiff, Nat.reduceLT, Nat.reduceSub, reduceIte, wds_n, wds_0, wds_1, wds_2, wds_3, or_true, true_or, or_false, false_or, or_self, false_and, and_false, d_pos, d_s1, d_s2, d_s3, d_s4, d_s5, d_s6, d_s7, d_s8, Classical.not_not, z1157_2, s186 V, s187f F hn, le_sub1, le_T, le_F, lt_T, lt_F, eq_F, w32_T, bz0, bz1, lc_le, lc_ge, lc_lt, lc_gt, lc_eq] <;> first | rfl | (rw [if_pos (by omega)] <;> rfl) | (rw [if_neg (by omega)] <;> rfl) | (exfalso; omega)
theorem s216z {d : Nat} {h : HV} {Q : Int → HV → Prop} {a : Int} (V : VOK h) (h0 : tK h 0 = 1) (hb : tB h 0 = 0) : Sp fz1 (d + 4) 216 [(3, 1157), (0, a)] h Q = Q (0) (cutH (hset h 1157 4 a) (h 1222 2 - 1)) := by
  have E12 : hset h 1157 4 a 1222 = h 1222 := hs_ne (by decide)
  have v4 := V.2.2.2.1
  have v5 := V.2.2.2.2
  simp (implicitDefEqProofs := false) (disch := omega) only [sp216, b216_0, b216_1, b216_2, q216_1, q216_2, x_aload0, x_bipush, y_call167, y_call170, y_call183, y_call186, y_call187, x_gc_5139, x_goto_2, x_iconst, x_ifCond_eq_1, x_ifCond_ne_2, x_iload1, x_isub, x_lcmp, x_pf_5152, x_return, klp_0, klp_1, klp_2, klp_3, klp_9, KC_0, KC_1, KC_2, KC_3, KC_4, ne_eq, not_false_eq_true, not_true_eq_false, true_and, and_true, and_self, implies_true, eq_self, true_imp_iff, false_implies, Int.reduceEq, Int.reduceNe, Int.reduceMod, Int.reduceMul, Int.reduceAdd, Int.reduceSub, Int.reduceLT, Int.reduceLE, Nat.reduceAdd, Nat.reduceLeDiff, Nat.reduceLT, Nat.reduceSub, reduceIte, wds_n, wds_0, wds_1, wds_2, wds_3, or_true, true_or, or_false, false_or, or_self, false_and, and_false, d_pos, d_s1, d_s2, d_s3, d_s4, d_s5, d_s6, d_s7, d_s8, Classical.not_not, z1157_2, s186 V, s183t V, h0, lwF_1, s187n, hb, s170, s167, E12, le_sub1, le_T, le_F, lt_T, lt_F, eq_F, w32_T, bz0, bz1, lc_le, lc_ge, lc_lt, lc_gt, lc_eq] <;> first | rfl | (rw [if_pos (by omega)] <;> rfl) | (rw [if_neg (by omega)] <;> rfl) | (exfalso; omega)
theorem s216n {d : Nat} {h : HV} {Q : Int → HV → Prop} {a : Int} (V : VOK h) (h0 : tK h 0 = 1) (hb : ¬ tB h 0 = 0) : Sp fz1 (d + 4) 216 [(3, 1157), (0, a)] h Q = Q (0) (cutH h (h 1222 2 - 1)) := by
  have v4 := V.2.2.2.1
  have v5 := V.2.2.2.2
  simp (implicitDefEqProofs := false) (disch := omega) only [sp216, b216_0, b216_1, b216_2, q216_1, q216_2, x_aload0, x_bipush, y_call167, y_call170, y_call183, y_call186, y_call187, x_gc_5139, x_goto_2, x_iconst, x_ifCond_eq_1, x_ifCond_ne_2, x_iload1, x_isub, x_lcmp, x_pf_5152, x_return, klp_0, klp_1, klp_2, klp_3, klp_9, KC_0, KC_1, KC_2, KC_3, KC_4, ne_eq, not_false_eq_true, not_true_eq_false, true_and, and_true, and_self, implies_true, eq_self, true_imp_iff, false_implies, Int.reduceEq, Int.reduceNe, Int.reduceMod, Int.reduceMul, Int.reduceAdd, Int.reduceSub, Int.reduceLT, Int.reduceLE, Nat.reduceAdd, Nat.reduceLeDiff, Nat.reduceLT, Nat.reduceSub, reduceIte, wds_n, wds_0, wds_1, wds_2, wds_3, or_true, true_or, or_false, false_or, or_self, false_and, and_false, d_pos, d_s1, d_s2, d_s3, d_s4, d_s5, d_s6, d_s7, d_s8, Classical.not_not, z1157_2, s186 V, s183t V, h0, lwF_1, s187n, hb, s170, s167, le_sub1, le_T, le_F, lt_T, lt_F, eq_F, w32_T, bz0, bz1, lc_le, lc_ge, lc_lt, lc_gt, lc_eq] <;> first | rfl | (rw [if_pos (by omega)] <;> rfl) | (rw [if_neg (by omega)] <;> rfl) | (exfalso; omega)
theorem s217f {d : Nat} {h : HV} {Q : Int → HV → Prop}  (V : VOK h) (F : FOK h) (hn : ¬ lwF (tK h 0) = 0) : Sp fz1 (d + 4) 217 [(3, 1157)] h Q = Q (0) (flH h (lwF (tK h 0))) := by
  simp (implicitDefEqProofs := false) (disch := omega) only [sp217, b217_0, b217_1, q217_1, x_aload0, x_bipush, y_call168, y_call186, y_call187, x_gc_5139, x_goto_1, x_iconst, x_ifCond_ne_1, x_return, klp_0, klp_1, klp_2, klp_3, klp_9, KC_0, KC_1, KC_2, KC_3, KC_4, ne_eq, not_false_eq_true, not_true_eq_false, true_and, and_true, and_self, implies_true, eq_self, true_imp_iff, false_implies, Int.reduceEq, Int.reduceNe, Int.reduceMod, Int.reduceMul, Int.reduceAdd, Int.reduceSub, Int.reduceLT, Int.reduceLE, Nat.reduceAdd, Nat.reduceLeDiff, Nat.reduceLT, Nat.reduceSub, reduceIte, wds_n, wds_0, wds_1, wds_2, wds_3, or_true, true_or, or_false, false_or, or_self, false_and, and_false, d_pos, d_s1, d_s2, d_s3, d_s4, d_s5, d_s6, d_s7, d_s8, Classical.not_not, z1157_2, s186 V, s187f F hn, le_sub1, le_T, le_F, lt_T, lt_F, eq_F, w32_T, bz0, bz1, lc_le, lc_ge, lc_lt, lc_gt, lc_eq] <;> first | rfl | (rw [if_pos (by omega)] <;> rfl) | (rw [if_neg (by omega)] <;> rfl) | (exfalso; omega)
theorem s217a {d : Nat} {h : HV} {Q : Int → HV → Prop}  (V : VOK h) (h0 : tK h 0 = 1) (hl : h 1222 2 < h (h 1222 0) (-1)) : Sp fz1 (d + 4) 217 [(3, 1157)] h Q = Q (0) (pshH h 1 0) := by
  simp (implicitDefEqProofs := false) (disch := omega) only [sp217, b217_0, b217_1, q217_1, x_aload0, x_bipush, y_call168, y_call186, y_call187, x_gc_5139, x_goto_1, x_iconst, x_ifCond_ne_1, x_return, klp_0, klp_1, klp_2, klp_3, klp_9, KC_0, KC_1, KC_2, KC_3, KC_4, ne_eq, not_false_eq_true, not_true_eq_false, true_and, and_true, and_self, implies_true, eq_self, true_imp_iff, false_implies, Int.reduceEq, Int.reduceNe, Int.reduceMod, Int.reduceMul, Int.reduceAdd, Int.reduceSub, Int.reduceLT, Int.reduceLE, Nat.reduceAdd, Nat.reduceLeDiff, Nat.reduceLT, Nat.reduceSub, reduceIte, wds_n, wds_0, wds_1, wds_2, wds_3, or_true, true_or, or_false, false_or, or_self, false_and, and_false, d_pos, d_s1, d_s2, d_s3, d_s4, d_s5, d_s6, d_s7, d_s8, Classical.not_not, z1157_2, s186 V, h0, lwF_1, s187n, s168 V, le_sub1, le_T, le_F, lt_T, lt_F, eq_F, w32_T, bz0, bz1, lc_le, lc_ge, lc_lt, lc_gt, lc_eq] <;> first | rfl | (rw [if_pos (by omega)] <;> rfl) | (rw [if_neg (by omega)] <;> rfl) | (exfalso; omega)
theorem s218x {d : Nat} {h : HV} {Q : Int → HV → Prop} (V : VOK h) (hT : TC (h 1157 3)) (hl : h (h 1157 3) 17 ≤ 2400) (hp : 0 ≤ h 1157 4 ∧ h 1157 4 ≤ 2999) (hx : tB h 1 ≤ tB h 0) : Sp fz1 (d + 5) 218 [(3, 1157)] h Q = Q 0 (hset (cutH (hset h 1157 4 (h 1157 4 + 2)) (h 1222 2 - 2)) 1157 4 (cdT h (h 1157 4 + 1))) := by
  have hpq : 0 ≤ h 1157 4 ∧ h 1157 4 ≤ 3000 := by omega
  have e3 : ∀ x, hset h 1157 4 x 1157 3 = h 1157 3 := fun x => by rw [hset_v, if_neg (by decide)]
  have e4 : ∀ x, hset h 1157 4 x 1157 4 = x := fun x => by rw [hset_v, if_pos ⟨rfl, rfl⟩]
  have e5 : h 1157 3 ≠ 1157 := by rcases hT with t | t <;> omega
  have v4 := V.2.2.2.1
  have v5 := V.2.2.2.2
  have W2 : ∀ Q, Sp fz1 (d + 4) 172 [(3, 1157)] (hset h 1157 4 (h 1157 4 + 1)) Q = Q (cdT h (h 1157 4 + 1)) (hset h 1157 4 (h 1157 4 + 2)) := fun Q => by
    rw [s172 (by rw [e3]; exact hT) (by rw [e3, hs_ne e5]; exact hl) (by rw [e4]; omega), e4, cdT_p hT (by decide), hset_hset, show h 1157 4 + 1 + 1 = h 1157 4 + 2 by omega]
  have V2 : VOK (hset h 1157 4 (h 1157 4 + 2)) := set_V V
  have E12 : hset h 1157 4 (h 1157 4 + 2) 1222 = h 1222 := hs_ne (by decide)
  have k0 : tB (hset h 1157 4 (h 1157 4 + 2)) 0 = tB h 0 := tB_p V
  have k1 : tB (hset h 1157 4 (h 1157 4 + 2)) 1 = tB h 1 := tB_p V
  simp (implicitDefEqProofs := false) (disch := omega) only [sp218, b218_0, b218_1, b218_2, q218_1, q218_2, x_aload0, x_bipush, y_call167, y_call170, y_call172, y_call174, y_call178, y_call183, y_call184, y_call200, x_gc_5139, x_goto_2, x_iconst, x_ifCond_eq_2, x_ifCond_lt_1, x_iload1, x_iload2, x_istore1, x_istore2, x_isub, x_ladd, x_lcmp, x_lload3, x_lstore3, x_pf_5152, x_return, klp_0, klp_1, klp_2, klp_3, klp_9, KC_0, KC_1, KC_2, KC_3, KC_4, ne_eq, not_false_eq_true, not_true_eq_false, true_and, and_true, and_self, implies_true, eq_self, true_imp_iff, false_implies, Int.reduceEq, Int.reduceNe, Int.reduceMod, Int.reduceMul, Int.reduceAdd, Int.reduceSub, Int.reduceLT, Int.reduceLE, Nat.reduceAdd, Nat.reduceLeDiff, Nat.reduceLT, Nat.reduceSub, reduceIte, wds_n, wds_0, wds_1, wds_2, wds_3, or_true, true_or, or_false, false_or, or_self, false_and, and_false, d_pos, d_s1, d_s2, d_s3, d_s4, d_s5, d_s6, d_s7, d_s8, Classical.not_not, z1157_2, s172 hT hl hpq, W2, s183t V2, E12, k0, k1, s170, s167, le_sub1, le_T, le_F, lt_T, lt_F, eq_F, w32_T, bz0, bz1, lc_le, lc_ge, lc_lt, lc_gt, lc_eq]
theorem s218s {d : Nat} {h : HV} {Q : Int → HV → Prop} (V : VOK h) (hT : TC (h 1157 3)) (hl : h (h 1157 3) 17 ≤ 2400) (hp : 0 ≤ h 1157 4 ∧ h 1157 4 ≤ 2999) (hx : tB h 0 < tB h 1) (hs : 0 ≤ h 1157 17 ∧ h 1157 17 ≤ 5000) (hm : h 1157 16 ≤ h 1157 17) : Sp fz1 (d + 5) 218 [(3, 1157)] h Q = Q 0 (hset (hset (hset h 1157 4 (h 1157 4 + 2)) 1157 19 (-20)) 1157 20 0) := by
  have hpq : 0 ≤ h 1157 4 ∧ h 1157 4 ≤ 3000 := by omega
  have e3 : ∀ x, hset h 1157 4 x 1157 3 = h 1157 3 := fun x => by rw [hset_v, if_neg (by decide)]
  have e4 : ∀ x, hset h 1157 4 x 1157 4 = x := fun x => by rw [hset_v, if_pos ⟨rfl, rfl⟩]
  have e5 : h 1157 3 ≠ 1157 := by rcases hT with t | t <;> omega
  have v4 := V.2.2.2.1
  have v5 := V.2.2.2.2
  have W2 : ∀ Q, Sp fz1 (d + 4) 172 [(3, 1157)] (hset h 1157 4 (h 1157 4 + 1)) Q = Q (cdT h (h 1157 4 + 1)) (hset h 1157 4 (h 1157 4 + 2)) := fun Q => by
    rw [s172 (by rw [e3]; exact hT) (by rw [e3, hs_ne e5]; exact hl) (by rw [e4]; omega), e4, cdT_p hT (by decide), hset_hset, show h 1157 4 + 1 + 1 = h 1157 4 + 2 by omega]
  have V2 : VOK (hset h 1157 4 (h 1157 4 + 2)) := set_V V
  have E12 : hset h 1157 4 (h 1157 4 + 2) 1222 = h 1222 := hs_ne (by decide)
  have k0 : tB (hset h 1157 4 (h 1157 4 + 2)) 0 = tB h 0 := tB_p V
  have k1 : tB (hset h 1157 4 (h 1157 4 + 2)) 1 = tB h 1 := tB_p V
  have q17 : hset h 1157 4 (h 1157 4 + 2) 1157 17 = h 1157 17 := by rw [hset_v, if_neg (by decide)]
  have q16 : hset h 1157 4 (h 1157 4 + 2) 1157 16 = h 1157 16 := by rw [hset_v, if_neg (by decide)]
  have S : ∀ Q, Sp fz1 (d + 4) 174 [(3, 1157)] (hset h 1157 4 (h 1157 4 + 2)) Q = Q 0 (hset (hset (hset h 1157 4 (h 1157 4 + 2)) 1157 19 (-20)) 1157 20 0) := fun Q => by rw [s174 (by rw [q17]; exact hs), q16, q17, if_pos hm, if_pos hm]
  simp (implicitDefEqProofs := false) (disch := omega) only [sp218, b218_0, b218_1, b218_2, q218_1, q218_2, x_aload0, x_bipush, y_call167, y_call170, y_call172, y_call174, y_call178, y_call183, y_call184, y_call200, x_gc_5139, x_goto_2, x_iconst, x_ifCond_eq_2, x_ifCond_lt_1, x_iload1, x_iload2, x_istore1, x_istore2, x_isub, x_ladd, x_lcmp, x_lload3, x_lstore3, x_pf_5152, x_return, klp_0, klp_1, klp_2, klp_3, klp_9, KC_0, KC_1, KC_2, KC_3, KC_4, ne_eq, not_false_eq_true, not_true_eq_false, true_and, and_true, and_self, implies_true, eq_self, true_imp_iff, false_implies, Int.reduceEq, Int.reduceNe, Int.reduceMod, Int.reduceMul, Int.reduceAdd, Int.reduceSub, Int.reduceLT, Int.reduceLE, Nat.reduceAdd, Nat.reduceLeDiff, Nat.reduceLT, Nat.reduceSub, reduceIte, wds_n, wds_0, wds_1, wds_2, wds_3, or_true, true_or, or_false, false_or, or_self, false_and, and_false, d_pos, d_s1, d_s2, d_s3, d_s4, d_s5, d_s6, d_s7, d_s8, Classical.not_not, z1157_2, s172 hT hl hpq, W2, s183t V2, E12, k0, k1, S, le_sub1, le_T, le_F, lt_T, lt_F, eq_F, w32_T, bz0, bz1, lc_le, lc_ge, lc_lt, lc_gt, lc_eq]
theorem s218a {d : Nat} {h : HV} {Q : Int → HV → Prop} (V : VOK h) (hT : TC (h 1157 3)) (hl : h (h 1157 3) 17 ≤ 2400) (hp : 0 ≤ h 1157 4 ∧ h 1157 4 ≤ 2999) (hx : tB h 0 < tB h 1) (hs : 0 ≤ h 1157 17 ∧ h 1157 17 ≤ 5000) (hm : h 1157 17 < h 1157 16) (hi : 0 ≤ tB h 0 ∧ tB h 0 ≤ 2147483646) (hn : 2 ≤ h 1222 2) (hd : 0 ≤ h 1157 5 ∧ h 1157 5 < 8) (hc : 0 ≤ cdT h (h 1157 4) ∧ cdT h (h 1157 4) ≤ 1000) (hb : 0 ≤ h 1440 (h 1157 5) ∧ h 1440 (h 1157 5) ≤ 20000) (hq : h 1440 (h 1157 5) + cdT h (h 1157 4) < h 1222 2) : Sp fz1 (d + 5) 218 [(3, 1157)] h Q = Q 0 (rpH (stvH (hset (hset h 1157 4 (h 1157 4 + 2)) 1157 17 (h 1157 17 + 1)) (h 1440 (h 1157 5) + cdT h (h 1157 4)) 1 (tB h 0)) 1 1 (tB h 0 + 1)) := by
  have hpq : 0 ≤ h 1157 4 ∧ h 1157 4 ≤ 3000 := by omega
  have e3 : ∀ x, hset h 1157 4 x 1157 3 = h 1157 3 := fun x => by rw [hset_v, if_neg (by decide)]
  have e4 : ∀ x, hset h 1157 4 x 1157 4 = x := fun x => by rw [hset_v, if_pos ⟨rfl, rfl⟩]
  have e5 : h 1157 3 ≠ 1157 := by rcases hT with t | t <;> omega
  have v4 := V.2.2.2.1
  have v5 := V.2.2.2.2
  have W2 : ∀ Q, Sp fz1 (d + 4) 172 [(3, 1157)] (hset h 1157 4 (h 1157 4 + 1)) Q = Q (cdT h (h 1157 4 + 1)) (hset h 1157 4 (h 1157 4 + 2)) := fun Q => by
    rw [s172 (by rw [e3]; exact hT) (by rw [e3, hs_ne e5]; exact hl) (by rw [e4]; omega), e4, cdT_p hT (by decide), hset_hset, show h 1157 4 + 1 + 1 = h 1157 4 + 2 by omega]
  have V2 : VOK (hset h 1157 4 (h 1157 4 + 2)) := set_V V
  have E12 : hset h 1157 4 (h 1157 4 + 2) 1222 = h 1222 := hs_ne (by decide)
  have k0 : tB (hset h 1157 4 (h 1157 4 + 2)) 0 = tB h 0 := tB_p V
  have k1 : tB (hset h 1157 4 (h 1157 4 + 2)) 1 = tB h 1 := tB_p V
  have q17 : hset h 1157 4 (h 1157 4 + 2) 1157 17 = h 1157 17 := by rw [hset_v, if_neg (by decide)]
  have q16 : hset h 1157 4 (h 1157 4 + 2) 1157 16 = h 1157 16 := by rw [hset_v, if_neg (by decide)]
  generalize hH : hset (hset h 1157 4 (h 1157 4 + 2)) 1157 17 (h 1157 17 + 1) = H
  have V3 : VOK H := by rw [← hH]; exact set_V V2
  have S : ∀ Q, Sp fz1 (d + 4) 174 [(3, 1157)] (hset h 1157 4 (h 1157 4 + 2)) Q = Q 1 H := fun Q => by rw [s174 (by rw [q17]; exact hs), q16, q17, if_neg (by omega), if_neg (by omega), hH]
  have u5 : H 1157 5 = h 1157 5 := by rw [← hH, hset_v, if_neg (by decide), hset_v, if_neg (by decide)]
  have u1 : H 1440 = h 1440 := by rw [← hH, hs_ne (by decide), hs_ne (by decide)]
  have u2 : H 1222 = h 1222 := by rw [← hH, hs_ne (by decide), hs_ne (by decide)]
  have T : ∀ Q, Sp fz1 (d + 4) 178 [(3, 1157), (0, cdT h (h 1157 4))] H Q = Q (h 1440 (h 1157 5) + cdT h (h 1157 4)) H := fun Q => by rw [s178 (by rw [u5]; exact hd) hc (by rw [u5, u1]; exact hb), u5, u1]
  have U : ∀ Q, Sp fz1 (d + 4) 184 [(3, 1222), (0, h 1440 (h 1157 5) + cdT h (h 1157 4)), (0, 1), (1, tB h 0)] H Q = Q 0 (stvH H (h 1440 (h 1157 5) + cdT h (h 1157 4)) 1 (tB h 0)) := fun Q => s184 V3 (by rw [u2]; omega)
  have V4 : VOK (stvH H (h 1440 (h 1157 5) + cdT h (h 1157 4)) 1 (tB h 0)) := by
    obtain ⟨w1, w2, w3, w4, w5⟩ := V3
    have n1 := w1.2.2.1
    have n2 := w2.2.2.1
    have p1 := w1.2.1
    have p2 := w2.2.1
    unfold VOK
    rw [stv_s ⟨w1, w2, w3, w4, w5⟩]
    unfold stvH
    rw [hs_ne (a := 0) (by omega), hs_ne (a := 0) (by omega), hs_ne (a := H 1222 0) (by omega), hset_v (h := hset H _ _ _), if_neg (by omega), hs_ne (a := H 1222 1) (by omega), hset_v, if_neg (by omega)]
    exact ⟨w1, w2, w3, w4, w5⟩
  have X : ∀ Q, Sp fz1 (d + 4) 200 [(3, 1222), (0, 1), (0, 1), (1, tB h 0 + 1)] (stvH H (h 1440 (h 1157 5) + cdT h (h 1157 4)) 1 (tB h 0)) Q = Q 0 (rpH (stvH H (h 1440 (h 1157 5) + cdT h (h 1157 4)) 1 (tB h 0)) 1 1 (tB h 0 + 1)) := fun Q => s200 V4 (by rw [stv_s V3, u2]; omega)
  have Y : w64 (tB h 0 + 1) = tB h 0 + 1 := by unfold w64; omega
  simp (implicitDefEqProofs := false) (disch := omega) only [sp218, b218_0, b218_1, b218_2, q218_1, q218_2, x_aload0, x_bipush, y_call167, y_call170, y_call172, y_call174, y_call178, y_call183, y_call184, y_call200, x_gc_5139, x_goto_2, x_iconst, x_ifCond_eq_2, x_ifCond_lt_1, x_iload1, x_iload2, x_istore1, x_istore2, x_isub, x_ladd, x_lcmp, x_lload3, x_lstore3, x_pf_5152, x_return, klp_0, klp_1, klp_2, klp_3, klp_9, KC_0, KC_1, KC_2, KC_3, KC_4, ne_eq, not_false_eq_true, not_true_eq_false, true_and, and_true, and_self, implies_true, eq_self, true_imp_iff, false_implies, Int.reduceEq, Int.reduceNe, Int.reduceMod, Int.reduceMul, Int.reduceAdd, Int.reduceSub, Int.reduceLT, Int.reduceLE, Nat.reduceAdd, Nat.reduceLeDiff, Nat.reduceLT, Nat.reduceSub, reduceIte, wds_n, wds_0, wds_1, wds_2, wds_3, or_true, true_or, or_false, false_or, or_self, false_and, and_false, d_pos, d_s1, d_s2, d_s3, d_s4, d_s5, d_s6, d_s7, d_s8, Classical.not_not, z1157_2, s172 hT hl hpq, W2, s183t V2, E12, k0, k1, S, T, U, X, Y, le_sub1, le_T, le_F, lt_T, lt_F, eq_F, w32_T, bz0, bz1, lc_le, lc_ge, lc_lt, lc_gt, lc_eq]
theorem s221 {d : Nat} {h : HV} {Q : Int → HV → Prop} {c : Int} (ht : 0 ≤ h 1157 8 ∧ h 1157 8 < 96) : Sp fz1 (d + 1) 221 [(3, 1157), (0, c)] h Q = Q 0 (hset (hset (hset (hset (hset h 1568 (h 1157 8) c) 1632 (h 1157 8) 0) 1696 (h 1157 8) (h 1157 5)) 1760 (h 1157 8) (h 1222 2)) 1157 8 (h 1157 8 + 1)) := by
  simp (implicitDefEqProofs := false) (disch := omega) only [sp221, b221_0, b221_1, q221_1, x_aload0, y_call170, x_dup0, x_dup3, x_gc_5139, x_gc_5195, x_gc_5203, x_gc_5211, x_gc_5219, x_gf_5160, x_gf_5184, x_iadd, x_iastore, x_iconst, x_if_icmp_lt_1, x_iload1, x_pf_5184, x_return, klp_0, klp_1, klp_2, klp_3, klp_9, KC_0, KC_1, KC_2, KC_3, KC_4, ne_eq, not_false_eq_true, not_true_eq_false, true_and, and_true, and_self, implies_true, eq_self, true_imp_iff, false_implies, Int.reduceEq, Int.reduceNe, Int.reduceMod, Int.reduceMul, Int.reduceAdd, Int.reduceSub, Int.reduceLT, Int.reduceLE, Nat.reduceAdd, Nat.reduceLeDiff, Nat.reduceLT, Nat.reduceSub, reduceIte, wds_n, wds_0, wds_1, wds_2, wds_3, or_true, true_or, or_false, false_or, or_self, false_and, and_false, d_pos, d_s1, d_s2, d_s3, d_s4, d_s5, d_s6, d_s7, d_s8, Classical.not_not, z1157_2, z1157_9, z1568_l, z1157_10, z1632_l, z1157_11, z1696_l, z1157_12, z1760_l, s170, m57, m22, le_sub1, le_T, le_F, lt_T, lt_F, eq_F, w32_T, bz0, bz1, lc_le, lc_ge, lc_lt, lc_gt, lc_eq]
theorem s125K {d : Nat} {K h : HV} {Q : Int → HV → Prop} {i : Int} (hT : TC (h 1157 3)) (hl : h (h 1157 3) 17 ≤ 2400) (hK : ∀ i, cdT h i = K 0 i) : Sp fz1 d 125 [(3, h 1157 3), (0, i)] h Q = Q (K 0 i) h := by
  rw [s125 hT hl, ← hK]
  rfl
theorem lp232 {d : Nat} {K h : HV} {Q : Int → HV → Prop} {f t : Int} (hT : TC (h 1157 3)) (hl : h (h 1157 3) 17 ≤ 2400) (hK : ∀ i, cdT h i = K 0 i) : ∀ (m : Nat) (n a : Int), n + m = 7 → 0 ≤ n → chB K m a → G fz1 (d + 1) 232 1 [(3, 1157), (0, f), (0, t), (0, a), (0, n)] [] h Q = Q (blkF K f m a) h := by
  intro m
  have t0 := TC_0 hT
  have t1 := TC_k hT
  induction m with
  | zero =>
    intro n a hn h0 hb
    unfold blkF
    have : n = 7 := by omega
    subst this
    rw [q232_1]
    simp (implicitDefEqProofs := false) (disch := omega) only [b232_1, b232_2, b232_3, q232_2, q232_3, x_aload0, y_call125, x_gf_5147, x_goto_1, x_iadd, x_iconst, x_if_icmp_ge_3, x_if_icmp_ne_2, x_if_icmp_ne_3, x_iinc4, x_iload1, x_iload3, x_iload4, x_ireturn, x_istore3, klp_0, klp_1, klp_2, klp_3, klp_9, KC_0, KC_1, KC_2, KC_3, KC_4, ne_eq, not_false_eq_true, not_true_eq_false, true_and, and_true, and_self, implies_true, eq_self, true_imp_iff, false_implies, Int.reduceEq, Int.reduceNe, Int.reduceMod, Int.reduceMul, Int.reduceAdd, Int.reduceSub, Int.reduceLT, Int.reduceLE, Nat.reduceAdd, Nat.reduceLeDiff, Nat.reduceLT, Nat.reduceSub, reduceIte, wds_n, wds_0, wds_1, wds_2, wds_3, or_true, true_or, or_false, false_or, or_self, false_and, and_false, d_pos, d_s1, d_s2, d_s3, d_s4, d_s5, d_s6, d_s7, d_s8, Classical.not_not, s125K hT hl hK, t0, t1, le_sub1, le_T, le_F, lt_T, lt_F, eq_F, w32_T, bz0, bz1, lc_le, lc_ge, lc_lt, lc_gt, lc_eq]
  | succ m ih =>
    intro n a hn h0 hb
    obtain ⟨b0, b1⟩ := hb
    rw [q232_1]
    unfold blkF
    by_cases a1 : K 0 a = 22
    · rw [if_pos a1]
      by_cases a2 : K 0 (a + 1) = f
      · rw [if_pos a2]
        simp (implicitDefEqProofs := false) (disch := omega) only [b232_1, b232_2, b232_3, q232_2, q232_3, x_aload0, y_call125, x_gf_5147, x_goto_1, x_iadd, x_iconst, x_if_icmp_ge_3, x_if_icmp_ne_2, x_if_icmp_ne_3, x_iinc4, x_iload1, x_iload3, x_iload4, x_ireturn, x_istore3, klp_0, klp_1, klp_2, klp_3, klp_9, KC_0, KC_1, KC_2, KC_3, KC_4, ne_eq, not_false_eq_true, not_true_eq_false, true_and, and_true, and_self, implies_true, eq_self, true_imp_iff, false_implies, Int.reduceEq, Int.reduceNe, Int.reduceMod, Int.reduceMul, Int.reduceAdd, Int.reduceSub, Int.reduceLT, Int.reduceLE, Nat.reduceAdd, Nat.reduceLeDiff, Nat.reduceLT, Nat.reduceSub, reduceIte, wds_n, wds_0, wds_1, wds_2, wds_3, or_true, true_or, or_false, false_or, or_self, false_and, and_false, d_pos, d_s1, d_s2, d_s3, d_s4, d_s5, d_s6, d_s7, d_s8, Classical.not_not, s125K hT hl hK, t0, t1, a1, a2, le_sub1, le_T, le_F, lt_T, lt_F, eq_F, w32_T, bz0, bz1, lc_le, lc_ge, lc_lt, lc_gt, lc_eq]
      · rw [if_neg a2, ← ih (n + 1) (K 0 (a + 2)) (by omega) (by omega) (b1 a1)]
        simp (implicitDefEqProofs := false) (disch := omega) only [b232_1, b232_2, b232_3, q232_2, q232_3, x_aload0, y_call125, x_gf_5147, x_goto_1, x_iadd, x_iconst, x_if_icmp_ge_3, x_if_icmp_ne_2, x_if_icmp_ne_3, x_iinc4, x_iload1, x_iload3, x_iload4, x_ireturn, x_istore3, klp_0, klp_1, klp_2, klp_3, klp_9, KC_0, KC_1, KC_2, KC_3, KC_4, ne_eq, not_false_eq_true, not_true_eq_false, true_and, and_true, and_self, implies_true, eq_self, true_imp_iff, false_implies, Int.reduceEq, Int.reduceNe, Int.reduceMod, Int.reduceMul, Int.reduceAdd, Int.reduceSub, Int.reduceLT, Int.reduceLE, Nat.reduceAdd, Nat.reduceLeDiff, Nat.reduceLT, Nat.reduceSub, reduceIte, wds_n, wds_0, wds_1, wds_2, wds_3, or_true, true_or, or_false, false_or, or_self, false_and, and_false, d_pos, d_s1, d_s2, d_s3, d_s4, d_s5, d_s6, d_s7, d_s8, Classical.not_not, s125K hT hl hK, t0, t1, a1, a2, le_sub1, le_T, le_F, lt_T, lt_F, eq_F, w32_T, bz0, bz1, lc_le, lc_ge, lc_lt, lc_gt, lc_eq]
    · rw [if_neg a1]
      simp (implicitDefEqProofs := false) (disch := omega) only [b232_1, b232_2, b232_3, q232_2, q232_3, x_aload0, y_call125, x_gf_5147, x_goto_1, x_iadd, x_iconst, x_if_icmp_ge_3, x_if_icmp_ne_2, x_if_icmp_ne_3, x_iinc4, x_iload1, x_iload3, x_iload4, x_ireturn, x_istore3, klp_0, klp_1, klp_2, klp_3, klp_9, KC_0, KC_1, KC_2, KC_3, KC_4, ne_eq, not_false_eq_true, not_true_eq_false, true_and, and_true, and_self, implies_true, eq_self, true_imp_iff, false_implies, Int.reduceEq, Int.reduceNe, Int.reduceMod, Int.reduceMul, Int.reduceAdd, Int.reduceSub, Int.reduceLT, Int.reduceLE, Nat.reduceAdd, Nat.reduceLeDiff, Nat.reduceLT, Nat.reduceSub, reduceIte, wds_n, wds_0, wds_1, wds_2, wds_3, or_true, true_or, or_false, false_or, or_self, false_and, and_false, d_pos, d_s1, d_s2, d_s3, d_s4, d_s5, d_s6, d_s7, d_s8, Classical.not_not, s125K hT hl hK, t0, t1, a1, le_sub1, le_T, le_F, lt_T, lt_F, eq_F, w32_T, bz0, bz1, lc_le, lc_ge, lc_lt, lc_gt, lc_eq]
theorem s232 {d : Nat} {K h : HV} {Q : Int → HV → Prop} {f t : Int} (hT : TC (h 1157 3)) (hl : h (h 1157 3) 17 ≤ 2400) (hK : ∀ i, cdT h i = K 0 i) (ht : 0 ≤ t ∧ t < 96) (hb : chB K 7 (h 1568 t)) : Sp fz1 (d + 1) 232 [(3, 1157), (0, f), (0, t)] h Q = Q (blkF K f 7 (h 1568 t)) h := by
  rw [← lp232 (d := d) (Q := Q) (f := f) (t := t) hT hl hK 7 0 (h 1568 t) (by decide) (by decide) hb]
  simp (implicitDefEqProofs := false) (disch := omega) only [sp232, b232_0, b232_1, b232_2, b232_3, q232_2, q232_3, x_aload0, y_call125, x_gc_5195, x_gf_5147, x_goto_1, x_iadd, x_iaload, x_iconst, x_if_icmp_ge_3, x_if_icmp_ne_2, x_if_icmp_ne_3, x_iinc4, x_iload1, x_iload2, x_iload3, x_iload4, x_ireturn, x_istore3, x_istore4, klp_0, klp_1, klp_2, klp_3, klp_9, KC_0, KC_1, KC_2, KC_3, KC_4, ne_eq, not_false_eq_true, not_true_eq_false, true_and, and_true, and_self, implies_true, eq_self, true_imp_iff, false_implies, Int.reduceEq, Int.reduceNe, Int.reduceMod, Int.reduceMul, Int.reduceAdd, Int.reduceSub, Int.reduceLT, Int.reduceLE, Nat.reduceAdd, Nat.reduceLeDiff, Nat.reduceLT, Nat.reduceSub, reduceIte, wds_n, wds_0, wds_1, wds_2, wds_3, or_true, true_or, or_false, false_or, or_self, false_and, and_false, d_pos, d_s1, d_s2, d_s3, d_s4, d_s5, d_s6, d_s7, d_s8, Classical.not_not, z1157_9, z1568_l, le_sub1, le_T, le_F, lt_T, lt_F, eq_F, w32_T, bz0, bz1, lc_le, lc_ge, lc_lt, lc_gt, lc_eq]
theorem lp215 {d : Nat} {K h : HV} {Q : Int → HV → Prop} {w b t : Int} (hT : TC (h 1157 3)) (hl : h (h 1157 3) 17 ≤ 2400) (hK : ∀ i, cdT h i = K 0 i) (ht : 0 ≤ t ∧ t < 96) : ∀ (m : Nat) (n a : Int), n + m = 7 → 0 ≤ n → chB K m a → G fz1 (d + 1) 215 1 [(3, 1157), (0, t), (0, w), (1, b), (9, 0), (0, a), (0, n)] [] h Q = Q 0 (alH h t w b (endF K m a)) := by
  intro m
  have t0 := TC_0 hT
  have t1 := TC_k hT
  induction m with
  | zero =>
    intro n a hn h0 hb
    unfold endF alH
    have : n = 7 := by omega
    subst this
    rw [q215_1]
    simp (implicitDefEqProofs := false) (disch := omega) only [b215_1, b215_2, q215_2, x_aload0, y_call125, x_gc_5203, x_gc_5227, x_gc_5235, x_gf_5147, x_goto_1, x_iadd, x_iastore, x_iconst, x_if_icmp_ge_2, x_if_icmp_ne_2, x_iinc6, x_iload1, x_iload2, x_iload5, x_iload6, x_istore5, x_lastore, x_lload3, x_pf_5152, x_return, klp_0, klp_1, klp_2, klp_3, klp_9, KC_0, KC_1, KC_2, KC_3, KC_4, ne_eq, not_false_eq_true, not_true_eq_false, true_and, and_true, and_self, implies_true, eq_self, true_imp_iff, false_implies, Int.reduceEq, Int.reduceNe, Int.reduceMod, Int.reduceMul, Int.reduceAdd, Int.reduceSub, Int.reduceLT, Int.reduceLE, Nat.reduceAdd, Nat.reduceLeDiff, Nat.reduceLT, Nat.reduceSub, reduceIte, wds_n, wds_0, wds_1, wds_2, wds_3, or_true, true_or, or_false, false_or, or_self, false_and, and_false, d_pos, d_s1, d_s2, d_s3, d_s4, d_s5, d_s6, d_s7, d_s8, Classical.not_not, z1157_9, z1568_l, z1157_10, z1632_l, z1157_13, z1824_l, z1157_14, z1889_l, TC_0 hT, TC_k hT, s125K hT hl hK, t0, t1, m57, le_sub1, le_T, le_F, lt_T, lt_F, eq_F, w32_T, bz0, bz1, lc_le, lc_ge, lc_lt, lc_gt, lc_eq]
  | succ m ih =>
    intro n a hn h0 hb
    obtain ⟨b0, b1⟩ := hb
    rw [q215_1]
    unfold endF
    by_cases a1 : K 0 a = 22
    · rw [if_pos a1, ← ih (n + 1) (K 0 (a + 2)) (by omega) (by omega) (b1 a1)]
      simp (implicitDefEqProofs := false) (disch := omega) only [b215_1, b215_2, q215_2, x_aload0, y_call125, x_gc_5203, x_gc_5227, x_gc_5235, x_gf_5147, x_goto_1, x_iadd, x_iastore, x_iconst, x_if_icmp_ge_2, x_if_icmp_ne_2, x_iinc6, x_iload1, x_iload2, x_iload5, x_iload6, x_istore5, x_lastore, x_lload3, x_pf_5152, x_return, klp_0, klp_1, klp_2, klp_3, klp_9, KC_0, KC_1, KC_2, KC_3, KC_4, ne_eq, not_false_eq_true, not_true_eq_false, true_and, and_true, and_self, implies_true, eq_self, true_imp_iff, false_implies, Int.reduceEq, Int.reduceNe, Int.reduceMod, Int.reduceMul, Int.reduceAdd, Int.reduceSub, Int.reduceLT, Int.reduceLE, Nat.reduceAdd, Nat.reduceLeDiff, Nat.reduceLT, Nat.reduceSub, reduceIte, wds_n, wds_0, wds_1, wds_2, wds_3, or_true, true_or, or_false, false_or, or_self, false_and, and_false, d_pos, d_s1, d_s2, d_s3, d_s4, d_s5, d_s6, d_s7, d_s8, Classical.not_not, z1157_9, z1568_l, z1157_10, z1632_l, z1157_13, z1824_l, z1157_14, z1889_l, TC_0 hT, TC_k hT, s125K hT hl hK, t0, t1, a1, le_sub1, le_T, le_F, lt_T, lt_F, eq_F, w32_T, bz0, bz1, lc_le, lc_ge, lc_lt, lc_gt, lc_eq]
    · rw [if_neg a1]
      unfold alH
      simp (implicitDefEqProofs := false) (disch := omega) only [b215_1, b215_2, q215_2, x_aload0, y_call125, x_gc_5203, x_gc_5227, x_gc_5235, x_gf_5147, x_goto_1, x_iadd, x_iastore, x_iconst, x_if_icmp_ge_2, x_if_icmp_ne_2, x_iinc6, x_iload1, x_iload2, x_iload5, x_iload6, x_istore5, x_lastore, x_lload3, x_pf_5152, x_return, klp_0, klp_1, klp_2, klp_3, klp_9, KC_0, KC_1, KC_2, KC_3, KC_4, ne_eq, not_false_eq_true, not_true_eq_false, true_and, and_true, and_self, implies_true, eq_self, true_imp_iff, false_implies, Int.reduceEq, Int.reduceNe, Int.reduceMod, Int.reduceMul, Int.reduceAdd, Int.reduceSub, Int.reduceLT, Int.reduceLE, Nat.reduceAdd, Nat.reduceLeDiff, Nat.reduceLT, Nat.reduceSub, reduceIte, wds_n, wds_0, wds_1, wds_2, wds_3, or_true, true_or, or_false, false_or, or_self, false_and, and_false, d_pos, d_s1, d_s2, d_s3, d_s4, d_s5, d_s6, d_s7, d_s8, Classical.not_not, z1157_9, z1568_l, z1157_10, z1632_l, z1157_13, z1824_l, z1157_14, z1889_l, TC_0 hT, TC_k hT, s125K hT hl hK, t0, t1, a1, m57, le_sub1, le_T, le_F, lt_T, lt_F, eq_F, w32_T, bz0, bz1, lc_le, lc_ge, lc_lt, lc_gt, lc_eq]
theorem s215 {d : Nat} {K h : HV} {Q : Int → HV → Prop} {w b t : Int} (hT : TC (h 1157 3)) (hl : h (h 1157 3) 17 ≤ 2400) (hK : ∀ i, cdT h i = K 0 i) (ht : 0 ≤ t ∧ t < 96) (hb : chB K 7 (h 1568 t)) : Sp fz1 (d + 1) 215 [(3, 1157), (0, t), (0, w), (1, b)] h Q = Q 0 (alH h t w b (endF K 7 (h 1568 t))) := by
  rw [← lp215 (d := d) (Q := Q) (w := w) (b := b) (t := t) hT hl hK ht 7 0 (h 1568 t) (by decide) (by decide) hb]
  simp (implicitDefEqProofs := false) (disch := omega) only [sp215, b215_0, b215_1, b215_2, q215_2, x_aload0, y_call125, x_gc_5195, x_gc_5203, x_gc_5227, x_gc_5235, x_gf_5147, x_goto_1, x_iadd, x_iaload, x_iastore, x_iconst, x_if_icmp_ge_2, x_if_icmp_ne_2, x_iinc6, x_iload1, x_iload2, x_iload5, x_iload6, x_istore5, x_istore6, x_lastore, x_lload3, x_pf_5152, x_return, klp_0, klp_1, klp_2, klp_3, klp_9, KC_0, KC_1, KC_2, KC_3, KC_4, ne_eq, not_false_eq_true, not_true_eq_false, true_and, and_true, and_self, implies_true, eq_self, true_imp_iff, false_implies, Int.reduceEq, Int.reduceNe, Int.reduceMod, Int.reduceMul, Int.reduceAdd, Int.reduceSub, Int.reduceLT, Int.reduceLE, Nat.reduceAdd, Nat.reduceLeDiff, Nat.reduceLT, Nat.reduceSub, reduceIte, wds_n, wds_0, wds_1, wds_2, wds_3, or_true, true_or, or_false, false_or, or_self, false_and, and_false, d_pos, d_s1, d_s2, d_s3, d_s4, d_s5, d_s6, d_s7, d_s8, Classical.not_not, z1157_9, z1568_l, z1157_10, z1632_l, z1157_13, z1824_l, z1157_14, z1889_l, le_sub1, le_T, le_F, lt_T, lt_F, eq_F, w32_T, bz0, bz1, lc_le, lc_ge, lc_lt, lc_gt, lc_eq]
