/-! THE PURE SIDE, 130: a run begins, the class: printed by wip/tools/gen89zzh.py -/
def bgC (h : HV) (most : Int) : HV := cutH (hset (hset (hset (hset (hset (hset (hset h 1157 17 0) 1157 16 most) 1157 20 0) 1157 19 100) 1157 18 0) 1157 8 0) 1157 5 (-1)) 0
def psN (h : HV) (a b c e : Int) : Nat → HV
  | 0 => h
  | j + 1 => pshH (psN h a b c e j) 1 (agV a b c e j)
theorem s166f {d : Nat} {h : HV} {Q : Int → HV → Prop} {q most a b c e : Int} (hf : h 1157 15 = 10000) : Sp fz1 (d + 1) 166 [(3, 1157), (0, q), (0, most), (0, a), (0, b), (0, c), (0, e)] h Q = Q (-23) (hset (hset (hset h 1157 17 0) 1157 16 most) 1157 20 0) := by
  simp (implicitDefEqProofs := false) (disch := omega) only [sp166, b166_0, b166_1, b166_2, b166_3, b166_4, b166_5, b166_6, b166_7, b166_8, b166_9, b166_10, b166_11, b166_12, b166_13, b166_14, q166_1, q166_2, q166_3, q166_5, q166_6, q166_7, q166_8, q166_9, q166_11, q166_12, q166_13, q166_14, x_aload0, x_bipush, y_call167, y_call168, y_call169, y_call172, y_call173, y_call175, y_call231, y_call69, x_gc_10347, x_gc_5139, x_gf_5147, x_gf_5240, x_gf_5264, x_gf_5272, x_goto_10, x_goto_12, x_goto_14, x_goto_3, x_goto_4, x_goto_8, x_i2l, x_iaload, x_iconst, x_ifCond_eq_2, x_ifCond_ne_11, x_ifCond_ne_5, x_if_icmp_ge_13, x_if_icmp_ge_9, x_if_icmp_lt_1, x_if_icmp_ne_13, x_if_icmp_ne_14, x_if_icmp_ne_6, x_if_icmp_ne_7, x_iinc8, x_iload1, x_iload2, x_iload3, x_iload4, x_iload5, x_iload6, x_iload7, x_iload8, x_ireturn, x_istore7, x_istore8, x_pf_5160, x_pf_5184, x_pf_5248, x_pf_5256, x_pf_5264, x_pf_5272, x_pf_5281, klp_0, klp_1, klp_2, klp_3, klp_9, KC_0, KC_1, KC_2, KC_3, KC_4, ne_eq, not_false_eq_true, not_true_eq_false, true_and, and_true, and_self, implies_true, eq_self, true_imp_iff, false_implies, Int.reduceEq, Int.reduceNe, Int.reduceMod, Int.reduceMul, Int.reduceAdd, Int.reduceSub, Int.reduceLT, Int.reduceLE, Nat.reduceAdd, Nat.reduceLeDiff, Nat.reduceLT, Nat.reduceSub, reduceIte, wds_n, wds_0, wds_1, wds_2, wds_3, or_true, true_or, or_false, false_or, or_self, false_and, and_false, d_pos, d_s1, d_s2, d_s3, d_s4, d_s5, d_s6, d_s7, d_s8, Classical.not_not, z1157_2, hs_ne, hcell, hcel1, hf, le_sub1, le_T, le_F, lt_T, lt_F, eq_F, w32_T, bz0, bz1, lc_le, lc_ge, lc_lt, lc_gt, lc_eq] <;> first | rfl | (rw [if_pos (by omega)] <;> rfl) | (rw [if_neg (by omega)] <;> rfl) | (exfalso; omega)
theorem s166p {d : Nat} {h : HV} {Q : Int → HV → Prop} {q most a b c e nm : Int} (hT : TC (h 1157 3)) (kf : h 1157 15 < 10000) (hq : 0 ≤ q ∧ q < 12 ∧ q < h (h 1157 3 + 598) 6) (en : h (h 1157 3 + 1302) q = nm) : Sp fz1 (d + 2) 166 [(3, 1157), (0, q), (0, most), (0, a), (0, b), (0, c), (0, e)] h Q = G fz1 (d + 2) 166 4 [(3, 1157), (0, q), (0, most), (0, a), (0, b), (0, c), (0, e), (0, nm), (0, 0)] [] (bgC h most) Q := by
  have kf : ¬ 10000 ≤ h 1157 15 := by omega
  have kT : h 1157 3 + 598 ≠ 1157 ∧ h 1157 3 + 598 ≠ 1222 ∧ h 1157 3 + 1302 ≠ 1157 ∧ h 1157 3 + 1302 ≠ 1222 := by rcases hT with w | w <;> omega
  have W69 : ∀ Q : Int → HV → Prop, Sp fz1 (d + 1) 69 [(3, h 1157 3), (0, 6), (0, q)] (bgC h most) Q = Q 1 (bgC h most) := fun Q => by
    rw [s69 hT (by decide), if_pos]
    unfold bgC
    rw [cut_ne (by omega), hs_ne (by omega), hs_ne (by omega), hs_ne (by omega), hs_ne (by omega), hs_ne (by omega), hs_ne (by omega), hs_ne (by omega)]
    omega
  unfold bgC at W69 ⊢
  simp (implicitDefEqProofs := false) (disch := omega) only [sp166, b166_0, b166_1, b166_2, b166_3, q166_1, q166_2, q166_3, x_aload0, x_bipush, y_call167, y_call69, x_gc_10347, x_gc_5139, x_gf_5147, x_gf_5240, x_goto_3, x_goto_4, x_iaload, x_iconst, x_ifCond_eq_2, x_if_icmp_lt_1, x_iload1, x_iload2, x_ireturn, x_istore7, x_istore8, x_pf_5160, x_pf_5184, x_pf_5248, x_pf_5256, x_pf_5264, x_pf_5272, x_pf_5281, klp_0, klp_1, klp_2, klp_3, klp_9, KC_0, KC_1, KC_2, KC_3, KC_4, ne_eq, not_false_eq_true, not_true_eq_false, true_and, and_true, and_self, implies_true, eq_self, true_imp_iff, false_implies, Int.reduceEq, Int.reduceNe, Int.reduceMod, Int.reduceMul, Int.reduceAdd, Int.reduceSub, Int.reduceLT, Int.reduceLE, Nat.reduceAdd, Nat.reduceLeDiff, Nat.reduceLT, Nat.reduceSub, reduceIte, wds_n, wds_0, wds_1, wds_2, wds_3, or_true, true_or, or_false, false_or, or_self, false_and, and_false, d_pos, d_s1, d_s2, d_s3, d_s4, d_s5, d_s6, d_s7, d_s8, Classical.not_not, c13 hT, c13l hT, c13k hT, z1157_2, TC_0 hT, TC_k hT, hs_ne, hcell, hcel1, s167, cut_ne, kf, s69 hT, en, W69, le_sub1, le_T, le_F, lt_T, lt_F, eq_F, w32_T, bz0, bz1, lc_le, lc_ge, lc_lt, lc_gt, lc_eq]
theorem s166_0 {d : Nat} {H : HV} {Q : Int → HV → Prop} {q most a b c e nm : Int} (V : VOK H) (hl : H 1222 2 < H (H 1222 0) (-1)) (hj : 0 < nm) : G fz1 (d + 2) 166 4 [(3, 1157), (0, q), (0, most), (0, a), (0, b), (0, c), (0, e), (0, nm), (0, 0)] [] H Q = G fz1 (d + 2) 166 4 [(3, 1157), (0, q), (0, most), (0, a), (0, b), (0, c), (0, e), (0, nm), (0, 1)] [] (pshH H 1 a) Q := by
  have W : ∀ Q : Int → HV → Prop, Sp fz1 (d + 1) 168 [(3, 1222), (0, 1), (1, a)] H Q = Q 0 (pshH H 1 a) := fun Q => s168 V hl
  rw [q166_4]
  simp (implicitDefEqProofs := false) (disch := omega) only [b166_4, b166_5, b166_6, b166_7, b166_8, q166_5, q166_6, q166_7, q166_8, x_aload0, y_call168, x_gc_5139, x_goto_4, x_goto_8, x_i2l, x_iconst, x_ifCond_ne_5, x_if_icmp_ge_9, x_if_icmp_ne_6, x_if_icmp_ne_7, x_iinc8, x_iload3, x_iload4, x_iload5, x_iload6, x_iload7, x_iload8, klp_0, klp_1, klp_2, klp_3, klp_9, KC_0, KC_1, KC_2, KC_3, KC_4, ne_eq, not_false_eq_true, not_true_eq_false, true_and, and_true, and_self, implies_true, eq_self, true_imp_iff, false_implies, Int.reduceEq, Int.reduceNe, Int.reduceMod, Int.reduceMul, Int.reduceAdd, Int.reduceSub, Int.reduceLT, Int.reduceLE, Nat.reduceAdd, Nat.reduceLeDiff, Nat.reduceLT, Nat.reduceSub, reduceIte, wds_n, wds_0, wds_1, wds_2, wds_3, or_true, true_or, or_false, false_or, or_self, false_and, and_false, d_pos, d_s1, d_s2, d_s3, d_s4, d_s5, d_s6, d_s7, d_s8, Classical.not_not, z1157_2, hs_ne, hcell, hcel1, W, le_sub1, le_T, le_F, lt_T, lt_F, eq_F, w32_T, bz0, bz1, lc_le, lc_ge, lc_lt, lc_gt, lc_eq]
theorem s166_1 {d : Nat} {H : HV} {Q : Int → HV → Prop} {q most a b c e nm : Int} (V : VOK H) (hl : H 1222 2 < H (H 1222 0) (-1)) (hj : 1 < nm) : G fz1 (d + 2) 166 4 [(3, 1157), (0, q), (0, most), (0, a), (0, b), (0, c), (0, e), (0, nm), (0, 1)] [] H Q = G fz1 (d + 2) 166 4 [(3, 1157), (0, q), (0, most), (0, a), (0, b), (0, c), (0, e), (0, nm), (0, 2)] [] (pshH H 1 b) Q := by
  have W : ∀ Q : Int → HV → Prop, Sp fz1 (d + 1) 168 [(3, 1222), (0, 1), (1, b)] H Q = Q 0 (pshH H 1 b) := fun Q => s168 V hl
  rw [q166_4]
  simp (implicitDefEqProofs := false) (disch := omega) only [b166_4, b166_5, b166_6, b166_7, b166_8, q166_5, q166_6, q166_7, q166_8, x_aload0, y_call168, x_gc_5139, x_goto_4, x_goto_8, x_i2l, x_iconst, x_ifCond_ne_5, x_if_icmp_ge_9, x_if_icmp_ne_6, x_if_icmp_ne_7, x_iinc8, x_iload3, x_iload4, x_iload5, x_iload6, x_iload7, x_iload8, klp_0, klp_1, klp_2, klp_3, klp_9, KC_0, KC_1, KC_2, KC_3, KC_4, ne_eq, not_false_eq_true, not_true_eq_false, true_and, and_true, and_self, implies_true, eq_self, true_imp_iff, false_implies, Int.reduceEq, Int.reduceNe, Int.reduceMod, Int.reduceMul, Int.reduceAdd, Int.reduceSub, Int.reduceLT, Int.reduceLE, Nat.reduceAdd, Nat.reduceLeDiff, Nat.reduceLT, Nat.reduceSub, reduceIte, wds_n, wds_0, wds_1, wds_2, wds_3, or_true, true_or, or_false, false_or, or_self, false_and, and_false, d_pos, d_s1, d_s2, d_s3, d_s4, d_s5, d_s6, d_s7, d_s8, Classical.not_not, z1157_2, hs_ne, hcell, hcel1, W, le_sub1, le_T, le_F, lt_T, lt_F, eq_F, w32_T, bz0, bz1, lc_le, lc_ge, lc_lt, lc_gt, lc_eq]
theorem s166_2 {d : Nat} {H : HV} {Q : Int → HV → Prop} {q most a b c e nm : Int} (V : VOK H) (hl : H 1222 2 < H (H 1222 0) (-1)) (hj : 2 < nm) : G fz1 (d + 2) 166 4 [(3, 1157), (0, q), (0, most), (0, a), (0, b), (0, c), (0, e), (0, nm), (0, 2)] [] H Q = G fz1 (d + 2) 166 4 [(3, 1157), (0, q), (0, most), (0, a), (0, b), (0, c), (0, e), (0, nm), (0, 3)] [] (pshH H 1 c) Q := by
  have W : ∀ Q : Int → HV → Prop, Sp fz1 (d + 1) 168 [(3, 1222), (0, 1), (1, c)] H Q = Q 0 (pshH H 1 c) := fun Q => s168 V hl
  rw [q166_4]
  simp (implicitDefEqProofs := false) (disch := omega) only [b166_4, b166_5, b166_6, b166_7, b166_8, q166_5, q166_6, q166_7, q166_8, x_aload0, y_call168, x_gc_5139, x_goto_4, x_goto_8, x_i2l, x_iconst, x_ifCond_ne_5, x_if_icmp_ge_9, x_if_icmp_ne_6, x_if_icmp_ne_7, x_iinc8, x_iload3, x_iload4, x_iload5, x_iload6, x_iload7, x_iload8, klp_0, klp_1, klp_2, klp_3, klp_9, KC_0, KC_1, KC_2, KC_3, KC_4, ne_eq, not_false_eq_true, not_true_eq_false, true_and, and_true, and_self, implies_true, eq_self, true_imp_iff, false_implies, Int.reduceEq, Int.reduceNe, Int.reduceMod, Int.reduceMul, Int.reduceAdd, Int.reduceSub, Int.reduceLT, Int.reduceLE, Nat.reduceAdd, Nat.reduceLeDiff, Nat.reduceLT, Nat.reduceSub, reduceIte, wds_n, wds_0, wds_1, wds_2, wds_3, or_true, true_or, or_false, false_or, or_self, false_and, and_false, d_pos, d_s1, d_s2, d_s3, d_s4, d_s5, d_s6, d_s7, d_s8, Classical.not_not, z1157_2, hs_ne, hcell, hcel1, W, le_sub1, le_T, le_F, lt_T, lt_F, eq_F, w32_T, bz0, bz1, lc_le, lc_ge, lc_lt, lc_gt, lc_eq]
theorem s166_3 {d : Nat} {H : HV} {Q : Int → HV → Prop} {q most a b c e nm : Int} (V : VOK H) (hl : H 1222 2 < H (H 1222 0) (-1)) (hj : 3 < nm) : G fz1 (d + 2) 166 4 [(3, 1157), (0, q), (0, most), (0, a), (0, b), (0, c), (0, e), (0, nm), (0, 3)] [] H Q = G fz1 (d + 2) 166 4 [(3, 1157), (0, q), (0, most), (0, a), (0, b), (0, c), (0, e), (0, nm), (0, 4)] [] (pshH H 1 e) Q := by
  have W : ∀ Q : Int → HV → Prop, Sp fz1 (d + 1) 168 [(3, 1222), (0, 1), (1, e)] H Q = Q 0 (pshH H 1 e) := fun Q => s168 V hl
  rw [q166_4]
  simp (implicitDefEqProofs := false) (disch := omega) only [b166_4, b166_5, b166_6, b166_7, b166_8, q166_5, q166_6, q166_7, q166_8, x_aload0, y_call168, x_gc_5139, x_goto_4, x_goto_8, x_i2l, x_iconst, x_ifCond_ne_5, x_if_icmp_ge_9, x_if_icmp_ne_6, x_if_icmp_ne_7, x_iinc8, x_iload3, x_iload4, x_iload5, x_iload6, x_iload7, x_iload8, klp_0, klp_1, klp_2, klp_3, klp_9, KC_0, KC_1, KC_2, KC_3, KC_4, ne_eq, not_false_eq_true, not_true_eq_false, true_and, and_true, and_self, implies_true, eq_self, true_imp_iff, false_implies, Int.reduceEq, Int.reduceNe, Int.reduceMod, Int.reduceMul, Int.reduceAdd, Int.reduceSub, Int.reduceLT, Int.reduceLE, Nat.reduceAdd, Nat.reduceLeDiff, Nat.reduceLT, Nat.reduceSub, reduceIte, wds_n, wds_0, wds_1, wds_2, wds_3, or_true, true_or, or_false, false_or, or_self, false_and, and_false, d_pos, d_s1, d_s2, d_s3, d_s4, d_s5, d_s6, d_s7, d_s8, Classical.not_not, z1157_2, hs_ne, hcell, hcel1, W, le_sub1, le_T, le_F, lt_T, lt_F, eq_F, w32_T, bz0, bz1, lc_le, lc_ge, lc_lt, lc_gt, lc_eq]
theorem s166_e {d : Nat} {H : HV} {Q : Int → HV → Prop} {q most a b c e nm j : Int} (hj : nm ≤ j) : G fz1 (d + 8) 166 4 [(3, 1157), (0, q), (0, most), (0, a), (0, b), (0, c), (0, e), (0, nm), (0, j)] [] H Q = Sp fz1 (d + 7) 169 [(3, 1157), (0, q), (0, nm)] H (fun _ h1 => LPC d (0, q) (0, most) (0, a) (0, b) (0, c) (0, e) nm 0 h1 Q) := by
  rw [q166_4]
  unfold LPC
  simp (implicitDefEqProofs := false) (disch := omega) only [b166_4, b166_9, q166_9, x_aload0, y_call169, x_gc_5139, x_goto_10, x_goto_8, x_i2l, x_iconst, x_ifCond_ne_5, x_if_icmp_ge_9, x_iload1, x_iload3, x_iload7, x_iload8, x_istore8, klp_0, klp_1, klp_2, klp_3, klp_9, KC_0, KC_1, KC_2, KC_3, KC_4, ne_eq, not_false_eq_true, not_true_eq_false, true_and, and_true, and_self, implies_true, eq_self, true_imp_iff, false_implies, Int.reduceEq, Int.reduceNe, Int.reduceMod, Int.reduceMul, Int.reduceAdd, Int.reduceSub, Int.reduceLT, Int.reduceLE, Nat.reduceAdd, Nat.reduceLeDiff, Nat.reduceLT, Nat.reduceSub, reduceIte, wds_n, wds_0, wds_1, wds_2, wds_3, or_true, true_or, or_false, false_or, or_self, false_and, and_false, d_pos, d_s1, d_s2, d_s3, d_s4, d_s5, d_s6, d_s7, d_s8, Classical.not_not, z1157_2, hs_ne, hcell, hcel1, le_sub1, le_T, le_F, lt_T, lt_F, eq_F, w32_T, bz0, bz1, lc_le, lc_ge, lc_lt, lc_gt, lc_eq] <;> (first | done | rfl | (refine congrArg (Sp _ _ _ _ _) (funext fun r => funext fun h1 => ?_); simp (implicitDefEqProofs := false) (disch := omega) only [b166_4, b166_9, q166_9, x_aload0, y_call169, x_gc_5139, x_goto_10, x_goto_8, x_i2l, x_iconst, x_ifCond_ne_5, x_if_icmp_ge_9, x_iload1, x_iload3, x_iload7, x_iload8, x_istore8, klp_0, klp_1, klp_2, klp_3, klp_9, KC_0, KC_1, KC_2, KC_3, KC_4, ne_eq, not_false_eq_true, not_true_eq_false, true_and, and_true, and_self, implies_true, eq_self, true_imp_iff, false_implies, Int.reduceEq, Int.reduceNe, Int.reduceMod, Int.reduceMul, Int.reduceAdd, Int.reduceSub, Int.reduceLT, Int.reduceLE, Nat.reduceAdd, Nat.reduceLeDiff, Nat.reduceLT, Nat.reduceSub, reduceIte, wds_n, wds_0, wds_1, wds_2, wds_3, or_true, true_or, or_false, false_or, or_self, false_and, and_false, d_pos, d_s1, d_s2, d_s3, d_s4, d_s5, d_s6, d_s7, d_s8, Classical.not_not, z1157_2, hs_ne, hcell, hcel1, le_sub1, le_T, le_F, lt_T, lt_F, eq_F, w32_T, bz0, bz1, lc_le, lc_ge, lc_lt, lc_gt, lc_eq] <;> (first | done | rfl)))
theorem psN_2 {h : HV} {a b c e : Int} (V : VOK h) (h2 : h 1222 2 = 0) (hl : 256 ≤ cK h (-1)) : ∀ j : Nat, j ≤ 4 → CCG h (psN h a b c e j) ∧ psN h a b c e j 1222 2 = j ∧ (∀ p : Int, cK (psN h a b c e j) p = if 0 ≤ p ∧ p < j then 1 else cK h p) ∧ (∀ p : Int, cB (psN h a b c e j) p = if 0 ≤ p ∧ p < j then agV a b c e p else cB h p) ∧ ∀ o, o ≠ 1222 → o ≠ h 1222 0 → o ≠ h 1222 1 → psN h a b c e j o = h o
  | 0, _ => by
    refine ⟨CCG.id V, h2, fun p => ?_, fun p => ?_, fun _ _ _ _ => rfl⟩
    · rw [if_neg (by omega)]; rfl
    · rw [if_neg (by omega)]; rfl
  | j + 1, hj => by
    obtain ⟨C, i2, iK, iB, io⟩ := psN_2 (a := a) (b := b) (c := c) (e := e) V h2 hl j (by omega)
    have V1 := C.V V
    have l1 := C.2.2.2.1.1
    obtain ⟨C2, r2, rK, rB, ro⟩ := rpH_2 (h := psN h a b c e j) (n := 0) (k := 1) (b := agV a b c e j) V1 (by omega) (by rw [l1]; omega)
    have e : psN h a b c e (j + 1) = rpH (psN h a b c e j) 0 1 (agV a b c e j) := by rw [← psh_rp]; rfl
    rw [e]
    have z := C.2.2.1
    refine ⟨C.tr C2, by rw [r2]; omega, fun p => ?_, fun p => ?_, fun o p q r => ?_⟩
    · rw [rK, iK, i2]
      by_cases w : p = (j : Int)
      · rw [if_pos (by omega), if_pos (by omega)]
      · rw [if_neg (by omega)]
        by_cases u : 0 ≤ p ∧ p < (j : Int)
        · rw [if_pos u, if_pos (by omega)]
        · rw [if_neg u, if_neg (by omega)]
    · rw [rB, iB, i2]
      by_cases w : p = (j : Int)
      · rw [if_pos (by omega), if_pos (by omega), w]
      · rw [if_neg (by omega)]
        by_cases u : 0 ≤ p ∧ p < (j : Int)
        · rw [if_pos u, if_pos (by omega)]
        · rw [if_neg u, if_neg (by omega)]
    · rw [ro o p (by rw [z.1]; exact q) (by rw [z.2]; exact r), io o p q r]
theorem s166l {d : Nat} {h : HV} {Q : Int → HV → Prop} {q most a b c e nm : Int} (V : VOK h) (h2 : h 1222 2 = 0) (hl : 256 ≤ cK h (-1)) (hn : 0 ≤ nm ∧ nm ≤ 4) : G fz1 (d + 8) 166 4 [(3, 1157), (0, q), (0, most), (0, a), (0, b), (0, c), (0, e), (0, nm), (0, 0)] [] h Q = Sp fz1 (d + 7) 169 [(3, 1157), (0, q), (0, nm)] (psN h a b c e nm.toNat) (fun _ h1 => LPC d (0, q) (0, most) (0, a) (0, b) (0, c) (0, e) nm 0 h1 Q) := by
  have P := psN_2 (a := a) (b := b) (c := c) (e := e) V h2 hl
  have lt : ∀ j : Nat, j ≤ 3 → VOK (psN h a b c e j) ∧ psN h a b c e j 1222 2 < psN h a b c e j (psN h a b c e j 1222 0) (-1) := fun j hj => by
    obtain ⟨C, i2, -, -, -⟩ := P j (by omega)
    have l1 := C.2.2.2.1.1
    unfold cK at l1 hl
    refine ⟨C.V V, ?_⟩
    rw [l1]
    omega
  rcases (show nm = 0 ∨ nm = 1 ∨ nm = 2 ∨ nm = 3 ∨ nm = 4 by omega) with w | w | w | w | w
  · subst w
    exact s166_e (Int.le_refl _)
  · subst w
    rw [s166_0 (d := d + 6) (nm := 1) V (lt 0 (by omega)).2 (by decide), show pshH h 1 a = psN h a b c e 1 from rfl]
    exact s166_e (Int.le_refl _)
  · subst w
    rw [s166_0 (d := d + 6) (nm := 2) V (lt 0 (by omega)).2 (by decide), show pshH h 1 a = psN h a b c e 1 from rfl]
    rw [s166_1 (d := d + 6) (nm := 2) (lt 1 (by omega)).1 (lt 1 (by omega)).2 (by decide), show pshH (psN h a b c e 1) 1 b = psN h a b c e 2 from rfl]
    exact s166_e (Int.le_refl _)
  · subst w
    rw [s166_0 (d := d + 6) (nm := 3) V (lt 0 (by omega)).2 (by decide), show pshH h 1 a = psN h a b c e 1 from rfl]
    rw [s166_1 (d := d + 6) (nm := 3) (lt 1 (by omega)).1 (lt 1 (by omega)).2 (by decide), show pshH (psN h a b c e 1) 1 b = psN h a b c e 2 from rfl]
    rw [s166_2 (d := d + 6) (nm := 3) (lt 2 (by omega)).1 (lt 2 (by omega)).2 (by decide), show pshH (psN h a b c e 2) 1 c = psN h a b c e 3 from rfl]
    exact s166_e (Int.le_refl _)
  · subst w
    rw [s166_0 (d := d + 6) (nm := 4) V (lt 0 (by omega)).2 (by decide), show pshH h 1 a = psN h a b c e 1 from rfl]
    rw [s166_1 (d := d + 6) (nm := 4) (lt 1 (by omega)).1 (lt 1 (by omega)).2 (by decide), show pshH (psN h a b c e 1) 1 b = psN h a b c e 2 from rfl]
    rw [s166_2 (d := d + 6) (nm := 4) (lt 2 (by omega)).1 (lt 2 (by omega)).2 (by decide), show pshH (psN h a b c e 2) 1 c = psN h a b c e 3 from rfl]
    rw [s166_3 (d := d + 6) (nm := 4) (lt 3 (by omega)).1 (lt 3 (by omega)).2 (by decide), show pshH (psN h a b c e 3) 1 e = psN h a b c e 4 from rfl]
    exact s166_e (Int.le_refl _)
