/-! THE PURE SIDE, 40: feed, units, count, both sides: printed by wip/tools/gen59.py -/
/-- the tape -/
def RTp (h : HV) : Prop := h 6603 1 = h 129 1 ∧ (0 ≤ h 129 1 ∧ h 129 1 ≤ 2400) ∧ ∀ i, 0 ≤ i → i < h 129 1 → h 6691 i = h 227 i ∧ -128 ≤ h 227 i ∧ h 227 i ≤ 127
def byF (v i : Int) : Int := w8 (w8 (w32 (l_shr v (8 * i))))
theorem bst_227 {x : Int} : bst 227 x = w8 x := rfl
theorem bst_6691 {x : Int} : bst 6691 x = w8 x := rfl
/-- bytes of v at n0 .. n0 + j - 1 -/
def btH (ar : Int) (h : HV) (v n0 j : Int) : HV := fun o i => if o = ar ∧ n0 ≤ i ∧ i < n0 + j then byF v (i - n0) else h o i
theorem btH_v (ar : Int) (h : HV) (v n0 j o i : Int) : btH ar h v n0 j o i = if o = ar ∧ n0 ≤ i ∧ i < n0 + j then byF v (i - n0) else h o i := rfl
theorem btH_ne {ar : Int} {h : HV} {v n0 j o : Int} (ho : o ≠ ar) : btH ar h v n0 j o = h o := by
  funext i
  rw [btH_v, if_neg (fun q => ho q.1)]
theorem btH_0 (ar : Int) (h : HV) (v n0 : Int) : btH ar h v n0 0 = h := by
  funext o i
  rw [btH_v, if_neg (fun q => by omega)]
theorem btH_s {ar : Int} {h : HV} {v n0 j x : Int} (hj : 0 ≤ j) (hx : x = byF v j) : hset (btH ar h v n0 j) ar (n0 + j) x = btH ar h v n0 (j + 1) := by
  funext o i
  rw [hset_v, btH_v, btH_v]
  by_cases q : o = ar ∧ i = n0 + j
  · rw [if_pos q, if_pos ⟨q.1, by omega⟩, hx, q.2, show n0 + j - n0 = j by omega]
  · rw [if_neg q]
    by_cases q2 : o = ar ∧ n0 ≤ i ∧ i < n0 + j
    · rw [if_pos q2, if_pos ⟨q2.1, by omega⟩]
    · rw [if_neg q2, if_neg (fun w => q2 ⟨w.1, by have : i ≠ n0 + j := fun e => q ⟨w.1, e⟩; omega⟩)]
theorem s23 {d : Nat} {h : HV} {Q : Int → HV → Prop}   : Sp fz1 d 23 [(3, 129)] h Q = Q (h 129 1) h := by
  simp (implicitDefEqProofs := false) (disch := omega) only [sp23, b23_0, x_aload0, x_gf_1032, x_ireturn, klp_0, klp_1, klp_2, klp_3, klp_9, KC_0, KC_1, KC_2, KC_3, KC_4, ne_eq, not_false_eq_true, not_true_eq_false, true_and, and_true, and_self, implies_true, eq_self, true_imp_iff, false_implies, Int.reduceEq, Int.reduceNe, Int.reduceMod, Int.reduceMul, Int.reduceAdd, Int.reduceSub, Int.reduceLT, Int.reduceLE, Nat.reduceAdd, Nat.reduceLeDiff, Nat.reduceLT, Nat.reduceSub, reduceIte, wds_n, wds_0, wds_1, wds_2, wds_3, or_true, true_or, or_false, false_or, or_self, false_and, and_false, d_pos, d_s1, d_s2, d_s3, d_s4, d_s5, d_s6, d_s7, d_s8, Classical.not_not, le_sub1, le_T, le_F, lt_T, lt_F, eq_F, w32_T, bz0, bz1, lc_le, lc_ge, lc_lt, lc_gt, lc_eq] <;> first | rfl | (rw [if_pos (by omega)] <;> rfl) | (rw [if_neg (by omega)] <;> rfl) | (exfalso; omega)
theorem s22f {d : Nat} {h : HV} {Q : Int → HV → Prop} {n v : Int} (ht : 0 ≤ h 129 1 ∧ h 129 1 ≤ 2400) (hn : 1 ≤ n ∧ n ≤ 8) (hf : 2400 < h 129 1 + n) : Sp fz1 d 22 [(3, 129), (0, n), (1, v)] h Q = Q (0) h := by
  simp (implicitDefEqProofs := false) (disch := omega) only [sp22, b22_0, b22_1, b22_2, b22_3, b22_4, q22_1, q22_2, q22_4, x_aload0, x_bastore, x_dup0, x_dup3, x_freturn, x_gc_1027, x_gf_1032, x_goto_1, x_goto_3, x_i2b, x_iadd, x_iconst, x_ifCond_lt_1, x_if_icmp_ge_4, x_if_icmp_le_2, x_iinc4, x_iload1, x_iload4, x_imul, x_istore4, x_l2i, x_lload2, x_lshr, x_pf_1032, klp_0, klp_1, klp_2, klp_3, klp_9, KC_0, KC_1, KC_2, KC_3, KC_4, ne_eq, not_false_eq_true, not_true_eq_false, true_and, and_true, and_self, implies_true, eq_self, true_imp_iff, false_implies, Int.reduceEq, Int.reduceNe, Int.reduceMod, Int.reduceMul, Int.reduceAdd, Int.reduceSub, Int.reduceLT, Int.reduceLE, Nat.reduceAdd, Nat.reduceLeDiff, Nat.reduceLT, Nat.reduceSub, reduceIte, wds_n, wds_0, wds_1, wds_2, wds_3, or_true, true_or, or_false, false_or, or_self, false_and, and_false, d_pos, d_s1, d_s2, d_s3, d_s4, d_s5, d_s6, d_s7, d_s8, Classical.not_not, z129_0, z227_l, le_sub1, le_T, le_F, lt_T, lt_F, eq_F, w32_T, bz0, bz1, lc_le, lc_ge, lc_lt, lc_gt, lc_eq] <;> first | rfl | (rw [if_pos (by omega)] <;> rfl) | (rw [if_neg (by omega)] <;> rfl) | (exfalso; omega)
theorem s22a {d : Nat} {h : HV} {Q : Int → HV → Prop} {n v : Int} (ht : 0 ≤ h 129 1 ∧ h 129 1 ≤ 2400) (hn : 1 ≤ n ∧ n ≤ 8) (hf : h 129 1 + n ≤ 2400) : Sp fz1 d 22 [(3, 129), (0, n), (1, v)] h Q = Q 1 (hset (btH 227 h v (h 129 1) n) 129 1 (h 129 1 + n)) := by
  refine Sp_is ?_ Q
  generalize hc4 : h 129 1 = c at *
  simp (implicitDefEqProofs := false) (disch := omega) only [sp22, b22_0, b22_1, b22_2, b22_3, b22_4, q22_1, q22_2, q22_4, x_aload0, x_bastore, x_dup0, x_dup3, x_freturn, x_gc_1027, x_gf_1032, x_goto_1, x_goto_3, x_i2b, x_iadd, x_iconst, x_ifCond_lt_1, x_if_icmp_ge_4, x_if_icmp_le_2, x_iinc4, x_iload1, x_iload4, x_imul, x_istore4, x_l2i, x_lload2, x_lshr, x_pf_1032, klp_0, klp_1, klp_2, klp_3, klp_9, KC_0, KC_1, KC_2, KC_3, KC_4, ne_eq, not_false_eq_true, not_true_eq_false, true_and, and_true, and_self, implies_true, eq_self, true_imp_iff, false_implies, Int.reduceEq, Int.reduceNe, Int.reduceMod, Int.reduceMul, Int.reduceAdd, Int.reduceSub, Int.reduceLT, Int.reduceLE, Nat.reduceAdd, Nat.reduceLeDiff, Nat.reduceLT, Nat.reduceSub, reduceIte, wds_n, wds_0, wds_1, wds_2, wds_3, or_true, true_or, or_false, false_or, or_self, false_and, and_false, d_pos, d_s1, d_s2, d_s3, d_s4, d_s5, d_s6, d_s7, d_s8, Classical.not_not, hc4, le_T, le_F, lt_T, lt_F, w32_T]
  refine forG (N := n.toNat) (I := fun j ls h' => ls = [(3, 129), (0, n), (1, v), (9, 0), (0, (j : Int))] ∧ h' = btH 227 h v c j) ?_ ?_ (j := 0) (Nat.zero_le _) ⟨rfl, (btH_0 _ _ _ _).symm⟩
  · rintro j ls h' hj ⟨rfl, rfl⟩ nx
    have b1 : (j : Int) < n := by omega
    have q1 : btH 227 h v c (j : Int) 129 = h 129 := btH_ne (by decide)
    refine G_in ?_
    simp (implicitDefEqProofs := false) (disch := omega) only [b22_3, x_aload0, x_bastore, x_gc_1027, x_gf_1032, x_goto_3, x_i2b, x_iadd, x_iconst, x_if_icmp_ge_4, x_iinc4, x_iload1, x_iload4, x_imul, x_l2i, x_lload2, x_lshr, klp_0, klp_1, klp_2, klp_3, klp_9, KC_0, KC_1, KC_2, KC_3, KC_4, ne_eq, not_false_eq_true, not_true_eq_false, true_and, and_true, and_self, implies_true, eq_self, true_imp_iff, false_implies, Int.reduceEq, Int.reduceNe, Int.reduceMod, Int.reduceMul, Int.reduceAdd, Int.reduceSub, Int.reduceLT, Int.reduceLE, Nat.reduceAdd, Nat.reduceLeDiff, Nat.reduceLT, Nat.reduceSub, reduceIte, wds_n, wds_0, wds_1, wds_2, wds_3, or_true, true_or, or_false, false_or, or_self, false_and, and_false, d_pos, d_s1, d_s2, d_s3, d_s4, d_s5, d_s6, d_s7, d_s8, Classical.not_not, z129_0, z227_l, q1, hc4, le_T, le_F, lt_T, lt_F, w32_T]
    exact nx _ _ ⟨rfl, btH_s (by omega) rfl⟩
  · rintro ls h' ⟨rfl, rfl⟩
    have q1 : btH 227 h v c (n.toNat : Int) 129 = h 129 := btH_ne (by decide)
    refine G_in ?_
    simp (implicitDefEqProofs := false) (disch := omega) only [b22_3, b22_4, q22_4, x_aload0, x_bastore, x_dup0, x_dup3, x_freturn, x_gc_1027, x_gf_1032, x_goto_3, x_i2b, x_iadd, x_iconst, x_if_icmp_ge_4, x_iinc4, x_iload1, x_iload4, x_imul, x_l2i, x_lload2, x_lshr, x_pf_1032, klp_0, klp_1, klp_2, klp_3, klp_9, KC_0, KC_1, KC_2, KC_3, KC_4, ne_eq, not_false_eq_true, not_true_eq_false, true_and, and_true, and_self, implies_true, eq_self, true_imp_iff, false_implies, Int.reduceEq, Int.reduceNe, Int.reduceMod, Int.reduceMul, Int.reduceAdd, Int.reduceSub, Int.reduceLT, Int.reduceLE, Nat.reduceAdd, Nat.reduceLeDiff, Nat.reduceLT, Nat.reduceSub, reduceIte, wds_n, wds_0, wds_1, wds_2, wds_3, or_true, true_or, or_false, false_or, or_self, false_and, and_false, d_pos, d_s1, d_s2, d_s3, d_s4, d_s5, d_s6, d_s7, d_s8, Classical.not_not, q1, hc4, le_T, le_F, lt_T, lt_F, w32_T]
    rw [show ((n.toNat : Nat) : Int) = n by omega]
theorem s21n {d : Nat} {h : HV} {Q : Int → HV → Prop} {n v : Int} (hn : ¬ (1 ≤ n ∧ n ≤ 8)) : Sp fz1 (d + 1) 21 [(3, 64), (0, n), (1, v)] h Q = Q (-1) h := by
  by_cases a1 : n < 1 <;> by_cases a2 : n ≤ 8 <;> (try (exfalso; omega)) <;> simp (implicitDefEqProofs := false) (disch := omega) only [sp21, b21_0, b21_1, b21_2, b21_3, b21_4, q21_1, q21_2, q21_3, q21_4, x_aload0, y_call22, y_call23, x_gc_3, x_goto_1, x_goto_4, x_iconst, x_ifCond_eq_3, x_if_icmp_le_2, x_if_icmp_lt_1, x_iload1, x_ireturn, x_lload2, klp_0, klp_1, klp_2, klp_3, klp_9, KC_0, KC_1, KC_2, KC_3, KC_4, ne_eq, not_false_eq_true, not_true_eq_false, true_and, and_true, and_self, implies_true, eq_self, true_imp_iff, false_implies, Int.reduceEq, Int.reduceNe, Int.reduceMod, Int.reduceMul, Int.reduceAdd, Int.reduceSub, Int.reduceLT, Int.reduceLE, Nat.reduceAdd, Nat.reduceLeDiff, Nat.reduceLT, Nat.reduceSub, reduceIte, wds_n, wds_0, wds_1, wds_2, wds_3, or_true, true_or, or_false, false_or, or_self, false_and, and_false, d_pos, d_s1, d_s2, d_s3, d_s4, d_s5, d_s6, d_s7, d_s8, Classical.not_not, z64_0, a1, a2, le_sub1, le_T, le_F, lt_T, lt_F, eq_F, w32_T, bz0, bz1, lc_le, lc_ge, lc_lt, lc_gt, lc_eq] <;> first | rfl | (rw [if_pos (by omega)] <;> rfl) | (rw [if_neg (by omega)] <;> rfl) | (exfalso; omega)
theorem s21f {d : Nat} {h : HV} {Q : Int → HV → Prop} {n v : Int} (ht : 0 ≤ h 129 1 ∧ h 129 1 ≤ 2400) (hn : 1 ≤ n ∧ n ≤ 8) (hf : 2400 < h 129 1 + n) : Sp fz1 (d + 1) 21 [(3, 64), (0, n), (1, v)] h Q = Q (-3) h := by
  simp (implicitDefEqProofs := false) (disch := omega) only [sp21, b21_0, b21_1, b21_2, b21_3, b21_4, q21_1, q21_2, q21_3, q21_4, x_aload0, y_call22, y_call23, x_gc_3, x_goto_1, x_goto_4, x_iconst, x_ifCond_eq_3, x_if_icmp_le_2, x_if_icmp_lt_1, x_iload1, x_ireturn, x_lload2, klp_0, klp_1, klp_2, klp_3, klp_9, KC_0, KC_1, KC_2, KC_3, KC_4, ne_eq, not_false_eq_true, not_true_eq_false, true_and, and_true, and_self, implies_true, eq_self, true_imp_iff, false_implies, Int.reduceEq, Int.reduceNe, Int.reduceMod, Int.reduceMul, Int.reduceAdd, Int.reduceSub, Int.reduceLT, Int.reduceLE, Nat.reduceAdd, Nat.reduceLeDiff, Nat.reduceLT, Nat.reduceSub, reduceIte, wds_n, wds_0, wds_1, wds_2, wds_3, or_true, true_or, or_false, false_or, or_self, false_and, and_false, d_pos, d_s1, d_s2, d_s3, d_s4, d_s5, d_s6, d_s7, d_s8, Classical.not_not, z64_0, s22f ht hn hf, le_sub1, le_T, le_F, lt_T, lt_F, eq_F, w32_T, bz0, bz1, lc_le, lc_ge, lc_lt, lc_gt, lc_eq] <;> first | rfl | (rw [if_pos (by omega)] <;> rfl) | (rw [if_neg (by omega)] <;> rfl) | (exfalso; omega)
theorem s21a {d : Nat} {h : HV} {Q : Int → HV → Prop} {n v : Int} (ht : 0 ≤ h 129 1 ∧ h 129 1 ≤ 2400) (hn : 1 ≤ n ∧ n ≤ 8) (hf : h 129 1 + n ≤ 2400) : Sp fz1 (d + 1) 21 [(3, 64), (0, n), (1, v)] h Q = Q (h 129 1 + n) (hset (btH 227 h v (h 129 1) n) 129 1 (h 129 1 + n)) := by
  simp (implicitDefEqProofs := false) (disch := omega) only [sp21, b21_0, b21_1, b21_2, b21_3, b21_4, q21_1, q21_2, q21_3, q21_4, x_aload0, y_call22, y_call23, x_gc_3, x_goto_1, x_goto_4, x_iconst, x_ifCond_eq_3, x_if_icmp_le_2, x_if_icmp_lt_1, x_iload1, x_ireturn, x_lload2, klp_0, klp_1, klp_2, klp_3, klp_9, KC_0, KC_1, KC_2, KC_3, KC_4, ne_eq, not_false_eq_true, not_true_eq_false, true_and, and_true, and_self, implies_true, eq_self, true_imp_iff, false_implies, Int.reduceEq, Int.reduceNe, Int.reduceMod, Int.reduceMul, Int.reduceAdd, Int.reduceSub, Int.reduceLT, Int.reduceLE, Nat.reduceAdd, Nat.reduceLeDiff, Nat.reduceLT, Nat.reduceSub, reduceIte, wds_n, wds_0, wds_1, wds_2, wds_3, or_true, true_or, or_false, false_or, or_self, false_and, and_false, d_pos, d_s1, d_s2, d_s3, d_s4, d_s5, d_s6, d_s7, d_s8, Classical.not_not, z64_0, s22a ht hn hf, s23, hset_v, le_sub1, le_T, le_F, lt_T, lt_F, eq_F, w32_T, bz0, bz1, lc_le, lc_ge, lc_lt, lc_gt, lc_eq] <;> first | rfl | (rw [if_pos (by omega)] <;> rfl) | (rw [if_neg (by omega)] <;> rfl) | (exfalso; omega)
theorem s319n {d : Nat} {h : HV} {Q : Int → HV → Prop} {n v : Int} (hn : ¬ (1 ≤ n ∧ n ≤ 8)) : Sp fz1 d 319 [(3, 6603), (0, n), (1, v)] h Q = Q (-1) h := by
  by_cases a1 : n < 1 <;> by_cases a2 : n ≤ 8 <;> (try (exfalso; omega)) <;> simp (implicitDefEqProofs := false) (disch := omega) only [sp319, b319_0, b319_1, b319_2, b319_3, b319_4, b319_5, q319_1, q319_5, x_aload0, x_bastore, x_dup0, x_dup3, x_gc_11267, x_gf_11272, x_goto_1, x_goto_4, x_i2b, x_iadd, x_iconst, x_if_icmp_ge_5, x_if_icmp_le_2, x_if_icmp_le_3, x_if_icmp_lt_1, x_iinc4, x_iload1, x_iload4, x_imul, x_ireturn, x_istore4, x_l2i, x_lload2, x_lshr, x_pf_11272, klp_0, klp_1, klp_2, klp_3, klp_9, KC_0, KC_1, KC_2, KC_3, KC_4, ne_eq, not_false_eq_true, not_true_eq_false, true_and, and_true, and_self, implies_true, eq_self, true_imp_iff, false_implies, Int.reduceEq, Int.reduceNe, Int.reduceMod, Int.reduceMul, Int.reduceAdd, Int.reduceSub, Int.reduceLT, Int.reduceLE, Nat.reduceAdd, Nat.reduceLeDiff, Nat.reduceLT, Nat.reduceSub, reduceIte, wds_n, wds_0, wds_1, wds_2, wds_3, or_true, true_or, or_false, false_or, or_self, false_and, and_false, d_pos, d_s1, d_s2, d_s3, d_s4, d_s5, d_s6, d_s7, d_s8, Classical.not_not, z6603_0, z6691_l, a1, a2, le_sub1, le_T, le_F, lt_T, lt_F, eq_F, w32_T, bz0, bz1, lc_le, lc_ge, lc_lt, lc_gt, lc_eq] <;> first | rfl | (rw [if_pos (by omega)] <;> rfl) | (rw [if_neg (by omega)] <;> rfl) | (exfalso; omega)
theorem s319f {d : Nat} {h : HV} {Q : Int → HV → Prop} {n v : Int} (ht : 0 ≤ h 6603 1 ∧ h 6603 1 ≤ 2400) (hn : 1 ≤ n ∧ n ≤ 8) (hf : 2400 < h 6603 1 + n) : Sp fz1 d 319 [(3, 6603), (0, n), (1, v)] h Q = Q (-3) h := by
  simp (implicitDefEqProofs := false) (disch := omega) only [sp319, b319_0, b319_1, b319_2, b319_3, b319_4, b319_5, q319_1, q319_2, q319_3, q319_5, x_aload0, x_bastore, x_dup0, x_dup3, x_gc_11267, x_gf_11272, x_goto_1, x_goto_4, x_i2b, x_iadd, x_iconst, x_if_icmp_ge_5, x_if_icmp_le_2, x_if_icmp_le_3, x_if_icmp_lt_1, x_iinc4, x_iload1, x_iload4, x_imul, x_ireturn, x_istore4, x_l2i, x_lload2, x_lshr, x_pf_11272, klp_0, klp_1, klp_2, klp_3, klp_9, KC_0, KC_1, KC_2, KC_3, KC_4, ne_eq, not_false_eq_true, not_true_eq_false, true_and, and_true, and_self, implies_true, eq_self, true_imp_iff, false_implies, Int.reduceEq, Int.reduceNe, Int.reduceMod, Int.reduceMul, Int.reduceAdd, Int.reduceSub, Int.reduceLT, Int.reduceLE, Nat.reduceAdd, Nat.reduceLeDiff, Nat.reduceLT, Nat.reduceSub, reduceIte, wds_n, wds_0, wds_1, wds_2, wds_3, or_true, true_or, or_false, false_or, or_self, false_and, and_false, d_pos, d_s1, d_s2, d_s3, d_s4, d_s5, d_s6, d_s7, d_s8, Classical.not_not, z6603_0, z6691_l, le_sub1, le_T, le_F, lt_T, lt_F, eq_F, w32_T, bz0, bz1, lc_le, lc_ge, lc_lt, lc_gt, lc_eq] <;> first | rfl | (rw [if_pos (by omega)] <;> rfl) | (rw [if_neg (by omega)] <;> rfl) | (exfalso; omega)
theorem ht_ht (h : HV) (o i v w : Int) : hset (hset h o i v) o i w = hset h o i w := by
  funext a b
  rw [hset_v, hset_v, hset_v]
  by_cases q : a = o ∧ b = i
  · rw [if_pos q, if_pos q]
  · rw [if_neg q, if_neg q, if_neg q]
theorem bt_c {ar : Int} {h : HV} {v n0 j o i w : Int} (ho : o ≠ ar) : hset (btH ar h v n0 j) o i w = btH ar (hset h o i w) v n0 j := by
  funext a b
  rw [hset_v, btH_v, btH_v, hset_v]
  by_cases q : a = ar
  · subst q
    rw [if_neg (fun w => ho w.1.symm), if_neg (fun w : a = o ∧ b = i => ho w.1.symm)]
  · simp (implicitDefEqProofs := false) only [q, false_and, if_false]
theorem s319a {d : Nat} {h : HV} {Q : Int → HV → Prop} {n v : Int} (ht : 0 ≤ h 6603 1 ∧ h 6603 1 ≤ 2400) (hn : 1 ≤ n ∧ n ≤ 8) (hf : h 6603 1 + n ≤ 2400) : Sp fz1 d 319 [(3, 6603), (0, n), (1, v)] h Q = Q (h 6603 1 + n) (hset (btH 6691 h v (h 6603 1) n) 6603 1 (h 6603 1 + n)) := by
  refine Sp_is ?_ Q
  generalize hc4 : h 6603 1 = c at *
  simp (implicitDefEqProofs := false) (disch := omega) only [sp319, b319_0, b319_1, b319_2, b319_3, b319_4, b319_5, q319_1, q319_2, q319_3, q319_5, x_aload0, x_bastore, x_dup0, x_dup3, x_gc_11267, x_gf_11272, x_goto_1, x_goto_4, x_i2b, x_iadd, x_iconst, x_if_icmp_ge_5, x_if_icmp_le_2, x_if_icmp_le_3, x_if_icmp_lt_1, x_iinc4, x_iload1, x_iload4, x_imul, x_ireturn, x_istore4, x_l2i, x_lload2, x_lshr, x_pf_11272, klp_0, klp_1, klp_2, klp_3, klp_9, KC_0, KC_1, KC_2, KC_3, KC_4, ne_eq, not_false_eq_true, not_true_eq_false, true_and, and_true, and_self, implies_true, eq_self, true_imp_iff, false_implies, Int.reduceEq, Int.reduceNe, Int.reduceMod, Int.reduceMul, Int.reduceAdd, Int.reduceSub, Int.reduceLT, Int.reduceLE, Nat.reduceAdd, Nat.reduceLeDiff, Nat.reduceLT, Nat.reduceSub, reduceIte, wds_n, wds_0, wds_1, wds_2, wds_3, or_true, true_or, or_false, false_or, or_self, false_and, and_false, d_pos, d_s1, d_s2, d_s3, d_s4, d_s5, d_s6, d_s7, d_s8, Classical.not_not, hc4, le_T, le_F, lt_T, lt_F, w32_T]
  refine forG (N := n.toNat) (I := fun j ls h' => ls = [(3, 6603), (0, n), (1, v), (9, 0), (0, (j : Int))] ∧ h' = hset (btH 6691 h v c j) 6603 1 (c + j)) ?_ ?_ (j := 0) (Nat.zero_le _) ⟨rfl, ?_⟩
  · rintro j ls h' hj ⟨rfl, rfl⟩ nx
    have b1 : (j : Int) < n := by omega
    refine G_in ?_
    have q2 : hset (btH 6691 h v c (j : Int)) 6603 1 (c + j) 6603 1 = c + j := by rw [hset_v, if_pos ⟨rfl, rfl⟩]
    have q3 : ∀ x, hset (hset (btH 6691 h v c (j : Int)) 6603 1 (c + j)) 6691 (c + j) x 6603 1 = c + j := fun x => by rw [hs_ne (by decide), hset_v, if_pos ⟨rfl, rfl⟩]
    simp (implicitDefEqProofs := false) (disch := omega) only [b319_4, x_aload0, x_bastore, x_dup0, x_dup3, x_gc_11267, x_gf_11272, x_goto_4, x_i2b, x_iadd, x_iconst, x_if_icmp_ge_5, x_iinc4, x_iload1, x_iload4, x_imul, x_l2i, x_lload2, x_lshr, x_pf_11272, klp_0, klp_1, klp_2, klp_3, klp_9, KC_0, KC_1, KC_2, KC_3, KC_4, ne_eq, not_false_eq_true, not_true_eq_false, true_and, and_true, and_self, implies_true, eq_self, true_imp_iff, false_implies, Int.reduceEq, Int.reduceNe, Int.reduceMod, Int.reduceMul, Int.reduceAdd, Int.reduceSub, Int.reduceLT, Int.reduceLE, Nat.reduceAdd, Nat.reduceLeDiff, Nat.reduceLT, Nat.reduceSub, reduceIte, wds_n, wds_0, wds_1, wds_2, wds_3, or_true, true_or, or_false, false_or, or_self, false_and, and_false, d_pos, d_s1, d_s2, d_s3, d_s4, d_s5, d_s6, d_s7, d_s8, Classical.not_not, z6603_0, z6691_l, q2, q3, le_T, le_F, lt_T, lt_F, w32_T]
    refine nx _ _ ⟨rfl, ?_⟩
    rw [bt_c (by decide), btH_s (x := bst 6691 (w8 (w32 (l_shr v (8 * (j : Int)))))) (by omega) rfl, bt_c (by decide), ht_ht, ← bt_c (by decide)]
    rw [show c + (j : Int) + 1 = c + ((j + 1 : Nat) : Int) by omega]
    rfl
  · rintro ls h' ⟨rfl, rfl⟩
    have q2 : hset (btH 6691 h v c (n.toNat : Int)) 6603 1 (c + n.toNat) 6603 1 = c + n.toNat := by rw [hset_v, if_pos ⟨rfl, rfl⟩]
    refine G_in ?_
    simp (implicitDefEqProofs := false) (disch := omega) only [b319_4, b319_5, q319_5, x_aload0, x_bastore, x_dup0, x_dup3, x_gc_11267, x_gf_11272, x_goto_4, x_i2b, x_iadd, x_iconst, x_if_icmp_ge_5, x_iinc4, x_iload1, x_iload4, x_imul, x_ireturn, x_l2i, x_lload2, x_lshr, x_pf_11272, klp_0, klp_1, klp_2, klp_3, klp_9, KC_0, KC_1, KC_2, KC_3, KC_4, ne_eq, not_false_eq_true, not_true_eq_false, true_and, and_true, and_self, implies_true, eq_self, true_imp_iff, false_implies, Int.reduceEq, Int.reduceNe, Int.reduceMod, Int.reduceMul, Int.reduceAdd, Int.reduceSub, Int.reduceLT, Int.reduceLE, Nat.reduceAdd, Nat.reduceLeDiff, Nat.reduceLT, Nat.reduceSub, reduceIte, wds_n, wds_0, wds_1, wds_2, wds_3, or_true, true_or, or_false, false_or, or_self, false_and, and_false, d_pos, d_s1, d_s2, d_s3, d_s4, d_s5, d_s6, d_s7, d_s8, Classical.not_not, q2, le_T, le_F, lt_T, lt_F, w32_T]
    rw [show ((n.toNat : Nat) : Int) = n by omega]
    exact ⟨rfl, rfl⟩
  · rw [show ((0 : Nat) : Int) = 0 from rfl, btH_0]
    funext a b
    rw [hset_v]
    by_cases q : a = 6603 ∧ b = 1
    · rw [if_pos q, q.1, q.2, hc4]; omega
    · rw [if_neg q]
theorem op_feed {d : Nat} {h : HV} {n v : Int} (T : RTp h) : Sp fz1 (d + 1) 21 [(3, 64), (0, n), (1, v)] h (fun x h1 => h1 50 = h 50 ∧ Sp fz1 (d + 1) 319 [(3, 6603), (0, n), (1, v)] h1 (fun y h2 => x = y ∧ RTp h2 ∧ (∀ a, a ≠ 227 → a ≠ 129 → a ≠ 6691 → a ≠ 6603 → h2 a = h a) ∧ (∀ i, i ≠ 1 → h2 129 i = h 129 i) ∧ (∀ i, i ≠ 1 → h2 6603 i = h 6603 i))) := by
  have T0 := T
  obtain ⟨t1, t2, t3⟩ := T
  by_cases hn : 1 ≤ n ∧ n ≤ 8
  · by_cases hf : h 129 1 + n ≤ 2400
    · rw [s21a t2 hn hf]
      have e1 : ∀ a, a ≠ 129 → a ≠ 227 → hset (btH 227 h v (h 129 1) n) 129 1 (h 129 1 + n) a = h a := fun a q1 q2 => by rw [hs_ne q1, btH_ne q2]
      refine ⟨e1 _ (by decide) (by decide), ?_⟩
      have a1 := e1 6603 (by decide) (by decide)
      rw [s319a (by rw [a1]; omega) hn (by rw [a1]; omega), a1, t1]
      refine ⟨rfl, ⟨?_, ?_, ?_⟩, ?_, ?_, ?_⟩
      · rw [hset_v, if_pos ⟨rfl, rfl⟩, hs_ne (by decide), btH_ne (by decide), hset_v, if_pos ⟨rfl, rfl⟩]
      · rw [hs_ne (by decide), btH_ne (by decide), hset_v, if_pos ⟨rfl, rfl⟩]; omega
      · intro i i0 i1
        rw [hs_ne (by decide), btH_ne (by decide), hset_v, if_pos ⟨rfl, rfl⟩] at i1
        have f1 : ∀ H : HV, hset (btH 6691 H v (h 129 1) n) 6603 1 (h 129 1 + n) 6691 i = if (6691 : Int) = 6691 ∧ h 129 1 ≤ i ∧ i < h 129 1 + n then byF v (i - h 129 1) else H 6691 i := fun H => by rw [hs_ne (by decide), btH_v]
        have f2 : ∀ H : HV, hset (btH 6691 H v (h 129 1) n) 6603 1 (h 129 1 + n) 227 i = H 227 i := fun H => by rw [hs_ne (by decide), btH_ne (by decide)]
        have f3 : hset (btH 227 h v (h 129 1) n) 129 1 (h 129 1 + n) 227 i = if (227 : Int) = 227 ∧ h 129 1 ≤ i ∧ i < h 129 1 + n then byF v (i - h 129 1) else h 227 i := by rw [hs_ne (by decide), btH_v]
        rw [f1, f2, f3, e1 6691 (by decide) (by decide)]
        by_cases q : h 129 1 ≤ i ∧ i < h 129 1 + n
        · rw [if_pos ⟨rfl, q⟩, if_pos ⟨rfl, q⟩]
          refine ⟨rfl, ?_, ?_⟩ <;> unfold byF w8 <;> omega
        · rw [if_neg (fun w => q w.2), if_neg (fun w => q w.2)]
          exact t3 i i0 (by omega)
      · intro a q1 q2 q3 q4
        rw [hs_ne q4, btH_ne q3, e1 a q2 q1]
      · intro i hi
        rw [hs_ne (by decide), btH_ne (by decide), hset_v, if_neg (fun w => hi w.2), btH_ne (by decide)]
      · intro i hi
        rw [hset_v, if_neg (fun w => hi w.2), btH_ne (by decide), a1]
    · rw [s21f t2 hn (by omega)]
      refine ⟨rfl, ?_⟩
      rw [s319f (by omega) hn (by omega)]
      exact ⟨rfl, T0, fun _ _ _ _ _ => rfl, fun _ _ => rfl, fun _ _ => rfl⟩
  · rw [s21n hn]
    refine ⟨rfl, ?_⟩
    rw [s319n hn]
    exact ⟨rfl, T0, fun _ _ _ _ _ => rfl, fun _ _ => rfl, fun _ _ => rfl⟩
