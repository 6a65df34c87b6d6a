/-! THE PURE SIDE, 37: a new week, both sides: printed by wip/tools/gen56.py -/
theorem s14e {d : Nat} {h : HV} {Q : Int → HV → Prop} {a v n : Int} (ha : a % 64 = 32) (hn : n = rd fz1 h a (-1)) (hn0 : 0 ≤ n) (hn1 : n ≤ 2147483647) : Sp fz1 d 14 [(3, a), (0, v)] h Q = Q 0 (fillH h a n v) := by
  refine Sp_is ?_ Q
  exact fill_sp ha hn hn0 hn1 ⟨rfl, rfl⟩
theorem f2016 {d : Nat} {h : HV} {Q : Int → HV → Prop} {v : Int} : Sp fz1 d 14 [(3, 2016), (0, v)] h Q = Q 0 (fillH h 2016 10 v) := s14e (by decide) z2016_l.symm (by decide) (by decide)
theorem f2080 {d : Nat} {h : HV} {Q : Int → HV → Prop} {v : Int} : Sp fz1 d 14 [(3, 2080), (0, v)] h Q = Q 0 (fillH h 2080 240 v) := s14e (by decide) z2080_l.symm (by decide) (by decide)
theorem f2656 {d : Nat} {h : HV} {Q : Int → HV → Prop} {v : Int} : Sp fz1 d 14 [(3, 2656), (0, v)] h Q = Q 0 (fillH h 2656 10 v) := s14e (by decide) z2656_l.symm (by decide) (by decide)
theorem f3232 {d : Nat} {h : HV} {Q : Int → HV → Prop} {v : Int} : Sp fz1 d 14 [(3, 3232), (0, v)] h Q = Q 0 (fillH h 3232 24 v) := s14e (by decide) z3232_l.symm (by decide) (by decide)
theorem fillH_ne {h : HV} {a n v o : Int} (ho : o ≠ a) : fillH h a n v o = h o := by
  funext i
  rw [fillH_v, if_neg (fun q => ho q.1)]
theorem fil_s (h : HV) {a j v : Int} (hj : 0 ≤ j) : hset (fillH h a j v) a j v = fillH h a (j + 1) v := by
  funext o i
  rw [hset_v, fillH_v, fillH_v]
  by_cases q : o = a ∧ i = j
  · rw [if_pos q, if_pos ⟨q.1, by omega⟩]
  · rw [if_neg q]
    by_cases q2 : o = a ∧ 0 ≤ i ∧ i < j
    · rw [if_pos q2, if_pos ⟨q2.1, by omega⟩]
    · rw [if_neg q2, if_neg (fun w => q2 ⟨w.1, by have : i ≠ j := fun e => q ⟨w.1, e⟩; omega⟩)]
theorem fil_c (h : HV) {a b j n v w : Int} (hab : a ≠ b) : hset (fillH h b n w) a j v = fillH (hset h a j v) b n w := by
  funext o i
  rw [hset_v, fillH_v, fillH_v, hset_v]
  by_cases q : o = a
  · subst q
    rw [if_neg (fun w : o = b ∧ 0 ≤ i ∧ i < n => hab w.1), if_neg (fun w : o = b ∧ 0 ≤ i ∧ i < n => hab w.1)]
  · simp (implicitDefEqProofs := false) only [q, false_and, if_false]
theorem s242 {d : Nat} {h : HV} {Q : Int → HV → Prop}   : Sp fz1 d 242 [(3, 1927)] h Q = Q (h 1927 1) h := by
  simp (implicitDefEqProofs := false) (disch := omega) only [sp242, b242_0, x_aload0, x_gf_7176, x_ireturn, klp_0, klp_1, klp_2, klp_3, klp_9, KC_0, KC_1, KC_2, KC_3, KC_4, ne_eq, not_false_eq_true, not_true_eq_false, true_and, and_true, and_self, implies_true, eq_self, true_imp_iff, false_implies, Int.reduceEq, Int.reduceNe, Int.reduceMod, Int.reduceMul, Int.reduceAdd, Int.reduceSub, Int.reduceLT, Int.reduceLE, Nat.reduceAdd, Nat.reduceLeDiff, Nat.reduceLT, Nat.reduceSub, reduceIte, wds_n, wds_0, wds_1, wds_2, wds_3, or_true, true_or, or_false, false_or, or_self, false_and, and_false, d_pos, d_s1, d_s2, d_s3, d_s4, d_s5, d_s6, d_s7, d_s8, Classical.not_not, le_sub1, le_T, le_F, lt_T, lt_F, eq_F, w32_T, bz0, bz1, lc_le, lc_ge, lc_lt, lc_gt, lc_eq] <;> first | rfl | (rw [if_pos (by omega)] <;> rfl) | (rw [if_neg (by omega)] <;> rfl) | (exfalso; omega)
theorem s13e {d : Nat} {h : HV} {Q : Int → HV → Prop}   : Sp fz1 (d + 1) 13 [(3, 1927)] h Q = Q (0) (hset (hset (fillH (fillH h 2016 10 0) 2080 240 0) 1927 13 0) 1927 14 0) := by
  simp (implicitDefEqProofs := false) (disch := omega) only [sp13, b13_0, x_aload0, y_call14, y_call15, x_gc_7187, x_gc_7195, x_iconst, x_return, klp_0, klp_1, klp_2, klp_3, klp_9, KC_0, KC_1, KC_2, KC_3, KC_4, ne_eq, not_false_eq_true, not_true_eq_false, true_and, and_true, and_self, implies_true, eq_self, true_imp_iff, false_implies, Int.reduceEq, Int.reduceNe, Int.reduceMod, Int.reduceMul, Int.reduceAdd, Int.reduceSub, Int.reduceLT, Int.reduceLE, Nat.reduceAdd, Nat.reduceLeDiff, Nat.reduceLT, Nat.reduceSub, reduceIte, wds_n, wds_0, wds_1, wds_2, wds_3, or_true, true_or, or_false, false_or, or_self, false_and, and_false, d_pos, d_s1, d_s2, d_s3, d_s4, d_s5, d_s6, d_s7, d_s8, Classical.not_not, z1927_2, z2016_l, z1927_3, z2080_l, f2016, f2080, s15e, le_sub1, le_T, le_F, lt_T, lt_F, eq_F, w32_T, bz0, bz1, lc_le, lc_ge, lc_lt, lc_gt, lc_eq] <;> first | rfl | (rw [if_pos (by omega)] <;> rfl) | (rw [if_neg (by omega)] <;> rfl) | (exfalso; omega)
theorem s243 {d : Nat} {h : HV} {Q : Int → HV → Prop} {w : Int}  : Sp fz1 (d + 2) 243 [(3, 1927), (0, w)] h Q = Q (0) (hset (hset (fillH (fillH (hset h 1927 1 w) 2016 10 0) 2080 240 0) 1927 13 0) 1927 14 0) := by
  simp (implicitDefEqProofs := false) (disch := omega) only [sp243, b243_0, x_aload0, y_call13, x_iload1, x_pf_7176, x_return, klp_0, klp_1, klp_2, klp_3, klp_9, KC_0, KC_1, KC_2, KC_3, KC_4, ne_eq, not_false_eq_true, not_true_eq_false, true_and, and_true, and_self, implies_true, eq_self, true_imp_iff, false_implies, Int.reduceEq, Int.reduceNe, Int.reduceMod, Int.reduceMul, Int.reduceAdd, Int.reduceSub, Int.reduceLT, Int.reduceLE, Nat.reduceAdd, Nat.reduceLeDiff, Nat.reduceLT, Nat.reduceSub, reduceIte, wds_n, wds_0, wds_1, wds_2, wds_3, or_true, true_or, or_false, false_or, or_self, false_and, and_false, d_pos, d_s1, d_s2, d_s3, d_s4, d_s5, d_s6, d_s7, d_s8, Classical.not_not, s13e, le_sub1, le_T, le_F, lt_T, lt_F, eq_F, w32_T, bz0, bz1, lc_le, lc_ge, lc_lt, lc_gt, lc_eq] <;> first | rfl | (rw [if_pos (by omega)] <;> rfl) | (rw [if_neg (by omega)] <;> rfl) | (exfalso; omega)
theorem s19e {d : Nat} {h : HV} {Q : Int → HV → Prop}   : Sp fz1 d 19 [(3, 2568)] h Q = Q (0) (hset h 2568 4 0) := by
  simp (implicitDefEqProofs := false) (disch := omega) only [sp19, b19_0, x_aload0, x_iconst, x_pf_8228, x_return, klp_0, klp_1, klp_2, klp_3, klp_9, KC_0, KC_1, KC_2, KC_3, KC_4, ne_eq, not_false_eq_true, not_true_eq_false, true_and, and_true, and_self, implies_true, eq_self, true_imp_iff, false_implies, Int.reduceEq, Int.reduceNe, Int.reduceMod, Int.reduceMul, Int.reduceAdd, Int.reduceSub, Int.reduceLT, Int.reduceLE, Nat.reduceAdd, Nat.reduceLeDiff, Nat.reduceLT, Nat.reduceSub, reduceIte, wds_n, wds_0, wds_1, wds_2, wds_3, or_true, true_or, or_false, false_or, or_self, false_and, and_false, d_pos, d_s1, d_s2, d_s3, d_s4, d_s5, d_s6, d_s7, d_s8, Classical.not_not, le_sub1, le_T, le_F, lt_T, lt_F, eq_F, w32_T, bz0, bz1, lc_le, lc_ge, lc_lt, lc_gt, lc_eq] <;> first | rfl | (rw [if_pos (by omega)] <;> rfl) | (rw [if_neg (by omega)] <;> rfl) | (exfalso; omega)
theorem s18e {d : Nat} {h : HV} {Q : Int → HV → Prop}   : Sp fz1 (d + 1) 18 [(3, 2568)] h Q = Q (0) (hset (fillH h 2656 10 0) 2568 4 0) := by
  simp (implicitDefEqProofs := false) (disch := omega) only [sp18, b18_0, x_aload0, y_call14, y_call19, x_gc_8211, x_iconst, x_return, klp_0, klp_1, klp_2, klp_3, klp_9, KC_0, KC_1, KC_2, KC_3, KC_4, ne_eq, not_false_eq_true, not_true_eq_false, true_and, and_true, and_self, implies_true, eq_self, true_imp_iff, false_implies, Int.reduceEq, Int.reduceNe, Int.reduceMod, Int.reduceMul, Int.reduceAdd, Int.reduceSub, Int.reduceLT, Int.reduceLE, Nat.reduceAdd, Nat.reduceLeDiff, Nat.reduceLT, Nat.reduceSub, reduceIte, wds_n, wds_0, wds_1, wds_2, wds_3, or_true, true_or, or_false, false_or, or_self, false_and, and_false, d_pos, d_s1, d_s2, d_s3, d_s4, d_s5, d_s6, d_s7, d_s8, Classical.not_not, z2568_2, z2656_l, f2656, s19e, le_sub1, le_T, le_F, lt_T, lt_F, eq_F, w32_T, bz0, bz1, lc_le, lc_ge, lc_lt, lc_gt, lc_eq] <;> first | rfl | (rw [if_pos (by omega)] <;> rfl) | (rw [if_neg (by omega)] <;> rfl) | (exfalso; omega)
def wkC (h : HV) (w : Int) : HV := hset (fillH (hset (hset (fillH (fillH (hset h 1927 1 w) 2016 10 0) 2080 240 0) 1927 13 0) 1927 14 0) 2656 10 0) 2568 4 0
theorem s241 {d : Nat} {h : HV} {Q : Int → HV → Prop} {w : Int} (hw : 1 ≤ w ∧ w ≤ 4) : Sp fz1 (d + 3) 241 [(3, 64), (0, w)] h Q = Q (h 1927 1) (wkC h w) := by
  simp (implicitDefEqProofs := false) (disch := omega) only [sp241, b241_0, b241_1, b241_2, q241_1, q241_2, x_aload0, y_call18, y_call242, y_call243, x_gc_43, x_gc_51, x_goto_1, x_iconst, x_if_icmp_le_2, x_if_icmp_lt_1, x_iload1, x_iload2, x_ireturn, x_istore2, klp_0, klp_1, klp_2, klp_3, klp_9, KC_0, KC_1, KC_2, KC_3, KC_4, ne_eq, not_false_eq_true, not_true_eq_false, true_and, and_true, and_self, implies_true, eq_self, true_imp_iff, false_implies, Int.reduceEq, Int.reduceNe, Int.reduceMod, Int.reduceMul, Int.reduceAdd, Int.reduceSub, Int.reduceLT, Int.reduceLE, Nat.reduceAdd, Nat.reduceLeDiff, Nat.reduceLT, Nat.reduceSub, reduceIte, wds_n, wds_0, wds_1, wds_2, wds_3, or_true, true_or, or_false, false_or, or_self, false_and, and_false, d_pos, d_s1, d_s2, d_s3, d_s4, d_s5, d_s6, d_s7, d_s8, Classical.not_not, z64_5, z64_6, s242, s243, s18e, wkC, le_sub1, le_T, le_F, lt_T, lt_F, eq_F, w32_T, bz0, bz1, lc_le, lc_ge, lc_lt, lc_gt, lc_eq] <;> first | rfl | (rw [if_pos (by omega)] <;> rfl) | (rw [if_neg (by omega)] <;> rfl) | (exfalso; omega)
theorem s241n {d : Nat} {h : HV} {Q : Int → HV → Prop} {w : Int} (hw : ¬ (1 ≤ w ∧ w ≤ 4)) : Sp fz1 (d + 3) 241 [(3, 64), (0, w)] h Q = Q (-1) h := by
  by_cases a1 : w < 1 <;> by_cases a2 : w ≤ 4 <;> (try (exfalso; omega)) <;> simp (implicitDefEqProofs := false) (disch := omega) only [sp241, b241_0, b241_1, b241_2, q241_1, q241_2, x_aload0, y_call18, y_call242, y_call243, x_gc_43, x_gc_51, x_goto_1, x_iconst, x_if_icmp_le_2, x_if_icmp_lt_1, x_iload1, x_iload2, x_ireturn, x_istore2, klp_0, klp_1, klp_2, klp_3, klp_9, KC_0, KC_1, KC_2, KC_3, KC_4, ne_eq, not_false_eq_true, not_true_eq_false, true_and, and_true, and_self, implies_true, eq_self, true_imp_iff, false_implies, Int.reduceEq, Int.reduceNe, Int.reduceMod, Int.reduceMul, Int.reduceAdd, Int.reduceSub, Int.reduceLT, Int.reduceLE, Nat.reduceAdd, Nat.reduceLeDiff, Nat.reduceLT, Nat.reduceSub, reduceIte, wds_n, wds_0, wds_1, wds_2, wds_3, or_true, true_or, or_false, false_or, or_self, false_and, and_false, d_pos, d_s1, d_s2, d_s3, d_s4, d_s5, d_s6, d_s7, d_s8, Classical.not_not, z64_5, z64_6, a1, a2, le_sub1, le_T, le_F, lt_T, lt_F, eq_F, w32_T, bz0, bz1, lc_le, lc_ge, lc_lt, lc_gt, lc_eq] <;> first | rfl | (rw [if_pos (by omega)] <;> rfl) | (rw [if_neg (by omega)] <;> rfl) | (exfalso; omega)
def wkR (h : HV) (w : Int) : HV := fillH (fillH (fillH (hset (hset (hset (hset h 6603 65 w) 6603 69 0) 6603 70 0) 6603 71 0) 11680 10 0) 11744 10 0) 11808 240 0
theorem s416 {d : Nat} {h : HV} {Q : Int → HV → Prop} {w : Int} (hw : 1 ≤ w ∧ w ≤ 4) : Sp fz1 (d + 1) 416 [(3, 6603), (0, w)] h Q = Q (h 6603 65) (wkR h w) := by
  refine Sp_is ?_ Q
  generalize hp : h 6603 65 = p0
  unfold wkR
  simp (implicitDefEqProofs := false) (disch := omega) only [sp416, b416_0, b416_1, b416_2, b416_3, b416_4, b416_5, q416_1, q416_3, q416_5, x_aload0, y_call369, y_call417, x_gc_11795, x_gc_11803, x_gc_11811, x_gf_11784, x_goto_2, x_goto_4, x_iastore, x_iconst, x_ifCond_ne_1, x_if_icmp_ge_3, x_if_icmp_ge_5, x_iinc3, x_iload1, x_iload2, x_iload3, x_ireturn, x_istore2, x_istore3, x_pf_11784, klp_0, klp_1, klp_2, klp_3, klp_9, KC_0, KC_1, KC_2, KC_3, KC_4, ne_eq, not_false_eq_true, not_true_eq_false, true_and, and_true, and_self, implies_true, eq_self, true_imp_iff, false_implies, Int.reduceEq, Int.reduceNe, Int.reduceMod, Int.reduceMul, Int.reduceAdd, Int.reduceSub, Int.reduceLT, Int.reduceLE, Nat.reduceAdd, Nat.reduceLeDiff, Nat.reduceLT, Nat.reduceSub, reduceIte, wds_n, wds_0, wds_1, wds_2, wds_3, or_true, true_or, or_false, false_or, or_self, false_and, and_false, d_pos, d_s1, d_s2, d_s3, d_s4, d_s5, d_s6, d_s7, d_s8, Classical.not_not, s369, s417, hp, le_T, le_F, lt_T, lt_F, w32_T]
  generalize (hset (hset (hset (hset h 6603 65 w) 6603 69 0) 6603 70 0) 6603 71 0) = H
  refine forG (N := 10) (I := fun j ls h' => ls = [(3, 6603), (0, w), (0, p0), (0, (j : Int))] ∧ h' = fillH (fillH H 11680 j 0) 11744 j 0) ?_ ?_ (j := 0) (by decide) ⟨rfl, by rw [show (((0 : Nat) : Int)) = 0 from rfl, fillH_0, fillH_0]⟩
  · rintro j ls h' hj ⟨rfl, rfl⟩ nx
    refine G_in ?_
    simp (implicitDefEqProofs := false) (disch := omega) only [b416_2, x_aload0, x_gc_11795, x_gc_11803, x_goto_2, x_iastore, x_iconst, x_if_icmp_ge_3, x_iinc3, x_iload3, klp_0, klp_1, klp_2, klp_3, klp_9, KC_0, KC_1, KC_2, KC_3, KC_4, ne_eq, not_false_eq_true, not_true_eq_false, true_and, and_true, and_self, implies_true, eq_self, true_imp_iff, false_implies, Int.reduceEq, Int.reduceNe, Int.reduceMod, Int.reduceMul, Int.reduceAdd, Int.reduceSub, Int.reduceLT, Int.reduceLE, Nat.reduceAdd, Nat.reduceLeDiff, Nat.reduceLT, Nat.reduceSub, reduceIte, wds_n, wds_0, wds_1, wds_2, wds_3, or_true, true_or, or_false, false_or, or_self, false_and, and_false, d_pos, d_s1, d_s2, d_s3, d_s4, d_s5, d_s6, d_s7, d_s8, Classical.not_not, z6603_66, z6603_67, z11680_l, z11744_l, le_T, le_F, lt_T, lt_F, w32_T]
    refine nx _ _ ⟨rfl, ?_⟩
    rw [fil_c _ (by decide), fil_s _ (by omega), fil_s _ (by omega)]
    rfl
  · rintro ls h' ⟨rfl, rfl⟩
    refine G_in ?_
    simp (implicitDefEqProofs := false) (disch := omega) only [b416_2, b416_3, q416_3, x_aload0, x_gc_11795, x_gc_11803, x_goto_2, x_goto_4, x_iastore, x_iconst, x_if_icmp_ge_3, x_iinc3, x_iload3, x_istore3, klp_0, klp_1, klp_2, klp_3, klp_9, KC_0, KC_1, KC_2, KC_3, KC_4, ne_eq, not_false_eq_true, not_true_eq_false, true_and, and_true, and_self, implies_true, eq_self, true_imp_iff, false_implies, Int.reduceEq, Int.reduceNe, Int.reduceMod, Int.reduceMul, Int.reduceAdd, Int.reduceSub, Int.reduceLT, Int.reduceLE, Nat.reduceAdd, Nat.reduceLeDiff, Nat.reduceLT, Nat.reduceSub, reduceIte, wds_n, wds_0, wds_1, wds_2, wds_3, or_true, true_or, or_false, false_or, or_self, false_and, and_false, d_pos, d_s1, d_s2, d_s3, d_s4, d_s5, d_s6, d_s7, d_s8, Classical.not_not, le_T, le_F, lt_T, lt_F, w32_T]
    show G fz1 (d + 1) 416 4 [(3, 6603), (0, w), (0, p0), (0, 0)] [] (fillH (fillH H 11680 10 0) 11744 10 0) _
    generalize (fillH (fillH H 11680 10 0) 11744 10 0) = K
    refine forG (N := 240) (I := fun j ls h' => ls = [(3, 6603), (0, w), (0, p0), (0, (j : Int))] ∧ h' = fillH K 11808 j 0) ?_ ?_ (j := 0) (by decide) ⟨rfl, by rw [show (((0 : Nat) : Int)) = 0 from rfl, fillH_0]⟩
    · rintro j ls h' hj ⟨rfl, rfl⟩ nx
      refine G_in ?_
      simp (implicitDefEqProofs := false) (disch := omega) only [b416_4, x_aload0, x_gc_11811, x_goto_4, x_iastore, x_iconst, x_if_icmp_ge_5, x_iinc3, x_iload3, klp_0, klp_1, klp_2, klp_3, klp_9, KC_0, KC_1, KC_2, KC_3, KC_4, ne_eq, not_false_eq_true, not_true_eq_false, true_and, and_true, and_self, implies_true, eq_self, true_imp_iff, false_implies, Int.reduceEq, Int.reduceNe, Int.reduceMod, Int.reduceMul, Int.reduceAdd, Int.reduceSub, Int.reduceLT, Int.reduceLE, Nat.reduceAdd, Nat.reduceLeDiff, Nat.reduceLT, Nat.reduceSub, reduceIte, wds_n, wds_0, wds_1, wds_2, wds_3, or_true, true_or, or_false, false_or, or_self, false_and, and_false, d_pos, d_s1, d_s2, d_s3, d_s4, d_s5, d_s6, d_s7, d_s8, Classical.not_not, z6603_68, z11808_l, le_T, le_F, lt_T, lt_F, w32_T]
      refine nx _ _ ⟨rfl, ?_⟩
      rw [fil_s _ (by omega)]
      rfl
    · rintro ls h' ⟨rfl, rfl⟩
      refine G_in ?_
      simp (implicitDefEqProofs := false) (disch := omega) only [b416_4, b416_5, q416_5, x_aload0, x_gc_11811, x_goto_4, x_iastore, x_iconst, x_if_icmp_ge_5, x_iinc3, x_iload2, x_iload3, x_ireturn, klp_0, klp_1, klp_2, klp_3, klp_9, KC_0, KC_1, KC_2, KC_3, KC_4, ne_eq, not_false_eq_true, not_true_eq_false, true_and, and_true, and_self, implies_true, eq_self, true_imp_iff, false_implies, Int.reduceEq, Int.reduceNe, Int.reduceMod, Int.reduceMul, Int.reduceAdd, Int.reduceSub, Int.reduceLT, Int.reduceLE, Nat.reduceAdd, Nat.reduceLeDiff, Nat.reduceLT, Nat.reduceSub, reduceIte, wds_n, wds_0, wds_1, wds_2, wds_3, or_true, true_or, or_false, false_or, or_self, false_and, and_false, d_pos, d_s1, d_s2, d_s3, d_s4, d_s5, d_s6, d_s7, d_s8, Classical.not_not, le_T, le_F, lt_T, lt_F, w32_T]
      rfl
theorem s416n {d : Nat} {h : HV} {Q : Int → HV → Prop} {w : Int} (hw : ¬ (1 ≤ w ∧ w ≤ 4)) : Sp fz1 (d + 1) 416 [(3, 6603), (0, w)] h Q = Q (-1) h := by
  simp (implicitDefEqProofs := false) (disch := omega) only [sp416, b416_0, b416_1, b416_2, b416_3, b416_4, b416_5, q416_3, q416_5, x_aload0, y_call369, y_call417, x_gc_11795, x_gc_11803, x_gc_11811, x_gf_11784, x_goto_2, x_goto_4, x_iastore, x_iconst, x_ifCond_ne_1, x_if_icmp_ge_3, x_if_icmp_ge_5, x_iinc3, x_iload1, x_iload2, x_iload3, x_ireturn, x_istore2, x_istore3, x_pf_11784, klp_0, klp_1, klp_2, klp_3, klp_9, KC_0, KC_1, KC_2, KC_3, KC_4, ne_eq, not_false_eq_true, not_true_eq_false, true_and, and_true, and_self, implies_true, eq_self, true_imp_iff, false_implies, Int.reduceEq, Int.reduceNe, Int.reduceMod, Int.reduceMul, Int.reduceAdd, Int.reduceSub, Int.reduceLT, Int.reduceLE, Nat.reduceAdd, Nat.reduceLeDiff, Nat.reduceLT, Nat.reduceSub, reduceIte, wds_n, wds_0, wds_1, wds_2, wds_3, or_true, true_or, or_false, false_or, or_self, false_and, and_false, d_pos, d_s1, d_s2, d_s3, d_s4, d_s5, d_s6, d_s7, d_s8, Classical.not_not, z6603_66, z11680_l, z6603_67, z11744_l, z6603_68, z11808_l, s369, hw, le_sub1, le_T, le_F, lt_T, lt_F, eq_F, w32_T, bz0, bz1, lc_le, lc_ge, lc_lt, lc_gt, lc_eq] <;> first | rfl | (rw [if_pos (by omega)] <;> rfl) | (rw [if_neg (by omega)] <;> rfl) | (exfalso; omega)
theorem op_week {d : Nat} {h : HV} {w : Int} (B : RTb h) : Sp fz1 (d + 3) 241 [(3, 64), (0, w)] h (fun x h1 => h1 50 = h 50 ∧ Sp fz1 (d + 3) 416 [(3, 6603), (0, w)] h1 (fun y h2 => x = y ∧ RTb h2 ∧ (h2 = h ∨ (1 ≤ w ∧ w ≤ 4) ∧ h2 = wkR (wkC h w) w))) := by
  by_cases hw : 1 ≤ w ∧ w ≤ 4
  · have e1 : ∀ a, a ≠ 1927 → a ≠ 2016 → a ≠ 2080 → a ≠ 2656 → a ≠ 2568 → wkC h w a = h a := fun a q1 q2 q3 q4 q5 => by
      unfold wkC
      rw [hs_ne q5, fillH_ne q4, hs_ne q1, hs_ne q1, fillH_ne q3, fillH_ne q2, hs_ne q1]
    rw [s241 hw]
    refine ⟨e1 _ (by decide) (by decide) (by decide) (by decide) (by decide), ?_⟩
    rw [s416 hw, e1 6603 (by decide) (by decide) (by decide) (by decide) (by decide), B.1]
    refine ⟨rfl, ⟨?_, ?_, fun s s1 s2 => ?_, fun i i1 i2 => ?_⟩, .inr ⟨hw, rfl⟩⟩
    · unfold wkR wkC
      simp (implicitDefEqProofs := false) only [hset_v, fillH_v, Int.reduceEq, false_and, true_and, and_false, and_true, if_false, if_true]
    · have : wkR (wkC h w) w 1927 1 = w := by
        unfold wkR wkC
        simp (implicitDefEqProofs := false) only [hset_v, fillH_v, Int.reduceEq, false_and, true_and, and_false, and_true, if_false, if_true]
      rw [this]; exact hw
    · unfold wkR wkC
      simp (implicitDefEqProofs := false) only [hset_v, fillH_v, Int.reduceEq, false_and, true_and, and_false, and_true, if_false, if_true, s1, s2]
    · unfold wkR wkC
      simp (implicitDefEqProofs := false) only [hset_v, fillH_v, Int.reduceEq, false_and, true_and, and_false, and_true, if_false, if_true, i1, i2]
  · rw [s241n hw]
    refine ⟨rfl, ?_⟩
    rw [s416n hw]
    exact ⟨rfl, B, .inl rfl⟩
