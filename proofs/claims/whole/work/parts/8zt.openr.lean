/-! THE PURE SIDE, 202: the school is opened, reference: printed by wip/tools/gen8zt.py -/
def opRH (h : HV) : HV := hset (hset (hset (hset (fillH (fillH (fillH (hset (hset (hset h 6603 53 0) 6603 58 0) 6603 61 (-9)) 11808 240 0) 11680 10 0) 11744 10 0) 6603 69 0) 6603 70 0) 6603 71 0) 6603 86 0
section SM
variable {T S : Int} {h hr g gr k kr : HV} {Q : Int → HV → Prop} {d : Nat}
theorem fill_hs {a b n i v w : Int} (ab : a ≠ b) : hset (fillH h a n v) b i w = fillH (hset h b i w) a n v := by
  funext o j
  simp only [hset_v, fillH_v]
  by_cases x : o = b ∧ j = i
  · rw [if_pos x, if_neg (fun u => ab (by rw [← u.1, x.1])), if_pos x]
  · rw [if_neg x, if_neg x]
theorem opf2_s {a b j v : Int} (ab : a ≠ b) (hj : 0 ≤ j) : hset (hset (fillH (fillH h a j v) b j v) a j v) b j v = fillH (fillH h a (j + 1) v) b (j + 1) v := by
  rw [fill_hs (fun u => ab u.symm), fillH_s h hj, fillH_s _ hj]
theorem r366_3 {e2 : Nat} : ∀ (N j : Nat), j + N = 240 → G fz1 (e2 + 2) 366 3 [(3, 6603), (0, (j : Int))] [] (fillH h 11808 j 0) Q = G fz1 (e2 + 2) 366 4 [(3, 6603), (0, 240)] [] (fillH h 11808 240 0) Q := by
  intro N
  induction N with
  | zero =>
    intro j hj
    have ej : (j : Int) = 240 := by omega
    rw [ej]
    conv => lhs; rw [q366_3]
    simp (implicitDefEqProofs := false) (disch := omega) only [b366_3, x_aload0, x_gc_11811, x_goto_3, x_iastore, x_iconst, x_if_icmp_ge_4, x_iinc1, x_iload1, klp_0, klp_1, klp_2, klp_3, klp_9, KC_0, KC_1, KC_2, KC_3, KC_4, ne_eq, not_false_eq_true, not_true_eq_false, true_and, and_true, and_self, implies_true, eq_self, true_imp_iff, false_implies, Int.reduceEq, Int.reduceNe, Int.reduceMod, Int.reduceMul, Int.reduceAdd, Int.reduceSub, Int.reduceLT, Int.reduceLE, Nat.reduceAdd, Nat.reduceLeDiff, Nat.reduceLT, Nat.reduceSub, reduceIte, wds_n, wds_0, wds_1, wds_2, wds_3, or_true, true_or, or_false, false_or, or_self, false_and, and_false, d_pos, d_s1, d_s2, d_s3, d_s4, d_s5, d_s6, d_s7, d_s8, Classical.not_not, z6603_66, z11680_l, z6603_67, z11744_l, z6603_68, z11808_l, d_s9, d_s10, d_s11, d_s12, d_s13, d_s14, d_s15, d_s16, d_s17, d_s18, d_s19, d_s20, d_s21, d_s22, d_s23, d_s24, d_s25, d_s26, d_s27, d_s28, d_s29, d_s30, hs_ne, hcell, hcel1, le_sub1, le_T, le_F, lt_T, lt_F, eq_F, w32_T, bz0, bz1, lc_le, lc_ge, lc_lt, lc_gt, lc_eq]
  | succ N ih =>
    intro j hj
    rw [← ih (j + 1) (by omega)]
    have cj : ((j + 1 : Nat) : Int) = (j : Int) + 1 := by omega
    rw [cj, ← fillH_s h (by omega)]
    have jb : (j : Int) < 240 := by omega
    conv => lhs; rw [q366_3]
    simp (implicitDefEqProofs := false) (disch := omega) only [b366_3, x_aload0, x_gc_11811, x_goto_3, x_iastore, x_iconst, x_if_icmp_ge_4, x_iinc1, x_iload1, klp_0, klp_1, klp_2, klp_3, klp_9, KC_0, KC_1, KC_2, KC_3, KC_4, ne_eq, not_false_eq_true, not_true_eq_false, true_and, and_true, and_self, implies_true, eq_self, true_imp_iff, false_implies, Int.reduceEq, Int.reduceNe, Int.reduceMod, Int.reduceMul, Int.reduceAdd, Int.reduceSub, Int.reduceLT, Int.reduceLE, Nat.reduceAdd, Nat.reduceLeDiff, Nat.reduceLT, Nat.reduceSub, reduceIte, wds_n, wds_0, wds_1, wds_2, wds_3, or_true, true_or, or_false, false_or, or_self, false_and, and_false, d_pos, d_s1, d_s2, d_s3, d_s4, d_s5, d_s6, d_s7, d_s8, Classical.not_not, z6603_66, z11680_l, z6603_67, z11744_l, z6603_68, z11808_l, jb, d_s9, d_s10, d_s11, d_s12, d_s13, d_s14, d_s15, d_s16, d_s17, d_s18, d_s19, d_s20, d_s21, d_s22, d_s23, d_s24, d_s25, d_s26, d_s27, d_s28, d_s29, d_s30, hs_ne, hcell, hcel1, le_sub1, le_T, le_F, lt_T, lt_F, eq_F, w32_T, bz0, bz1, lc_le, lc_ge, lc_lt, lc_gt, lc_eq]
theorem r366_5 {e2 : Nat} : ∀ (N j : Nat), j + N = 10 → G fz1 (e2 + 2) 366 5 [(3, 6603), (0, (j : Int))] [] (fillH (fillH h 11680 j 0) 11744 j 0) Q = G fz1 (e2 + 2) 366 6 [(3, 6603), (0, 10)] [] (fillH (fillH h 11680 10 0) 11744 10 0) Q := by
  intro N
  induction N with
  | zero =>
    intro j hj
    have ej : (j : Int) = 10 := by omega
    rw [ej]
    conv => lhs; rw [q366_5]
    simp (implicitDefEqProofs := false) (disch := omega) only [b366_5, x_aload0, x_gc_11795, x_gc_11803, x_goto_5, x_iastore, x_iconst, x_if_icmp_ge_6, x_iinc1, x_iload1, klp_0, klp_1, klp_2, klp_3, klp_9, KC_0, KC_1, KC_2, KC_3, KC_4, ne_eq, not_false_eq_true, not_true_eq_false, true_and, and_true, and_self, implies_true, eq_self, true_imp_iff, false_implies, Int.reduceEq, Int.reduceNe, Int.reduceMod, Int.reduceMul, Int.reduceAdd, Int.reduceSub, Int.reduceLT, Int.reduceLE, Nat.reduceAdd, Nat.reduceLeDiff, Nat.reduceLT, Nat.reduceSub, reduceIte, wds_n, wds_0, wds_1, wds_2, wds_3, or_true, true_or, or_false, false_or, or_self, false_and, and_false, d_pos, d_s1, d_s2, d_s3, d_s4, d_s5, d_s6, d_s7, d_s8, Classical.not_not, z6603_66, z11680_l, z6603_67, z11744_l, z6603_68, z11808_l, d_s9, d_s10, d_s11, d_s12, d_s13, d_s14, d_s15, d_s16, d_s17, d_s18, d_s19, d_s20, d_s21, d_s22, d_s23, d_s24, d_s25, d_s26, d_s27, d_s28, d_s29, d_s30, hs_ne, hcell, hcel1, le_sub1, le_T, le_F, lt_T, lt_F, eq_F, w32_T, bz0, bz1, lc_le, lc_ge, lc_lt, lc_gt, lc_eq]
  | succ N ih =>
    intro j hj
    rw [← ih (j + 1) (by omega)]
    have cj : ((j + 1 : Nat) : Int) = (j : Int) + 1 := by omega
    rw [cj, ← opf2_s (by decide) (by omega)]
    have jb : (j : Int) < 10 := by omega
    conv => lhs; rw [q366_5]
    simp (implicitDefEqProofs := false) (disch := omega) only [b366_5, x_aload0, x_gc_11795, x_gc_11803, x_goto_5, x_iastore, x_iconst, x_if_icmp_ge_6, x_iinc1, x_iload1, klp_0, klp_1, klp_2, klp_3, klp_9, KC_0, KC_1, KC_2, KC_3, KC_4, ne_eq, not_false_eq_true, not_true_eq_false, true_and, and_true, and_self, implies_true, eq_self, true_imp_iff, false_implies, Int.reduceEq, Int.reduceNe, Int.reduceMod, Int.reduceMul, Int.reduceAdd, Int.reduceSub, Int.reduceLT, Int.reduceLE, Nat.reduceAdd, Nat.reduceLeDiff, Nat.reduceLT, Nat.reduceSub, reduceIte, wds_n, wds_0, wds_1, wds_2, wds_3, or_true, true_or, or_false, false_or, or_self, false_and, and_false, d_pos, d_s1, d_s2, d_s3, d_s4, d_s5, d_s6, d_s7, d_s8, Classical.not_not, z6603_66, z11680_l, z6603_67, z11744_l, z6603_68, z11808_l, jb, d_s9, d_s10, d_s11, d_s12, d_s13, d_s14, d_s15, d_s16, d_s17, d_s18, d_s19, d_s20, d_s21, d_s22, d_s23, d_s24, d_s25, d_s26, d_s27, d_s28, d_s29, d_s30, hs_ne, hcell, hcel1, le_sub1, le_T, le_F, lt_T, lt_F, eq_F, w32_T, bz0, bz1, lc_le, lc_ge, lc_lt, lc_gt, lc_eq]
theorem r366_1 {e2 : Nat} (hS : TR S) (e9 : h 6603 9 = S) (h0 : h 6603 25 = 0) (hc : 0 ≤ h (S + 84) 2 ∧ h (S + 84) 2 ≤ 10) : ∀ (N j : Nat), ((j + N : Nat) : Int) = h (S + 84) 2 → G fz1 (e2 + 2) 366 1 [(3, 6603), (0, (j : Int))] [] (pR S h j) Q = G fz1 (e2 + 2) 366 2 [(3, 6603), (0, h (S + 84) 2)] [] (pR S h (h (S + 84) 2).toNat) Q := by
  have kS := kTR hS
  intro N
  induction N with
  | zero =>
    intro j hj
    have ej : (j : Int) = h (S + 84) 2 := by omega
    have ej2 : (h (S + 84) 2).toNat = j := by omega
    have pv := pR_v (S := S) h0 j
    have h9 : pR S h j 6603 9 = S := by rw [pv.2.2.1 9 (by decide), e9]
    have hm : pR S h j (S + 84) 2 = h (S + 84) 2 := by rw [pv.1 _ (by omega) (by omega) (by omega) (by omega) (by omega) (by omega) (by omega) (by omega)]
    conv => lhs; rw [q366_1]
    rw [ej, ej2]
    simp (implicitDefEqProofs := false) (disch := omega) only [b366_1, x_aload0, y_call367, x_gc_12291, x_gc_12315, x_gf_11339, x_goto_1, x_iaload, x_iconst, x_if_icmp_ge_2, x_iinc1, x_iload1, x_pop0, x_pop3, klp_0, klp_1, klp_2, klp_3, klp_9, KC_0, KC_1, KC_2, KC_3, KC_4, ne_eq, not_false_eq_true, not_true_eq_false, true_and, and_true, and_self, implies_true, eq_self, true_imp_iff, false_implies, Int.reduceEq, Int.reduceNe, Int.reduceMod, Int.reduceMul, Int.reduceAdd, Int.reduceSub, Int.reduceLT, Int.reduceLE, Nat.reduceAdd, Nat.reduceLeDiff, Nat.reduceLT, Nat.reduceSub, reduceIte, wds_n, wds_0, wds_1, wds_2, wds_3, or_true, true_or, or_false, false_or, or_self, false_and, and_false, d_pos, d_s1, d_s2, d_s3, d_s4, d_s5, d_s6, d_s7, d_s8, Classical.not_not, z6603_66, z11680_l, z6603_67, z11744_l, z6603_68, z11808_l, r0 hS, r0l hS, r0k hS, r3 hS, r3l hS, r3k hS, TR_0 hS, TR_k hS, h9, hm, d_s9, d_s10, d_s11, d_s12, d_s13, d_s14, d_s15, d_s16, d_s17, d_s18, d_s19, d_s20, d_s21, d_s22, d_s23, d_s24, d_s25, d_s26, d_s27, d_s28, d_s29, d_s30, hs_ne, hcell, hcel1, le_sub1, le_T, le_F, lt_T, lt_F, eq_F, w32_T, bz0, bz1, lc_le, lc_ge, lc_lt, lc_gt, lc_eq]
  | succ N ih =>
    intro j hj
    have pv := pR_v (S := S) h0 j
    have h9 : pR S h j 6603 9 = S := by rw [pv.2.2.1 9 (by decide), e9]
    have hm : pR S h j (S + 84) 2 = h (S + 84) 2 := by rw [pv.1 _ (by omega) (by omega) (by omega) (by omega) (by omega) (by omega) (by omega) (by omega)]
    have st : pR S h j (S + 276) j = h (S + 276) j := by rw [pv.1 _ (by omega) (by omega) (by omega) (by omega) (by omega) (by omega) (by omega) (by omega)]
    have ad : ∀ Q, Sp fz1 (e2 + 1) 367 [(3, 6603), (0, h (S + 276) j), (0, (j : Int)), (0, -9)] (pR S h j) Q = Q (j : Int) (pR S h (j + 1)) := fun Q => by
      rw [s367 (by rw [pv.2.1]; omega), pv.2.1]
      rfl
    rw [← ih (j + 1) (by omega)]
    have jb : (j : Int) < h (S + 84) 2 := by omega
    have cj : ((j + 1 : Nat) : Int) = (j : Int) + 1 := by omega
    rw [cj]
    conv => lhs; rw [q366_1]
    simp (implicitDefEqProofs := false) (disch := omega) only [b366_1, x_aload0, y_call367, x_gc_12291, x_gc_12315, x_gf_11339, x_goto_1, x_iaload, x_iconst, x_if_icmp_ge_2, x_iinc1, x_iload1, x_pop0, x_pop3, klp_0, klp_1, klp_2, klp_3, klp_9, KC_0, KC_1, KC_2, KC_3, KC_4, ne_eq, not_false_eq_true, not_true_eq_false, true_and, and_true, and_self, implies_true, eq_self, true_imp_iff, false_implies, Int.reduceEq, Int.reduceNe, Int.reduceMod, Int.reduceMul, Int.reduceAdd, Int.reduceSub, Int.reduceLT, Int.reduceLE, Nat.reduceAdd, Nat.reduceLeDiff, Nat.reduceLT, Nat.reduceSub, reduceIte, wds_n, wds_0, wds_1, wds_2, wds_3, or_true, true_or, or_false, false_or, or_self, false_and, and_false, d_pos, d_s1, d_s2, d_s3, d_s4, d_s5, d_s6, d_s7, d_s8, Classical.not_not, z6603_66, z11680_l, z6603_67, z11744_l, z6603_68, z11808_l, r0 hS, r0l hS, r0k hS, r3 hS, r3l hS, r3k hS, TR_0 hS, TR_k hS, h9, hm, st, ad, jb, d_s9, d_s10, d_s11, d_s12, d_s13, d_s14, d_s15, d_s16, d_s17, d_s18, d_s19, d_s20, d_s21, d_s22, d_s23, d_s24, d_s25, d_s26, d_s27, d_s28, d_s29, d_s30, hs_ne, hcell, hcel1, le_sub1, le_T, le_F, lt_T, lt_F, eq_F, w32_T, bz0, bz1, lc_le, lc_ge, lc_lt, lc_gt, lc_eq]
/-- the reference opens the school -/
theorem r366 {e2 : Nat} (hS : TR S) (e9 : h 6603 9 = S) (hc : 0 ≤ h (S + 84) 2 ∧ h (S + 84) 2 ≤ 10) : Sp fz1 (e2 + 2) 366 [(3, 6603)] h Q = Q 0 (opRH (pR S (hset h 6603 25 0) (h (S + 84) 2).toNat)) := by
  have kS := kTR hS
  have h0 : hset h 6603 25 0 6603 25 = 0 := hcel1
  have e84 : hset h 6603 25 0 (S + 84) = h (S + 84) := hs_ne (by omega)
  have E := r366_1 (Q := Q) (e2 := e2) (h := hset h 6603 25 0) hS (by rw [hcell (by decide)]; exact e9) h0 (by rw [e84]; exact hc) (h (S + 84) 2).toNat 0 (by rw [e84]; omega)
  rw [e84] at E
  have E : G fz1 (e2 + 2) 366 1 [(3, 6603), (0, 0)] [] (hset h 6603 25 0) Q = G fz1 (e2 + 2) 366 2 [(3, 6603), (0, h (S + 84) 2)] [] (pR S (hset h 6603 25 0) (h (S + 84) 2).toNat) Q := E
  generalize pR S (hset h 6603 25 0) (h (S + 84) 2).toNat = K at *
  have E3 := r366_3 (Q := Q) (e2 := e2) (h := hset (hset (hset K 6603 53 0) 6603 58 0) 6603 61 (-9)) 240 0 rfl
  have E3 : G fz1 (e2 + 2) 366 3 [(3, 6603), (0, 0)] [] (fillH (hset (hset (hset K 6603 53 0) 6603 58 0) 6603 61 (-9)) 11808 0 0) Q = G fz1 (e2 + 2) 366 4 [(3, 6603), (0, 240)] [] (fillH (hset (hset (hset K 6603 53 0) 6603 58 0) 6603 61 (-9)) 11808 240 0) Q := E3
  rw [fillH_0] at E3
  have E5 := r366_5 (Q := Q) (e2 := e2) (h := fillH (hset (hset (hset K 6603 53 0) 6603 58 0) 6603 61 (-9)) 11808 240 0) 10 0 rfl
  have E5 : G fz1 (e2 + 2) 366 5 [(3, 6603), (0, 0)] [] (fillH (fillH (fillH (hset (hset (hset K 6603 53 0) 6603 58 0) 6603 61 (-9)) 11808 240 0) 11680 0 0) 11744 0 0) Q = G fz1 (e2 + 2) 366 6 [(3, 6603), (0, 10)] [] (fillH (fillH (fillH (hset (hset (hset K 6603 53 0) 6603 58 0) 6603 61 (-9)) 11808 240 0) 11680 10 0) 11744 10 0) Q := E5
  rw [fillH_0, fillH_0] at E5
  have A1 : Sp fz1 (e2 + 2) 366 [(3, 6603)] h Q = G fz1 (e2 + 2) 366 1 [(3, 6603), (0, 0)] [] (hset h 6603 25 0) Q := by
    simp (implicitDefEqProofs := false) (disch := omega) only [sp366, b366_0, x_aload0, x_goto_1, x_iconst, x_istore1, x_pf_11464, klp_0, klp_1, klp_2, klp_3, klp_9, KC_0, KC_1, KC_2, KC_3, KC_4, ne_eq, not_false_eq_true, not_true_eq_false, true_and, and_true, and_self, implies_true, eq_self, true_imp_iff, false_implies, Int.reduceEq, Int.reduceNe, Int.reduceMod, Int.reduceMul, Int.reduceAdd, Int.reduceSub, Int.reduceLT, Int.reduceLE, Nat.reduceAdd, Nat.reduceLeDiff, Nat.reduceLT, Nat.reduceSub, reduceIte, wds_n, wds_0, wds_1, wds_2, wds_3, or_true, true_or, or_false, false_or, or_self, false_and, and_false, d_pos, d_s1, d_s2, d_s3, d_s4, d_s5, d_s6, d_s7, d_s8, Classical.not_not, z6603_66, z11680_l, z6603_67, z11744_l, z6603_68, z11808_l, r0 hS, r0l hS, r0k hS, r3 hS, r3l hS, r3k hS, TR_0 hS, TR_k hS, d_s9, d_s10, d_s11, d_s12, d_s13, d_s14, d_s15, d_s16, d_s17, d_s18, d_s19, d_s20, d_s21, d_s22, d_s23, d_s24, d_s25, d_s26, d_s27, d_s28, d_s29, d_s30, hs_ne, hcell, hcel1, le_sub1, le_T, le_F, lt_T, lt_F, eq_F, w32_T, bz0, bz1, lc_le, lc_ge, lc_lt, lc_gt, lc_eq]
  have A2 : G fz1 (e2 + 2) 366 2 [(3, 6603), (0, h (S + 84) 2)] [] K Q = G fz1 (e2 + 2) 366 3 [(3, 6603), (0, 0)] [] (hset (hset (hset K 6603 53 0) 6603 58 0) 6603 61 (-9)) Q := by
    conv => lhs; rw [q366_2]
    simp (implicitDefEqProofs := false) (disch := omega) only [b366_2, x_aload0, x_goto_3, x_iconst, x_istore1, x_pf_11688, x_pf_11728, x_pf_11752, klp_0, klp_1, klp_2, klp_3, klp_9, KC_0, KC_1, KC_2, KC_3, KC_4, ne_eq, not_false_eq_true, not_true_eq_false, true_and, and_true, and_self, implies_true, eq_self, true_imp_iff, false_implies, Int.reduceEq, Int.reduceNe, Int.reduceMod, Int.reduceMul, Int.reduceAdd, Int.reduceSub, Int.reduceLT, Int.reduceLE, Nat.reduceAdd, Nat.reduceLeDiff, Nat.reduceLT, Nat.reduceSub, reduceIte, wds_n, wds_0, wds_1, wds_2, wds_3, or_true, true_or, or_false, false_or, or_self, false_and, and_false, d_pos, d_s1, d_s2, d_s3, d_s4, d_s5, d_s6, d_s7, d_s8, Classical.not_not, z6603_66, z11680_l, z6603_67, z11744_l, z6603_68, z11808_l, r0 hS, r0l hS, r0k hS, r3 hS, r3l hS, r3k hS, TR_0 hS, TR_k hS, d_s9, d_s10, d_s11, d_s12, d_s13, d_s14, d_s15, d_s16, d_s17, d_s18, d_s19, d_s20, d_s21, d_s22, d_s23, d_s24, d_s25, d_s26, d_s27, d_s28, d_s29, d_s30, hs_ne, hcell, hcel1, le_sub1, le_T, le_F, lt_T, lt_F, eq_F, w32_T, bz0, bz1, lc_le, lc_ge, lc_lt, lc_gt, lc_eq]
  unfold opRH
  generalize fillH (hset (hset (hset K 6603 53 0) 6603 58 0) 6603 61 (-9)) 11808 240 0 = K2 at *
  have A3 : G fz1 (e2 + 2) 366 4 [(3, 6603), (0, 240)] [] K2 Q = G fz1 (e2 + 2) 366 5 [(3, 6603), (0, 0)] [] K2 Q := by
    conv => lhs; rw [q366_4]
    simp (implicitDefEqProofs := false) (disch := omega) only [b366_4, x_goto_5, x_iconst, x_istore1, klp_0, klp_1, klp_2, klp_3, klp_9, KC_0, KC_1, KC_2, KC_3, KC_4, ne_eq, not_false_eq_true, not_true_eq_false, true_and, and_true, and_self, implies_true, eq_self, true_imp_iff, false_implies, Int.reduceEq, Int.reduceNe, Int.reduceMod, Int.reduceMul, Int.reduceAdd, Int.reduceSub, Int.reduceLT, Int.reduceLE, Nat.reduceAdd, Nat.reduceLeDiff, Nat.reduceLT, Nat.reduceSub, reduceIte, wds_n, wds_0, wds_1, wds_2, wds_3, or_true, true_or, or_false, false_or, or_self, false_and, and_false, d_pos, d_s1, d_s2, d_s3, d_s4, d_s5, d_s6, d_s7, d_s8, Classical.not_not, z6603_66, z11680_l, z6603_67, z11744_l, z6603_68, z11808_l, r0 hS, r0l hS, r0k hS, r3 hS, r3l hS, r3k hS, TR_0 hS, TR_k hS, d_s9, d_s10, d_s11, d_s12, d_s13, d_s14, d_s15, d_s16, d_s17, d_s18, d_s19, d_s20, d_s21, d_s22, d_s23, d_s24, d_s25, d_s26, d_s27, d_s28, d_s29, d_s30, hs_ne, hcell, hcel1, le_sub1, le_T, le_F, lt_T, lt_F, eq_F, w32_T, bz0, bz1, lc_le, lc_ge, lc_lt, lc_gt, lc_eq]
  rw [A1, E, A2, E3, A3, E5, q366_6]
  simp (implicitDefEqProofs := false) (disch := omega) only [b366_6, x_aload0, x_iconst, x_pf_11820, x_pf_11828, x_pf_11836, x_pf_11956, x_return, klp_0, klp_1, klp_2, klp_3, klp_9, KC_0, KC_1, KC_2, KC_3, KC_4, ne_eq, not_false_eq_true, not_true_eq_false, true_and, and_true, and_self, implies_true, eq_self, true_imp_iff, false_implies, Int.reduceEq, Int.reduceNe, Int.reduceMod, Int.reduceMul, Int.reduceAdd, Int.reduceSub, Int.reduceLT, Int.reduceLE, Nat.reduceAdd, Nat.reduceLeDiff, Nat.reduceLT, Nat.reduceSub, reduceIte, wds_n, wds_0, wds_1, wds_2, wds_3, or_true, true_or, or_false, false_or, or_self, false_and, and_false, d_pos, d_s1, d_s2, d_s3, d_s4, d_s5, d_s6, d_s7, d_s8, Classical.not_not, z6603_66, z11680_l, z6603_67, z11744_l, z6603_68, z11808_l, r0 hS, r0l hS, r0k hS, r3 hS, r3l hS, r3k hS, TR_0 hS, TR_k hS, d_s9, d_s10, d_s11, d_s12, d_s13, d_s14, d_s15, d_s16, d_s17, d_s18, d_s19, d_s20, d_s21, d_s22, d_s23, d_s24, d_s25, d_s26, d_s27, d_s28, d_s29, d_s30, hs_ne, hcell, hcel1, le_sub1, le_T, le_F, lt_T, lt_F, eq_F, w32_T, bz0, bz1, lc_le, lc_ge, lc_lt, lc_gt, lc_eq]
end SM
