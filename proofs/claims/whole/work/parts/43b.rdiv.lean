/-! REALS, on: printed by wip/tools/gen40.py -/
section RL
variable {fz : Int → Int → Option Int} {d : Nat} {h : HV} {Q : Int → HV → Prop} {a b : Int}
theorem s100 (ha : L64 a) (hb : L64 b) : Sp fz (d + 2) 100 [(1, a), (1, b)] h Q = Q (cn (FP.ddiv (d_U a) (d_U b))) h := by
  have hv : FP.Core.val64 (FP.ddiv (d_U a) (d_U b)) = FP.Core.quotient FP.Core.b64 (dv a) (dv b) := FP.Core.val64_ddiv _ _
  have hs := xor_sg ha hb
  generalize hsg : (decide (a < 0) != decide (b < 0)) = sg at *
  have hinf : l_or (sgn sg) 9218868437227405312 = sm sg 9218868437227405312 := or_sm (m := 9218868437227405312) (by decide)
  have dinf : dv (sm sg 9218868437227405312) = .inf sg := by rw [dv_inf (sm_L (by decide)) (mg_sm (by decide)), sm_neg (by decide)]
  by_cases na : 9218868437227405312 < mg a
  · simp (implicitDefEqProofs := false) only [sp100, b100_0, b100_1, n100_2, b100_3, b100_4, b100_5, b100_6, b100_7, b100_8, b100_9, b100_10, b100_11, b100_12, b100_13, b100_14, q100_1, q100_2, q100_3, q100_4, q100_5, q100_6, q100_7, q100_8, q100_9, q100_10, q100_12, q100_13, q100_14, x_bipush, y_call101, y_call102, y_call103, y_call104, y_call105, y_call106, y_call98, x_goto_1, x_goto_11, x_goto_14, x_goto_4, x_goto_8, x_i2l, x_iadd, x_iconst, x_ifCond_eq_10, x_ifCond_eq_2, x_ifCond_eq_3, x_ifCond_eq_5, x_ifCond_eq_6, x_ifCond_eq_7, x_ifCond_eq_9, x_ifCond_le_12, x_ifCond_ne_1, x_ifCond_ne_13, x_if_icmp_gt_12, x_iinc12, x_iload12, x_istore12, x_isub, x_ladd, x_land, x_lcmp, x_ldiv, x_lload0, x_lload10, x_lload2, x_lload4, x_lload6, x_lload8, x_lor, x_lrem, x_lreturn, x_lshl, x_lstore10, x_lstore4, x_lstore6, x_lstore8, x_lxor, klp_0, klp_1, klp_2, klp_3, klp_9, KC_0, KC_1, KC_2, KC_3, KC_4, ne_eq, not_false_eq_true, not_true_eq_false, true_and, and_true, and_self, implies_true, eq_self, true_imp_iff, false_implies, Int.reduceEq, Int.reduceNe, Int.reduceMod, Int.reduceMul, Int.reduceAdd, Int.reduceSub, Int.reduceLT, Int.reduceLE, Nat.reduceAdd, Nat.reduceLeDiff, Nat.reduceLT, Nat.reduceSub, reduceIte, wds_n, wds_0, wds_1, wds_2, wds_3, or_true, true_or, or_false, false_or, or_self, d_pos, d_s1, d_s2, d_s3, d_s4, d_s5, d_s6, d_s7, d_s8, Classical.not_not, s101, bz0, na]
    rw [cn_nan (u := FP.ddiv (d_U a) (d_U b)) (by rw [hv]; exact quot_nan (.inl (dv_nan ha na)))]
  by_cases nb : 9218868437227405312 < mg b
  · simp (implicitDefEqProofs := false) only [sp100, b100_0, b100_1, n100_2, b100_3, b100_4, b100_5, b100_6, b100_7, b100_8, b100_9, b100_10, b100_11, b100_12, b100_13, b100_14, q100_1, q100_2, q100_3, q100_4, q100_5, q100_6, q100_7, q100_8, q100_9, q100_10, q100_12, q100_13, q100_14, x_bipush, y_call101, y_call102, y_call103, y_call104, y_call105, y_call106, y_call98, x_goto_1, x_goto_11, x_goto_14, x_goto_4, x_goto_8, x_i2l, x_iadd, x_iconst, x_ifCond_eq_10, x_ifCond_eq_2, x_ifCond_eq_3, x_ifCond_eq_5, x_ifCond_eq_6, x_ifCond_eq_7, x_ifCond_eq_9, x_ifCond_le_12, x_ifCond_ne_1, x_ifCond_ne_13, x_if_icmp_gt_12, x_iinc12, x_iload12, x_istore12, x_isub, x_ladd, x_land, x_lcmp, x_ldiv, x_lload0, x_lload10, x_lload2, x_lload4, x_lload6, x_lload8, x_lor, x_lrem, x_lreturn, x_lshl, x_lstore10, x_lstore4, x_lstore6, x_lstore8, x_lxor, klp_0, klp_1, klp_2, klp_3, klp_9, KC_0, KC_1, KC_2, KC_3, KC_4, ne_eq, not_false_eq_true, not_true_eq_false, true_and, and_true, and_self, implies_true, eq_self, true_imp_iff, false_implies, Int.reduceEq, Int.reduceNe, Int.reduceMod, Int.reduceMul, Int.reduceAdd, Int.reduceSub, Int.reduceLT, Int.reduceLE, Nat.reduceAdd, Nat.reduceLeDiff, Nat.reduceLT, Nat.reduceSub, reduceIte, wds_n, wds_0, wds_1, wds_2, wds_3, or_true, true_or, or_false, false_or, or_self, d_pos, d_s1, d_s2, d_s3, d_s4, d_s5, d_s6, d_s7, d_s8, Classical.not_not, s101, bz0, na, nb]
    rw [cn_nan (u := FP.ddiv (d_U a) (d_U b)) (by rw [hv]; exact quot_nan (.inr (dv_nan hb nb)))]
  by_cases ia : mg a = 9218868437227405312
  · by_cases ib : mg b = 9218868437227405312
    · simp (implicitDefEqProofs := false) only [sp100, b100_0, b100_1, n100_2, b100_3, b100_4, b100_5, b100_6, b100_7, b100_8, b100_9, b100_10, b100_11, b100_12, b100_13, b100_14, q100_1, q100_2, q100_3, q100_4, q100_5, q100_6, q100_7, q100_8, q100_9, q100_10, q100_12, q100_13, q100_14, x_bipush, y_call101, y_call102, y_call103, y_call104, y_call105, y_call106, y_call98, x_goto_1, x_goto_11, x_goto_14, x_goto_4, x_goto_8, x_i2l, x_iadd, x_iconst, x_ifCond_eq_10, x_ifCond_eq_2, x_ifCond_eq_3, x_ifCond_eq_5, x_ifCond_eq_6, x_ifCond_eq_7, x_ifCond_eq_9, x_ifCond_le_12, x_ifCond_ne_1, x_ifCond_ne_13, x_if_icmp_gt_12, x_iinc12, x_iload12, x_istore12, x_isub, x_ladd, x_land, x_lcmp, x_ldiv, x_lload0, x_lload10, x_lload2, x_lload4, x_lload6, x_lload8, x_lor, x_lrem, x_lreturn, x_lshl, x_lstore10, x_lstore4, x_lstore6, x_lstore8, x_lxor, klp_0, klp_1, klp_2, klp_3, klp_9, KC_0, KC_1, KC_2, KC_3, KC_4, ne_eq, not_false_eq_true, not_true_eq_false, true_and, and_true, and_self, implies_true, eq_self, true_imp_iff, false_implies, Int.reduceEq, Int.reduceNe, Int.reduceMod, Int.reduceMul, Int.reduceAdd, Int.reduceSub, Int.reduceLT, Int.reduceLE, Nat.reduceAdd, Nat.reduceLeDiff, Nat.reduceLT, Nat.reduceSub, reduceIte, wds_n, wds_0, wds_1, wds_2, wds_3, or_true, true_or, or_false, false_or, or_self, d_pos, d_s1, d_s2, d_s3, d_s4, d_s5, d_s6, d_s7, d_s8, Classical.not_not, s101, s102, bz0, na, nb, eq_true ia, eq_true ib, hs]
      rw [cn_nan (u := FP.ddiv (d_U a) (d_U b))]
      rw [hv, dv_inf ha ia, dv_inf hb ib]
      rfl
    · simp (implicitDefEqProofs := false) only [sp100, b100_0, b100_1, n100_2, b100_3, b100_4, b100_5, b100_6, b100_7, b100_8, b100_9, b100_10, b100_11, b100_12, b100_13, b100_14, q100_1, q100_2, q100_3, q100_4, q100_5, q100_6, q100_7, q100_8, q100_9, q100_10, q100_12, q100_13, q100_14, x_bipush, y_call101, y_call102, y_call103, y_call104, y_call105, y_call106, y_call98, x_goto_1, x_goto_11, x_goto_14, x_goto_4, x_goto_8, x_i2l, x_iadd, x_iconst, x_ifCond_eq_10, x_ifCond_eq_2, x_ifCond_eq_3, x_ifCond_eq_5, x_ifCond_eq_6, x_ifCond_eq_7, x_ifCond_eq_9, x_ifCond_le_12, x_ifCond_ne_1, x_ifCond_ne_13, x_if_icmp_gt_12, x_iinc12, x_iload12, x_istore12, x_isub, x_ladd, x_land, x_lcmp, x_ldiv, x_lload0, x_lload10, x_lload2, x_lload4, x_lload6, x_lload8, x_lor, x_lrem, x_lreturn, x_lshl, x_lstore10, x_lstore4, x_lstore6, x_lstore8, x_lxor, klp_0, klp_1, klp_2, klp_3, klp_9, KC_0, KC_1, KC_2, KC_3, KC_4, ne_eq, not_false_eq_true, not_true_eq_false, true_and, and_true, and_self, implies_true, eq_self, true_imp_iff, false_implies, Int.reduceEq, Int.reduceNe, Int.reduceMod, Int.reduceMul, Int.reduceAdd, Int.reduceSub, Int.reduceLT, Int.reduceLE, Nat.reduceAdd, Nat.reduceLeDiff, Nat.reduceLT, Nat.reduceSub, reduceIte, wds_n, wds_0, wds_1, wds_2, wds_3, or_true, true_or, or_false, false_or, or_self, d_pos, d_s1, d_s2, d_s3, d_s4, d_s5, d_s6, d_s7, d_s8, Classical.not_not, s101, s102, bz0, na, nb, eq_true ia, ib, hs, hinf]
      refine congrArg (fun z => Q z h) (cn_of (u := FP.ddiv (d_U a) (d_U b)) (sm_L (m := 9218868437227405312) (by decide)) ?_ ?_)
      · rw [hv, dinf, dv_inf ha ia, dv_fin hb (by omega)]
        simp (implicitDefEqProofs := false) only [FP.Core.quotient, hsg]
      · rw [dinf]; exact FP.Core.Datum.noConfusion
  have zero : FP.Core.val64 (FP.ddiv (d_U a) (d_U b)) = .fin sg 0 (-1074) → sgn sg = cn (FP.ddiv (d_U a) (d_U b)) := by
    intro q
    have := cn_rr (m := 0) (s := sg) (p := 0) (u := FP.ddiv (d_U a) (d_U b)) (by decide) (by rw [q]; rfl)
    rw [if_pos rfl] at this
    exact this
  by_cases ib : mg b = 9218868437227405312
  · simp (implicitDefEqProofs := false) only [sp100, b100_0, b100_1, n100_2, b100_3, b100_4, b100_5, b100_6, b100_7, b100_8, b100_9, b100_10, b100_11, b100_12, b100_13, b100_14, q100_1, q100_2, q100_3, q100_4, q100_5, q100_6, q100_7, q100_8, q100_9, q100_10, q100_12, q100_13, q100_14, x_bipush, y_call101, y_call102, y_call103, y_call104, y_call105, y_call106, y_call98, x_goto_1, x_goto_11, x_goto_14, x_goto_4, x_goto_8, x_i2l, x_iadd, x_iconst, x_ifCond_eq_10, x_ifCond_eq_2, x_ifCond_eq_3, x_ifCond_eq_5, x_ifCond_eq_6, x_ifCond_eq_7, x_ifCond_eq_9, x_ifCond_le_12, x_ifCond_ne_1, x_ifCond_ne_13, x_if_icmp_gt_12, x_iinc12, x_iload12, x_istore12, x_isub, x_ladd, x_land, x_lcmp, x_ldiv, x_lload0, x_lload10, x_lload2, x_lload4, x_lload6, x_lload8, x_lor, x_lrem, x_lreturn, x_lshl, x_lstore10, x_lstore4, x_lstore6, x_lstore8, x_lxor, klp_0, klp_1, klp_2, klp_3, klp_9, KC_0, KC_1, KC_2, KC_3, KC_4, ne_eq, not_false_eq_true, not_true_eq_false, true_and, and_true, and_self, implies_true, eq_self, true_imp_iff, false_implies, Int.reduceEq, Int.reduceNe, Int.reduceMod, Int.reduceMul, Int.reduceAdd, Int.reduceSub, Int.reduceLT, Int.reduceLE, Nat.reduceAdd, Nat.reduceLeDiff, Nat.reduceLT, Nat.reduceSub, reduceIte, wds_n, wds_0, wds_1, wds_2, wds_3, or_true, true_or, or_false, false_or, or_self, d_pos, d_s1, d_s2, d_s3, d_s4, d_s5, d_s6, d_s7, d_s8, Classical.not_not, s101, s102, bz0, na, nb, ia, eq_true ib, hs]
    rw [zero]
    rw [hv, dv_inf hb ib, dv_fin ha (by omega)]
    simp (implicitDefEqProofs := false) only [FP.Core.quotient, hsg]
    rfl
  have e1 : dv a = _ := dv_fin ha (by omega)
  have e2 : dv b = _ := dv_fin hb (by omega)
  rw [e1, e2] at hv
  simp (implicitDefEqProofs := false) only [FP.Core.quotient, hsg] at hv
  by_cases zb : mg b = 0
  · rw [if_pos ((dg_0 b).mpr zb)] at hv
    by_cases za : mg a = 0
    · rw [if_pos ((dg_0 a).mpr za)] at hv
      simp (implicitDefEqProofs := false) only [sp100, b100_0, b100_1, n100_2, b100_3, b100_4, b100_5, b100_6, b100_7, b100_8, b100_9, b100_10, b100_11, b100_12, b100_13, b100_14, q100_1, q100_2, q100_3, q100_4, q100_5, q100_6, q100_7, q100_8, q100_9, q100_10, q100_12, q100_13, q100_14, x_bipush, y_call101, y_call102, y_call103, y_call104, y_call105, y_call106, y_call98, x_goto_1, x_goto_11, x_goto_14, x_goto_4, x_goto_8, x_i2l, x_iadd, x_iconst, x_ifCond_eq_10, x_ifCond_eq_2, x_ifCond_eq_3, x_ifCond_eq_5, x_ifCond_eq_6, x_ifCond_eq_7, x_ifCond_eq_9, x_ifCond_le_12, x_ifCond_ne_1, x_ifCond_ne_13, x_if_icmp_gt_12, x_iinc12, x_iload12, x_istore12, x_isub, x_ladd, x_land, x_lcmp, x_ldiv, x_lload0, x_lload10, x_lload2, x_lload4, x_lload6, x_lload8, x_lor, x_lrem, x_lreturn, x_lshl, x_lstore10, x_lstore4, x_lstore6, x_lstore8, x_lxor, klp_0, klp_1, klp_2, klp_3, klp_9, KC_0, KC_1, KC_2, KC_3, KC_4, ne_eq, not_false_eq_true, not_true_eq_false, true_and, and_true, and_self, implies_true, eq_self, true_imp_iff, false_implies, Int.reduceEq, Int.reduceNe, Int.reduceMod, Int.reduceMul, Int.reduceAdd, Int.reduceSub, Int.reduceLT, Int.reduceLE, Nat.reduceAdd, Nat.reduceLeDiff, Nat.reduceLT, Nat.reduceSub, reduceIte, wds_n, wds_0, wds_1, wds_2, wds_3, or_true, true_or, or_false, false_or, or_self, d_pos, d_s1, d_s2, d_s3, d_s4, d_s5, d_s6, d_s7, d_s8, Classical.not_not, s101, s102, s103, bz0, na, nb, ia, ib, eq_true za, eq_true zb, hs]
      rw [cn_nan (u := FP.ddiv (d_U a) (d_U b)) hv]
    · rw [if_neg (fun q => za ((dg_0 a).mp q))] at hv
      simp (implicitDefEqProofs := false) only [sp100, b100_0, b100_1, n100_2, b100_3, b100_4, b100_5, b100_6, b100_7, b100_8, b100_9, b100_10, b100_11, b100_12, b100_13, b100_14, q100_1, q100_2, q100_3, q100_4, q100_5, q100_6, q100_7, q100_8, q100_9, q100_10, q100_12, q100_13, q100_14, x_bipush, y_call101, y_call102, y_call103, y_call104, y_call105, y_call106, y_call98, x_goto_1, x_goto_11, x_goto_14, x_goto_4, x_goto_8, x_i2l, x_iadd, x_iconst, x_ifCond_eq_10, x_ifCond_eq_2, x_ifCond_eq_3, x_ifCond_eq_5, x_ifCond_eq_6, x_ifCond_eq_7, x_ifCond_eq_9, x_ifCond_le_12, x_ifCond_ne_1, x_ifCond_ne_13, x_if_icmp_gt_12, x_iinc12, x_iload12, x_istore12, x_isub, x_ladd, x_land, x_lcmp, x_ldiv, x_lload0, x_lload10, x_lload2, x_lload4, x_lload6, x_lload8, x_lor, x_lrem, x_lreturn, x_lshl, x_lstore10, x_lstore4, x_lstore6, x_lstore8, x_lxor, klp_0, klp_1, klp_2, klp_3, klp_9, KC_0, KC_1, KC_2, KC_3, KC_4, ne_eq, not_false_eq_true, not_true_eq_false, true_and, and_true, and_self, implies_true, eq_self, true_imp_iff, false_implies, Int.reduceEq, Int.reduceNe, Int.reduceMod, Int.reduceMul, Int.reduceAdd, Int.reduceSub, Int.reduceLT, Int.reduceLE, Nat.reduceAdd, Nat.reduceLeDiff, Nat.reduceLT, Nat.reduceSub, reduceIte, wds_n, wds_0, wds_1, wds_2, wds_3, or_true, true_or, or_false, false_or, or_self, d_pos, d_s1, d_s2, d_s3, d_s4, d_s5, d_s6, d_s7, d_s8, Classical.not_not, s101, s102, s103, bz0, na, nb, ia, ib, za, eq_true zb, hs, hinf]
      refine congrArg (fun z => Q z h) (cn_of (u := FP.ddiv (d_U a) (d_U b)) (sm_L (m := 9218868437227405312) (by decide)) ?_ ?_)
      · rw [hv, dinf]
      · rw [dinf]; exact FP.Core.Datum.noConfusion
  rw [if_neg (fun q => zb ((dg_0 b).mp q))] at hv
  by_cases za : mg a = 0
  · simp (implicitDefEqProofs := false) only [sp100, b100_0, b100_1, n100_2, b100_3, b100_4, b100_5, b100_6, b100_7, b100_8, b100_9, b100_10, b100_11, b100_12, b100_13, b100_14, q100_1, q100_2, q100_3, q100_4, q100_5, q100_6, q100_7, q100_8, q100_9, q100_10, q100_12, q100_13, q100_14, x_bipush, y_call101, y_call102, y_call103, y_call104, y_call105, y_call106, y_call98, x_goto_1, x_goto_11, x_goto_14, x_goto_4, x_goto_8, x_i2l, x_iadd, x_iconst, x_ifCond_eq_10, x_ifCond_eq_2, x_ifCond_eq_3, x_ifCond_eq_5, x_ifCond_eq_6, x_ifCond_eq_7, x_ifCond_eq_9, x_ifCond_le_12, x_ifCond_ne_1, x_ifCond_ne_13, x_if_icmp_gt_12, x_iinc12, x_iload12, x_istore12, x_isub, x_ladd, x_land, x_lcmp, x_ldiv, x_lload0, x_lload10, x_lload2, x_lload4, x_lload6, x_lload8, x_lor, x_lrem, x_lreturn, x_lshl, x_lstore10, x_lstore4, x_lstore6, x_lstore8, x_lxor, klp_0, klp_1, klp_2, klp_3, klp_9, KC_0, KC_1, KC_2, KC_3, KC_4, ne_eq, not_false_eq_true, not_true_eq_false, true_and, and_true, and_self, implies_true, eq_self, true_imp_iff, false_implies, Int.reduceEq, Int.reduceNe, Int.reduceMod, Int.reduceMul, Int.reduceAdd, Int.reduceSub, Int.reduceLT, Int.reduceLE, Nat.reduceAdd, Nat.reduceLeDiff, Nat.reduceLT, Nat.reduceSub, reduceIte, wds_n, wds_0, wds_1, wds_2, wds_3, or_true, true_or, or_false, false_or, or_self, d_pos, d_s1, d_s2, d_s3, d_s4, d_s5, d_s6, d_s7, d_s8, Classical.not_not, s101, s102, s103, bz0, na, nb, ia, ib, eq_true za, zb, hs]
    rw [zero]
    rw [hv, (dg_0 a).mpr za]
    rfl
  have a0 := dg_pos za
  have b0 := dg_pos zb
  have k1 := dg_lt a
  have k2 := dg_lt b
  have hP := div_rr (s := sg) (q := pl a) (r := pl b) a0 k1 b0 k2
  have r1 := lak_rng a0 k1
  have r2 := lak_rng b0 k2
  have pw := pl_div (pl_rng a) (pl_rng b) (lak_i (dg a)) (lak_i (dg b))
  have sa := shl_lk a0 k1
  have sb := shl_lk b0 k2
  have la := lack_lk a0 k1
  have lb := lack_lk b0 k2
  have hpl : -4000 ≤ pl a - ((lak (dg a) : Nat) : Int) - pl b + ((lak (dg b) : Nat) : Int) - 60 ∧ pl a - ((lak (dg a) : Nat) : Int) - pl b + ((lak (dg b) : Nat) : Int) - 60 ≤ 4000 := by
    have := pl_rng a
    have := pl_rng b
    have := lkr (dg a)
    have := lkr (dg b)
    omega
  generalize hM : dg a * 2 ^ lak (dg a) = M at *
  generalize hN : dg b * 2 ^ lak (dg b) = N at *
  obtain ⟨hd7, hqq, hmm, hfirst⟩ := div_parts r1.1 r1.2 r2.1 r2.2
  simp (implicitDefEqProofs := false) only [sp100, b100_0, b100_1, n100_2, b100_3, b100_4, b100_5, b100_6, b100_7, b100_8, b100_9, b100_10, b100_11, b100_12, b100_13, b100_14, q100_1, q100_2, q100_3, q100_4, q100_5, q100_6, q100_7, q100_8, q100_9, q100_10, q100_12, q100_13, q100_14, x_bipush, y_call101, y_call102, y_call103, y_call104, y_call105, y_call106, y_call98, x_goto_1, x_goto_11, x_goto_14, x_goto_4, x_goto_8, x_i2l, x_iadd, x_iconst, x_ifCond_eq_10, x_ifCond_eq_2, x_ifCond_eq_3, x_ifCond_eq_5, x_ifCond_eq_6, x_ifCond_eq_7, x_ifCond_eq_9, x_ifCond_le_12, x_ifCond_ne_1, x_ifCond_ne_13, x_if_icmp_gt_12, x_iinc12, x_iload12, x_istore12, x_isub, x_ladd, x_land, x_lcmp, x_ldiv, x_lload0, x_lload10, x_lload2, x_lload4, x_lload6, x_lload8, x_lor, x_lrem, x_lreturn, x_lshl, x_lstore10, x_lstore4, x_lstore6, x_lstore8, x_lxor, klp_0, klp_1, klp_2, klp_3, klp_9, KC_0, KC_1, KC_2, KC_3, KC_4, ne_eq, not_false_eq_true, not_true_eq_false, true_and, and_true, and_self, implies_true, eq_self, true_imp_iff, false_implies, Int.reduceEq, Int.reduceNe, Int.reduceMod, Int.reduceMul, Int.reduceAdd, Int.reduceSub, Int.reduceLT, Int.reduceLE, Nat.reduceAdd, Nat.reduceLeDiff, Nat.reduceLT, Nat.reduceSub, reduceIte, wds_n, wds_0, wds_1, wds_2, wds_3, or_true, true_or, or_false, false_or, or_self, d_pos, d_s1, d_s2, d_s3, d_s4, d_s5, d_s6, d_s7, d_s8, Classical.not_not, s101, s102, s103, s104, s105, s106, bz0, na, nb, ia, ib, za, zb, hs, la, lb, sa, sb]
  refine G_det ?_ Q
  refine lp100 (Y := Q) r2.1 r2.2 _ _ _ 7 0 0 M 4 (by decide) (by decide) hfirst (by decide) (Nat.lt_trans r1.2 (by decide)) ?_
  rw [hd7]
  generalize M * 1152921504606846976 / N = X at *
  generalize M * 1152921504606846976 % N = R at *
  have X63 : X < 9223372036854775808 := Nat.lt_trans hqq (by decide)
  have o0 : l_or (X : Int) 0 = ((X ||| 0 : Nat) : Int) := l_or_nat (b := 0) X63 (by decide)
  have o1 : l_or (X : Int) 1 = ((X ||| 1 : Nat) : Int) := l_or_nat (b := 1) X63 (by decide)
  have fin : ∀ k : Nat, k < 9223372036854775808 → k = (if R = 0 then 0 else 1) → Sp fz (d + 1) 98 [(1, sgn sg), (1, ((X ||| k : Nat) : Int)), (0, pl a - ((lak (dg a) : Nat) : Int) - pl b + ((lak (dg b) : Nat) : Int) - 60)] h (fun r h' => r = cn (FP.ddiv (d_U a) (d_U b)) ∧ h' = h) := by
    intro k hk hk3
    have hor : (X ||| k) < 9223372036854775808 := Nat.or_lt_two_pow (n := 63) X63 hk
    rw [s98 hor hpl, cn_rr hor]
    · exact ⟨rfl, rfl⟩
    · rw [hv, hk3]
      exact hP
  refine G_in ?_
  by_cases l1 : R = 0
  · have i1 : (((R * 1024 : Nat) : Int) = 0) = True := eq_true (by rw [l1]; rfl)
    simp (implicitDefEqProofs := false) only [b100_12, b100_13, b100_14, q100_12, q100_13, q100_14, x_bipush, y_call105, y_call106, y_call98, x_goto_14, x_i2l, x_iadd, x_iconst, x_ifCond_ne_13, x_isub, x_lcmp, x_lload0, x_lload10, x_lload2, x_lload4, x_lload8, x_lor, x_lreturn, klp_0, klp_1, klp_2, klp_3, klp_9, KC_0, KC_1, KC_2, KC_3, KC_4, ne_eq, not_false_eq_true, not_true_eq_false, true_and, and_true, and_self, implies_true, eq_self, true_imp_iff, false_implies, Int.reduceEq, Int.reduceNe, Int.reduceMod, Int.reduceMul, Int.reduceAdd, Int.reduceSub, Int.reduceLT, Int.reduceLE, Nat.reduceAdd, Nat.reduceLeDiff, Nat.reduceLT, Nat.reduceSub, reduceIte, wds_n, wds_0, wds_1, wds_2, wds_3, or_true, true_or, or_false, false_or, or_self, d_pos, d_s1, d_s2, d_s3, d_s4, d_s5, d_s6, d_s7, d_s8, Classical.not_not, s105, s106, la, lb, pw, lc_eq, i1, o0, o1]
    exact fin 0 (by decide) (by rw [if_pos l1])
  · have i1 : (((R * 1024 : Nat) : Int) = 0) = False := eq_false (fun w => l1 (by omega))
    simp (implicitDefEqProofs := false) only [b100_12, b100_13, b100_14, q100_12, q100_13, q100_14, x_bipush, y_call105, y_call106, y_call98, x_goto_14, x_i2l, x_iadd, x_iconst, x_ifCond_ne_13, x_isub, x_lcmp, x_lload0, x_lload10, x_lload2, x_lload4, x_lload8, x_lor, x_lreturn, klp_0, klp_1, klp_2, klp_3, klp_9, KC_0, KC_1, KC_2, KC_3, KC_4, ne_eq, not_false_eq_true, not_true_eq_false, true_and, and_true, and_self, implies_true, eq_self, true_imp_iff, false_implies, Int.reduceEq, Int.reduceNe, Int.reduceMod, Int.reduceMul, Int.reduceAdd, Int.reduceSub, Int.reduceLT, Int.reduceLE, Nat.reduceAdd, Nat.reduceLeDiff, Nat.reduceLT, Nat.reduceSub, reduceIte, wds_n, wds_0, wds_1, wds_2, wds_3, or_true, true_or, or_false, false_or, or_self, d_pos, d_s1, d_s2, d_s3, d_s4, d_s5, d_s6, d_s7, d_s8, Classical.not_not, s105, s106, la, lb, pw, lc_eq, i1, o0, o1]
    exact fin 1 (by decide) (by rw [if_neg l1])
end RL
