/-! REALS, on: printed by wip/tools/gen40.py -/
section RL
variable {fz : Int → Int → Option Int} {d : Nat} {h : HV} {Q : Int → HV → Prop} {a b : Int}
theorem s204 (ha : L64 a) (hb : L64 b) : Sp fz (d + 2) 204 [(1, a), (1, b)] h Q = Q (cn (FP.dmul (d_U a) (d_U b))) h := by
  have hv : FP.Core.val64 (FP.dmul (d_U a) (d_U b)) = FP.Core.round FP.Core.b64 (FP.Core.exactProduct (dv a) (dv b)) := FP.Core.val64_dmul _ _
  have hs := xor_sg ha hb
  generalize hsg : (decide (a < 0) != decide (b < 0)) = sg at *
  have hinf : l_or (sgn sg) 9218868437227405312 = sm sg 9218868437227405312 := or_sm (m := 9218868437227405312) (by decide)
  have dinf : dv (sm sg 9218868437227405312) = .inf sg := by rw [dv_inf (sm_L (by decide)) (mg_sm (by decide)), sm_neg (by decide)]
  by_cases na : 9218868437227405312 < mg a
  · simp (implicitDefEqProofs := false) only [sp204, b204_0, b204_1, n204_2, b204_3, b204_4, b204_5, b204_6, b204_7, b204_8, b204_9, b204_10, b204_11, b204_12, b204_13, b204_14, q204_1, q204_2, q204_3, q204_4, q204_5, q204_6, q204_7, q204_8, q204_9, q204_10, q204_11, q204_12, q204_13, q204_14, x_bipush, y_call101, y_call102, y_call103, y_call104, y_call105, y_call106, y_call98, x_goto_1, x_goto_10, x_goto_12, x_goto_14, x_goto_3, x_goto_4, x_goto_6, x_goto_8, x_i2l, x_iadd, x_iconst, x_ifCond_eq_11, x_ifCond_eq_13, x_ifCond_eq_2, x_ifCond_eq_5, x_ifCond_eq_7, x_ifCond_eq_9, x_ifCond_ne_1, x_ifCond_ne_10, x_ifCond_ne_3, x_ifCond_ne_4, x_ifCond_ne_8, x_iload16, x_istore16, x_isub, x_ladd, x_land, x_lcmp, x_lload0, x_lload10, x_lload12, x_lload14, x_lload2, x_lload4, x_lload6, x_lload8, x_lmul, x_lor, x_lreturn, x_lshl, x_lshr, x_lstore10, x_lstore12, x_lstore14, x_lstore4, x_lstore6, x_lstore8, x_lxor, klp_0, klp_1, klp_2, klp_3, klp_9, KC_0, KC_1, KC_2, KC_3, KC_4, ne_eq, not_false_eq_true, not_true_eq_false, true_and, and_true, and_self, implies_true, eq_self, true_imp_iff, false_implies, Int.reduceEq, Int.reduceNe, Int.reduceMod, Int.reduceMul, Int.reduceAdd, Int.reduceSub, Int.reduceLT, Int.reduceLE, Nat.reduceAdd, Nat.reduceLeDiff, Nat.reduceLT, Nat.reduceSub, reduceIte, wds_n, wds_0, wds_1, wds_2, wds_3, or_true, true_or, or_false, false_or, or_self, d_pos, d_s1, d_s2, d_s3, d_s4, d_s5, d_s6, d_s7, d_s8, Classical.not_not, s101, bz0, na]
    rw [cn_nan (u := FP.dmul (d_U a) (d_U b)) (by rw [hv]; exact prod_nan (.inl (dv_nan ha na)))]
  by_cases nb : 9218868437227405312 < mg b
  · simp (implicitDefEqProofs := false) only [sp204, b204_0, b204_1, n204_2, b204_3, b204_4, b204_5, b204_6, b204_7, b204_8, b204_9, b204_10, b204_11, b204_12, b204_13, b204_14, q204_1, q204_2, q204_3, q204_4, q204_5, q204_6, q204_7, q204_8, q204_9, q204_10, q204_11, q204_12, q204_13, q204_14, x_bipush, y_call101, y_call102, y_call103, y_call104, y_call105, y_call106, y_call98, x_goto_1, x_goto_10, x_goto_12, x_goto_14, x_goto_3, x_goto_4, x_goto_6, x_goto_8, x_i2l, x_iadd, x_iconst, x_ifCond_eq_11, x_ifCond_eq_13, x_ifCond_eq_2, x_ifCond_eq_5, x_ifCond_eq_7, x_ifCond_eq_9, x_ifCond_ne_1, x_ifCond_ne_10, x_ifCond_ne_3, x_ifCond_ne_4, x_ifCond_ne_8, x_iload16, x_istore16, x_isub, x_ladd, x_land, x_lcmp, x_lload0, x_lload10, x_lload12, x_lload14, x_lload2, x_lload4, x_lload6, x_lload8, x_lmul, x_lor, x_lreturn, x_lshl, x_lshr, x_lstore10, x_lstore12, x_lstore14, x_lstore4, x_lstore6, x_lstore8, x_lxor, klp_0, klp_1, klp_2, klp_3, klp_9, KC_0, KC_1, KC_2, KC_3, KC_4, ne_eq, not_false_eq_true, not_true_eq_false, true_and, and_true, and_self, implies_true, eq_self, true_imp_iff, false_implies, Int.reduceEq, Int.reduceNe, Int.reduceMod, Int.reduceMul, Int.reduceAdd, Int.reduceSub, Int.reduceLT, Int.reduceLE, Nat.reduceAdd, Nat.reduceLeDiff, Nat.reduceLT, Nat.reduceSub, reduceIte, wds_n, wds_0, wds_1, wds_2, wds_3, or_true, true_or, or_false, false_or, or_self, d_pos, d_s1, d_s2, d_s3, d_s4, d_s5, d_s6, d_s7, d_s8, Classical.not_not, s101, bz0, na, nb]
    rw [cn_nan (u := FP.dmul (d_U a) (d_U b)) (by rw [hv]; exact prod_nan (.inr (dv_nan hb nb)))]
  by_cases ia : mg a = 9218868437227405312
  · by_cases zb : mg b = 0
    · have za : ¬ mg a = 0 := by omega
      simp (implicitDefEqProofs := false) only [sp204, b204_0, b204_1, n204_2, b204_3, b204_4, b204_5, b204_6, b204_7, b204_8, b204_9, b204_10, b204_11, b204_12, b204_13, b204_14, q204_1, q204_2, q204_3, q204_4, q204_5, q204_6, q204_7, q204_8, q204_9, q204_10, q204_11, q204_12, q204_13, q204_14, x_bipush, y_call101, y_call102, y_call103, y_call104, y_call105, y_call106, y_call98, x_goto_1, x_goto_10, x_goto_12, x_goto_14, x_goto_3, x_goto_4, x_goto_6, x_goto_8, x_i2l, x_iadd, x_iconst, x_ifCond_eq_11, x_ifCond_eq_13, x_ifCond_eq_2, x_ifCond_eq_5, x_ifCond_eq_7, x_ifCond_eq_9, x_ifCond_ne_1, x_ifCond_ne_10, x_ifCond_ne_3, x_ifCond_ne_4, x_ifCond_ne_8, x_iload16, x_istore16, x_isub, x_ladd, x_land, x_lcmp, x_lload0, x_lload10, x_lload12, x_lload14, x_lload2, x_lload4, x_lload6, x_lload8, x_lmul, x_lor, x_lreturn, x_lshl, x_lshr, x_lstore10, x_lstore12, x_lstore14, x_lstore4, x_lstore6, x_lstore8, x_lxor, klp_0, klp_1, klp_2, klp_3, klp_9, KC_0, KC_1, KC_2, KC_3, KC_4, ne_eq, not_false_eq_true, not_true_eq_false, true_and, and_true, and_self, implies_true, eq_self, true_imp_iff, false_implies, Int.reduceEq, Int.reduceNe, Int.reduceMod, Int.reduceMul, Int.reduceAdd, Int.reduceSub, Int.reduceLT, Int.reduceLE, Nat.reduceAdd, Nat.reduceLeDiff, Nat.reduceLT, Nat.reduceSub, reduceIte, wds_n, wds_0, wds_1, wds_2, wds_3, or_true, true_or, or_false, false_or, or_self, d_pos, d_s1, d_s2, d_s3, d_s4, d_s5, d_s6, d_s7, d_s8, Classical.not_not, s101, s102, s103, bz0, na, nb, eq_true ia, za, eq_true zb, hs]
      rw [cn_nan (u := FP.dmul (d_U a) (d_U b))]
      rw [hv, dv_inf ha ia, dv_zero hb zb]
      rfl
    · have za : ¬ mg a = 0 := by omega
      simp (implicitDefEqProofs := false) only [sp204, b204_0, b204_1, n204_2, b204_3, b204_4, b204_5, b204_6, b204_7, b204_8, b204_9, b204_10, b204_11, b204_12, b204_13, b204_14, q204_1, q204_2, q204_3, q204_4, q204_5, q204_6, q204_7, q204_8, q204_9, q204_10, q204_11, q204_12, q204_13, q204_14, x_bipush, y_call101, y_call102, y_call103, y_call104, y_call105, y_call106, y_call98, x_goto_1, x_goto_10, x_goto_12, x_goto_14, x_goto_3, x_goto_4, x_goto_6, x_goto_8, x_i2l, x_iadd, x_iconst, x_ifCond_eq_11, x_ifCond_eq_13, x_ifCond_eq_2, x_ifCond_eq_5, x_ifCond_eq_7, x_ifCond_eq_9, x_ifCond_ne_1, x_ifCond_ne_10, x_ifCond_ne_3, x_ifCond_ne_4, x_ifCond_ne_8, x_iload16, x_istore16, x_isub, x_ladd, x_land, x_lcmp, x_lload0, x_lload10, x_lload12, x_lload14, x_lload2, x_lload4, x_lload6, x_lload8, x_lmul, x_lor, x_lreturn, x_lshl, x_lshr, x_lstore10, x_lstore12, x_lstore14, x_lstore4, x_lstore6, x_lstore8, x_lxor, klp_0, klp_1, klp_2, klp_3, klp_9, KC_0, KC_1, KC_2, KC_3, KC_4, ne_eq, not_false_eq_true, not_true_eq_false, true_and, and_true, and_self, implies_true, eq_self, true_imp_iff, false_implies, Int.reduceEq, Int.reduceNe, Int.reduceMod, Int.reduceMul, Int.reduceAdd, Int.reduceSub, Int.reduceLT, Int.reduceLE, Nat.reduceAdd, Nat.reduceLeDiff, Nat.reduceLT, Nat.reduceSub, reduceIte, wds_n, wds_0, wds_1, wds_2, wds_3, or_true, true_or, or_false, false_or, or_self, d_pos, d_s1, d_s2, d_s3, d_s4, d_s5, d_s6, d_s7, d_s8, Classical.not_not, s101, s102, s103, bz0, na, nb, eq_true ia, za, zb, hs, hinf]
      refine congrArg (fun z => Q z h) (cn_of (u := FP.dmul (d_U a) (d_U b)) (sm_L (m := 9218868437227405312) (by decide)) ?_ ?_)
      · rw [hv, dinf, dv_inf ha ia]
        by_cases ib : mg b = 9218868437227405312
        · rw [dv_inf hb ib]
          simp (implicitDefEqProofs := false) only [FP.Core.exactProduct, FP.Core.round, hsg]
        · rw [dv_fin hb (by omega)]
          simp (implicitDefEqProofs := false) only [FP.Core.exactProduct]
          rw [if_neg (fun q => zb ((dg_0 b).mp q)), hsg]
          rfl
      · rw [dinf]; exact FP.Core.Datum.noConfusion
  by_cases ib : mg b = 9218868437227405312
  · have zb : ¬ mg b = 0 := by omega
    by_cases za : mg a = 0
    · simp (implicitDefEqProofs := false) only [sp204, b204_0, b204_1, n204_2, b204_3, b204_4, b204_5, b204_6, b204_7, b204_8, b204_9, b204_10, b204_11, b204_12, b204_13, b204_14, q204_1, q204_2, q204_3, q204_4, q204_5, q204_6, q204_7, q204_8, q204_9, q204_10, q204_11, q204_12, q204_13, q204_14, x_bipush, y_call101, y_call102, y_call103, y_call104, y_call105, y_call106, y_call98, x_goto_1, x_goto_10, x_goto_12, x_goto_14, x_goto_3, x_goto_4, x_goto_6, x_goto_8, x_i2l, x_iadd, x_iconst, x_ifCond_eq_11, x_ifCond_eq_13, x_ifCond_eq_2, x_ifCond_eq_5, x_ifCond_eq_7, x_ifCond_eq_9, x_ifCond_ne_1, x_ifCond_ne_10, x_ifCond_ne_3, x_ifCond_ne_4, x_ifCond_ne_8, x_iload16, x_istore16, x_isub, x_ladd, x_land, x_lcmp, x_lload0, x_lload10, x_lload12, x_lload14, x_lload2, x_lload4, x_lload6, x_lload8, x_lmul, x_lor, x_lreturn, x_lshl, x_lshr, x_lstore10, x_lstore12, x_lstore14, x_lstore4, x_lstore6, x_lstore8, x_lxor, klp_0, klp_1, klp_2, klp_3, klp_9, KC_0, KC_1, KC_2, KC_3, KC_4, ne_eq, not_false_eq_true, not_true_eq_false, true_and, and_true, and_self, implies_true, eq_self, true_imp_iff, false_implies, Int.reduceEq, Int.reduceNe, Int.reduceMod, Int.reduceMul, Int.reduceAdd, Int.reduceSub, Int.reduceLT, Int.reduceLE, Nat.reduceAdd, Nat.reduceLeDiff, Nat.reduceLT, Nat.reduceSub, reduceIte, wds_n, wds_0, wds_1, wds_2, wds_3, or_true, true_or, or_false, false_or, or_self, d_pos, d_s1, d_s2, d_s3, d_s4, d_s5, d_s6, d_s7, d_s8, Classical.not_not, s101, s102, s103, bz0, na, nb, ia, eq_true ib, eq_true za, zb, hs]
      rw [cn_nan (u := FP.dmul (d_U a) (d_U b))]
      rw [hv, dv_inf hb ib, dv_zero ha za]
      rfl
    · simp (implicitDefEqProofs := false) only [sp204, b204_0, b204_1, n204_2, b204_3, b204_4, b204_5, b204_6, b204_7, b204_8, b204_9, b204_10, b204_11, b204_12, b204_13, b204_14, q204_1, q204_2, q204_3, q204_4, q204_5, q204_6, q204_7, q204_8, q204_9, q204_10, q204_11, q204_12, q204_13, q204_14, x_bipush, y_call101, y_call102, y_call103, y_call104, y_call105, y_call106, y_call98, x_goto_1, x_goto_10, x_goto_12, x_goto_14, x_goto_3, x_goto_4, x_goto_6, x_goto_8, x_i2l, x_iadd, x_iconst, x_ifCond_eq_11, x_ifCond_eq_13, x_ifCond_eq_2, x_ifCond_eq_5, x_ifCond_eq_7, x_ifCond_eq_9, x_ifCond_ne_1, x_ifCond_ne_10, x_ifCond_ne_3, x_ifCond_ne_4, x_ifCond_ne_8, x_iload16, x_istore16, x_isub, x_ladd, x_land, x_lcmp, x_lload0, x_lload10, x_lload12, x_lload14, x_lload2, x_lload4, x_lload6, x_lload8, x_lmul, x_lor, x_lreturn, x_lshl, x_lshr, x_lstore10, x_lstore12, x_lstore14, x_lstore4, x_lstore6, x_lstore8, x_lxor, klp_0, klp_1, klp_2, klp_3, klp_9, KC_0, KC_1, KC_2, KC_3, KC_4, ne_eq, not_false_eq_true, not_true_eq_false, true_and, and_true, and_self, implies_true, eq_self, true_imp_iff, false_implies, Int.reduceEq, Int.reduceNe, Int.reduceMod, Int.reduceMul, Int.reduceAdd, Int.reduceSub, Int.reduceLT, Int.reduceLE, Nat.reduceAdd, Nat.reduceLeDiff, Nat.reduceLT, Nat.reduceSub, reduceIte, wds_n, wds_0, wds_1, wds_2, wds_3, or_true, true_or, or_false, false_or, or_self, d_pos, d_s1, d_s2, d_s3, d_s4, d_s5, d_s6, d_s7, d_s8, Classical.not_not, s101, s102, s103, bz0, na, nb, ia, eq_true ib, za, zb, hs, hinf]
      refine congrArg (fun z => Q z h) (cn_of (u := FP.dmul (d_U a) (d_U b)) (sm_L (m := 9218868437227405312) (by decide)) ?_ ?_)
      · rw [hv, dinf, dv_inf hb ib, dv_fin ha (by omega)]
        simp (implicitDefEqProofs := false) only [FP.Core.exactProduct]
        rw [if_neg (fun q => za ((dg_0 a).mp q)), hsg]
        rfl
      · rw [dinf]; exact FP.Core.Datum.noConfusion
  have e1 : dv a = _ := dv_fin ha (by omega)
  have e2 : dv b = _ := dv_fin hb (by omega)
  rw [e1, e2] at hv
  simp (implicitDefEqProofs := false) only [FP.Core.exactProduct, hsg] at hv
  have hv2 : FP.Core.val64 (FP.dmul (d_U a) (d_U b)) = rr sg (dg a * dg b) 1 (pl a + pl b) := hv
  have zero : dg a * dg b = 0 → sgn sg = cn (FP.dmul (d_U a) (d_U b)) := by
    intro q
    rw [q] at hv2
    have := cn_rr (m := 0) (by decide) hv2
    rw [if_pos rfl] at this
    exact this
  by_cases za : mg a = 0
  · simp (implicitDefEqProofs := false) only [sp204, b204_0, b204_1, n204_2, b204_3, b204_4, b204_5, b204_6, b204_7, b204_8, b204_9, b204_10, b204_11, b204_12, b204_13, b204_14, q204_1, q204_2, q204_3, q204_4, q204_5, q204_6, q204_7, q204_8, q204_9, q204_10, q204_11, q204_12, q204_13, q204_14, x_bipush, y_call101, y_call102, y_call103, y_call104, y_call105, y_call106, y_call98, x_goto_1, x_goto_10, x_goto_12, x_goto_14, x_goto_3, x_goto_4, x_goto_6, x_goto_8, x_i2l, x_iadd, x_iconst, x_ifCond_eq_11, x_ifCond_eq_13, x_ifCond_eq_2, x_ifCond_eq_5, x_ifCond_eq_7, x_ifCond_eq_9, x_ifCond_ne_1, x_ifCond_ne_10, x_ifCond_ne_3, x_ifCond_ne_4, x_ifCond_ne_8, x_iload16, x_istore16, x_isub, x_ladd, x_land, x_lcmp, x_lload0, x_lload10, x_lload12, x_lload14, x_lload2, x_lload4, x_lload6, x_lload8, x_lmul, x_lor, x_lreturn, x_lshl, x_lshr, x_lstore10, x_lstore12, x_lstore14, x_lstore4, x_lstore6, x_lstore8, x_lxor, klp_0, klp_1, klp_2, klp_3, klp_9, KC_0, KC_1, KC_2, KC_3, KC_4, ne_eq, not_false_eq_true, not_true_eq_false, true_and, and_true, and_self, implies_true, eq_self, true_imp_iff, false_implies, Int.reduceEq, Int.reduceNe, Int.reduceMod, Int.reduceMul, Int.reduceAdd, Int.reduceSub, Int.reduceLT, Int.reduceLE, Nat.reduceAdd, Nat.reduceLeDiff, Nat.reduceLT, Nat.reduceSub, reduceIte, wds_n, wds_0, wds_1, wds_2, wds_3, or_true, true_or, or_false, false_or, or_self, d_pos, d_s1, d_s2, d_s3, d_s4, d_s5, d_s6, d_s7, d_s8, Classical.not_not, s101, s102, s103, bz0, na, nb, ia, ib, eq_true za, hs]
    rw [zero (by rw [(dg_0 a).mpr za, Nat.zero_mul])]
  by_cases zb : mg b = 0
  · simp (implicitDefEqProofs := false) only [sp204, b204_0, b204_1, n204_2, b204_3, b204_4, b204_5, b204_6, b204_7, b204_8, b204_9, b204_10, b204_11, b204_12, b204_13, b204_14, q204_1, q204_2, q204_3, q204_4, q204_5, q204_6, q204_7, q204_8, q204_9, q204_10, q204_11, q204_12, q204_13, q204_14, x_bipush, y_call101, y_call102, y_call103, y_call104, y_call105, y_call106, y_call98, x_goto_1, x_goto_10, x_goto_12, x_goto_14, x_goto_3, x_goto_4, x_goto_6, x_goto_8, x_i2l, x_iadd, x_iconst, x_ifCond_eq_11, x_ifCond_eq_13, x_ifCond_eq_2, x_ifCond_eq_5, x_ifCond_eq_7, x_ifCond_eq_9, x_ifCond_ne_1, x_ifCond_ne_10, x_ifCond_ne_3, x_ifCond_ne_4, x_ifCond_ne_8, x_iload16, x_istore16, x_isub, x_ladd, x_land, x_lcmp, x_lload0, x_lload10, x_lload12, x_lload14, x_lload2, x_lload4, x_lload6, x_lload8, x_lmul, x_lor, x_lreturn, x_lshl, x_lshr, x_lstore10, x_lstore12, x_lstore14, x_lstore4, x_lstore6, x_lstore8, x_lxor, klp_0, klp_1, klp_2, klp_3, klp_9, KC_0, KC_1, KC_2, KC_3, KC_4, ne_eq, not_false_eq_true, not_true_eq_false, true_and, and_true, and_self, implies_true, eq_self, true_imp_iff, false_implies, Int.reduceEq, Int.reduceNe, Int.reduceMod, Int.reduceMul, Int.reduceAdd, Int.reduceSub, Int.reduceLT, Int.reduceLE, Nat.reduceAdd, Nat.reduceLeDiff, Nat.reduceLT, Nat.reduceSub, reduceIte, wds_n, wds_0, wds_1, wds_2, wds_3, or_true, true_or, or_false, false_or, or_self, d_pos, d_s1, d_s2, d_s3, d_s4, d_s5, d_s6, d_s7, d_s8, Classical.not_not, s101, s102, s103, bz0, na, nb, ia, ib, za, eq_true zb, hs]
    rw [zero (by rw [(dg_0 b).mpr zb, Nat.mul_zero])]
  have a0 := dg_pos za
  have b0 := dg_pos zb
  have k1 := dg_lt a
  have k2 := dg_lt b
  have hP := mul_rr (s := sg) (q := pl a) (r := pl b) a0 k1 b0 k2
  have r1 := lak_rng a0 k1
  have r2 := lak_rng b0 k2
  have pw := pl_mul (pl_rng a) (pl_rng b) (lak_i (dg a)) (lak_i (dg b))
  have sa := shl_lk a0 k1
  have sb := shl_lk b0 k2
  have la := lack_lk a0 k1
  have lb := lack_lk b0 k2
  have hpl : -4000 ≤ pl a - ((lak (dg a) : Nat) : Int) + pl b - ((lak (dg b) : Nat) : Int) + 44 ∧ pl a - ((lak (dg a) : Nat) : Int) + pl b - ((lak (dg b) : Nat) : Int) + 44 ≤ 4000 := by
    have := pl_rng a
    have := pl_rng b
    have := lkr (dg a)
    have := lkr (dg b)
    omega
  generalize hM : dg a * 2 ^ lak (dg a) = M at *
  generalize hN : dg b * 2 ^ lak (dg b) = N at *
  have M63 : M < 9223372036854775808 := Nat.lt_trans r1.2 (by decide)
  have N63 : N < 9223372036854775808 := Nat.lt_trans r2.2 (by decide)
  obtain ⟨A, D, E, q1, q2, q3, q4, q5, q6, q7, q8, q9, q10, q11, q12⟩ := mul_parts r1.2 r2.2
  rw [q8] at hP
  have D63 : D < 9223372036854775808 := Nat.lt_trans q5 (by decide)
  have E63 : E < 9223372036854775808 := Nat.lt_trans q6 (by decide)
  have c1 := wmul (x := M % 134217728) (y := N % 134217728) (by rw [q3]; exact E63)
  have c2 := wmul (x := M / 134217728) (y := N % 134217728) q10
  have c3 := wmul (x := M % 134217728) (y := N / 134217728) q11
  have c4 := wmul (x := M / 134217728) (y := N / 134217728) (by rw [q1]; exact Nat.lt_trans q4 (by decide))
  have c5 := shr27 E63
  have c6 := wadd q12
  have c6' := wadd (x := M / 134217728 * (N % 134217728) + M % 134217728 * (N / 134217728)) (y := E / 134217728) (by rw [← q3, q2]; exact D63)
  rw [← q3, q2, q3] at c6'
  rw [q3] at c1
  rw [q1] at c4
  have c7 := shl10 q4
  have c8 := shr17 D63
  have c9 := wadd q7
  have c10 := and17 D63
  have c11 := and27 E63
  have o0 : l_or ((A * 1024 + D / 131072 : Nat) : Int) 0 = (((A * 1024 + D / 131072) ||| 0 : Nat) : Int) := l_or_nat (b := 0) q7 (by decide)
  have o1 : l_or ((A * 1024 + D / 131072 : Nat) : Int) 1 = (((A * 1024 + D / 131072) ||| 1 : Nat) : Int) := l_or_nat (b := 1) q7 (by decide)
  have fin : ∀ k : Nat, k < 9223372036854775808 → k = (if M * N % 17592186044416 = 0 then 0 else 1) → Sp fz (d + 1) 98 [(1, sgn sg), (1, (((A * 1024 + D / 131072) ||| k : Nat) : Int)), (0, pl a - ((lak (dg a) : Nat) : Int) + pl b - ((lak (dg b) : Nat) : Int) + 44)] h Q = Q (cn (FP.dmul (d_U a) (d_U b))) h := by
    intro k hk hk3
    have hor : ((A * 1024 + D / 131072) ||| k) < 9223372036854775808 := Nat.or_lt_two_pow (n := 63) q7 hk
    rw [s98 hor hpl, cn_rr hor]
    rw [hv2, hP, hk3]
  by_cases l1 : D % 131072 = 0
  · have i1 : (((D % 131072 : Nat) : Int) = 0) = True := eq_true (by rw [l1]; rfl)
    by_cases l2 : E % 134217728 = 0
    · have i2 : (((E % 134217728 : Nat) : Int) = 0) = True := eq_true (by rw [l2]; rfl)
      simp (implicitDefEqProofs := false) only [sp204, b204_0, b204_1, n204_2, b204_3, b204_4, b204_5, b204_6, b204_7, b204_8, b204_9, b204_10, b204_11, b204_12, b204_13, b204_14, q204_1, q204_2, q204_3, q204_4, q204_5, q204_6, q204_7, q204_8, q204_9, q204_10, q204_11, q204_12, q204_13, q204_14, x_bipush, y_call101, y_call102, y_call103, y_call104, y_call105, y_call106, y_call98, x_goto_1, x_goto_10, x_goto_12, x_goto_14, x_goto_3, x_goto_4, x_goto_6, x_goto_8, x_i2l, x_iadd, x_iconst, x_ifCond_eq_11, x_ifCond_eq_13, x_ifCond_eq_2, x_ifCond_eq_5, x_ifCond_eq_7, x_ifCond_eq_9, x_ifCond_ne_1, x_ifCond_ne_10, x_ifCond_ne_3, x_ifCond_ne_4, x_ifCond_ne_8, x_iload16, x_istore16, x_isub, x_ladd, x_land, x_lcmp, x_lload0, x_lload10, x_lload12, x_lload14, x_lload2, x_lload4, x_lload6, x_lload8, x_lmul, x_lor, x_lreturn, x_lshl, x_lshr, x_lstore10, x_lstore12, x_lstore14, x_lstore4, x_lstore6, x_lstore8, x_lxor, klp_0, klp_1, klp_2, klp_3, klp_9, KC_0, KC_1, KC_2, KC_3, KC_4, ne_eq, not_false_eq_true, not_true_eq_false, true_and, and_true, and_self, implies_true, eq_self, true_imp_iff, false_implies, Int.reduceEq, Int.reduceNe, Int.reduceMod, Int.reduceMul, Int.reduceAdd, Int.reduceSub, Int.reduceLT, Int.reduceLE, Nat.reduceAdd, Nat.reduceLeDiff, Nat.reduceLT, Nat.reduceSub, reduceIte, wds_n, wds_0, wds_1, wds_2, wds_3, or_true, true_or, or_false, false_or, or_self, d_pos, d_s1, d_s2, d_s3, d_s4, d_s5, d_s6, d_s7, d_s8, Classical.not_not, s101, s102, s103, s104, s105, s106, bz0, na, nb, ia, ib, za, zb, hs, la, lb, sa, sb, pw, and27 M63, and27 N63, shr27 M63, shr27 N63, c1, c2, c3, c4, c5, c6, c6', c7, c8, c9, c10, c11, lc_eq, i1, i2, o0, o1]
      exact fin 0 (by decide) (by rw [if_pos (q9.mpr ⟨l1, l2⟩)])
    · have i2 : (((E % 134217728 : Nat) : Int) = 0) = False := eq_false (fun w => l2 (Int.ofNat_eq_zero.mp w))
      simp (implicitDefEqProofs := false) only [sp204, b204_0, b204_1, n204_2, b204_3, b204_4, b204_5, b204_6, b204_7, b204_8, b204_9, b204_10, b204_11, b204_12, b204_13, b204_14, q204_1, q204_2, q204_3, q204_4, q204_5, q204_6, q204_7, q204_8, q204_9, q204_10, q204_11, q204_12, q204_13, q204_14, x_bipush, y_call101, y_call102, y_call103, y_call104, y_call105, y_call106, y_call98, x_goto_1, x_goto_10, x_goto_12, x_goto_14, x_goto_3, x_goto_4, x_goto_6, x_goto_8, x_i2l, x_iadd, x_iconst, x_ifCond_eq_11, x_ifCond_eq_13, x_ifCond_eq_2, x_ifCond_eq_5, x_ifCond_eq_7, x_ifCond_eq_9, x_ifCond_ne_1, x_ifCond_ne_10, x_ifCond_ne_3, x_ifCond_ne_4, x_ifCond_ne_8, x_iload16, x_istore16, x_isub, x_ladd, x_land, x_lcmp, x_lload0, x_lload10, x_lload12, x_lload14, x_lload2, x_lload4, x_lload6, x_lload8, x_lmul, x_lor, x_lreturn, x_lshl, x_lshr, x_lstore10, x_lstore12, x_lstore14, x_lstore4, x_lstore6, x_lstore8, x_lxor, klp_0, klp_1, klp_2, klp_3, klp_9, KC_0, KC_1, KC_2, KC_3, KC_4, ne_eq, not_false_eq_true, not_true_eq_false, true_and, and_true, and_self, implies_true, eq_self, true_imp_iff, false_implies, Int.reduceEq, Int.reduceNe, Int.reduceMod, Int.reduceMul, Int.reduceAdd, Int.reduceSub, Int.reduceLT, Int.reduceLE, Nat.reduceAdd, Nat.reduceLeDiff, Nat.reduceLT, Nat.reduceSub, reduceIte, wds_n, wds_0, wds_1, wds_2, wds_3, or_true, true_or, or_false, false_or, or_self, d_pos, d_s1, d_s2, d_s3, d_s4, d_s5, d_s6, d_s7, d_s8, Classical.not_not, s101, s102, s103, s104, s105, s106, bz0, na, nb, ia, ib, za, zb, hs, la, lb, sa, sb, pw, and27 M63, and27 N63, shr27 M63, shr27 N63, c1, c2, c3, c4, c5, c6, c6', c7, c8, c9, c10, c11, lc_eq, i1, i2, o0, o1]
      exact fin 1 (by decide) (by rw [if_neg (fun w => l2 (q9.mp w).2)])
  · have i1 : (((D % 131072 : Nat) : Int) = 0) = False := eq_false (fun w => l1 (Int.ofNat_eq_zero.mp w))
    simp (implicitDefEqProofs := false) only [sp204, b204_0, b204_1, n204_2, b204_3, b204_4, b204_5, b204_6, b204_7, b204_8, b204_9, b204_10, b204_11, b204_12, b204_13, b204_14, q204_1, q204_2, q204_3, q204_4, q204_5, q204_6, q204_7, q204_8, q204_9, q204_10, q204_11, q204_12, q204_13, q204_14, x_bipush, y_call101, y_call102, y_call103, y_call104, y_call105, y_call106, y_call98, x_goto_1, x_goto_10, x_goto_12, x_goto_14, x_goto_3, x_goto_4, x_goto_6, x_goto_8, x_i2l, x_iadd, x_iconst, x_ifCond_eq_11, x_ifCond_eq_13, x_ifCond_eq_2, x_ifCond_eq_5, x_ifCond_eq_7, x_ifCond_eq_9, x_ifCond_ne_1, x_ifCond_ne_10, x_ifCond_ne_3, x_ifCond_ne_4, x_ifCond_ne_8, x_iload16, x_istore16, x_isub, x_ladd, x_land, x_lcmp, x_lload0, x_lload10, x_lload12, x_lload14, x_lload2, x_lload4, x_lload6, x_lload8, x_lmul, x_lor, x_lreturn, x_lshl, x_lshr, x_lstore10, x_lstore12, x_lstore14, x_lstore4, x_lstore6, x_lstore8, x_lxor, klp_0, klp_1, klp_2, klp_3, klp_9, KC_0, KC_1, KC_2, KC_3, KC_4, ne_eq, not_false_eq_true, not_true_eq_false, true_and, and_true, and_self, implies_true, eq_self, true_imp_iff, false_implies, Int.reduceEq, Int.reduceNe, Int.reduceMod, Int.reduceMul, Int.reduceAdd, Int.reduceSub, Int.reduceLT, Int.reduceLE, Nat.reduceAdd, Nat.reduceLeDiff, Nat.reduceLT, Nat.reduceSub, reduceIte, wds_n, wds_0, wds_1, wds_2, wds_3, or_true, true_or, or_false, false_or, or_self, d_pos, d_s1, d_s2, d_s3, d_s4, d_s5, d_s6, d_s7, d_s8, Classical.not_not, s101, s102, s103, s104, s105, s106, bz0, na, nb, ia, ib, za, zb, hs, la, lb, sa, sb, pw, and27 M63, and27 N63, shr27 M63, shr27 N63, c1, c2, c3, c4, c5, c6, c6', c7, c8, c9, c10, c11, lc_eq, i1, o0, o1]
    exact fin 1 (by decide) (by rw [if_neg (fun w => l1 (q9.mp w).1)])
end RL
