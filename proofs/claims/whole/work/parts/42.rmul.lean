/-! THE PURE SIDE, 16: products, quotients, remainders: printed by wip/tools/gen40.py -/
section RL
variable {fz : Int → Int → Option Int} {d : Nat} {h : HV} {Q : Int → HV → Prop} {a b : Int}
theorem lack_lk {c : Nat} (h0 : 0 < c) (hc : c < 9007199254740992) : 53 - ((wd c : Nat) : Int) = ((lak c : Nat) : Int) := by
  have l3 : c.log2 < 53 := (Nat.log2_lt (by omega)).mpr hc
  unfold wd lak
  rw [if_neg (by omega)]
  omega
theorem shl_lk {c : Nat} (h0 : 0 < c) (hc : c < 9007199254740992) : l_shl (c : Int) ((lak c : Nat) : Int) = ((c * 2 ^ lak c : Nat) : Int) := by
  have h1 := lak_rng h0 hc
  have h2 : lak c < 64 := by unfold lak; omega
  rw [l_shl_eq (by omega) h2, ← Int.natCast_mul, w64_id (by omega)]
theorem lkr (c : Nat) : lak c ≤ 52 := by unfold lak; omega
theorem dv_zero (ha : L64 a) (hz : mg a = 0) : dv a = .fin (decide (a < 0)) 0 (-1074) := by
  rw [dv_fin ha (by omega), (dg_0 a).mpr hz]
  have : pl a = -1074 := by
    unfold pl
    rw [ef_mg, hz]
    rfl
  rw [this]
theorem prod_nan {x y : FP.Core.Datum} (h : x = .nan ∨ y = .nan) : FP.Core.round FP.Core.b64 (FP.Core.exactProduct x y) = .nan := by
  rcases h with e | e
  · rw [e]; rfl
  · rw [e]; cases x <;> rfl
theorem quot_nan {x y : FP.Core.Datum} (h : x = .nan ∨ y = .nan) : FP.Core.quotient FP.Core.b64 x y = .nan := by
  rcases h with e | e
  · rw [e]; rfl
  · rw [e]; cases x <;> rfl
theorem rem_nan {x y : FP.Core.Datum} (h : x = .nan ∨ y = .nan) : FP.Core.round FP.Core.b64 (FP.Core.exactRemainder x y) = .nan := by
  rcases h with e | e
  · rw [e]; rfl
  · rw [e]; cases x <;> rfl
/-- the digits of a product, from four halves -/
theorem halves (M N : Nat) : M * N = (M / 134217728 * (N / 134217728) * 1024 + (M / 134217728 * (N % 134217728) + M % 134217728 * (N / 134217728) + M % 134217728 * (N % 134217728) / 134217728) / 131072) * 17592186044416 + ((M / 134217728 * (N % 134217728) + M % 134217728 * (N / 134217728) + M % 134217728 * (N % 134217728) / 134217728) % 131072 * 134217728 + M % 134217728 * (N % 134217728) % 134217728) := by
  have hM := Nat.div_add_mod M 134217728
  have hN := Nat.div_add_mod N 134217728
  generalize M / 134217728 = p at *
  generalize M % 134217728 = q at *
  generalize N / 134217728 = r at *
  generalize N % 134217728 = s at *
  have e : M * N = p * r * 18014398509481984 + (p * s + q * r) * 134217728 + q * s := by
    rw [← hM, ← hN, Nat.add_mul, Nat.mul_add, Nat.mul_add, Nat.add_mul]
    have e1 : 134217728 * p * (134217728 * r) = p * r * 18014398509481984 := by
      rw [show 18014398509481984 = 134217728 * 134217728 from rfl]
      ac_rfl
    have e2 : 134217728 * p * s = p * s * 134217728 := by ac_rfl
    have e3 : q * (134217728 * r) = q * r * 134217728 := by ac_rfl
    rw [e1, e2, e3]
    omega
  rw [e]
  generalize p * r = X
  generalize p * s + q * r = Y
  generalize q * s = Z
  omega
theorem s204 (ha : L64 a) (hb : L64 b) : Sp fz (d + 2) 204 [(1, a), (1, b)] h Q = Q (cn (FP.dmul (d_U a) (d_U b))) h := by
  have hv : FP.Core.val64 (FP.dmul (d_U a) (d_U b)) = FP.Core.round FP.Core.b64 (FP.Core.exactProduct (dv a) (dv b)) := FP.Core.val64_dmul _ _
  have hs := xor_sg ha hb
  generalize hsg : (decide (a < 0) != decide (b < 0)) = sg at *
  have hinf : l_or (sgn sg) 9218868437227405312 = sm sg 9218868437227405312 := or_sm (m := 9218868437227405312) (by decide)
  have dinf : dv (sm sg 9218868437227405312) = .inf sg := by rw [dv_inf (sm_L (by decide)) (mg_sm (by decide)), sm_neg (by decide)]
  by_cases na : 9218868437227405312 < mg a
  · simp (implicitDefEqProofs := false) only [sp204, b204_0, b204_1, n204_2, b204_3, b204_4, b204_5, b204_6, b204_7, b204_8, b204_9, b204_10, b204_11, b204_12, b204_13, b204_14, q204_1, q204_2, q204_3, q204_4, q204_5, q204_6, q204_7, q204_8, q204_9, q204_10, q204_11, q204_12, q204_13, q204_14, x_bipush, y_call101, y_call102, y_call103, y_call104, y_call105, y_call106, y_call98, x_goto_1, x_goto_10, x_goto_12, x_goto_14, x_goto_3, x_goto_4, x_goto_6, x_goto_8, x_i2l, x_iadd, x_iconst, x_ifCond_eq_11, x_ifCond_eq_13, x_ifCond_eq_2, x_ifCond_eq_5, x_ifCond_eq_7, x_ifCond_eq_9, x_ifCond_ne_1, x_ifCond_ne_10, x_ifCond_ne_3, x_ifCond_ne_4, x_ifCond_ne_8, x_iload16, x_istore16, x_isub, x_ladd, x_land, x_lcmp, x_lload0, x_lload10, x_lload12, x_lload14, x_lload2, x_lload4, x_lload6, x_lload8, x_lmul, x_lor, x_lreturn, x_lshl, x_lshr, x_lstore10, x_lstore12, x_lstore14, x_lstore4, x_lstore6, x_lstore8, x_lxor, klp_0, klp_1, klp_2, klp_3, klp_9, KC_0, KC_1, KC_2, KC_3, KC_4, ne_eq, not_false_eq_true, not_true_eq_false, true_and, and_true, and_self, implies_true, eq_self, true_imp_iff, false_implies, Int.reduceEq, Int.reduceNe, Int.reduceMod, Int.reduceMul, Int.reduceAdd, Int.reduceSub, Int.reduceLT, Int.reduceLE, Nat.reduceAdd, Nat.reduceLeDiff, Nat.reduceLT, Nat.reduceSub, reduceIte, wds_n, wds_0, wds_1, wds_2, wds_3, or_true, true_or, or_false, false_or, or_self, d_pos, d_s1, d_s2, d_s3, d_s4, d_s5, d_s6, d_s7, d_s8, Classical.not_not, s101, bz0, na]
    rw [cn_nan (u := FP.dmul (d_U a) (d_U b)) (by rw [hv]; exact prod_nan (.inl (dv_nan ha na)))]
  by_cases nb : 9218868437227405312 < mg b
  · simp (implicitDefEqProofs := false) only [sp204, b204_0, b204_1, n204_2, b204_3, b204_4, b204_5, b204_6, b204_7, b204_8, b204_9, b204_10, b204_11, b204_12, b204_13, b204_14, q204_1, q204_2, q204_3, q204_4, q204_5, q204_6, q204_7, q204_8, q204_9, q204_10, q204_11, q204_12, q204_13, q204_14, x_bipush, y_call101, y_call102, y_call103, y_call104, y_call105, y_call106, y_call98, x_goto_1, x_goto_10, x_goto_12, x_goto_14, x_goto_3, x_goto_4, x_goto_6, x_goto_8, x_i2l, x_iadd, x_iconst, x_ifCond_eq_11, x_ifCond_eq_13, x_ifCond_eq_2, x_ifCond_eq_5, x_ifCond_eq_7, x_ifCond_eq_9, x_ifCond_ne_1, x_ifCond_ne_10, x_ifCond_ne_3, x_ifCond_ne_4, x_ifCond_ne_8, x_iload16, x_istore16, x_isub, x_ladd, x_land, x_lcmp, x_lload0, x_lload10, x_lload12, x_lload14, x_lload2, x_lload4, x_lload6, x_lload8, x_lmul, x_lor, x_lreturn, x_lshl, x_lshr, x_lstore10, x_lstore12, x_lstore14, x_lstore4, x_lstore6, x_lstore8, x_lxor, klp_0, klp_1, klp_2, klp_3, klp_9, KC_0, KC_1, KC_2, KC_3, KC_4, ne_eq, not_false_eq_true, not_true_eq_false, true_and, and_true, and_self, implies_true, eq_self, true_imp_iff, false_implies, Int.reduceEq, Int.reduceNe, Int.reduceMod, Int.reduceMul, Int.reduceAdd, Int.reduceSub, Int.reduceLT, Int.reduceLE, Nat.reduceAdd, Nat.reduceLeDiff, Nat.reduceLT, Nat.reduceSub, reduceIte, wds_n, wds_0, wds_1, wds_2, wds_3, or_true, true_or, or_false, false_or, or_self, d_pos, d_s1, d_s2, d_s3, d_s4, d_s5, d_s6, d_s7, d_s8, Classical.not_not, s101, bz0, na, nb]
    rw [cn_nan (u := FP.dmul (d_U a) (d_U b)) (by rw [hv]; exact prod_nan (.inr (dv_nan hb nb)))]
  by_cases ia : mg a = 9218868437227405312
  · by_cases zb : mg b = 0
    · have za : ¬ mg a = 0 := by omega
      simp (implicitDefEqProofs := false) only [sp204, b204_0, b204_1, n204_2, b204_3, b204_4, b204_5, b204_6, b204_7, b204_8, b204_9, b204_10, b204_11, b204_12, b204_13, b204_14, q204_1, q204_2, q204_3, q204_4, q204_5, q204_6, q204_7, q204_8, q204_9, q204_10, q204_11, q204_12, q204_13, q204_14, x_bipush, y_call101, y_call102, y_call103, y_call104, y_call105, y_call106, y_call98, x_goto_1, x_goto_10, x_goto_12, x_goto_14, x_goto_3, x_goto_4, x_goto_6, x_goto_8, x_i2l, x_iadd, x_iconst, x_ifCond_eq_11, x_ifCond_eq_13, x_ifCond_eq_2, x_ifCond_eq_5, x_ifCond_eq_7, x_ifCond_eq_9, x_ifCond_ne_1, x_ifCond_ne_10, x_ifCond_ne_3, x_ifCond_ne_4, x_ifCond_ne_8, x_iload16, x_istore16, x_isub, x_ladd, x_land, x_lcmp, x_lload0, x_lload10, x_lload12, x_lload14, x_lload2, x_lload4, x_lload6, x_lload8, x_lmul, x_lor, x_lreturn, x_lshl, x_lshr, x_lstore10, x_lstore12, x_lstore14, x_lstore4, x_lstore6, x_lstore8, x_lxor, klp_0, klp_1, klp_2, klp_3, klp_9, KC_0, KC_1, KC_2, KC_3, KC_4, ne_eq, not_false_eq_true, not_true_eq_false, true_and, and_true, and_self, implies_true, eq_self, true_imp_iff, false_implies, Int.reduceEq, Int.reduceNe, Int.reduceMod, Int.reduceMul, Int.reduceAdd, Int.reduceSub, Int.reduceLT, Int.reduceLE, Nat.reduceAdd, Nat.reduceLeDiff, Nat.reduceLT, Nat.reduceSub, reduceIte, wds_n, wds_0, wds_1, wds_2, wds_3, or_true, true_or, or_false, false_or, or_self, d_pos, d_s1, d_s2, d_s3, d_s4, d_s5, d_s6, d_s7, d_s8, Classical.not_not, s101, s102, s103, bz0, na, nb, ia, za, zb, hs]
      rw [cn_nan (u := FP.dmul (d_U a) (d_U b))]
      rw [hv, dv_inf ha ia, dv_zero hb zb]
      rfl
    · have za : ¬ mg a = 0 := by omega
      simp (implicitDefEqProofs := false) only [sp204, b204_0, b204_1, n204_2, b204_3, b204_4, b204_5, b204_6, b204_7, b204_8, b204_9, b204_10, b204_11, b204_12, b204_13, b204_14, q204_1, q204_2, q204_3, q204_4, q204_5, q204_6, q204_7, q204_8, q204_9, q204_10, q204_11, q204_12, q204_13, q204_14, x_bipush, y_call101, y_call102, y_call103, y_call104, y_call105, y_call106, y_call98, x_goto_1, x_goto_10, x_goto_12, x_goto_14, x_goto_3, x_goto_4, x_goto_6, x_goto_8, x_i2l, x_iadd, x_iconst, x_ifCond_eq_11, x_ifCond_eq_13, x_ifCond_eq_2, x_ifCond_eq_5, x_ifCond_eq_7, x_ifCond_eq_9, x_ifCond_ne_1, x_ifCond_ne_10, x_ifCond_ne_3, x_ifCond_ne_4, x_ifCond_ne_8, x_iload16, x_istore16, x_isub, x_ladd, x_land, x_lcmp, x_lload0, x_lload10, x_lload12, x_lload14, x_lload2, x_lload4, x_lload6, x_lload8, x_lmul, x_lor, x_lreturn, x_lshl, x_lshr, x_lstore10, x_lstore12, x_lstore14, x_lstore4, x_lstore6, x_lstore8, x_lxor, klp_0, klp_1, klp_2, klp_3, klp_9, KC_0, KC_1, KC_2, KC_3, KC_4, ne_eq, not_false_eq_true, not_true_eq_false, true_and, and_true, and_self, implies_true, eq_self, true_imp_iff, false_implies, Int.reduceEq, Int.reduceNe, Int.reduceMod, Int.reduceMul, Int.reduceAdd, Int.reduceSub, Int.reduceLT, Int.reduceLE, Nat.reduceAdd, Nat.reduceLeDiff, Nat.reduceLT, Nat.reduceSub, reduceIte, wds_n, wds_0, wds_1, wds_2, wds_3, or_true, true_or, or_false, false_or, or_self, d_pos, d_s1, d_s2, d_s3, d_s4, d_s5, d_s6, d_s7, d_s8, Classical.not_not, s101, s102, s103, bz0, na, nb, ia, za, zb, hs, hinf]
      refine congrArg (fun z => Q z h) (cn_of (u := FP.dmul (d_U a) (d_U b)) (sm_L (by decide)) ?_ ?_)
      · rw [hv, dinf, dv_inf ha ia]
        by_cases ib : mg b = 9218868437227405312
        · rw [dv_inf hb ib]
          simp (implicitDefEqProofs := false) only [FP.Core.exactProduct, FP.Core.round, hsg]
        · rw [dv_fin hb (by omega)]
          simp (implicitDefEqProofs := false) only [FP.Core.exactProduct]
          rw [if_neg (fun q => zb ((dg_0 b).mp q)), hsg]
          rfl
      · rw [dinf]; exact FP.Core.Datum.noConfusion
  by_cases ib : mg b = 9218868437227405312
  · have zb : ¬ mg b = 0 := by omega
    by_cases za : mg a = 0
    · simp (implicitDefEqProofs := false) only [sp204, b204_0, b204_1, n204_2, b204_3, b204_4, b204_5, b204_6, b204_7, b204_8, b204_9, b204_10, b204_11, b204_12, b204_13, b204_14, q204_1, q204_2, q204_3, q204_4, q204_5, q204_6, q204_7, q204_8, q204_9, q204_10, q204_11, q204_12, q204_13, q204_14, x_bipush, y_call101, y_call102, y_call103, y_call104, y_call105, y_call106, y_call98, x_goto_1, x_goto_10, x_goto_12, x_goto_14, x_goto_3, x_goto_4, x_goto_6, x_goto_8, x_i2l, x_iadd, x_iconst, x_ifCond_eq_11, x_ifCond_eq_13, x_ifCond_eq_2, x_ifCond_eq_5, x_ifCond_eq_7, x_ifCond_eq_9, x_ifCond_ne_1, x_ifCond_ne_10, x_ifCond_ne_3, x_ifCond_ne_4, x_ifCond_ne_8, x_iload16, x_istore16, x_isub, x_ladd, x_land, x_lcmp, x_lload0, x_lload10, x_lload12, x_lload14, x_lload2, x_lload4, x_lload6, x_lload8, x_lmul, x_lor, x_lreturn, x_lshl, x_lshr, x_lstore10, x_lstore12, x_lstore14, x_lstore4, x_lstore6, x_lstore8, x_lxor, klp_0, klp_1, klp_2, klp_3, klp_9, KC_0, KC_1, KC_2, KC_3, KC_4, ne_eq, not_false_eq_true, not_true_eq_false, true_and, and_true, and_self, implies_true, eq_self, true_imp_iff, false_implies, Int.reduceEq, Int.reduceNe, Int.reduceMod, Int.reduceMul, Int.reduceAdd, Int.reduceSub, Int.reduceLT, Int.reduceLE, Nat.reduceAdd, Nat.reduceLeDiff, Nat.reduceLT, Nat.reduceSub, reduceIte, wds_n, wds_0, wds_1, wds_2, wds_3, or_true, true_or, or_false, false_or, or_self, d_pos, d_s1, d_s2, d_s3, d_s4, d_s5, d_s6, d_s7, d_s8, Classical.not_not, s101, s102, s103, bz0, na, nb, ia, ib, za, zb, hs]
      rw [cn_nan (u := FP.dmul (d_U a) (d_U b))]
      rw [hv, dv_inf hb ib, dv_zero ha za]
      rfl
    · simp (implicitDefEqProofs := false) only [sp204, b204_0, b204_1, n204_2, b204_3, b204_4, b204_5, b204_6, b204_7, b204_8, b204_9, b204_10, b204_11, b204_12, b204_13, b204_14, q204_1, q204_2, q204_3, q204_4, q204_5, q204_6, q204_7, q204_8, q204_9, q204_10, q204_11, q204_12, q204_13, q204_14, x_bipush, y_call101, y_call102, y_call103, y_call104, y_call105, y_call106, y_call98, x_goto_1, x_goto_10, x_goto_12, x_goto_14, x_goto_3, x_goto_4, x_goto_6, x_goto_8, x_i2l, x_iadd, x_iconst, x_ifCond_eq_11, x_ifCond_eq_13, x_ifCond_eq_2, x_ifCond_eq_5, x_ifCond_eq_7, x_ifCond_eq_9, x_ifCond_ne_1, x_ifCond_ne_10, x_ifCond_ne_3, x_ifCond_ne_4, x_ifCond_ne_8, x_iload16, x_istore16, x_isub, x_ladd, x_land, x_lcmp, x_lload0, x_lload10, x_lload12, x_lload14, x_lload2, x_lload4, x_lload6, x_lload8, x_lmul, x_lor, x_lreturn, x_lshl, x_lshr, x_lstore10, x_lstore12, x_lstore14, x_lstore4, x_lstore6, x_lstore8, x_lxor, klp_0, klp_1, klp_2, klp_3, klp_9, KC_0, KC_1, KC_2, KC_3, KC_4, ne_eq, not_false_eq_true, not_true_eq_false, true_and, and_true, and_self, implies_true, eq_self, true_imp_iff, false_implies, Int.reduceEq, Int.reduceNe, Int.reduceMod, Int.reduceMul, Int.reduceAdd, Int.reduceSub, Int.reduceLT, Int.reduceLE, Nat.reduceAdd, Nat.reduceLeDiff, Nat.reduceLT, Nat.reduceSub, reduceIte, wds_n, wds_0, wds_1, wds_2, wds_3, or_true, true_or, or_false, false_or, or_self, d_pos, d_s1, d_s2, d_s3, d_s4, d_s5, d_s6, d_s7, d_s8, Classical.not_not, s101, s102, s103, bz0, na, nb, ia, ib, za, zb, hs, hinf]
      refine congrArg (fun z => Q z h) (cn_of (u := FP.dmul (d_U a) (d_U b)) (sm_L (by decide)) ?_ ?_)
      · rw [hv, dinf, dv_inf hb ib, dv_fin ha (by omega)]
        simp (implicitDefEqProofs := false) only [FP.Core.exactProduct]
        rw [if_neg (fun q => za ((dg_0 a).mp q)), hsg]
        rfl
      · rw [dinf]; exact FP.Core.Datum.noConfusion
  have e1 : dv a = _ := dv_fin ha (by omega)
  have e2 : dv b = _ := dv_fin hb (by omega)
  rw [e1, e2] at hv
  simp (implicitDefEqProofs := false) only [FP.Core.exactProduct, hsg] at hv
  have hv2 : FP.Core.val64 (FP.dmul (d_U a) (d_U b)) = rr sg (dg a * dg b) 1 (pl a + pl b) := hv
  have zero : dg a * dg b = 0 → sgn sg = cn (FP.dmul (d_U a) (d_U b)) := by
    intro q
    rw [q] at hv2
    have := cn_rr (m := 0) (by decide) hv2
    rw [if_pos rfl] at this
    exact this
  by_cases za : mg a = 0
  · simp (implicitDefEqProofs := false) only [sp204, b204_0, b204_1, n204_2, b204_3, b204_4, b204_5, b204_6, b204_7, b204_8, b204_9, b204_10, b204_11, b204_12, b204_13, b204_14, q204_1, q204_2, q204_3, q204_4, q204_5, q204_6, q204_7, q204_8, q204_9, q204_10, q204_11, q204_12, q204_13, q204_14, x_bipush, y_call101, y_call102, y_call103, y_call104, y_call105, y_call106, y_call98, x_goto_1, x_goto_10, x_goto_12, x_goto_14, x_goto_3, x_goto_4, x_goto_6, x_goto_8, x_i2l, x_iadd, x_iconst, x_ifCond_eq_11, x_ifCond_eq_13, x_ifCond_eq_2, x_ifCond_eq_5, x_ifCond_eq_7, x_ifCond_eq_9, x_ifCond_ne_1, x_ifCond_ne_10, x_ifCond_ne_3, x_ifCond_ne_4, x_ifCond_ne_8, x_iload16, x_istore16, x_isub, x_ladd, x_land, x_lcmp, x_lload0, x_lload10, x_lload12, x_lload14, x_lload2, x_lload4, x_lload6, x_lload8, x_lmul, x_lor, x_lreturn, x_lshl, x_lshr, x_lstore10, x_lstore12, x_lstore14, x_lstore4, x_lstore6, x_lstore8, x_lxor, klp_0, klp_1, klp_2, klp_3, klp_9, KC_0, KC_1, KC_2, KC_3, KC_4, ne_eq, not_false_eq_true, not_true_eq_false, true_and, and_true, and_self, implies_true, eq_self, true_imp_iff, false_implies, Int.reduceEq, Int.reduceNe, Int.reduceMod, Int.reduceMul, Int.reduceAdd, Int.reduceSub, Int.reduceLT, Int.reduceLE, Nat.reduceAdd, Nat.reduceLeDiff, Nat.reduceLT, Nat.reduceSub, reduceIte, wds_n, wds_0, wds_1, wds_2, wds_3, or_true, true_or, or_false, false_or, or_self, d_pos, d_s1, d_s2, d_s3, d_s4, d_s5, d_s6, d_s7, d_s8, Classical.not_not, s101, s102, s103, bz0, na, nb, ia, ib, za, hs]
    rw [zero (by rw [(dg_0 a).mpr za, Nat.zero_mul])]
  by_cases zb : mg b = 0
  · simp (implicitDefEqProofs := false) only [sp204, b204_0, b204_1, n204_2, b204_3, b204_4, b204_5, b204_6, b204_7, b204_8, b204_9, b204_10, b204_11, b204_12, b204_13, b204_14, q204_1, q204_2, q204_3, q204_4, q204_5, q204_6, q204_7, q204_8, q204_9, q204_10, q204_11, q204_12, q204_13, q204_14, x_bipush, y_call101, y_call102, y_call103, y_call104, y_call105, y_call106, y_call98, x_goto_1, x_goto_10, x_goto_12, x_goto_14, x_goto_3, x_goto_4, x_goto_6, x_goto_8, x_i2l, x_iadd, x_iconst, x_ifCond_eq_11, x_ifCond_eq_13, x_ifCond_eq_2, x_ifCond_eq_5, x_ifCond_eq_7, x_ifCond_eq_9, x_ifCond_ne_1, x_ifCond_ne_10, x_ifCond_ne_3, x_ifCond_ne_4, x_ifCond_ne_8, x_iload16, x_istore16, x_isub, x_ladd, x_land, x_lcmp, x_lload0, x_lload10, x_lload12, x_lload14, x_lload2, x_lload4, x_lload6, x_lload8, x_lmul, x_lor, x_lreturn, x_lshl, x_lshr, x_lstore10, x_lstore12, x_lstore14, x_lstore4, x_lstore6, x_lstore8, x_lxor, klp_0, klp_1, klp_2, klp_3, klp_9, KC_0, KC_1, KC_2, KC_3, KC_4, ne_eq, not_false_eq_true, not_true_eq_false, true_and, and_true, and_self, implies_true, eq_self, true_imp_iff, false_implies, Int.reduceEq, Int.reduceNe, Int.reduceMod, Int.reduceMul, Int.reduceAdd, Int.reduceSub, Int.reduceLT, Int.reduceLE, Nat.reduceAdd, Nat.reduceLeDiff, Nat.reduceLT, Nat.reduceSub, reduceIte, wds_n, wds_0, wds_1, wds_2, wds_3, or_true, true_or, or_false, false_or, or_self, d_pos, d_s1, d_s2, d_s3, d_s4, d_s5, d_s6, d_s7, d_s8, Classical.not_not, s101, s102, s103, bz0, na, nb, ia, ib, za, zb, hs]
    rw [zero (by rw [(dg_0 b).mpr zb, Nat.mul_zero])]
  have a0 : 0 < dg a := by have := dg_0 a; omega
  have b0 : 0 < dg b := by have := dg_0 b; omega
  have k1 := dg_lt a
  have k2 := dg_lt b
  have k3 := pl_rng a
  have k4 := pl_rng b
  have k5 := lkr (dg a)
  have k6 := lkr (dg b)
  have hP := mul_rr (s := sg) (q := pl a) (r := pl b) a0 k1 b0 k2
  have r1 := lak_rng a0 k1
  have r2 := lak_rng b0 k2
  have pw : w32 (w32 (w32 (w32 (pl a - ((lak (dg a) : Nat) : Int)) + pl b) - ((lak (dg b) : Nat) : Int)) + 44) = pl a - lak (dg a) + pl b - lak (dg b) + 44 := by
    rw [w32_id (by omega), w32_id (by omega), w32_id (by omega), w32_id (by omega)]
  generalize hM : dg a * 2 ^ lak (dg a) = M at *
  generalize hN : dg b * 2 ^ lak (dg b) = N at *
  have hH := halves M N
  have mh : M / 134217728 < 67108864 := by omega
  have nh : N / 134217728 < 67108864 := by omega
  have ml : M % 134217728 < 134217728 := Nat.mod_lt _ (by decide)
  have nl : N % 134217728 < 134217728 := Nat.mod_lt _ (by decide)
  have aM : l_and (M : Int) 134217727 = ((M % 134217728 : Nat) : Int) := and_low (n := 27) (by omega) (by decide)
  have aN : l_and (N : Int) 134217727 = ((N % 134217728 : Nat) : Int) := and_low (n := 27) (by omega) (by decide)
  have sM : l_shr (M : Int) 27 = ((M / 134217728 : Nat) : Int) := by
    have := l_shr_eq (x := (M : Int)) (n := 27) (by omega) (by decide)
    rw [show ((27 : Nat) : Int) = 27 from rfl] at this
    rw [this]
    omega
  have sN : l_shr (N : Int) 27 = ((N / 134217728 : Nat) : Int) := by
    have := l_shr_eq (x := (N : Int)) (n := 27) (by omega) (by decide)
    rw [show ((27 : Nat) : Int) = 27 from rfl] at this
    rw [this]
    omega
  generalize M / 134217728 = p at *
  generalize M % 134217728 = q at *
  generalize N / 134217728 = r at *
  generalize N % 134217728 = s at *
  have b1 : p * r ≤ 67108864 * 67108864 := Nat.mul_le_mul (by omega) (by omega)
  have b2 : p * s ≤ 67108864 * 134217728 := Nat.mul_le_mul (by omega) (by omega)
  have b3 : q * r ≤ 134217728 * 67108864 := Nat.mul_le_mul (by omega) (by omega)
  have b4 : q * s ≤ 134217728 * 134217728 := Nat.mul_le_mul (by omega) (by omega)
  have c1 : w64 ((q : Int) * (s : Int)) = ((q * s : Nat) : Int) := by rw [← Int.natCast_mul, w64_id (by omega)]
  have c2 : w64 ((p : Int) * (s : Int)) = ((p * s : Nat) : Int) := by rw [← Int.natCast_mul, w64_id (by omega)]
  have c3 : w64 ((q : Int) * (r : Int)) = ((q * r : Nat) : Int) := by rw [← Int.natCast_mul, w64_id (by omega)]
  have c4 : w64 ((p : Int) * (r : Int)) = ((p * r : Nat) : Int) := by rw [← Int.natCast_mul, w64_id (by omega)]
  generalize p * r = A at *
  generalize p * s = B at *
  generalize q * r = C at *
  generalize q * s = E at *
  have c5 : l_shr (E : Int) 27 = ((E / 134217728 : Nat) : Int) := by
    have := l_shr_eq (x := (E : Int)) (n := 27) (by omega) (by decide)
    rw [show ((27 : Nat) : Int) = 27 from rfl] at this
    rw [this]
    omega
  have c6 : w64 (w64 ((B : Int) + (C : Int)) + ((E / 134217728 : Nat) : Int)) = ((B + C + E / 134217728 : Nat) : Int) := by
    rw [w64_id (x := (B : Int) + (C : Int)) (by omega), w64_id (by omega)]
    omega
  have c7 : l_shl (A : Int) 10 = ((A * 1024 : Nat) : Int) := by
    have := l_shl_eq (x := (A : Int)) (n := 10) (by omega) (by decide)
    rw [show ((10 : Nat) : Int) = 10 from rfl] at this
    rw [this, show (2 : Nat) ^ 10 = 1024 from rfl, w64_id (by omega)]
    omega
  generalize hD : B + C + E / 134217728 = D at *
  have c8 : l_shr (D : Int) 17 = ((D / 131072 : Nat) : Int) := by
    have := l_shr_eq (x := (D : Int)) (n := 17) (by omega) (by decide)
    rw [show ((17 : Nat) : Int) = 17 from rfl] at this
    rw [this]
    omega
  have c9 : w64 (((A * 1024 : Nat) : Int) + ((D / 131072 : Nat) : Int)) = ((A * 1024 + D / 131072 : Nat) : Int) := by rw [w64_id (by omega)]; omega
  have c10 : l_and (D : Int) 131071 = ((D % 131072 : Nat) : Int) := and_low (n := 17) (by omega) (by decide)
  have c11 : l_and (E : Int) 134217727 = ((E % 134217728 : Nat) : Int) := and_low (n := 27) (by omega) (by decide)
  have hdiv : M * N / 17592186044416 = A * 1024 + D / 131072 := by omega
  have hmod : M * N % 17592186044416 = D % 131072 * 134217728 + E % 134217728 := by omega
  rw [hdiv, hmod] at hP
  have hx : A * 1024 + D / 131072 < 9223372036854775808 := by omega
  have o0 : l_or ((A * 1024 + D / 131072 : Nat) : Int) 0 = (((A * 1024 + D / 131072) ||| 0 : Nat) : Int) := l_or_nat (b := 0) hx (by decide)
  have o1 : l_or ((A * 1024 + D / 131072 : Nat) : Int) 1 = (((A * 1024 + D / 131072) ||| 1 : Nat) : Int) := l_or_nat (b := 1) hx (by decide)
  have fin : ∀ k : Nat, k ≤ 1 → (k = 0 ↔ D % 131072 * 134217728 + E % 134217728 = 0) → Sp fz (d + 1) 98 [(1, sgn sg), (1, (((A * 1024 + D / 131072) ||| k : Nat) : Int)), (0, pl a - lak (dg a) + pl b - lak (dg b) + 44)] h Q = Q (cn (FP.dmul (d_U a) (d_U b))) h := by
    intro k hk hk2
    have hk3 : k = (if D % 131072 * 134217728 + E % 134217728 = 0 then 0 else 1) := by split <;> omega
    have hor : ((A * 1024 + D / 131072) ||| k) < 9223372036854775808 := Nat.or_lt_two_pow (n := 63) hx (by omega)
    rw [s98 hor (by omega), cn_rr hor]
    rw [hv2, hP, hk3]
  by_cases l1 : D % 131072 = 0
  · by_cases l2 : E % 134217728 = 0
    · have i1 : (((D % 131072 : Nat) : Int) = 0) = True := eq_true (by omega)
      have i2 : (((E % 134217728 : Nat) : Int) = 0) = True := eq_true (by omega)
      simp (implicitDefEqProofs := false) only [sp204, b204_0, b204_1, n204_2, b204_3, b204_4, b204_5, b204_6, b204_7, b204_8, b204_9, b204_10, b204_11, b204_12, b204_13, b204_14, q204_1, q204_2, q204_3, q204_4, q204_5, q204_6, q204_7, q204_8, q204_9, q204_10, q204_11, q204_12, q204_13, q204_14, x_bipush, y_call101, y_call102, y_call103, y_call104, y_call105, y_call106, y_call98, x_goto_1, x_goto_10, x_goto_12, x_goto_14, x_goto_3, x_goto_4, x_goto_6, x_goto_8, x_i2l, x_iadd, x_iconst, x_ifCond_eq_11, x_ifCond_eq_13, x_ifCond_eq_2, x_ifCond_eq_5, x_ifCond_eq_7, x_ifCond_eq_9, x_ifCond_ne_1, x_ifCond_ne_10, x_ifCond_ne_3, x_ifCond_ne_4, x_ifCond_ne_8, x_iload16, x_istore16, x_isub, x_ladd, x_land, x_lcmp, x_lload0, x_lload10, x_lload12, x_lload14, x_lload2, x_lload4, x_lload6, x_lload8, x_lmul, x_lor, x_lreturn, x_lshl, x_lshr, x_lstore10, x_lstore12, x_lstore14, x_lstore4, x_lstore6, x_lstore8, x_lxor, klp_0, klp_1, klp_2, klp_3, klp_9, KC_0, KC_1, KC_2, KC_3, KC_4, ne_eq, not_false_eq_true, not_true_eq_false, true_and, and_true, and_self, implies_true, eq_self, true_imp_iff, false_implies, Int.reduceEq, Int.reduceNe, Int.reduceMod, Int.reduceMul, Int.reduceAdd, Int.reduceSub, Int.reduceLT, Int.reduceLE, Nat.reduceAdd, Nat.reduceLeDiff, Nat.reduceLT, Nat.reduceSub, reduceIte, wds_n, wds_0, wds_1, wds_2, wds_3, or_true, true_or, or_false, false_or, or_self, d_pos, d_s1, d_s2, d_s3, d_s4, d_s5, d_s6, d_s7, d_s8, Classical.not_not, s101, s102, s103, s104, s105, s106, bz0, na, nb, ia, ib, za, zb, hs, lack_lk a0 k1, lack_lk b0 k2, shl_lk a0 k1, shl_lk b0 k2, hM, hN, pw, aM, aN, sM, sN, c1, c2, c3, c4, c5, c6, c7, c8, c9, c10, c11, lc_eq, i1, i2, o0, o1]
      exact fin 0 (by omega) (by omega)
    · have i1 : (((D % 131072 : Nat) : Int) = 0) = True := eq_true (by omega)
      have i2 : (((E % 134217728 : Nat) : Int) = 0) = False := eq_false (by omega)
      simp (implicitDefEqProofs := false) only [sp204, b204_0, b204_1, n204_2, b204_3, b204_4, b204_5, b204_6, b204_7, b204_8, b204_9, b204_10, b204_11, b204_12, b204_13, b204_14, q204_1, q204_2, q204_3, q204_4, q204_5, q204_6, q204_7, q204_8, q204_9, q204_10, q204_11, q204_12, q204_13, q204_14, x_bipush, y_call101, y_call102, y_call103, y_call104, y_call105, y_call106, y_call98, x_goto_1, x_goto_10, x_goto_12, x_goto_14, x_goto_3, x_goto_4, x_goto_6, x_goto_8, x_i2l, x_iadd, x_iconst, x_ifCond_eq_11, x_ifCond_eq_13, x_ifCond_eq_2, x_ifCond_eq_5, x_ifCond_eq_7, x_ifCond_eq_9, x_ifCond_ne_1, x_ifCond_ne_10, x_ifCond_ne_3, x_ifCond_ne_4, x_ifCond_ne_8, x_iload16, x_istore16, x_isub, x_ladd, x_land, x_lcmp, x_lload0, x_lload10, x_lload12, x_lload14, x_lload2, x_lload4, x_lload6, x_lload8, x_lmul, x_lor, x_lreturn, x_lshl, x_lshr, x_lstore10, x_lstore12, x_lstore14, x_lstore4, x_lstore6, x_lstore8, x_lxor, klp_0, klp_1, klp_2, klp_3, klp_9, KC_0, KC_1, KC_2, KC_3, KC_4, ne_eq, not_false_eq_true, not_true_eq_false, true_and, and_true, and_self, implies_true, eq_self, true_imp_iff, false_implies, Int.reduceEq, Int.reduceNe, Int.reduceMod, Int.reduceMul, Int.reduceAdd, Int.reduceSub, Int.reduceLT, Int.reduceLE, Nat.reduceAdd, Nat.reduceLeDiff, Nat.reduceLT, Nat.reduceSub, reduceIte, wds_n, wds_0, wds_1, wds_2, wds_3, or_true, true_or, or_false, false_or, or_self, d_pos, d_s1, d_s2, d_s3, d_s4, d_s5, d_s6, d_s7, d_s8, Classical.not_not, s101, s102, s103, s104, s105, s106, bz0, na, nb, ia, ib, za, zb, hs, lack_lk a0 k1, lack_lk b0 k2, shl_lk a0 k1, shl_lk b0 k2, hM, hN, pw, aM, aN, sM, sN, c1, c2, c3, c4, c5, c6, c7, c8, c9, c10, c11, lc_eq, i1, i2, o0, o1]
      exact fin 1 (by omega) (by omega)
  · have i1 : (((D % 131072 : Nat) : Int) = 0) = False := eq_false (by omega)
    simp (implicitDefEqProofs := false) only [sp204, b204_0, b204_1, n204_2, b204_3, b204_4, b204_5, b204_6, b204_7, b204_8, b204_9, b204_10, b204_11, b204_12, b204_13, b204_14, q204_1, q204_2, q204_3, q204_4, q204_5, q204_6, q204_7, q204_8, q204_9, q204_10, q204_11, q204_12, q204_13, q204_14, x_bipush, y_call101, y_call102, y_call103, y_call104, y_call105, y_call106, y_call98, x_goto_1, x_goto_10, x_goto_12, x_goto_14, x_goto_3, x_goto_4, x_goto_6, x_goto_8, x_i2l, x_iadd, x_iconst, x_ifCond_eq_11, x_ifCond_eq_13, x_ifCond_eq_2, x_ifCond_eq_5, x_ifCond_eq_7, x_ifCond_eq_9, x_ifCond_ne_1, x_ifCond_ne_10, x_ifCond_ne_3, x_ifCond_ne_4, x_ifCond_ne_8, x_iload16, x_istore16, x_isub, x_ladd, x_land, x_lcmp, x_lload0, x_lload10, x_lload12, x_lload14, x_lload2, x_lload4, x_lload6, x_lload8, x_lmul, x_lor, x_lreturn, x_lshl, x_lshr, x_lstore10, x_lstore12, x_lstore14, x_lstore4, x_lstore6, x_lstore8, x_lxor, klp_0, klp_1, klp_2, klp_3, klp_9, KC_0, KC_1, KC_2, KC_3, KC_4, ne_eq, not_false_eq_true, not_true_eq_false, true_and, and_true, and_self, implies_true, eq_self, true_imp_iff, false_implies, Int.reduceEq, Int.reduceNe, Int.reduceMod, Int.reduceMul, Int.reduceAdd, Int.reduceSub, Int.reduceLT, Int.reduceLE, Nat.reduceAdd, Nat.reduceLeDiff, Nat.reduceLT, Nat.reduceSub, reduceIte, wds_n, wds_0, wds_1, wds_2, wds_3, or_true, true_or, or_false, false_or, or_self, d_pos, d_s1, d_s2, d_s3, d_s4, d_s5, d_s6, d_s7, d_s8, Classical.not_not, s101, s102, s103, s104, s105, s106, bz0, na, nb, ia, ib, za, zb, hs, lack_lk a0 k1, lack_lk b0 k2, shl_lk a0 k1, shl_lk b0 k2, hM, hN, pw, aM, aN, sM, sN, c1, c2, c3, c4, c5, c6, c7, c8, c9, c10, c11, lc_eq, i1, o0, o1]
    exact fin 1 (by omega) (by omega)

end RL
