/-! REALS, on: printed by wip/tools/gen40.py -/
section RL
variable {fz : Int → Int → Option Int} {d : Nat} {h : HV} {Q : Int → HV → Prop} {a b : Int}
theorem w64_nat {Y : Nat} (h : Y < 9223372036854775808) : w64 (Y : Int) = (Y : Int) := w64_id (by omega)
theorem lp205 {b : Nat} {x y i4 : Int} (hb0 : 0 < b) (hb2 : b < 9007199254740992) : ∀ (k n m : Nat) (l : Int), n = l.toNat → -20 ≤ l → n ≤ 10 * k → n ≤ 100000 → m < b →
    (∀ l' : Int, G fz d 205 8 [(1, x), (9, 0), (1, y), (9, 0), (0, i4), (1, (b : Int)), (9, 0), (1, ((m * 2 ^ n % b : Nat) : Int)), (9, 0), (0, l')] [] h Q) →
    G fz d 205 7 [(1, x), (9, 0), (1, y), (9, 0), (0, i4), (1, (b : Int)), (9, 0), (1, (m : Int)), (9, 0), (0, l)] [] h Q
  | 0, n, m, l, hn, hl, hk, h5, hm, g => by
    have : n = 0 := by omega
    subst this
    rw [Nat.pow_zero, Nat.mul_one, Nat.mod_eq_of_lt hm] at g
    have f1 : (l ≤ 0) = True := eq_true (by omega)
    refine G_in ?_
    simp (implicitDefEqProofs := false) only [b205_7, x_goto_7, x_iconst, x_ifCond_le_8, x_iinc9, x_iload9, x_imin, x_lload5, x_lload7, x_lrem, x_lshl, x_lstore7, klp_0, klp_1, klp_2, klp_3, klp_9, KC_0, KC_1, KC_2, KC_3, KC_4, ne_eq, not_false_eq_true, not_true_eq_false, true_and, and_true, and_self, implies_true, eq_self, true_imp_iff, false_implies, Int.reduceEq, Int.reduceNe, Int.reduceMod, Int.reduceMul, Int.reduceAdd, Int.reduceSub, Int.reduceLT, Int.reduceLE, Nat.reduceAdd, Nat.reduceLeDiff, Nat.reduceLT, Nat.reduceSub, reduceIte, wds_n, wds_0, wds_1, wds_2, wds_3, or_true, true_or, or_false, false_or, or_self, d_pos, d_s1, d_s2, d_s3, d_s4, d_s5, d_s6, d_s7, d_s8, Classical.not_not, f1]
    exact g l
  | k + 1, n, m, l, hn, hl, hk, h5, hm, g => by
    by_cases h0 : l ≤ 0
    · have : n = 0 := by omega
      subst this
      rw [Nat.pow_zero, Nat.mul_one, Nat.mod_eq_of_lt hm] at g
      have f1 : (l ≤ 0) = True := eq_true h0
      refine G_in ?_
      simp (implicitDefEqProofs := false) only [b205_7, x_goto_7, x_iconst, x_ifCond_le_8, x_iinc9, x_iload9, x_imin, x_lload5, x_lload7, x_lrem, x_lshl, x_lstore7, klp_0, klp_1, klp_2, klp_3, klp_9, KC_0, KC_1, KC_2, KC_3, KC_4, ne_eq, not_false_eq_true, not_true_eq_false, true_and, and_true, and_self, implies_true, eq_self, true_imp_iff, false_implies, Int.reduceEq, Int.reduceNe, Int.reduceMod, Int.reduceMul, Int.reduceAdd, Int.reduceSub, Int.reduceLT, Int.reduceLE, Nat.reduceAdd, Nat.reduceLeDiff, Nat.reduceLT, Nat.reduceSub, reduceIte, wds_n, wds_0, wds_1, wds_2, wds_3, or_true, true_or, or_false, false_or, or_self, d_pos, d_s1, d_s2, d_s3, d_s4, d_s5, d_s6, d_s7, d_s8, Classical.not_not, f1]
      exact g l
    · have f1 : (l ≤ 0) = False := eq_false h0
      have f2 : ((b : Int) = 0) = False := eq_false (by omega)
      obtain ⟨j, hj⟩ : ∃ j : Nat, min l 10 = j := ⟨(min l 10).toNat, by omega⟩
      have hj10 : j ≤ 10 := by omega
      have p10 := p2_le hj10
      rw [show (2 : Nat) ^ 10 = 1024 from rfl] at p10
      have mj : m * 2 ^ j ≤ 9007199254740991 * 1024 := Nat.mul_le_mul (by omega) p10
      have e1 : l_shl (m : Int) (j : Int) = ((m * 2 ^ j : Nat) : Int) := by
        rw [l_shl_eq (by omega) (by omega), ← Int.natCast_mul]
        exact w64_nat (Nat.lt_of_le_of_lt mj (by decide))
      have e2 : Int.tmod ((m * 2 ^ j : Nat) : Int) (b : Int) = ((m * 2 ^ j % b : Nat) : Int) := rfl
      refine G_in ?_
      simp (implicitDefEqProofs := false) only [b205_7, x_goto_7, x_iconst, x_ifCond_le_8, x_iinc9, x_iload9, x_imin, x_lload5, x_lload7, x_lrem, x_lshl, x_lstore7, klp_0, klp_1, klp_2, klp_3, klp_9, KC_0, KC_1, KC_2, KC_3, KC_4, ne_eq, not_false_eq_true, not_true_eq_false, true_and, and_true, and_self, implies_true, eq_self, true_imp_iff, false_implies, Int.reduceEq, Int.reduceNe, Int.reduceMod, Int.reduceMul, Int.reduceAdd, Int.reduceSub, Int.reduceLT, Int.reduceLE, Nat.reduceAdd, Nat.reduceLeDiff, Nat.reduceLT, Nat.reduceSub, reduceIte, wds_n, wds_0, wds_1, wds_2, wds_3, or_true, true_or, or_false, false_or, or_self, d_pos, d_s1, d_s2, d_s3, d_s4, d_s5, d_s6, d_s7, d_s8, Classical.not_not, f1, f2, hj, e1, e2]
      rw [w32_id (by omega)]
      refine lp205 hb0 hb2 k (n - 10) (m * 2 ^ j % b) (l + -10) (by omega) (by omega) (by omega) (by omega) (Nat.mod_lt _ hb0) ?_
      intro l'
      have e3 : m * 2 ^ j % b * 2 ^ (n - 10) % b = m * 2 ^ n % b := by
        rw [Nat.mod_mul_mod, Nat.mul_assoc, ← Nat.pow_add, show j + (n - 10) = n by omega]
      rw [e3]
      exact g l'
theorem s205 (ha : L64 a) (hb : L64 b) : Sp fz (d + 2) 205 [(1, a), (1, b)] h Q = Q (cn (FP.drem (d_U a) (d_U b))) h := by
  have hv : FP.Core.val64 (FP.drem (d_U a) (d_U b)) = FP.Core.round FP.Core.b64 (FP.Core.exactRemainder (dv a) (dv b)) := FP.Core.val64_drem _ _
  by_cases na : 9218868437227405312 < mg a
  · simp (implicitDefEqProofs := false) only [sp205, b205_0, b205_1, b205_2, b205_3, b205_4, b205_5, b205_6, b205_7, n205_8, q205_1, q205_2, q205_3, q205_4, q205_5, q205_6, q205_8, x_bipush, y_call101, y_call102, y_call103, y_call104, y_call105, y_call106, y_call98, x_goto_1, x_goto_3, x_goto_5, x_goto_7, x_iadd, x_iconst, x_ifCond_eq_2, x_ifCond_eq_4, x_ifCond_gt_6, x_ifCond_le_8, x_ifCond_lt_5, x_ifCond_ne_1, x_ifCond_ne_3, x_iinc9, x_iload4, x_iload9, x_imin, x_istore4, x_istore9, x_isub, x_land, x_lcmp, x_lload0, x_lload2, x_lload5, x_lload7, x_lrem, x_lreturn, x_lshl, x_lstore5, x_lstore7, klp_0, klp_1, klp_2, klp_3, klp_9, KC_0, KC_1, KC_2, KC_3, KC_4, ne_eq, not_false_eq_true, not_true_eq_false, true_and, and_true, and_self, implies_true, eq_self, true_imp_iff, false_implies, Int.reduceEq, Int.reduceNe, Int.reduceMod, Int.reduceMul, Int.reduceAdd, Int.reduceSub, Int.reduceLT, Int.reduceLE, Nat.reduceAdd, Nat.reduceLeDiff, Nat.reduceLT, Nat.reduceSub, reduceIte, wds_n, wds_0, wds_1, wds_2, wds_3, or_true, true_or, or_false, false_or, or_self, d_pos, d_s1, d_s2, d_s3, d_s4, d_s5, d_s6, d_s7, d_s8, Classical.not_not, s101, bz0, na]
    rw [cn_nan (u := FP.drem (d_U a) (d_U b)) (by rw [hv]; exact rem_nan (.inl (dv_nan ha na)))]
  by_cases nb : 9218868437227405312 < mg b
  · simp (implicitDefEqProofs := false) only [sp205, b205_0, b205_1, b205_2, b205_3, b205_4, b205_5, b205_6, b205_7, n205_8, q205_1, q205_2, q205_3, q205_4, q205_5, q205_6, q205_8, x_bipush, y_call101, y_call102, y_call103, y_call104, y_call105, y_call106, y_call98, x_goto_1, x_goto_3, x_goto_5, x_goto_7, x_iadd, x_iconst, x_ifCond_eq_2, x_ifCond_eq_4, x_ifCond_gt_6, x_ifCond_le_8, x_ifCond_lt_5, x_ifCond_ne_1, x_ifCond_ne_3, x_iinc9, x_iload4, x_iload9, x_imin, x_istore4, x_istore9, x_isub, x_land, x_lcmp, x_lload0, x_lload2, x_lload5, x_lload7, x_lrem, x_lreturn, x_lshl, x_lstore5, x_lstore7, klp_0, klp_1, klp_2, klp_3, klp_9, KC_0, KC_1, KC_2, KC_3, KC_4, ne_eq, not_false_eq_true, not_true_eq_false, true_and, and_true, and_self, implies_true, eq_self, true_imp_iff, false_implies, Int.reduceEq, Int.reduceNe, Int.reduceMod, Int.reduceMul, Int.reduceAdd, Int.reduceSub, Int.reduceLT, Int.reduceLE, Nat.reduceAdd, Nat.reduceLeDiff, Nat.reduceLT, Nat.reduceSub, reduceIte, wds_n, wds_0, wds_1, wds_2, wds_3, or_true, true_or, or_false, false_or, or_self, d_pos, d_s1, d_s2, d_s3, d_s4, d_s5, d_s6, d_s7, d_s8, Classical.not_not, s101, bz0, na, nb]
    rw [cn_nan (u := FP.drem (d_U a) (d_U b)) (by rw [hv]; exact rem_nan (.inr (dv_nan hb nb)))]
  by_cases ia : mg a = 9218868437227405312
  · simp (implicitDefEqProofs := false) only [sp205, b205_0, b205_1, b205_2, b205_3, b205_4, b205_5, b205_6, b205_7, n205_8, q205_1, q205_2, q205_3, q205_4, q205_5, q205_6, q205_8, x_bipush, y_call101, y_call102, y_call103, y_call104, y_call105, y_call106, y_call98, x_goto_1, x_goto_3, x_goto_5, x_goto_7, x_iadd, x_iconst, x_ifCond_eq_2, x_ifCond_eq_4, x_ifCond_gt_6, x_ifCond_le_8, x_ifCond_lt_5, x_ifCond_ne_1, x_ifCond_ne_3, x_iinc9, x_iload4, x_iload9, x_imin, x_istore4, x_istore9, x_isub, x_land, x_lcmp, x_lload0, x_lload2, x_lload5, x_lload7, x_lrem, x_lreturn, x_lshl, x_lstore5, x_lstore7, klp_0, klp_1, klp_2, klp_3, klp_9, KC_0, KC_1, KC_2, KC_3, KC_4, ne_eq, not_false_eq_true, not_true_eq_false, true_and, and_true, and_self, implies_true, eq_self, true_imp_iff, false_implies, Int.reduceEq, Int.reduceNe, Int.reduceMod, Int.reduceMul, Int.reduceAdd, Int.reduceSub, Int.reduceLT, Int.reduceLE, Nat.reduceAdd, Nat.reduceLeDiff, Nat.reduceLT, Nat.reduceSub, reduceIte, wds_n, wds_0, wds_1, wds_2, wds_3, or_true, true_or, or_false, false_or, or_self, d_pos, d_s1, d_s2, d_s3, d_s4, d_s5, d_s6, d_s7, d_s8, Classical.not_not, s101, s102, bz0, na, nb, eq_true ia]
    rw [cn_nan (u := FP.drem (d_U a) (d_U b))]
    rw [hv, dv_inf ha ia]
    cases dv b <;> rfl
  have e1 : dv a = _ := dv_fin ha (by omega)
  by_cases zb : mg b = 0
  · simp (implicitDefEqProofs := false) only [sp205, b205_0, b205_1, b205_2, b205_3, b205_4, b205_5, b205_6, b205_7, n205_8, q205_1, q205_2, q205_3, q205_4, q205_5, q205_6, q205_8, x_bipush, y_call101, y_call102, y_call103, y_call104, y_call105, y_call106, y_call98, x_goto_1, x_goto_3, x_goto_5, x_goto_7, x_iadd, x_iconst, x_ifCond_eq_2, x_ifCond_eq_4, x_ifCond_gt_6, x_ifCond_le_8, x_ifCond_lt_5, x_ifCond_ne_1, x_ifCond_ne_3, x_iinc9, x_iload4, x_iload9, x_imin, x_istore4, x_istore9, x_isub, x_land, x_lcmp, x_lload0, x_lload2, x_lload5, x_lload7, x_lrem, x_lreturn, x_lshl, x_lstore5, x_lstore7, klp_0, klp_1, klp_2, klp_3, klp_9, KC_0, KC_1, KC_2, KC_3, KC_4, ne_eq, not_false_eq_true, not_true_eq_false, true_and, and_true, and_self, implies_true, eq_self, true_imp_iff, false_implies, Int.reduceEq, Int.reduceNe, Int.reduceMod, Int.reduceMul, Int.reduceAdd, Int.reduceSub, Int.reduceLT, Int.reduceLE, Nat.reduceAdd, Nat.reduceLeDiff, Nat.reduceLT, Nat.reduceSub, reduceIte, wds_n, wds_0, wds_1, wds_2, wds_3, or_true, true_or, or_false, false_or, or_self, d_pos, d_s1, d_s2, d_s3, d_s4, d_s5, d_s6, d_s7, d_s8, Classical.not_not, s101, s102, s103, bz0, na, nb, ia, eq_true zb]
    rw [cn_nan (u := FP.drem (d_U a) (d_U b))]
    rw [hv, e1, dv_zero hb zb]
    rfl
  have hself : FP.Core.round FP.Core.b64 (dv a) = dv a := by
    have hf := dv_fits a
    rw [e1] at hf ⊢
    refine FP.Core.roundRatio_exact FP.Core.good_b64 (by decide) hf ?_
    rw [Int.sub_self, Nat.mul_one]
  by_cases ib : mg b = 9218868437227405312
  · simp (implicitDefEqProofs := false) only [sp205, b205_0, b205_1, b205_2, b205_3, b205_4, b205_5, b205_6, b205_7, n205_8, q205_1, q205_2, q205_3, q205_4, q205_5, q205_6, q205_8, x_bipush, y_call101, y_call102, y_call103, y_call104, y_call105, y_call106, y_call98, x_goto_1, x_goto_3, x_goto_5, x_goto_7, x_iadd, x_iconst, x_ifCond_eq_2, x_ifCond_eq_4, x_ifCond_gt_6, x_ifCond_le_8, x_ifCond_lt_5, x_ifCond_ne_1, x_ifCond_ne_3, x_iinc9, x_iload4, x_iload9, x_imin, x_istore4, x_istore9, x_isub, x_land, x_lcmp, x_lload0, x_lload2, x_lload5, x_lload7, x_lrem, x_lreturn, x_lshl, x_lstore5, x_lstore7, klp_0, klp_1, klp_2, klp_3, klp_9, KC_0, KC_1, KC_2, KC_3, KC_4, ne_eq, not_false_eq_true, not_true_eq_false, true_and, and_true, and_self, implies_true, eq_self, true_imp_iff, false_implies, Int.reduceEq, Int.reduceNe, Int.reduceMod, Int.reduceMul, Int.reduceAdd, Int.reduceSub, Int.reduceLT, Int.reduceLE, Nat.reduceAdd, Nat.reduceLeDiff, Nat.reduceLT, Nat.reduceSub, reduceIte, wds_n, wds_0, wds_1, wds_2, wds_3, or_true, true_or, or_false, false_or, or_self, d_pos, d_s1, d_s2, d_s3, d_s4, d_s5, d_s6, d_s7, d_s8, Classical.not_not, s101, s102, s103, bz0, na, nb, ia, eq_true ib, zb]
    refine congrArg (fun z => Q z h) (cn_of (x := a) (u := FP.drem (d_U a) (d_U b)) ha ?_ ?_)
    · have hx : FP.Core.exactRemainder (dv a) (dv b) = dv a := by rw [e1, dv_inf hb ib]; rfl
      rw [hv, hx, hself]
    · exact dv_num ha na
  have e2 : dv b = _ := dv_fin hb (by omega)
  have b0 : 0 < dg b := by have := dg_0 b; omega
  by_cases za : mg a = 0
  · simp (implicitDefEqProofs := false) only [sp205, b205_0, b205_1, b205_2, b205_3, b205_4, b205_5, b205_6, b205_7, n205_8, q205_1, q205_2, q205_3, q205_4, q205_5, q205_6, q205_8, x_bipush, y_call101, y_call102, y_call103, y_call104, y_call105, y_call106, y_call98, x_goto_1, x_goto_3, x_goto_5, x_goto_7, x_iadd, x_iconst, x_ifCond_eq_2, x_ifCond_eq_4, x_ifCond_gt_6, x_ifCond_le_8, x_ifCond_lt_5, x_ifCond_ne_1, x_ifCond_ne_3, x_iinc9, x_iload4, x_iload9, x_imin, x_istore4, x_istore9, x_isub, x_land, x_lcmp, x_lload0, x_lload2, x_lload5, x_lload7, x_lrem, x_lreturn, x_lshl, x_lstore5, x_lstore7, klp_0, klp_1, klp_2, klp_3, klp_9, KC_0, KC_1, KC_2, KC_3, KC_4, ne_eq, not_false_eq_true, not_true_eq_false, true_and, and_true, and_self, implies_true, eq_self, true_imp_iff, false_implies, Int.reduceEq, Int.reduceNe, Int.reduceMod, Int.reduceMul, Int.reduceAdd, Int.reduceSub, Int.reduceLT, Int.reduceLE, Nat.reduceAdd, Nat.reduceLeDiff, Nat.reduceLT, Nat.reduceSub, reduceIte, wds_n, wds_0, wds_1, wds_2, wds_3, or_true, true_or, or_false, false_or, or_self, d_pos, d_s1, d_s2, d_s3, d_s4, d_s5, d_s6, d_s7, d_s8, Classical.not_not, s101, s102, s103, bz0, na, nb, ia, ib, eq_true za, zb]
    refine congrArg (fun z => Q z h) (cn_of (x := a) (u := FP.drem (d_U a) (d_U b)) ha ?_ ?_)
    · have z : ∀ (s : Bool) (e : Int), rr s 0 1 e = .fin s 0 FP.Core.b64.qmin := fun s e => by unfold rr FP.Core.roundRatio; rw [if_pos rfl]
      have h1 : dv a = rr (decide (a < 0)) 0 1 (pl a) := by
        rw [← hself, e1, (dg_0 a).mpr za]
        rfl
      rw [hv, h1, z, e2]
      simp (implicitDefEqProofs := false) only [FP.Core.exactRemainder]
      rw [if_neg (by omega)]
      unfold FP.Core.inUnits
      rw [Nat.zero_mul, Nat.zero_mod]
      exact z _ _
    · exact dv_num ha na
  have a0 : 0 < dg a := by have := dg_0 a; omega
  have k1 := dg_lt a
  have k2 := dg_lt b
  have k3 := pl_rng a
  have k4 := pl_rng b
  have k5 := lkr (dg a)
  have k6 := lkr (dg b)
  have r1 := lak_rng a0 k1
  have r2 := lak_rng b0 k2
  have pw := pl_rem (pl_rng a) (pl_rng b) (lak_i (dg a)) (lak_i (dg b))
  have pw2 : w32 (pl b - ((lak (dg b) : Nat) : Int)) = pl b - lak (dg b) := w32_id (by omega)
  have sa := shl_lk a0 k1
  have sb := shl_lk b0 k2
  by_cases hap : pl a - lak (dg a) - pl b + lak (dg b) < 0
  · have hr := rem_lt (s := decide (a < 0)) (t := decide (b < 0)) (by rw [← e1]; exact dv_fits a) a0 k1 b0 k2 hap
    simp (implicitDefEqProofs := false) only [sp205, b205_0, b205_1, b205_2, b205_3, b205_4, b205_5, b205_6, b205_7, n205_8, q205_1, q205_2, q205_3, q205_4, q205_5, q205_6, q205_8, x_bipush, y_call101, y_call102, y_call103, y_call104, y_call105, y_call106, y_call98, x_goto_1, x_goto_3, x_goto_5, x_goto_7, x_iadd, x_iconst, x_ifCond_eq_2, x_ifCond_eq_4, x_ifCond_gt_6, x_ifCond_le_8, x_ifCond_lt_5, x_ifCond_ne_1, x_ifCond_ne_3, x_iinc9, x_iload4, x_iload9, x_imin, x_istore4, x_istore9, x_isub, x_land, x_lcmp, x_lload0, x_lload2, x_lload5, x_lload7, x_lrem, x_lreturn, x_lshl, x_lstore5, x_lstore7, klp_0, klp_1, klp_2, klp_3, klp_9, KC_0, KC_1, KC_2, KC_3, KC_4, ne_eq, not_false_eq_true, not_true_eq_false, true_and, and_true, and_self, implies_true, eq_self, true_imp_iff, false_implies, Int.reduceEq, Int.reduceNe, Int.reduceMod, Int.reduceMul, Int.reduceAdd, Int.reduceSub, Int.reduceLT, Int.reduceLE, Nat.reduceAdd, Nat.reduceLeDiff, Nat.reduceLT, Nat.reduceSub, reduceIte, wds_n, wds_0, wds_1, wds_2, wds_3, or_true, true_or, or_false, false_or, or_self, d_pos, d_s1, d_s2, d_s3, d_s4, d_s5, d_s6, d_s7, d_s8, Classical.not_not, s101, s102, s103, s104, s105, s106, bz0, na, nb, ia, ib, za, zb, lack_lk a0 k1, lack_lk b0 k2, sa, sb, pw, hap]
    refine congrArg (fun z => Q z h) (cn_of (x := a) (u := FP.drem (d_U a) (d_U b)) ha ?_ ?_)
    · rw [hv, e1, e2, hr]
    · exact dv_num ha na
  have hr := rem_rr (s := decide (a < 0)) (t := decide (b < 0)) (c := dg a) (q := pl a) (r := pl b) b0 (by omega)
  rw [e1, e2, hr] at hv
  generalize hM : dg a * 2 ^ lak (dg a) = M at *
  generalize hN : dg b * 2 ^ lak (dg b) = N at *
  have f2 : ((N : Int) = 0) = False := eq_false (by omega)
  have f3 : (0 < (N : Int)) = True := eq_true (by omega)
  have e3 : Int.tmod (M : Int) (N : Int) = ((M % N : Nat) : Int) := rfl
  simp (implicitDefEqProofs := false) only [sp205, b205_0, b205_1, b205_2, b205_3, b205_4, b205_5, b205_6, b205_7, n205_8, q205_1, q205_2, q205_3, q205_4, q205_5, q205_6, q205_8, x_bipush, y_call101, y_call102, y_call103, y_call104, y_call105, y_call106, y_call98, x_goto_1, x_goto_3, x_goto_5, x_goto_7, x_iadd, x_iconst, x_ifCond_eq_2, x_ifCond_eq_4, x_ifCond_gt_6, x_ifCond_le_8, x_ifCond_lt_5, x_ifCond_ne_1, x_ifCond_ne_3, x_iinc9, x_iload4, x_iload9, x_imin, x_istore4, x_istore9, x_isub, x_land, x_lcmp, x_lload0, x_lload2, x_lload5, x_lload7, x_lrem, x_lreturn, x_lshl, x_lstore5, x_lstore7, klp_0, klp_1, klp_2, klp_3, klp_9, KC_0, KC_1, KC_2, KC_3, KC_4, ne_eq, not_false_eq_true, not_true_eq_false, true_and, and_true, and_self, implies_true, eq_self, true_imp_iff, false_implies, Int.reduceEq, Int.reduceNe, Int.reduceMod, Int.reduceMul, Int.reduceAdd, Int.reduceSub, Int.reduceLT, Int.reduceLE, Nat.reduceAdd, Nat.reduceLeDiff, Nat.reduceLT, Nat.reduceSub, reduceIte, wds_n, wds_0, wds_1, wds_2, wds_3, or_true, true_or, or_false, false_or, or_self, d_pos, d_s1, d_s2, d_s3, d_s4, d_s5, d_s6, d_s7, d_s8, Classical.not_not, s101, s102, s103, s104, s105, s106, bz0, na, nb, ia, ib, za, zb, lack_lk a0 k1, lack_lk b0 k2, sa, sb, pw, hap, lc_gt, f2, f3, e3]
  refine G_det ?_ Q
  refine lp205 (by omega) (by omega) 10000 _ (M % N) _ rfl (by omega) (by omega) (by omega) (Nat.mod_lt _ (by omega)) (fun l' => ?_)
  have e4 : M % N * 2 ^ (pl a - lak (dg a) - pl b + lak (dg b)).toNat % N = M * 2 ^ (pl a - lak (dg a) - pl b + lak (dg b)).toNat % N := Nat.mod_mul_mod _ _ _
  rw [e4]
  have hlt := Nat.mod_lt (M * 2 ^ (pl a - lak (dg a) - pl b + lak (dg b)).toNat) (show 0 < N by omega)
  refine G_in ?_
  simp (implicitDefEqProofs := false) only [n205_8, q205_8, x_bipush, y_call105, y_call106, y_call98, x_isub, x_land, x_lload0, x_lload2, x_lload7, x_lreturn, klp_0, klp_1, klp_2, klp_3, klp_9, KC_0, KC_1, KC_2, KC_3, KC_4, ne_eq, not_false_eq_true, not_true_eq_false, true_and, and_true, and_self, implies_true, eq_self, true_imp_iff, false_implies, Int.reduceEq, Int.reduceNe, Int.reduceMod, Int.reduceMul, Int.reduceAdd, Int.reduceSub, Int.reduceLT, Int.reduceLE, Nat.reduceAdd, Nat.reduceLeDiff, Nat.reduceLT, Nat.reduceSub, reduceIte, wds_n, wds_0, wds_1, wds_2, wds_3, or_true, true_or, or_false, false_or, or_self, d_pos, d_s1, d_s2, d_s3, d_s4, d_s5, d_s6, d_s7, d_s8, Classical.not_not, s105, s106, lack_lk b0 k2, pw2, sg_of ha]
  rw [s98 (by omega) (by omega), cn_rr (by omega) hv]
  exact ⟨rfl, rfl⟩
theorem cn_l2d (x : Int64) : cn (FP.l2d x) = d_I (FP.l2d x) := by
  unfold cn
  rw [if_neg]
  rw [show FP.Core.val64 (FP.l2d x) = _ from FP.Core.val64_l2d x]
  exact FP.Core.roundRatio_ne_nan _ _ _ _ _
theorem lp96 {D : Int} {k : Nat} (hk : k ≤ 4) (g : G fz d 96 2 [(1, D), (9, 0), (0, (k : Int)), (1, ((10 ^ k : Nat) : Int)), (9, 0), (0, (k : Int))] [] h Q) (n : Nat) : ∀ i : Nat, i + n = k → G fz d 96 1 [(1, D), (9, 0), (0, (k : Int)), (1, ((10 ^ i : Nat) : Int)), (9, 0), (0, (i : Int))] [] h Q := by
  induction n with
  | zero =>
    intro i hi
    have : i = k := hi
    subst this
    have f1 : ((i : Int) ≤ (i : Int)) = True := eq_true (Int.le_refl _)
    refine G_in ?_
    simp (implicitDefEqProofs := false) only [b96_1, x_bipush, x_goto_1, x_if_icmp_ge_2, x_iinc5, x_iload2, x_iload5, x_lload3, x_lmul, x_lstore3, klp_0, klp_1, klp_2, klp_3, klp_9, KC_0, KC_1, KC_2, KC_3, KC_4, ne_eq, not_false_eq_true, not_true_eq_false, true_and, and_true, and_self, implies_true, eq_self, true_imp_iff, false_implies, Int.reduceEq, Int.reduceNe, Int.reduceMod, Int.reduceMul, Int.reduceAdd, Int.reduceSub, Int.reduceLT, Int.reduceLE, Nat.reduceAdd, Nat.reduceLeDiff, Nat.reduceLT, Nat.reduceSub, reduceIte, wds_n, wds_0, wds_1, wds_2, wds_3, or_true, true_or, or_false, false_or, or_self, d_pos, d_s1, d_s2, d_s3, d_s4, d_s5, d_s6, d_s7, d_s8, Classical.not_not, f1]
    exact g
  | succ n ih =>
    intro i hi
    have f1 : ((k : Int) ≤ (i : Int)) = False := eq_false (by omega)
    have hp : 10 ^ i * 10 < 9223372036854775808 := by
      have : 10 ^ i ≤ 10 ^ 4 := Nat.pow_le_pow_right (by decide) (by omega)
      exact Nat.lt_of_le_of_lt (Nat.mul_le_mul_right 10 this) (by decide)
    have e1 := wmul (x := 10 ^ i) (y := 10) hp
    rw [show ((10 : Nat) : Int) = 10 from rfl, ← Nat.pow_succ] at e1
    refine G_in ?_
    simp (implicitDefEqProofs := false) only [b96_1, x_bipush, x_goto_1, x_if_icmp_ge_2, x_iinc5, x_iload2, x_iload5, x_lload3, x_lmul, x_lstore3, klp_0, klp_1, klp_2, klp_3, klp_9, KC_0, KC_1, KC_2, KC_3, KC_4, ne_eq, not_false_eq_true, not_true_eq_false, true_and, and_true, and_self, implies_true, eq_self, true_imp_iff, false_implies, Int.reduceEq, Int.reduceNe, Int.reduceMod, Int.reduceMul, Int.reduceAdd, Int.reduceSub, Int.reduceLT, Int.reduceLE, Nat.reduceAdd, Nat.reduceLeDiff, Nat.reduceLT, Nat.reduceSub, reduceIte, wds_n, wds_0, wds_1, wds_2, wds_3, or_true, true_or, or_false, false_or, or_self, d_pos, d_s1, d_s2, d_s3, d_s4, d_s5, d_s6, d_s7, d_s8, Classical.not_not, f1, e1]
    rw [w32_id (by omega), show (i : Int) + 1 = ((i + 1 : Nat) : Int) by omega]
    exact ih (i + 1) (by omega)
theorem s96 {D : Int} {k : Nat} (h0 : 0 ≤ D) (hD : D < 9007199254740992) (hk : k ≤ 4) : Sp fz (d + 3) 96 [(1, D), (0, (k : Int))] h Q = Q (cn (FP.ddiv (FP.l2d (Int64.ofInt D)) (FP.l2d (Int64.ofInt ((10 ^ k : Nat) : Int))))) h := by
  have hp1 : 0 < 10 ^ k := Nat.pow_pos (by decide)
  have hp2 : 10 ^ k ≤ 10 ^ 4 := Nat.pow_le_pow_right (by decide) hk
  generalize hP : 10 ^ k = P at *
  have hp3 : (P : Int) ≠ -9223372036854775808 ∧ L64 (P : Int) := by omega
  have hp4 : D ≠ -9223372036854775808 ∧ L64 D := by omega
  have k97 : ∀ Q', Sp fz (d + 2) 97 [(1, (P : Int))] h Q' = Q' (cn (FP.l2d (Int64.ofInt (P : Int)))) h := fun Q' => s97 hp3.2 hp3.1
  have kD : ∀ Q', Sp fz (d + 2) 97 [(1, D)] h Q' = Q' (cn (FP.l2d (Int64.ofInt D))) h := fun Q' => s97 hp4.2 hp4.1
  have key : ∀ Q', Sp fz (d + 2) 100 [(1, cn (FP.l2d (Int64.ofInt D))), (1, cn (FP.l2d (Int64.ofInt (P : Int))))] h Q' = Q' (cn (FP.ddiv (FP.l2d (Int64.ofInt D)) (FP.l2d (Int64.ofInt (P : Int))))) h := by
    intro Q'
    rw [cn_l2d, cn_l2d, s100 (dI_L _) (dI_L _), dU_dI, dU_dI]
  refine Sp_is ?_ Q
  simp (implicitDefEqProofs := false) only [sp96, b96_0, b96_1, b96_2, q96_2, x_bipush, y_call100, y_call97, x_goto_1, x_iconst, x_if_icmp_ge_2, x_iinc5, x_iload2, x_iload5, x_istore5, x_lload0, x_lload3, x_lmul, x_lreturn, x_lstore3, klp_0, klp_1, klp_2, klp_3, klp_9, KC_0, KC_1, KC_2, KC_3, KC_4, ne_eq, not_false_eq_true, not_true_eq_false, true_and, and_true, and_self, implies_true, eq_self, true_imp_iff, false_implies, Int.reduceEq, Int.reduceNe, Int.reduceMod, Int.reduceMul, Int.reduceAdd, Int.reduceSub, Int.reduceLT, Int.reduceLE, Nat.reduceAdd, Nat.reduceLeDiff, Nat.reduceLT, Nat.reduceSub, reduceIte, wds_n, wds_0, wds_1, wds_2, wds_3, or_true, true_or, or_false, false_or, or_self, d_pos, d_s1, d_s2, d_s3, d_s4, d_s5, d_s6, d_s7, d_s8, Classical.not_not]
  refine lp96 hk ?_ k 0 (by omega)
  rw [hP]
  refine G_in ?_
  simp (implicitDefEqProofs := false) only [b96_2, q96_2, y_call100, y_call97, x_lload0, x_lload3, x_lreturn, klp_0, klp_1, klp_2, klp_3, klp_9, KC_0, KC_1, KC_2, KC_3, KC_4, ne_eq, not_false_eq_true, not_true_eq_false, true_and, and_true, and_self, implies_true, eq_self, true_imp_iff, false_implies, Int.reduceEq, Int.reduceNe, Int.reduceMod, Int.reduceMul, Int.reduceAdd, Int.reduceSub, Int.reduceLT, Int.reduceLE, Nat.reduceAdd, Nat.reduceLeDiff, Nat.reduceLT, Nat.reduceSub, reduceIte, wds_n, wds_0, wds_1, wds_2, wds_3, or_true, true_or, or_false, false_or, or_self, d_pos, d_s1, d_s2, d_s3, d_s4, d_s5, d_s6, d_s7, d_s8, Classical.not_not, kD, k97, key]
/-! order -/
def od (a : Int) : Int := if 0 ≤ a then a else -9223372036854775808 - a
theorem s208 (ha : L64 a) : Sp fz d 208 [(1, a)] h Q = Q (od a) h := by
  simp (implicitDefEqProofs := false) only [sp208, n208_0, b208_1, b208_2, q208_1, q208_2, x_bipush, x_goto_2, x_ifCond_ge_1, x_lcmp, x_lload0, x_lreturn, x_lsub, klp_0, klp_1, klp_2, klp_3, klp_9, KC_0, KC_1, KC_2, KC_3, KC_4, ne_eq, not_false_eq_true, not_true_eq_false, true_and, and_true, and_self, implies_true, eq_self, true_imp_iff, false_implies, Int.reduceEq, Int.reduceNe, Int.reduceMod, Int.reduceMul, Int.reduceAdd, Int.reduceSub, Int.reduceLT, Int.reduceLE, Nat.reduceAdd, Nat.reduceLeDiff, Nat.reduceLT, Nat.reduceSub, reduceIte, wds_n, wds_0, wds_1, wds_2, wds_3, or_true, true_or, or_false, false_or, or_self, d_pos, d_s1, d_s2, d_s3, d_s4, d_s5, d_s6, d_s7, d_s8, Classical.not_not, lc_ge]
  unfold od
  by_cases hc : 0 ≤ a
  · rw [if_pos hc]
    exact propext ⟨fun q => q.1 hc, fun q => ⟨fun _ => q, fun n => (n hc).elim⟩⟩
  · rw [NV_9223372036854775808_e, if_neg hc, w64_id (by omega)]
    exact propext ⟨fun q => q.2 hc, fun q => ⟨fun n => (hc n).elim, fun _ => q⟩⟩
theorem s207 (ha : L64 a) (hb : L64 b) : Sp fz (d + 1) 207 [(1, a), (1, b)] h Q = Q (if ¬ 9218868437227405312 < mg a ∧ ¬ 9218868437227405312 < mg b ∧ od a < od b then 1 else 0) h := by
  by_cases na : 9218868437227405312 < mg a
  · rw [if_neg (by omega)]
    simp (implicitDefEqProofs := false) only [sp207, b207_0, b207_1, b207_2, q207_1, q207_2, y_call101, y_call208, x_freturn, x_goto_2, x_iconst, x_ifCond_ge_1, x_ifCond_ne_1, x_lcmp, x_lload0, x_lload2, klp_0, klp_1, klp_2, klp_3, klp_9, KC_0, KC_1, KC_2, KC_3, KC_4, ne_eq, not_false_eq_true, not_true_eq_false, true_and, and_true, and_self, implies_true, eq_self, true_imp_iff, false_implies, Int.reduceEq, Int.reduceNe, Int.reduceMod, Int.reduceMul, Int.reduceAdd, Int.reduceSub, Int.reduceLT, Int.reduceLE, Nat.reduceAdd, Nat.reduceLeDiff, Nat.reduceLT, Nat.reduceSub, reduceIte, wds_n, wds_0, wds_1, wds_2, wds_3, or_true, true_or, or_false, false_or, or_self, d_pos, d_s1, d_s2, d_s3, d_s4, d_s5, d_s6, d_s7, d_s8, Classical.not_not, s101, bz0, na]
  by_cases nb : 9218868437227405312 < mg b
  · rw [if_neg (by omega)]
    simp (implicitDefEqProofs := false) only [sp207, b207_0, b207_1, b207_2, q207_1, q207_2, y_call101, y_call208, x_freturn, x_goto_2, x_iconst, x_ifCond_ge_1, x_ifCond_ne_1, x_lcmp, x_lload0, x_lload2, klp_0, klp_1, klp_2, klp_3, klp_9, KC_0, KC_1, KC_2, KC_3, KC_4, ne_eq, not_false_eq_true, not_true_eq_false, true_and, and_true, and_self, implies_true, eq_self, true_imp_iff, false_implies, Int.reduceEq, Int.reduceNe, Int.reduceMod, Int.reduceMul, Int.reduceAdd, Int.reduceSub, Int.reduceLT, Int.reduceLE, Nat.reduceAdd, Nat.reduceLeDiff, Nat.reduceLT, Nat.reduceSub, reduceIte, wds_n, wds_0, wds_1, wds_2, wds_3, or_true, true_or, or_false, false_or, or_self, d_pos, d_s1, d_s2, d_s3, d_s4, d_s5, d_s6, d_s7, d_s8, Classical.not_not, s101, bz0, na, nb]
  simp (implicitDefEqProofs := false) only [sp207, b207_0, b207_1, b207_2, q207_1, q207_2, y_call101, y_call208, x_freturn, x_goto_2, x_iconst, x_ifCond_ge_1, x_ifCond_ne_1, x_lcmp, x_lload0, x_lload2, klp_0, klp_1, klp_2, klp_3, klp_9, KC_0, KC_1, KC_2, KC_3, KC_4, ne_eq, not_false_eq_true, not_true_eq_false, true_and, and_true, and_self, implies_true, eq_self, true_imp_iff, false_implies, Int.reduceEq, Int.reduceNe, Int.reduceMod, Int.reduceMul, Int.reduceAdd, Int.reduceSub, Int.reduceLT, Int.reduceLE, Nat.reduceAdd, Nat.reduceLeDiff, Nat.reduceLT, Nat.reduceSub, reduceIte, wds_n, wds_0, wds_1, wds_2, wds_3, or_true, true_or, or_false, false_or, or_self, d_pos, d_s1, d_s2, d_s3, d_s4, d_s5, d_s6, d_s7, d_s8, Classical.not_not, s101, s208 ha, s208 hb, bz0, na, nb, lc_ge]
  exact bw_f (P := fun x => Q x h) (by omega)
theorem s209 (ha : L64 a) (hb : L64 b) : Sp fz (d + 1) 209 [(1, a), (1, b)] h Q = Q (if ¬ 9218868437227405312 < mg a ∧ ¬ 9218868437227405312 < mg b ∧ od a = od b then 1 else 0) h := by
  by_cases na : 9218868437227405312 < mg a
  · rw [if_neg (by omega)]
    simp (implicitDefEqProofs := false) only [sp209, b209_0, b209_1, b209_2, q209_1, q209_2, y_call101, y_call208, x_freturn, x_goto_2, x_iconst, x_ifCond_ne_1, x_lcmp, x_lload0, x_lload2, klp_0, klp_1, klp_2, klp_3, klp_9, KC_0, KC_1, KC_2, KC_3, KC_4, ne_eq, not_false_eq_true, not_true_eq_false, true_and, and_true, and_self, implies_true, eq_self, true_imp_iff, false_implies, Int.reduceEq, Int.reduceNe, Int.reduceMod, Int.reduceMul, Int.reduceAdd, Int.reduceSub, Int.reduceLT, Int.reduceLE, Nat.reduceAdd, Nat.reduceLeDiff, Nat.reduceLT, Nat.reduceSub, reduceIte, wds_n, wds_0, wds_1, wds_2, wds_3, or_true, true_or, or_false, false_or, or_self, d_pos, d_s1, d_s2, d_s3, d_s4, d_s5, d_s6, d_s7, d_s8, Classical.not_not, s101, bz0, na]
  by_cases nb : 9218868437227405312 < mg b
  · rw [if_neg (by omega)]
    simp (implicitDefEqProofs := false) only [sp209, b209_0, b209_1, b209_2, q209_1, q209_2, y_call101, y_call208, x_freturn, x_goto_2, x_iconst, x_ifCond_ne_1, x_lcmp, x_lload0, x_lload2, klp_0, klp_1, klp_2, klp_3, klp_9, KC_0, KC_1, KC_2, KC_3, KC_4, ne_eq, not_false_eq_true, not_true_eq_false, true_and, and_true, and_self, implies_true, eq_self, true_imp_iff, false_implies, Int.reduceEq, Int.reduceNe, Int.reduceMod, Int.reduceMul, Int.reduceAdd, Int.reduceSub, Int.reduceLT, Int.reduceLE, Nat.reduceAdd, Nat.reduceLeDiff, Nat.reduceLT, Nat.reduceSub, reduceIte, wds_n, wds_0, wds_1, wds_2, wds_3, or_true, true_or, or_false, false_or, or_self, d_pos, d_s1, d_s2, d_s3, d_s4, d_s5, d_s6, d_s7, d_s8, Classical.not_not, s101, bz0, na, nb]
  simp (implicitDefEqProofs := false) only [sp209, b209_0, b209_1, b209_2, q209_1, q209_2, y_call101, y_call208, x_freturn, x_goto_2, x_iconst, x_ifCond_ne_1, x_lcmp, x_lload0, x_lload2, klp_0, klp_1, klp_2, klp_3, klp_9, KC_0, KC_1, KC_2, KC_3, KC_4, ne_eq, not_false_eq_true, not_true_eq_false, true_and, and_true, and_self, implies_true, eq_self, true_imp_iff, false_implies, Int.reduceEq, Int.reduceNe, Int.reduceMod, Int.reduceMul, Int.reduceAdd, Int.reduceSub, Int.reduceLT, Int.reduceLE, Nat.reduceAdd, Nat.reduceLeDiff, Nat.reduceLT, Nat.reduceSub, reduceIte, wds_n, wds_0, wds_1, wds_2, wds_3, or_true, true_or, or_false, false_or, or_self, d_pos, d_s1, d_s2, d_s3, d_s4, d_s5, d_s6, d_s7, d_s8, Classical.not_not, s101, s208 ha, s208 hb, bz0, na, nb, lc_eq]
  exact bw_n (P := fun x => Q x h) (by omega)
theorem od_key (ha : L64 a) : FP.Core.dkey (d_U a) = od a := by
  have h1 := U_sgn ha
  have h2 := mg_lt a
  unfold FP.Core.dkey od
  rw [dU_nat, show (2 : Nat) ^ 63 = 9223372036854775808 from rfl]
  unfold U
  split <;> split <;> omega
/-- a double as an int -/
theorem s226 (ha : L64 a) : Sp fz (d + 1) 226 [(1, a)] h Q = Q ((FP.d2i (d_U a)).toInt) h := by
  have hd : FP.d2i (d_U a) = Int32.ofInt (FP.Core.toInt (-2147483648) 2147483647 (dv a)) := rfl
  have k1 := dg_lt a
  have k3 := pl_rng a
  by_cases na : 9218868437227405312 < mg a
  · simp (implicitDefEqProofs := false) only [sp226, b226_0, b226_1, b226_2, b226_3, n226_4, b226_5, b226_6, q226_1, q226_2, q226_3, q226_4, q226_5, q226_6, x_bipush, y_call101, y_call104, y_call106, x_goto_4, x_goto_6, x_iconst, x_ifCond_eq_1, x_ifCond_ge_5, x_ifCond_lt_2, x_if_icmp_ge_3, x_iload2, x_ineg, x_ireturn, x_istore2, x_l2i, x_lcmp, x_lload0, x_lload3, x_lmax, x_lmin, x_lneg, x_lstore3, x_lushr, klp_0, klp_1, klp_2, klp_3, klp_9, KC_0, KC_1, KC_2, KC_3, KC_4, ne_eq, not_false_eq_true, not_true_eq_false, true_and, and_true, and_self, implies_true, eq_self, true_imp_iff, false_implies, Int.reduceEq, Int.reduceNe, Int.reduceMod, Int.reduceMul, Int.reduceAdd, Int.reduceSub, Int.reduceLT, Int.reduceLE, Nat.reduceAdd, Nat.reduceLeDiff, Nat.reduceLT, Nat.reduceSub, reduceIte, wds_n, wds_0, wds_1, wds_2, wds_3, or_true, true_or, or_false, false_or, or_self, d_pos, d_s1, d_s2, d_s3, d_s4, d_s5, d_s6, d_s7, d_s8, Classical.not_not, s101, bz0, na]
    rw [hd, dv_nan ha na]
    rfl
  have hmg := mg_fields a
  have htf := tf_lt a
  -- by how far it is cut
  have key : ∀ m : Nat, m < 9223372036854775808 → FP.Core.toInt (-2147483648) 2147483647 (dv a) = (if a < 0 then max (-(m : Int)) (-2147483648) else min (m : Int) 2147483647) → ((0 ≤ a → Q (w32 (min (m : Int) 2147483647)) h) ∧ (¬ 0 ≤ a → Q (w32 (max (w64 (-(m : Int))) NV_2147483648)) h)) = Q ((FP.d2i (d_U a)).toInt) h := by
    intro m hm e
    rw [hd, e, NV_2147483648_e]
    by_cases hc : a < 0
    · rw [if_pos hc, w64_id (by omega), w32_id (x := max (-(m : Int)) (-2147483648)) (by omega), Int32.toInt_ofInt_of_le (by omega) (by omega)]
      exact propext ⟨fun q => q.2 (by omega), fun q => ⟨fun n => by omega, fun _ => q⟩⟩
    · rw [if_neg hc, w32_id (x := min (m : Int) 2147483647) (by omega), Int32.toInt_ofInt_of_le (by omega) (by omega)]
      exact propext ⟨fun q => q.1 (by omega), fun q => ⟨fun _ => q, fun n => by omega⟩⟩
  by_cases p0 : 0 ≤ pl a
  · have f1 : (pl a < 0) = False := eq_false (by omega)
    simp (implicitDefEqProofs := false) only [sp226, b226_0, b226_1, b226_2, b226_3, n226_4, b226_5, b226_6, q226_1, q226_2, q226_3, q226_4, q226_5, q226_6, x_bipush, y_call101, y_call104, y_call106, x_goto_4, x_goto_6, x_iconst, x_ifCond_eq_1, x_ifCond_ge_5, x_ifCond_lt_2, x_if_icmp_ge_3, x_iload2, x_ineg, x_ireturn, x_istore2, x_l2i, x_lcmp, x_lload0, x_lload3, x_lmax, x_lmin, x_lneg, x_lstore3, x_lushr, klp_0, klp_1, klp_2, klp_3, klp_9, KC_0, KC_1, KC_2, KC_3, KC_4, ne_eq, not_false_eq_true, not_true_eq_false, true_and, and_true, and_self, implies_true, eq_self, true_imp_iff, false_implies, Int.reduceEq, Int.reduceNe, Int.reduceMod, Int.reduceMul, Int.reduceAdd, Int.reduceSub, Int.reduceLT, Int.reduceLE, Nat.reduceAdd, Nat.reduceLeDiff, Nat.reduceLT, Nat.reduceSub, reduceIte, wds_n, wds_0, wds_1, wds_2, wds_3, or_true, true_or, or_false, false_or, or_self, d_pos, d_s1, d_s2, d_s3, d_s4, d_s5, d_s6, d_s7, d_s8, Classical.not_not, s101, s104, s106, bz0, na, f1, lc_ge]
    refine key 9223372036854775807 (by decide) ?_
    by_cases ia : mg a = 9218868437227405312
    · rw [dv_inf ha ia]
      simp (implicitDefEqProofs := false) only [FP.Core.toInt, decide_eq_true_eq]
      split <;> rfl
    · rw [dv_fin ha (by omega)]
      have hn := pl_norm (x := a) (by omega)
      have h2 : dg a * 1 ≤ dg a * 2 ^ (pl a).toNat := Nat.mul_le_mul_left _ (Nat.two_pow_pos _)
      simp (implicitDefEqProofs := false) only [FP.Core.toInt, FP.Core.truncate]
      rw [show (-pl a).toNat = 0 by omega, Nat.pow_zero, Nat.div_one]
      generalize dg a * 2 ^ (pl a).toNat = Y at *
      unfold FP.Core.signed
      simp (implicitDefEqProofs := false) only [decide_eq_true_eq]
      split <;> omega
  · have f1 : (pl a < 0) = True := eq_true (by omega)
    have hfin : mg a < 9218868437227405312 := by
      have : pl a = max ((ef a : Nat) : Int) 1 - 1 - 1074 := rfl
      omega
    by_cases p63 : pl a < -63
    · have f2 : (-63 ≤ pl a) = False := eq_false (by omega)
      simp (implicitDefEqProofs := false) only [sp226, b226_0, b226_1, b226_2, b226_3, n226_4, b226_5, b226_6, q226_1, q226_2, q226_3, q226_4, q226_5, q226_6, x_bipush, y_call101, y_call104, y_call106, x_goto_4, x_goto_6, x_iconst, x_ifCond_eq_1, x_ifCond_ge_5, x_ifCond_lt_2, x_if_icmp_ge_3, x_iload2, x_ineg, x_ireturn, x_istore2, x_l2i, x_lcmp, x_lload0, x_lload3, x_lmax, x_lmin, x_lneg, x_lstore3, x_lushr, klp_0, klp_1, klp_2, klp_3, klp_9, KC_0, KC_1, KC_2, KC_3, KC_4, ne_eq, not_false_eq_true, not_true_eq_false, true_and, and_true, and_self, implies_true, eq_self, true_imp_iff, false_implies, Int.reduceEq, Int.reduceNe, Int.reduceMod, Int.reduceMul, Int.reduceAdd, Int.reduceSub, Int.reduceLT, Int.reduceLE, Nat.reduceAdd, Nat.reduceLeDiff, Nat.reduceLT, Nat.reduceSub, reduceIte, wds_n, wds_0, wds_1, wds_2, wds_3, or_true, true_or, or_false, false_or, or_self, d_pos, d_s1, d_s2, d_s3, d_s4, d_s5, d_s6, d_s7, d_s8, Classical.not_not, s101, s104, s106, bz0, na, f1, f2, lc_ge]
      refine key 0 (by decide) ?_
      rw [dv_fin ha hfin]
      have h2 := p2_le (show 64 ≤ (-pl a).toNat by omega)
      rw [show (2 : Nat) ^ 64 = 18446744073709551616 from rfl] at h2
      simp (implicitDefEqProofs := false) only [FP.Core.toInt, FP.Core.truncate]
      rw [show (pl a).toNat = 0 by omega, Nat.pow_zero, Nat.mul_one, Nat.div_eq_of_lt (by omega)]
      unfold FP.Core.signed
      simp (implicitDefEqProofs := false) only [decide_eq_true_eq]
      split <;> rfl
    · have f2 : (-63 ≤ pl a) = True := eq_true (by omega)
      have e1 : w32 (-pl a) = (((-pl a).toNat : Nat) : Int) := by rw [w32_id (by omega)]; omega
      have hle : dg a / 2 ^ (-pl a).toNat ≤ dg a := Nat.div_le_self _ _
      simp (implicitDefEqProofs := false) only [sp226, b226_0, b226_1, b226_2, b226_3, n226_4, b226_5, b226_6, q226_1, q226_2, q226_3, q226_4, q226_5, q226_6, x_bipush, y_call101, y_call104, y_call106, x_goto_4, x_goto_6, x_iconst, x_ifCond_eq_1, x_ifCond_ge_5, x_ifCond_lt_2, x_if_icmp_ge_3, x_iload2, x_ineg, x_ireturn, x_istore2, x_l2i, x_lcmp, x_lload0, x_lload3, x_lmax, x_lmin, x_lneg, x_lstore3, x_lushr, klp_0, klp_1, klp_2, klp_3, klp_9, KC_0, KC_1, KC_2, KC_3, KC_4, ne_eq, not_false_eq_true, not_true_eq_false, true_and, and_true, and_self, implies_true, eq_self, true_imp_iff, false_implies, Int.reduceEq, Int.reduceNe, Int.reduceMod, Int.reduceMul, Int.reduceAdd, Int.reduceSub, Int.reduceLT, Int.reduceLE, Nat.reduceAdd, Nat.reduceLeDiff, Nat.reduceLT, Nat.reduceSub, reduceIte, wds_n, wds_0, wds_1, wds_2, wds_3, or_true, true_or, or_false, false_or, or_self, d_pos, d_s1, d_s2, d_s3, d_s4, d_s5, d_s6, d_s7, d_s8, Classical.not_not, s101, s104, s106, bz0, na, f1, f2, lc_ge, e1, l_ushr_pos (a := ((dg a : Nat) : Int)) (s := (((-pl a).toNat : Nat) : Int)) rfl (by omega) (by omega) (by omega), Int.toNat_natCast]
      refine key (dg a / 2 ^ (-pl a).toNat) (by omega) ?_
      rw [dv_fin ha hfin]
      simp (implicitDefEqProofs := false) only [FP.Core.toInt, FP.Core.truncate]
      rw [show (pl a).toNat = 0 by omega, Nat.pow_zero, Nat.mul_one]
      generalize dg a / 2 ^ (-pl a).toNat = Y at *
      unfold FP.Core.signed
      simp (implicitDefEqProofs := false) only [decide_eq_true_eq]
      split <;> omega
end RL
