/-! REALS, on: printed by wip/tools/gen40.py -/
section RL
variable {fz : Int → Int → Option Int} {d : Nat} {h : HV} {Q : Int → HV → Prop} {a b : Int}
/-- a result, all that is no number alike -/
def cn (u : UInt64) : Int := if FP.Core.val64 u = .nan then 9221120237041090560 else d_I u
theorem cn_nan {u : UInt64} (e : FP.Core.val64 u = .nan) : 9221120237041090560 = cn u := by unfold cn; rw [if_pos e]
theorem cn_of {x : Int} {u : UInt64} (hx : L64 x) (e : FP.Core.val64 u = dv x) (hn : dv x ≠ .nan) : x = cn u := by
  have hn2 : FP.Core.val64 u ≠ .nan := by rw [e]; exact hn
  unfold cn
  rw [if_neg hn2]
  exact dv_inj hx hn2 e.symm
theorem cn_rr {s : Bool} {m : Nat} {p : Int} {u : UInt64} (hm : m < 9223372036854775808) (e : FP.Core.val64 u = rr s m 1 p) : (if m = 0 then sgn s else sm s (nrM m p)) = cn u := by
  have hM := nrM_le m p
  by_cases h0 : m = 0
  · subst h0
    rw [if_pos rfl, sg_sm]
    refine cn_of (sm_L (by decide)) ?_ ?_
    · rw [e, dv_fin (sm_L (by decide)) (by rw [mg_sm (by decide)]; decide), sm_neg (by decide)]
      cases s <;> rfl
    · rw [dv_fin (sm_L (by decide)) (by rw [mg_sm (by decide)]; decide)]
      exact FP.Core.Datum.noConfusion
  · rw [if_neg h0]
    refine cn_of (sm_L (by omega)) ?_ ?_
    · rw [e, nr_dv (by omega) hm]
    · rw [nr_dv (by omega) hm]
      exact FP.Core.roundRatio_ne_nan _ _ _ _ _
theorem sg_of {a : Int} (ha : L64 a) : l_and a NV_9223372036854775808 = sgn (decide (a < 0)) := by
  rw [mk_sg ha]
  unfold sgn
  simp (implicitDefEqProofs := false) only [decide_eq_true_eq]
theorem w64_neg {a : Int} (ha : L64 a) : max a (w64 (-a)) = if a = -9223372036854775808 then a else (a.natAbs : Int) := by
  split
  · rename_i e; rw [e]; decide
  · rw [w64_id (by omega)]; omega
theorem s97 (ha : L64 a) (hb : a ≠ -9223372036854775808) : Sp fz (d + 2) 97 [(1, a)] h Q = Q (cn (FP.l2d (Int64.ofInt a))) h := by
  have h1 : max a (w64 (-a)) = ((a.natAbs : Nat) : Int) := by rw [w64_neg ha, if_neg hb]
  simp (implicitDefEqProofs := false) only [sp97, n97_0, x_bipush, y_call98, x_iconst, x_labs, x_land, x_lload0, x_lreturn, klp_0, klp_1, klp_2, klp_3, klp_9, KC_0, KC_1, KC_2, KC_3, KC_4, ne_eq, not_false_eq_true, not_true_eq_false, true_and, and_true, and_self, implies_true, eq_self, true_imp_iff, false_implies, Int.reduceEq, Int.reduceNe, Int.reduceMod, Int.reduceMul, Int.reduceAdd, Int.reduceSub, Int.reduceLT, Int.reduceLE, Nat.reduceAdd, Nat.reduceLeDiff, Nat.reduceLT, Nat.reduceSub, reduceIte, wds_n, wds_0, wds_1, wds_2, wds_3, or_true, true_or, or_false, false_or, or_self, d_pos, d_s1, d_s2, d_s3, d_s4, d_s5, d_s6, d_s7, d_s8, Classical.not_not, sg_of ha, h1, s98 (m := a.natAbs) (s := decide (a < 0)) (p := 0) (by omega) (by decide)]
  rw [cn_rr (p := 0) (by omega)]
  show FP.Core.val64 (FP.Core.l2d (Int64.ofInt a)) = _
  rw [FP.Core.val64_l2d, Int64.toInt_ofInt_of_le (by omega) (by omega)]
  rfl
theorem xor_top {x : Nat} (hx : x < 18446744073709551616) : x ^^^ 9223372036854775808 = (if x < 9223372036854775808 then 9223372036854775808 else 0) + x % 9223372036854775808 := by
  have h1 := Nat.xor_div_two_pow (a := x) (b := 9223372036854775808) (n := 63)
  have h2 := Nat.xor_mod_two_pow (a := x) (b := 9223372036854775808) (n := 63)
  rw [show (2 : Nat) ^ 63 = 9223372036854775808 from rfl] at h1 h2
  rw [show 9223372036854775808 % 9223372036854775808 = 0 from rfl, Nat.xor_zero] at h2
  rw [show 9223372036854775808 / 9223372036854775808 = 1 from rfl] at h1
  have h0 := Nat.div_add_mod (x ^^^ 9223372036854775808) 9223372036854775808
  rw [h1, h2] at h0
  split
  · rw [show x / 9223372036854775808 = 0 by omega, show 0 ^^^ 1 = 1 from rfl] at h0
    omega
  · rw [show x / 9223372036854775808 = 1 by omega, show 1 ^^^ 1 = 0 from rfl] at h0
    omega
theorem ef_mg (x : Int) : ef x = mg x / 4503599627370496 := by unfold ef mg; omega
theorem tf_mg (x : Int) : tf x = mg x % 4503599627370496 := by unfold tf mg; omega
theorem dg_c {x y : Int} (e : mg x = mg y) : dg x = dg y := by unfold dg; rw [ef_mg, ef_mg, tf_mg, tf_mg, e]
theorem pl_c {x y : Int} (e : mg x = mg y) : pl x = pl y := by unfold pl; rw [ef_mg, ef_mg, e]
theorem mg_lt (x : Int) : mg x < 9223372036854775808 := by unfold mg; omega
theorem dv_flip (ha : L64 a) (hn : ¬ 9218868437227405312 < mg a) : dv (sm (!decide (a < 0)) (mg a)) = FP.Core.negate (dv a) := by
  have h1 := mg_lt a
  have hL := sm_L (s := !decide (a < 0)) h1
  by_cases he : mg a = 9218868437227405312
  · rw [dv_inf ha he, dv_inf hL (by rw [mg_sm h1]; exact he), sm_neg h1]
    rfl
  · rw [dv_fin ha (by omega), dv_fin hL (by rw [mg_sm h1]; omega), sm_neg h1, dg_c (mg_sm h1), pl_c (mg_sm h1)]
    rfl
theorem dv_num (ha : L64 a) (hn : ¬ 9218868437227405312 < mg a) : dv a ≠ .nan := by
  by_cases he : mg a = 9218868437227405312
  · rw [dv_inf ha he]; exact FP.Core.Datum.noConfusion
  · rw [dv_fin ha (by omega)]; exact FP.Core.Datum.noConfusion
theorem neg_flip (ha : L64 a) : l_xor a NV_9223372036854775808 = sm (!decide (a < 0)) (mg a) := by
  have h1 := U_sgn ha
  have h2 := U_lt a
  have h3 := mg_lt a
  rw [NV_9223372036854775808_e, l_xor_U, show U (-9223372036854775808) = 9223372036854775808 from rfl, xor_top h2]
  unfold sm
  congr 1
  by_cases hc : a < 0
  · rw [if_pos hc] at h1
    rw [if_neg (by omega), decide_eq_true hc]
    simp (implicitDefEqProofs := false) only [Bool.not_true, Bool.false_eq_true, if_false]
    omega
  · rw [if_neg hc] at h1
    rw [if_pos (by omega), decide_eq_false hc]
    simp (implicitDefEqProofs := false) only [Bool.not_false, if_true]
    omega
/-- the sign changed -/
def ng (a : Int) : Int := if 9218868437227405312 < mg a then 9221120237041090560 else sm (!decide (a < 0)) (mg a)
theorem s203 (ha : L64 a) : Sp fz (d + 1) 203 [(1, a)] h Q = Q (ng a) h := by
  unfold ng
  by_cases hn : 9218868437227405312 < mg a
  · rw [if_pos hn]
    simp (implicitDefEqProofs := false) only [sp203, b203_0, n203_1, b203_2, q203_1, q203_2, x_bipush, y_call101, x_goto_2, x_ifCond_eq_1, x_lload0, x_lreturn, x_lxor, klp_0, klp_1, klp_2, klp_3, klp_9, KC_0, KC_1, KC_2, KC_3, KC_4, ne_eq, not_false_eq_true, not_true_eq_false, true_and, and_true, and_self, implies_true, eq_self, true_imp_iff, false_implies, Int.reduceEq, Int.reduceNe, Int.reduceMod, Int.reduceMul, Int.reduceAdd, Int.reduceSub, Int.reduceLT, Int.reduceLE, Nat.reduceAdd, Nat.reduceLeDiff, Nat.reduceLT, Nat.reduceSub, reduceIte, wds_n, wds_0, wds_1, wds_2, wds_3, or_true, true_or, or_false, false_or, or_self, d_pos, d_s1, d_s2, d_s3, d_s4, d_s5, d_s6, d_s7, d_s8, Classical.not_not, s101, bz0, hn]
  · rw [if_neg hn]
    simp (implicitDefEqProofs := false) only [sp203, b203_0, n203_1, b203_2, q203_1, q203_2, x_bipush, y_call101, x_goto_2, x_ifCond_eq_1, x_lload0, x_lreturn, x_lxor, klp_0, klp_1, klp_2, klp_3, klp_9, KC_0, KC_1, KC_2, KC_3, KC_4, ne_eq, not_false_eq_true, not_true_eq_false, true_and, and_true, and_self, implies_true, eq_self, true_imp_iff, false_implies, Int.reduceEq, Int.reduceNe, Int.reduceMod, Int.reduceMul, Int.reduceAdd, Int.reduceSub, Int.reduceLT, Int.reduceLE, Nat.reduceAdd, Nat.reduceLeDiff, Nat.reduceLT, Nat.reduceSub, reduceIte, wds_n, wds_0, wds_1, wds_2, wds_3, or_true, true_or, or_false, false_or, or_self, d_pos, d_s1, d_s2, d_s3, d_s4, d_s5, d_s6, d_s7, d_s8, Classical.not_not, s101, bz0, hn, neg_flip ha]
theorem ng_L (a : Int) : L64 (ng a) := by
  unfold ng
  split
  · decide
  · exact sm_L (mg_lt a)
theorem ng_dv (ha : L64 a) : dv (ng a) = FP.Core.negate (dv a) := by
  unfold ng
  split
  · rename_i hn
    rw [dv_nan ha hn, dv_nan (by decide) (by decide)]
    rfl
  · rename_i hn
    exact dv_flip ha hn
theorem cn_c {u v : UInt64} (e : FP.Core.val64 u = FP.Core.val64 v) : cn u = cn v := by
  unfold cn
  rw [e]
  split
  · rfl
  · rename_i hn
    rw [FP.Core.val64_inj (by rw [e]; exact hn) e]
theorem cn_sub (hb : L64 b) : cn (FP.dadd (d_U a) (d_U (ng b))) = cn (FP.dsub (d_U a) (d_U b)) := by
  refine cn_c ?_
  rw [show FP.Core.val64 (FP.dadd (d_U a) (d_U (ng b))) = _ from FP.Core.val64_dadd _ _, show FP.Core.val64 (FP.dsub (d_U a) (d_U b)) = _ from FP.Core.val64_dsub _ _, show FP.Core.val64 (d_U (ng b)) = _ from ng_dv hb]
/-! the sum -/
theorem and_sg (ha : L64 a) (hb : L64 b) : l_and (l_and a b) NV_9223372036854775808 = sgn (decide (a < 0) && decide (b < 0)) := by
  have h1 := U_sgn ha
  have h2 := U_sgn hb
  have h3 := mg_lt a
  have h4 := mg_lt b
  have hl : U a &&& U b < 18446744073709551616 := Nat.lt_of_le_of_lt Nat.and_le_left (U_lt a)
  rw [NV_9223372036854775808_e, l_and_U, l_and_U, U_UI hl, show U (-9223372036854775808) = 1 * 2 ^ 63 from rfl, and_hi, Nat.and_div_two_pow]
  by_cases q1 : a < 0
  · rw [if_pos q1] at h1
    rw [show U a / 2 ^ 63 = 1 by omega, decide_eq_true q1]
    by_cases q2 : b < 0
    · rw [if_pos q2] at h2
      rw [show U b / 2 ^ 63 = 1 by omega, decide_eq_true q2]
      decide
    · rw [if_neg q2] at h2
      rw [show U b / 2 ^ 63 = 0 by omega, decide_eq_false q2]
      decide
  · rw [if_neg q1] at h1
    rw [show U a / 2 ^ 63 = 0 by omega, decide_eq_false q1, Nat.zero_and]
    simp (implicitDefEqProofs := false) only [Bool.false_and]
    decide
theorem xor_sg (ha : L64 a) (hb : L64 b) : l_and (l_xor a b) NV_9223372036854775808 = sgn (decide (a < 0) != decide (b < 0)) := by
  have h1 := U_sgn ha
  have h2 := U_sgn hb
  have h3 := mg_lt a
  have h4 := mg_lt b
  have hl : U a ^^^ U b < 18446744073709551616 := Nat.xor_lt_two_pow (n := 64) (U_lt a) (U_lt b)
  rw [NV_9223372036854775808_e, l_and_U, l_xor_U, U_UI hl, show U (-9223372036854775808) = 1 * 2 ^ 63 from rfl, and_hi, Nat.xor_div_two_pow]
  by_cases q1 : a < 0
  · rw [if_pos q1] at h1
    rw [show U a / 2 ^ 63 = 1 by omega, decide_eq_true q1]
    by_cases q2 : b < 0
    · rw [if_pos q2] at h2
      rw [show U b / 2 ^ 63 = 1 by omega, decide_eq_true q2]
      decide
    · rw [if_neg q2] at h2
      rw [show U b / 2 ^ 63 = 0 by omega, decide_eq_false q2]
      decide
  · rw [if_neg q1] at h1
    rw [show U a / 2 ^ 63 = 0 by omega, decide_eq_false q1]
    by_cases q2 : b < 0
    · rw [if_pos q2] at h2
      rw [show U b / 2 ^ 63 = 1 by omega, decide_eq_true q2]
      decide
    · rw [if_neg q2] at h2
      rw [show U b / 2 ^ 63 = 0 by omega, decide_eq_false q2]
      decide
theorem jm_le {m n : Nat} : jm m n ≤ m / 2 ^ n + 1 := by
  by_cases h : m % 2 ^ n = 0
  · rw [jm_exact h]; omega
  · exact (jm_odd h).2.2.2
theorem jm_lt {c n : Nat} (hc : c < 9007199254740992) : jm (c * 256) n < 2305843009213693953 := by
  have h1 := jm_le (m := c * 256) (n := n)
  have h2 := Nat.div_le_self (c * 256) (2 ^ n)
  omega
theorem dv_nanL {x y : FP.Core.Datum} (h : x = .nan ∨ y = .nan) : FP.Core.round FP.Core.b64 (FP.Core.exactSum x y) = .nan := by
  rcases h with e | e
  · rw [e]; rfl
  · rw [e]; cases x <;> rfl
theorem pl_norm {x : Int} (hx : -1074 < pl x) : 4503599627370496 ≤ dg x := by
  unfold pl at hx
  unfold dg
  rw [if_neg (by omega)]
  omega
theorem sg_eq {s t : Bool} {c : Nat} {n : Int} (hs : s = t) : FP.Core.signed s c = (if t then -(c : Int) else c) := by subst hs; rfl
/-- sums of finite ones -/
theorem fin_sum (ha : L64 a) (hb : L64 b) (fa : mg a < 9218868437227405312) (fb : mg b < 9218868437227405312) {W : Int}
    (hW : W = FP.Core.signed (decide (a < 0)) (jm (dg a * 256) (max (pl a) (pl b) - pl a).toNat) + FP.Core.signed (decide (b < 0)) (jm (dg b * 256) (max (pl a) (pl b) - pl b).toNat)) :
    (W = 0 → FP.Core.val64 (FP.dadd (d_U a) (d_U b)) = rr (decide (a < 0) && decide (b < 0)) 0 1 0) ∧ (W ≠ 0 → FP.Core.val64 (FP.dadd (d_U a) (d_U b)) = rr (decide (W < 0)) W.natAbs 1 (max (pl a) (pl b) - 8)) := by
  have e0 : FP.Core.val64 (FP.dadd (d_U a) (d_U b)) = _ := FP.Core.val64_dadd _ _
  have e1 : FP.Core.val64 (d_U a) = _ := dv_fin ha fa
  have e2 : FP.Core.val64 (d_U b) = _ := dv_fin hb fb
  rw [e1, e2, sgn_add] at e0
  have k1 := dg_lt a
  have k2 := dg_lt b
  have k3 := pl_rng a
  have k4 := pl_rng b
  have jx : ∀ m : Nat, jm m 0 = m := fun m => by unfold jm; rw [Nat.pow_zero, Nat.mod_one, if_pos rfl, Nat.or_zero, Nat.div_one]
  have key : (W = 0 ↔ FP.Core.sumUnits (decide (a < 0)) (dg a) (pl a) (decide (b < 0)) (dg b) (pl b) (min (pl a) (pl b)) = 0) ∧ (W < 0 ↔ FP.Core.sumUnits (decide (a < 0)) (dg a) (pl a) (decide (b < 0)) (dg b) (pl b) (min (pl a) (pl b)) < 0) ∧ ∀ z : Bool, rr z (FP.Core.sumUnits (decide (a < 0)) (dg a) (pl a) (decide (b < 0)) (dg b) (pl b) (min (pl a) (pl b))).natAbs 1 (min (pl a) (pl b)) = rr z W.natAbs 1 (max (pl a) (pl b) - 8) := by
    by_cases hc : pl b ≤ pl a
    · have m1 : max (pl a) (pl b) = pl a := by omega
      have m2 : min (pl a) (pl b) = pl b := by omega
      rw [m1] at hW ⊢
      rw [m2]
      rw [show (pl a - pl a).toNat = 0 by omega, jx] at hW
      exact sum_rr k1 k2 hc (fun q => pl_norm (by omega)) hW rfl
    · have m1 : max (pl a) (pl b) = pl b := by omega
      have m2 : min (pl a) (pl b) = pl a := by omega
      rw [m1] at hW ⊢
      rw [m2, FP.Core.sumUnits_comm]
      rw [show (pl b - pl b).toNat = 0 by omega, jx, Int.add_comm] at hW
      exact sum_rr k2 k1 (by omega) (fun q => pl_norm (by omega)) hW rfl
  obtain ⟨z1, z2, z3⟩ := key
  refine ⟨fun h0 => ?_, fun h0 => ?_⟩
  · rw [e0, z1.mp h0, show Int.natAbs 0 = 0 from rfl]
    unfold rr FP.Core.roundRatio FP.Core.sumSign
    rw [if_pos rfl, if_pos rfl, if_pos rfl]
  · rw [e0]
    unfold FP.Core.sumSign
    rw [if_neg (fun q => h0 (z1.mpr q)), z3]
    congr 1
    exact decide_eq_decide.mpr z2.symm
theorem inf_eq (ha : L64 a) (hb : L64 b) (ia : mg a = 9218868437227405312) (ib : mg b = 9218868437227405312) : a = b ↔ decide (a < 0) = decide (b < 0) := by
  constructor
  · intro e; rw [e]
  · intro e
    rw [← sm_of ha, ← sm_of hb, e, ia, ib]
theorem rg_0 {A : Nat} (ja : A < 2305843009213693953) : L64 (-(A : Int)) := by omega
theorem rg_1 {A B : Nat} (ja : A < 2305843009213693953) (jb : B < 2305843009213693953) : L64 ((A : Int) + (B : Int)) := by omega
theorem rg_2 {A B : Nat} (ja : A < 2305843009213693953) (jb : B < 2305843009213693953) : L64 (-(A : Int) + (B : Int)) := by omega
theorem rg_3 {A B : Nat} (ja : A < 2305843009213693953) (jb : B < 2305843009213693953) : L64 ((A : Int) + -(B : Int)) := by omega
theorem rg_4 {A B : Nat} (ja : A < 2305843009213693953) (jb : B < 2305843009213693953) : L64 (-(A : Int) + -(B : Int)) := by omega
theorem s201 (ha : L64 a) (hb : L64 b) : Sp fz (d + 2) 201 [(1, a), (1, b)] h Q = Q (cn (FP.dadd (d_U a) (d_U b))) h := by
  have hv : FP.Core.val64 (FP.dadd (d_U a) (d_U b)) = FP.Core.round FP.Core.b64 (FP.Core.exactSum (dv a) (dv b)) := FP.Core.val64_dadd _ _
  by_cases na : 9218868437227405312 < mg a
  · simp (implicitDefEqProofs := false) only [sp201, b201_0, b201_1, b201_2, b201_3, b201_4, b201_5, b201_6, b201_7, b201_8, b201_9, n201_10, n201_11, q201_1, q201_2, q201_3, q201_4, q201_5, q201_6, q201_7, q201_8, q201_9, q201_10, q201_11, x_bipush, y_call101, y_call102, y_call104, y_call106, y_call202, y_call98, x_goto_1, x_goto_10, x_goto_4, x_goto_8, x_iconst, x_ifCond_eq_2, x_ifCond_eq_3, x_ifCond_eq_5, x_ifCond_eq_6, x_ifCond_ge_7, x_ifCond_ge_9, x_ifCond_ne_1, x_ifCond_ne_11, x_iload4, x_imax, x_istore4, x_isub, x_labs, x_ladd, x_land, x_lcmp, x_lload0, x_lload2, x_lload5, x_lload7, x_lload9, x_lneg, x_lreturn, x_lshl, x_lstore5, x_lstore7, x_lstore9, klp_0, klp_1, klp_2, klp_3, klp_9, KC_0, KC_1, KC_2, KC_3, KC_4, ne_eq, not_false_eq_true, not_true_eq_false, true_and, and_true, and_self, implies_true, eq_self, true_imp_iff, false_implies, Int.reduceEq, Int.reduceNe, Int.reduceMod, Int.reduceMul, Int.reduceAdd, Int.reduceSub, Int.reduceLT, Int.reduceLE, Nat.reduceAdd, Nat.reduceLeDiff, Nat.reduceLT, Nat.reduceSub, reduceIte, wds_n, wds_0, wds_1, wds_2, wds_3, or_true, true_or, or_false, false_or, or_self, d_pos, d_s1, d_s2, d_s3, d_s4, d_s5, d_s6, d_s7, d_s8, Classical.not_not, s101, bz0, na]
    rw [cn_nan (u := FP.dadd (d_U a) (d_U b)) (by rw [hv]; exact dv_nanL (.inl (dv_nan ha na)))]
  by_cases nb : 9218868437227405312 < mg b
  · simp (implicitDefEqProofs := false) only [sp201, b201_0, b201_1, b201_2, b201_3, b201_4, b201_5, b201_6, b201_7, b201_8, b201_9, n201_10, n201_11, q201_1, q201_2, q201_3, q201_4, q201_5, q201_6, q201_7, q201_8, q201_9, q201_10, q201_11, x_bipush, y_call101, y_call102, y_call104, y_call106, y_call202, y_call98, x_goto_1, x_goto_10, x_goto_4, x_goto_8, x_iconst, x_ifCond_eq_2, x_ifCond_eq_3, x_ifCond_eq_5, x_ifCond_eq_6, x_ifCond_ge_7, x_ifCond_ge_9, x_ifCond_ne_1, x_ifCond_ne_11, x_iload4, x_imax, x_istore4, x_isub, x_labs, x_ladd, x_land, x_lcmp, x_lload0, x_lload2, x_lload5, x_lload7, x_lload9, x_lneg, x_lreturn, x_lshl, x_lstore5, x_lstore7, x_lstore9, klp_0, klp_1, klp_2, klp_3, klp_9, KC_0, KC_1, KC_2, KC_3, KC_4, ne_eq, not_false_eq_true, not_true_eq_false, true_and, and_true, and_self, implies_true, eq_self, true_imp_iff, false_implies, Int.reduceEq, Int.reduceNe, Int.reduceMod, Int.reduceMul, Int.reduceAdd, Int.reduceSub, Int.reduceLT, Int.reduceLE, Nat.reduceAdd, Nat.reduceLeDiff, Nat.reduceLT, Nat.reduceSub, reduceIte, wds_n, wds_0, wds_1, wds_2, wds_3, or_true, true_or, or_false, false_or, or_self, d_pos, d_s1, d_s2, d_s3, d_s4, d_s5, d_s6, d_s7, d_s8, Classical.not_not, s101, bz0, na, nb]
    rw [cn_nan (u := FP.dadd (d_U a) (d_U b)) (by rw [hv]; exact dv_nanL (.inr (dv_nan hb nb)))]
  by_cases ia : mg a = 9218868437227405312
  · by_cases ib : mg b = 9218868437227405312
    · by_cases hab : a = b
      · simp (implicitDefEqProofs := false) only [sp201, b201_0, b201_1, b201_2, b201_3, b201_4, b201_5, b201_6, b201_7, b201_8, b201_9, n201_10, n201_11, q201_1, q201_2, q201_3, q201_4, q201_5, q201_6, q201_7, q201_8, q201_9, q201_10, q201_11, x_bipush, y_call101, y_call102, y_call104, y_call106, y_call202, y_call98, x_goto_1, x_goto_10, x_goto_4, x_goto_8, x_iconst, x_ifCond_eq_2, x_ifCond_eq_3, x_ifCond_eq_5, x_ifCond_eq_6, x_ifCond_ge_7, x_ifCond_ge_9, x_ifCond_ne_1, x_ifCond_ne_11, x_iload4, x_imax, x_istore4, x_isub, x_labs, x_ladd, x_land, x_lcmp, x_lload0, x_lload2, x_lload5, x_lload7, x_lload9, x_lneg, x_lreturn, x_lshl, x_lstore5, x_lstore7, x_lstore9, klp_0, klp_1, klp_2, klp_3, klp_9, KC_0, KC_1, KC_2, KC_3, KC_4, ne_eq, not_false_eq_true, not_true_eq_false, true_and, and_true, and_self, implies_true, eq_self, true_imp_iff, false_implies, Int.reduceEq, Int.reduceNe, Int.reduceMod, Int.reduceMul, Int.reduceAdd, Int.reduceSub, Int.reduceLT, Int.reduceLE, Nat.reduceAdd, Nat.reduceLeDiff, Nat.reduceLT, Nat.reduceSub, reduceIte, wds_n, wds_0, wds_1, wds_2, wds_3, or_true, true_or, or_false, false_or, or_self, d_pos, d_s1, d_s2, d_s3, d_s4, d_s5, d_s6, d_s7, d_s8, Classical.not_not, s101, s102, bz0, na, nb, ia, ib, lc_eq, hab]
        refine congrArg (fun z => Q z h) (cn_of (x := b) (u := FP.dadd (d_U b) (d_U b)) hb ?_ ?_)
        · rw [hab] at hv
          rw [hv, dv_inf hb ib]
          simp (implicitDefEqProofs := false) only [FP.Core.exactSum, if_true]
          rfl
        · exact dv_num hb nb
      · simp (implicitDefEqProofs := false) only [sp201, b201_0, b201_1, b201_2, b201_3, b201_4, b201_5, b201_6, b201_7, b201_8, b201_9, n201_10, n201_11, q201_1, q201_2, q201_3, q201_4, q201_5, q201_6, q201_7, q201_8, q201_9, q201_10, q201_11, x_bipush, y_call101, y_call102, y_call104, y_call106, y_call202, y_call98, x_goto_1, x_goto_10, x_goto_4, x_goto_8, x_iconst, x_ifCond_eq_2, x_ifCond_eq_3, x_ifCond_eq_5, x_ifCond_eq_6, x_ifCond_ge_7, x_ifCond_ge_9, x_ifCond_ne_1, x_ifCond_ne_11, x_iload4, x_imax, x_istore4, x_isub, x_labs, x_ladd, x_land, x_lcmp, x_lload0, x_lload2, x_lload5, x_lload7, x_lload9, x_lneg, x_lreturn, x_lshl, x_lstore5, x_lstore7, x_lstore9, klp_0, klp_1, klp_2, klp_3, klp_9, KC_0, KC_1, KC_2, KC_3, KC_4, ne_eq, not_false_eq_true, not_true_eq_false, true_and, and_true, and_self, implies_true, eq_self, true_imp_iff, false_implies, Int.reduceEq, Int.reduceNe, Int.reduceMod, Int.reduceMul, Int.reduceAdd, Int.reduceSub, Int.reduceLT, Int.reduceLE, Nat.reduceAdd, Nat.reduceLeDiff, Nat.reduceLT, Nat.reduceSub, reduceIte, wds_n, wds_0, wds_1, wds_2, wds_3, or_true, true_or, or_false, false_or, or_self, d_pos, d_s1, d_s2, d_s3, d_s4, d_s5, d_s6, d_s7, d_s8, Classical.not_not, s101, s102, bz0, na, nb, ia, ib, lc_eq, hab]
        rw [cn_nan (u := FP.dadd (d_U a) (d_U b))]
        rw [hv, dv_inf ha ia, dv_inf hb ib]
        simp (implicitDefEqProofs := false) only [FP.Core.exactSum]
        rw [if_neg (fun q => hab ((inf_eq ha hb ia ib).mpr q))]
        rfl
    · simp (implicitDefEqProofs := false) only [sp201, b201_0, b201_1, b201_2, b201_3, b201_4, b201_5, b201_6, b201_7, b201_8, b201_9, n201_10, n201_11, q201_1, q201_2, q201_3, q201_4, q201_5, q201_6, q201_7, q201_8, q201_9, q201_10, q201_11, x_bipush, y_call101, y_call102, y_call104, y_call106, y_call202, y_call98, x_goto_1, x_goto_10, x_goto_4, x_goto_8, x_iconst, x_ifCond_eq_2, x_ifCond_eq_3, x_ifCond_eq_5, x_ifCond_eq_6, x_ifCond_ge_7, x_ifCond_ge_9, x_ifCond_ne_1, x_ifCond_ne_11, x_iload4, x_imax, x_istore4, x_isub, x_labs, x_ladd, x_land, x_lcmp, x_lload0, x_lload2, x_lload5, x_lload7, x_lload9, x_lneg, x_lreturn, x_lshl, x_lstore5, x_lstore7, x_lstore9, klp_0, klp_1, klp_2, klp_3, klp_9, KC_0, KC_1, KC_2, KC_3, KC_4, ne_eq, not_false_eq_true, not_true_eq_false, true_and, and_true, and_self, implies_true, eq_self, true_imp_iff, false_implies, Int.reduceEq, Int.reduceNe, Int.reduceMod, Int.reduceMul, Int.reduceAdd, Int.reduceSub, Int.reduceLT, Int.reduceLE, Nat.reduceAdd, Nat.reduceLeDiff, Nat.reduceLT, Nat.reduceSub, reduceIte, wds_n, wds_0, wds_1, wds_2, wds_3, or_true, true_or, or_false, false_or, or_self, d_pos, d_s1, d_s2, d_s3, d_s4, d_s5, d_s6, d_s7, d_s8, Classical.not_not, s101, s102, bz0, na, nb, ia, ib, lc_eq]
      refine congrArg (fun z => Q z h) (cn_of (x := a) (u := FP.dadd (d_U a) (d_U b)) ha ?_ ?_)
      · rw [hv, dv_inf ha ia, dv_fin hb (by omega)]
        rfl
      · exact dv_num ha na
  by_cases ib : mg b = 9218868437227405312
  · simp (implicitDefEqProofs := false) only [sp201, b201_0, b201_1, b201_2, b201_3, b201_4, b201_5, b201_6, b201_7, b201_8, b201_9, n201_10, n201_11, q201_1, q201_2, q201_3, q201_4, q201_5, q201_6, q201_7, q201_8, q201_9, q201_10, q201_11, x_bipush, y_call101, y_call102, y_call104, y_call106, y_call202, y_call98, x_goto_1, x_goto_10, x_goto_4, x_goto_8, x_iconst, x_ifCond_eq_2, x_ifCond_eq_3, x_ifCond_eq_5, x_ifCond_eq_6, x_ifCond_ge_7, x_ifCond_ge_9, x_ifCond_ne_1, x_ifCond_ne_11, x_iload4, x_imax, x_istore4, x_isub, x_labs, x_ladd, x_land, x_lcmp, x_lload0, x_lload2, x_lload5, x_lload7, x_lload9, x_lneg, x_lreturn, x_lshl, x_lstore5, x_lstore7, x_lstore9, klp_0, klp_1, klp_2, klp_3, klp_9, KC_0, KC_1, KC_2, KC_3, KC_4, ne_eq, not_false_eq_true, not_true_eq_false, true_and, and_true, and_self, implies_true, eq_self, true_imp_iff, false_implies, Int.reduceEq, Int.reduceNe, Int.reduceMod, Int.reduceMul, Int.reduceAdd, Int.reduceSub, Int.reduceLT, Int.reduceLE, Nat.reduceAdd, Nat.reduceLeDiff, Nat.reduceLT, Nat.reduceSub, reduceIte, wds_n, wds_0, wds_1, wds_2, wds_3, or_true, true_or, or_false, false_or, or_self, d_pos, d_s1, d_s2, d_s3, d_s4, d_s5, d_s6, d_s7, d_s8, Classical.not_not, s101, s102, bz0, na, nb, ia, ib, lc_eq]
    refine congrArg (fun z => Q z h) (cn_of (x := b) (u := FP.dadd (d_U a) (d_U b)) hb ?_ ?_)
    · rw [hv, dv_inf hb ib, dv_fin ha (by omega)]
      rfl
    · exact dv_num hb nb
  -- both finite
  have k1 := dg_lt a
  have k2 := dg_lt b
  have k3 := pl_rng a
  have k4 := pl_rng b
  have sh : ∀ c : Nat, c < 9007199254740992 → l_shl (c : Int) 8 = ((c * 256 : Nat) : Int) := by
    intro c hc
    have := l_shl_eq (x := (c : Int)) (n := 8) (by omega) (by decide)
    rw [show ((8 : Nat) : Int) = 8 from rfl] at this
    rw [this, show (2 : Nat) ^ 8 = 256 from rfl, w64_id (by omega)]
    omega
  obtain ⟨u, hu⟩ : ∃ u, (max (pl a) (pl b) - pl a).toNat = u := ⟨_, rfl⟩
  obtain ⟨v, hv'⟩ : ∃ v, (max (pl a) (pl b) - pl b).toNat = v := ⟨_, rfl⟩
  have wa : max (pl a) (pl b) - pl a = (u : Int) := by omega
  have wb : max (pl a) (pl b) - pl b = (v : Int) := by omega
  obtain ⟨A, hA⟩ : ∃ A, jm (dg a * 256) u = A := ⟨_, rfl⟩
  obtain ⟨B, hB⟩ : ∃ B, jm (dg b * 256) v = B := ⟨_, rfl⟩
  have ja := jm_lt (n := u) k1
  have jb := jm_lt (n := v) k2
  rw [hA] at ja
  rw [hB] at jb
  obtain ⟨hz, hnz⟩ := fin_sum (W := FP.Core.signed (decide (a < 0)) A + FP.Core.signed (decide (b < 0)) B) ha hb (by omega) (by omega) (by rw [hu, hv', hA, hB])
  have sA : Sp fz (d + 1) 202 [(1, ((dg a * 256 : Nat) : Int)), (0, (u : Int))] = fun h Q => Q (A : Int) h := by
    funext h Q
    rw [s202 (by omega), hA]
  have sB : Sp fz (d + 1) 202 [(1, ((dg b * 256 : Nat) : Int)), (0, (v : Int))] = fun h Q => Q (B : Int) h := by
    funext h Q
    rw [s202 (by omega), hB]
  have fin : ∀ W : Int, W = FP.Core.signed (decide (a < 0)) A + FP.Core.signed (decide (b < 0)) B → L64 W → ((¬ W = 0 → Sp fz (d + 1) 98 [(1, l_and W NV_9223372036854775808), (1, max W (w64 (-W))), (0, max (pl a) (pl b) - 8)] h Q) ∧ (W = 0 → Q (l_and (l_and a b) NV_9223372036854775808) h)) = Q (cn (FP.dadd (d_U a) (d_U b))) h := by
    intro W hW hL
    have hWa : W.natAbs < 9223372036854775808 := by rw [hW]; unfold FP.Core.signed; split <;> split <;> omega
    subst hW
    refine propext ⟨fun q => ?_, fun q => ⟨fun h0 => ?_, fun h0 => ?_⟩⟩
    · by_cases h0 : FP.Core.signed (decide (a < 0)) A + FP.Core.signed (decide (b < 0)) B = 0
      · have q2 := q.2 h0
        rw [and_sg ha hb] at q2
        rw [← cn_rr (m := 0) (by decide) (hz h0), if_pos rfl]
        exact q2
      · have q2 := q.1 h0
        rw [sg_of hL, w64_neg hL, if_neg (by omega), s98 hWa (by omega), cn_rr hWa (hnz h0)] at q2
        exact q2
    · rw [sg_of hL, w64_neg hL, if_neg (by omega), s98 hWa (by omega), cn_rr hWa (hnz h0)]
      exact q
    · rw [and_sg ha hb]
      rw [← cn_rr (m := 0) (by decide) (hz h0), if_pos rfl] at q
      exact q
  unfold FP.Core.signed at fin
  by_cases qa : a < 0
  · have f1 : (0 ≤ a) = False := eq_false (by omega)
    have nA : w64 (-(A : Int)) = -(A : Int) := w64_id (rg_0 ja)
    by_cases qb : b < 0
    · have f2 : (0 ≤ b) = False := eq_false (by omega)
      have nB : w64 (-(B : Int)) = -(B : Int) := w64_id (rg_0 jb)
      have nW : w64 (-(A : Int) + -(B : Int)) = -(A : Int) + -(B : Int) := w64_id (rg_4 ja jb)
      simp (implicitDefEqProofs := false) (disch := omega) only [sp201, b201_0, b201_1, b201_2, b201_3, b201_4, b201_5, b201_6, b201_7, b201_8, b201_9, n201_10, n201_11, q201_1, q201_2, q201_3, q201_4, q201_5, q201_6, q201_7, q201_8, q201_9, q201_10, q201_11, x_bipush, y_call101, y_call102, y_call104, y_call106, y_call202, y_call98, x_goto_1, x_goto_10, x_goto_4, x_goto_8, x_iconst, x_ifCond_eq_2, x_ifCond_eq_3, x_ifCond_eq_5, x_ifCond_eq_6, x_ifCond_ge_7, x_ifCond_ge_9, x_ifCond_ne_1, x_ifCond_ne_11, x_iload4, x_imax, x_istore4, x_isub, x_labs, x_ladd, x_land, x_lcmp, x_lload0, x_lload2, x_lload5, x_lload7, x_lload9, x_lneg, x_lreturn, x_lshl, x_lstore5, x_lstore7, x_lstore9, klp_0, klp_1, klp_2, klp_3, klp_9, KC_0, KC_1, KC_2, KC_3, KC_4, ne_eq, not_false_eq_true, not_true_eq_false, true_and, and_true, and_self, implies_true, eq_self, true_imp_iff, false_implies, Int.reduceEq, Int.reduceNe, Int.reduceMod, Int.reduceMul, Int.reduceAdd, Int.reduceSub, Int.reduceLT, Int.reduceLE, Nat.reduceAdd, Nat.reduceLeDiff, Nat.reduceLT, Nat.reduceSub, reduceIte, wds_n, wds_0, wds_1, wds_2, wds_3, or_true, true_or, or_false, false_or, or_self, d_pos, d_s1, d_s2, d_s3, d_s4, d_s5, d_s6, d_s7, d_s8, Classical.not_not, s101, s102, s104, s106, bz0, na, nb, ia, ib, lc_eq, lc_ge, sh _ k1, sh _ k2, w32_T, wa, wb, sA, sB, f1, f2, nA, nB, nW]
      exact fin _ (by rw [decide_eq_true qa, decide_eq_true qb]; rfl) (rg_4 ja jb)
    · have f2 : (0 ≤ b) = True := eq_true (by omega)
      have nW : w64 (-(A : Int) + (B : Int)) = -(A : Int) + (B : Int) := w64_id (rg_2 ja jb)
      simp (implicitDefEqProofs := false) (disch := omega) only [sp201, b201_0, b201_1, b201_2, b201_3, b201_4, b201_5, b201_6, b201_7, b201_8, b201_9, n201_10, n201_11, q201_1, q201_2, q201_3, q201_4, q201_5, q201_6, q201_7, q201_8, q201_9, q201_10, q201_11, x_bipush, y_call101, y_call102, y_call104, y_call106, y_call202, y_call98, x_goto_1, x_goto_10, x_goto_4, x_goto_8, x_iconst, x_ifCond_eq_2, x_ifCond_eq_3, x_ifCond_eq_5, x_ifCond_eq_6, x_ifCond_ge_7, x_ifCond_ge_9, x_ifCond_ne_1, x_ifCond_ne_11, x_iload4, x_imax, x_istore4, x_isub, x_labs, x_ladd, x_land, x_lcmp, x_lload0, x_lload2, x_lload5, x_lload7, x_lload9, x_lneg, x_lreturn, x_lshl, x_lstore5, x_lstore7, x_lstore9, klp_0, klp_1, klp_2, klp_3, klp_9, KC_0, KC_1, KC_2, KC_3, KC_4, ne_eq, not_false_eq_true, not_true_eq_false, true_and, and_true, and_self, implies_true, eq_self, true_imp_iff, false_implies, Int.reduceEq, Int.reduceNe, Int.reduceMod, Int.reduceMul, Int.reduceAdd, Int.reduceSub, Int.reduceLT, Int.reduceLE, Nat.reduceAdd, Nat.reduceLeDiff, Nat.reduceLT, Nat.reduceSub, reduceIte, wds_n, wds_0, wds_1, wds_2, wds_3, or_true, true_or, or_false, false_or, or_self, d_pos, d_s1, d_s2, d_s3, d_s4, d_s5, d_s6, d_s7, d_s8, Classical.not_not, s101, s102, s104, s106, bz0, na, nb, ia, ib, lc_eq, lc_ge, sh _ k1, sh _ k2, w32_T, wa, wb, sA, sB, f1, f2, nA, nW]
      exact fin _ (by rw [decide_eq_true qa, decide_eq_false qb]; rfl) (rg_2 ja jb)
  · have f1 : (0 ≤ a) = True := eq_true (by omega)
    by_cases qb : b < 0
    · have f2 : (0 ≤ b) = False := eq_false (by omega)
      have nB : w64 (-(B : Int)) = -(B : Int) := w64_id (rg_0 jb)
      have nW : w64 ((A : Int) + -(B : Int)) = (A : Int) + -(B : Int) := w64_id (rg_3 ja jb)
      simp (implicitDefEqProofs := false) (disch := omega) only [sp201, b201_0, b201_1, b201_2, b201_3, b201_4, b201_5, b201_6, b201_7, b201_8, b201_9, n201_10, n201_11, q201_1, q201_2, q201_3, q201_4, q201_5, q201_6, q201_7, q201_8, q201_9, q201_10, q201_11, x_bipush, y_call101, y_call102, y_call104, y_call106, y_call202, y_call98, x_goto_1, x_goto_10, x_goto_4, x_goto_8, x_iconst, x_ifCond_eq_2, x_ifCond_eq_3, x_ifCond_eq_5, x_ifCond_eq_6, x_ifCond_ge_7, x_ifCond_ge_9, x_ifCond_ne_1, x_ifCond_ne_11, x_iload4, x_imax, x_istore4, x_isub, x_labs, x_ladd, x_land, x_lcmp, x_lload0, x_lload2, x_lload5, x_lload7, x_lload9, x_lneg, x_lreturn, x_lshl, x_lstore5, x_lstore7, x_lstore9, klp_0, klp_1, klp_2, klp_3, klp_9, KC_0, KC_1, KC_2, KC_3, KC_4, ne_eq, not_false_eq_true, not_true_eq_false, true_and, and_true, and_self, implies_true, eq_self, true_imp_iff, false_implies, Int.reduceEq, Int.reduceNe, Int.reduceMod, Int.reduceMul, Int.reduceAdd, Int.reduceSub, Int.reduceLT, Int.reduceLE, Nat.reduceAdd, Nat.reduceLeDiff, Nat.reduceLT, Nat.reduceSub, reduceIte, wds_n, wds_0, wds_1, wds_2, wds_3, or_true, true_or, or_false, false_or, or_self, d_pos, d_s1, d_s2, d_s3, d_s4, d_s5, d_s6, d_s7, d_s8, Classical.not_not, s101, s102, s104, s106, bz0, na, nb, ia, ib, lc_eq, lc_ge, sh _ k1, sh _ k2, w32_T, wa, wb, sA, sB, f1, f2, nB, nW]
      exact fin _ (by rw [decide_eq_false qa, decide_eq_true qb]; rfl) (rg_3 ja jb)
    · have f2 : (0 ≤ b) = True := eq_true (by omega)
      have nW : w64 ((A : Int) + (B : Int)) = (A : Int) + (B : Int) := w64_id (rg_1 ja jb)
      simp (implicitDefEqProofs := false) (disch := omega) only [sp201, b201_0, b201_1, b201_2, b201_3, b201_4, b201_5, b201_6, b201_7, b201_8, b201_9, n201_10, n201_11, q201_1, q201_2, q201_3, q201_4, q201_5, q201_6, q201_7, q201_8, q201_9, q201_10, q201_11, x_bipush, y_call101, y_call102, y_call104, y_call106, y_call202, y_call98, x_goto_1, x_goto_10, x_goto_4, x_goto_8, x_iconst, x_ifCond_eq_2, x_ifCond_eq_3, x_ifCond_eq_5, x_ifCond_eq_6, x_ifCond_ge_7, x_ifCond_ge_9, x_ifCond_ne_1, x_ifCond_ne_11, x_iload4, x_imax, x_istore4, x_isub, x_labs, x_ladd, x_land, x_lcmp, x_lload0, x_lload2, x_lload5, x_lload7, x_lload9, x_lneg, x_lreturn, x_lshl, x_lstore5, x_lstore7, x_lstore9, klp_0, klp_1, klp_2, klp_3, klp_9, KC_0, KC_1, KC_2, KC_3, KC_4, ne_eq, not_false_eq_true, not_true_eq_false, true_and, and_true, and_self, implies_true, eq_self, true_imp_iff, false_implies, Int.reduceEq, Int.reduceNe, Int.reduceMod, Int.reduceMul, Int.reduceAdd, Int.reduceSub, Int.reduceLT, Int.reduceLE, Nat.reduceAdd, Nat.reduceLeDiff, Nat.reduceLT, Nat.reduceSub, reduceIte, wds_n, wds_0, wds_1, wds_2, wds_3, or_true, true_or, or_false, false_or, or_self, d_pos, d_s1, d_s2, d_s3, d_s4, d_s5, d_s6, d_s7, d_s8, Classical.not_not, s101, s102, s104, s106, bz0, na, nb, ia, ib, lc_eq, lc_ge, sh _ k1, sh _ k2, w32_T, wa, wb, sA, sB, f1, f2, nW]
      exact fin _ (by rw [decide_eq_false qa, decide_eq_false qb]; rfl) (rg_1 ja jb)
end RL
