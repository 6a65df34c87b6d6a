/-! THE PURE SIDE, 102: the reference's machine, reals: printed by wip/tools/gen89zf.py -/
theorem dvN {a : Int} (ha : L64 a) : dv a = .nan ↔ 9218868437227405312 < mg a := by
  constructor
  · intro e
    by_cases h : 9218868437227405312 < mg a
    · exact h
    · by_cases i : mg a = 9218868437227405312
      · rw [dv_inf ha i] at e; cases e
      · rw [dv_fin ha (by omega)] at e; cases e
  · exact dv_nan ha
theorem dvI {a : Int} {s : Bool} (ha : L64 a) : dv a = .inf s ↔ mg a = 9218868437227405312 ∧ decide (a < 0) = s := by
  constructor
  · intro e
    by_cases h : 9218868437227405312 < mg a
    · rw [dv_nan ha h] at e; cases e
    · by_cases i : mg a = 9218868437227405312
      · rw [dv_inf ha i] at e; exact ⟨i, FP.Core.Datum.inf.inj e⟩
      · rw [dv_fin ha (by omega)] at e; cases e
  · intro ⟨i, e⟩
    rw [dv_inf ha i, e]
theorem dvZ {a : Int} (ha : L64 a) : FP.Core.DZero (d_U a) ↔ mg a = 0 := by
  unfold FP.Core.DZero
  constructor
  · intro ⟨s, q, e⟩
    have e : dv a = _ := e
    by_cases h : 9218868437227405312 < mg a
    · rw [dv_nan ha h] at e; cases e
    · by_cases i : mg a = 9218868437227405312
      · rw [dv_inf ha i] at e; cases e
      · rw [dv_fin ha (by omega)] at e
        injection e with e1 e2 e3
        exact (dg_0 a).mp e2
  · intro z
    exact ⟨_, _, by rw [show FP.Core.val64 (d_U a) = _ from dv_fin ha (by omega), (dg_0 a).mpr z]⟩
theorem od_mg {a : Int} (ha : L64 a) : od a = if a < 0 then -((mg a : Nat) : Int) else ((mg a : Nat) : Int) := by
  have h := U_sgn ha
  have h2 := mg_lt a
  unfold U at h
  unfold od
  by_cases c : a < 0
  · rw [if_pos c] at h
    rw [if_neg (by omega), if_pos c]
    omega
  · rw [if_neg c] at h
    rw [if_pos (by omega), if_neg c]
    omega
theorem neN {a : Int} (ha : L64 a) (na : ¬ 9218868437227405312 < mg a) : FP.Core.val64 (d_U a) ≠ .nan := fun e => na ((dvN ha).mp e)
theorem dcV {a b : Int} {op : CmpOp} (ha : L64 a) (hb : L64 b) (na : ¬ 9218868437227405312 < mg a) (nb : ¬ 9218868437227405312 < mg b) : d_cmp op a b = if od a < od b then -1 else if od a = od b then 0 else 1 := by
  unfold d_cmp
  rw [show FP.dcmp (d_U a) (d_U b) = _ from FP.Core.dcmp_key (neN ha na) (neN hb nb), od_key ha, od_key hb]
  by_cases h1 : od a < od b
  · rw [if_pos h1, show compare (od a) (od b) = .lt from (FP.Core.compare_lt_iff _ _).mpr h1]; rfl
  · rw [if_neg h1]
    by_cases h2 : od a = od b
    · rw [if_pos h2, show compare (od a) (od b) = .eq from (FP.Core.compare_eq_iff _ _).mpr h2]; rfl
    · rw [if_neg h2, show compare (od a) (od b) = .gt from (FP.Core.compare_gt_iff _ _).mpr (by omega)]; rfl
theorem dcN {a b : Int} (ha : L64 a) (hb : L64 b) (hn : 9218868437227405312 < mg a ∨ 9218868437227405312 < mg b) : d_cmp .l a b = -1 ∧ d_cmp .g a b = 1 := by
  unfold d_cmp
  rw [show FP.dcmp (d_U a) (d_U b) = none from (FP.Core.dcmp_none _ _).mpr (hn.imp (dvN ha).mpr (dvN hb).mpr)]
  exact ⟨rfl, rfl⟩
theorem dc_e {a b : Int} {op : CmpOp} (ha : L64 a) (hb : L64 b) (na : ¬ 9218868437227405312 < mg a) (nb : ¬ 9218868437227405312 < mg b) : (d_cmp op a b = 0) = (od a = od b) := by
  rw [dcV ha hb na nb]; apply propext; split <;> (try split) <;> omega
theorem dc_g {a b : Int} {op : CmpOp} (ha : L64 a) (hb : L64 b) (na : ¬ 9218868437227405312 < mg a) (nb : ¬ 9218868437227405312 < mg b) : (0 < d_cmp op a b) = (od b < od a) := by
  rw [dcV ha hb na nb]; apply propext; split <;> (try split) <;> omega
theorem dc_l {a b : Int} {op : CmpOp} (ha : L64 a) (hb : L64 b) (na : ¬ 9218868437227405312 < mg a) (nb : ¬ 9218868437227405312 < mg b) : (d_cmp op a b ≤ 0) = (od a ≤ od b) := by
  rw [dcV ha hb na nb]; apply propext; split <;> (try split) <;> omega
theorem dc_h {a b : Int} {op : CmpOp} (ha : L64 a) (hb : L64 b) (na : ¬ 9218868437227405312 < mg a) (nb : ¬ 9218868437227405312 < mg b) : (0 ≤ d_cmp op a b) = (od b ≤ od a) := by
  rw [dcV ha hb na nb]; apply propext; split <;> (try split) <;> omega
theorem mg_0 : mg 0 = 0 := by decide
theorem od_0 : od 0 = 0 := by decide
theorem mg_M : mg 9218868437227405311 = 9218868437227405311 := by decide
theorem od_M : od 9218868437227405311 = 9218868437227405311 := by decide
theorem mg_N : mg NV_4503599627370497 = 9218868437227405311 := by rw [NV_4503599627370497_e]; decide
theorem od_N : od NV_4503599627370497 = -9218868437227405311 := by rw [NV_4503599627370497_e]; decide
theorem L_N : L64 NV_4503599627370497 := by rw [NV_4503599627370497_e]; decide
theorem L_M : L64 9218868437227405311 := by decide
theorem L_0 : L64 0 := by decide
theorem nb_M : ¬ 9218868437227405312 < mg 9218868437227405311 := by rw [mg_M]; decide
theorem nb_N : ¬ 9218868437227405312 < mg NV_4503599627370497 := by rw [mg_N]; decide
theorem nb_0 : ¬ 9218868437227405312 < mg 0 := by rw [mg_0]; decide
theorem snl_of {a : Int} (ha : L64 a) (h : a = 9221120237041090560 ∨ ¬ 9218868437227405312 < mg a) : vn_snl2d (Int64.ofInt a) = false := by
  unfold vn_snl2d
  rcases h with e | e
  · subst e; decide +kernel
  · have v := vf_of (neN ha e)
    unfold vf_n64 at v
    unfold d_U at v
    rw [decide_eq_false (by intro w; exact absurd (UInt64.lt_of_lt_of_le w v) (by simp))]
    rfl
theorem v398 {d : Nat} {h : HV} {Q : Int → HV → Prop} {a : Int} (ha : L64 a) : Sp fz1 d 398 [(2, a)] h Q = Q (if 9218868437227405312 < mg a then 1 else 0) h := by
  by_cases a1 : 9218868437227405312 < mg a
  · simp (implicitDefEqProofs := false) (disch := omega) only [sp398, b398_0, b398_1, b398_2, q398_1, q398_2, x_dcmp, x_dload0, x_freturn, x_goto_2, x_iconst, x_ifCond_eq_1, klp_0, klp_1, klp_2, klp_3, klp_9, KC_0, KC_1, KC_2, KC_3, KC_4, ne_eq, not_false_eq_true, not_true_eq_false, true_and, and_true, and_self, implies_true, eq_self, true_imp_iff, false_implies, Int.reduceEq, Int.reduceNe, Int.reduceMod, Int.reduceMul, Int.reduceAdd, Int.reduceSub, Int.reduceLT, Int.reduceLE, Nat.reduceAdd, Nat.reduceLeDiff, Nat.reduceLT, Nat.reduceSub, reduceIte, wds_n, wds_0, wds_1, wds_2, wds_3, or_true, true_or, or_false, false_or, or_self, false_and, and_false, d_pos, d_s1, d_s2, d_s3, d_s4, d_s5, d_s6, d_s7, d_s8, Classical.not_not, (dcN ha ha (.inl a1)).1, a1, le_sub1, le_T, le_F, lt_T, lt_F, eq_F, w32_T, bz0, bz1, lc_le, lc_ge, lc_lt, lc_gt, lc_eq]
  · simp (implicitDefEqProofs := false) (disch := omega) only [sp398, b398_0, b398_1, b398_2, q398_1, q398_2, x_dcmp, x_dload0, x_freturn, x_goto_2, x_iconst, x_ifCond_eq_1, klp_0, klp_1, klp_2, klp_3, klp_9, KC_0, KC_1, KC_2, KC_3, KC_4, ne_eq, not_false_eq_true, not_true_eq_false, true_and, and_true, and_self, implies_true, eq_self, true_imp_iff, false_implies, Int.reduceEq, Int.reduceNe, Int.reduceMod, Int.reduceMul, Int.reduceAdd, Int.reduceSub, Int.reduceLT, Int.reduceLE, Nat.reduceAdd, Nat.reduceLeDiff, Nat.reduceLT, Nat.reduceSub, reduceIte, wds_n, wds_0, wds_1, wds_2, wds_3, or_true, true_or, or_false, false_or, or_self, false_and, and_false, d_pos, d_s1, d_s2, d_s3, d_s4, d_s5, d_s6, d_s7, d_s8, Classical.not_not, dc_e ha ha, a1, le_sub1, le_T, le_F, lt_T, lt_F, eq_F, w32_T, bz0, bz1, lc_le, lc_ge, lc_lt, lc_gt, lc_eq]
theorem v397 {d : Nat} {h : HV} {Q : Int → HV → Prop} {a : Int} (ha : L64 a) : Sp fz1 (d + 1) 397 [(2, a)] h Q = Q (if 9218868437227405312 < mg a then 9221120237041090560 else a) h := by
  by_cases a1 : 9218868437227405312 < mg a <;> (try (exfalso; omega)) <;> simp (implicitDefEqProofs := false) (disch := omega) only [sp397, b397_0, b397_1, q397_1, x_bipush, y_call398, x_d2l, x_dload0, x_ifCond_ne_1, x_lreturn, klp_0, klp_1, klp_2, klp_3, klp_9, KC_0, KC_1, KC_2, KC_3, KC_4, ne_eq, not_false_eq_true, not_true_eq_false, true_and, and_true, and_self, implies_true, eq_self, true_imp_iff, false_implies, Int.reduceEq, Int.reduceNe, Int.reduceMod, Int.reduceMul, Int.reduceAdd, Int.reduceSub, Int.reduceLT, Int.reduceLE, Nat.reduceAdd, Nat.reduceLeDiff, Nat.reduceLT, Nat.reduceSub, reduceIte, wds_n, wds_0, wds_1, wds_2, wds_3, or_true, true_or, or_false, false_or, or_self, false_and, and_false, d_pos, d_s1, d_s2, d_s3, d_s4, d_s5, d_s6, d_s7, d_s8, Classical.not_not, v398 ha, bz1, bz0, a1, le_sub1, le_T, le_F, lt_T, lt_F, eq_F, w32_T, lc_le, lc_ge, lc_lt, lc_gt, lc_eq] <;> first | rfl | (rw [if_pos (by omega)] <;> rfl) | (rw [if_neg (by omega)] <;> rfl) | (exfalso; omega)
theorem v396 {d : Nat} {h : HV} {Q : Int → HV → Prop} {a : Int} (ha : L64 a) : Sp fz1 (d + 2) 396 [(2, a)] h Q = Q (if 9218868437227405312 < mg a then 9221120237041090560 else a) h := by
  by_cases a1 : 9218868437227405312 < mg a <;> (try (exfalso; omega)) <;> simp (implicitDefEqProofs := false) (disch := omega) only [sp396, b396_0, y_call397, x_dload0, x_lreturn, klp_0, klp_1, klp_2, klp_3, klp_9, KC_0, KC_1, KC_2, KC_3, KC_4, ne_eq, not_false_eq_true, not_true_eq_false, true_and, and_true, and_self, implies_true, eq_self, true_imp_iff, false_implies, Int.reduceEq, Int.reduceNe, Int.reduceMod, Int.reduceMul, Int.reduceAdd, Int.reduceSub, Int.reduceLT, Int.reduceLE, Nat.reduceAdd, Nat.reduceLeDiff, Nat.reduceLT, Nat.reduceSub, reduceIte, wds_n, wds_0, wds_1, wds_2, wds_3, or_true, true_or, or_false, false_or, or_self, false_and, and_false, d_pos, d_s1, d_s2, d_s3, d_s4, d_s5, d_s6, d_s7, d_s8, Classical.not_not, v397 ha, a1, le_sub1, le_T, le_F, lt_T, lt_F, eq_F, w32_T, bz0, bz1, lc_le, lc_ge, lc_lt, lc_gt, lc_eq] <;> first | rfl | (rw [if_pos (by omega)] <;> rfl) | (rw [if_neg (by omega)] <;> rfl) | (exfalso; omega)
theorem v405 {d : Nat} {h : HV} {Q : Int → HV → Prop} {a : Int} (ha : L64 a) (na : ¬ 9218868437227405312 < mg a) : Sp fz1 d 405 [(2, a)] h Q = Q (if mg a = 9218868437227405312 then 1 else 0) h := by
  have o1 := od_mg ha
  by_cases c : a < 0
  · rw [if_pos c] at o1
    by_cases i : mg a = 9218868437227405312
    · rw [if_pos i]
      simp (implicitDefEqProofs := false) (disch := omega) only [sp405, n405_0, b405_1, b405_2, b405_3, q405_1, q405_2, q405_3, x_dcmp, x_dload0, x_freturn, x_goto_1, x_goto_3, x_iconst, x_ifCond_ge_2, x_ifCond_gt_1, x_sipush, klp_0, klp_1, klp_2, klp_3, klp_9, KC_0, KC_1, KC_2, KC_3, KC_4, ne_eq, not_false_eq_true, not_true_eq_false, true_and, and_true, and_self, implies_true, eq_self, true_imp_iff, false_implies, Int.reduceEq, Int.reduceNe, Int.reduceMod, Int.reduceMul, Int.reduceAdd, Int.reduceSub, Int.reduceLT, Int.reduceLE, Nat.reduceAdd, Nat.reduceLeDiff, Nat.reduceLT, Nat.reduceSub, reduceIte, wds_n, wds_0, wds_1, wds_2, wds_3, or_true, true_or, or_false, false_or, or_self, false_and, and_false, d_pos, d_s1, d_s2, d_s3, d_s4, d_s5, d_s6, d_s7, d_s8, Classical.not_not, dc_g ha L_M na nb_M, dc_h ha L_N na nb_N, od_M, od_N, le_sub1, le_T, le_F, lt_T, lt_F, eq_F, w32_T, bz0, bz1, lc_le, lc_ge, lc_lt, lc_gt, lc_eq]
    · rw [if_neg i]
      simp (implicitDefEqProofs := false) (disch := omega) only [sp405, n405_0, b405_1, b405_2, b405_3, q405_1, q405_2, q405_3, x_dcmp, x_dload0, x_freturn, x_goto_1, x_goto_3, x_iconst, x_ifCond_ge_2, x_ifCond_gt_1, x_sipush, klp_0, klp_1, klp_2, klp_3, klp_9, KC_0, KC_1, KC_2, KC_3, KC_4, ne_eq, not_false_eq_true, not_true_eq_false, true_and, and_true, and_self, implies_true, eq_self, true_imp_iff, false_implies, Int.reduceEq, Int.reduceNe, Int.reduceMod, Int.reduceMul, Int.reduceAdd, Int.reduceSub, Int.reduceLT, Int.reduceLE, Nat.reduceAdd, Nat.reduceLeDiff, Nat.reduceLT, Nat.reduceSub, reduceIte, wds_n, wds_0, wds_1, wds_2, wds_3, or_true, true_or, or_false, false_or, or_self, false_and, and_false, d_pos, d_s1, d_s2, d_s3, d_s4, d_s5, d_s6, d_s7, d_s8, Classical.not_not, dc_g ha L_M na nb_M, dc_h ha L_N na nb_N, od_M, od_N, le_sub1, le_T, le_F, lt_T, lt_F, eq_F, w32_T, bz0, bz1, lc_le, lc_ge, lc_lt, lc_gt, lc_eq]
  · rw [if_neg c] at o1
    by_cases i : mg a = 9218868437227405312
    · rw [if_pos i]
      simp (implicitDefEqProofs := false) (disch := omega) only [sp405, n405_0, b405_1, b405_2, b405_3, q405_1, q405_2, q405_3, x_dcmp, x_dload0, x_freturn, x_goto_1, x_goto_3, x_iconst, x_ifCond_ge_2, x_ifCond_gt_1, x_sipush, klp_0, klp_1, klp_2, klp_3, klp_9, KC_0, KC_1, KC_2, KC_3, KC_4, ne_eq, not_false_eq_true, not_true_eq_false, true_and, and_true, and_self, implies_true, eq_self, true_imp_iff, false_implies, Int.reduceEq, Int.reduceNe, Int.reduceMod, Int.reduceMul, Int.reduceAdd, Int.reduceSub, Int.reduceLT, Int.reduceLE, Nat.reduceAdd, Nat.reduceLeDiff, Nat.reduceLT, Nat.reduceSub, reduceIte, wds_n, wds_0, wds_1, wds_2, wds_3, or_true, true_or, or_false, false_or, or_self, false_and, and_false, d_pos, d_s1, d_s2, d_s3, d_s4, d_s5, d_s6, d_s7, d_s8, Classical.not_not, dc_g ha L_M na nb_M, dc_h ha L_N na nb_N, od_M, od_N, le_sub1, le_T, le_F, lt_T, lt_F, eq_F, w32_T, bz0, bz1, lc_le, lc_ge, lc_lt, lc_gt, lc_eq]
    · rw [if_neg i]
      simp (implicitDefEqProofs := false) (disch := omega) only [sp405, n405_0, b405_1, b405_2, b405_3, q405_1, q405_2, q405_3, x_dcmp, x_dload0, x_freturn, x_goto_1, x_goto_3, x_iconst, x_ifCond_ge_2, x_ifCond_gt_1, x_sipush, klp_0, klp_1, klp_2, klp_3, klp_9, KC_0, KC_1, KC_2, KC_3, KC_4, ne_eq, not_false_eq_true, not_true_eq_false, true_and, and_true, and_self, implies_true, eq_self, true_imp_iff, false_implies, Int.reduceEq, Int.reduceNe, Int.reduceMod, Int.reduceMul, Int.reduceAdd, Int.reduceSub, Int.reduceLT, Int.reduceLE, Nat.reduceAdd, Nat.reduceLeDiff, Nat.reduceLT, Nat.reduceSub, reduceIte, wds_n, wds_0, wds_1, wds_2, wds_3, or_true, true_or, or_false, false_or, or_self, false_and, and_false, d_pos, d_s1, d_s2, d_s3, d_s4, d_s5, d_s6, d_s7, d_s8, Classical.not_not, dc_g ha L_M na nb_M, dc_h ha L_N na nb_N, od_M, od_N, le_sub1, le_T, le_F, lt_T, lt_F, eq_F, w32_T, bz0, bz1, lc_le, lc_ge, lc_lt, lc_gt, lc_eq]
theorem nanadd {a b : Int} (ha : L64 a) (hb : L64 b) : FP.Core.val64 (FP.dadd (d_U a) (d_U b)) = .nan ↔ 9218868437227405312 < mg a ∨ 9218868437227405312 < mg b ∨ mg a = 9218868437227405312 ∧ mg b = 9218868437227405312 ∧ ¬ od a = od b := by
  have k := FP.Core.dadd_nan_iff (d_U a) (d_U b)
  rw [FP.Core.dIsNaN_iff] at k
  refine k.trans (or_congr (dvN ha) (or_congr (dvN hb) ⟨?_, ?_⟩))
  · intro ⟨s, p, q⟩
    obtain ⟨p1, p2⟩ := (dvI ha).mp p
    obtain ⟨q1, q2⟩ := (dvI hb).mp q
    refine ⟨p1, q1, ?_⟩
    have o1 := od_mg ha
    have o2 := od_mg hb
    by_cases x : a < 0 <;> by_cases y : b < 0
    · rw [decide_eq_true x] at p2; rw [decide_eq_true y] at q2; subst p2; cases q2
    · rw [if_pos x] at o1; rw [if_neg y] at o2; omega
    · rw [if_neg x] at o1; rw [if_pos y] at o2; omega
    · rw [decide_eq_false x] at p2; rw [decide_eq_false y] at q2; subst p2; cases q2
  · intro ⟨p, q, n⟩
    have o1 := od_mg ha
    have o2 := od_mg hb
    refine ⟨decide (a < 0), (dvI ha).mpr ⟨p, rfl⟩, (dvI hb).mpr ⟨q, ?_⟩⟩
    by_cases x : a < 0 <;> by_cases y : b < 0
    · rw [if_pos x] at o1; rw [if_pos y] at o2; omega
    · rw [decide_eq_true x, decide_eq_false y]; rfl
    · rw [decide_eq_false x, decide_eq_true y]; rfl
    · rw [if_neg x] at o1; rw [if_neg y] at o2; omega
theorem nansub {a b : Int} (ha : L64 a) (hb : L64 b) : FP.Core.val64 (FP.dsub (d_U a) (d_U b)) = .nan ↔ 9218868437227405312 < mg a ∨ 9218868437227405312 < mg b ∨ mg a = 9218868437227405312 ∧ mg b = 9218868437227405312 ∧ od a = od b := by
  have k := FP.Core.dsub_nan_iff (d_U a) (d_U b)
  rw [FP.Core.dIsNaN_iff] at k
  refine k.trans (or_congr (dvN ha) (or_congr (dvN hb) ⟨?_, ?_⟩))
  · intro ⟨s, p, q⟩
    obtain ⟨p1, p2⟩ := (dvI ha).mp p
    obtain ⟨q1, q2⟩ := (dvI hb).mp q
    refine ⟨p1, q1, ?_⟩
    have o1 := od_mg ha
    have o2 := od_mg hb
    by_cases x : a < 0 <;> by_cases y : b < 0
    · rw [if_pos x] at o1; rw [if_pos y] at o2; omega
    · rw [decide_eq_true x] at p2; rw [decide_eq_false y] at q2; subst p2; cases q2
    · rw [decide_eq_false x] at p2; rw [decide_eq_true y] at q2; subst p2; cases q2
    · rw [if_neg x] at o1; rw [if_neg y] at o2; omega
  · intro ⟨p, q, n⟩
    have o1 := od_mg ha
    have o2 := od_mg hb
    refine ⟨decide (a < 0), (dvI ha).mpr ⟨p, rfl⟩, (dvI hb).mpr ⟨q, ?_⟩⟩
    by_cases x : a < 0 <;> by_cases y : b < 0
    · rw [decide_eq_true x, decide_eq_true y]
    · rw [if_pos x] at o1; rw [if_neg y] at o2; omega
    · rw [if_neg x] at o1; rw [if_pos y] at o2; omega
    · rw [decide_eq_false x, decide_eq_false y]
theorem nanmul {a b : Int} (ha : L64 a) (hb : L64 b) : FP.Core.val64 (FP.dmul (d_U a) (d_U b)) = .nan ↔ 9218868437227405312 < mg a ∨ 9218868437227405312 < mg b ∨ (mg a = 9218868437227405312 ∧ mg b = 0) ∨ (mg a = 0 ∧ mg b = 9218868437227405312) := by
  have k := FP.Core.dmul_nan_iff (d_U a) (d_U b)
  rw [FP.Core.dIsNaN_iff] at k
  refine k.trans (or_congr (dvN ha) (or_congr (dvN hb) (or_congr ⟨?_, ?_⟩ ⟨?_, ?_⟩)))
  · intro ⟨s, p, q⟩; exact ⟨((dvI ha).mp p).1, (dvZ hb).mp q⟩
  · intro ⟨p, q⟩; exact ⟨_, (dvI ha).mpr ⟨p, rfl⟩, (dvZ hb).mpr q⟩
  · intro ⟨s, p, q⟩; exact ⟨(dvZ ha).mp p, ((dvI hb).mp q).1⟩
  · intro ⟨p, q⟩; exact ⟨_, (dvZ ha).mpr p, (dvI hb).mpr ⟨q, rfl⟩⟩
theorem nandiv {a b : Int} (ha : L64 a) (hb : L64 b) : FP.Core.val64 (FP.ddiv (d_U a) (d_U b)) = .nan ↔ 9218868437227405312 < mg a ∨ 9218868437227405312 < mg b ∨ (mg a = 9218868437227405312 ∧ mg b = 9218868437227405312) ∨ (mg a = 0 ∧ mg b = 0) := by
  have k := FP.Core.ddiv_nan_iff (d_U a) (d_U b)
  rw [FP.Core.dIsNaN_iff] at k
  refine k.trans (or_congr (dvN ha) (or_congr (dvN hb) (or_congr ⟨?_, ?_⟩ ⟨?_, ?_⟩)))
  · intro ⟨s, t, p, q⟩; exact ⟨((dvI ha).mp p).1, ((dvI hb).mp q).1⟩
  · intro ⟨p, q⟩; exact ⟨_, _, (dvI ha).mpr ⟨p, rfl⟩, (dvI hb).mpr ⟨q, rfl⟩⟩
  · intro ⟨p, q⟩; exact ⟨(dvZ ha).mp p, (dvZ hb).mp q⟩
  · intro ⟨p, q⟩; exact ⟨(dvZ ha).mpr p, (dvZ hb).mpr q⟩
theorem nanrem {a b : Int} (ha : L64 a) (hb : L64 b) : FP.Core.val64 (FP.drem (d_U a) (d_U b)) = .nan ↔ 9218868437227405312 < mg a ∨ 9218868437227405312 < mg b ∨ mg a = 9218868437227405312 ∨ mg b = 0 := by
  have k := FP.Core.drem_nan_iff (d_U a) (d_U b)
  rw [FP.Core.dIsNaN_iff] at k
  refine k.trans (or_congr (dvN ha) (or_congr (dvN hb) (or_congr ⟨?_, ?_⟩ (dvZ hb))))
  · intro ⟨s, p⟩; exact ((dvI ha).mp p).1
  · intro p; exact ⟨_, (dvI ha).mpr ⟨p, rfl⟩⟩
theorem v404_43 {d : Nat} {h : HV} {Q : Int → HV → Prop} {a b : Int} (ha : L64 a) (hb : L64 b) : Sp fz1 (d + 1) 404 [(0, 43), (2, a), (2, b)] h Q = Q (if 9218868437227405312 < mg a ∨ 9218868437227405312 < mg b ∨ mg a = 9218868437227405312 ∧ mg b = 9218868437227405312 ∧ ¬ od a = od b then 1 else 0) h := by
  by_cases na : 9218868437227405312 < mg a
  · rw [if_pos (.inl na)]
    simp (implicitDefEqProofs := false) (disch := omega) only [sp404, b404_0, b404_1, b404_2, b404_3, b404_4, b404_5, b404_6, b404_7, b404_8, b404_9, b404_10, b404_11, b404_12, b404_13, b404_14, b404_15, b404_16, b404_17, b404_18, b404_19, b404_20, b404_21, b404_22, b404_23, q404_1, q404_2, q404_3, q404_4, q404_5, q404_6, q404_7, q404_8, q404_9, q404_10, q404_11, q404_12, q404_13, q404_14, q404_15, q404_16, q404_17, q404_18, q404_19, q404_20, q404_21, q404_22, q404_23, y_call405, x_dcmp, x_dload1, x_dload3, x_freturn, x_goto_1, x_goto_10, x_goto_12, x_goto_13, x_goto_15, x_goto_17, x_goto_19, x_goto_21, x_goto_23, x_goto_4, x_goto_7, x_iconst, x_ifCond_eq_12, x_ifCond_eq_13, x_ifCond_eq_14, x_ifCond_eq_2, x_ifCond_eq_3, x_ifCond_eq_6, x_ifCond_eq_9, x_ifCond_ne_1, x_ifCond_ne_14, x_ifCond_ne_17, x_ifCond_ne_18, x_ifCond_ne_21, x_ifCond_ne_22, x_ifCond_ne_9, x_iload0, x_iload5, x_istore5, x_sipush, x_tsw_20_42_11_5_20_8_20_16, klp_0, klp_1, klp_2, klp_3, klp_9, KC_0, KC_1, KC_2, KC_3, KC_4, ne_eq, not_false_eq_true, not_true_eq_false, true_and, and_true, and_self, implies_true, eq_self, true_imp_iff, false_implies, Int.reduceEq, Int.reduceNe, Int.reduceMod, Int.reduceMul, Int.reduceAdd, Int.reduceSub, Int.reduceLT, Int.reduceLE, Nat.reduceAdd, Nat.reduceLeDiff, Nat.reduceLT, Nat.reduceSub, reduceIte, wds_n, wds_0, wds_1, wds_2, wds_3, or_true, true_or, or_false, false_or, or_self, false_and, and_false, d_pos, d_s1, d_s2, d_s3, d_s4, d_s5, d_s6, d_s7, d_s8, Classical.not_not, (dcN ha ha (.inl na)).1, le_sub1, le_T, le_F, lt_T, lt_F, eq_F, w32_T, bz0, bz1, lc_le, lc_ge, lc_lt, lc_gt, lc_eq]
  by_cases nb : 9218868437227405312 < mg b
  · rw [if_pos (.inr (.inl nb))]
    simp (implicitDefEqProofs := false) (disch := omega) only [sp404, b404_0, b404_1, b404_2, b404_3, b404_4, b404_5, b404_6, b404_7, b404_8, b404_9, b404_10, b404_11, b404_12, b404_13, b404_14, b404_15, b404_16, b404_17, b404_18, b404_19, b404_20, b404_21, b404_22, b404_23, q404_1, q404_2, q404_3, q404_4, q404_5, q404_6, q404_7, q404_8, q404_9, q404_10, q404_11, q404_12, q404_13, q404_14, q404_15, q404_16, q404_17, q404_18, q404_19, q404_20, q404_21, q404_22, q404_23, y_call405, x_dcmp, x_dload1, x_dload3, x_freturn, x_goto_1, x_goto_10, x_goto_12, x_goto_13, x_goto_15, x_goto_17, x_goto_19, x_goto_21, x_goto_23, x_goto_4, x_goto_7, x_iconst, x_ifCond_eq_12, x_ifCond_eq_13, x_ifCond_eq_14, x_ifCond_eq_2, x_ifCond_eq_3, x_ifCond_eq_6, x_ifCond_eq_9, x_ifCond_ne_1, x_ifCond_ne_14, x_ifCond_ne_17, x_ifCond_ne_18, x_ifCond_ne_21, x_ifCond_ne_22, x_ifCond_ne_9, x_iload0, x_iload5, x_istore5, x_sipush, x_tsw_20_42_11_5_20_8_20_16, klp_0, klp_1, klp_2, klp_3, klp_9, KC_0, KC_1, KC_2, KC_3, KC_4, ne_eq, not_false_eq_true, not_true_eq_false, true_and, and_true, and_self, implies_true, eq_self, true_imp_iff, false_implies, Int.reduceEq, Int.reduceNe, Int.reduceMod, Int.reduceMul, Int.reduceAdd, Int.reduceSub, Int.reduceLT, Int.reduceLE, Nat.reduceAdd, Nat.reduceLeDiff, Nat.reduceLT, Nat.reduceSub, reduceIte, wds_n, wds_0, wds_1, wds_2, wds_3, or_true, true_or, or_false, false_or, or_self, false_and, and_false, d_pos, d_s1, d_s2, d_s3, d_s4, d_s5, d_s6, d_s7, d_s8, Classical.not_not, dc_e ha ha na na, (dcN hb hb (.inl nb)).1, le_sub1, le_T, le_F, lt_T, lt_F, eq_F, w32_T, bz0, bz1, lc_le, lc_ge, lc_lt, lc_gt, lc_eq]
  have o1 := od_mg ha
  have o2 := od_mg hb
  have z1 : (od a = 0) = (mg a = 0) := propext (by by_cases c : a < 0
                                                   · rw [if_pos c] at o1; omega
                                                   · rw [if_neg c] at o1; omega)
  have z2 : (od b = 0) = (mg b = 0) := propext (by by_cases c : b < 0
                                                   · rw [if_pos c] at o2; omega
                                                   · rw [if_neg c] at o2; omega)
  clear o1 o2
  have zz : od a = od b → (mg a = 0 ↔ mg b = 0) := fun w => by rw [← z1, ← z2, w]
  by_cases ia : mg a = 9218868437227405312 <;> by_cases ib : mg b = 9218868437227405312 <;> by_cases za : mg a = 0 <;> by_cases zb : mg b = 0 <;> by_cases e : od a = od b <;> (try (exfalso; omega)) <;> simp (implicitDefEqProofs := false) (disch := omega) only [z1, z2, ia, ib, za, zb, e, Nat.reduceEqDiff, sp404, b404_0, b404_1, b404_2, b404_3, b404_4, b404_5, b404_6, b404_7, b404_8, b404_9, b404_10, b404_11, b404_12, b404_13, b404_14, b404_15, b404_16, b404_17, b404_18, b404_19, b404_20, b404_21, b404_22, b404_23, q404_1, q404_2, q404_3, q404_4, q404_5, q404_6, q404_7, q404_8, q404_9, q404_10, q404_11, q404_12, q404_13, q404_14, q404_15, q404_16, q404_17, q404_18, q404_19, q404_20, q404_21, q404_22, q404_23, y_call405, x_dcmp, x_dload1, x_dload3, x_freturn, x_goto_1, x_goto_10, x_goto_12, x_goto_13, x_goto_15, x_goto_17, x_goto_19, x_goto_21, x_goto_23, x_goto_4, x_goto_7, x_iconst, x_ifCond_eq_12, x_ifCond_eq_13, x_ifCond_eq_14, x_ifCond_eq_2, x_ifCond_eq_3, x_ifCond_eq_6, x_ifCond_eq_9, x_ifCond_ne_1, x_ifCond_ne_14, x_ifCond_ne_17, x_ifCond_ne_18, x_ifCond_ne_21, x_ifCond_ne_22, x_ifCond_ne_9, x_iload0, x_iload5, x_istore5, x_sipush, x_tsw_20_42_11_5_20_8_20_16, klp_0, klp_1, klp_2, klp_3, klp_9, KC_0, KC_1, KC_2, KC_3, KC_4, ne_eq, not_false_eq_true, not_true_eq_false, true_and, and_true, and_self, implies_true, eq_self, true_imp_iff, false_implies, Int.reduceEq, Int.reduceNe, Int.reduceMod, Int.reduceMul, Int.reduceAdd, Int.reduceSub, Int.reduceLT, Int.reduceLE, Nat.reduceAdd, Nat.reduceLeDiff, Nat.reduceLT, Nat.reduceSub, reduceIte, wds_n, wds_0, wds_1, wds_2, wds_3, or_true, true_or, or_false, false_or, or_self, false_and, and_false, d_pos, d_s1, d_s2, d_s3, d_s4, d_s5, d_s6, d_s7, d_s8, Classical.not_not, dc_e ha ha na na, dc_e hb hb nb nb, dc_e ha hb na nb, dc_e ha L_0 na nb_0, dc_e hb L_0 nb nb_0, v405 ha na, v405 hb nb, od_0, bz0, bz1, le_sub1, le_T, le_F, lt_T, lt_F, eq_F, w32_T, lc_le, lc_ge, lc_lt, lc_gt, lc_eq] <;> (first | done | rfl | (rw [if_pos (by omega)] <;> rfl) | (rw [if_neg (by omega)] <;> rfl))
theorem v404_45 {d : Nat} {h : HV} {Q : Int → HV → Prop} {a b : Int} (ha : L64 a) (hb : L64 b) : Sp fz1 (d + 1) 404 [(0, 45), (2, a), (2, b)] h Q = Q (if 9218868437227405312 < mg a ∨ 9218868437227405312 < mg b ∨ mg a = 9218868437227405312 ∧ mg b = 9218868437227405312 ∧ od a = od b then 1 else 0) h := by
  by_cases na : 9218868437227405312 < mg a
  · rw [if_pos (.inl na)]
    simp (implicitDefEqProofs := false) (disch := omega) only [sp404, b404_0, b404_1, b404_2, b404_3, b404_4, b404_5, b404_6, b404_7, b404_8, b404_9, b404_10, b404_11, b404_12, b404_13, b404_14, b404_15, b404_16, b404_17, b404_18, b404_19, b404_20, b404_21, b404_22, b404_23, q404_1, q404_2, q404_3, q404_4, q404_5, q404_6, q404_7, q404_8, q404_9, q404_10, q404_11, q404_12, q404_13, q404_14, q404_15, q404_16, q404_17, q404_18, q404_19, q404_20, q404_21, q404_22, q404_23, y_call405, x_dcmp, x_dload1, x_dload3, x_freturn, x_goto_1, x_goto_10, x_goto_12, x_goto_13, x_goto_15, x_goto_17, x_goto_19, x_goto_21, x_goto_23, x_goto_4, x_goto_7, x_iconst, x_ifCond_eq_12, x_ifCond_eq_13, x_ifCond_eq_14, x_ifCond_eq_2, x_ifCond_eq_3, x_ifCond_eq_6, x_ifCond_eq_9, x_ifCond_ne_1, x_ifCond_ne_14, x_ifCond_ne_17, x_ifCond_ne_18, x_ifCond_ne_21, x_ifCond_ne_22, x_ifCond_ne_9, x_iload0, x_iload5, x_istore5, x_sipush, x_tsw_20_42_11_5_20_8_20_16, klp_0, klp_1, klp_2, klp_3, klp_9, KC_0, KC_1, KC_2, KC_3, KC_4, ne_eq, not_false_eq_true, not_true_eq_false, true_and, and_true, and_self, implies_true, eq_self, true_imp_iff, false_implies, Int.reduceEq, Int.reduceNe, Int.reduceMod, Int.reduceMul, Int.reduceAdd, Int.reduceSub, Int.reduceLT, Int.reduceLE, Nat.reduceAdd, Nat.reduceLeDiff, Nat.reduceLT, Nat.reduceSub, reduceIte, wds_n, wds_0, wds_1, wds_2, wds_3, or_true, true_or, or_false, false_or, or_self, false_and, and_false, d_pos, d_s1, d_s2, d_s3, d_s4, d_s5, d_s6, d_s7, d_s8, Classical.not_not, (dcN ha ha (.inl na)).1, le_sub1, le_T, le_F, lt_T, lt_F, eq_F, w32_T, bz0, bz1, lc_le, lc_ge, lc_lt, lc_gt, lc_eq]
  by_cases nb : 9218868437227405312 < mg b
  · rw [if_pos (.inr (.inl nb))]
    simp (implicitDefEqProofs := false) (disch := omega) only [sp404, b404_0, b404_1, b404_2, b404_3, b404_4, b404_5, b404_6, b404_7, b404_8, b404_9, b404_10, b404_11, b404_12, b404_13, b404_14, b404_15, b404_16, b404_17, b404_18, b404_19, b404_20, b404_21, b404_22, b404_23, q404_1, q404_2, q404_3, q404_4, q404_5, q404_6, q404_7, q404_8, q404_9, q404_10, q404_11, q404_12, q404_13, q404_14, q404_15, q404_16, q404_17, q404_18, q404_19, q404_20, q404_21, q404_22, q404_23, y_call405, x_dcmp, x_dload1, x_dload3, x_freturn, x_goto_1, x_goto_10, x_goto_12, x_goto_13, x_goto_15, x_goto_17, x_goto_19, x_goto_21, x_goto_23, x_goto_4, x_goto_7, x_iconst, x_ifCond_eq_12, x_ifCond_eq_13, x_ifCond_eq_14, x_ifCond_eq_2, x_ifCond_eq_3, x_ifCond_eq_6, x_ifCond_eq_9, x_ifCond_ne_1, x_ifCond_ne_14, x_ifCond_ne_17, x_ifCond_ne_18, x_ifCond_ne_21, x_ifCond_ne_22, x_ifCond_ne_9, x_iload0, x_iload5, x_istore5, x_sipush, x_tsw_20_42_11_5_20_8_20_16, klp_0, klp_1, klp_2, klp_3, klp_9, KC_0, KC_1, KC_2, KC_3, KC_4, ne_eq, not_false_eq_true, not_true_eq_false, true_and, and_true, and_self, implies_true, eq_self, true_imp_iff, false_implies, Int.reduceEq, Int.reduceNe, Int.reduceMod, Int.reduceMul, Int.reduceAdd, Int.reduceSub, Int.reduceLT, Int.reduceLE, Nat.reduceAdd, Nat.reduceLeDiff, Nat.reduceLT, Nat.reduceSub, reduceIte, wds_n, wds_0, wds_1, wds_2, wds_3, or_true, true_or, or_false, false_or, or_self, false_and, and_false, d_pos, d_s1, d_s2, d_s3, d_s4, d_s5, d_s6, d_s7, d_s8, Classical.not_not, dc_e ha ha na na, (dcN hb hb (.inl nb)).1, le_sub1, le_T, le_F, lt_T, lt_F, eq_F, w32_T, bz0, bz1, lc_le, lc_ge, lc_lt, lc_gt, lc_eq]
  have o1 := od_mg ha
  have o2 := od_mg hb
  have z1 : (od a = 0) = (mg a = 0) := propext (by by_cases c : a < 0
                                                   · rw [if_pos c] at o1; omega
                                                   · rw [if_neg c] at o1; omega)
  have z2 : (od b = 0) = (mg b = 0) := propext (by by_cases c : b < 0
                                                   · rw [if_pos c] at o2; omega
                                                   · rw [if_neg c] at o2; omega)
  clear o1 o2
  have zz : od a = od b → (mg a = 0 ↔ mg b = 0) := fun w => by rw [← z1, ← z2, w]
  by_cases ia : mg a = 9218868437227405312 <;> by_cases ib : mg b = 9218868437227405312 <;> by_cases za : mg a = 0 <;> by_cases zb : mg b = 0 <;> by_cases e : od a = od b <;> (try (exfalso; omega)) <;> simp (implicitDefEqProofs := false) (disch := omega) only [z1, z2, ia, ib, za, zb, e, Nat.reduceEqDiff, sp404, b404_0, b404_1, b404_2, b404_3, b404_4, b404_5, b404_6, b404_7, b404_8, b404_9, b404_10, b404_11, b404_12, b404_13, b404_14, b404_15, b404_16, b404_17, b404_18, b404_19, b404_20, b404_21, b404_22, b404_23, q404_1, q404_2, q404_3, q404_4, q404_5, q404_6, q404_7, q404_8, q404_9, q404_10, q404_11, q404_12, q404_13, q404_14, q404_15, q404_16, q404_17, q404_18, q404_19, q404_20, q404_21, q404_22, q404_23, y_call405, x_dcmp, x_dload1, x_dload3, x_freturn, x_goto_1, x_goto_10, x_goto_12, x_goto_13, x_goto_15, x_goto_17, x_goto_19, x_goto_21, x_goto_23, x_goto_4, x_goto_7, x_iconst, x_ifCond_eq_12, x_ifCond_eq_13, x_ifCond_eq_14, x_ifCond_eq_2, x_ifCond_eq_3, x_ifCond_eq_6, x_ifCond_eq_9, x_ifCond_ne_1, x_ifCond_ne_14, x_ifCond_ne_17, x_ifCond_ne_18, x_ifCond_ne_21, x_ifCond_ne_22, x_ifCond_ne_9, x_iload0, x_iload5, x_istore5, x_sipush, x_tsw_20_42_11_5_20_8_20_16, klp_0, klp_1, klp_2, klp_3, klp_9, KC_0, KC_1, KC_2, KC_3, KC_4, ne_eq, not_false_eq_true, not_true_eq_false, true_and, and_true, and_self, implies_true, eq_self, true_imp_iff, false_implies, Int.reduceEq, Int.reduceNe, Int.reduceMod, Int.reduceMul, Int.reduceAdd, Int.reduceSub, Int.reduceLT, Int.reduceLE, Nat.reduceAdd, Nat.reduceLeDiff, Nat.reduceLT, Nat.reduceSub, reduceIte, wds_n, wds_0, wds_1, wds_2, wds_3, or_true, true_or, or_false, false_or, or_self, false_and, and_false, d_pos, d_s1, d_s2, d_s3, d_s4, d_s5, d_s6, d_s7, d_s8, Classical.not_not, dc_e ha ha na na, dc_e hb hb nb nb, dc_e ha hb na nb, dc_e ha L_0 na nb_0, dc_e hb L_0 nb nb_0, v405 ha na, v405 hb nb, od_0, bz0, bz1, le_sub1, le_T, le_F, lt_T, lt_F, eq_F, w32_T, lc_le, lc_ge, lc_lt, lc_gt, lc_eq] <;> (first | done | rfl | (rw [if_pos (by omega)] <;> rfl) | (rw [if_neg (by omega)] <;> rfl))
theorem v404_42 {d : Nat} {h : HV} {Q : Int → HV → Prop} {a b : Int} (ha : L64 a) (hb : L64 b) : Sp fz1 (d + 1) 404 [(0, 42), (2, a), (2, b)] h Q = Q (if 9218868437227405312 < mg a ∨ 9218868437227405312 < mg b ∨ (mg a = 9218868437227405312 ∧ mg b = 0) ∨ (mg a = 0 ∧ mg b = 9218868437227405312) then 1 else 0) h := by
  by_cases na : 9218868437227405312 < mg a
  · rw [if_pos (.inl na)]
    simp (implicitDefEqProofs := false) (disch := omega) only [sp404, b404_0, b404_1, b404_2, b404_3, b404_4, b404_5, b404_6, b404_7, b404_8, b404_9, b404_10, b404_11, b404_12, b404_13, b404_14, b404_15, b404_16, b404_17, b404_18, b404_19, b404_20, b404_21, b404_22, b404_23, q404_1, q404_2, q404_3, q404_4, q404_5, q404_6, q404_7, q404_8, q404_9, q404_10, q404_11, q404_12, q404_13, q404_14, q404_15, q404_16, q404_17, q404_18, q404_19, q404_20, q404_21, q404_22, q404_23, y_call405, x_dcmp, x_dload1, x_dload3, x_freturn, x_goto_1, x_goto_10, x_goto_12, x_goto_13, x_goto_15, x_goto_17, x_goto_19, x_goto_21, x_goto_23, x_goto_4, x_goto_7, x_iconst, x_ifCond_eq_12, x_ifCond_eq_13, x_ifCond_eq_14, x_ifCond_eq_2, x_ifCond_eq_3, x_ifCond_eq_6, x_ifCond_eq_9, x_ifCond_ne_1, x_ifCond_ne_14, x_ifCond_ne_17, x_ifCond_ne_18, x_ifCond_ne_21, x_ifCond_ne_22, x_ifCond_ne_9, x_iload0, x_iload5, x_istore5, x_sipush, x_tsw_20_42_11_5_20_8_20_16, klp_0, klp_1, klp_2, klp_3, klp_9, KC_0, KC_1, KC_2, KC_3, KC_4, ne_eq, not_false_eq_true, not_true_eq_false, true_and, and_true, and_self, implies_true, eq_self, true_imp_iff, false_implies, Int.reduceEq, Int.reduceNe, Int.reduceMod, Int.reduceMul, Int.reduceAdd, Int.reduceSub, Int.reduceLT, Int.reduceLE, Nat.reduceAdd, Nat.reduceLeDiff, Nat.reduceLT, Nat.reduceSub, reduceIte, wds_n, wds_0, wds_1, wds_2, wds_3, or_true, true_or, or_false, false_or, or_self, false_and, and_false, d_pos, d_s1, d_s2, d_s3, d_s4, d_s5, d_s6, d_s7, d_s8, Classical.not_not, (dcN ha ha (.inl na)).1, le_sub1, le_T, le_F, lt_T, lt_F, eq_F, w32_T, bz0, bz1, lc_le, lc_ge, lc_lt, lc_gt, lc_eq]
  by_cases nb : 9218868437227405312 < mg b
  · rw [if_pos (.inr (.inl nb))]
    simp (implicitDefEqProofs := false) (disch := omega) only [sp404, b404_0, b404_1, b404_2, b404_3, b404_4, b404_5, b404_6, b404_7, b404_8, b404_9, b404_10, b404_11, b404_12, b404_13, b404_14, b404_15, b404_16, b404_17, b404_18, b404_19, b404_20, b404_21, b404_22, b404_23, q404_1, q404_2, q404_3, q404_4, q404_5, q404_6, q404_7, q404_8, q404_9, q404_10, q404_11, q404_12, q404_13, q404_14, q404_15, q404_16, q404_17, q404_18, q404_19, q404_20, q404_21, q404_22, q404_23, y_call405, x_dcmp, x_dload1, x_dload3, x_freturn, x_goto_1, x_goto_10, x_goto_12, x_goto_13, x_goto_15, x_goto_17, x_goto_19, x_goto_21, x_goto_23, x_goto_4, x_goto_7, x_iconst, x_ifCond_eq_12, x_ifCond_eq_13, x_ifCond_eq_14, x_ifCond_eq_2, x_ifCond_eq_3, x_ifCond_eq_6, x_ifCond_eq_9, x_ifCond_ne_1, x_ifCond_ne_14, x_ifCond_ne_17, x_ifCond_ne_18, x_ifCond_ne_21, x_ifCond_ne_22, x_ifCond_ne_9, x_iload0, x_iload5, x_istore5, x_sipush, x_tsw_20_42_11_5_20_8_20_16, klp_0, klp_1, klp_2, klp_3, klp_9, KC_0, KC_1, KC_2, KC_3, KC_4, ne_eq, not_false_eq_true, not_true_eq_false, true_and, and_true, and_self, implies_true, eq_self, true_imp_iff, false_implies, Int.reduceEq, Int.reduceNe, Int.reduceMod, Int.reduceMul, Int.reduceAdd, Int.reduceSub, Int.reduceLT, Int.reduceLE, Nat.reduceAdd, Nat.reduceLeDiff, Nat.reduceLT, Nat.reduceSub, reduceIte, wds_n, wds_0, wds_1, wds_2, wds_3, or_true, true_or, or_false, false_or, or_self, false_and, and_false, d_pos, d_s1, d_s2, d_s3, d_s4, d_s5, d_s6, d_s7, d_s8, Classical.not_not, dc_e ha ha na na, (dcN hb hb (.inl nb)).1, le_sub1, le_T, le_F, lt_T, lt_F, eq_F, w32_T, bz0, bz1, lc_le, lc_ge, lc_lt, lc_gt, lc_eq]
  have o1 := od_mg ha
  have o2 := od_mg hb
  have z1 : (od a = 0) = (mg a = 0) := propext (by by_cases c : a < 0
                                                   · rw [if_pos c] at o1; omega
                                                   · rw [if_neg c] at o1; omega)
  have z2 : (od b = 0) = (mg b = 0) := propext (by by_cases c : b < 0
                                                   · rw [if_pos c] at o2; omega
                                                   · rw [if_neg c] at o2; omega)
  clear o1 o2
  have zz : od a = od b → (mg a = 0 ↔ mg b = 0) := fun w => by rw [← z1, ← z2, w]
  by_cases ia : mg a = 9218868437227405312 <;> by_cases ib : mg b = 9218868437227405312 <;> by_cases za : mg a = 0 <;> by_cases zb : mg b = 0 <;> by_cases e : od a = od b <;> (try (exfalso; omega)) <;> simp (implicitDefEqProofs := false) (disch := omega) only [z1, z2, ia, ib, za, zb, e, Nat.reduceEqDiff, sp404, b404_0, b404_1, b404_2, b404_3, b404_4, b404_5, b404_6, b404_7, b404_8, b404_9, b404_10, b404_11, b404_12, b404_13, b404_14, b404_15, b404_16, b404_17, b404_18, b404_19, b404_20, b404_21, b404_22, b404_23, q404_1, q404_2, q404_3, q404_4, q404_5, q404_6, q404_7, q404_8, q404_9, q404_10, q404_11, q404_12, q404_13, q404_14, q404_15, q404_16, q404_17, q404_18, q404_19, q404_20, q404_21, q404_22, q404_23, y_call405, x_dcmp, x_dload1, x_dload3, x_freturn, x_goto_1, x_goto_10, x_goto_12, x_goto_13, x_goto_15, x_goto_17, x_goto_19, x_goto_21, x_goto_23, x_goto_4, x_goto_7, x_iconst, x_ifCond_eq_12, x_ifCond_eq_13, x_ifCond_eq_14, x_ifCond_eq_2, x_ifCond_eq_3, x_ifCond_eq_6, x_ifCond_eq_9, x_ifCond_ne_1, x_ifCond_ne_14, x_ifCond_ne_17, x_ifCond_ne_18, x_ifCond_ne_21, x_ifCond_ne_22, x_ifCond_ne_9, x_iload0, x_iload5, x_istore5, x_sipush, x_tsw_20_42_11_5_20_8_20_16, klp_0, klp_1, klp_2, klp_3, klp_9, KC_0, KC_1, KC_2, KC_3, KC_4, ne_eq, not_false_eq_true, not_true_eq_false, true_and, and_true, and_self, implies_true, eq_self, true_imp_iff, false_implies, Int.reduceEq, Int.reduceNe, Int.reduceMod, Int.reduceMul, Int.reduceAdd, Int.reduceSub, Int.reduceLT, Int.reduceLE, Nat.reduceAdd, Nat.reduceLeDiff, Nat.reduceLT, Nat.reduceSub, reduceIte, wds_n, wds_0, wds_1, wds_2, wds_3, or_true, true_or, or_false, false_or, or_self, false_and, and_false, d_pos, d_s1, d_s2, d_s3, d_s4, d_s5, d_s6, d_s7, d_s8, Classical.not_not, dc_e ha ha na na, dc_e hb hb nb nb, dc_e ha hb na nb, dc_e ha L_0 na nb_0, dc_e hb L_0 nb nb_0, v405 ha na, v405 hb nb, od_0, bz0, bz1, le_sub1, le_T, le_F, lt_T, lt_F, eq_F, w32_T, lc_le, lc_ge, lc_lt, lc_gt, lc_eq] <;> (first | done | rfl | (rw [if_pos (by omega)] <;> rfl) | (rw [if_neg (by omega)] <;> rfl))
theorem v404_47 {d : Nat} {h : HV} {Q : Int → HV → Prop} {a b : Int} (ha : L64 a) (hb : L64 b) : Sp fz1 (d + 1) 404 [(0, 47), (2, a), (2, b)] h Q = Q (if 9218868437227405312 < mg a ∨ 9218868437227405312 < mg b ∨ (mg a = 9218868437227405312 ∧ mg b = 9218868437227405312) ∨ (mg a = 0 ∧ mg b = 0) then 1 else 0) h := by
  by_cases na : 9218868437227405312 < mg a
  · rw [if_pos (.inl na)]
    simp (implicitDefEqProofs := false) (disch := omega) only [sp404, b404_0, b404_1, b404_2, b404_3, b404_4, b404_5, b404_6, b404_7, b404_8, b404_9, b404_10, b404_11, b404_12, b404_13, b404_14, b404_15, b404_16, b404_17, b404_18, b404_19, b404_20, b404_21, b404_22, b404_23, q404_1, q404_2, q404_3, q404_4, q404_5, q404_6, q404_7, q404_8, q404_9, q404_10, q404_11, q404_12, q404_13, q404_14, q404_15, q404_16, q404_17, q404_18, q404_19, q404_20, q404_21, q404_22, q404_23, y_call405, x_dcmp, x_dload1, x_dload3, x_freturn, x_goto_1, x_goto_10, x_goto_12, x_goto_13, x_goto_15, x_goto_17, x_goto_19, x_goto_21, x_goto_23, x_goto_4, x_goto_7, x_iconst, x_ifCond_eq_12, x_ifCond_eq_13, x_ifCond_eq_14, x_ifCond_eq_2, x_ifCond_eq_3, x_ifCond_eq_6, x_ifCond_eq_9, x_ifCond_ne_1, x_ifCond_ne_14, x_ifCond_ne_17, x_ifCond_ne_18, x_ifCond_ne_21, x_ifCond_ne_22, x_ifCond_ne_9, x_iload0, x_iload5, x_istore5, x_sipush, x_tsw_20_42_11_5_20_8_20_16, klp_0, klp_1, klp_2, klp_3, klp_9, KC_0, KC_1, KC_2, KC_3, KC_4, ne_eq, not_false_eq_true, not_true_eq_false, true_and, and_true, and_self, implies_true, eq_self, true_imp_iff, false_implies, Int.reduceEq, Int.reduceNe, Int.reduceMod, Int.reduceMul, Int.reduceAdd, Int.reduceSub, Int.reduceLT, Int.reduceLE, Nat.reduceAdd, Nat.reduceLeDiff, Nat.reduceLT, Nat.reduceSub, reduceIte, wds_n, wds_0, wds_1, wds_2, wds_3, or_true, true_or, or_false, false_or, or_self, false_and, and_false, d_pos, d_s1, d_s2, d_s3, d_s4, d_s5, d_s6, d_s7, d_s8, Classical.not_not, (dcN ha ha (.inl na)).1, le_sub1, le_T, le_F, lt_T, lt_F, eq_F, w32_T, bz0, bz1, lc_le, lc_ge, lc_lt, lc_gt, lc_eq]
  by_cases nb : 9218868437227405312 < mg b
  · rw [if_pos (.inr (.inl nb))]
    simp (implicitDefEqProofs := false) (disch := omega) only [sp404, b404_0, b404_1, b404_2, b404_3, b404_4, b404_5, b404_6, b404_7, b404_8, b404_9, b404_10, b404_11, b404_12, b404_13, b404_14, b404_15, b404_16, b404_17, b404_18, b404_19, b404_20, b404_21, b404_22, b404_23, q404_1, q404_2, q404_3, q404_4, q404_5, q404_6, q404_7, q404_8, q404_9, q404_10, q404_11, q404_12, q404_13, q404_14, q404_15, q404_16, q404_17, q404_18, q404_19, q404_20, q404_21, q404_22, q404_23, y_call405, x_dcmp, x_dload1, x_dload3, x_freturn, x_goto_1, x_goto_10, x_goto_12, x_goto_13, x_goto_15, x_goto_17, x_goto_19, x_goto_21, x_goto_23, x_goto_4, x_goto_7, x_iconst, x_ifCond_eq_12, x_ifCond_eq_13, x_ifCond_eq_14, x_ifCond_eq_2, x_ifCond_eq_3, x_ifCond_eq_6, x_ifCond_eq_9, x_ifCond_ne_1, x_ifCond_ne_14, x_ifCond_ne_17, x_ifCond_ne_18, x_ifCond_ne_21, x_ifCond_ne_22, x_ifCond_ne_9, x_iload0, x_iload5, x_istore5, x_sipush, x_tsw_20_42_11_5_20_8_20_16, klp_0, klp_1, klp_2, klp_3, klp_9, KC_0, KC_1, KC_2, KC_3, KC_4, ne_eq, not_false_eq_true, not_true_eq_false, true_and, and_true, and_self, implies_true, eq_self, true_imp_iff, false_implies, Int.reduceEq, Int.reduceNe, Int.reduceMod, Int.reduceMul, Int.reduceAdd, Int.reduceSub, Int.reduceLT, Int.reduceLE, Nat.reduceAdd, Nat.reduceLeDiff, Nat.reduceLT, Nat.reduceSub, reduceIte, wds_n, wds_0, wds_1, wds_2, wds_3, or_true, true_or, or_false, false_or, or_self, false_and, and_false, d_pos, d_s1, d_s2, d_s3, d_s4, d_s5, d_s6, d_s7, d_s8, Classical.not_not, dc_e ha ha na na, (dcN hb hb (.inl nb)).1, le_sub1, le_T, le_F, lt_T, lt_F, eq_F, w32_T, bz0, bz1, lc_le, lc_ge, lc_lt, lc_gt, lc_eq]
  have o1 := od_mg ha
  have o2 := od_mg hb
  have z1 : (od a = 0) = (mg a = 0) := propext (by by_cases c : a < 0
                                                   · rw [if_pos c] at o1; omega
                                                   · rw [if_neg c] at o1; omega)
  have z2 : (od b = 0) = (mg b = 0) := propext (by by_cases c : b < 0
                                                   · rw [if_pos c] at o2; omega
                                                   · rw [if_neg c] at o2; omega)
  clear o1 o2
  have zz : od a = od b → (mg a = 0 ↔ mg b = 0) := fun w => by rw [← z1, ← z2, w]
  by_cases ia : mg a = 9218868437227405312 <;> by_cases ib : mg b = 9218868437227405312 <;> by_cases za : mg a = 0 <;> by_cases zb : mg b = 0 <;> by_cases e : od a = od b <;> (try (exfalso; omega)) <;> simp (implicitDefEqProofs := false) (disch := omega) only [z1, z2, ia, ib, za, zb, e, Nat.reduceEqDiff, sp404, b404_0, b404_1, b404_2, b404_3, b404_4, b404_5, b404_6, b404_7, b404_8, b404_9, b404_10, b404_11, b404_12, b404_13, b404_14, b404_15, b404_16, b404_17, b404_18, b404_19, b404_20, b404_21, b404_22, b404_23, q404_1, q404_2, q404_3, q404_4, q404_5, q404_6, q404_7, q404_8, q404_9, q404_10, q404_11, q404_12, q404_13, q404_14, q404_15, q404_16, q404_17, q404_18, q404_19, q404_20, q404_21, q404_22, q404_23, y_call405, x_dcmp, x_dload1, x_dload3, x_freturn, x_goto_1, x_goto_10, x_goto_12, x_goto_13, x_goto_15, x_goto_17, x_goto_19, x_goto_21, x_goto_23, x_goto_4, x_goto_7, x_iconst, x_ifCond_eq_12, x_ifCond_eq_13, x_ifCond_eq_14, x_ifCond_eq_2, x_ifCond_eq_3, x_ifCond_eq_6, x_ifCond_eq_9, x_ifCond_ne_1, x_ifCond_ne_14, x_ifCond_ne_17, x_ifCond_ne_18, x_ifCond_ne_21, x_ifCond_ne_22, x_ifCond_ne_9, x_iload0, x_iload5, x_istore5, x_sipush, x_tsw_20_42_11_5_20_8_20_16, klp_0, klp_1, klp_2, klp_3, klp_9, KC_0, KC_1, KC_2, KC_3, KC_4, ne_eq, not_false_eq_true, not_true_eq_false, true_and, and_true, and_self, implies_true, eq_self, true_imp_iff, false_implies, Int.reduceEq, Int.reduceNe, Int.reduceMod, Int.reduceMul, Int.reduceAdd, Int.reduceSub, Int.reduceLT, Int.reduceLE, Nat.reduceAdd, Nat.reduceLeDiff, Nat.reduceLT, Nat.reduceSub, reduceIte, wds_n, wds_0, wds_1, wds_2, wds_3, or_true, true_or, or_false, false_or, or_self, false_and, and_false, d_pos, d_s1, d_s2, d_s3, d_s4, d_s5, d_s6, d_s7, d_s8, Classical.not_not, dc_e ha ha na na, dc_e hb hb nb nb, dc_e ha hb na nb, dc_e ha L_0 na nb_0, dc_e hb L_0 nb nb_0, v405 ha na, v405 hb nb, od_0, bz0, bz1, le_sub1, le_T, le_F, lt_T, lt_F, eq_F, w32_T, lc_le, lc_ge, lc_lt, lc_gt, lc_eq] <;> (first | done | rfl | (rw [if_pos (by omega)] <;> rfl) | (rw [if_neg (by omega)] <;> rfl))
theorem v404_37 {d : Nat} {h : HV} {Q : Int → HV → Prop} {a b : Int} (ha : L64 a) (hb : L64 b) : Sp fz1 (d + 1) 404 [(0, 37), (2, a), (2, b)] h Q = Q (if 9218868437227405312 < mg a ∨ 9218868437227405312 < mg b ∨ mg a = 9218868437227405312 ∨ mg b = 0 then 1 else 0) h := by
  by_cases na : 9218868437227405312 < mg a
  · rw [if_pos (.inl na)]
    simp (implicitDefEqProofs := false) (disch := omega) only [sp404, b404_0, b404_1, b404_2, b404_3, b404_4, b404_5, b404_6, b404_7, b404_8, b404_9, b404_10, b404_11, b404_12, b404_13, b404_14, b404_15, b404_16, b404_17, b404_18, b404_19, b404_20, b404_21, b404_22, b404_23, q404_1, q404_2, q404_3, q404_4, q404_5, q404_6, q404_7, q404_8, q404_9, q404_10, q404_11, q404_12, q404_13, q404_14, q404_15, q404_16, q404_17, q404_18, q404_19, q404_20, q404_21, q404_22, q404_23, y_call405, x_dcmp, x_dload1, x_dload3, x_freturn, x_goto_1, x_goto_10, x_goto_12, x_goto_13, x_goto_15, x_goto_17, x_goto_19, x_goto_21, x_goto_23, x_goto_4, x_goto_7, x_iconst, x_ifCond_eq_12, x_ifCond_eq_13, x_ifCond_eq_14, x_ifCond_eq_2, x_ifCond_eq_3, x_ifCond_eq_6, x_ifCond_eq_9, x_ifCond_ne_1, x_ifCond_ne_14, x_ifCond_ne_17, x_ifCond_ne_18, x_ifCond_ne_21, x_ifCond_ne_22, x_ifCond_ne_9, x_iload0, x_iload5, x_istore5, x_sipush, x_tsw_20_42_11_5_20_8_20_16, klp_0, klp_1, klp_2, klp_3, klp_9, KC_0, KC_1, KC_2, KC_3, KC_4, ne_eq, not_false_eq_true, not_true_eq_false, true_and, and_true, and_self, implies_true, eq_self, true_imp_iff, false_implies, Int.reduceEq, Int.reduceNe, Int.reduceMod, Int.reduceMul, Int.reduceAdd, Int.reduceSub, Int.reduceLT, Int.reduceLE, Nat.reduceAdd, Nat.reduceLeDiff, Nat.reduceLT, Nat.reduceSub, reduceIte, wds_n, wds_0, wds_1, wds_2, wds_3, or_true, true_or, or_false, false_or, or_self, false_and, and_false, d_pos, d_s1, d_s2, d_s3, d_s4, d_s5, d_s6, d_s7, d_s8, Classical.not_not, (dcN ha ha (.inl na)).1, le_sub1, le_T, le_F, lt_T, lt_F, eq_F, w32_T, bz0, bz1, lc_le, lc_ge, lc_lt, lc_gt, lc_eq]
  by_cases nb : 9218868437227405312 < mg b
  · rw [if_pos (.inr (.inl nb))]
    simp (implicitDefEqProofs := false) (disch := omega) only [sp404, b404_0, b404_1, b404_2, b404_3, b404_4, b404_5, b404_6, b404_7, b404_8, b404_9, b404_10, b404_11, b404_12, b404_13, b404_14, b404_15, b404_16, b404_17, b404_18, b404_19, b404_20, b404_21, b404_22, b404_23, q404_1, q404_2, q404_3, q404_4, q404_5, q404_6, q404_7, q404_8, q404_9, q404_10, q404_11, q404_12, q404_13, q404_14, q404_15, q404_16, q404_17, q404_18, q404_19, q404_20, q404_21, q404_22, q404_23, y_call405, x_dcmp, x_dload1, x_dload3, x_freturn, x_goto_1, x_goto_10, x_goto_12, x_goto_13, x_goto_15, x_goto_17, x_goto_19, x_goto_21, x_goto_23, x_goto_4, x_goto_7, x_iconst, x_ifCond_eq_12, x_ifCond_eq_13, x_ifCond_eq_14, x_ifCond_eq_2, x_ifCond_eq_3, x_ifCond_eq_6, x_ifCond_eq_9, x_ifCond_ne_1, x_ifCond_ne_14, x_ifCond_ne_17, x_ifCond_ne_18, x_ifCond_ne_21, x_ifCond_ne_22, x_ifCond_ne_9, x_iload0, x_iload5, x_istore5, x_sipush, x_tsw_20_42_11_5_20_8_20_16, klp_0, klp_1, klp_2, klp_3, klp_9, KC_0, KC_1, KC_2, KC_3, KC_4, ne_eq, not_false_eq_true, not_true_eq_false, true_and, and_true, and_self, implies_true, eq_self, true_imp_iff, false_implies, Int.reduceEq, Int.reduceNe, Int.reduceMod, Int.reduceMul, Int.reduceAdd, Int.reduceSub, Int.reduceLT, Int.reduceLE, Nat.reduceAdd, Nat.reduceLeDiff, Nat.reduceLT, Nat.reduceSub, reduceIte, wds_n, wds_0, wds_1, wds_2, wds_3, or_true, true_or, or_false, false_or, or_self, false_and, and_false, d_pos, d_s1, d_s2, d_s3, d_s4, d_s5, d_s6, d_s7, d_s8, Classical.not_not, dc_e ha ha na na, (dcN hb hb (.inl nb)).1, le_sub1, le_T, le_F, lt_T, lt_F, eq_F, w32_T, bz0, bz1, lc_le, lc_ge, lc_lt, lc_gt, lc_eq]
  have o1 := od_mg ha
  have o2 := od_mg hb
  have z1 : (od a = 0) = (mg a = 0) := propext (by by_cases c : a < 0
                                                   · rw [if_pos c] at o1; omega
                                                   · rw [if_neg c] at o1; omega)
  have z2 : (od b = 0) = (mg b = 0) := propext (by by_cases c : b < 0
                                                   · rw [if_pos c] at o2; omega
                                                   · rw [if_neg c] at o2; omega)
  clear o1 o2
  have zz : od a = od b → (mg a = 0 ↔ mg b = 0) := fun w => by rw [← z1, ← z2, w]
  by_cases ia : mg a = 9218868437227405312 <;> by_cases ib : mg b = 9218868437227405312 <;> by_cases za : mg a = 0 <;> by_cases zb : mg b = 0 <;> by_cases e : od a = od b <;> (try (exfalso; omega)) <;> simp (implicitDefEqProofs := false) (disch := omega) only [z1, z2, ia, ib, za, zb, e, Nat.reduceEqDiff, sp404, b404_0, b404_1, b404_2, b404_3, b404_4, b404_5, b404_6, b404_7, b404_8, b404_9, b404_10, b404_11, b404_12, b404_13, b404_14, b404_15, b404_16, b404_17, b404_18, b404_19, b404_20, b404_21, b404_22, b404_23, q404_1, q404_2, q404_3, q404_4, q404_5, q404_6, q404_7, q404_8, q404_9, q404_10, q404_11, q404_12, q404_13, q404_14, q404_15, q404_16, q404_17, q404_18, q404_19, q404_20, q404_21, q404_22, q404_23, y_call405, x_dcmp, x_dload1, x_dload3, x_freturn, x_goto_1, x_goto_10, x_goto_12, x_goto_13, x_goto_15, x_goto_17, x_goto_19, x_goto_21, x_goto_23, x_goto_4, x_goto_7, x_iconst, x_ifCond_eq_12, x_ifCond_eq_13, x_ifCond_eq_14, x_ifCond_eq_2, x_ifCond_eq_3, x_ifCond_eq_6, x_ifCond_eq_9, x_ifCond_ne_1, x_ifCond_ne_14, x_ifCond_ne_17, x_ifCond_ne_18, x_ifCond_ne_21, x_ifCond_ne_22, x_ifCond_ne_9, x_iload0, x_iload5, x_istore5, x_sipush, x_tsw_20_42_11_5_20_8_20_16, klp_0, klp_1, klp_2, klp_3, klp_9, KC_0, KC_1, KC_2, KC_3, KC_4, ne_eq, not_false_eq_true, not_true_eq_false, true_and, and_true, and_self, implies_true, eq_self, true_imp_iff, false_implies, Int.reduceEq, Int.reduceNe, Int.reduceMod, Int.reduceMul, Int.reduceAdd, Int.reduceSub, Int.reduceLT, Int.reduceLE, Nat.reduceAdd, Nat.reduceLeDiff, Nat.reduceLT, Nat.reduceSub, reduceIte, wds_n, wds_0, wds_1, wds_2, wds_3, or_true, true_or, or_false, false_or, or_self, false_and, and_false, d_pos, d_s1, d_s2, d_s3, d_s4, d_s5, d_s6, d_s7, d_s8, Classical.not_not, dc_e ha ha na na, dc_e hb hb nb nb, dc_e ha hb na nb, dc_e ha L_0 na nb_0, dc_e hb L_0 nb nb_0, v405 ha na, v405 hb nb, od_0, bz0, bz1, le_sub1, le_T, le_F, lt_T, lt_F, eq_F, w32_T, lc_le, lc_ge, lc_lt, lc_gt, lc_eq] <;> (first | done | rfl | (rw [if_pos (by omega)] <;> rfl) | (rw [if_neg (by omega)] <;> rfl))
