/-! THE PURE SIDE, 15: the class's own REALS: printed by wip/tools/gen40.py -/
theorem d_s1 {d : Nat} : d + 1 - 1 = d := rfl
theorem d_s2 {d : Nat} : d + 2 - 1 = d + 1 := rfl
theorem d_s3 {d : Nat} : d + 3 - 1 = d + 2 := rfl
theorem d_s4 {d : Nat} : d + 4 - 1 = d + 3 := rfl
theorem d_s5 {d : Nat} : d + 5 - 1 = d + 4 := rfl
theorem d_s6 {d : Nat} : d + 6 - 1 = d + 5 := rfl
theorem d_s7 {d : Nat} : d + 7 - 1 = d + 6 := rfl
theorem d_s8 {d : Nat} : d + 8 - 1 = d + 7 := rfl
theorem lc_le {a b : Int} : (l_cmp a b ≤ 0) = (a ≤ b) := by unfold l_cmp; apply propext; split <;> [skip; split] <;> omega
theorem lc_ge {a b : Int} : (0 ≤ l_cmp a b) = (b ≤ a) := by unfold l_cmp; apply propext; split <;> [skip; split] <;> omega
theorem lc_lt {a b : Int} : (l_cmp a b < 0) = (a < b) := by unfold l_cmp; apply propext; split <;> [skip; split] <;> omega
theorem lc_gt {a b : Int} : (0 < l_cmp a b) = (b < a) := by unfold l_cmp; apply propext; split <;> [skip; split] <;> omega
theorem lc_eq {a b : Int} : (l_cmp a b = 0) = (a = b) := by unfold l_cmp; apply propext; split <;> [skip; split] <;> omega
theorem bt0 {c : Prop} [Decidable c] : ((if c then (1 : Int) else 0) = 0) = ¬ c := by
  by_cases h : c
  · rw [if_pos h]; exact propext ⟨fun q => absurd q (by decide), fun q => (q h).elim⟩
  · rw [if_neg h]; exact propext ⟨fun _ => h, fun _ => rfl⟩
/-- two ways, one answer each -/
theorem br_t {p c : Prop} [Decidable c] {P : Int → Prop} {x y : Int} (e : p ↔ c) : ((p → P x) ∧ (¬ p → P y)) = P (if c then x else y) := by
  by_cases h : c
  · rw [if_pos h]; exact propext ⟨fun q => q.1 (e.mpr h), fun q => ⟨fun _ => q, fun n => (n (e.mpr h)).elim⟩⟩
  · rw [if_neg h]; exact propext ⟨fun q => q.2 (fun w => h (e.mp w)), fun q => ⟨fun w => (h (e.mp w)).elim, fun _ => q⟩⟩
theorem br_f {p c : Prop} [Decidable c] {P : Int → Prop} {x y : Int} (e : p ↔ ¬ c) : ((p → P x) ∧ (¬ p → P y)) = P (if c then y else x) := by
  by_cases h : c
  · rw [if_pos h]; exact propext ⟨fun q => q.2 (fun w => e.mp w h), fun q => ⟨fun w => (e.mp w h).elim, fun _ => q⟩⟩
  · rw [if_neg h]; exact propext ⟨fun q => q.1 (e.mpr h), fun q => ⟨fun _ => q, fun n => (n (e.mpr h)).elim⟩⟩
theorem br_n {p c : Prop} [Decidable c] {P : Int → Prop} {x y : Int} (e : p ↔ c) : ((¬ p → P x) ∧ (p → P y)) = P (if c then y else x) := by
  by_cases h : c
  · rw [if_pos h]; exact propext ⟨fun q => q.2 (e.mpr h), fun q => ⟨fun w => (w (e.mpr h)).elim, fun _ => q⟩⟩
  · rw [if_neg h]; exact propext ⟨fun q => q.1 (fun w => h (e.mp w)), fun q => ⟨fun _ => q, fun n => (h (e.mp n)).elim⟩⟩
/-! masks -/
theorem and_hi (x m n : Nat) : x &&& m * 2 ^ n = (x / 2 ^ n &&& m) * 2 ^ n := by
  have h0 := Nat.div_add_mod (x &&& m * 2 ^ n) (2 ^ n)
  rw [Nat.and_div_two_pow, Nat.and_mod_two_pow, Nat.mul_div_cancel _ (Nat.two_pow_pos n), Nat.mul_mod_left, Nat.and_zero, Nat.add_zero] at h0
  rw [← h0, Nat.mul_comm]
theorem or_hi {a b n : Nat} (hb : b < 2 ^ n) : a * 2 ^ n ||| b = a * 2 ^ n + b := by
  have := Nat.shiftLeft_add_eq_or_of_lt hb a
  rw [Nat.shiftLeft_eq] at this
  exact this.symm
theorem mk_mg (a : Int) : l_and a 9223372036854775807 = ((mg a : Nat) : Int) := by
  rw [l_and_U, show U 9223372036854775807 = 2 ^ 63 - 1 from rfl, Nat.and_two_pow_sub_one_eq_mod]
  exact UI_lo (Nat.mod_lt _ (by decide))
theorem mk_tf (a : Int) : l_and a 4503599627370495 = ((tf a : Nat) : Int) := by
  rw [l_and_U, show U 4503599627370495 = 2 ^ 52 - 1 from rfl, Nat.and_two_pow_sub_one_eq_mod]
  exact UI_lo (Nat.lt_of_lt_of_le (Nat.mod_lt _ (by decide)) (by decide))
theorem mk_ef (a : Int) : l_and a 9218868437227405312 = ((ef a * 4503599627370496 : Nat) : Int) := by
  rw [l_and_U, show U 9218868437227405312 = 2047 * 2 ^ 52 from rfl, and_hi, show (2047 : Nat) = 2 ^ 11 - 1 from rfl, Nat.and_two_pow_sub_one_eq_mod]
  have := ef_lt a
  exact UI_lo (by show ef a * 4503599627370496 < _; omega)
theorem mk_sg {a : Int} (h : L64 a) : l_and a (-9223372036854775808) = if a < 0 then -9223372036854775808 else 0 := by
  rw [l_and_U, show U (-9223372036854775808) = 1 * 2 ^ 63 from rfl, and_hi, Nat.and_one_is_mod]
  have h1 := U_sgn h
  have h2 : mg a < 9223372036854775808 := by unfold mg; omega
  split
  · rename_i hc
    rw [if_pos hc] at h1
    rw [show U a / 2 ^ 63 = 1 by omega]
    rfl
  · rename_i hc
    rw [if_neg hc] at h1
    rw [show U a / 2 ^ 63 = 0 by omega]
    rfl
theorem mk_e (a : Int) : l_and (l_ushr a 52) 2047 = ((ef a : Nat) : Int) := by
  have h := l_ushr_U a (n := 52) (by decide)
  rw [show ((52 : Nat) : Int) = 52 from rfl] at h
  have h1 := U_lt a
  have h2 := ef_lt a
  rw [h, l_and_U, U_UI (by omega), show U 2047 = 2 ^ 11 - 1 from rfl, Nat.and_two_pow_sub_one_eq_mod]
  exact UI_lo (by show ef a < _; omega)
theorem mk_hid (a : Int) : l_or ((tf a : Nat) : Int) 4503599627370496 = ((tf a + 4503599627370496 : Nat) : Int) := by
  have h1 := tf_lt a
  rw [l_or_U, U_pos (by omega) (by omega), show U 4503599627370496 = 1 * 2 ^ 52 from rfl, Nat.or_comm, Int.toNat_natCast, or_hi h1, UI_lo (by omega)]
  omega
theorem l_ushr_pos {a s : Int} {n : Nat} (hs : s = n) (hn : n < 64) (h0 : 0 ≤ a) (h : a ≤ 9223372036854775807) : l_ushr a s = ((a.toNat / 2 ^ n : Nat) : Int) := by
  rw [hs, l_ushr_U a hn, U_pos h0 h]
  refine UI_lo (Nat.lt_of_le_of_lt (Nat.div_le_self _ _) ?_)
  omega
/-! the small ones -/
section RL
variable {fz : Int → Int → Option Int} {d : Nat} {h : HV} {Q : Int → HV → Prop} {a b : Int}
theorem s101 : Sp fz d 101 [(1, a)] h Q = Q (if 9218868437227405312 < mg a then 1 else 0) h := by
  simp only [sp101, b101_0, b101_1, b101_2, q101_1, q101_2, x_bipush, x_freturn, x_goto_2, x_iconst, x_ifCond_le_1, x_land, x_lcmp, x_lload0, klp_0, klp_1, klp_2, klp_3, klp_9, KC_0, KC_1, KC_2, KC_3, KC_4, ne_eq, not_false_eq_true, not_true_eq_false, true_and, and_true, and_self, implies_true, eq_self, true_imp_iff, false_implies, Int.reduceEq, Int.reduceNe, Int.reduceMod, Int.reduceMul, Int.reduceAdd, Int.reduceSub, Int.reduceNeg, Int.reduceLT, Int.reduceLE, Nat.reduceAdd, Nat.reduceLeDiff, Nat.reduceLT, Nat.reduceSub, reduceIte, wds_n, wds_0, wds_1, wds_2, wds_3, or_true, true_or, or_false, false_or, or_self, d_pos, d_s1, d_s2, d_s3, d_s4, d_s5, d_s6, d_s7, d_s8, not_not, mk_mg, lc_le]
  exact br_f (P := fun x => Q x h) (by omega)
theorem s102 : Sp fz d 102 [(1, a)] h Q = Q (if mg a = 9218868437227405312 then 1 else 0) h := by
  simp only [sp102, b102_0, b102_1, b102_2, q102_1, q102_2, x_bipush, x_freturn, x_goto_2, x_iconst, x_ifCond_ne_1, x_land, x_lcmp, x_lload0, klp_0, klp_1, klp_2, klp_3, klp_9, KC_0, KC_1, KC_2, KC_3, KC_4, ne_eq, not_false_eq_true, not_true_eq_false, true_and, and_true, and_self, implies_true, eq_self, true_imp_iff, false_implies, Int.reduceEq, Int.reduceNe, Int.reduceMod, Int.reduceMul, Int.reduceAdd, Int.reduceSub, Int.reduceNeg, Int.reduceLT, Int.reduceLE, Nat.reduceAdd, Nat.reduceLeDiff, Nat.reduceLT, Nat.reduceSub, reduceIte, wds_n, wds_0, wds_1, wds_2, wds_3, or_true, true_or, or_false, false_or, or_self, d_pos, d_s1, d_s2, d_s3, d_s4, d_s5, d_s6, d_s7, d_s8, not_not, mk_mg, lc_eq]
  exact br_n (P := fun x => Q x h) (by omega)
theorem s103 : Sp fz d 103 [(1, a)] h Q = Q (if mg a = 0 then 1 else 0) h := by
  simp only [sp103, b103_0, b103_1, b103_2, q103_1, q103_2, x_bipush, x_freturn, x_goto_2, x_iconst, x_ifCond_ne_1, x_land, x_lcmp, x_lload0, klp_0, klp_1, klp_2, klp_3, klp_9, KC_0, KC_1, KC_2, KC_3, KC_4, ne_eq, not_false_eq_true, not_true_eq_false, true_and, and_true, and_self, implies_true, eq_self, true_imp_iff, false_implies, Int.reduceEq, Int.reduceNe, Int.reduceMod, Int.reduceMul, Int.reduceAdd, Int.reduceSub, Int.reduceNeg, Int.reduceLT, Int.reduceLE, Nat.reduceAdd, Nat.reduceLeDiff, Nat.reduceLT, Nat.reduceSub, reduceIte, wds_n, wds_0, wds_1, wds_2, wds_3, or_true, true_or, or_false, false_or, or_self, d_pos, d_s1, d_s2, d_s3, d_s4, d_s5, d_s6, d_s7, d_s8, not_not, mk_mg, lc_eq]
  exact br_n (P := fun x => Q x h) (by omega)
theorem s104 : Sp fz d 104 [(1, a)] h Q = Q ((dg a : Nat) : Int) h := by
  simp only [sp104, b104_0, b104_1, b104_2, q104_1, q104_2, x_bipush, x_goto_2, x_ifCond_ne_1, x_land, x_lcmp, x_lload0, x_lload2, x_lor, x_lreturn, x_lstore2, klp_0, klp_1, klp_2, klp_3, klp_9, KC_0, KC_1, KC_2, KC_3, KC_4, ne_eq, not_false_eq_true, not_true_eq_false, true_and, and_true, and_self, implies_true, eq_self, true_imp_iff, false_implies, Int.reduceEq, Int.reduceNe, Int.reduceMod, Int.reduceMul, Int.reduceAdd, Int.reduceSub, Int.reduceNeg, Int.reduceLT, Int.reduceLE, Nat.reduceAdd, Nat.reduceLeDiff, Nat.reduceLT, Nat.reduceSub, reduceIte, wds_n, wds_0, wds_1, wds_2, wds_3, or_true, true_or, or_false, false_or, or_self, d_pos, d_s1, d_s2, d_s3, d_s4, d_s5, d_s6, d_s7, d_s8, not_not, mk_tf, mk_ef, lc_eq, mk_hid]
  have e : ((dg a : Nat) : Int) = if ef a = 0 then ((tf a : Nat) : Int) else ((tf a + 4503599627370496 : Nat) : Int) := by unfold dg; split <;> rfl
  rw [e]
  exact br_n (P := fun x => Q x h) (by omega)
theorem s106 : Sp fz d 106 [(1, a)] h Q = Q (pl a) h := by
  have h1 := ef_lt a
  simp only [sp106, b106_0, x_bipush, x_iadd, x_iconst, x_imax, x_ireturn, x_isub, x_l2i, x_land, x_lload0, x_lushr, klp_0, klp_1, klp_2, klp_3, klp_9, KC_0, KC_1, KC_2, KC_3, KC_4, ne_eq, not_false_eq_true, not_true_eq_false, true_and, and_true, and_self, implies_true, eq_self, true_imp_iff, false_implies, Int.reduceEq, Int.reduceNe, Int.reduceMod, Int.reduceMul, Int.reduceAdd, Int.reduceSub, Int.reduceNeg, Int.reduceLT, Int.reduceLE, Nat.reduceAdd, Nat.reduceLeDiff, Nat.reduceLT, Nat.reduceSub, reduceIte, wds_n, wds_0, wds_1, wds_2, wds_3, or_true, true_or, or_false, false_or, or_self, d_pos, d_s1, d_s2, d_s3, d_s4, d_s5, d_s6, d_s7, d_s8, not_not, mk_e]
  rw [show w32 ((ef a : Nat) : Int) = (ef a : Nat) from w32_id (by omega), w32_id (by omega), w32_id (by omega)]
  rw [show max ((ef a : Nat) : Int) 1 - 1 + -1074 = pl a by unfold pl; omega]
def wd (m : Nat) : Nat := if m = 0 then 0 else m.log2 + 1
theorem bs99 {W x w : Int} {r : Nat} (hQ : Q W h) (hr : r < 2) (hz : r = 0 → w = 0) (hW : w + wd r = W) (h0 : 0 ≤ w) (hw : w ≤ 64) : G fz d 99 1 [(1, x), (9, 0), (0, w), (1, (r : Int)), (9, 0), (0, 0)] [] h Q := by
  have hr2 : r = 0 ∨ r = 1 := by omega
  refine G_in ?_
  simp only [b99_0, b99_1, b99_2, b99_3, b99_4, b99_5, q99_2, q99_3, q99_4, q99_5, x_bipush, x_goto_1, x_goto_2, x_goto_5, x_iadd, x_iconst, x_ifCond_eq_2, x_ifCond_le_3, x_ifCond_ne_4, x_iload2, x_iload5, x_ireturn, x_ishr, x_istore2, x_istore5, x_lcmp, x_lload0, x_lload3, x_lstore3, x_lushr, klp_0, klp_1, klp_2, klp_3, klp_9, KC_0, KC_1, KC_2, KC_3, KC_4, ne_eq, not_false_eq_true, not_true_eq_false, true_and, and_true, and_self, implies_true, eq_self, true_imp_iff, false_implies, Int.reduceEq, Int.reduceNe, Int.reduceMod, Int.reduceMul, Int.reduceAdd, Int.reduceSub, Int.reduceNeg, Int.reduceLT, Int.reduceLE, Nat.reduceAdd, Nat.reduceLeDiff, Nat.reduceLT, Nat.reduceSub, reduceIte, wds_n, wds_0, wds_1, wds_2, wds_3, or_true, true_or, or_false, false_or, or_self, d_pos, d_s1, d_s2, d_s3, d_s4, d_s5, d_s6, d_s7, d_s8, not_not, lc_eq]
  rcases hr2 with e | e
  · subst e
    have e0 : (0 : Int) = W := by rw [← hW, hz rfl]; decide
    refine ⟨fun q => (q rfl).elim, fun _ => ?_⟩
    rw [e0]
    exact hQ
  · subst e
    have : wd 1 = 1 := by decide
    rw [this] at hW
    refine ⟨fun _ => ?_, fun q => by omega⟩
    rw [w32_id (by omega), show w + 1 = W from hW]
    exact hQ
theorem st99 {W x : Int} {n n' : Nat} (hn : 0 < n) (hn2 : n ≤ 32) (hh : i_shr (n : Int) 1 = (n' : Int)) (IH : ∀ (w : Int) (r : Nat), r < 2 ^ n → (r = 0 → w = 0) → w + wd r = W → 0 ≤ w → w + n ≤ 64 → G fz d 99 1 [(1, x), (9, 0), (0, w), (1, (r : Int)), (9, 0), (0, (n' : Int))] [] h Q) :
    ∀ (w : Int) (r : Nat), r < 2 ^ (2 * n) → r < 9223372036854775808 → (r = 0 → w = 0) → w + wd r = W → 0 ≤ w → w + 2 * n ≤ 64 → G fz d 99 1 [(1, x), (9, 0), (0, w), (1, (r : Int)), (9, 0), (0, (n : Int))] [] h Q := by
  intro w r hr hr2 hz hW h0 hw
  have hp := Nat.two_pow_pos n
  refine G_in ?_
  simp only [b99_0, b99_1, b99_2, b99_3, b99_4, b99_5, q99_2, q99_3, q99_4, q99_5, x_bipush, x_goto_1, x_goto_2, x_goto_5, x_iadd, x_iconst, x_ifCond_eq_2, x_ifCond_le_3, x_ifCond_ne_4, x_iload2, x_iload5, x_ireturn, x_ishr, x_istore2, x_istore5, x_lcmp, x_lload0, x_lload3, x_lstore3, x_lushr, klp_0, klp_1, klp_2, klp_3, klp_9, KC_0, KC_1, KC_2, KC_3, KC_4, ne_eq, not_false_eq_true, not_true_eq_false, true_and, and_true, and_self, implies_true, eq_self, true_imp_iff, false_implies, Int.reduceEq, Int.reduceNe, Int.reduceMod, Int.reduceMul, Int.reduceAdd, Int.reduceSub, Int.reduceNeg, Int.reduceLT, Int.reduceLE, Nat.reduceAdd, Nat.reduceLeDiff, Nat.reduceLT, Nat.reduceSub, reduceIte, wds_n, wds_0, wds_1, wds_2, wds_3, or_true, true_or, or_false, false_or, or_self, d_pos, d_s1, d_s2, d_s3, d_s4, d_s5, d_s6, d_s7, d_s8, not_not, lc_eq, l_ushr_pos (a := (r : Int)) (s := (n : Int)) rfl (by omega) (by omega) (by omega), hh]
  refine ⟨fun q => by omega, fun _ => ⟨fun q => ?_, fun q => ?_⟩⟩
  · have q : ((r : Int).toNat / 2 ^ n : Nat) = 0 := by omega
    rw [Int.toNat_natCast, Nat.div_eq_zero_iff] at q
    exact IH w r (by omega) hz hW h0 (by omega)
  · rw [Int.toNat_natCast] at q ⊢
    have hd1 : r / 2 ^ n < 2 ^ n := by
      rw [Nat.div_lt_iff_lt_mul hp, ← Nat.pow_add, show n + n = 2 * n by omega]
      exact hr
    rw [w32_id (by omega)]
    have hr0 : r / 2 ^ n ≠ 0 := by omega
    refine IH (w + n) (r / 2 ^ n) hd1 (fun e => (hr0 e).elim) ?_ (by omega) (by omega)
    have hr1 : r ≠ 0 := by intro e; rw [e, Nat.zero_div] at hr0; exact hr0 rfl
    have hl : r.log2 = (r / 2 ^ n).log2 + n := by
      have l1 := Nat.log2_self_le hr0
      have l2 : r / 2 ^ n < 2 ^ ((r / 2 ^ n).log2 + 1) := Nat.lt_log2_self
      have k1 : 2 ^ ((r / 2 ^ n).log2 + n) ≤ r := by
        rw [Nat.pow_add]
        exact (Nat.le_div_iff_mul_le hp).mp l1
      have k2 : r < 2 ^ ((r / 2 ^ n).log2 + n + 1) := by
        rw [show (r / 2 ^ n).log2 + n + 1 = (r / 2 ^ n).log2 + 1 + n by omega, Nat.pow_add]
        exact (Nat.div_lt_iff_lt_mul hp).mp l2
      have := (Nat.le_log2 hr1).mpr k1
      have := (Nat.log2_lt hr1).mpr k2
      omega
    rw [← hW]
    unfold wd
    rw [if_neg hr0, if_neg hr1, hl]
    omega
theorem s99 {m : Nat} (hm : m < 9223372036854775808) : Sp fz d 99 [(1, (m : Int))] h Q = Q ((wd m : Nat) : Int) h := by
  refine Sp_is ?_ Q
  have B : ∀ (w : Int) (r : Nat), r < 2 ^ 1 → (r = 0 → w = 0) → w + wd r = wd m → 0 ≤ w → w + 1 ≤ 64 → G fz d 99 1 [(1, (m : Int)), (9, 0), (0, w), (1, (r : Int)), (9, 0), (0, ((0 : Nat) : Int))] [] h (fun r h' => r = ((wd m : Nat) : Int) ∧ h' = h) := fun w r h1 hz h2 h3 h4 => bs99 (Q := fun r h' => r = ((wd m : Nat) : Int) ∧ h' = h) ⟨rfl, rfl⟩ (by omega) hz h2 h3 (by omega)
  have B1 := st99 (n := 1) (n' := 0) (by decide) (by decide) (by decide +kernel) B
  have B2 := st99 (n := 2) (n' := 1) (by decide) (by decide) (by decide +kernel) (fun w r h1 hz h2 h3 h4 => B1 w r (by omega) (by omega) hz h2 h3 (by omega))
  have B4 := st99 (n := 4) (n' := 2) (by decide) (by decide) (by decide +kernel) (fun w r h1 hz h2 h3 h4 => B2 w r (by omega) (by omega) hz h2 h3 (by omega))
  have B8 := st99 (n := 8) (n' := 4) (by decide) (by decide) (by decide +kernel) (fun w r h1 hz h2 h3 h4 => B4 w r (by omega) (by omega) hz h2 h3 (by omega))
  have B16 := st99 (n := 16) (n' := 8) (by decide) (by decide) (by decide +kernel) (fun w r h1 hz h2 h3 h4 => B8 w r (by omega) (by omega) hz h2 h3 (by omega))
  have B32 := st99 (n := 32) (n' := 16) (by decide) (by decide) (by decide +kernel) (fun w r h1 hz h2 h3 h4 => B16 w r (by omega) (by omega) hz h2 h3 (by omega))
  simp only [sp99, b99_0, b99_1, b99_2, b99_3, b99_4, b99_5, q99_2, q99_3, q99_4, q99_5, x_bipush, x_goto_1, x_goto_2, x_goto_5, x_iadd, x_iconst, x_ifCond_eq_2, x_ifCond_le_3, x_ifCond_ne_4, x_iload2, x_iload5, x_ireturn, x_ishr, x_istore2, x_istore5, x_lcmp, x_lload0, x_lload3, x_lstore3, x_lushr, klp_0, klp_1, klp_2, klp_3, klp_9, KC_0, KC_1, KC_2, KC_3, KC_4, ne_eq, not_false_eq_true, not_true_eq_false, true_and, and_true, and_self, implies_true, eq_self, true_imp_iff, false_implies, Int.reduceEq, Int.reduceNe, Int.reduceMod, Int.reduceMul, Int.reduceAdd, Int.reduceSub, Int.reduceNeg, Int.reduceLT, Int.reduceLE, Nat.reduceAdd, Nat.reduceLeDiff, Nat.reduceLT, Nat.reduceSub, reduceIte, wds_n, wds_0, wds_1, wds_2, wds_3, or_true, true_or, or_false, false_or, or_self, d_pos, d_s1, d_s2, d_s3, d_s4, d_s5, d_s6, d_s7, d_s8, not_not]
  exact B32 0 m (by omega) hm (fun _ => rfl) (by omega) (by omega) (by omega)
theorem s105 : Sp fz (d + 1) 105 [(1, a)] h Q = Q (53 - ((wd (dg a) : Nat) : Int)) h := by
  have h1 := dg_lt a
  have h2 : wd (dg a) ≤ 53 := by
    unfold wd
    split
    · omega
    · have := (Nat.log2_lt (show dg a ≠ 0 by assumption)).mpr (show dg a < 2 ^ 53 from h1)
      omega
  simp only [sp105, b105_0, y_call104, y_call99, x_iconst, x_ireturn, x_isub, x_lload0, klp_0, klp_1, klp_2, klp_3, klp_9, KC_0, KC_1, KC_2, KC_3, KC_4, ne_eq, not_false_eq_true, not_true_eq_false, true_and, and_true, and_self, implies_true, eq_self, true_imp_iff, false_implies, Int.reduceEq, Int.reduceNe, Int.reduceMod, Int.reduceMul, Int.reduceAdd, Int.reduceSub, Int.reduceNeg, Int.reduceLT, Int.reduceLE, Nat.reduceAdd, Nat.reduceLeDiff, Nat.reduceLT, Nat.reduceSub, reduceIte, wds_n, wds_0, wds_1, wds_2, wds_3, or_true, true_or, or_false, false_or, or_self, d_pos, d_s1, d_s2, d_s3, d_s4, d_s5, d_s6, d_s7, d_s8, not_not, s104, s99 (m := dg a) (by omega)]
  rw [w32_id (by omega)]
theorem p2_le {n k : Nat} (h : n ≤ k) : 2 ^ n ≤ 2 ^ k := Nat.pow_le_pow_right (by decide) h
theorem shl1 {s : Int} {n : Nat} (hs : s = n) (hn : n ≤ 62) : l_shl 1 s = ((2 ^ n : Nat) : Int) := by
  have h1 := p2_le hn
  rw [show (2 : Nat) ^ 62 = 4611686018427387904 from rfl] at h1
  rw [hs, l_shl_eq (by omega) (by omega), Int.one_mul, w64_id (by omega)]
theorem low1 {s : Int} {n : Nat} (hs : s = n) (hn : n ≤ 63) : w64 (l_shl 1 s - 1) = ((2 ^ n - 1 : Nat) : Int) := by
  by_cases h : n = 63
  · subst h
    rw [hs]
    decide +kernel
  · have h1 := p2_le (show n ≤ 62 by omega)
    have h2 := Nat.two_pow_pos n
    rw [show (2 : Nat) ^ 62 = 4611686018427387904 from rfl] at h1
    rw [shl1 hs (by omega), w64_id (by omega)]
    omega
theorem and_low {m n : Nat} (hm : m < 9223372036854775808) (hn : n ≤ 63) : l_and (m : Int) ((2 ^ n - 1 : Nat) : Int) = ((m % 2 ^ n : Nat) : Int) := by
  have h1 := p2_le hn
  rw [show (2 : Nat) ^ 63 = 9223372036854775808 from rfl] at h1
  have h2 := Nat.two_pow_pos n
  rw [l_and_nat hm (by omega), Nat.and_two_pow_sub_one_eq_mod]
theorem s202 {m n : Nat} (hm : m < 4611686018427387904) : Sp fz d 202 [(1, (m : Int)), (0, (n : Int))] h Q = Q ((jm m n : Nat) : Int) h := by
  by_cases h0 : n = 0
  · subst h0
    simp only [sp202, b202_0, b202_1, b202_2, b202_3, b202_4, b202_5, b202_6, q202_1, q202_2, q202_3, q202_4, q202_5, q202_6, x_bipush, x_goto_3, x_goto_6, x_i2l, x_iconst, x_ifCond_gt_1, x_ifCond_ne_2, x_ifCond_ne_5, x_if_icmp_le_4, x_iload2, x_land, x_lcmp, x_lload0, x_lor, x_lreturn, x_lshl, x_lsub, x_lushr, klp_0, klp_1, klp_2, klp_3, klp_9, KC_0, KC_1, KC_2, KC_3, KC_4, ne_eq, not_false_eq_true, not_true_eq_false, true_and, and_true, and_self, implies_true, eq_self, true_imp_iff, false_implies, Int.reduceEq, Int.reduceNe, Int.reduceMod, Int.reduceMul, Int.reduceAdd, Int.reduceSub, Int.reduceNeg, Int.reduceLT, Int.reduceLE, Nat.reduceAdd, Nat.reduceLeDiff, Nat.reduceLT, Nat.reduceSub, reduceIte, wds_n, wds_0, wds_1, wds_2, wds_3, or_true, true_or, or_false, false_or, or_self, d_pos, d_s1, d_s2, d_s3, d_s4, d_s5, d_s6, d_s7, d_s8, not_not]
    rw [show jm m 0 = m by unfold jm; rw [Nat.pow_zero, Nat.mod_one, if_pos rfl, Nat.or_zero, Nat.div_one]]
    refine propext ⟨fun q => q.1 (by decide), fun q => ⟨fun _ => q, fun n => (n (by decide)).elim⟩⟩
  · have f1 : (((n : Nat) : Int) ≤ 0) = False := eq_false (by omega)
    by_cases h62 : 62 < n
    · have f2 : (((n : Nat) : Int) ≤ 62) = False := eq_false (by omega)
      have hp := p2_le (show 62 ≤ n by omega)
      rw [show (2 : Nat) ^ 62 = 4611686018427387904 from rfl] at hp
      simp only [sp202, b202_0, b202_1, b202_2, b202_3, b202_4, b202_5, b202_6, q202_1, q202_2, q202_3, q202_4, q202_5, q202_6, x_bipush, x_goto_3, x_goto_6, x_i2l, x_iconst, x_ifCond_gt_1, x_ifCond_ne_2, x_ifCond_ne_5, x_if_icmp_le_4, x_iload2, x_land, x_lcmp, x_lload0, x_lor, x_lreturn, x_lshl, x_lsub, x_lushr, klp_0, klp_1, klp_2, klp_3, klp_9, KC_0, KC_1, KC_2, KC_3, KC_4, ne_eq, not_false_eq_true, not_true_eq_false, true_and, and_true, and_self, implies_true, eq_self, true_imp_iff, false_implies, Int.reduceEq, Int.reduceNe, Int.reduceMod, Int.reduceMul, Int.reduceAdd, Int.reduceSub, Int.reduceNeg, Int.reduceLT, Int.reduceLE, Nat.reduceAdd, Nat.reduceLeDiff, Nat.reduceLT, Nat.reduceSub, reduceIte, wds_n, wds_0, wds_1, wds_2, wds_3, or_true, true_or, or_false, false_or, or_self, d_pos, d_s1, d_s2, d_s3, d_s4, d_s5, d_s6, d_s7, d_s8, not_not, f1, f2, lc_eq]
      have e : ((jm m n : Nat) : Int) = if m = 0 then 0 else 1 := by
        unfold jm
        rw [Nat.div_eq_of_lt (by omega), Nat.mod_eq_of_lt (by omega)]
        split <;> rfl
      rw [e]
      exact br_n (P := fun x => Q x h) (by omega)
    · have f2 : (((n : Nat) : Int) ≤ 62) = True := eq_true (by omega)
      simp only [sp202, b202_0, b202_1, b202_2, b202_3, b202_4, b202_5, b202_6, q202_1, q202_2, q202_3, q202_4, q202_5, q202_6, x_bipush, x_goto_3, x_goto_6, x_i2l, x_iconst, x_ifCond_gt_1, x_ifCond_ne_2, x_ifCond_ne_5, x_if_icmp_le_4, x_iload2, x_land, x_lcmp, x_lload0, x_lor, x_lreturn, x_lshl, x_lsub, x_lushr, klp_0, klp_1, klp_2, klp_3, klp_9, KC_0, KC_1, KC_2, KC_3, KC_4, ne_eq, not_false_eq_true, not_true_eq_false, true_and, and_true, and_self, implies_true, eq_self, true_imp_iff, false_implies, Int.reduceEq, Int.reduceNe, Int.reduceMod, Int.reduceMul, Int.reduceAdd, Int.reduceSub, Int.reduceNeg, Int.reduceLT, Int.reduceLE, Nat.reduceAdd, Nat.reduceLeDiff, Nat.reduceLT, Nat.reduceSub, reduceIte, wds_n, wds_0, wds_1, wds_2, wds_3, or_true, true_or, or_false, false_or, or_self, d_pos, d_s1, d_s2, d_s3, d_s4, d_s5, d_s6, d_s7, d_s8, not_not, f1, f2, lc_eq, low1 (s := (n : Int)) rfl (show n ≤ 63 by omega), and_low (m := m) (n := n) (by omega) (by omega), l_ushr_pos (a := (m : Int)) (s := (n : Int)) rfl (show n < 64 by omega) (by omega) (by omega), Int.toNat_natCast]
      have hq : m / 2 ^ n < 9223372036854775808 := Nat.lt_of_le_of_lt (Nat.div_le_self _ _) (by omega)
      rw [show (1 : Int) = ((1 : Nat) : Int) from rfl, show (0 : Int) = ((0 : Nat) : Int) from rfl, l_or_nat hq (by decide), l_or_nat hq (by decide)]
      unfold jm
      by_cases hz : m % 2 ^ n = 0
      · rw [if_pos hz]
        exact propext ⟨fun q => q.2 (by omega), fun q => ⟨fun n => by omega, fun _ => q⟩⟩
      · rw [if_neg hz]
        exact propext ⟨fun q => q.1 (by omega), fun q => ⟨fun _ => q, fun n => by omega⟩⟩
def sgn (s : Bool) : Int := if s then -9223372036854775808 else 0
theorem or_sm {s : Bool} {m : Nat} (hm : m < 9223372036854775808) : l_or (sgn s) (m : Int) = sm s m := by
  rw [l_or_U, U_pos (by omega) (by omega), Int.toNat_natCast]
  unfold sgn sm
  cases s
  · simp only [Bool.false_eq_true, if_false]
    rw [show U 0 = 0 from rfl, Nat.zero_or, Nat.zero_add]
  · simp only [if_true]
    rw [show U (-9223372036854775808) = 1 * 2 ^ 63 from rfl, or_hi hm]
    rfl
theorem sg_sm (s : Bool) : sgn s = sm s 0 := by cases s <;> decide
theorem s98 {m : Nat} {s : Bool} {p : Int} (hm : m < 9223372036854775808) (hp : -4000 ≤ p ∧ p ≤ 4000) : Sp fz (d + 1) 98 [(1, sgn s), (1, (m : Int)), (0, p)] h Q = Q (if m = 0 then sgn s else sm s (nrM m p)) h := by
  by_cases h0 : m = 0
  · subst h0
    simp only [sp98, b98_0, b98_1, b98_2, b98_3, b98_4, b98_5, b98_6, b98_7, q98_1, q98_2, q98_3, q98_4, q98_5, q98_6, q98_7, x_bipush, y_call99, x_goto_5, x_goto_6, x_goto_7, x_i2l, x_iadd, x_iconst, x_ifCond_gt_1, x_ifCond_gt_4, x_ifCond_gt_6, x_ifCond_le_7, x_ifCond_ne_7, x_if_icmp_le_2, x_if_icmp_le_3, x_iload4, x_iload5, x_imax, x_ineg, x_istore5, x_isub, x_ladd, x_land, x_lcmp, x_lload0, x_lload10, x_lload2, x_lload6, x_lload8, x_lmin, x_lor, x_lreturn, x_lshl, x_lstore10, x_lstore6, x_lstore8, x_lsub, x_lushr, klp_0, klp_1, klp_2, klp_3, klp_9, KC_0, KC_1, KC_2, KC_3, KC_4, ne_eq, not_false_eq_true, not_true_eq_false, true_and, and_true, and_self, implies_true, eq_self, true_imp_iff, false_implies, Int.reduceEq, Int.reduceNe, Int.reduceMod, Int.reduceMul, Int.reduceAdd, Int.reduceSub, Int.reduceNeg, Int.reduceLT, Int.reduceLE, Nat.reduceAdd, Nat.reduceLeDiff, Nat.reduceLT, Nat.reduceSub, reduceIte, wds_n, wds_0, wds_1, wds_2, wds_3, or_true, true_or, or_false, false_or, or_self, d_pos, d_s1, d_s2, d_s3, d_s4, d_s5, d_s6, d_s7, d_s8, not_not, lc_gt]
    refine propext ⟨fun q => q.2 (by decide), fun q => ⟨fun n => absurd n (by decide), fun _ => q⟩⟩
  rw [if_neg h0]
  have l3 : m.log2 < 63 := (Nat.log2_lt h0).mpr hm
  have g0 : ((0 : Int) < (m : Int)) = True := eq_true (by omega)
  have hwd : wd m = m.log2 + 1 := by unfold wd; rw [if_neg h0]
  obtain ⟨cut, hc⟩ : ∃ c, c = max ((m.log2 : Int) - 52) (-1074 - p) := ⟨_, rfl⟩
  have hcut : max (w32 (((wd m : Nat) : Int) - 53)) (w32 (-1074 - p)) = cut := by
    rw [hwd, w32_id (by omega), w32_id (by omega)]
    omega
  have hcr : -52 ≤ cut ∧ cut ≤ 5000 := by omega
  have hw1 : w32 (p + cut) = p + cut := w32_id (by omega)
  have hM := nrM_le m p
  unfold nrM
  rw [← hc]
  by_cases h63 : 63 < cut
  · have f1 : (cut ≤ 63) = False := eq_false (by omega)
    rw [if_pos h63, ← sg_sm]
    simp only [sp98, b98_0, b98_1, b98_2, b98_3, b98_4, b98_5, b98_6, b98_7, q98_1, q98_2, q98_3, q98_4, q98_5, q98_6, q98_7, x_bipush, y_call99, x_goto_5, x_goto_6, x_goto_7, x_i2l, x_iadd, x_iconst, x_ifCond_gt_1, x_ifCond_gt_4, x_ifCond_gt_6, x_ifCond_le_7, x_ifCond_ne_7, x_if_icmp_le_2, x_if_icmp_le_3, x_iload4, x_iload5, x_imax, x_ineg, x_istore5, x_isub, x_ladd, x_land, x_lcmp, x_lload0, x_lload10, x_lload2, x_lload6, x_lload8, x_lmin, x_lor, x_lreturn, x_lshl, x_lstore10, x_lstore6, x_lstore8, x_lsub, x_lushr, klp_0, klp_1, klp_2, klp_3, klp_9, KC_0, KC_1, KC_2, KC_3, KC_4, ne_eq, not_false_eq_true, not_true_eq_false, true_and, and_true, and_self, implies_true, eq_self, true_imp_iff, false_implies, Int.reduceEq, Int.reduceNe, Int.reduceMod, Int.reduceMul, Int.reduceAdd, Int.reduceSub, Int.reduceNeg, Int.reduceLT, Int.reduceLE, Nat.reduceAdd, Nat.reduceLeDiff, Nat.reduceLT, Nat.reduceSub, reduceIte, wds_n, wds_0, wds_1, wds_2, wds_3, or_true, true_or, or_false, false_or, or_self, d_pos, d_s1, d_s2, d_s3, d_s4, d_s5, d_s6, d_s7, d_s8, not_not, lc_gt, g0, s99 hm, hcut, f1]
  rw [if_neg h63]
  have f1 : (cut ≤ 63) = True := eq_true (by omega)
  by_cases h971 : 971 < p + cut
  · have f2 : (p + cut ≤ 971) = False := eq_false (by omega)
    rw [if_pos h971]
    simp only [sp98, b98_0, b98_1, b98_2, b98_3, b98_4, b98_5, b98_6, b98_7, q98_1, q98_2, q98_3, q98_4, q98_5, q98_6, q98_7, x_bipush, y_call99, x_goto_5, x_goto_6, x_goto_7, x_i2l, x_iadd, x_iconst, x_ifCond_gt_1, x_ifCond_gt_4, x_ifCond_gt_6, x_ifCond_le_7, x_ifCond_ne_7, x_if_icmp_le_2, x_if_icmp_le_3, x_iload4, x_iload5, x_imax, x_ineg, x_istore5, x_isub, x_ladd, x_land, x_lcmp, x_lload0, x_lload10, x_lload2, x_lload6, x_lload8, x_lmin, x_lor, x_lreturn, x_lshl, x_lstore10, x_lstore6, x_lstore8, x_lsub, x_lushr, klp_0, klp_1, klp_2, klp_3, klp_9, KC_0, KC_1, KC_2, KC_3, KC_4, ne_eq, not_false_eq_true, not_true_eq_false, true_and, and_true, and_self, implies_true, eq_self, true_imp_iff, false_implies, Int.reduceEq, Int.reduceNe, Int.reduceMod, Int.reduceMul, Int.reduceAdd, Int.reduceSub, Int.reduceNeg, Int.reduceLT, Int.reduceLE, Nat.reduceAdd, Nat.reduceLeDiff, Nat.reduceLT, Nat.reduceSub, reduceIte, wds_n, wds_0, wds_1, wds_2, wds_3, or_true, true_or, or_false, false_or, or_self, d_pos, d_s1, d_s2, d_s3, d_s4, d_s5, d_s6, d_s7, d_s8, not_not, lc_gt, g0, s99 hm, hcut, f1, hw1, f2]
    rw [show (9218868437227405312 : Int) = ((9218868437227405312 : Nat) : Int) from rfl, or_sm (by decide)]
  rw [if_neg h971]
  have f2 : (p + cut ≤ 971) = True := eq_true (by omega)
  have hpc : 0 ≤ p + cut + 1074 := by omega
  have hw2 : w32 (p + cut - -1074) = ((p + cut + 1074).toNat : Nat) := by rw [w32_id (by omega)]; omega
  have hsh : l_shl (((p + cut + 1074).toNat : Nat) : Int) 52 = (((p + cut + 1074).toNat * 4503599627370496 : Nat) : Int) := by
    have := l_shl_eq (x := (((p + cut + 1074).toNat : Nat) : Int)) (n := 52) (by omega) (by decide)
    rw [show ((52 : Nat) : Int) = 52 from rfl] at this
    rw [this, show (2 : Nat) ^ 52 = 4503599627370496 from rfl, w64_id (by omega)]
    omega
  -- what is kept stays below 2^53 + 1
  have hb : ∀ c : Nat, c ≤ 9007199254740992 → l_or (sgn s) (min (w64 ((((p + cut + 1074).toNat * 4503599627370496 : Nat) : Int) + (c : Int))) 9218868437227405312) = sm s (min ((p + cut + 1074).toNat * 4503599627370496 + c) 9218868437227405312) := by
    intro c hc9
    rw [w64_id (by omega)]
    rw [show min ((((p + cut + 1074).toNat * 4503599627370496 : Nat) : Int) + (c : Int)) 9218868437227405312 = ((min ((p + cut + 1074).toNat * 4503599627370496 + c) 9218868437227405312 : Nat) : Int) by omega]
    exact or_sm (by omega)
  have l2 : m < 2 ^ (m.log2 + 1) := Nat.lt_log2_self
  by_cases h00 : cut ≤ 0
  · have f3 : (0 < cut) = False := eq_false (by omega)
    have f4 : (cut ≤ 0) = True := eq_true h00
    have e1 : w32 (-cut) = (((-cut).toNat : Nat) : Int) := by rw [w32_id (by omega)]; omega
    have hlt : m * 2 ^ (-cut).toNat ≤ 9007199254740992 := by
      have e2 : 2 ^ (m.log2 + 1) * 2 ^ (-cut).toNat ≤ 9007199254740992 := by
        rw [show (9007199254740992 : Nat) = 2 ^ 53 from rfl, ← Nat.pow_add]
        exact p2_le (by omega)
      exact Nat.le_trans (Nat.mul_le_mul_right _ (Nat.le_of_lt l2)) e2
    have e3 : l_shl (m : Int) (((-cut).toNat : Nat) : Int) = ((m * 2 ^ (-cut).toNat : Nat) : Int) := by
      rw [l_shl_eq (by omega) (by omega), ← Int.natCast_mul, w64_id (by omega)]
    simp only [sp98, b98_0, b98_1, b98_2, b98_3, b98_4, b98_5, b98_6, b98_7, q98_1, q98_2, q98_3, q98_4, q98_5, q98_6, q98_7, x_bipush, y_call99, x_goto_5, x_goto_6, x_goto_7, x_i2l, x_iadd, x_iconst, x_ifCond_gt_1, x_ifCond_gt_4, x_ifCond_gt_6, x_ifCond_le_7, x_ifCond_ne_7, x_if_icmp_le_2, x_if_icmp_le_3, x_iload4, x_iload5, x_imax, x_ineg, x_istore5, x_isub, x_ladd, x_land, x_lcmp, x_lload0, x_lload10, x_lload2, x_lload6, x_lload8, x_lmin, x_lor, x_lreturn, x_lshl, x_lstore10, x_lstore6, x_lstore8, x_lsub, x_lushr, klp_0, klp_1, klp_2, klp_3, klp_9, KC_0, KC_1, KC_2, KC_3, KC_4, ne_eq, not_false_eq_true, not_true_eq_false, true_and, and_true, and_self, implies_true, eq_self, true_imp_iff, false_implies, Int.reduceEq, Int.reduceNe, Int.reduceMod, Int.reduceMul, Int.reduceAdd, Int.reduceSub, Int.reduceNeg, Int.reduceLT, Int.reduceLE, Nat.reduceAdd, Nat.reduceLeDiff, Nat.reduceLT, Nat.reduceSub, reduceIte, wds_n, wds_0, wds_1, wds_2, wds_3, or_true, true_or, or_false, false_or, or_self, d_pos, d_s1, d_s2, d_s3, d_s4, d_s5, d_s6, d_s7, d_s8, not_not, lc_gt, g0, s99 hm, hcut, f1, hw1, f2, f3, f4, e1, e3, hw2, hsh]
    rw [hb _ hlt, show cut.toNat = 0 by omega, Nat.pow_zero]
    unfold FP.Core.nearest
    rw [Nat.mod_one, if_pos (by decide), Nat.div_one]
  · have f3 : (0 < cut) = True := eq_true (by omega)
    have f4 : (cut ≤ 0) = False := eq_false h00
    obtain ⟨n, hn⟩ : ∃ n : Nat, cut = n := ⟨cut.toNat, by omega⟩
    have hn1 : 1 ≤ n := by omega
    have hw5 : w32 (cut - 1) = ((n - 1 : Nat) : Int) := by rw [w32_id (by omega)]; omega
    have hN : FP.Core.nearest m (2 ^ n) ≤ 9007199254740992 := by
      refine FP.Core.nearest_le (Nat.two_pow_pos _) ?_
      have e2 : 2 ^ (m.log2 + 1) ≤ 9007199254740992 * 2 ^ n := by
        rw [show (9007199254740992 : Nat) = 2 ^ 53 from rfl, ← Nat.pow_add]
        exact p2_le (by omega)
      omega
    have hhalf : 2 ^ n = 2 * 2 ^ (n - 1) := by
      rw [show n = (n - 1) + 1 by omega, Nat.pow_succ, Nat.add_sub_cancel]
      omega
    have hk : m / 2 ^ n ≤ 9007199254740992 := by
      have := hN
      unfold FP.Core.nearest at this
      split at this
      · exact this
      · split at this <;> omega
    have e4 : l_and (((m / 2 ^ n : Nat)) : Int) 1 = ((m / 2 ^ n % 2 : Nat) : Int) := by
      rw [show (1 : Int) = ((1 : Nat) : Int) from rfl, l_and_nat (by omega) (by decide), Nat.and_one_is_mod]
    have e5 : w64 (((m / 2 ^ n : Nat) : Int) + 1) = ((m / 2 ^ n + 1 : Nat) : Int) := by rw [w64_id (by omega)]; omega
    simp only [sp98, b98_0, b98_1, b98_2, b98_3, b98_4, b98_5, b98_6, b98_7, q98_1, q98_2, q98_3, q98_4, q98_5, q98_6, q98_7, x_bipush, y_call99, x_goto_5, x_goto_6, x_goto_7, x_i2l, x_iadd, x_iconst, x_ifCond_gt_1, x_ifCond_gt_4, x_ifCond_gt_6, x_ifCond_le_7, x_ifCond_ne_7, x_if_icmp_le_2, x_if_icmp_le_3, x_iload4, x_iload5, x_imax, x_ineg, x_istore5, x_isub, x_ladd, x_land, x_lcmp, x_lload0, x_lload10, x_lload2, x_lload6, x_lload8, x_lmin, x_lor, x_lreturn, x_lshl, x_lstore10, x_lstore6, x_lstore8, x_lsub, x_lushr, klp_0, klp_1, klp_2, klp_3, klp_9, KC_0, KC_1, KC_2, KC_3, KC_4, ne_eq, not_false_eq_true, not_true_eq_false, true_and, and_true, and_self, implies_true, eq_self, true_imp_iff, false_implies, Int.reduceEq, Int.reduceNe, Int.reduceMod, Int.reduceMul, Int.reduceAdd, Int.reduceSub, Int.reduceNeg, Int.reduceLT, Int.reduceLE, Nat.reduceAdd, Nat.reduceLeDiff, Nat.reduceLT, Nat.reduceSub, reduceIte, wds_n, wds_0, wds_1, wds_2, wds_3, or_true, true_or, or_false, false_or, or_self, d_pos, d_s1, d_s2, d_s3, d_s4, d_s5, d_s6, d_s7, d_s8, not_not, lc_gt, lc_eq, g0, s99 hm, hcut, f1, hw1, f2, f3, f4, hw2, hsh, hw5, low1 (s := cut) hn (by omega), and_low (m := m) (n := n) hm (by omega), shl1 (s := ((n - 1 : Nat) : Int)) rfl (by omega), l_ushr_pos (a := (m : Int)) (s := cut) hn (by omega) (by omega) (by omega), Int.toNat_natCast, e4, e5]
    rw [show (-cut).toNat = 0 by omega, Nat.pow_zero, Nat.mul_one, show cut.toNat = n by omega]
    have hN2 := hN
    unfold FP.Core.nearest at hN2
    unfold FP.Core.nearest
    have hmod : m / 2 ^ n % 2 = 0 ∨ m / 2 ^ n % 2 = 1 := by omega
    by_cases q1 : 2 * (m % 2 ^ n) < 2 ^ n
    · rw [if_pos q1, ← hb _ hk]
      exact propext ⟨fun q => (q.2 (by omega)).1 (by omega), fun q => ⟨fun n => by omega, fun _ => ⟨fun _ => q, fun n => by omega⟩⟩⟩
    · rw [if_neg q1]
      rw [if_neg q1] at hN2
      by_cases q2 : 2 ^ n < 2 * (m % 2 ^ n)
      · rw [if_pos q2] at hN2 ⊢
        rw [← hb _ hN2]
        exact propext ⟨fun q => q.1 (by omega), fun q => ⟨fun _ => q, fun n => by omega⟩⟩
      · rw [if_neg q2] at hN2 ⊢
        rcases hmod with e | e
        · rw [e, Nat.add_zero, ← hb _ hk]
          exact propext ⟨fun q => ((q.2 (by omega)).2 (by omega)).1 (by omega), fun q => ⟨fun n => by omega, fun _ => ⟨fun _ => q, fun _ => ⟨fun _ => q, fun n => by omega⟩⟩⟩⟩
        · rw [e] at hN2
          rw [e, ← hb _ hN2]
          exact propext ⟨fun q => ((q.2 (by omega)).2 (by omega)).2 (by omega), fun q => ⟨fun n => by omega, fun _ => ⟨fun n => by omega, fun _ => ⟨fun n => by omega, fun _ => q⟩⟩⟩⟩
/-- a result, all that is no number alike -/
def cn (u : UInt64) : Int := if FP.Core.val64 u = .nan then 9221120237041090560 else d_I u
theorem cn_nan {u : UInt64} (e : FP.Core.val64 u = .nan) : 9221120237041090560 = cn u := by unfold cn; rw [if_pos e]
theorem cn_of {x : Int} {u : UInt64} (hx : L64 x) (e : FP.Core.val64 u = dv x) (hn : dv x ≠ .nan) : x = cn u := by
  have hn2 : FP.Core.val64 u ≠ .nan := by rw [e]; exact hn
  unfold cn
  rw [if_neg hn2]
  exact dv_inj hx hn2 e.symm
theorem cn_rr {s : Bool} {m : Nat} {p : Int} {u : UInt64} (hm : m < 9223372036854775808) (e : FP.Core.val64 u = rr s m 1 p) : (if m = 0 then sgn s else sm s (nrM m p)) = cn u := by
  have hM := nrM_le m p
  by_cases h0 : m = 0
  · subst h0
    rw [if_pos rfl, sg_sm]
    refine cn_of (sm_L (by decide)) ?_ ?_
    · rw [e, dv_fin (sm_L (by decide)) (by rw [mg_sm (by decide)]; decide), sm_neg (by decide)]
      cases s <;> rfl
    · rw [dv_fin (sm_L (by decide)) (by rw [mg_sm (by decide)]; decide)]
      exact FP.Core.Datum.noConfusion
  · rw [if_neg h0]
    refine cn_of (sm_L (by omega)) ?_ ?_
    · rw [e, nr_dv (by omega) hm]
    · rw [nr_dv (by omega) hm]
      exact FP.Core.roundRatio_ne_nan _ _ _ _ _
theorem sg_of {a : Int} (ha : L64 a) : l_and a (-9223372036854775808) = sgn (decide (a < 0)) := by
  rw [mk_sg ha]
  unfold sgn
  simp only [decide_eq_true_eq]
theorem w64_neg {a : Int} (ha : L64 a) : max a (w64 (-a)) = if a = -9223372036854775808 then a else (a.natAbs : Int) := by
  split
  · rename_i e; rw [e]; decide
  · rw [w64_id (by omega)]; omega
theorem s97 (ha : L64 a) (hb : a ≠ -9223372036854775808) : Sp fz (d + 2) 97 [(1, a)] h Q = Q (cn (FP.l2d (Int64.ofInt a))) h := by
  have h1 : max a (w64 (-a)) = ((a.natAbs : Nat) : Int) := by rw [w64_neg ha, if_neg hb]
  simp only [sp97, b97_0, x_bipush, y_call98, x_iconst, x_labs, x_land, x_lload0, x_lreturn, klp_0, klp_1, klp_2, klp_3, klp_9, KC_0, KC_1, KC_2, KC_3, KC_4, ne_eq, not_false_eq_true, not_true_eq_false, true_and, and_true, and_self, implies_true, eq_self, true_imp_iff, false_implies, Int.reduceEq, Int.reduceNe, Int.reduceMod, Int.reduceMul, Int.reduceAdd, Int.reduceSub, Int.reduceNeg, Int.reduceLT, Int.reduceLE, Nat.reduceAdd, Nat.reduceLeDiff, Nat.reduceLT, Nat.reduceSub, reduceIte, wds_n, wds_0, wds_1, wds_2, wds_3, or_true, true_or, or_false, false_or, or_self, d_pos, d_s1, d_s2, d_s3, d_s4, d_s5, d_s6, d_s7, d_s8, not_not, sg_of ha, h1, s98 (m := a.natAbs) (s := decide (a < 0)) (p := 0) (by omega) (by decide)]
  rw [cn_rr (p := 0) (by omega)]
  show FP.Core.val64 (FP.Core.l2d (Int64.ofInt a)) = _
  rw [FP.Core.val64_l2d, Int64.toInt_ofInt_of_le (by omega) (by omega)]
  rfl
theorem xor_top {x : Nat} (hx : x < 18446744073709551616) : x ^^^ 9223372036854775808 = (if x < 9223372036854775808 then 9223372036854775808 else 0) + x % 9223372036854775808 := by
  have h1 := Nat.xor_div_two_pow (a := x) (b := 9223372036854775808) (n := 63)
  have h2 := Nat.xor_mod_two_pow (a := x) (b := 9223372036854775808) (n := 63)
  rw [show (2 : Nat) ^ 63 = 9223372036854775808 from rfl] at h1 h2
  rw [show 9223372036854775808 % 9223372036854775808 = 0 from rfl, Nat.xor_zero] at h2
  rw [show 9223372036854775808 / 9223372036854775808 = 1 from rfl] at h1
  have h0 := Nat.div_add_mod (x ^^^ 9223372036854775808) 9223372036854775808
  rw [h1, h2] at h0
  split
  · rw [show x / 9223372036854775808 = 0 by omega, show 0 ^^^ 1 = 1 from rfl] at h0
    omega
  · rw [show x / 9223372036854775808 = 1 by omega, show 1 ^^^ 1 = 0 from rfl] at h0
    omega
theorem ef_mg (x : Int) : ef x = mg x / 4503599627370496 := by unfold ef mg; omega
theorem tf_mg (x : Int) : tf x = mg x % 4503599627370496 := by unfold tf mg; omega
theorem dg_c {x y : Int} (e : mg x = mg y) : dg x = dg y := by unfold dg; rw [ef_mg, ef_mg, tf_mg, tf_mg, e]
theorem pl_c {x y : Int} (e : mg x = mg y) : pl x = pl y := by unfold pl; rw [ef_mg, ef_mg, e]
theorem mg_lt (x : Int) : mg x < 9223372036854775808 := by unfold mg; omega
theorem dv_flip (ha : L64 a) (hn : ¬ 9218868437227405312 < mg a) : dv (sm (!decide (a < 0)) (mg a)) = FP.Core.negate (dv a) := by
  have h1 := mg_lt a
  have hL := sm_L (s := !decide (a < 0)) h1
  by_cases he : mg a = 9218868437227405312
  · rw [dv_inf ha he, dv_inf hL (by rw [mg_sm h1]; exact he), sm_neg h1]
    rfl
  · rw [dv_fin ha (by omega), dv_fin hL (by rw [mg_sm h1]; omega), sm_neg h1, dg_c (mg_sm h1), pl_c (mg_sm h1)]
    rfl
theorem dv_num (ha : L64 a) (hn : ¬ 9218868437227405312 < mg a) : dv a ≠ .nan := by
  by_cases he : mg a = 9218868437227405312
  · rw [dv_inf ha he]; exact FP.Core.Datum.noConfusion
  · rw [dv_fin ha (by omega)]; exact FP.Core.Datum.noConfusion
theorem neg_flip (ha : L64 a) : l_xor a (-9223372036854775808) = sm (!decide (a < 0)) (mg a) := by
  have h1 := U_sgn ha
  have h2 := U_lt a
  have h3 := mg_lt a
  rw [l_xor_U, show U (-9223372036854775808) = 9223372036854775808 from rfl, xor_top h2]
  unfold sm
  congr 1
  by_cases hc : a < 0
  · rw [if_pos hc] at h1
    rw [if_neg (by omega), decide_eq_true hc]
    simp only [Bool.not_true, Bool.false_eq_true, if_false]
    omega
  · rw [if_neg hc] at h1
    rw [if_pos (by omega), decide_eq_false hc]
    simp only [Bool.not_false, if_true]
    omega
theorem s203 (ha : L64 a) : Sp fz (d + 1) 203 [(1, a)] h Q = Q (cn (FP.dneg (d_U a))) h := by
  have hv : FP.Core.val64 (FP.dneg (d_U a)) = FP.Core.negate (dv a) := FP.Core.val64_dneg _
  by_cases hn : 9218868437227405312 < mg a
  · simp only [sp203, b203_0, b203_1, b203_2, q203_1, q203_2, x_bipush, y_call101, x_goto_2, x_ifCond_eq_1, x_lload0, x_lreturn, x_lxor, klp_0, klp_1, klp_2, klp_3, klp_9, KC_0, KC_1, KC_2, KC_3, KC_4, ne_eq, not_false_eq_true, not_true_eq_false, true_and, and_true, and_self, implies_true, eq_self, true_imp_iff, false_implies, Int.reduceEq, Int.reduceNe, Int.reduceMod, Int.reduceMul, Int.reduceAdd, Int.reduceSub, Int.reduceNeg, Int.reduceLT, Int.reduceLE, Nat.reduceAdd, Nat.reduceLeDiff, Nat.reduceLT, Nat.reduceSub, reduceIte, wds_n, wds_0, wds_1, wds_2, wds_3, or_true, true_or, or_false, false_or, or_self, d_pos, d_s1, d_s2, d_s3, d_s4, d_s5, d_s6, d_s7, d_s8, not_not, s101, bt0, hn]
    rw [cn_nan (u := FP.dneg (d_U a)) (by rw [hv, dv_nan ha hn]; rfl)]
  · simp only [sp203, b203_0, b203_1, b203_2, q203_1, q203_2, x_bipush, y_call101, x_goto_2, x_ifCond_eq_1, x_lload0, x_lreturn, x_lxor, klp_0, klp_1, klp_2, klp_3, klp_9, KC_0, KC_1, KC_2, KC_3, KC_4, ne_eq, not_false_eq_true, not_true_eq_false, true_and, and_true, and_self, implies_true, eq_self, true_imp_iff, false_implies, Int.reduceEq, Int.reduceNe, Int.reduceMod, Int.reduceMul, Int.reduceAdd, Int.reduceSub, Int.reduceNeg, Int.reduceLT, Int.reduceLE, Nat.reduceAdd, Nat.reduceLeDiff, Nat.reduceLT, Nat.reduceSub, reduceIte, wds_n, wds_0, wds_1, wds_2, wds_3, or_true, true_or, or_false, false_or, or_self, d_pos, d_s1, d_s2, d_s3, d_s4, d_s5, d_s6, d_s7, d_s8, not_not, s101, bt0, hn]
    rw [neg_flip ha, cn_of (u := FP.dneg (d_U a)) (sm_L (mg_lt a))]
    · rw [hv, dv_flip ha hn]
    · rw [dv_flip ha hn]
      have := dv_num ha hn
      cases hd : dv a <;> simp only [hd, FP.Core.negate, ne_eq, not_false_eq_true, reduceCtorEq] at this ⊢
      exact this rfl
/-! the sum -/
theorem and_sg (ha : L64 a) (hb : L64 b) : l_and (l_and a b) (-9223372036854775808) = sgn (decide (a < 0) && decide (b < 0)) := by
  have h1 := U_sgn ha
  have h2 := U_sgn hb
  have h3 := mg_lt a
  have h4 := mg_lt b
  have hl : U a &&& U b < 18446744073709551616 := Nat.lt_of_le_of_lt Nat.and_le_left (U_lt a)
  rw [l_and_U, l_and_U, U_UI hl, show U (-9223372036854775808) = 1 * 2 ^ 63 from rfl, and_hi, Nat.and_div_two_pow]
  by_cases q1 : a < 0
  · rw [if_pos q1] at h1
    rw [show U a / 2 ^ 63 = 1 by omega, decide_eq_true q1]
    by_cases q2 : b < 0
    · rw [if_pos q2] at h2
      rw [show U b / 2 ^ 63 = 1 by omega, decide_eq_true q2]
      decide
    · rw [if_neg q2] at h2
      rw [show U b / 2 ^ 63 = 0 by omega, decide_eq_false q2]
      decide
  · rw [if_neg q1] at h1
    rw [show U a / 2 ^ 63 = 0 by omega, decide_eq_false q1, Nat.zero_and]
    simp only [Bool.false_and]
    decide
theorem xor_sg (ha : L64 a) (hb : L64 b) : l_and (l_xor a b) (-9223372036854775808) = sgn (decide (a < 0) != decide (b < 0)) := by
  have h1 := U_sgn ha
  have h2 := U_sgn hb
  have h3 := mg_lt a
  have h4 := mg_lt b
  have hl : U a ^^^ U b < 18446744073709551616 := Nat.xor_lt_two_pow (n := 64) (U_lt a) (U_lt b)
  rw [l_and_U, l_xor_U, U_UI hl, show U (-9223372036854775808) = 1 * 2 ^ 63 from rfl, and_hi, Nat.xor_div_two_pow]
  by_cases q1 : a < 0
  · rw [if_pos q1] at h1
    rw [show U a / 2 ^ 63 = 1 by omega, decide_eq_true q1]
    by_cases q2 : b < 0
    · rw [if_pos q2] at h2
      rw [show U b / 2 ^ 63 = 1 by omega, decide_eq_true q2]
      decide
    · rw [if_neg q2] at h2
      rw [show U b / 2 ^ 63 = 0 by omega, decide_eq_false q2]
      decide
  · rw [if_neg q1] at h1
    rw [show U a / 2 ^ 63 = 0 by omega, decide_eq_false q1]
    by_cases q2 : b < 0
    · rw [if_pos q2] at h2
      rw [show U b / 2 ^ 63 = 1 by omega, decide_eq_true q2]
      decide
    · rw [if_neg q2] at h2
      rw [show U b / 2 ^ 63 = 0 by omega, decide_eq_false q2]
      decide
theorem jm_le {m n : Nat} : jm m n ≤ m / 2 ^ n + 1 := by
  by_cases h : m % 2 ^ n = 0
  · rw [jm_exact h]; omega
  · exact (jm_odd h).2.2.2
theorem jm_lt {c n : Nat} (hc : c < 9007199254740992) : jm (c * 256) n < 2305843009213693953 := by
  have h1 := jm_le (m := c * 256) (n := n)
  have h2 := Nat.div_le_self (c * 256) (2 ^ n)
  omega
theorem dv_nanL {x y : FP.Core.Datum} (h : x = .nan ∨ y = .nan) : FP.Core.round FP.Core.b64 (FP.Core.exactSum x y) = .nan := by
  rcases h with e | e
  · rw [e]; rfl
  · rw [e]; cases x <;> rfl
theorem pl_norm {x : Int} (hx : -1074 < pl x) : 4503599627370496 ≤ dg x := by
  unfold pl at hx
  unfold dg
  rw [if_neg (by omega)]
  omega
theorem sg_eq {s t : Bool} {c : Nat} {n : Int} (hs : s = t) : FP.Core.signed s c = (if t then -(c : Int) else c) := by subst hs; rfl
/-- sums of finite ones -/
theorem fin_sum (ha : L64 a) (hb : L64 b) (fa : mg a < 9218868437227405312) (fb : mg b < 9218868437227405312) {W : Int}
    (hW : W = FP.Core.signed (decide (a < 0)) (jm (dg a * 256) (max (pl a) (pl b) - pl a).toNat) + FP.Core.signed (decide (b < 0)) (jm (dg b * 256) (max (pl a) (pl b) - pl b).toNat)) :
    (W = 0 → FP.Core.val64 (FP.dadd (d_U a) (d_U b)) = rr (decide (a < 0) && decide (b < 0)) 0 1 0) ∧ (W ≠ 0 → FP.Core.val64 (FP.dadd (d_U a) (d_U b)) = rr (decide (W < 0)) W.natAbs 1 (max (pl a) (pl b) - 8)) := by
  have e0 : FP.Core.val64 (FP.dadd (d_U a) (d_U b)) = _ := FP.Core.val64_dadd _ _
  have e1 : FP.Core.val64 (d_U a) = _ := dv_fin ha fa
  have e2 : FP.Core.val64 (d_U b) = _ := dv_fin hb fb
  rw [e1, e2, sgn_add] at e0
  have k1 := dg_lt a
  have k2 := dg_lt b
  have k3 := pl_rng a
  have k4 := pl_rng b
  have jx : ∀ m : Nat, jm m 0 = m := fun m => by unfold jm; rw [Nat.pow_zero, Nat.mod_one, if_pos rfl, Nat.or_zero, Nat.div_one]
  have key : (W = 0 ↔ FP.Core.sumUnits (decide (a < 0)) (dg a) (pl a) (decide (b < 0)) (dg b) (pl b) (min (pl a) (pl b)) = 0) ∧ (W < 0 ↔ FP.Core.sumUnits (decide (a < 0)) (dg a) (pl a) (decide (b < 0)) (dg b) (pl b) (min (pl a) (pl b)) < 0) ∧ ∀ z : Bool, rr z (FP.Core.sumUnits (decide (a < 0)) (dg a) (pl a) (decide (b < 0)) (dg b) (pl b) (min (pl a) (pl b))).natAbs 1 (min (pl a) (pl b)) = rr z W.natAbs 1 (max (pl a) (pl b) - 8) := by
    by_cases hc : pl b ≤ pl a
    · have m1 : max (pl a) (pl b) = pl a := by omega
      have m2 : min (pl a) (pl b) = pl b := by omega
      rw [m1] at hW ⊢
      rw [m2]
      rw [show (pl a - pl a).toNat = 0 by omega, jx] at hW
      exact sum_rr k1 k2 hc (fun q => pl_norm (by omega)) hW rfl
    · have m1 : max (pl a) (pl b) = pl b := by omega
      have m2 : min (pl a) (pl b) = pl a := by omega
      rw [m1] at hW ⊢
      rw [m2, FP.Core.sumUnits_comm]
      rw [show (pl b - pl b).toNat = 0 by omega, jx, Int.add_comm] at hW
      exact sum_rr k2 k1 (by omega) (fun q => pl_norm (by omega)) hW rfl
  obtain ⟨z1, z2, z3⟩ := key
  refine ⟨fun h0 => ?_, fun h0 => ?_⟩
  · rw [e0, z1.mp h0]
    rfl
  · rw [e0]
    unfold FP.Core.sumSign
    rw [if_neg (fun q => h0 (z1.mpr q)), z3]
    congr 1
    exact decide_eq_decide.mpr z2.symm
theorem inf_eq (ha : L64 a) (hb : L64 b) (ia : mg a = 9218868437227405312) (ib : mg b = 9218868437227405312) : a = b ↔ decide (a < 0) = decide (b < 0) := by
  constructor
  · intro e; rw [e]
  · intro e
    rw [← sm_of ha, ← sm_of hb, e, ia, ib]
theorem s201 (ha : L64 a) (hb : L64 b) : Sp fz (d + 2) 201 [(1, a), (1, b)] h Q = Q (cn (FP.dadd (d_U a) (d_U b))) h := by
  have hv : FP.Core.val64 (FP.dadd (d_U a) (d_U b)) = FP.Core.round FP.Core.b64 (FP.Core.exactSum (dv a) (dv b)) := FP.Core.val64_dadd _ _
  by_cases na : 9218868437227405312 < mg a
  · simp only [sp201, b201_0, b201_1, b201_2, b201_3, b201_4, b201_5, b201_6, b201_7, b201_8, b201_9, b201_10, b201_11, q201_1, q201_2, q201_3, q201_4, q201_5, q201_6, q201_7, q201_8, q201_9, q201_10, q201_11, x_bipush, y_call101, y_call102, y_call104, y_call106, y_call202, y_call98, x_goto_1, x_goto_10, x_goto_4, x_goto_8, x_iconst, x_ifCond_eq_2, x_ifCond_eq_3, x_ifCond_eq_5, x_ifCond_eq_6, x_ifCond_ge_7, x_ifCond_ge_9, x_ifCond_ne_1, x_ifCond_ne_11, x_iload4, x_imax, x_istore4, x_isub, x_labs, x_ladd, x_land, x_lcmp, x_lload0, x_lload2, x_lload5, x_lload7, x_lload9, x_lneg, x_lreturn, x_lshl, x_lstore5, x_lstore7, x_lstore9, klp_0, klp_1, klp_2, klp_3, klp_9, KC_0, KC_1, KC_2, KC_3, KC_4, ne_eq, not_false_eq_true, not_true_eq_false, true_and, and_true, and_self, implies_true, eq_self, true_imp_iff, false_implies, Int.reduceEq, Int.reduceNe, Int.reduceMod, Int.reduceMul, Int.reduceAdd, Int.reduceSub, Int.reduceNeg, Int.reduceLT, Int.reduceLE, Nat.reduceAdd, Nat.reduceLeDiff, Nat.reduceLT, Nat.reduceSub, reduceIte, wds_n, wds_0, wds_1, wds_2, wds_3, or_true, true_or, or_false, false_or, or_self, d_pos, d_s1, d_s2, d_s3, d_s4, d_s5, d_s6, d_s7, d_s8, not_not, s101, bt0, na]
    rw [cn_nan (u := FP.dadd (d_U a) (d_U b)) (by rw [hv]; exact dv_nanL (.inl (dv_nan ha na)))]
  by_cases nb : 9218868437227405312 < mg b
  · simp only [sp201, b201_0, b201_1, b201_2, b201_3, b201_4, b201_5, b201_6, b201_7, b201_8, b201_9, b201_10, b201_11, q201_1, q201_2, q201_3, q201_4, q201_5, q201_6, q201_7, q201_8, q201_9, q201_10, q201_11, x_bipush, y_call101, y_call102, y_call104, y_call106, y_call202, y_call98, x_goto_1, x_goto_10, x_goto_4, x_goto_8, x_iconst, x_ifCond_eq_2, x_ifCond_eq_3, x_ifCond_eq_5, x_ifCond_eq_6, x_ifCond_ge_7, x_ifCond_ge_9, x_ifCond_ne_1, x_ifCond_ne_11, x_iload4, x_imax, x_istore4, x_isub, x_labs, x_ladd, x_land, x_lcmp, x_lload0, x_lload2, x_lload5, x_lload7, x_lload9, x_lneg, x_lreturn, x_lshl, x_lstore5, x_lstore7, x_lstore9, klp_0, klp_1, klp_2, klp_3, klp_9, KC_0, KC_1, KC_2, KC_3, KC_4, ne_eq, not_false_eq_true, not_true_eq_false, true_and, and_true, and_self, implies_true, eq_self, true_imp_iff, false_implies, Int.reduceEq, Int.reduceNe, Int.reduceMod, Int.reduceMul, Int.reduceAdd, Int.reduceSub, Int.reduceNeg, Int.reduceLT, Int.reduceLE, Nat.reduceAdd, Nat.reduceLeDiff, Nat.reduceLT, Nat.reduceSub, reduceIte, wds_n, wds_0, wds_1, wds_2, wds_3, or_true, true_or, or_false, false_or, or_self, d_pos, d_s1, d_s2, d_s3, d_s4, d_s5, d_s6, d_s7, d_s8, not_not, s101, bt0, na, nb]
    rw [cn_nan (u := FP.dadd (d_U a) (d_U b)) (by rw [hv]; exact dv_nanL (.inr (dv_nan hb nb)))]
  by_cases ia : mg a = 9218868437227405312
  · by_cases ib : mg b = 9218868437227405312
    · by_cases hab : a = b
      · simp only [sp201, b201_0, b201_1, b201_2, b201_3, b201_4, b201_5, b201_6, b201_7, b201_8, b201_9, b201_10, b201_11, q201_1, q201_2, q201_3, q201_4, q201_5, q201_6, q201_7, q201_8, q201_9, q201_10, q201_11, x_bipush, y_call101, y_call102, y_call104, y_call106, y_call202, y_call98, x_goto_1, x_goto_10, x_goto_4, x_goto_8, x_iconst, x_ifCond_eq_2, x_ifCond_eq_3, x_ifCond_eq_5, x_ifCond_eq_6, x_ifCond_ge_7, x_ifCond_ge_9, x_ifCond_ne_1, x_ifCond_ne_11, x_iload4, x_imax, x_istore4, x_isub, x_labs, x_ladd, x_land, x_lcmp, x_lload0, x_lload2, x_lload5, x_lload7, x_lload9, x_lneg, x_lreturn, x_lshl, x_lstore5, x_lstore7, x_lstore9, klp_0, klp_1, klp_2, klp_3, klp_9, KC_0, KC_1, KC_2, KC_3, KC_4, ne_eq, not_false_eq_true, not_true_eq_false, true_and, and_true, and_self, implies_true, eq_self, true_imp_iff, false_implies, Int.reduceEq, Int.reduceNe, Int.reduceMod, Int.reduceMul, Int.reduceAdd, Int.reduceSub, Int.reduceNeg, Int.reduceLT, Int.reduceLE, Nat.reduceAdd, Nat.reduceLeDiff, Nat.reduceLT, Nat.reduceSub, reduceIte, wds_n, wds_0, wds_1, wds_2, wds_3, or_true, true_or, or_false, false_or, or_self, d_pos, d_s1, d_s2, d_s3, d_s4, d_s5, d_s6, d_s7, d_s8, not_not, s101, s102, bt0, na, nb, ia, ib, lc_eq, hab]
        rw [cn_of (x := b) (u := FP.dadd (d_U b) (d_U b)) hb]
        · rw [hab] at hv
          rw [hv, dv_inf hb ib]
          simp only [FP.Core.exactSum, if_true]
          rfl
        · exact dv_num hb nb
      · simp only [sp201, b201_0, b201_1, b201_2, b201_3, b201_4, b201_5, b201_6, b201_7, b201_8, b201_9, b201_10, b201_11, q201_1, q201_2, q201_3, q201_4, q201_5, q201_6, q201_7, q201_8, q201_9, q201_10, q201_11, x_bipush, y_call101, y_call102, y_call104, y_call106, y_call202, y_call98, x_goto_1, x_goto_10, x_goto_4, x_goto_8, x_iconst, x_ifCond_eq_2, x_ifCond_eq_3, x_ifCond_eq_5, x_ifCond_eq_6, x_ifCond_ge_7, x_ifCond_ge_9, x_ifCond_ne_1, x_ifCond_ne_11, x_iload4, x_imax, x_istore4, x_isub, x_labs, x_ladd, x_land, x_lcmp, x_lload0, x_lload2, x_lload5, x_lload7, x_lload9, x_lneg, x_lreturn, x_lshl, x_lstore5, x_lstore7, x_lstore9, klp_0, klp_1, klp_2, klp_3, klp_9, KC_0, KC_1, KC_2, KC_3, KC_4, ne_eq, not_false_eq_true, not_true_eq_false, true_and, and_true, and_self, implies_true, eq_self, true_imp_iff, false_implies, Int.reduceEq, Int.reduceNe, Int.reduceMod, Int.reduceMul, Int.reduceAdd, Int.reduceSub, Int.reduceNeg, Int.reduceLT, Int.reduceLE, Nat.reduceAdd, Nat.reduceLeDiff, Nat.reduceLT, Nat.reduceSub, reduceIte, wds_n, wds_0, wds_1, wds_2, wds_3, or_true, true_or, or_false, false_or, or_self, d_pos, d_s1, d_s2, d_s3, d_s4, d_s5, d_s6, d_s7, d_s8, not_not, s101, s102, bt0, na, nb, ia, ib, lc_eq, hab]
        rw [cn_nan (u := FP.dadd (d_U a) (d_U b))]
        rw [hv, dv_inf ha ia, dv_inf hb ib]
        simp only [FP.Core.exactSum]
        rw [if_neg (fun q => hab ((inf_eq ha hb ia ib).mpr q))]
        rfl
    · simp only [sp201, b201_0, b201_1, b201_2, b201_3, b201_4, b201_5, b201_6, b201_7, b201_8, b201_9, b201_10, b201_11, q201_1, q201_2, q201_3, q201_4, q201_5, q201_6, q201_7, q201_8, q201_9, q201_10, q201_11, x_bipush, y_call101, y_call102, y_call104, y_call106, y_call202, y_call98, x_goto_1, x_goto_10, x_goto_4, x_goto_8, x_iconst, x_ifCond_eq_2, x_ifCond_eq_3, x_ifCond_eq_5, x_ifCond_eq_6, x_ifCond_ge_7, x_ifCond_ge_9, x_ifCond_ne_1, x_ifCond_ne_11, x_iload4, x_imax, x_istore4, x_isub, x_labs, x_ladd, x_land, x_lcmp, x_lload0, x_lload2, x_lload5, x_lload7, x_lload9, x_lneg, x_lreturn, x_lshl, x_lstore5, x_lstore7, x_lstore9, klp_0, klp_1, klp_2, klp_3, klp_9, KC_0, KC_1, KC_2, KC_3, KC_4, ne_eq, not_false_eq_true, not_true_eq_false, true_and, and_true, and_self, implies_true, eq_self, true_imp_iff, false_implies, Int.reduceEq, Int.reduceNe, Int.reduceMod, Int.reduceMul, Int.reduceAdd, Int.reduceSub, Int.reduceNeg, Int.reduceLT, Int.reduceLE, Nat.reduceAdd, Nat.reduceLeDiff, Nat.reduceLT, Nat.reduceSub, reduceIte, wds_n, wds_0, wds_1, wds_2, wds_3, or_true, true_or, or_false, false_or, or_self, d_pos, d_s1, d_s2, d_s3, d_s4, d_s5, d_s6, d_s7, d_s8, not_not, s101, s102, bt0, na, nb, ia, ib, lc_eq]
      rw [cn_of (x := a) (u := FP.dadd (d_U a) (d_U b)) ha]
      · rw [hv, dv_inf ha ia, dv_fin hb (by omega)]
        rfl
      · exact dv_num ha na
  by_cases ib : mg b = 9218868437227405312
  · simp only [sp201, b201_0, b201_1, b201_2, b201_3, b201_4, b201_5, b201_6, b201_7, b201_8, b201_9, b201_10, b201_11, q201_1, q201_2, q201_3, q201_4, q201_5, q201_6, q201_7, q201_8, q201_9, q201_10, q201_11, x_bipush, y_call101, y_call102, y_call104, y_call106, y_call202, y_call98, x_goto_1, x_goto_10, x_goto_4, x_goto_8, x_iconst, x_ifCond_eq_2, x_ifCond_eq_3, x_ifCond_eq_5, x_ifCond_eq_6, x_ifCond_ge_7, x_ifCond_ge_9, x_ifCond_ne_1, x_ifCond_ne_11, x_iload4, x_imax, x_istore4, x_isub, x_labs, x_ladd, x_land, x_lcmp, x_lload0, x_lload2, x_lload5, x_lload7, x_lload9, x_lneg, x_lreturn, x_lshl, x_lstore5, x_lstore7, x_lstore9, klp_0, klp_1, klp_2, klp_3, klp_9, KC_0, KC_1, KC_2, KC_3, KC_4, ne_eq, not_false_eq_true, not_true_eq_false, true_and, and_true, and_self, implies_true, eq_self, true_imp_iff, false_implies, Int.reduceEq, Int.reduceNe, Int.reduceMod, Int.reduceMul, Int.reduceAdd, Int.reduceSub, Int.reduceNeg, Int.reduceLT, Int.reduceLE, Nat.reduceAdd, Nat.reduceLeDiff, Nat.reduceLT, Nat.reduceSub, reduceIte, wds_n, wds_0, wds_1, wds_2, wds_3, or_true, true_or, or_false, false_or, or_self, d_pos, d_s1, d_s2, d_s3, d_s4, d_s5, d_s6, d_s7, d_s8, not_not, s101, s102, bt0, na, nb, ia, ib, lc_eq]
    rw [cn_of (x := b) (u := FP.dadd (d_U a) (d_U b)) hb]
    · rw [hv, dv_inf hb ib, dv_fin ha (by omega)]
      rfl
    · exact dv_num hb nb
  -- both finite
  have k1 := dg_lt a
  have k2 := dg_lt b
  have k3 := pl_rng a
  have k4 := pl_rng b
  have sh : ∀ c : Nat, c < 9007199254740992 → l_shl (c : Int) 8 = ((c * 256 : Nat) : Int) := by
    intro c hc
    have := l_shl_eq (x := (c : Int)) (n := 8) (by omega) (by decide)
    rw [show ((8 : Nat) : Int) = 8 from rfl] at this
    rw [this, show (2 : Nat) ^ 8 = 256 from rfl, w64_id (by omega)]
    omega
  have wa : w32 (max (pl a) (pl b) - pl a) = (((max (pl a) (pl b) - pl a).toNat : Nat) : Int) := by rw [w32_id (by omega)]; omega
  have wb : w32 (max (pl a) (pl b) - pl b) = (((max (pl a) (pl b) - pl b).toNat : Nat) : Int) := by rw [w32_id (by omega)]; omega
  have ja := jm_lt (n := (max (pl a) (pl b) - pl a).toNat) k1
  have jb := jm_lt (n := (max (pl a) (pl b) - pl b).toNat) k2
  obtain ⟨hz, hnz⟩ := fin_sum ha hb (by omega) (by omega) rfl
  have w8' : w32 (max (pl a) (pl b) - 8) = max (pl a) (pl b) - 8 := w32_id (by omega)
  generalize hA : jm (dg a * 256) (max (pl a) (pl b) - pl a).toNat = A at *
  generalize hB : jm (dg b * 256) (max (pl a) (pl b) - pl b).toNat = B at *
  have sA : Sp fz (d + 1) 202 [(1, ((dg a * 256 : Nat) : Int)), (0, (((max (pl a) (pl b) - pl a).toNat : Nat) : Int))] = fun h Q => Q (A : Int) h := by
    funext h Q
    rw [s202 (by omega), hA]
  have sB : Sp fz (d + 1) 202 [(1, ((dg b * 256 : Nat) : Int)), (0, (((max (pl a) (pl b) - pl b).toNat : Nat) : Int))] = fun h Q => Q (B : Int) h := by
    funext h Q
    rw [s202 (by omega), hB]
  have fin : ∀ W : Int, W = FP.Core.signed (decide (a < 0)) A + FP.Core.signed (decide (b < 0)) B → L64 W → ((¬ W = 0 → Sp fz (d + 1) 98 [(1, l_and W (-9223372036854775808)), (1, max W (w64 (-W))), (0, max (pl a) (pl b) - 8)] h Q) ∧ (W = 0 → Q (l_and (l_and a b) (-9223372036854775808)) h)) = Q (cn (FP.dadd (d_U a) (d_U b))) h := by
    intro W hW hL
    have hWa : W.natAbs < 9223372036854775808 := by rw [hW]; unfold FP.Core.signed; split <;> split <;> omega
    subst hW
    refine propext ⟨fun q => ?_, fun q => ⟨fun h0 => ?_, fun h0 => ?_⟩⟩
    · by_cases h0 : FP.Core.signed (decide (a < 0)) A + FP.Core.signed (decide (b < 0)) B = 0
      · have q2 := q.2 h0
        rw [and_sg ha hb] at q2
        rw [← cn_rr (m := 0) (by decide) (hz h0), if_pos rfl]
        exact q2
      · have q2 := q.1 h0
        rw [sg_of hL, w64_neg hL, if_neg (by omega), s98 hWa (by omega), cn_rr hWa (hnz h0)] at q2
        exact q2
    · rw [sg_of hL, w64_neg hL, if_neg (by omega), s98 hWa (by omega), cn_rr hWa (hnz h0)]
      exact q
    · rw [and_sg ha hb]
      rw [← cn_rr (m := 0) (by decide) (hz h0), if_pos rfl] at q
      exact q
  unfold FP.Core.signed at fin
  by_cases qa : a < 0
  · have f1 : (0 ≤ a) = False := eq_false (by omega)
    have nA : w64 (-(A : Int)) = -(A : Int) := w64_id (by omega)
    by_cases qb : b < 0
    · have f2 : (0 ≤ b) = False := eq_false (by omega)
      have nB : w64 (-(B : Int)) = -(B : Int) := w64_id (by omega)
      have nW : w64 (-(A : Int) + -(B : Int)) = -(A : Int) + -(B : Int) := w64_id (by omega)
      simp only [sp201, b201_0, b201_1, b201_2, b201_3, b201_4, b201_5, b201_6, b201_7, b201_8, b201_9, b201_10, b201_11, q201_1, q201_2, q201_3, q201_4, q201_5, q201_6, q201_7, q201_8, q201_9, q201_10, q201_11, x_bipush, y_call101, y_call102, y_call104, y_call106, y_call202, y_call98, x_goto_1, x_goto_10, x_goto_4, x_goto_8, x_iconst, x_ifCond_eq_2, x_ifCond_eq_3, x_ifCond_eq_5, x_ifCond_eq_6, x_ifCond_ge_7, x_ifCond_ge_9, x_ifCond_ne_1, x_ifCond_ne_11, x_iload4, x_imax, x_istore4, x_isub, x_labs, x_ladd, x_land, x_lcmp, x_lload0, x_lload2, x_lload5, x_lload7, x_lload9, x_lneg, x_lreturn, x_lshl, x_lstore5, x_lstore7, x_lstore9, klp_0, klp_1, klp_2, klp_3, klp_9, KC_0, KC_1, KC_2, KC_3, KC_4, ne_eq, not_false_eq_true, not_true_eq_false, true_and, and_true, and_self, implies_true, eq_self, true_imp_iff, false_implies, Int.reduceEq, Int.reduceNe, Int.reduceMod, Int.reduceMul, Int.reduceAdd, Int.reduceSub, Int.reduceNeg, Int.reduceLT, Int.reduceLE, Nat.reduceAdd, Nat.reduceLeDiff, Nat.reduceLT, Nat.reduceSub, reduceIte, wds_n, wds_0, wds_1, wds_2, wds_3, or_true, true_or, or_false, false_or, or_self, d_pos, d_s1, d_s2, d_s3, d_s4, d_s5, d_s6, d_s7, d_s8, not_not, s101, s102, s104, s106, bt0, na, nb, ia, ib, lc_eq, lc_ge, sh _ k1, sh _ k2, wa, wb, sA, sB, f1, f2, nA, nB, nW, w8']
      exact fin _ (by rw [decide_eq_true qa, decide_eq_true qb]; rfl) (by omega)
    · have f2 : (0 ≤ b) = True := eq_true (by omega)
      have nW : w64 (-(A : Int) + (B : Int)) = -(A : Int) + (B : Int) := w64_id (by omega)
      simp only [sp201, b201_0, b201_1, b201_2, b201_3, b201_4, b201_5, b201_6, b201_7, b201_8, b201_9, b201_10, b201_11, q201_1, q201_2, q201_3, q201_4, q201_5, q201_6, q201_7, q201_8, q201_9, q201_10, q201_11, x_bipush, y_call101, y_call102, y_call104, y_call106, y_call202, y_call98, x_goto_1, x_goto_10, x_goto_4, x_goto_8, x_iconst, x_ifCond_eq_2, x_ifCond_eq_3, x_ifCond_eq_5, x_ifCond_eq_6, x_ifCond_ge_7, x_ifCond_ge_9, x_ifCond_ne_1, x_ifCond_ne_11, x_iload4, x_imax, x_istore4, x_isub, x_labs, x_ladd, x_land, x_lcmp, x_lload0, x_lload2, x_lload5, x_lload7, x_lload9, x_lneg, x_lreturn, x_lshl, x_lstore5, x_lstore7, x_lstore9, klp_0, klp_1, klp_2, klp_3, klp_9, KC_0, KC_1, KC_2, KC_3, KC_4, ne_eq, not_false_eq_true, not_true_eq_false, true_and, and_true, and_self, implies_true, eq_self, true_imp_iff, false_implies, Int.reduceEq, Int.reduceNe, Int.reduceMod, Int.reduceMul, Int.reduceAdd, Int.reduceSub, Int.reduceNeg, Int.reduceLT, Int.reduceLE, Nat.reduceAdd, Nat.reduceLeDiff, Nat.reduceLT, Nat.reduceSub, reduceIte, wds_n, wds_0, wds_1, wds_2, wds_3, or_true, true_or, or_false, false_or, or_self, d_pos, d_s1, d_s2, d_s3, d_s4, d_s5, d_s6, d_s7, d_s8, not_not, s101, s102, s104, s106, bt0, na, nb, ia, ib, lc_eq, lc_ge, sh _ k1, sh _ k2, wa, wb, sA, sB, f1, f2, nA, nW, w8']
      exact fin _ (by rw [decide_eq_true qa, decide_eq_false qb]; rfl) (by omega)
  · have f1 : (0 ≤ a) = True := eq_true (by omega)
    by_cases qb : b < 0
    · have f2 : (0 ≤ b) = False := eq_false (by omega)
      have nB : w64 (-(B : Int)) = -(B : Int) := w64_id (by omega)
      have nW : w64 ((A : Int) + -(B : Int)) = (A : Int) + -(B : Int) := w64_id (by omega)
      simp only [sp201, b201_0, b201_1, b201_2, b201_3, b201_4, b201_5, b201_6, b201_7, b201_8, b201_9, b201_10, b201_11, q201_1, q201_2, q201_3, q201_4, q201_5, q201_6, q201_7, q201_8, q201_9, q201_10, q201_11, x_bipush, y_call101, y_call102, y_call104, y_call106, y_call202, y_call98, x_goto_1, x_goto_10, x_goto_4, x_goto_8, x_iconst, x_ifCond_eq_2, x_ifCond_eq_3, x_ifCond_eq_5, x_ifCond_eq_6, x_ifCond_ge_7, x_ifCond_ge_9, x_ifCond_ne_1, x_ifCond_ne_11, x_iload4, x_imax, x_istore4, x_isub, x_labs, x_ladd, x_land, x_lcmp, x_lload0, x_lload2, x_lload5, x_lload7, x_lload9, x_lneg, x_lreturn, x_lshl, x_lstore5, x_lstore7, x_lstore9, klp_0, klp_1, klp_2, klp_3, klp_9, KC_0, KC_1, KC_2, KC_3, KC_4, ne_eq, not_false_eq_true, not_true_eq_false, true_and, and_true, and_self, implies_true, eq_self, true_imp_iff, false_implies, Int.reduceEq, Int.reduceNe, Int.reduceMod, Int.reduceMul, Int.reduceAdd, Int.reduceSub, Int.reduceNeg, Int.reduceLT, Int.reduceLE, Nat.reduceAdd, Nat.reduceLeDiff, Nat.reduceLT, Nat.reduceSub, reduceIte, wds_n, wds_0, wds_1, wds_2, wds_3, or_true, true_or, or_false, false_or, or_self, d_pos, d_s1, d_s2, d_s3, d_s4, d_s5, d_s6, d_s7, d_s8, not_not, s101, s102, s104, s106, bt0, na, nb, ia, ib, lc_eq, lc_ge, sh _ k1, sh _ k2, wa, wb, sA, sB, f1, f2, nB, nW, w8']
      exact fin _ (by rw [decide_eq_false qa, decide_eq_true qb]; rfl) (by omega)
    · have f2 : (0 ≤ b) = True := eq_true (by omega)
      have nW : w64 ((A : Int) + (B : Int)) = (A : Int) + (B : Int) := w64_id (by omega)
      simp only [sp201, b201_0, b201_1, b201_2, b201_3, b201_4, b201_5, b201_6, b201_7, b201_8, b201_9, b201_10, b201_11, q201_1, q201_2, q201_3, q201_4, q201_5, q201_6, q201_7, q201_8, q201_9, q201_10, q201_11, x_bipush, y_call101, y_call102, y_call104, y_call106, y_call202, y_call98, x_goto_1, x_goto_10, x_goto_4, x_goto_8, x_iconst, x_ifCond_eq_2, x_ifCond_eq_3, x_ifCond_eq_5, x_ifCond_eq_6, x_ifCond_ge_7, x_ifCond_ge_9, x_ifCond_ne_1, x_ifCond_ne_11, x_iload4, x_imax, x_istore4, x_isub, x_labs, x_ladd, x_land, x_lcmp, x_lload0, x_lload2, x_lload5, x_lload7, x_lload9, x_lneg, x_lreturn, x_lshl, x_lstore5, x_lstore7, x_lstore9, klp_0, klp_1, klp_2, klp_3, klp_9, KC_0, KC_1, KC_2, KC_3, KC_4, ne_eq, not_false_eq_true, not_true_eq_false, true_and, and_true, and_self, implies_true, eq_self, true_imp_iff, false_implies, Int.reduceEq, Int.reduceNe, Int.reduceMod, Int.reduceMul, Int.reduceAdd, Int.reduceSub, Int.reduceNeg, Int.reduceLT, Int.reduceLE, Nat.reduceAdd, Nat.reduceLeDiff, Nat.reduceLT, Nat.reduceSub, reduceIte, wds_n, wds_0, wds_1, wds_2, wds_3, or_true, true_or, or_false, false_or, or_self, d_pos, d_s1, d_s2, d_s3, d_s4, d_s5, d_s6, d_s7, d_s8, not_not, s101, s102, s104, s106, bt0, na, nb, ia, ib, lc_eq, lc_ge, sh _ k1, sh _ k2, wa, wb, sA, sB, f1, f2, nW, w8']
      exact fin _ (by rw [decide_eq_false qa, decide_eq_false qb]; rfl) (by omega)
end RL
