/-! THE PURE SIDE, 15: the class's own REALS: printed by wip/tools/gen40.py -/
theorem d_s1 {d : Nat} : d + 1 - 1 = d := rfl
theorem d_s2 {d : Nat} : d + 2 - 1 = d + 1 := rfl
theorem d_s3 {d : Nat} : d + 3 - 1 = d + 2 := rfl
theorem d_s4 {d : Nat} : d + 4 - 1 = d + 3 := rfl
theorem d_s5 {d : Nat} : d + 5 - 1 = d + 4 := rfl
theorem d_s6 {d : Nat} : d + 6 - 1 = d + 5 := rfl
theorem d_s7 {d : Nat} : d + 7 - 1 = d + 6 := rfl
theorem d_s8 {d : Nat} : d + 8 - 1 = d + 7 := rfl
theorem le_T {a b : Int} (h : a ≤ b) : (a ≤ b) = True := eq_true h
theorem le_F {a b : Int} (h : b < a) : (a ≤ b) = False := eq_false (by omega)
theorem lt_T {a b : Int} (h : a < b) : (a < b) = True := eq_true h
theorem lt_F {a b : Int} (h : b ≤ a) : (a < b) = False := eq_false (by omega)
theorem eq_F {a b : Int} (h : a ≠ b) : (a = b) = False := eq_false h
theorem w32_T {x : Int} (h : -2147483648 ≤ x ∧ x ≤ 2147483647) : w32 x = x := w32_id h
theorem w64_T {x : Int} (h : -9223372036854775808 ≤ x ∧ x ≤ 9223372036854775807) : w64 x = x := w64_id h
theorem bz1 {c : Prop} [Decidable c] : ((if c then (1 : Int) else 0) = 1) = c := by
  by_cases h : c
  · rw [if_pos h]; exact propext ⟨fun _ => h, fun _ => rfl⟩
  · rw [if_neg h]; exact propext ⟨fun q => absurd q (by decide), fun q => (h q).elim⟩
theorem lc_le {a b : Int} : (l_cmp a b ≤ 0) = (a ≤ b) := by unfold l_cmp; apply propext; (split <;> (try split) <;> omega)
theorem lc_ge {a b : Int} : (0 ≤ l_cmp a b) = (b ≤ a) := by unfold l_cmp; apply propext; (split <;> (try split) <;> omega)
theorem lc_lt {a b : Int} : (l_cmp a b < 0) = (a < b) := by unfold l_cmp; apply propext; (split <;> (try split) <;> omega)
theorem lc_gt {a b : Int} : (0 < l_cmp a b) = (b < a) := by unfold l_cmp; apply propext; (split <;> (try split) <;> omega)
theorem lc_eq {a b : Int} : (l_cmp a b = 0) = (a = b) := by unfold l_cmp; apply propext; (split <;> (try split) <;> omega)
theorem bz0 {c : Prop} [Decidable c] : ((if c then (1 : Int) else 0) = 0) = ¬ c := by
  by_cases h : c
  · rw [if_pos h]; exact propext ⟨fun q => absurd q (by decide), fun q => (q h).elim⟩
  · rw [if_neg h]; exact propext ⟨fun _ => h, fun _ => rfl⟩
/-- two ways, one answer each -/
theorem bw_t {p c : Prop} [Decidable c] {P : Int → Prop} {x y : Int} (e : p ↔ c) : ((p → P x) ∧ (¬ p → P y)) = P (if c then x else y) := by
  by_cases h : c
  · rw [if_pos h]; exact propext ⟨fun q => q.1 (e.mpr h), fun q => ⟨fun _ => q, fun n => (n (e.mpr h)).elim⟩⟩
  · rw [if_neg h]; exact propext ⟨fun q => q.2 (fun w => h (e.mp w)), fun q => ⟨fun w => (h (e.mp w)).elim, fun _ => q⟩⟩
theorem bw_f {p c : Prop} [Decidable c] {P : Int → Prop} {x y : Int} (e : p ↔ ¬ c) : ((p → P x) ∧ (¬ p → P y)) = P (if c then y else x) := by
  by_cases h : c
  · rw [if_pos h]; exact propext ⟨fun q => q.2 (fun w => e.mp w h), fun q => ⟨fun w => (e.mp w h).elim, fun _ => q⟩⟩
  · rw [if_neg h]; exact propext ⟨fun q => q.1 (e.mpr h), fun q => ⟨fun _ => q, fun n => (n (e.mpr h)).elim⟩⟩
theorem bw_n {p c : Prop} [Decidable c] {P : Int → Prop} {x y : Int} (e : p ↔ c) : ((¬ p → P x) ∧ (p → P y)) = P (if c then y else x) := by
  by_cases h : c
  · rw [if_pos h]; exact propext ⟨fun q => q.2 (e.mpr h), fun q => ⟨fun w => (w (e.mpr h)).elim, fun _ => q⟩⟩
  · rw [if_neg h]; exact propext ⟨fun q => q.1 (fun w => h (e.mp w)), fun q => ⟨fun _ => q, fun n => (h (e.mp n)).elim⟩⟩
/-! masks -/
theorem and_hi (x m n : Nat) : x &&& m * 2 ^ n = (x / 2 ^ n &&& m) * 2 ^ n := by
  have h0 := Nat.div_add_mod (x &&& m * 2 ^ n) (2 ^ n)
  rw [Nat.and_div_two_pow, Nat.and_mod_two_pow, Nat.mul_div_cancel _ (Nat.two_pow_pos n), Nat.mul_mod_left, Nat.and_zero, Nat.add_zero] at h0
  rw [← h0, Nat.mul_comm]
theorem or_hi {a b n : Nat} (hb : b < 2 ^ n) : a * 2 ^ n ||| b = a * 2 ^ n + b := by
  have := Nat.shiftLeft_add_eq_or_of_lt hb a
  rw [Nat.shiftLeft_eq] at this
  exact this.symm
theorem mk_mg (a : Int) : l_and a 9223372036854775807 = ((mg a : Nat) : Int) := by
  rw [l_and_U, show U 9223372036854775807 = 2 ^ 63 - 1 from rfl, Nat.and_two_pow_sub_one_eq_mod]
  exact UI_lo (Nat.mod_lt _ (by decide))
theorem mk_tf (a : Int) : l_and a 4503599627370495 = ((tf a : Nat) : Int) := by
  rw [l_and_U, show U 4503599627370495 = 2 ^ 52 - 1 from rfl, Nat.and_two_pow_sub_one_eq_mod]
  exact UI_lo (Nat.lt_of_lt_of_le (Nat.mod_lt _ (by decide)) (by decide))
theorem mk_ef (a : Int) : l_and a 9218868437227405312 = ((ef a * 4503599627370496 : Nat) : Int) := by
  rw [l_and_U, show U 9218868437227405312 = 2047 * 2 ^ 52 from rfl, and_hi, show (2047 : Nat) = 2 ^ 11 - 1 from rfl, Nat.and_two_pow_sub_one_eq_mod]
  have := ef_lt a
  exact UI_lo (by show ef a * 4503599627370496 < _; omega)
theorem mk_sg {a : Int} (h : L64 a) : l_and a NV_9223372036854775808 = if a < 0 then -9223372036854775808 else 0 := by
  rw [NV_9223372036854775808_e, l_and_U, show U (-9223372036854775808) = 1 * 2 ^ 63 from rfl, and_hi, Nat.and_one_is_mod]
  have h1 := U_sgn h
  have h2 : mg a < 9223372036854775808 := by unfold mg; omega
  split
  · rename_i hc
    rw [if_pos hc] at h1
    rw [show U a / 2 ^ 63 = 1 by omega]
    rfl
  · rename_i hc
    rw [if_neg hc] at h1
    rw [show U a / 2 ^ 63 = 0 by omega]
    rfl
theorem mk_e (a : Int) : l_and (l_ushr a 52) 2047 = ((ef a : Nat) : Int) := by
  have h := l_ushr_U a (n := 52) (by decide)
  rw [show ((52 : Nat) : Int) = 52 from rfl] at h
  have h1 := U_lt a
  have h2 := ef_lt a
  rw [h, l_and_U, U_UI (by omega), show U 2047 = 2 ^ 11 - 1 from rfl, Nat.and_two_pow_sub_one_eq_mod]
  exact UI_lo (by show ef a < _; omega)
theorem mk_hid (a : Int) : l_or ((tf a : Nat) : Int) 4503599627370496 = ((tf a + 4503599627370496 : Nat) : Int) := by
  have h1 := tf_lt a
  rw [l_or_U, U_pos (by omega) (by omega), show U 4503599627370496 = 1 * 2 ^ 52 from rfl, Nat.or_comm, Int.toNat_natCast, or_hi h1, UI_lo (by omega)]
  omega
theorem l_ushr_pos {a s : Int} {n : Nat} (hs : s = n) (hn : n < 64) (h0 : 0 ≤ a) (h : a ≤ 9223372036854775807) : l_ushr a s = ((a.toNat / 2 ^ n : Nat) : Int) := by
  rw [hs, l_ushr_U a hn, U_pos h0 h]
  refine UI_lo (Nat.lt_of_le_of_lt (Nat.div_le_self _ _) ?_)
  omega
/-! the small ones -/
section RL
variable {fz : Int → Int → Option Int} {d : Nat} {h : HV} {Q : Int → HV → Prop} {a b : Int}
theorem s101 : Sp fz d 101 [(1, a)] h Q = Q (if 9218868437227405312 < mg a then 1 else 0) h := by
  simp (implicitDefEqProofs := false) only [sp101, b101_0, b101_1, b101_2, q101_1, q101_2, x_bipush, x_freturn, x_goto_2, x_iconst, x_ifCond_le_1, x_land, x_lcmp, x_lload0, klp_0, klp_1, klp_2, klp_3, klp_9, KC_0, KC_1, KC_2, KC_3, KC_4, ne_eq, not_false_eq_true, not_true_eq_false, true_and, and_true, and_self, implies_true, eq_self, true_imp_iff, false_implies, Int.reduceEq, Int.reduceNe, Int.reduceMod, Int.reduceMul, Int.reduceAdd, Int.reduceSub, Int.reduceLT, Int.reduceLE, Nat.reduceAdd, Nat.reduceLeDiff, Nat.reduceLT, Nat.reduceSub, reduceIte, wds_n, wds_0, wds_1, wds_2, wds_3, or_true, true_or, or_false, false_or, or_self, d_pos, d_s1, d_s2, d_s3, d_s4, d_s5, d_s6, d_s7, d_s8, Classical.not_not, mk_mg, lc_le]
  exact bw_f (P := fun x => Q x h) (by omega)
theorem s102 : Sp fz d 102 [(1, a)] h Q = Q (if mg a = 9218868437227405312 then 1 else 0) h := by
  simp (implicitDefEqProofs := false) only [sp102, b102_0, b102_1, b102_2, q102_1, q102_2, x_bipush, x_freturn, x_goto_2, x_iconst, x_ifCond_ne_1, x_land, x_lcmp, x_lload0, klp_0, klp_1, klp_2, klp_3, klp_9, KC_0, KC_1, KC_2, KC_3, KC_4, ne_eq, not_false_eq_true, not_true_eq_false, true_and, and_true, and_self, implies_true, eq_self, true_imp_iff, false_implies, Int.reduceEq, Int.reduceNe, Int.reduceMod, Int.reduceMul, Int.reduceAdd, Int.reduceSub, Int.reduceLT, Int.reduceLE, Nat.reduceAdd, Nat.reduceLeDiff, Nat.reduceLT, Nat.reduceSub, reduceIte, wds_n, wds_0, wds_1, wds_2, wds_3, or_true, true_or, or_false, false_or, or_self, d_pos, d_s1, d_s2, d_s3, d_s4, d_s5, d_s6, d_s7, d_s8, Classical.not_not, mk_mg, lc_eq]
  exact bw_n (P := fun x => Q x h) (by omega)
theorem s103 : Sp fz d 103 [(1, a)] h Q = Q (if mg a = 0 then 1 else 0) h := by
  simp (implicitDefEqProofs := false) only [sp103, b103_0, b103_1, b103_2, q103_1, q103_2, x_bipush, x_freturn, x_goto_2, x_iconst, x_ifCond_ne_1, x_land, x_lcmp, x_lload0, klp_0, klp_1, klp_2, klp_3, klp_9, KC_0, KC_1, KC_2, KC_3, KC_4, ne_eq, not_false_eq_true, not_true_eq_false, true_and, and_true, and_self, implies_true, eq_self, true_imp_iff, false_implies, Int.reduceEq, Int.reduceNe, Int.reduceMod, Int.reduceMul, Int.reduceAdd, Int.reduceSub, Int.reduceLT, Int.reduceLE, Nat.reduceAdd, Nat.reduceLeDiff, Nat.reduceLT, Nat.reduceSub, reduceIte, wds_n, wds_0, wds_1, wds_2, wds_3, or_true, true_or, or_false, false_or, or_self, d_pos, d_s1, d_s2, d_s3, d_s4, d_s5, d_s6, d_s7, d_s8, Classical.not_not, mk_mg, lc_eq]
  exact bw_n (P := fun x => Q x h) (by omega)
theorem s104 : Sp fz d 104 [(1, a)] h Q = Q ((dg a : Nat) : Int) h := by
  simp (implicitDefEqProofs := false) only [sp104, b104_0, b104_1, b104_2, q104_1, q104_2, x_bipush, x_goto_2, x_ifCond_ne_1, x_land, x_lcmp, x_lload0, x_lload2, x_lor, x_lreturn, x_lstore2, klp_0, klp_1, klp_2, klp_3, klp_9, KC_0, KC_1, KC_2, KC_3, KC_4, ne_eq, not_false_eq_true, not_true_eq_false, true_and, and_true, and_self, implies_true, eq_self, true_imp_iff, false_implies, Int.reduceEq, Int.reduceNe, Int.reduceMod, Int.reduceMul, Int.reduceAdd, Int.reduceSub, Int.reduceLT, Int.reduceLE, Nat.reduceAdd, Nat.reduceLeDiff, Nat.reduceLT, Nat.reduceSub, reduceIte, wds_n, wds_0, wds_1, wds_2, wds_3, or_true, true_or, or_false, false_or, or_self, d_pos, d_s1, d_s2, d_s3, d_s4, d_s5, d_s6, d_s7, d_s8, Classical.not_not, mk_tf, mk_ef, lc_eq, mk_hid]
  have e : ((dg a : Nat) : Int) = if ef a = 0 then ((tf a : Nat) : Int) else ((tf a + 4503599627370496 : Nat) : Int) := by unfold dg; split <;> rfl
  rw [e]
  exact bw_n (P := fun x => Q x h) (by omega)
theorem s106a {E r : Int} (hE2 : 0 ≤ E ∧ E < 2048) (hm : l_and (l_ushr a 52) 2047 = E) (hr : max E 1 - 1 + NV_1074 = r) : Sp fz d 106 [(1, a)] h Q = Q r h := by
  have hv := NV_1074_e
  simp (implicitDefEqProofs := false) (disch := omega) only [sp106, n106_0, x_bipush, x_iadd, x_iconst, x_imax, x_ireturn, x_isub, x_l2i, x_land, x_lload0, x_lushr, klp_0, klp_1, klp_2, klp_3, klp_9, KC_0, KC_1, KC_2, KC_3, KC_4, ne_eq, not_false_eq_true, not_true_eq_false, true_and, and_true, and_self, implies_true, eq_self, true_imp_iff, false_implies, Int.reduceEq, Int.reduceNe, Int.reduceMod, Int.reduceMul, Int.reduceAdd, Int.reduceSub, Int.reduceLT, Int.reduceLE, Nat.reduceAdd, Nat.reduceLeDiff, Nat.reduceLT, Nat.reduceSub, reduceIte, wds_n, wds_0, wds_1, wds_2, wds_3, or_true, true_or, or_false, false_or, or_self, d_pos, d_s1, d_s2, d_s3, d_s4, d_s5, d_s6, d_s7, d_s8, Classical.not_not, hm, w32_T]
  rw [hr]
theorem s106 : Sp fz d 106 [(1, a)] h Q = Q (pl a) h := by
  have h1 := ef_lt a
  exact s106a ⟨Int.natCast_nonneg _, Int.ofNat_lt.mpr h1⟩ (mk_e a) rfl
def wd (m : Nat) : Nat := if m = 0 then 0 else m.log2 + 1
theorem bs99 {W x w : Int} {r : Nat} (hQ : Q W h) (hr : r < 2) (hz : r = 0 → w = 0) (hW : w + wd r = W) (h0 : 0 ≤ w) (hw : w ≤ 64) : G fz d 99 1 [(1, x), (9, 0), (0, w), (1, (r : Int)), (9, 0), (0, 0)] [] h Q := by
  have hr2 : r = 0 ∨ r = 1 := by omega
  refine G_in ?_
  simp (implicitDefEqProofs := false) only [b99_0, b99_1, b99_2, b99_3, b99_4, b99_5, q99_2, q99_3, q99_4, q99_5, x_bipush, x_goto_1, x_goto_2, x_goto_5, x_iadd, x_iconst, x_ifCond_eq_2, x_ifCond_le_3, x_ifCond_ne_4, x_iload2, x_iload5, x_ireturn, x_ishr, x_istore2, x_istore5, x_lcmp, x_lload0, x_lload3, x_lstore3, x_lushr, klp_0, klp_1, klp_2, klp_3, klp_9, KC_0, KC_1, KC_2, KC_3, KC_4, ne_eq, not_false_eq_true, not_true_eq_false, true_and, and_true, and_self, implies_true, eq_self, true_imp_iff, false_implies, Int.reduceEq, Int.reduceNe, Int.reduceMod, Int.reduceMul, Int.reduceAdd, Int.reduceSub, Int.reduceLT, Int.reduceLE, Nat.reduceAdd, Nat.reduceLeDiff, Nat.reduceLT, Nat.reduceSub, reduceIte, wds_n, wds_0, wds_1, wds_2, wds_3, or_true, true_or, or_false, false_or, or_self, d_pos, d_s1, d_s2, d_s3, d_s4, d_s5, d_s6, d_s7, d_s8, Classical.not_not, lc_eq]
  rcases hr2 with e | e
  · subst e
    have e0 : (0 : Int) = W := by rw [← hW, hz rfl]; decide
    refine ⟨fun q => (q rfl).elim, fun _ => ?_⟩
    rw [e0]
    exact hQ
  · subst e
    have : wd 1 = 1 := by decide
    rw [this] at hW
    refine ⟨fun _ => ?_, fun q => by omega⟩
    rw [w32_id (by omega), show w + 1 = W from hW]
    exact hQ
theorem st99 {W x : Int} {n n' : Nat} (hn : 0 < n) (hn2 : n ≤ 32) (hh : i_shr (n : Int) 1 = (n' : Int)) (IH : ∀ (w : Int) (r : Nat), r < 2 ^ n → (r = 0 → w = 0) → w + wd r = W → 0 ≤ w → w + n ≤ 64 → G fz d 99 1 [(1, x), (9, 0), (0, w), (1, (r : Int)), (9, 0), (0, (n' : Int))] [] h Q) :
    ∀ (w : Int) (r : Nat), r < 2 ^ (2 * n) → r < 9223372036854775808 → (r = 0 → w = 0) → w + wd r = W → 0 ≤ w → w + 2 * n ≤ 64 → G fz d 99 1 [(1, x), (9, 0), (0, w), (1, (r : Int)), (9, 0), (0, (n : Int))] [] h Q := by
  intro w r hr hr2 hz hW h0 hw
  have hp := Nat.two_pow_pos n
  refine G_in ?_
  simp (implicitDefEqProofs := false) only [b99_0, b99_1, b99_2, b99_3, b99_4, b99_5, q99_2, q99_3, q99_4, q99_5, x_bipush, x_goto_1, x_goto_2, x_goto_5, x_iadd, x_iconst, x_ifCond_eq_2, x_ifCond_le_3, x_ifCond_ne_4, x_iload2, x_iload5, x_ireturn, x_ishr, x_istore2, x_istore5, x_lcmp, x_lload0, x_lload3, x_lstore3, x_lushr, klp_0, klp_1, klp_2, klp_3, klp_9, KC_0, KC_1, KC_2, KC_3, KC_4, ne_eq, not_false_eq_true, not_true_eq_false, true_and, and_true, and_self, implies_true, eq_self, true_imp_iff, false_implies, Int.reduceEq, Int.reduceNe, Int.reduceMod, Int.reduceMul, Int.reduceAdd, Int.reduceSub, Int.reduceLT, Int.reduceLE, Nat.reduceAdd, Nat.reduceLeDiff, Nat.reduceLT, Nat.reduceSub, reduceIte, wds_n, wds_0, wds_1, wds_2, wds_3, or_true, true_or, or_false, false_or, or_self, d_pos, d_s1, d_s2, d_s3, d_s4, d_s5, d_s6, d_s7, d_s8, Classical.not_not, lc_eq, l_ushr_pos (a := (r : Int)) (s := (n : Int)) rfl (by omega) (by omega) (by omega), hh]
  refine ⟨fun q => by omega, fun _ => ⟨fun q => ?_, fun q => ?_⟩⟩
  · have q : ((r : Int).toNat / 2 ^ n : Nat) = 0 := by omega
    rw [Int.toNat_natCast, Nat.div_eq_zero_iff] at q
    exact IH w r (by omega) hz hW h0 (by omega)
  · rw [Int.toNat_natCast] at q ⊢
    have hd1 : r / 2 ^ n < 2 ^ n := by
      rw [Nat.div_lt_iff_lt_mul hp, ← Nat.pow_add, show n + n = 2 * n by omega]
      exact hr
    rw [w32_id (by omega)]
    have hr0 : r / 2 ^ n ≠ 0 := by omega
    refine IH (w + n) (r / 2 ^ n) hd1 (fun e => (hr0 e).elim) ?_ (by omega) (by omega)
    have hr1 : r ≠ 0 := by intro e; rw [e, Nat.zero_div] at hr0; exact hr0 rfl
    have hl : r.log2 = (r / 2 ^ n).log2 + n := by
      have l1 := Nat.log2_self_le hr0
      have l2 : r / 2 ^ n < 2 ^ ((r / 2 ^ n).log2 + 1) := Nat.lt_log2_self
      have k1 : 2 ^ ((r / 2 ^ n).log2 + n) ≤ r := by
        rw [Nat.pow_add]
        exact (Nat.le_div_iff_mul_le hp).mp l1
      have k2 : r < 2 ^ ((r / 2 ^ n).log2 + n + 1) := by
        rw [show (r / 2 ^ n).log2 + n + 1 = (r / 2 ^ n).log2 + 1 + n by omega, Nat.pow_add]
        exact (Nat.div_lt_iff_lt_mul hp).mp l2
      have := (Nat.le_log2 hr1).mpr k1
      have := (Nat.log2_lt hr1).mpr k2
      omega
    rw [← hW]
    unfold wd
    rw [if_neg hr0, if_neg hr1, hl]
    omega
theorem s99 {m : Nat} (hm : m < 9223372036854775808) : Sp fz d 99 [(1, (m : Int))] h Q = Q ((wd m : Nat) : Int) h := by
  refine Sp_is ?_ Q
  have B : ∀ (w : Int) (r : Nat), r < 2 ^ 1 → (r = 0 → w = 0) → w + wd r = wd m → 0 ≤ w → w + 1 ≤ 64 → G fz d 99 1 [(1, (m : Int)), (9, 0), (0, w), (1, (r : Int)), (9, 0), (0, ((0 : Nat) : Int))] [] h (fun r h' => r = ((wd m : Nat) : Int) ∧ h' = h) := fun w r h1 hz h2 h3 h4 => bs99 (Q := fun r h' => r = ((wd m : Nat) : Int) ∧ h' = h) ⟨rfl, rfl⟩ (by omega) hz h2 h3 (by omega)
  have B1 := st99 (n := 1) (n' := 0) (by decide) (by decide) (by decide +kernel) B
  have B2 := st99 (n := 2) (n' := 1) (by decide) (by decide) (by decide +kernel) (fun w r h1 hz h2 h3 h4 => B1 w r (by omega) (by omega) hz h2 h3 (by omega))
  have B4 := st99 (n := 4) (n' := 2) (by decide) (by decide) (by decide +kernel) (fun w r h1 hz h2 h3 h4 => B2 w r (by omega) (by omega) hz h2 h3 (by omega))
  have B8 := st99 (n := 8) (n' := 4) (by decide) (by decide) (by decide +kernel) (fun w r h1 hz h2 h3 h4 => B4 w r (by omega) (by omega) hz h2 h3 (by omega))
  have B16 := st99 (n := 16) (n' := 8) (by decide) (by decide) (by decide +kernel) (fun w r h1 hz h2 h3 h4 => B8 w r (by omega) (by omega) hz h2 h3 (by omega))
  have B32 := st99 (n := 32) (n' := 16) (by decide) (by decide) (by decide +kernel) (fun w r h1 hz h2 h3 h4 => B16 w r (by omega) (by omega) hz h2 h3 (by omega))
  simp (implicitDefEqProofs := false) only [sp99, b99_0, b99_1, b99_2, b99_3, b99_4, b99_5, q99_2, q99_3, q99_4, q99_5, x_bipush, x_goto_1, x_goto_2, x_goto_5, x_iadd, x_iconst, x_ifCond_eq_2, x_ifCond_le_3, x_ifCond_ne_4, x_iload2, x_iload5, x_ireturn, x_ishr, x_istore2, x_istore5, x_lcmp, x_lload0, x_lload3, x_lstore3, x_lushr, klp_0, klp_1, klp_2, klp_3, klp_9, KC_0, KC_1, KC_2, KC_3, KC_4, ne_eq, not_false_eq_true, not_true_eq_false, true_and, and_true, and_self, implies_true, eq_self, true_imp_iff, false_implies, Int.reduceEq, Int.reduceNe, Int.reduceMod, Int.reduceMul, Int.reduceAdd, Int.reduceSub, Int.reduceLT, Int.reduceLE, Nat.reduceAdd, Nat.reduceLeDiff, Nat.reduceLT, Nat.reduceSub, reduceIte, wds_n, wds_0, wds_1, wds_2, wds_3, or_true, true_or, or_false, false_or, or_self, d_pos, d_s1, d_s2, d_s3, d_s4, d_s5, d_s6, d_s7, d_s8, Classical.not_not]
  exact B32 0 m (by omega) hm (fun _ => rfl) (by omega) (by omega) (by omega)
theorem s105 : Sp fz (d + 1) 105 [(1, a)] h Q = Q (53 - ((wd (dg a) : Nat) : Int)) h := by
  have h1 := dg_lt a
  have h2 : wd (dg a) ≤ 53 := by
    unfold wd
    split
    · omega
    · have := (Nat.log2_lt (show dg a ≠ 0 by assumption)).mpr (show dg a < 2 ^ 53 from h1)
      omega
  simp (implicitDefEqProofs := false) only [sp105, b105_0, y_call104, y_call99, x_iconst, x_ireturn, x_isub, x_lload0, klp_0, klp_1, klp_2, klp_3, klp_9, KC_0, KC_1, KC_2, KC_3, KC_4, ne_eq, not_false_eq_true, not_true_eq_false, true_and, and_true, and_self, implies_true, eq_self, true_imp_iff, false_implies, Int.reduceEq, Int.reduceNe, Int.reduceMod, Int.reduceMul, Int.reduceAdd, Int.reduceSub, Int.reduceLT, Int.reduceLE, Nat.reduceAdd, Nat.reduceLeDiff, Nat.reduceLT, Nat.reduceSub, reduceIte, wds_n, wds_0, wds_1, wds_2, wds_3, or_true, true_or, or_false, false_or, or_self, d_pos, d_s1, d_s2, d_s3, d_s4, d_s5, d_s6, d_s7, d_s8, Classical.not_not, s104, s99 (m := dg a) (by omega)]
  rw [w32_id (by omega)]
end RL
