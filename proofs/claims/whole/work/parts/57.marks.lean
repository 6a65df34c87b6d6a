/-! THE PURE SIDE, 38: rows of both sides, and the marks of pupils: printed by wip/tools/gen57.py -/
/-- what the class has forgotten of the rows made -/
def rb (h : HV) : Int := h 643 3 - h 643 2
/-- row j of the class is row j + rb of the reference -/
def RRw (h : HV) : Prop := RW h ∧ h 6603 30 = h 643 3 ∧ ∀ j, 0 ≤ j → j < h 643 2 → h 10336 (j + rb h) = rwZ h j ∧ ∀ i, 0 ≤ i → i < rwZ h j → h 10401 (64 * (j + rb h) + i) = rwI h j i
/-- the marks of the pupils -/
def RMk (h : HV) : Prop := ∀ p, 0 ≤ p → p < h 836 4 → ∀ c, 0 ≤ c → c < 8 → (h 1120 (8 * p + c) = -1 ∧ h 10208 (8 * p + c) = -9) ∨ (h 928 p = 0 ∧ (0 ≤ h 1120 (8 * p + c) ∧ h 1120 (8 * p + c) < h 643 2) ∧ h 10208 (8 * p + c) = h 1120 (8 * p + c) + rb h ∧ h 10272 (h 1120 (8 * p + c) + rb h) = 4)
theorem RW.mono {h : HV} (R : RW h) : ∀ (n : Nat) (r : Int), 0 ≤ r → r + n ≤ h 643 2 → h (h 643 0) r ≤ h (h 643 0) (r + n)
  | 0, r, _, _ => by rw [show r + ((0 : Nat) : Int) = r by omega]; exact Int.le_refl _
  | n + 1, r, h0, h1 => by
    have a := R.mono n r h0 (by omega)
    have b := (R.2.2.2.2.2.2 (r + n) (by omega) (by omega)).1
    rw [show r + (n : Int) + 1 = r + ((n + 1 : Nat) : Int) by omega] at b
    omega
theorem RW.inj {h : HV} (R : RW h) {r s i j : Int} (hr : 0 ≤ r ∧ r < h 643 2) (hs : 0 ≤ s ∧ s < h 643 2) (hi : 0 ≤ i ∧ i < rwZ h r) (hj : 0 ≤ j ∧ j < rwZ h s) (e : h (h 643 0) r + i = h (h 643 0) s + j) : r = s ∧ i = j := by
  unfold rwZ at hi hj
  rcases Int.lt_trichotomy r s with q | q | q
  · have := R.mono (s - r - 1).toNat (r + 1) (by omega) (by omega)
    rw [show r + 1 + ((s - r - 1).toNat : Int) = s by omega] at this
    omega
  · subst q
    omega
  · have := R.mono (r - s - 1).toNat (s + 1) (by omega) (by omega)
    rw [show s + 1 + ((r - s - 1).toNat : Int) = r by omega] at this
    omega
/-- where the items lie -/
theorem RW.it {h : HV} (R : RW h) : h 643 1 % 64 = 33 ∧ (h 643 1 = 801 ∨ 13056 ≤ h 643 1) := ⟨R.2.1.2.1, R.2.1.2.2.1⟩
theorem RW.st {h : HV} (R : RW h) : h 643 0 % 64 = 32 ∧ (h 643 0 = 736 ∨ 13056 ≤ h 643 0) := ⟨R.1.2.1, R.1.2.2.1⟩
/-- an item is written -/
def itH (h : HV) (r i v : Int) : HV := hset h (h 643 1) (h (h 643 0) r + i) v
theorem itH_ne {h : HV} {r i v o : Int} (ho : o ≠ h 643 1) : itH h r i v o = h o := hs_ne ho
theorem itH_i {h : HV} {r i v s j : Int} (R : RW h) (hr : 0 ≤ r ∧ r < h 643 2) (hi : 0 ≤ i ∧ i < rwZ h r) (hs : 0 ≤ s ∧ s < h 643 2) (hj : 0 ≤ j ∧ j < rwZ h s) : rwI (itH h r i v) s j = if s = r ∧ j = i then v else rwI h s j := by
  have I := R.it
  have S := R.st
  unfold rwI
  rw [itH_ne (o := 643) (by omega), itH_ne (o := h 643 0) (by omega)]
  unfold itH
  rw [hset_v]
  by_cases e : s = r ∧ j = i
  · obtain ⟨rfl, rfl⟩ := e
    rw [if_pos ⟨rfl, rfl⟩, if_pos ⟨rfl, rfl⟩]
  · rw [if_neg e, if_neg (fun w => e (R.inj hs hr hj hi w.2))]
theorem itH_z {h : HV} {r i v s : Int} (R : RW h) : rwZ (itH h r i v) s = rwZ h s := by
  have I := R.it
  have S := R.st
  unfold rwZ
  rw [itH_ne (o := 643) (by omega), itH_ne (o := h 643 0) (by omega)]
theorem itH_R {h : HV} {r i v : Int} (R : RW h) (hr : 0 ≤ r ∧ r < h 643 2) (hi : 0 ≤ i) : RW (itH h r i v) := by
  have I := R.it
  have S := R.st
  have q := (R.2.2.2.2.2.2 r hr.1 hr.2).2.2.2
  have e3 : itH h r i v (h 643 1) (-1) = h (h 643 1) (-1) := by
    unfold itH
    rw [hset_v, if_neg (fun w => by have := w.2; omega)]
  have e643 : itH h r i v 643 = h 643 := itH_ne (by omega)
  have e0 : itH h r i v 0 = h 0 := itH_ne (by omega)
  have eS : itH h r i v (h 643 0) = h (h 643 0) := itH_ne (by omega)
  unfold RW
  rw [e643, e0, eS, e3]
  exact R
theorem s158e {d : Nat} {h : HV} {Q : Int → HV → Prop} {p c : Int} (h24 : h 836 4 ≤ 24) (hp : 0 ≤ p ∧ p < h 836 4) (hc : 0 ≤ c ∧ c < 8) : Sp fz1 (d + 1) 158 [(3, 836), (0, p), (0, c)] h Q = Q (h 1120 (p * 8 + c)) h := by
  simp (implicitDefEqProofs := false) (disch := omega) only [sp158, b158_0, b158_1, b158_2, q158_1, q158_2, x_aload0, y_call140, x_gc_4123, x_goto_2, x_i2l, x_iadd, x_iaload, x_iconst, x_ifCond_eq_1, x_ifCond_lt_1, x_if_icmp_ge_1, x_iload1, x_iload2, x_imul, x_ireturn, klp_0, klp_1, klp_2, klp_3, klp_9, KC_0, KC_1, KC_2, KC_3, KC_4, ne_eq, not_false_eq_true, not_true_eq_false, true_and, and_true, and_self, implies_true, eq_self, true_imp_iff, false_implies, Int.reduceEq, Int.reduceNe, Int.reduceMod, Int.reduceMul, Int.reduceAdd, Int.reduceSub, Int.reduceLT, Int.reduceLE, Nat.reduceAdd, Nat.reduceLeDiff, Nat.reduceLT, Nat.reduceSub, reduceIte, wds_n, wds_0, wds_1, wds_2, wds_3, or_true, true_or, or_false, false_or, or_self, false_and, and_false, d_pos, d_s1, d_s2, d_s3, d_s4, d_s5, d_s6, d_s7, d_s8, Classical.not_not, z836_3, z1120_l, s140, hp, le_sub1, le_T, le_F, lt_T, lt_F, eq_F, w32_T, bz0, bz1, lc_le, lc_ge, lc_lt, lc_gt, lc_eq] <;> first | rfl | (rw [if_pos (by omega)] <;> rfl) | (rw [if_neg (by omega)] <;> rfl) | (exfalso; omega)
theorem s163n {d : Nat} {h : HV} {Q : Int → HV → Prop} {p c k : Int} (hT : TC (h 64 8)) (R : RW h) (hg : ¬ ((0 ≤ p ∧ p < h 836 4) ∧ 0 ≤ c ∧ c < h (h 64 8 + 598) 5)) : Sp fz1 (d + 3) 163 [(3, 64), (0, p), (0, c), (0, k)] h Q = Q (NV_2000000000) h := by
  simp (implicitDefEqProofs := false) (disch := omega) only [sp163, n163_0, n163_1, b163_2, b163_3, b163_4, n163_5, b163_6, q163_1, q163_2, q163_3, q163_4, q163_5, q163_6, x_aload0, y_call152, y_call158, y_call159, y_call160, y_call161, x_gc_19, x_gc_27, x_goto_3, x_goto_6, x_i2l, x_iconst, x_ifCond_eq_5, x_ifCond_ge_2, x_ifCond_ne_1, x_if_icmp_ne_4, x_iload1, x_iload2, x_iload3, x_iload4, x_ireturn, x_istore4, x_l2i, klp_0, klp_1, klp_2, klp_3, klp_9, KC_0, KC_1, KC_2, KC_3, KC_4, ne_eq, not_false_eq_true, not_true_eq_false, true_and, and_true, and_self, implies_true, eq_self, true_imp_iff, false_implies, Int.reduceEq, Int.reduceNe, Int.reduceMod, Int.reduceMul, Int.reduceAdd, Int.reduceSub, Int.reduceLT, Int.reduceLE, Nat.reduceAdd, Nat.reduceLeDiff, Nat.reduceLT, Nat.reduceSub, reduceIte, wds_n, wds_0, wds_1, wds_2, wds_3, or_true, true_or, or_false, false_or, or_self, false_and, and_false, d_pos, d_s1, d_s2, d_s3, d_s4, d_s5, d_s6, d_s7, d_s8, Classical.not_not, z64_2, z64_3, s152 hT, hg, le_sub1, le_T, le_F, lt_T, lt_F, eq_F, w32_T, bz0, bz1, lc_le, lc_ge, lc_lt, lc_gt, lc_eq] <;> first | rfl | (rw [if_pos (by omega)] <;> rfl) | (rw [if_neg (by omega)] <;> rfl) | (exfalso; omega)
theorem s163m {d : Nat} {h : HV} {Q : Int → HV → Prop} {p c : Int} (hT : TC (h 64 8)) (R : RW h) (hg : ((0 ≤ p ∧ p < h 836 4) ∧ 0 ≤ c ∧ c < h (h 64 8 + 598) 5)) (h24 : h 836 4 ≤ 24) (hp : 0 ≤ p ∧ p < h 836 4) (hc : 0 ≤ c ∧ c < 8) {r : Int} (hr : h 1120 (p * 8 + c) = r) (h0 : r = -1) : Sp fz1 (d + 3) 163 [(3, 64), (0, p), (0, c), (0, -1)] h Q = Q (NV_2000000001) h := by
  simp (implicitDefEqProofs := false) (disch := omega) only [sp163, n163_0, n163_1, b163_2, b163_3, b163_4, n163_5, b163_6, q163_1, q163_2, q163_3, q163_4, q163_5, q163_6, x_aload0, y_call152, y_call158, y_call159, y_call160, y_call161, x_gc_19, x_gc_27, x_goto_3, x_goto_6, x_i2l, x_iconst, x_ifCond_eq_5, x_ifCond_ge_2, x_ifCond_ne_1, x_if_icmp_ne_4, x_iload1, x_iload2, x_iload3, x_iload4, x_ireturn, x_istore4, x_l2i, klp_0, klp_1, klp_2, klp_3, klp_9, KC_0, KC_1, KC_2, KC_3, KC_4, ne_eq, not_false_eq_true, not_true_eq_false, true_and, and_true, and_self, implies_true, eq_self, true_imp_iff, false_implies, Int.reduceEq, Int.reduceNe, Int.reduceMod, Int.reduceMul, Int.reduceAdd, Int.reduceSub, Int.reduceLT, Int.reduceLE, Nat.reduceAdd, Nat.reduceLeDiff, Nat.reduceLT, Nat.reduceSub, reduceIte, wds_n, wds_0, wds_1, wds_2, wds_3, or_true, true_or, or_false, false_or, or_self, false_and, and_false, d_pos, d_s1, d_s2, d_s3, d_s4, d_s5, d_s6, d_s7, d_s8, Classical.not_not, z64_2, z64_3, s152 hT, if_pos hg, s158e h24 hp hc, hr, s160 R, le_sub1, le_T, le_F, lt_T, lt_F, eq_F, w32_T, bz0, bz1, lc_le, lc_ge, lc_lt, lc_gt, lc_eq] <;> first | rfl | (rw [if_pos (by omega)] <;> rfl) | (rw [if_neg (by omega)] <;> rfl) | (exfalso; omega)
theorem s163z {d : Nat} {h : HV} {Q : Int → HV → Prop} {p c : Int} (hT : TC (h 64 8)) (R : RW h) (hg : ((0 ≤ p ∧ p < h 836 4) ∧ 0 ≤ c ∧ c < h (h 64 8 + 598) 5)) (h24 : h 836 4 ≤ 24) (hp : 0 ≤ p ∧ p < h 836 4) (hc : 0 ≤ c ∧ c < 8) {r : Int} (hr : h 1120 (p * 8 + c) = r) (h0 : 0 ≤ r ∧ r < h 643 2) : Sp fz1 (d + 3) 163 [(3, 64), (0, p), (0, c), (0, -1)] h Q = Q (rwZ h r) h := by
  simp (implicitDefEqProofs := false) (disch := omega) only [sp163, n163_0, n163_1, b163_2, b163_3, b163_4, n163_5, b163_6, q163_1, q163_2, q163_3, q163_4, q163_5, q163_6, x_aload0, y_call152, y_call158, y_call159, y_call160, y_call161, x_gc_19, x_gc_27, x_goto_3, x_goto_6, x_i2l, x_iconst, x_ifCond_eq_5, x_ifCond_ge_2, x_ifCond_ne_1, x_if_icmp_ne_4, x_iload1, x_iload2, x_iload3, x_iload4, x_ireturn, x_istore4, x_l2i, klp_0, klp_1, klp_2, klp_3, klp_9, KC_0, KC_1, KC_2, KC_3, KC_4, ne_eq, not_false_eq_true, not_true_eq_false, true_and, and_true, and_self, implies_true, eq_self, true_imp_iff, false_implies, Int.reduceEq, Int.reduceNe, Int.reduceMod, Int.reduceMul, Int.reduceAdd, Int.reduceSub, Int.reduceLT, Int.reduceLE, Nat.reduceAdd, Nat.reduceLeDiff, Nat.reduceLT, Nat.reduceSub, reduceIte, wds_n, wds_0, wds_1, wds_2, wds_3, or_true, true_or, or_false, false_or, or_self, false_and, and_false, d_pos, d_s1, d_s2, d_s3, d_s4, d_s5, d_s6, d_s7, d_s8, Classical.not_not, z64_2, z64_3, s152 hT, if_pos hg, s158e h24 hp hc, hr, s160 R, if_pos h0, le_sub1, le_T, le_F, lt_T, lt_F, eq_F, w32_T, bz0, bz1, lc_le, lc_ge, lc_lt, lc_gt, lc_eq] <;> first | rfl | (rw [if_pos (by omega)] <;> rfl) | (rw [if_neg (by omega)] <;> rfl) | (exfalso; omega)
theorem s163a {d : Nat} {h : HV} {Q : Int → HV → Prop} {p c k : Int} (hT : TC (h 64 8)) (R : RW h) (hg : ((0 ≤ p ∧ p < h 836 4) ∧ 0 ≤ c ∧ c < h (h 64 8 + 598) 5)) (h24 : h 836 4 ≤ 24) (hp : 0 ≤ p ∧ p < h 836 4) (hc : 0 ≤ c ∧ c < 8) {r : Int} (hr : h 1120 (p * 8 + c) = r) (hk : ¬ k = -1) (hx : ¬ (0 ≤ k ∧ (0 ≤ r ∧ r < h 643 2) ∧ k < rwZ h r)) : Sp fz1 (d + 3) 163 [(3, 64), (0, p), (0, c), (0, k)] h Q = Q (NV_2000000001) h := by
  simp (implicitDefEqProofs := false) (disch := omega) only [sp163, n163_0, n163_1, b163_2, b163_3, b163_4, n163_5, b163_6, q163_1, q163_2, q163_3, q163_4, q163_5, q163_6, x_aload0, y_call152, y_call158, y_call159, y_call160, y_call161, x_gc_19, x_gc_27, x_goto_3, x_goto_6, x_i2l, x_iconst, x_ifCond_eq_5, x_ifCond_ge_2, x_ifCond_ne_1, x_if_icmp_ne_4, x_iload1, x_iload2, x_iload3, x_iload4, x_ireturn, x_istore4, x_l2i, klp_0, klp_1, klp_2, klp_3, klp_9, KC_0, KC_1, KC_2, KC_3, KC_4, ne_eq, not_false_eq_true, not_true_eq_false, true_and, and_true, and_self, implies_true, eq_self, true_imp_iff, false_implies, Int.reduceEq, Int.reduceNe, Int.reduceMod, Int.reduceMul, Int.reduceAdd, Int.reduceSub, Int.reduceLT, Int.reduceLE, Nat.reduceAdd, Nat.reduceLeDiff, Nat.reduceLT, Nat.reduceSub, reduceIte, wds_n, wds_0, wds_1, wds_2, wds_3, or_true, true_or, or_false, false_or, or_self, false_and, and_false, d_pos, d_s1, d_s2, d_s3, d_s4, d_s5, d_s6, d_s7, d_s8, Classical.not_not, z64_2, z64_3, s152 hT, if_pos hg, s158e h24 hp hc, hr, s159 R, hk, hx, le_sub1, le_T, le_F, lt_T, lt_F, eq_F, w32_T, bz0, bz1, lc_le, lc_ge, lc_lt, lc_gt, lc_eq] <;> first | rfl | (rw [if_pos (by omega)] <;> rfl) | (rw [if_neg (by omega)] <;> rfl) | (exfalso; omega)
theorem s163b {d : Nat} {h : HV} {Q : Int → HV → Prop} {p c k : Int} (hT : TC (h 64 8)) (R : RW h) (hg : ((0 ≤ p ∧ p < h 836 4) ∧ 0 ≤ c ∧ c < h (h 64 8 + 598) 5)) (h24 : h 836 4 ≤ 24) (hp : 0 ≤ p ∧ p < h 836 4) (hc : 0 ≤ c ∧ c < 8) {r : Int} (hr : h 1120 (p * 8 + c) = r) (hk : ¬ k = -1) (hx : 0 ≤ k ∧ (0 ≤ r ∧ r < h 643 2) ∧ k < rwZ h r) : Sp fz1 (d + 3) 163 [(3, 64), (0, p), (0, c), (0, k)] h Q = Q (w32 (rwI h r k)) h := by
  simp (implicitDefEqProofs := false) (disch := omega) only [sp163, n163_0, n163_1, b163_2, b163_3, b163_4, n163_5, b163_6, q163_1, q163_2, q163_3, q163_4, q163_5, q163_6, x_aload0, y_call152, y_call158, y_call159, y_call160, y_call161, x_gc_19, x_gc_27, x_goto_3, x_goto_6, x_i2l, x_iconst, x_ifCond_eq_5, x_ifCond_ge_2, x_ifCond_ne_1, x_if_icmp_ne_4, x_iload1, x_iload2, x_iload3, x_iload4, x_ireturn, x_istore4, x_l2i, klp_0, klp_1, klp_2, klp_3, klp_9, KC_0, KC_1, KC_2, KC_3, KC_4, ne_eq, not_false_eq_true, not_true_eq_false, true_and, and_true, and_self, implies_true, eq_self, true_imp_iff, false_implies, Int.reduceEq, Int.reduceNe, Int.reduceMod, Int.reduceMul, Int.reduceAdd, Int.reduceSub, Int.reduceLT, Int.reduceLE, Nat.reduceAdd, Nat.reduceLeDiff, Nat.reduceLT, Nat.reduceSub, reduceIte, wds_n, wds_0, wds_1, wds_2, wds_3, or_true, true_or, or_false, false_or, or_self, false_and, and_false, d_pos, d_s1, d_s2, d_s3, d_s4, d_s5, d_s6, d_s7, d_s8, Classical.not_not, z64_2, z64_3, s152 hT, if_pos hg, s158e h24 hp hc, hr, s159 R, hk, if_pos hx, s161 R, le_sub1, le_T, le_F, lt_T, lt_F, eq_F, w32_T, bz0, bz1, lc_le, lc_ge, lc_lt, lc_gt, lc_eq] <;> first | rfl | (rw [if_pos (by omega)] <;> rfl) | (rw [if_neg (by omega)] <;> rfl) | (exfalso; omega)
/- the reference -/
theorem s379n {d : Nat} {h : HV} {Q : Int → HV → Prop} {p c k : Int} (hS : TR (h 6603 9)) (hm : 0 ≤ h (h 6603 9 + 84) 5 ∧ h (h 6603 9 + 84) 5 ≤ 8) (hc : 0 ≤ h 6603 25 ∧ h 6603 25 ≤ 24) (hg : ¬ ((0 ≤ p ∧ p < h 6603 25) ∧ 0 ≤ c ∧ c < h (h 6603 9 + 84) 5)) : Sp fz1 (d + 2) 379 [(3, 6603), (0, p), (0, c), (0, k)] h Q = Q (NV_2000000000) h := by
  by_cases a1 : 0 ≤ p ∧ p < h 6603 25 <;> by_cases a2 : 0 ≤ c ∧ c < h (h 6603 9 + 84) 5 <;> (try (exfalso; omega)) <;> simp (implicitDefEqProofs := false) (disch := omega) only [sp379, b379_0, n379_1, b379_2, n379_3, b379_4, b379_5, b379_6, q379_1, x_aload0, y_call369, y_call372, y_call376, x_gc_11475, x_gc_11499, x_gc_11523, x_gc_11531, x_goto_1, x_goto_3, x_goto_6, x_iadd, x_iaload, x_iconst, x_ifCond_eq_1, x_ifCond_ge_5, x_ifCond_ne_2, x_ifCond_ne_3, x_ifCond_ne_4, x_if_icmp_eq_3, x_iload1, x_iload2, x_iload3, x_iload4, x_imul, x_ireturn, x_istore4, x_isub, x_l2i, x_laload, klp_0, klp_1, klp_2, klp_3, klp_9, KC_0, KC_1, KC_2, KC_3, KC_4, ne_eq, not_false_eq_true, not_true_eq_false, true_and, and_true, and_self, implies_true, eq_self, true_imp_iff, false_implies, Int.reduceEq, Int.reduceNe, Int.reduceMod, Int.reduceMul, Int.reduceAdd, Int.reduceSub, Int.reduceLT, Int.reduceLE, Nat.reduceAdd, Nat.reduceLeDiff, Nat.reduceLT, Nat.reduceSub, reduceIte, wds_n, wds_0, wds_1, wds_2, wds_3, or_true, true_or, or_false, false_or, or_self, false_and, and_false, d_pos, d_s1, d_s2, d_s3, d_s4, d_s5, d_s6, d_s7, d_s8, Classical.not_not, z6603_26, z10016_l, z6603_29, z10208_l, z6603_32, z10336_l, z6603_33, z10401_l, s372 hc, s376 hS hm, s369, a1, a2, le_sub1, le_T, le_F, lt_T, lt_F, eq_F, w32_T, bz0, bz1, lc_le, lc_ge, lc_lt, lc_gt, lc_eq] <;> first | rfl | (rw [if_pos (by omega)] <;> rfl) | (rw [if_neg (by omega)] <;> rfl) | (exfalso; omega)
theorem s379k {d : Nat} {h : HV} {Q : Int → HV → Prop} {p c k : Int} (hS : TR (h 6603 9)) (hm : 0 ≤ h (h 6603 9 + 84) 5 ∧ h (h 6603 9 + 84) 5 ≤ 8) (hc : 0 ≤ h 6603 25 ∧ h 6603 25 ≤ 24) (hg : ((0 ≤ p ∧ p < h 6603 25) ∧ 0 ≤ c ∧ c < h (h 6603 9 + 84) 5)) (hc8 : 0 ≤ c ∧ c < 8) (hr : h 10208 (8 * p + c) = -9) : Sp fz1 (d + 2) 379 [(3, 6603), (0, p), (0, c), (0, k)] h Q = Q (NV_2000000001) h := by
  by_cases a1 : h 10016 p = 0 <;> (try (exfalso; omega)) <;> simp (implicitDefEqProofs := false) (disch := omega) only [sp379, b379_0, n379_1, b379_2, n379_3, b379_4, b379_5, b379_6, q379_1, q379_2, q379_3, q379_4, q379_5, q379_6, x_aload0, y_call369, y_call372, y_call376, x_gc_11475, x_gc_11499, x_gc_11523, x_gc_11531, x_goto_1, x_goto_3, x_goto_6, x_iadd, x_iaload, x_iconst, x_ifCond_eq_1, x_ifCond_ge_5, x_ifCond_ne_2, x_ifCond_ne_3, x_ifCond_ne_4, x_if_icmp_eq_3, x_iload1, x_iload2, x_iload3, x_iload4, x_imul, x_ireturn, x_istore4, x_isub, x_l2i, x_laload, klp_0, klp_1, klp_2, klp_3, klp_9, KC_0, KC_1, KC_2, KC_3, KC_4, ne_eq, not_false_eq_true, not_true_eq_false, true_and, and_true, and_self, implies_true, eq_self, true_imp_iff, false_implies, Int.reduceEq, Int.reduceNe, Int.reduceMod, Int.reduceMul, Int.reduceAdd, Int.reduceSub, Int.reduceLT, Int.reduceLE, Nat.reduceAdd, Nat.reduceLeDiff, Nat.reduceLT, Nat.reduceSub, reduceIte, wds_n, wds_0, wds_1, wds_2, wds_3, or_true, true_or, or_false, false_or, or_self, false_and, and_false, d_pos, d_s1, d_s2, d_s3, d_s4, d_s5, d_s6, d_s7, d_s8, Classical.not_not, z6603_26, z10016_l, z6603_29, z10208_l, z6603_32, z10336_l, z6603_33, z10401_l, s372 hc, s376 hS hm, s369, eq_true hg.1.1, eq_true hg.1.2, eq_true hg.2.1, eq_true hg.2.2, hr, a1, le_sub1, le_T, le_F, lt_T, lt_F, eq_F, w32_T, bz0, bz1, lc_le, lc_ge, lc_lt, lc_gt, lc_eq] <;> first | rfl | (rw [if_pos (by omega)] <;> rfl) | (rw [if_neg (by omega)] <;> rfl) | (exfalso; omega)
theorem s379x {d : Nat} {h : HV} {Q : Int → HV → Prop} {p c k : Int} (hS : TR (h 6603 9)) (hm : 0 ≤ h (h 6603 9 + 84) 5 ∧ h (h 6603 9 + 84) 5 ≤ 8) (hc : 0 ≤ h 6603 25 ∧ h 6603 25 ≤ 24) (hg : ((0 ≤ p ∧ p < h 6603 25) ∧ 0 ≤ c ∧ c < h (h 6603 9 + 84) 5)) (hc8 : 0 ≤ c ∧ c < 8) (hk0 : h 10016 p = 0) {r : Int} (hr : h 10208 (8 * p + c) = r) (r0 : ¬ r = -9) (hr6 : 0 ≤ r ∧ r < 6000) (hk : ¬ (-1 ≤ k ∧ k < h 10336 r)) (hz : 0 ≤ h 10336 r ∧ h 10336 r ≤ 64) : Sp fz1 (d + 2) 379 [(3, 6603), (0, p), (0, c), (0, k)] h Q = Q (NV_2000000001) h := by
  simp (implicitDefEqProofs := false) (disch := omega) only [sp379, b379_0, n379_1, b379_2, n379_3, b379_4, b379_5, b379_6, q379_1, q379_2, q379_3, q379_4, q379_5, q379_6, x_aload0, y_call369, y_call372, y_call376, x_gc_11475, x_gc_11499, x_gc_11523, x_gc_11531, x_goto_1, x_goto_3, x_goto_6, x_iadd, x_iaload, x_iconst, x_ifCond_eq_1, x_ifCond_ge_5, x_ifCond_ne_2, x_ifCond_ne_3, x_ifCond_ne_4, x_if_icmp_eq_3, x_iload1, x_iload2, x_iload3, x_iload4, x_imul, x_ireturn, x_istore4, x_isub, x_l2i, x_laload, klp_0, klp_1, klp_2, klp_3, klp_9, KC_0, KC_1, KC_2, KC_3, KC_4, ne_eq, not_false_eq_true, not_true_eq_false, true_and, and_true, and_self, implies_true, eq_self, true_imp_iff, false_implies, Int.reduceEq, Int.reduceNe, Int.reduceMod, Int.reduceMul, Int.reduceAdd, Int.reduceSub, Int.reduceLT, Int.reduceLE, Nat.reduceAdd, Nat.reduceLeDiff, Nat.reduceLT, Nat.reduceSub, reduceIte, wds_n, wds_0, wds_1, wds_2, wds_3, or_true, true_or, or_false, false_or, or_self, false_and, and_false, d_pos, d_s1, d_s2, d_s3, d_s4, d_s5, d_s6, d_s7, d_s8, Classical.not_not, z6603_26, z10016_l, z6603_29, z10208_l, z6603_32, z10336_l, z6603_33, z10401_l, s372 hc, s376 hS hm, s369, eq_true hg.1.1, eq_true hg.1.2, eq_true hg.2.1, eq_true hg.2.2, eq_true hk0, hr, r0, hk, le_sub1, le_T, le_F, lt_T, lt_F, eq_F, w32_T, bz0, bz1, lc_le, lc_ge, lc_lt, lc_gt, lc_eq] <;> first | rfl | (rw [if_pos (by omega)] <;> rfl) | (rw [if_neg (by omega)] <;> rfl) | (exfalso; omega)
theorem s379z {d : Nat} {h : HV} {Q : Int → HV → Prop} {p c : Int} (hS : TR (h 6603 9)) (hm : 0 ≤ h (h 6603 9 + 84) 5 ∧ h (h 6603 9 + 84) 5 ≤ 8) (hc : 0 ≤ h 6603 25 ∧ h 6603 25 ≤ 24) (hg : ((0 ≤ p ∧ p < h 6603 25) ∧ 0 ≤ c ∧ c < h (h 6603 9 + 84) 5)) (hc8 : 0 ≤ c ∧ c < 8) (hk0 : h 10016 p = 0) {r : Int} (hr : h 10208 (8 * p + c) = r) (r0 : ¬ r = -9) (hr6 : 0 ≤ r ∧ r < 6000) (hz : 0 ≤ h 10336 r ∧ h 10336 r ≤ 64) : Sp fz1 (d + 2) 379 [(3, 6603), (0, p), (0, c), (0, -1)] h Q = Q (h 10336 r) h := by
  simp (implicitDefEqProofs := false) (disch := omega) only [sp379, b379_0, n379_1, b379_2, n379_3, b379_4, b379_5, b379_6, q379_1, q379_2, q379_3, q379_4, q379_5, q379_6, x_aload0, y_call369, y_call372, y_call376, x_gc_11475, x_gc_11499, x_gc_11523, x_gc_11531, x_goto_1, x_goto_3, x_goto_6, x_iadd, x_iaload, x_iconst, x_ifCond_eq_1, x_ifCond_ge_5, x_ifCond_ne_2, x_ifCond_ne_3, x_ifCond_ne_4, x_if_icmp_eq_3, x_iload1, x_iload2, x_iload3, x_iload4, x_imul, x_ireturn, x_istore4, x_isub, x_l2i, x_laload, klp_0, klp_1, klp_2, klp_3, klp_9, KC_0, KC_1, KC_2, KC_3, KC_4, ne_eq, not_false_eq_true, not_true_eq_false, true_and, and_true, and_self, implies_true, eq_self, true_imp_iff, false_implies, Int.reduceEq, Int.reduceNe, Int.reduceMod, Int.reduceMul, Int.reduceAdd, Int.reduceSub, Int.reduceLT, Int.reduceLE, Nat.reduceAdd, Nat.reduceLeDiff, Nat.reduceLT, Nat.reduceSub, reduceIte, wds_n, wds_0, wds_1, wds_2, wds_3, or_true, true_or, or_false, false_or, or_self, false_and, and_false, d_pos, d_s1, d_s2, d_s3, d_s4, d_s5, d_s6, d_s7, d_s8, Classical.not_not, z6603_26, z10016_l, z6603_29, z10208_l, z6603_32, z10336_l, z6603_33, z10401_l, s372 hc, s376 hS hm, s369, eq_true hg.1.1, eq_true hg.1.2, eq_true hg.2.1, eq_true hg.2.2, eq_true hk0, hr, r0, le_sub1, le_T, le_F, lt_T, lt_F, eq_F, w32_T, bz0, bz1, lc_le, lc_ge, lc_lt, lc_gt, lc_eq] <;> first | rfl | (rw [if_pos (by omega)] <;> rfl) | (rw [if_neg (by omega)] <;> rfl) | (exfalso; omega)
theorem s379b {d : Nat} {h : HV} {Q : Int → HV → Prop} {p c k : Int} (hS : TR (h 6603 9)) (hm : 0 ≤ h (h 6603 9 + 84) 5 ∧ h (h 6603 9 + 84) 5 ≤ 8) (hc : 0 ≤ h 6603 25 ∧ h 6603 25 ≤ 24) (hg : ((0 ≤ p ∧ p < h 6603 25) ∧ 0 ≤ c ∧ c < h (h 6603 9 + 84) 5)) (hc8 : 0 ≤ c ∧ c < 8) (hk0 : h 10016 p = 0) {r : Int} (hr : h 10208 (8 * p + c) = r) (r0 : ¬ r = -9) (hr6 : 0 ≤ r ∧ r < 6000) (hz : 0 ≤ h 10336 r ∧ h 10336 r ≤ 64) (hk : 0 ≤ k ∧ k < h 10336 r) : Sp fz1 (d + 2) 379 [(3, 6603), (0, p), (0, c), (0, k)] h Q = Q (w32 (h 10401 (64 * r + k))) h := by
  simp (implicitDefEqProofs := false) (disch := omega) only [sp379, b379_0, n379_1, b379_2, n379_3, b379_4, b379_5, b379_6, q379_1, q379_2, q379_3, q379_4, q379_5, q379_6, x_aload0, y_call369, y_call372, y_call376, x_gc_11475, x_gc_11499, x_gc_11523, x_gc_11531, x_goto_1, x_goto_3, x_goto_6, x_iadd, x_iaload, x_iconst, x_ifCond_eq_1, x_ifCond_ge_5, x_ifCond_ne_2, x_ifCond_ne_3, x_ifCond_ne_4, x_if_icmp_eq_3, x_iload1, x_iload2, x_iload3, x_iload4, x_imul, x_ireturn, x_istore4, x_isub, x_l2i, x_laload, klp_0, klp_1, klp_2, klp_3, klp_9, KC_0, KC_1, KC_2, KC_3, KC_4, ne_eq, not_false_eq_true, not_true_eq_false, true_and, and_true, and_self, implies_true, eq_self, true_imp_iff, false_implies, Int.reduceEq, Int.reduceNe, Int.reduceMod, Int.reduceMul, Int.reduceAdd, Int.reduceSub, Int.reduceLT, Int.reduceLE, Nat.reduceAdd, Nat.reduceLeDiff, Nat.reduceLT, Nat.reduceSub, reduceIte, wds_n, wds_0, wds_1, wds_2, wds_3, or_true, true_or, or_false, false_or, or_self, false_and, and_false, d_pos, d_s1, d_s2, d_s3, d_s4, d_s5, d_s6, d_s7, d_s8, Classical.not_not, z6603_26, z10016_l, z6603_29, z10208_l, z6603_32, z10336_l, z6603_33, z10401_l, s372 hc, s376 hS hm, s369, eq_true hg.1.1, eq_true hg.1.2, eq_true hg.2.1, eq_true hg.2.2, eq_true hk0, hr, r0, le_sub1, le_T, le_F, lt_T, lt_F, eq_F, w32_T, bz0, bz1, lc_le, lc_ge, lc_lt, lc_gt, lc_eq] <;> first | rfl | (rw [if_pos (by omega)] <;> rfl) | (rw [if_neg (by omega)] <;> rfl) | (exfalso; omega)
theorem op_markOf {d : Nat} {h : HV} {p c k : Int} (X : RTx h) (P : RPp h) (W : RRw h) (M : RMk h) : Sp fz1 (d + 3) 163 [(3, 64), (0, p), (0, c), (0, k)] h (fun x h1 => h1 50 = h 50 ∧ Sp fz1 (d + 3) 379 [(3, 6603), (0, p), (0, c), (0, k)] h1 (fun y h2 => x = y ∧ h2 = h)) := by
  have X5 := rtx_5 X
  have P2 := P.2.1
  have P1 := P.1
  have R := W.1
  by_cases hg : (0 ≤ p ∧ p < h 836 4) ∧ 0 ≤ c ∧ c < h (h 64 8 + 598) 5
  · have hg2 : (0 ≤ p ∧ p < h 6603 25) ∧ 0 ≤ c ∧ c < h (h 6603 9 + 84) 5 := by rw [P1, X5.1]; exact hg
    have hc8 : 0 ≤ c ∧ c < 8 := by omega
    have q := P.2.2 p hg.1.1 hg.1.2
    have e8 : p * 8 + c = 8 * p + c := by omega
    rcases M p hg.1.1 hg.1.2 c hc8.1 hc8.2 with ⟨m1, m2⟩ | ⟨m0, m1, m2, m3⟩
    · by_cases hk : k = -1
      · subst hk
        rw [s163m X.1 R hg P2.2 hg.1 hc8 (by rw [e8]; exact m1) rfl]
        refine ⟨rfl, ?_⟩
        rw [s379k (d := d + 1) X.2.1 (by omega) (by omega) hg2 hc8 m2]
        exact ⟨rfl, rfl⟩
      · rw [s163a X.1 R hg P2.2 hg.1 hc8 (by rw [e8]) hk (by omega)]
        refine ⟨rfl, ?_⟩
        rw [s379k (d := d + 1) X.2.1 (by omega) (by omega) hg2 hc8 m2]
        exact ⟨rfl, rfl⟩
    · have z := R.z m1.1 m1.2
      have w := W.2.2 _ m1.1 m1.2
      have r1 := R.2.2.1
      have br : 0 ≤ h 1120 (8 * p + c) + rb h ∧ h 1120 (8 * p + c) + rb h < 6000 := by unfold rb; omega
      have hk0 : h 10016 p = 0 := by rw [q.1]; exact m0
      by_cases hk : k = -1
      · subst hk
        rw [s163z X.1 R hg P2.2 hg.1 hc8 (by rw [e8]) m1]
        refine ⟨rfl, ?_⟩
        rw [s379z (d := d + 1) X.2.1 (by omega) (by omega) hg2 hc8 hk0 m2 (by omega) br (by rw [w.1]; exact z), w.1]
        exact ⟨rfl, rfl⟩
      · by_cases hx : 0 ≤ k ∧ k < rwZ h (h 1120 (8 * p + c))
        · rw [s163b X.1 R hg P2.2 hg.1 hc8 (by rw [e8]) hk ⟨hx.1, m1, hx.2⟩]
          refine ⟨rfl, ?_⟩
          rw [s379b (d := d + 1) X.2.1 (by omega) (by omega) hg2 hc8 hk0 m2 (by omega) br (by rw [w.1]; exact z) (by rw [w.1]; exact hx), w.2 k hx.1 hx.2]
          exact ⟨rfl, rfl⟩
        · rw [s163a X.1 R hg P2.2 hg.1 hc8 (by rw [e8]) hk (by omega)]
          refine ⟨rfl, ?_⟩
          rw [s379x (d := d + 1) X.2.1 (by omega) (by omega) hg2 hc8 hk0 m2 (by omega) br (by rw [w.1]; omega) (by rw [w.1]; exact z)]
          exact ⟨rfl, rfl⟩
  · rw [s163n X.1 R hg]
    refine ⟨rfl, ?_⟩
    rw [s379n (d := d + 1) X.2.1 (by omega) (by omega) (by rw [P1, X5.1]; exact hg)]
    exact ⟨rfl, rfl⟩
/-- the rows' facts speak of four objects -/
theorem RW_eq {h k : HV} (R : RW h) (e0 : k 0 = h 0) (e1 : k 643 = h 643) (e2 : k (h 643 0) = h (h 643 0)) (e3 : k (h 643 1) = h (h 643 1)) : RW k := by
  unfold RW
  rw [e1, e0, e2, e3]
  exact R
theorem s157n {d : Nat} {h : HV} {Q : Int → HV → Prop} {p c k v : Int} (hT : TC (h 64 8)) (R : RW h) (hg : ¬ ((0 ≤ p ∧ p < h 836 4) ∧ 0 ≤ c ∧ c < h (h 64 8 + 598) 5)) : Sp fz1 (d + 3) 157 [(3, 64), (0, p), (0, c), (0, k), (0, v)] h Q = Q (-1) h := by
  simp (implicitDefEqProofs := false) (disch := omega) only [sp157, b157_0, b157_1, b157_2, q157_1, q157_2, x_aload0, y_call152, y_call158, y_call159, y_call161, y_call162, x_gc_19, x_gc_27, x_i2l, x_iconst, x_ifCond_ne_1, x_ifCond_ne_2, x_iload1, x_iload2, x_iload3, x_iload4, x_iload5, x_iload6, x_ireturn, x_istore5, x_istore6, x_l2i, klp_0, klp_1, klp_2, klp_3, klp_9, KC_0, KC_1, KC_2, KC_3, KC_4, ne_eq, not_false_eq_true, not_true_eq_false, true_and, and_true, and_self, implies_true, eq_self, true_imp_iff, false_implies, Int.reduceEq, Int.reduceNe, Int.reduceMod, Int.reduceMul, Int.reduceAdd, Int.reduceSub, Int.reduceLT, Int.reduceLE, Nat.reduceAdd, Nat.reduceLeDiff, Nat.reduceLT, Nat.reduceSub, reduceIte, wds_n, wds_0, wds_1, wds_2, wds_3, or_true, true_or, or_false, false_or, or_self, false_and, and_false, d_pos, d_s1, d_s2, d_s3, d_s4, d_s5, d_s6, d_s7, d_s8, Classical.not_not, z64_2, z64_3, s152 hT, hg, le_sub1, le_T, le_F, lt_T, lt_F, eq_F, w32_T, bz0, bz1, lc_le, lc_ge, lc_lt, lc_gt, lc_eq] <;> first | rfl | (rw [if_pos (by omega)] <;> rfl) | (rw [if_neg (by omega)] <;> rfl) | (exfalso; omega)
theorem s157x {d : Nat} {h : HV} {Q : Int → HV → Prop} {p c k v : Int} (hT : TC (h 64 8)) (R : RW h) (hg : ((0 ≤ p ∧ p < h 836 4) ∧ 0 ≤ c ∧ c < h (h 64 8 + 598) 5)) (h24 : h 836 4 ≤ 24) (hp : 0 ≤ p ∧ p < h 836 4) (hc : 0 ≤ c ∧ c < 8) {r : Int} (hr : h 1120 (p * 8 + c) = r) (hx : ¬ (0 ≤ k ∧ (0 ≤ r ∧ r < h 643 2) ∧ k < rwZ h r)) : Sp fz1 (d + 3) 157 [(3, 64), (0, p), (0, c), (0, k), (0, v)] h Q = Q (-2) h := by
  simp (implicitDefEqProofs := false) (disch := omega) only [sp157, b157_0, b157_1, b157_2, q157_1, q157_2, x_aload0, y_call152, y_call158, y_call159, y_call161, y_call162, x_gc_19, x_gc_27, x_i2l, x_iconst, x_ifCond_ne_1, x_ifCond_ne_2, x_iload1, x_iload2, x_iload3, x_iload4, x_iload5, x_iload6, x_ireturn, x_istore5, x_istore6, x_l2i, klp_0, klp_1, klp_2, klp_3, klp_9, KC_0, KC_1, KC_2, KC_3, KC_4, ne_eq, not_false_eq_true, not_true_eq_false, true_and, and_true, and_self, implies_true, eq_self, true_imp_iff, false_implies, Int.reduceEq, Int.reduceNe, Int.reduceMod, Int.reduceMul, Int.reduceAdd, Int.reduceSub, Int.reduceLT, Int.reduceLE, Nat.reduceAdd, Nat.reduceLeDiff, Nat.reduceLT, Nat.reduceSub, reduceIte, wds_n, wds_0, wds_1, wds_2, wds_3, or_true, true_or, or_false, false_or, or_self, false_and, and_false, d_pos, d_s1, d_s2, d_s3, d_s4, d_s5, d_s6, d_s7, d_s8, Classical.not_not, z64_2, z64_3, s152 hT, if_pos hg, s158e h24 hp hc, hr, s159 R, hx, le_sub1, le_T, le_F, lt_T, lt_F, eq_F, w32_T, bz0, bz1, lc_le, lc_ge, lc_lt, lc_gt, lc_eq] <;> first | rfl | (rw [if_pos (by omega)] <;> rfl) | (rw [if_neg (by omega)] <;> rfl) | (exfalso; omega)
theorem s157a {d : Nat} {h : HV} {Q : Int → HV → Prop} {p c k v : Int} (hT : TC (h 64 8)) (R : RW h) (hg : ((0 ≤ p ∧ p < h 836 4) ∧ 0 ≤ c ∧ c < h (h 64 8 + 598) 5)) (h24 : h 836 4 ≤ 24) (hp : 0 ≤ p ∧ p < h 836 4) (hc : 0 ≤ c ∧ c < 8) {r : Int} (hr : h 1120 (p * 8 + c) = r) (hx : 0 ≤ k ∧ (0 ≤ r ∧ r < h 643 2) ∧ k < rwZ h r) : Sp fz1 (d + 3) 157 [(3, 64), (0, p), (0, c), (0, k), (0, v)] h Q = Q (w32 (rwI h r k)) (itH h r k v) := by
  simp (implicitDefEqProofs := false) (disch := omega) only [sp157, b157_0, b157_1, b157_2, q157_1, q157_2, x_aload0, y_call152, y_call158, y_call159, y_call161, y_call162, x_gc_19, x_gc_27, x_i2l, x_iconst, x_ifCond_ne_1, x_ifCond_ne_2, x_iload1, x_iload2, x_iload3, x_iload4, x_iload5, x_iload6, x_ireturn, x_istore5, x_istore6, x_l2i, klp_0, klp_1, klp_2, klp_3, klp_9, KC_0, KC_1, KC_2, KC_3, KC_4, ne_eq, not_false_eq_true, not_true_eq_false, true_and, and_true, and_self, implies_true, eq_self, true_imp_iff, false_implies, Int.reduceEq, Int.reduceNe, Int.reduceMod, Int.reduceMul, Int.reduceAdd, Int.reduceSub, Int.reduceLT, Int.reduceLE, Nat.reduceAdd, Nat.reduceLeDiff, Nat.reduceLT, Nat.reduceSub, reduceIte, wds_n, wds_0, wds_1, wds_2, wds_3, or_true, true_or, or_false, false_or, or_self, false_and, and_false, d_pos, d_s1, d_s2, d_s3, d_s4, d_s5, d_s6, d_s7, d_s8, Classical.not_not, z64_2, z64_3, s152 hT, if_pos hg, s158e h24 hp hc, hr, s159 R, if_pos hx, s161 R, s162 R hx, itH, le_sub1, le_T, le_F, lt_T, lt_F, eq_F, w32_T, bz0, bz1, lc_le, lc_ge, lc_lt, lc_gt, lc_eq] <;> first | rfl | (rw [if_pos (by omega)] <;> rfl) | (rw [if_neg (by omega)] <;> rfl) | (exfalso; omega)
theorem s378n {d : Nat} {h : HV} {Q : Int → HV → Prop} {p c k v : Int} (hS : TR (h 6603 9)) (hm : 0 ≤ h (h 6603 9 + 84) 5 ∧ h (h 6603 9 + 84) 5 ≤ 8) (hc : 0 ≤ h 6603 25 ∧ h 6603 25 ≤ 24) (hg : ¬ ((0 ≤ p ∧ p < h 6603 25) ∧ 0 ≤ c ∧ c < h (h 6603 9 + 84) 5)) : Sp fz1 (d + 2) 378 [(3, 6603), (0, p), (0, c), (0, k), (0, v)] h Q = Q (-1) h := by
  by_cases a1 : 0 ≤ p ∧ p < h 6603 25 <;> by_cases a2 : 0 ≤ c ∧ c < h (h 6603 9 + 84) 5 <;> (try (exfalso; omega)) <;> simp (implicitDefEqProofs := false) (disch := omega) only [sp378, b378_0, b378_1, b378_2, b378_3, b378_4, q378_1, x_aload0, y_call369, y_call372, y_call376, x_gc_11475, x_gc_11499, x_gc_11523, x_gc_11531, x_goto_1, x_goto_3, x_i2l, x_iadd, x_iaload, x_iconst, x_ifCond_eq_1, x_ifCond_ne_2, x_ifCond_ne_3, x_ifCond_ne_4, x_if_icmp_eq_3, x_iload1, x_iload2, x_iload3, x_iload4, x_iload5, x_iload6, x_imul, x_ireturn, x_istore5, x_istore6, x_isub, x_l2i, x_laload, x_lastore, klp_0, klp_1, klp_2, klp_3, klp_9, KC_0, KC_1, KC_2, KC_3, KC_4, ne_eq, not_false_eq_true, not_true_eq_false, true_and, and_true, and_self, implies_true, eq_self, true_imp_iff, false_implies, Int.reduceEq, Int.reduceNe, Int.reduceMod, Int.reduceMul, Int.reduceAdd, Int.reduceSub, Int.reduceLT, Int.reduceLE, Nat.reduceAdd, Nat.reduceLeDiff, Nat.reduceLT, Nat.reduceSub, reduceIte, wds_n, wds_0, wds_1, wds_2, wds_3, or_true, true_or, or_false, false_or, or_self, false_and, and_false, d_pos, d_s1, d_s2, d_s3, d_s4, d_s5, d_s6, d_s7, d_s8, Classical.not_not, z6603_26, z10016_l, z6603_29, z10208_l, z6603_32, z10336_l, z6603_33, z10401_l, s372 hc, s376 hS hm, s369, a1, a2, le_sub1, le_T, le_F, lt_T, lt_F, eq_F, w32_T, bz0, bz1, lc_le, lc_ge, lc_lt, lc_gt, lc_eq] <;> first | rfl | (rw [if_pos (by omega)] <;> rfl) | (rw [if_neg (by omega)] <;> rfl) | (exfalso; omega)
theorem s378k {d : Nat} {h : HV} {Q : Int → HV → Prop} {p c k v : Int} (hS : TR (h 6603 9)) (hm : 0 ≤ h (h 6603 9 + 84) 5 ∧ h (h 6603 9 + 84) 5 ≤ 8) (hc : 0 ≤ h 6603 25 ∧ h 6603 25 ≤ 24) (hg : ((0 ≤ p ∧ p < h 6603 25) ∧ 0 ≤ c ∧ c < h (h 6603 9 + 84) 5)) (hc8 : 0 ≤ c ∧ c < 8) (hr : h 10208 (8 * p + c) = -9) : Sp fz1 (d + 2) 378 [(3, 6603), (0, p), (0, c), (0, k), (0, v)] h Q = Q (-2) h := by
  by_cases a1 : h 10016 p = 0 <;> (try (exfalso; omega)) <;> simp (implicitDefEqProofs := false) (disch := omega) only [sp378, b378_0, b378_1, b378_2, b378_3, b378_4, q378_1, q378_2, q378_3, q378_4, x_aload0, y_call369, y_call372, y_call376, x_gc_11475, x_gc_11499, x_gc_11523, x_gc_11531, x_goto_1, x_goto_3, x_i2l, x_iadd, x_iaload, x_iconst, x_ifCond_eq_1, x_ifCond_ne_2, x_ifCond_ne_3, x_ifCond_ne_4, x_if_icmp_eq_3, x_iload1, x_iload2, x_iload3, x_iload4, x_iload5, x_iload6, x_imul, x_ireturn, x_istore5, x_istore6, x_isub, x_l2i, x_laload, x_lastore, klp_0, klp_1, klp_2, klp_3, klp_9, KC_0, KC_1, KC_2, KC_3, KC_4, ne_eq, not_false_eq_true, not_true_eq_false, true_and, and_true, and_self, implies_true, eq_self, true_imp_iff, false_implies, Int.reduceEq, Int.reduceNe, Int.reduceMod, Int.reduceMul, Int.reduceAdd, Int.reduceSub, Int.reduceLT, Int.reduceLE, Nat.reduceAdd, Nat.reduceLeDiff, Nat.reduceLT, Nat.reduceSub, reduceIte, wds_n, wds_0, wds_1, wds_2, wds_3, or_true, true_or, or_false, false_or, or_self, false_and, and_false, d_pos, d_s1, d_s2, d_s3, d_s4, d_s5, d_s6, d_s7, d_s8, Classical.not_not, z6603_26, z10016_l, z6603_29, z10208_l, z6603_32, z10336_l, z6603_33, z10401_l, s372 hc, s376 hS hm, s369, eq_true hg.1.1, eq_true hg.1.2, eq_true hg.2.1, eq_true hg.2.2, hr, a1, le_sub1, le_T, le_F, lt_T, lt_F, eq_F, w32_T, bz0, bz1, lc_le, lc_ge, lc_lt, lc_gt, lc_eq] <;> first | rfl | (rw [if_pos (by omega)] <;> rfl) | (rw [if_neg (by omega)] <;> rfl) | (exfalso; omega)
theorem s378x {d : Nat} {h : HV} {Q : Int → HV → Prop} {p c k v : Int} (hS : TR (h 6603 9)) (hm : 0 ≤ h (h 6603 9 + 84) 5 ∧ h (h 6603 9 + 84) 5 ≤ 8) (hc : 0 ≤ h 6603 25 ∧ h 6603 25 ≤ 24) (hg : ((0 ≤ p ∧ p < h 6603 25) ∧ 0 ≤ c ∧ c < h (h 6603 9 + 84) 5)) (hc8 : 0 ≤ c ∧ c < 8) (hk0 : h 10016 p = 0) {r : Int} (hr : h 10208 (8 * p + c) = r) (r0 : ¬ r = -9) (hr6 : 0 ≤ r ∧ r < 6000) (hk : ¬ (0 ≤ k ∧ k < h 10336 r)) (hz : 0 ≤ h 10336 r ∧ h 10336 r ≤ 64) : Sp fz1 (d + 2) 378 [(3, 6603), (0, p), (0, c), (0, k), (0, v)] h Q = Q (-2) h := by
  simp (implicitDefEqProofs := false) (disch := omega) only [sp378, b378_0, b378_1, b378_2, b378_3, b378_4, q378_1, q378_2, q378_3, q378_4, x_aload0, y_call369, y_call372, y_call376, x_gc_11475, x_gc_11499, x_gc_11523, x_gc_11531, x_goto_1, x_goto_3, x_i2l, x_iadd, x_iaload, x_iconst, x_ifCond_eq_1, x_ifCond_ne_2, x_ifCond_ne_3, x_ifCond_ne_4, x_if_icmp_eq_3, x_iload1, x_iload2, x_iload3, x_iload4, x_iload5, x_iload6, x_imul, x_ireturn, x_istore5, x_istore6, x_isub, x_l2i, x_laload, x_lastore, klp_0, klp_1, klp_2, klp_3, klp_9, KC_0, KC_1, KC_2, KC_3, KC_4, ne_eq, not_false_eq_true, not_true_eq_false, true_and, and_true, and_self, implies_true, eq_self, true_imp_iff, false_implies, Int.reduceEq, Int.reduceNe, Int.reduceMod, Int.reduceMul, Int.reduceAdd, Int.reduceSub, Int.reduceLT, Int.reduceLE, Nat.reduceAdd, Nat.reduceLeDiff, Nat.reduceLT, Nat.reduceSub, reduceIte, wds_n, wds_0, wds_1, wds_2, wds_3, or_true, true_or, or_false, false_or, or_self, false_and, and_false, d_pos, d_s1, d_s2, d_s3, d_s4, d_s5, d_s6, d_s7, d_s8, Classical.not_not, z6603_26, z10016_l, z6603_29, z10208_l, z6603_32, z10336_l, z6603_33, z10401_l, s372 hc, s376 hS hm, s369, eq_true hg.1.1, eq_true hg.1.2, eq_true hg.2.1, eq_true hg.2.2, eq_true hk0, hr, r0, hk, le_sub1, le_T, le_F, lt_T, lt_F, eq_F, w32_T, bz0, bz1, lc_le, lc_ge, lc_lt, lc_gt, lc_eq] <;> first | rfl | (rw [if_pos (by omega)] <;> rfl) | (rw [if_neg (by omega)] <;> rfl) | (exfalso; omega)
theorem s378b {d : Nat} {h : HV} {Q : Int → HV → Prop} {p c k v : Int} (hS : TR (h 6603 9)) (hm : 0 ≤ h (h 6603 9 + 84) 5 ∧ h (h 6603 9 + 84) 5 ≤ 8) (hc : 0 ≤ h 6603 25 ∧ h 6603 25 ≤ 24) (hg : ((0 ≤ p ∧ p < h 6603 25) ∧ 0 ≤ c ∧ c < h (h 6603 9 + 84) 5)) (hc8 : 0 ≤ c ∧ c < 8) (hk0 : h 10016 p = 0) {r : Int} (hr : h 10208 (8 * p + c) = r) (r0 : ¬ r = -9) (hr6 : 0 ≤ r ∧ r < 6000) (hz : 0 ≤ h 10336 r ∧ h 10336 r ≤ 64) (hk : 0 ≤ k ∧ k < h 10336 r) : Sp fz1 (d + 2) 378 [(3, 6603), (0, p), (0, c), (0, k), (0, v)] h Q = Q (w32 (h 10401 (64 * r + k))) (hset h 10401 (64 * r + k) v) := by
  simp (implicitDefEqProofs := false) (disch := omega) only [sp378, b378_0, b378_1, b378_2, b378_3, b378_4, q378_1, q378_2, q378_3, q378_4, x_aload0, y_call369, y_call372, y_call376, x_gc_11475, x_gc_11499, x_gc_11523, x_gc_11531, x_goto_1, x_goto_3, x_i2l, x_iadd, x_iaload, x_iconst, x_ifCond_eq_1, x_ifCond_ne_2, x_ifCond_ne_3, x_ifCond_ne_4, x_if_icmp_eq_3, x_iload1, x_iload2, x_iload3, x_iload4, x_iload5, x_iload6, x_imul, x_ireturn, x_istore5, x_istore6, x_isub, x_l2i, x_laload, x_lastore, klp_0, klp_1, klp_2, klp_3, klp_9, KC_0, KC_1, KC_2, KC_3, KC_4, ne_eq, not_false_eq_true, not_true_eq_false, true_and, and_true, and_self, implies_true, eq_self, true_imp_iff, false_implies, Int.reduceEq, Int.reduceNe, Int.reduceMod, Int.reduceMul, Int.reduceAdd, Int.reduceSub, Int.reduceLT, Int.reduceLE, Nat.reduceAdd, Nat.reduceLeDiff, Nat.reduceLT, Nat.reduceSub, reduceIte, wds_n, wds_0, wds_1, wds_2, wds_3, or_true, true_or, or_false, false_or, or_self, false_and, and_false, d_pos, d_s1, d_s2, d_s3, d_s4, d_s5, d_s6, d_s7, d_s8, Classical.not_not, z6603_26, z10016_l, z6603_29, z10208_l, z6603_32, z10336_l, z6603_33, z10401_l, s372 hc, s376 hS hm, s369, eq_true hg.1.1, eq_true hg.1.2, eq_true hg.2.1, eq_true hg.2.2, eq_true hk0, hr, r0, le_sub1, le_T, le_F, lt_T, lt_F, eq_F, w32_T, bz0, bz1, lc_le, lc_ge, lc_lt, lc_gt, lc_eq] <;> first | rfl | (rw [if_pos (by omega)] <;> rfl) | (rw [if_neg (by omega)] <;> rfl) | (exfalso; omega)
theorem RRw_it {h : HV} {r i v : Int} (W : RRw h) (hr : 0 ≤ r ∧ r < h 643 2) (hi : 0 ≤ i ∧ i < rwZ h r) : RRw (hset (itH h r i v) 10401 (64 * (r + rb h) + i) v) := by
  have R := W.1
  have I := R.it
  have S := R.st
  have e643 : hset (itH h r i v) 10401 (64 * (r + rb h) + i) v 643 = h 643 := by rw [hs_ne (by decide), itH_ne (by omega)]
  have e6603 : hset (itH h r i v) 10401 (64 * (r + rb h) + i) v 6603 = h 6603 := by rw [hs_ne (by decide), itH_ne (by omega)]
  have e10336 : hset (itH h r i v) 10401 (64 * (r + rb h) + i) v 10336 = h 10336 := by rw [hs_ne (by decide), itH_ne (by omega)]
  have eb : rb (hset (itH h r i v) 10401 (64 * (r + rb h) + i) v) = rb h := by
    show hset (itH h r i v) 10401 (64 * (r + rb h) + i) v 643 3 - hset (itH h r i v) 10401 (64 * (r + rb h) + i) v 643 2 = _
    rw [e643]
    rfl
  have j643 : itH h r i v 643 = h 643 := itH_ne (by omega)
  have eZ : ∀ s, rwZ (hset (itH h r i v) 10401 (64 * (r + rb h) + i) v) s = rwZ h s := fun s => by
    rw [← itH_z (r := r) (i := i) (v := v) (s := s) R]
    unfold rwZ
    rw [e643, j643, hs_ne (by omega)]
  have eI : ∀ s j, rwI (hset (itH h r i v) 10401 (64 * (r + rb h) + i) v) s j = rwI (itH h r i v) s j := fun s j => by
    unfold rwI
    rw [e643, j643, hs_ne (by omega), hs_ne (by omega)]
  refine ⟨?_, ?_, ?_⟩
  · refine RW_eq (itH_R (v := v) R hr hi.1) (hs_ne (by decide)) (hs_ne (by decide)) (hs_ne ?_) (hs_ne ?_)
    · rw [j643]; omega
    · rw [j643]; omega
  · rw [e6603, e643]; exact W.2.1
  · rw [e643, eb, e10336]
    intro s s0 s1
    obtain ⟨w1, w2⟩ := W.2.2 s s0 s1
    rw [eZ]
    refine ⟨w1, fun j j0 j1 => ?_⟩
    rw [eI, itH_i R hr hi ⟨s0, s1⟩ ⟨j0, j1⟩, hset_v]
    have z1 := (R.z s0 s1).2
    have z2 := (R.z hr.1 hr.2).2
    by_cases e : s = r ∧ j = i
    · rw [if_pos e, if_pos ⟨rfl, by rw [e.1, e.2]⟩]
    · rw [if_neg e, if_neg (fun w => e (by have := w.2; omega)), itH_ne (by omega)]
      exact w2 j j0 j1
theorem op_mark {d : Nat} {h : HV} {p c k v : Int} (X : RTx h) (P : RPp h) (W : RRw h) (M : RMk h) : Sp fz1 (d + 3) 157 [(3, 64), (0, p), (0, c), (0, k), (0, v)] h (fun x h1 => h1 50 = h 50 ∧ Sp fz1 (d + 3) 378 [(3, 6603), (0, p), (0, c), (0, k), (0, v)] h1 (fun y h2 => x = y ∧ RRw h2 ∧ (∀ a, a ≠ h 643 1 → a ≠ 10401 → h2 a = h a))) := by
  have X5 := rtx_5 X
  have P2 := P.2.1
  have P1 := P.1
  have R := W.1
  have I := R.it
  have S := R.st
  by_cases hg : (0 ≤ p ∧ p < h 836 4) ∧ 0 ≤ c ∧ c < h (h 64 8 + 598) 5
  · have hg2 : (0 ≤ p ∧ p < h 6603 25) ∧ 0 ≤ c ∧ c < h (h 6603 9 + 84) 5 := by rw [P1, X5.1]; exact hg
    have hc8 : 0 ≤ c ∧ c < 8 := by omega
    have q := P.2.2 p hg.1.1 hg.1.2
    have e8 : p * 8 + c = 8 * p + c := by omega
    rcases M p hg.1.1 hg.1.2 c hc8.1 hc8.2 with ⟨m1, m2⟩ | ⟨m0, m1, m2, m3⟩
    · rw [s157x X.1 R hg P2.2 hg.1 hc8 (by rw [e8]) (by omega)]
      refine ⟨rfl, ?_⟩
      rw [s378k (d := d + 1) X.2.1 (by omega) (by omega) hg2 hc8 m2]
      exact ⟨rfl, W, fun _ _ _ => rfl⟩
    · have z := R.z m1.1 m1.2
      have w := W.2.2 _ m1.1 m1.2
      have r1 := R.2.2.1
      have br : 0 ≤ h 1120 (8 * p + c) + rb h ∧ h 1120 (8 * p + c) + rb h < 6000 := by unfold rb; omega
      have hk0 : h 10016 p = 0 := by rw [q.1]; exact m0
      by_cases hx : 0 ≤ k ∧ k < rwZ h (h 1120 (8 * p + c))
      · have e1 : ∀ a, a ≠ h 643 1 → itH h (h 1120 (8 * p + c)) k v a = h a := fun a ha => itH_ne ha
        rw [s157a X.1 R hg P2.2 hg.1 hc8 (by rw [e8]) ⟨hx.1, m1, hx.2⟩]
        refine ⟨e1 _ (by omega), ?_⟩
        have T : h 6603 9 + 84 ≠ h 643 1 := by rcases X.2.1 with t | t <;> omega
        have a1 := e1 6603 (by omega)
        have a2 := e1 10016 (by omega)
        have a3 := e1 10208 (by omega)
        have a4 := e1 10336 (by omega)
        have a5 := e1 10401 (by omega)
        have a6 := e1 (h 6603 9 + 84) T
        rw [s378b (d := d + 1) (r := h 1120 (8 * p + c) + rb h) (by rw [a1]; exact X.2.1) (by rw [a1, a6]; omega) (by rw [a1]; omega) (by rw [a1, a6]; exact hg2) hc8 (by rw [a2]; exact hk0) (by rw [a3]; exact m2) (by omega) br (by rw [a4, w.1]; exact z) (by rw [a4, w.1]; exact hx), a5, w.2 k hx.1 hx.2]
        exact ⟨rfl, RRw_it W m1 hx, fun a q1 q2 => by rw [hs_ne q2, e1 a q1]⟩
      · rw [s157x X.1 R hg P2.2 hg.1 hc8 (by rw [e8]) (by omega)]
        refine ⟨rfl, ?_⟩
        rw [s378x (d := d + 1) X.2.1 (by omega) (by omega) hg2 hc8 hk0 m2 (by omega) br (by rw [w.1]; exact hx) (by rw [w.1]; exact z)]
        exact ⟨rfl, W, fun _ _ _ => rfl⟩
  · rw [s157n X.1 R hg]
    refine ⟨rfl, ?_⟩
    rw [s378n (d := d + 1) X.2.1 (by omega) (by omega) (by rw [P1, X5.1]; exact hg)]
    exact ⟨rfl, W, fun _ _ _ => rfl⟩
