/-! REALS, on: printed by wip/tools/gen40.py -/
section RL
variable {fz : Int → Int → Option Int} {d : Nat} {h : HV} {Q : Int → HV → Prop} {a b : Int}
theorem p2_le {n k : Nat} (h : n ≤ k) : 2 ^ n ≤ 2 ^ k := Nat.pow_le_pow_right (by decide) h
theorem shl1 {s : Int} {n : Nat} (hs : s = n) (hn : n ≤ 62) : l_shl 1 s = ((2 ^ n : Nat) : Int) := by
  have h1 := p2_le hn
  rw [show (2 : Nat) ^ 62 = 4611686018427387904 from rfl] at h1
  rw [hs, l_shl_eq (by omega) (by omega)]
  generalize 2 ^ n = p at *
  rw [Int.one_mul, w64_id (by omega)]
theorem low1 {s : Int} {n : Nat} (hs : s = n) (hn : n ≤ 63) : w64 (l_shl 1 s - 1) = ((2 ^ n - 1 : Nat) : Int) := by
  by_cases h : n = 63
  · subst h
    rw [hs]
    decide +kernel
  · have h1 := p2_le (show n ≤ 62 by omega)
    have h2 := Nat.two_pow_pos n
    rw [show (2 : Nat) ^ 62 = 4611686018427387904 from rfl] at h1
    rw [shl1 hs (by omega)]
    generalize 2 ^ n = p at *
    rw [w64_id (by omega)]
    omega
theorem and_low {m n : Nat} (hm : m < 9223372036854775808) (hn : n ≤ 63) : l_and (m : Int) ((2 ^ n - 1 : Nat) : Int) = ((m % 2 ^ n : Nat) : Int) := by
  have h1 := p2_le hn
  rw [show (2 : Nat) ^ 63 = 9223372036854775808 from rfl] at h1
  have h2 := Nat.two_pow_pos n
  rw [l_and_nat hm (Nat.lt_of_lt_of_le (Nat.sub_lt h2 (by decide)) h1), Nat.and_two_pow_sub_one_eq_mod]
theorem jm_0 (m : Nat) : jm m 0 = m := by unfold jm; rw [Nat.pow_zero, Nat.mod_one, if_pos rfl, Nat.or_zero, Nat.div_one]
theorem s202 {m n : Nat} (hm : m < 4611686018427387904) : Sp fz d 202 [(1, (m : Int)), (0, (n : Int))] h Q = Q ((jm m n : Nat) : Int) h := by
  by_cases h0 : n = 0
  · subst h0
    rw [jm_0, show ((0 : Nat) : Int) = 0 from rfl]
    simp (implicitDefEqProofs := false) only [sp202, b202_0, b202_1, b202_2, b202_3, b202_4, b202_5, b202_6, q202_1, q202_2, q202_3, q202_4, q202_5, q202_6, x_bipush, x_goto_3, x_goto_6, x_i2l, x_iconst, x_ifCond_gt_1, x_ifCond_ne_2, x_ifCond_ne_5, x_if_icmp_le_4, x_iload2, x_land, x_lcmp, x_lload0, x_lor, x_lreturn, x_lshl, x_lsub, x_lushr, klp_0, klp_1, klp_2, klp_3, klp_9, KC_0, KC_1, KC_2, KC_3, KC_4, ne_eq, not_false_eq_true, not_true_eq_false, true_and, and_true, and_self, implies_true, eq_self, true_imp_iff, false_implies, Int.reduceEq, Int.reduceNe, Int.reduceMod, Int.reduceMul, Int.reduceAdd, Int.reduceSub, Int.reduceLT, Int.reduceLE, Nat.reduceAdd, Nat.reduceLeDiff, Nat.reduceLT, Nat.reduceSub, reduceIte, wds_n, wds_0, wds_1, wds_2, wds_3, or_true, true_or, or_false, false_or, or_self, d_pos, d_s1, d_s2, d_s3, d_s4, d_s5, d_s6, d_s7, d_s8, Classical.not_not]
  · by_cases h62 : 62 < n
    · have hp := p2_le (show 62 ≤ n by omega)
      rw [show (2 : Nat) ^ 62 = 4611686018427387904 from rfl] at hp
      have e : ((jm m n : Nat) : Int) = if m = 0 then 0 else 1 := by
        unfold jm
        rw [Nat.div_eq_of_lt (Nat.lt_of_lt_of_le hm hp), Nat.mod_eq_of_lt (Nat.lt_of_lt_of_le hm hp)]
        split <;> rfl
      simp (implicitDefEqProofs := false) (disch := omega) only [sp202, b202_0, b202_1, b202_2, b202_3, b202_4, b202_5, b202_6, q202_1, q202_2, q202_3, q202_4, q202_5, q202_6, x_bipush, x_goto_3, x_goto_6, x_i2l, x_iconst, x_ifCond_gt_1, x_ifCond_ne_2, x_ifCond_ne_5, x_if_icmp_le_4, x_iload2, x_land, x_lcmp, x_lload0, x_lor, x_lreturn, x_lshl, x_lsub, x_lushr, klp_0, klp_1, klp_2, klp_3, klp_9, KC_0, KC_1, KC_2, KC_3, KC_4, ne_eq, not_false_eq_true, not_true_eq_false, true_and, and_true, and_self, implies_true, eq_self, true_imp_iff, false_implies, Int.reduceEq, Int.reduceNe, Int.reduceMod, Int.reduceMul, Int.reduceAdd, Int.reduceSub, Int.reduceLT, Int.reduceLE, Nat.reduceAdd, Nat.reduceLeDiff, Nat.reduceLT, Nat.reduceSub, reduceIte, wds_n, wds_0, wds_1, wds_2, wds_3, or_true, true_or, or_false, false_or, or_self, d_pos, d_s1, d_s2, d_s3, d_s4, d_s5, d_s6, d_s7, d_s8, Classical.not_not, lt_T, le_F, lc_eq]
      rw [e]
      exact bw_n (P := fun x => Q x h) (by omega)
    · have hq : m / 2 ^ n < 9223372036854775808 := Nat.lt_of_le_of_lt (Nat.div_le_self _ _) (Nat.lt_trans hm (by decide))
      have o0 : l_or ((m / 2 ^ n : Nat) : Int) 0 = ((m / 2 ^ n ||| 0 : Nat) : Int) := l_or_nat (b := 0) hq (by decide)
      have o1 : l_or ((m / 2 ^ n : Nat) : Int) 1 = ((m / 2 ^ n ||| 1 : Nat) : Int) := l_or_nat (b := 1) hq (by decide)
      have f1 : (0 < ((n : Nat) : Int)) = True := eq_true (by omega)
      have f2 : (((n : Nat) : Int) ≤ 62) = True := eq_true (by omega)
      have e1 := l_ushr_pos (a := (m : Int)) (s := (n : Int)) rfl (show n < 64 by omega) (by omega) (by omega)
      rw [Int.toNat_natCast] at e1
      simp (implicitDefEqProofs := false) only [sp202, b202_0, b202_1, b202_2, b202_3, b202_4, b202_5, b202_6, q202_1, q202_2, q202_3, q202_4, q202_5, q202_6, x_bipush, x_goto_3, x_goto_6, x_i2l, x_iconst, x_ifCond_gt_1, x_ifCond_ne_2, x_ifCond_ne_5, x_if_icmp_le_4, x_iload2, x_land, x_lcmp, x_lload0, x_lor, x_lreturn, x_lshl, x_lsub, x_lushr, klp_0, klp_1, klp_2, klp_3, klp_9, KC_0, KC_1, KC_2, KC_3, KC_4, ne_eq, not_false_eq_true, not_true_eq_false, true_and, and_true, and_self, implies_true, eq_self, true_imp_iff, false_implies, Int.reduceEq, Int.reduceNe, Int.reduceMod, Int.reduceMul, Int.reduceAdd, Int.reduceSub, Int.reduceLT, Int.reduceLE, Nat.reduceAdd, Nat.reduceLeDiff, Nat.reduceLT, Nat.reduceSub, reduceIte, wds_n, wds_0, wds_1, wds_2, wds_3, or_true, true_or, or_false, false_or, or_self, d_pos, d_s1, d_s2, d_s3, d_s4, d_s5, d_s6, d_s7, d_s8, Classical.not_not, f1, f2, lc_eq, low1 (s := (n : Int)) rfl (show n ≤ 63 by omega), and_low (m := m) (n := n) (by omega) (by omega), e1, o0, o1]
      unfold jm
      by_cases hz : m % 2 ^ n = 0
      · rw [if_pos hz, hz]
        exact propext ⟨fun q => q.2 rfl, fun q => ⟨fun n => (n rfl).elim, fun _ => q⟩⟩
      · rw [if_neg hz]
        have hz2 : ¬ ((m % 2 ^ n : Nat) : Int) = 0 := fun q => hz (Int.ofNat_eq_zero.mp q)
        exact propext ⟨fun q => q.1 hz2, fun q => ⟨fun _ => q, fun n => (hz2 n).elim⟩⟩
def sgn (s : Bool) : Int := if s then -9223372036854775808 else 0
theorem or_sm {s : Bool} {m : Nat} (hm : m < 9223372036854775808) : l_or (sgn s) (m : Int) = sm s m := by
  rw [l_or_U, U_pos (x := (m : Int)) (by omega) (by omega), Int.toNat_natCast]
  unfold sgn sm
  cases s
  · simp (implicitDefEqProofs := false) only [Bool.false_eq_true, if_false]
    rw [show U 0 = 0 from rfl, Nat.zero_or, Nat.zero_add]
  · simp (implicitDefEqProofs := false) only [if_true]
    rw [show U (-9223372036854775808) = 1 * 2 ^ 63 from rfl, or_hi hm]
theorem sg_sm (s : Bool) : sgn s = sm s 0 := by cases s <;> decide
theorem min_cast (Y : Nat) : min (Y : Int) 9218868437227405312 = ((min Y 9218868437227405312 : Nat) : Int) := by
  rw [show (9218868437227405312 : Int) = ((9218868437227405312 : Nat) : Int) from rfl]
  generalize 9218868437227405312 = I
  omega
theorem odd_of {K : Nat} (h : ((K % 2 : Nat) : Int) = 1) : K % 2 = 1 := by omega
theorem half_le {H r p : Nat} (hp : p = 2 * H) (h : (r : Int) = (H : Int)) : p ≤ 2 * r := by omega
theorem kept_b {n c : Nat} (hn : n ≤ 2045) (hc : c ≤ 9007199254740992) : n * 4503599627370496 + c < 9223372036854775808 :=
  Nat.lt_of_le_of_lt (Nat.add_le_add (Nat.mul_le_mul_right _ hn) hc) (by decide)
theorem kept_or {s : Bool} {n c : Nat} (hn : n ≤ 2045) (hc : c ≤ 9007199254740992) : l_or (sgn s) (min (w64 (((n * 4503599627370496 : Nat) : Int) + (c : Int))) 9218868437227405312) = sm s (min (n * 4503599627370496 + c) 9218868437227405312) := by
  have h1 := kept_b hn hc
  rw [← Int.natCast_add]
  generalize n * 4503599627370496 + c = Y at *
  rw [w64_id (by omega), min_cast]
  exact or_sm (Nat.lt_of_le_of_lt (Nat.min_le_right _ _) (by decide))
theorem kept_sh {n : Nat} (hn : n ≤ 2045) : l_shl (n : Int) 52 = ((n * 4503599627370496 : Nat) : Int) := by
  have h1 := kept_b (c := 0) hn (by decide)
  have := l_shl_eq (x := (n : Int)) (n := 52) (by omega) (by decide)
  rw [show ((52 : Nat) : Int) = 52 from rfl] at this
  rw [this, show (2 : Nat) ^ 52 = 4503599627370496 from rfl, ← Int.natCast_mul]
  generalize n * 4503599627370496 = Y at *
  exact w64_id (by omega)
/-- how the digits that are cut off count -/
theorem near_br {P : Nat → Prop} {K M H r p : Nat} (hp : p = 2 * H) (hM : M = K % 2) :
    (((H : Int) < (r : Int) → P (K + 1)) ∧ (¬ (H : Int) < (r : Int) → (¬ (r : Int) = (H : Int) → P K) ∧ ((r : Int) = (H : Int) → (¬ (M : Int) = 1 → P K) ∧ ((M : Int) = 1 → P (K + 1))))) = P (if 2 * r < p then K else if p < 2 * r then K + 1 else K + K % 2) := by
  subst hp
  subst hM
  by_cases q1 : r < H
  · rw [if_pos (by omega)]
    exact propext ⟨fun q => (q.2 (by omega)).1 (by omega), fun q => ⟨fun n => by omega, fun _ => ⟨fun _ => q, fun n => by omega⟩⟩⟩
  · rw [if_neg (by omega)]
    by_cases q2 : H < r
    · rw [if_pos (by omega)]
      exact propext ⟨fun q => q.1 (by omega), fun q => ⟨fun _ => q, fun n => by omega⟩⟩
    · rw [if_neg (by omega)]
      have e : K % 2 = 0 ∨ K % 2 = 1 := by omega
      rcases e with e | e
      · rw [e, Nat.add_zero]
        exact propext ⟨fun q => ((q.2 (by omega)).2 (by omega)).1 (by decide), fun q => ⟨fun n => by omega, fun _ => ⟨fun _ => q, fun _ => ⟨fun _ => q, fun n => absurd n (by decide)⟩⟩⟩⟩
      · rw [e]
        exact propext ⟨fun q => ((q.2 (by omega)).2 (by omega)).2 rfl, fun q => ⟨fun n => by omega, fun _ => ⟨fun n => by omega, fun _ => ⟨fun n => (n rfl).elim, fun _ => q⟩⟩⟩⟩
theorem s98 {m : Nat} {s : Bool} {p : Int} (hm : m < 9223372036854775808) (hp : -4000 ≤ p ∧ p ≤ 4000) : Sp fz (d + 1) 98 [(1, sgn s), (1, (m : Int)), (0, p)] h Q = Q (if m = 0 then sgn s else sm s (nrM m p)) h := by
  by_cases h0 : m = 0
  · subst h0
    rw [if_pos rfl, show ((0 : Nat) : Int) = 0 from rfl]
    simp (implicitDefEqProofs := false) only [sp98, b98_0, n98_1, b98_2, b98_3, b98_4, b98_5, b98_6, n98_7, q98_1, q98_2, q98_3, q98_4, q98_5, q98_6, q98_7, x_bipush, y_call99, x_goto_5, x_goto_6, x_goto_7, x_i2l, x_iadd, x_iconst, x_ifCond_gt_1, x_ifCond_gt_4, x_ifCond_gt_6, x_ifCond_le_7, x_ifCond_ne_7, x_if_icmp_le_2, x_if_icmp_le_3, x_iload4, x_iload5, x_imax, x_ineg, x_istore5, x_isub, x_ladd, x_land, x_lcmp, x_lload0, x_lload10, x_lload2, x_lload6, x_lload8, x_lmin, x_lor, x_lreturn, x_lshl, x_lstore10, x_lstore6, x_lstore8, x_lsub, x_lushr, klp_0, klp_1, klp_2, klp_3, klp_9, KC_0, KC_1, KC_2, KC_3, KC_4, ne_eq, not_false_eq_true, not_true_eq_false, true_and, and_true, and_self, implies_true, eq_self, true_imp_iff, false_implies, Int.reduceEq, Int.reduceNe, Int.reduceMod, Int.reduceMul, Int.reduceAdd, Int.reduceSub, Int.reduceLT, Int.reduceLE, Nat.reduceAdd, Nat.reduceLeDiff, Nat.reduceLT, Nat.reduceSub, reduceIte, wds_n, wds_0, wds_1, wds_2, wds_3, or_true, true_or, or_false, false_or, or_self, d_pos, d_s1, d_s2, d_s3, d_s4, d_s5, d_s6, d_s7, d_s8, Classical.not_not, lc_gt]
  rw [if_neg h0]
  have l3 : m.log2 < 63 := (Nat.log2_lt h0).mpr hm
  have l2 : m < 2 ^ (m.log2 + 1) := Nat.lt_log2_self
  have g0 : ((0 : Int) < (m : Int)) = True := eq_true (by omega)
  have hwd : wd m = m.log2 + 1 := by unfold wd; rw [if_neg h0]
  obtain ⟨cut, hc⟩ : ∃ c, c = max ((m.log2 : Int) - 52) (-1074 - p) := ⟨_, rfl⟩
  have hv := NV_1074_e
  have hcut : max (((wd m : Nat) : Int) - 53) (NV_1074 - p) = cut := by
    rw [NV_1074_e, hwd]
    omega
  have hcr : (m.log2 : Int) - 52 ≤ cut ∧ -1074 ≤ p + cut ∧ cut ≤ 5000 := by omega
  have hwb : wd m ≤ 63 := by omega
  unfold nrM
  rw [← hc]
  clear hc
  generalize hL : m.log2 = L at *
  by_cases h63 : 63 < cut
  · have f1 : (cut ≤ 63) = False := eq_false (by omega)
    rw [if_pos h63, ← sg_sm]
    simp (implicitDefEqProofs := false) (disch := omega) only [sp98, b98_0, n98_1, b98_2, b98_3, b98_4, b98_5, b98_6, n98_7, q98_1, q98_2, q98_3, q98_4, q98_5, q98_6, q98_7, x_bipush, y_call99, x_goto_5, x_goto_6, x_goto_7, x_i2l, x_iadd, x_iconst, x_ifCond_gt_1, x_ifCond_gt_4, x_ifCond_gt_6, x_ifCond_le_7, x_ifCond_ne_7, x_if_icmp_le_2, x_if_icmp_le_3, x_iload4, x_iload5, x_imax, x_ineg, x_istore5, x_isub, x_ladd, x_land, x_lcmp, x_lload0, x_lload10, x_lload2, x_lload6, x_lload8, x_lmin, x_lor, x_lreturn, x_lshl, x_lstore10, x_lstore6, x_lstore8, x_lsub, x_lushr, klp_0, klp_1, klp_2, klp_3, klp_9, KC_0, KC_1, KC_2, KC_3, KC_4, ne_eq, not_false_eq_true, not_true_eq_false, true_and, and_true, and_self, implies_true, eq_self, true_imp_iff, false_implies, Int.reduceEq, Int.reduceNe, Int.reduceMod, Int.reduceMul, Int.reduceAdd, Int.reduceSub, Int.reduceLT, Int.reduceLE, Nat.reduceAdd, Nat.reduceLeDiff, Nat.reduceLT, Nat.reduceSub, reduceIte, wds_n, wds_0, wds_1, wds_2, wds_3, or_true, true_or, or_false, false_or, or_self, d_pos, d_s1, d_s2, d_s3, d_s4, d_s5, d_s6, d_s7, d_s8, Classical.not_not, lc_gt, g0, s99 hm, hcut, f1, w32_T]
  rw [if_neg h63]
  have f1 : (cut ≤ 63) = True := eq_true (by omega)
  by_cases h971 : 971 < p + cut
  · have f2 : (p + cut ≤ 971) = False := eq_false (by omega)
    rw [if_pos h971]
    simp (implicitDefEqProofs := false) (disch := omega) only [sp98, b98_0, n98_1, b98_2, b98_3, b98_4, b98_5, b98_6, n98_7, q98_1, q98_2, q98_3, q98_4, q98_5, q98_6, q98_7, x_bipush, y_call99, x_goto_5, x_goto_6, x_goto_7, x_i2l, x_iadd, x_iconst, x_ifCond_gt_1, x_ifCond_gt_4, x_ifCond_gt_6, x_ifCond_le_7, x_ifCond_ne_7, x_if_icmp_le_2, x_if_icmp_le_3, x_iload4, x_iload5, x_imax, x_ineg, x_istore5, x_isub, x_ladd, x_land, x_lcmp, x_lload0, x_lload10, x_lload2, x_lload6, x_lload8, x_lmin, x_lor, x_lreturn, x_lshl, x_lstore10, x_lstore6, x_lstore8, x_lsub, x_lushr, klp_0, klp_1, klp_2, klp_3, klp_9, KC_0, KC_1, KC_2, KC_3, KC_4, ne_eq, not_false_eq_true, not_true_eq_false, true_and, and_true, and_self, implies_true, eq_self, true_imp_iff, false_implies, Int.reduceEq, Int.reduceNe, Int.reduceMod, Int.reduceMul, Int.reduceAdd, Int.reduceSub, Int.reduceLT, Int.reduceLE, Nat.reduceAdd, Nat.reduceLeDiff, Nat.reduceLT, Nat.reduceSub, reduceIte, wds_n, wds_0, wds_1, wds_2, wds_3, or_true, true_or, or_false, false_or, or_self, d_pos, d_s1, d_s2, d_s3, d_s4, d_s5, d_s6, d_s7, d_s8, Classical.not_not, lc_gt, g0, s99 hm, hcut, f1, f2, w32_T]
    rw [show (9218868437227405312 : Int) = ((9218868437227405312 : Nat) : Int) from rfl, or_sm (by decide)]
  rw [if_neg h971]
  have f2 : (p + cut ≤ 971) = True := eq_true (by omega)
  obtain ⟨nn, hnn⟩ : ∃ nn : Nat, (p + cut + 1074).toNat = nn := ⟨_, rfl⟩
  have hnn2 : nn ≤ 2045 := by omega
  have hw2 : p + cut - NV_1074 = (nn : Int) := by rw [NV_1074_e]; omega
  have hsh := kept_sh hnn2
  rw [hnn]
  by_cases h00 : cut ≤ 0
  · have f3 : (0 < cut) = False := eq_false (by omega)
    have f4 : (cut ≤ 0) = True := eq_true h00
    obtain ⟨j, hj⟩ : ∃ j : Nat, (-cut).toNat = j := ⟨_, rfl⟩
    have e1 : -cut = (j : Int) := by omega
    have hlt : m * 2 ^ j ≤ 9007199254740992 := by
      have e2 : 2 ^ (L + 1) * 2 ^ j ≤ 9007199254740992 := by
        rw [show (9007199254740992 : Nat) = 2 ^ 53 from rfl, ← Nat.pow_add]
        exact p2_le (by omega)
      exact Nat.le_trans (Nat.mul_le_mul_right _ (Nat.le_of_lt l2)) e2
    have e3 : l_shl (m : Int) (j : Int) = ((m * 2 ^ j : Nat) : Int) := by
      rw [l_shl_eq (by omega) (by omega), ← Int.natCast_mul]
      generalize m * 2 ^ j = Y at *
      exact w64_id (by omega)
    rw [hj, show cut.toNat = 0 by omega, Nat.pow_zero]
    have hne : FP.Core.nearest (m * 2 ^ j) 1 = m * 2 ^ j := by
      unfold FP.Core.nearest
      rw [Nat.mod_one, if_pos (by decide), Nat.div_one]
    rw [hne]
    simp (implicitDefEqProofs := false) (disch := omega) only [sp98, b98_0, n98_1, b98_2, b98_3, b98_4, b98_5, b98_6, n98_7, q98_1, q98_2, q98_3, q98_4, q98_5, q98_6, q98_7, x_bipush, y_call99, x_goto_5, x_goto_6, x_goto_7, x_i2l, x_iadd, x_iconst, x_ifCond_gt_1, x_ifCond_gt_4, x_ifCond_gt_6, x_ifCond_le_7, x_ifCond_ne_7, x_if_icmp_le_2, x_if_icmp_le_3, x_iload4, x_iload5, x_imax, x_ineg, x_istore5, x_isub, x_ladd, x_land, x_lcmp, x_lload0, x_lload10, x_lload2, x_lload6, x_lload8, x_lmin, x_lor, x_lreturn, x_lshl, x_lstore10, x_lstore6, x_lstore8, x_lsub, x_lushr, klp_0, klp_1, klp_2, klp_3, klp_9, KC_0, KC_1, KC_2, KC_3, KC_4, ne_eq, not_false_eq_true, not_true_eq_false, true_and, and_true, and_self, implies_true, eq_self, true_imp_iff, false_implies, Int.reduceEq, Int.reduceNe, Int.reduceMod, Int.reduceMul, Int.reduceAdd, Int.reduceSub, Int.reduceLT, Int.reduceLE, Nat.reduceAdd, Nat.reduceLeDiff, Nat.reduceLT, Nat.reduceSub, reduceIte, wds_n, wds_0, wds_1, wds_2, wds_3, or_true, true_or, or_false, false_or, or_self, d_pos, d_s1, d_s2, d_s3, d_s4, d_s5, d_s6, d_s7, d_s8, Classical.not_not, lc_gt, g0, s99 hm, hcut, f1, f2, f3, f4, e1, e3, hw2, hsh, kept_or (s := s) hnn2 hlt, w32_T]
  · have f3 : (0 < cut) = True := eq_true (by omega)
    have f4 : (cut ≤ 0) = False := eq_false h00
    obtain ⟨n, hn⟩ : ∃ n : Nat, cut = n := ⟨cut.toNat, by omega⟩
    have hn1 : 1 ≤ n ∧ n ≤ 63 := by omega
    have hw5 : cut - 1 = ((n - 1 : Nat) : Int) := by omega
    have hN : FP.Core.nearest m (2 ^ n) ≤ 9007199254740992 := by
      refine FP.Core.nearest_le (Nat.two_pow_pos _) ?_
      have e2 : 2 ^ (L + 1) ≤ 9007199254740992 * 2 ^ n := by
        rw [show (9007199254740992 : Nat) = 2 ^ 53 from rfl, ← Nat.pow_add]
        exact p2_le (by omega)
      exact Nat.le_trans (Nat.le_of_lt l2) e2
    have hhalf : 2 ^ n = 2 * 2 ^ (n - 1) := by
      rw [show n = (n - 1) + 1 by omega, Nat.pow_succ, Nat.add_sub_cancel, Nat.mul_comm]
    have e0 := l_ushr_pos (a := (m : Int)) (s := cut) hn (by omega) (by omega) (by omega)
    rw [Int.toNat_natCast] at e0
    have e1 := low1 (s := cut) hn hn1.2
    have e2 := and_low (m := m) (n := n) hm hn1.2
    have e3 := shl1 (s := ((n - 1 : Nat) : Int)) rfl (show n - 1 ≤ 62 by omega)
    rw [show (-cut).toNat = 0 by omega, Nat.pow_zero, Nat.mul_one, show cut.toNat = n by omega]
    have hN2 := hN
    unfold FP.Core.nearest at hN2 ⊢
    generalize hK : m / 2 ^ n = K at *
    generalize hr : m % 2 ^ n = r at *
    generalize 2 ^ (n - 1) = H at *
    have hK2 : K ≤ 9007199254740992 := by
      split at hN2
      · exact hN2
      · split at hN2
        · omega
        · omega
    have hK3 : 2 ^ n ≤ 2 * r → (H < r ∨ K % 2 = 1) → K + 1 ≤ 9007199254740992 := by
      intro q1 q2
      rw [if_neg (by omega)] at hN2
      split at hN2
      · exact hN2
      · rcases q2 with q2 | q2
        · omega
        · rw [q2] at hN2; exact hN2
    have e4 : l_and (K : Int) 1 = ((K % 2 : Nat) : Int) := by
      have := l_and_nat (a := K) (b := 1) (by omega) (by decide)
      rw [Nat.and_one_is_mod] at this
      exact this
    have e5 : w64 ((K : Int) + 1) = ((K + 1 : Nat) : Int) := by rw [w64_id (by omega)]; omega
    simp (implicitDefEqProofs := false) (disch := omega) only [sp98, b98_0, n98_1, b98_2, b98_3, b98_4, b98_5, b98_6, n98_7, q98_1, q98_2, q98_3, q98_4, q98_5, q98_6, q98_7, x_bipush, y_call99, x_goto_5, x_goto_6, x_goto_7, x_i2l, x_iadd, x_iconst, x_ifCond_gt_1, x_ifCond_gt_4, x_ifCond_gt_6, x_ifCond_le_7, x_ifCond_ne_7, x_if_icmp_le_2, x_if_icmp_le_3, x_iload4, x_iload5, x_imax, x_ineg, x_istore5, x_isub, x_ladd, x_land, x_lcmp, x_lload0, x_lload10, x_lload2, x_lload6, x_lload8, x_lmin, x_lor, x_lreturn, x_lshl, x_lstore10, x_lstore6, x_lstore8, x_lsub, x_lushr, klp_0, klp_1, klp_2, klp_3, klp_9, KC_0, KC_1, KC_2, KC_3, KC_4, ne_eq, not_false_eq_true, not_true_eq_false, true_and, and_true, and_self, implies_true, eq_self, true_imp_iff, false_implies, Int.reduceEq, Int.reduceNe, Int.reduceMod, Int.reduceMul, Int.reduceAdd, Int.reduceSub, Int.reduceLT, Int.reduceLE, Nat.reduceAdd, Nat.reduceLeDiff, Nat.reduceLT, Nat.reduceSub, reduceIte, wds_n, wds_0, wds_1, wds_2, wds_3, or_true, true_or, or_false, false_or, or_self, d_pos, d_s1, d_s2, d_s3, d_s4, d_s5, d_s6, d_s7, d_s8, Classical.not_not, lc_gt, lc_eq, g0, s99 hm, hcut, f1, f2, f3, f4, hw2, hsh, hw5, e0, e1, e2, e3, e4, e5, w32_T]
    refine Eq.trans ?_ (near_br (P := fun c => Q (sm s (min (nn * 4503599627370496 + c) 9218868437227405312)) h) hhalf rfl)
    have k0 := kept_or (s := s) hnn2 hK2
    refine propext ⟨fun q => ⟨fun w => ?_, fun w => ⟨fun w2 => ?_, fun w2 => ⟨fun w3 => ?_, fun w3 => ?_⟩⟩⟩, fun q => ⟨fun w => ?_, fun w => ⟨fun w2 => ?_, fun w2 => ⟨fun w3 => ?_, fun w3 => ?_⟩⟩⟩⟩
    · have := q.1 w
      rw [kept_or hnn2 (hK3 (by omega) (.inl (by omega)))] at this
      exact this
    · have := (q.2 w).1 w2
      rw [k0] at this
      exact this
    · have := ((q.2 w).2 w2).1 w3
      rw [k0] at this
      exact this
    · have := ((q.2 w).2 w2).2 w3
      rw [kept_or hnn2 (hK3 (half_le hhalf w2) (.inr (odd_of w3)))] at this
      exact this
    · rw [kept_or hnn2 (hK3 (by omega) (.inl (by omega)))]
      exact q.1 w
    · rw [k0]
      exact (q.2 w).1 w2
    · rw [k0]
      exact ((q.2 w).2 w2).1 w3
    · rw [kept_or hnn2 (hK3 (half_le hhalf w2) (.inr (odd_of w3)))]
      exact ((q.2 w).2 w2).2 w3
end RL
