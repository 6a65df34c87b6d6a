/-! REALS, on: printed by wip/tools/gen40.py -/
section RL
variable {fz : Int → Int → Option Int} {d : Nat} {h : HV} {Q : Int → HV → Prop} {a b : Int}
theorem st100 {b : Nat} {i : Int} {m r : Nat} (hb : 4503599627370496 ≤ b) (hb2 : b < 9007199254740992) (hi : 0 ≤ i) (hi6 : i ≤ 6) (hm : m * 1024 + r / b < 4611686018427387904) (hr : r < 9223372036854775808) (x y z : Int)
    (g : G fz d 100 11 [(1, x), (9, 0), (1, y), (9, 0), (1, z), (9, 0), (1, (b : Int)), (9, 0), (1, ((r % b * 1024 : Nat) : Int)), (9, 0), (1, ((m * 1024 + r / b : Nat) : Int)), (9, 0), (0, i + 1)] [] h Q) :
    G fz d 100 11 [(1, x), (9, 0), (1, y), (9, 0), (1, z), (9, 0), (1, (b : Int)), (9, 0), (1, (r : Int)), (9, 0), (1, (m : Int)), (9, 0), (0, i)] [] h Q := by
  have f1 : (6 < i) = False := eq_false (by omega)
  have f2 : ((b : Int) ≤ 0) = False := eq_false (by omega)
  have f3 : ((b : Int) = 0) = False := eq_false (by omega)
  have hmb := Nat.mod_lt r (show 0 < b by omega)
  have hqr : r / b ≤ r := Nat.div_le_self _ _
  have e2 : Int.tdiv (r : Int) (b : Int) = ((r / b : Nat) : Int) := rfl
  have e3 : Int.tmod (r : Int) (b : Int) = ((r % b : Nat) : Int) := rfl
  generalize r / b = q at *
  generalize r % b = s at *
  have q63 : q < 9223372036854775808 := Nat.lt_of_le_of_lt hqr hr
  have m53 : m < 9007199254740992 := by clear f1 f2 f3 hr hqr q63; omega
  have s53 : s < 9007199254740992 := Nat.lt_trans hmb hb2
  have e1 := shl10 m53
  have e2' : w64 (q : Int) = (q : Int) := by clear f1 f2 f3 hm hqr hr; exact w64_id (by omega)
  have e4 := shl10 s53
  have e5 := wadd (x := m * 1024) (y := q) (Nat.lt_trans hm (by decide))
  refine G_in ?_
  simp (implicitDefEqProofs := false) only [b100_11, x_bipush, x_goto_11, x_iconst, x_ifCond_le_12, x_if_icmp_gt_12, x_iinc12, x_iload12, x_ladd, x_lcmp, x_ldiv, x_lload10, x_lload6, x_lload8, x_lrem, x_lshl, x_lstore10, x_lstore8, klp_0, klp_1, klp_2, klp_3, klp_9, KC_0, KC_1, KC_2, KC_3, KC_4, ne_eq, not_false_eq_true, not_true_eq_false, true_and, and_true, and_self, implies_true, eq_self, true_imp_iff, false_implies, Int.reduceEq, Int.reduceNe, Int.reduceMod, Int.reduceMul, Int.reduceAdd, Int.reduceSub, Int.reduceLT, Int.reduceLE, Nat.reduceAdd, Nat.reduceLeDiff, Nat.reduceLT, Nat.reduceSub, reduceIte, wds_n, wds_0, wds_1, wds_2, wds_3, or_true, true_or, or_false, false_or, or_self, d_pos, d_s1, d_s2, d_s3, d_s4, d_s5, d_s6, d_s7, d_s8, Classical.not_not, lc_le, f1, f2, f3, e1, e2, e2', e3, e4, e5]
  rw [w32_id (by omega)]
  exact g
theorem lp100 {b : Nat} {Y : Int → HV → Prop} (hb : 4503599627370496 ≤ b) (hb2 : b < 9007199254740992) (x y z : Int) (n : Nat) : ∀ (i : Int) (m r B : Nat), i + n = 7 → 0 ≤ i → m * 1024 + r / b < B → B * 1024 ^ n ≤ 4722366482869645213696 → r < 9223372036854775808 →
    G fz d 100 12 [(1, x), (9, 0), (1, y), (9, 0), (1, z), (9, 0), (1, (b : Int)), (9, 0), (1, (((dvS b n (m, r)).2 : Nat) : Int)), (9, 0), (1, (((dvS b n (m, r)).1 : Nat) : Int)), (9, 0), (0, 7)] [] h Q →
    G fz d 100 11 [(1, x), (9, 0), (1, y), (9, 0), (1, z), (9, 0), (1, (b : Int)), (9, 0), (1, (r : Int)), (9, 0), (1, (m : Int)), (9, 0), (0, i)] [] h Q := by
  induction n with
  | zero =>
    intro i m r B hn hi hm hB hr g
    have : i = 7 := by omega
    subst this
    rw [dvS] at g
    refine G_in ?_
    simp (implicitDefEqProofs := false) only [b100_11, x_bipush, x_goto_11, x_iconst, x_ifCond_le_12, x_if_icmp_gt_12, x_iinc12, x_iload12, x_ladd, x_lcmp, x_ldiv, x_lload10, x_lload6, x_lload8, x_lrem, x_lshl, x_lstore10, x_lstore8, klp_0, klp_1, klp_2, klp_3, klp_9, KC_0, KC_1, KC_2, KC_3, KC_4, ne_eq, not_false_eq_true, not_true_eq_false, true_and, and_true, and_self, implies_true, eq_self, true_imp_iff, false_implies, Int.reduceEq, Int.reduceNe, Int.reduceMod, Int.reduceMul, Int.reduceAdd, Int.reduceSub, Int.reduceLT, Int.reduceLE, Nat.reduceAdd, Nat.reduceLeDiff, Nat.reduceLT, Nat.reduceSub, reduceIte, wds_n, wds_0, wds_1, wds_2, wds_3, or_true, true_or, or_false, false_or, or_self, d_pos, d_s1, d_s2, d_s3, d_s4, d_s5, d_s6, d_s7, d_s8, Classical.not_not, lc_le]
    exact g
  | succ n ih =>
    intro i m r B hn hi hm hB hr g
    have hp : 0 < 1024 ^ n := Nat.pow_pos (by decide)
    have hB2 : B * 1024 * 1024 ^ n ≤ 4722366482869645213696 := by
      rw [Nat.pow_succ, Nat.mul_comm (1024 ^ n)] at hB
      rw [Nat.mul_assoc]
      exact hB
    have hB3 : B * 1024 ≤ 4722366482869645213696 := Nat.le_trans (Nat.le_mul_of_pos_right _ hp) hB2
    clear hB
    have hb0 : 0 < b := Nat.lt_of_lt_of_le (by decide) hb
    have hmb := Nat.mod_lt r hb0
    have hdv : r % b * 1024 / b < 1024 := by
      rw [Nat.div_lt_iff_lt_mul hb0, Nat.mul_comm 1024]
      exact Nat.mul_lt_mul_of_pos_right hmb (by decide)
    have hB4 : B ≤ 4611686018427387904 := by clear hB2 hm hdv hmb; omega
    rw [dvS] at g
    refine st100 hb hb2 hi (by omega) (Nat.lt_of_lt_of_le hm hB4) hr x y z ?_
    generalize r / b = q at *
    generalize r % b = s at *
    refine ih (i + 1) (m * 1024 + q) (s * 1024) (B * 1024) (by omega) (by omega) ?_ hB2 ?_ g
    · have k1 := Nat.mul_le_mul_right 1024 (Nat.succ_le_of_lt hm)
      rw [Nat.succ_mul] at k1
      exact Nat.lt_of_lt_of_le (Nat.add_lt_add_left hdv _) k1
    · clear g hB2 hB3 hp hdv hm
      omega
theorem div_parts {M N : Nat} (hM0 : 4503599627370496 ≤ M) (hM : M < 9007199254740992) (hN0 : 4503599627370496 ≤ N) (hN : N < 9007199254740992) :
    dvS N 7 (0, M) = (M * 1152921504606846976 / N, M * 1152921504606846976 % N * 1024) ∧ M * 1152921504606846976 / N < 4611686018427387904 ∧ M * 1152921504606846976 % N < N ∧ 0 * 1024 + M / N < 4 := by
  have hp : 0 < N := by omega
  have hloop := dvS_eq (b := N) hp 6 M
  refine ⟨?_, ?_, Nat.mod_lt _ hp, ?_⟩
  · rw [dvS]
    show dvS N 6 (0 * 1024 + M / N, M % N * 1024) = _
    rw [Nat.zero_mul, Nat.zero_add, hloop, show (1024 : Nat) ^ 6 = 1152921504606846976 from rfl]
  · rw [Nat.div_lt_iff_lt_mul hp]
    omega
  · rw [Nat.zero_mul, Nat.zero_add, Nat.div_lt_iff_lt_mul hp]
    omega
end RL
