/-! THE PURE SIDE, 34: prefer and the lottery, both sides: printed by wip/tools/gen53.py -/
/-- as many different values as fit -/
theorem pigeon : ∀ (m n : Nat) (f : Nat → Nat), (∀ i, i < n → f i < m) → (∀ i j, i < j → j < n → f i ≠ f j) → n ≤ m
  | 0, 0, _, _, _ => Nat.le_refl _
  | 0, n + 1, f, h1, _ => absurd (h1 0 (by omega)) (by omega)
  | m + 1, n, f, h1, h2 => by
    by_cases he : ∃ i, i < n ∧ f i = m
    · obtain ⟨i, i1, i2⟩ := he
      have := pigeon m (n - 1) (fun j => if j < i then f j else f (j + 1)) (fun j hj => by
        show (if j < i then f j else f (j + 1)) < m
        split
        · rename_i q
          have a1 := h1 j (by omega)
          have a2 := h2 j i q i1
          omega
        · rename_i q
          have a1 := h1 (j + 1) (by omega)
          have a2 := h2 i (j + 1) (by omega) (by omega)
          omega) (fun a b q1 q2 => by
        show (if a < i then f a else f (a + 1)) ≠ (if b < i then f b else f (b + 1))
        split <;> split
        · exact h2 _ _ (by omega) (by omega)
        · exact h2 _ _ (by omega) (by omega)
        · omega
        · exact h2 _ _ (by omega) (by omega))
      omega
    · have := pigeon m n f (fun i hi => by
        have a1 := h1 i hi
        have a2 : f i ≠ m := fun e => he ⟨i, hi, e⟩
        omega) h2
      omega
/-- a course that is not among the named: there is room for one more -/
theorem room_c {f : Int → Int} {n m c : Int} (hn : 0 ≤ n) (hm : 0 ≤ m) (hf : ∀ k, 0 ≤ k → k < n → 0 ≤ f k ∧ f k < m) (hd : ∀ i j, 0 ≤ i → i < j → j < n → f i ≠ f j) (hc : 0 ≤ c ∧ c < m) (hx : ∀ k, 0 ≤ k → k < n → f k ≠ c) : n < m := by
  have := pigeon m.toNat (n.toNat + 1) (fun i => if i < n.toNat then (f i).toNat else c.toNat) (fun i hi => by
    show (if i < n.toNat then (f i).toNat else c.toNat) < m.toNat
    split
    · have := hf (i : Int) (by omega) (by omega); omega
    · omega) (fun i j q1 q2 => by
    show (if i < n.toNat then (f i).toNat else c.toNat) ≠ (if j < n.toNat then (f j).toNat else c.toNat)
    rw [if_pos (show i < n.toNat by omega)]
    have a1 := hf (i : Int) (by omega) (by omega)
    split
    · have a2 := hf (j : Int) (by omega) (by omega)
      have a3 := hd (i : Int) (j : Int) (by omega) (by omega) (by omega)
      omega
    · have a3 := hx (i : Int) (by omega) (by omega)
      omega)
  omega
theorem s275 {d : Nat} {h : HV} {Q : Int → HV → Prop} {p c : Int} (hc : h 836 4 ≤ 24) (hp : 0 ≤ p ∧ p < h 836 4) (hn : 0 ≤ h 3104 p ∧ h 3104 p < 8) : Sp fz1 (d + 1) 275 [(3, 2953), (0, p), (0, c)] h Q = Q (h 3104 p + 1) (hset (hset h 3040 (p * 8 + h 3104 p) c) 3104 p (h 3104 p + 1)) := by
  simp (implicitDefEqProofs := false) (disch := omega) only [sp275, b275_0, b275_1, b275_2, q275_1, q275_2, x_aload0, y_call140, x_dup203, x_dup21, x_gc_9219, x_gc_9235, x_gc_9243, x_goto_1, x_i2l, x_iadd, x_iaload, x_iastore, x_iconst, x_ifCond_eq_1, x_if_icmp_lt_2, x_iload1, x_iload2, x_imul, x_ireturn, klp_0, klp_1, klp_2, klp_3, klp_9, KC_0, KC_1, KC_2, KC_3, KC_4, ne_eq, not_false_eq_true, not_true_eq_false, true_and, and_true, and_self, implies_true, eq_self, true_imp_iff, false_implies, Int.reduceEq, Int.reduceNe, Int.reduceMod, Int.reduceMul, Int.reduceAdd, Int.reduceSub, Int.reduceLT, Int.reduceLE, Nat.reduceAdd, Nat.reduceLeDiff, Nat.reduceLT, Nat.reduceSub, reduceIte, wds_n, wds_0, wds_1, wds_2, wds_3, or_true, true_or, or_false, false_or, or_self, false_and, and_false, d_pos, d_s1, d_s2, d_s3, d_s4, d_s5, d_s6, d_s7, d_s8, Classical.not_not, z2953_0, z2953_2, z3040_l, z2953_3, z3104_l, s140, hp, hset_v, le_sub1, le_T, le_F, lt_T, lt_F, eq_F, w32_T, bz0, bz1, lc_le, lc_ge, lc_lt, lc_gt, lc_eq] <;> first | rfl | (rw [if_pos (by omega)] <;> rfl) | (rw [if_neg (by omega)] <;> rfl) | (exfalso; omega)
theorem s272n {d : Nat} {h : HV} {Q : Int → HV → Prop} {p c : Int} (hT : TC (h 64 8)) (hc : h 836 4 ≤ 24) (hg : ¬ ((0 ≤ p ∧ p < h 836 4) ∧ 0 ≤ c ∧ c < h (h 64 8 + 598) 5)) : Sp fz1 (d + 3) 272 [(3, 64), (0, p), (0, c)] h Q = Q (-1) h := by
  simp (implicitDefEqProofs := false) (disch := omega) only [sp272, b272_0, b272_1, b272_2, b272_3, q272_1, q272_2, q272_3, x_aload0, y_call138, y_call152, y_call273, y_call275, x_gc_27, x_gc_59, x_goto_2, x_iconst, x_ifCond_eq_2, x_ifCond_lt_3, x_ifCond_ne_1, x_iload1, x_iload2, x_ireturn, klp_0, klp_1, klp_2, klp_3, klp_9, KC_0, KC_1, KC_2, KC_3, KC_4, ne_eq, not_false_eq_true, not_true_eq_false, true_and, and_true, and_self, implies_true, eq_self, true_imp_iff, false_implies, Int.reduceEq, Int.reduceNe, Int.reduceMod, Int.reduceMul, Int.reduceAdd, Int.reduceSub, Int.reduceLT, Int.reduceLE, Nat.reduceAdd, Nat.reduceLeDiff, Nat.reduceLT, Nat.reduceSub, reduceIte, wds_n, wds_0, wds_1, wds_2, wds_3, or_true, true_or, or_false, false_or, or_self, false_and, and_false, d_pos, d_s1, d_s2, d_s3, d_s4, d_s5, d_s6, d_s7, d_s8, Classical.not_not, z64_3, z64_7, s152 hT, hg, le_sub1, le_T, le_F, lt_T, lt_F, eq_F, w32_T, bz0, bz1, lc_le, lc_ge, lc_lt, lc_gt, lc_eq] <;> first | rfl | (rw [if_pos (by omega)] <;> rfl) | (rw [if_neg (by omega)] <;> rfl) | (exfalso; omega)
theorem s272k {d : Nat} {h : HV} {Q : Int → HV → Prop} {p c : Int} (hT : TC (h 64 8)) (hc : h 836 4 ≤ 24) (hg : ((0 ≤ p ∧ p < h 836 4) ∧ 0 ≤ c ∧ c < h (h 64 8 + 598) 5)) (hk : ¬ h 928 p = 0) : Sp fz1 (d + 3) 272 [(3, 64), (0, p), (0, c)] h Q = Q (-2) h := by
  simp (implicitDefEqProofs := false) (disch := omega) only [sp272, b272_0, b272_1, b272_2, b272_3, q272_1, q272_2, q272_3, x_aload0, y_call138, y_call152, y_call273, y_call275, x_gc_27, x_gc_59, x_goto_2, x_iconst, x_ifCond_eq_2, x_ifCond_lt_3, x_ifCond_ne_1, x_iload1, x_iload2, x_ireturn, klp_0, klp_1, klp_2, klp_3, klp_9, KC_0, KC_1, KC_2, KC_3, KC_4, ne_eq, not_false_eq_true, not_true_eq_false, true_and, and_true, and_self, implies_true, eq_self, true_imp_iff, false_implies, Int.reduceEq, Int.reduceNe, Int.reduceMod, Int.reduceMul, Int.reduceAdd, Int.reduceSub, Int.reduceLT, Int.reduceLE, Nat.reduceAdd, Nat.reduceLeDiff, Nat.reduceLT, Nat.reduceSub, reduceIte, wds_n, wds_0, wds_1, wds_2, wds_3, or_true, true_or, or_false, false_or, or_self, false_and, and_false, d_pos, d_s1, d_s2, d_s3, d_s4, d_s5, d_s6, d_s7, d_s8, Classical.not_not, z64_3, z64_7, s152 hT, if_pos hg, s138 hc, hk, le_sub1, le_T, le_F, lt_T, lt_F, eq_F, w32_T, bz0, bz1, lc_le, lc_ge, lc_lt, lc_gt, lc_eq] <;> first | rfl | (rw [if_pos (by omega)] <;> rfl) | (rw [if_neg (by omega)] <;> rfl) | (exfalso; omega)
theorem s272r {d : Nat} {h : HV} {Q : Int → HV → Prop} {p c : Int} (hT : TC (h 64 8)) (hc : h 836 4 ≤ 24) (hg : ((0 ≤ p ∧ p < h 836 4) ∧ 0 ≤ c ∧ c < h (h 64 8 + 598) 5)) (hp : 0 ≤ p ∧ p < h 836 4) (hk : h 928 p = 0) (hn : 0 ≤ h 3104 p ∧ h 3104 p ≤ 8) {r : Int} (hr : fnx (fun k => h 3040 (p * 8 + k)) c (-1) (h 3104 p).toNat 0 = r) (h0 : 0 ≤ r) : Sp fz1 (d + 3) 272 [(3, 64), (0, p), (0, c)] h Q = Q (-2) h := by
  simp (implicitDefEqProofs := false) (disch := omega) only [sp272, b272_0, b272_1, b272_2, b272_3, q272_1, q272_2, q272_3, x_aload0, y_call138, y_call152, y_call273, y_call275, x_gc_27, x_gc_59, x_goto_2, x_iconst, x_ifCond_eq_2, x_ifCond_lt_3, x_ifCond_ne_1, x_iload1, x_iload2, x_ireturn, klp_0, klp_1, klp_2, klp_3, klp_9, KC_0, KC_1, KC_2, KC_3, KC_4, ne_eq, not_false_eq_true, not_true_eq_false, true_and, and_true, and_self, implies_true, eq_self, true_imp_iff, false_implies, Int.reduceEq, Int.reduceNe, Int.reduceMod, Int.reduceMul, Int.reduceAdd, Int.reduceSub, Int.reduceLT, Int.reduceLE, Nat.reduceAdd, Nat.reduceLeDiff, Nat.reduceLT, Nat.reduceSub, reduceIte, wds_n, wds_0, wds_1, wds_2, wds_3, or_true, true_or, or_false, false_or, or_self, false_and, and_false, d_pos, d_s1, d_s2, d_s3, d_s4, d_s5, d_s6, d_s7, d_s8, Classical.not_not, z64_3, z64_7, s152 hT, if_pos hg, s138 hc, eq_true hk, eq_true hp.1, eq_true hp.2, s273 hc hp hn, hr, le_sub1, le_T, le_F, lt_T, lt_F, eq_F, w32_T, bz0, bz1, lc_le, lc_ge, lc_lt, lc_gt, lc_eq] <;> first | rfl | (rw [if_pos (by omega)] <;> rfl) | (rw [if_neg (by omega)] <;> rfl) | (exfalso; omega)
theorem s272a {d : Nat} {h : HV} {Q : Int → HV → Prop} {p c : Int} (hT : TC (h 64 8)) (hc : h 836 4 ≤ 24) (hg : ((0 ≤ p ∧ p < h 836 4) ∧ 0 ≤ c ∧ c < h (h 64 8 + 598) 5)) (hp : 0 ≤ p ∧ p < h 836 4) (hk : h 928 p = 0) (hn : 0 ≤ h 3104 p ∧ h 3104 p ≤ 8) (hr : fnx (fun k => h 3040 (p * 8 + k)) c (-1) (h 3104 p).toNat 0 = -1) (h8 : 0 ≤ h 3104 p ∧ h 3104 p < 8) : Sp fz1 (d + 3) 272 [(3, 64), (0, p), (0, c)] h Q = Q (h 3104 p + 1) (hset (hset h 3040 (p * 8 + h 3104 p) c) 3104 p (h 3104 p + 1)) := by
  simp (implicitDefEqProofs := false) (disch := omega) only [sp272, b272_0, b272_1, b272_2, b272_3, q272_1, q272_2, q272_3, x_aload0, y_call138, y_call152, y_call273, y_call275, x_gc_27, x_gc_59, x_goto_2, x_iconst, x_ifCond_eq_2, x_ifCond_lt_3, x_ifCond_ne_1, x_iload1, x_iload2, x_ireturn, klp_0, klp_1, klp_2, klp_3, klp_9, KC_0, KC_1, KC_2, KC_3, KC_4, ne_eq, not_false_eq_true, not_true_eq_false, true_and, and_true, and_self, implies_true, eq_self, true_imp_iff, false_implies, Int.reduceEq, Int.reduceNe, Int.reduceMod, Int.reduceMul, Int.reduceAdd, Int.reduceSub, Int.reduceLT, Int.reduceLE, Nat.reduceAdd, Nat.reduceLeDiff, Nat.reduceLT, Nat.reduceSub, reduceIte, wds_n, wds_0, wds_1, wds_2, wds_3, or_true, true_or, or_false, false_or, or_self, false_and, and_false, d_pos, d_s1, d_s2, d_s3, d_s4, d_s5, d_s6, d_s7, d_s8, Classical.not_not, z64_3, z64_7, s152 hT, if_pos hg, s138 hc, eq_true hk, eq_true hp.1, eq_true hp.2, s273 hc hp hn, hr, s275 hc hp h8, le_sub1, le_T, le_F, lt_T, lt_F, eq_F, w32_T, bz0, bz1, lc_le, lc_ge, lc_lt, lc_gt, lc_eq] <;> first | rfl | (rw [if_pos (by omega)] <;> rfl) | (rw [if_neg (by omega)] <;> rfl) | (exfalso; omega)
theorem s426n {d : Nat} {h : HV} {Q : Int → HV → Prop} {p c : Int} (hS : TR (h 6603 9)) (hm : 0 ≤ h (h 6603 9 + 84) 5 ∧ h (h 6603 9 + 84) 5 ≤ 8) (hc : 0 ≤ h 6603 25 ∧ h 6603 25 ≤ 24) (hg : ¬ ((0 ≤ p ∧ p < h 6603 25) ∧ 0 ≤ c ∧ c < h (h 6603 9 + 84) 5)) : Sp fz1 (d + 2) 426 [(3, 6603), (0, p), (0, c)] h Q = Q (-1) h := by
  by_cases a1 : 0 ≤ p ∧ p < h 6603 25 <;> by_cases a2 : 0 ≤ c ∧ c < h (h 6603 9 + 84) 5 <;> (try (exfalso; omega)) <;> simp (implicitDefEqProofs := false) (disch := omega) only [sp426, b426_0, b426_1, b426_2, b426_3, b426_4, q426_1, q426_2, q426_3, q426_4, x_aload0, y_call372, y_call376, y_call427, x_dup203, x_dup21, x_gc_11475, x_gc_11923, x_gc_11931, x_goto_1, x_goto_3, x_iadd, x_iaload, x_iastore, x_iconst, x_ifCond_eq_1, x_ifCond_ne_2, x_ifCond_ne_3, x_if_icmp_eq_4, x_iload1, x_iload2, x_imul, x_ireturn, klp_0, klp_1, klp_2, klp_3, klp_9, KC_0, KC_1, KC_2, KC_3, KC_4, ne_eq, not_false_eq_true, not_true_eq_false, true_and, and_true, and_self, implies_true, eq_self, true_imp_iff, false_implies, Int.reduceEq, Int.reduceNe, Int.reduceMod, Int.reduceMul, Int.reduceAdd, Int.reduceSub, Int.reduceLT, Int.reduceLE, Nat.reduceAdd, Nat.reduceLeDiff, Nat.reduceLT, Nat.reduceSub, reduceIte, wds_n, wds_0, wds_1, wds_2, wds_3, or_true, true_or, or_false, false_or, or_self, false_and, and_false, d_pos, d_s1, d_s2, d_s3, d_s4, d_s5, d_s6, d_s7, d_s8, Classical.not_not, z6603_26, z10016_l, z6603_82, z12384_l, z6603_83, z12448_l, s372 hc, s376 hS hm, a1, a2, le_sub1, le_T, le_F, lt_T, lt_F, eq_F, w32_T, bz0, bz1, lc_le, lc_ge, lc_lt, lc_gt, lc_eq] <;> first | rfl | (rw [if_pos (by omega)] <;> rfl) | (rw [if_neg (by omega)] <;> rfl) | (exfalso; omega)
theorem s426k {d : Nat} {h : HV} {Q : Int → HV → Prop} {p c : Int} (hS : TR (h 6603 9)) (hm : 0 ≤ h (h 6603 9 + 84) 5 ∧ h (h 6603 9 + 84) 5 ≤ 8) (hc : 0 ≤ h 6603 25 ∧ h 6603 25 ≤ 24) (hg : ((0 ≤ p ∧ p < h 6603 25) ∧ 0 ≤ c ∧ c < h (h 6603 9 + 84) 5)) (hk : ¬ h 10016 p = 0) : Sp fz1 (d + 2) 426 [(3, 6603), (0, p), (0, c)] h Q = Q (-2) h := by
  simp (implicitDefEqProofs := false) (disch := omega) only [sp426, b426_0, b426_1, b426_2, b426_3, b426_4, q426_1, q426_2, q426_3, q426_4, x_aload0, y_call372, y_call376, y_call427, x_dup203, x_dup21, x_gc_11475, x_gc_11923, x_gc_11931, x_goto_1, x_goto_3, x_iadd, x_iaload, x_iastore, x_iconst, x_ifCond_eq_1, x_ifCond_ne_2, x_ifCond_ne_3, x_if_icmp_eq_4, x_iload1, x_iload2, x_imul, x_ireturn, klp_0, klp_1, klp_2, klp_3, klp_9, KC_0, KC_1, KC_2, KC_3, KC_4, ne_eq, not_false_eq_true, not_true_eq_false, true_and, and_true, and_self, implies_true, eq_self, true_imp_iff, false_implies, Int.reduceEq, Int.reduceNe, Int.reduceMod, Int.reduceMul, Int.reduceAdd, Int.reduceSub, Int.reduceLT, Int.reduceLE, Nat.reduceAdd, Nat.reduceLeDiff, Nat.reduceLT, Nat.reduceSub, reduceIte, wds_n, wds_0, wds_1, wds_2, wds_3, or_true, true_or, or_false, false_or, or_self, false_and, and_false, d_pos, d_s1, d_s2, d_s3, d_s4, d_s5, d_s6, d_s7, d_s8, Classical.not_not, z6603_26, z10016_l, z6603_82, z12384_l, z6603_83, z12448_l, s372 hc, s376 hS hm, eq_true hg.1.1, eq_true hg.1.2, eq_true hg.2.1, eq_true hg.2.2, hk, le_sub1, le_T, le_F, lt_T, lt_F, eq_F, w32_T, bz0, bz1, lc_le, lc_ge, lc_lt, lc_gt, lc_eq] <;> first | rfl | (rw [if_pos (by omega)] <;> rfl) | (rw [if_neg (by omega)] <;> rfl) | (exfalso; omega)
theorem s426r {d : Nat} {h : HV} {Q : Int → HV → Prop} {p c : Int} (hS : TR (h 6603 9)) (hm : 0 ≤ h (h 6603 9 + 84) 5 ∧ h (h 6603 9 + 84) 5 ≤ 8) (hc : 0 ≤ h 6603 25 ∧ h 6603 25 ≤ 24) (hg : ((0 ≤ p ∧ p < h 6603 25) ∧ 0 ≤ c ∧ c < h (h 6603 9 + 84) 5)) (hp : 0 ≤ p ∧ p < 24) (hk : h 10016 p = 0) (hn : 0 ≤ h 12384 p ∧ h 12384 p ≤ 8) {r : Int} (hr : fnx (fun k => h 12448 (8 * p + k)) c (-9) (h 12384 p).toNat 0 = r) (h0 : ¬ r = -9) : Sp fz1 (d + 2) 426 [(3, 6603), (0, p), (0, c)] h Q = Q (-2) h := by
  simp (implicitDefEqProofs := false) (disch := omega) only [sp426, b426_0, b426_1, b426_2, b426_3, b426_4, q426_1, q426_2, q426_3, q426_4, x_aload0, y_call372, y_call376, y_call427, x_dup203, x_dup21, x_gc_11475, x_gc_11923, x_gc_11931, x_goto_1, x_goto_3, x_iadd, x_iaload, x_iastore, x_iconst, x_ifCond_eq_1, x_ifCond_ne_2, x_ifCond_ne_3, x_if_icmp_eq_4, x_iload1, x_iload2, x_imul, x_ireturn, klp_0, klp_1, klp_2, klp_3, klp_9, KC_0, KC_1, KC_2, KC_3, KC_4, ne_eq, not_false_eq_true, not_true_eq_false, true_and, and_true, and_self, implies_true, eq_self, true_imp_iff, false_implies, Int.reduceEq, Int.reduceNe, Int.reduceMod, Int.reduceMul, Int.reduceAdd, Int.reduceSub, Int.reduceLT, Int.reduceLE, Nat.reduceAdd, Nat.reduceLeDiff, Nat.reduceLT, Nat.reduceSub, reduceIte, wds_n, wds_0, wds_1, wds_2, wds_3, or_true, true_or, or_false, false_or, or_self, false_and, and_false, d_pos, d_s1, d_s2, d_s3, d_s4, d_s5, d_s6, d_s7, d_s8, Classical.not_not, z6603_26, z10016_l, z6603_82, z12384_l, z6603_83, z12448_l, s372 hc, s376 hS hm, eq_true hg.1.1, eq_true hg.1.2, eq_true hg.2.1, eq_true hg.2.2, eq_true hk, s427 hp hn, hr, h0, le_sub1, le_T, le_F, lt_T, lt_F, eq_F, w32_T, bz0, bz1, lc_le, lc_ge, lc_lt, lc_gt, lc_eq] <;> first | rfl | (rw [if_pos (by omega)] <;> rfl) | (rw [if_neg (by omega)] <;> rfl) | (exfalso; omega)
theorem s426a {d : Nat} {h : HV} {Q : Int → HV → Prop} {p c : Int} (hS : TR (h 6603 9)) (hm : 0 ≤ h (h 6603 9 + 84) 5 ∧ h (h 6603 9 + 84) 5 ≤ 8) (hc : 0 ≤ h 6603 25 ∧ h 6603 25 ≤ 24) (hg : ((0 ≤ p ∧ p < h 6603 25) ∧ 0 ≤ c ∧ c < h (h 6603 9 + 84) 5)) (hp : 0 ≤ p ∧ p < 24) (hk : h 10016 p = 0) (hn : 0 ≤ h 12384 p ∧ h 12384 p ≤ 8) (hr : fnx (fun k => h 12448 (8 * p + k)) c (-9) (h 12384 p).toNat 0 = -9) (h8 : 0 ≤ h 12384 p ∧ h 12384 p < 8) : Sp fz1 (d + 2) 426 [(3, 6603), (0, p), (0, c)] h Q = Q (h 12384 p + 1) (hset (hset h 12448 (8 * p + h 12384 p) c) 12384 p (h 12384 p + 1)) := by
  simp (implicitDefEqProofs := false) (disch := omega) only [sp426, b426_0, b426_1, b426_2, b426_3, b426_4, q426_1, q426_2, q426_3, q426_4, x_aload0, y_call372, y_call376, y_call427, x_dup203, x_dup21, x_gc_11475, x_gc_11923, x_gc_11931, x_goto_1, x_goto_3, x_iadd, x_iaload, x_iastore, x_iconst, x_ifCond_eq_1, x_ifCond_ne_2, x_ifCond_ne_3, x_if_icmp_eq_4, x_iload1, x_iload2, x_imul, x_ireturn, klp_0, klp_1, klp_2, klp_3, klp_9, KC_0, KC_1, KC_2, KC_3, KC_4, ne_eq, not_false_eq_true, not_true_eq_false, true_and, and_true, and_self, implies_true, eq_self, true_imp_iff, false_implies, Int.reduceEq, Int.reduceNe, Int.reduceMod, Int.reduceMul, Int.reduceAdd, Int.reduceSub, Int.reduceLT, Int.reduceLE, Nat.reduceAdd, Nat.reduceLeDiff, Nat.reduceLT, Nat.reduceSub, reduceIte, wds_n, wds_0, wds_1, wds_2, wds_3, or_true, true_or, or_false, false_or, or_self, false_and, and_false, d_pos, d_s1, d_s2, d_s3, d_s4, d_s5, d_s6, d_s7, d_s8, Classical.not_not, z6603_26, z10016_l, z6603_82, z12384_l, z6603_83, z12448_l, s372 hc, s376 hS hm, eq_true hg.1.1, eq_true hg.1.2, eq_true hg.2.1, eq_true hg.2.2, eq_true hk, s427 hp hn, hr, hset_v, le_sub1, le_T, le_F, lt_T, lt_F, eq_F, w32_T, bz0, bz1, lc_le, lc_ge, lc_lt, lc_gt, lc_eq] <;> first | rfl | (rw [if_pos (by omega)] <;> rfl) | (rw [if_neg (by omega)] <;> rfl) | (exfalso; omega)
def prefH (h : HV) (p c : Int) : HV := hset (hset (hset (hset h 3040 (p * 8 + h 3104 p) c) 3104 p (h 3104 p + 1)) 12448 (8 * p + h 3104 p) c) 12384 p (h 3104 p + 1)
theorem prefH_ne {h : HV} {p c a : Int} (h1 : a ≠ 3040) (h2 : a ≠ 3104) (h3 : a ≠ 12384) (h4 : a ≠ 12448) : prefH h p c a = h a := by
  unfold prefH
  rw [hs_ne h3, hs_ne h4, hs_ne h2, hs_ne h1]
theorem prefH_1 {h : HV} {p c q : Int} : prefH h p c 3104 q = if q = p then h 3104 p + 1 else h 3104 q := by
  unfold prefH; simp (implicitDefEqProofs := false) only [hset_v, Int.reduceEq, false_and, true_and, if_false]
theorem prefH_2 {h : HV} {p c q : Int} : prefH h p c 12384 q = if q = p then h 3104 p + 1 else h 12384 q := by
  unfold prefH; simp (implicitDefEqProofs := false) only [hset_v, Int.reduceEq, false_and, true_and, if_false]
theorem prefH_3 {h : HV} {p c q : Int} : prefH h p c 3040 q = if q = p * 8 + h 3104 p then c else h 3040 q := by
  unfold prefH; simp (implicitDefEqProofs := false) only [hset_v, Int.reduceEq, false_and, true_and, if_false]
theorem prefH_4 {h : HV} {p c q : Int} : prefH h p c 12448 q = if q = 8 * p + h 3104 p then c else h 12448 q := by
  unfold prefH; simp (implicitDefEqProofs := false) only [hset_v, Int.reduceEq, false_and, true_and, if_false]
theorem RCh_pref {h : HV} {p c : Int} (X : RTx h) (P : RPp h) (C : RCh h) (hp : 0 ≤ p ∧ p < h 836 4) (hc : 0 ≤ c ∧ c < h (h 64 8 + 598) 5) (hk : h 928 p = 0) (hx : ∀ k, 0 ≤ k → k < h 3104 p → h 3040 (8 * p + k) ≠ c) (h8 : h 3104 p < 8) : RCh (prefH h p c) := by
  have N : ∀ a, a ≠ 3040 → a ≠ 3104 → a ≠ 12384 → a ≠ 12448 → prefH h p c a = h a := fun a q1 q2 q3 q4 => prefH_ne q1 q2 q3 q4
  have hT : h 64 8 + 598 ≠ 3040 ∧ h 64 8 + 598 ≠ 3104 ∧ h 64 8 + 598 ≠ 12384 ∧ h 64 8 + 598 ≠ 12448 := by rcases X.1 with q | q <;> omega
  have e5 : prefH h p c (prefH h p c 64 8 + 598) 5 = h (h 64 8 + 598) 5 := by rw [N 64 (by decide) (by decide) (by decide) (by decide), N _ hT.1 hT.2.1 hT.2.2.1 hT.2.2.2]
  obtain ⟨c1, c2, c3, c4, c5⟩ := C
  unfold RCh
  rw [e5, N 836 (by decide) (by decide) (by decide) (by decide), N 3168 (by decide) (by decide) (by decide) (by decide), N 12512 (by decide) (by decide) (by decide) (by decide), N 928 (by decide) (by decide) (by decide) (by decide), N 12576 (by decide) (by decide) (by decide) (by decide), N 3232 (by decide) (by decide) (by decide) (by decide), N 2953 (by decide) (by decide) (by decide) (by decide), N 6603 (by decide) (by decide) (by decide) (by decide)]
  have P2 := P.2.1
  have cp := (c1 p hp.1 hp.2).2.1
  refine ⟨fun q q1 q2 => ?_, fun q q1 q2 => ?_, fun q i j q1 q2 i1 i2 j1 => ?_, c4, c5⟩
  · obtain ⟨d1, d2, d3, d4, d5, d6⟩ := c1 q q1 q2
    rw [prefH_1, prefH_2]
    by_cases e : q = p
    · subst e
      rw [if_pos rfl, if_pos rfl]
      refine ⟨rfl, by omega, fun k k1 k2 => ?_, d4, fun w => absurd hk w, d6⟩
      rw [prefH_3, prefH_4]
      by_cases ek : k = h 3104 q
      · rw [if_pos (by omega), if_pos (by omega)]
        exact ⟨rfl, hc⟩
      · rw [if_neg (by omega), if_neg (by omega)]
        exact d3 k k1 (by omega)
    · rw [if_neg e, if_neg e]
      refine ⟨d1, d2, fun k k1 k2 => ?_, d4, d5, d6⟩
      rw [prefH_3, prefH_4, if_neg (by omega), if_neg (by omega)]
      exact d3 k k1 k2
  · obtain ⟨d1, d2, d3⟩ := c2 q q1 q2
    rw [prefH_1, if_neg (by omega)]
    exact ⟨d1, d2, d3⟩
  · rw [prefH_1] at j1
    obtain ⟨d1, d2, d3, d4, d5, d6⟩ := c1 q q1 q2
    rw [prefH_3, prefH_3]
    by_cases e : q = p
    · subst e
      rw [if_pos rfl] at j1
      rw [if_neg (show ¬ 8 * q + i = q * 8 + h 3104 q by omega)]
      by_cases ej : j = h 3104 q
      · rw [if_pos (by omega)]
        exact hx i i1 (by omega)
      · rw [if_neg (by omega)]
        exact c3 q i j q1 q2 i1 i2 (by omega)
    · rw [if_neg e] at j1
      rw [if_neg (by omega), if_neg (by omega)]
      exact c3 q i j q1 q2 i1 i2 j1
theorem op_prefer {d : Nat} {h : HV} {p c : Int} (X : RTx h) (P : RPp h) (C : RCh h) : Sp fz1 (d + 3) 272 [(3, 64), (0, p), (0, c)] h (fun x h1 => h1 50 = h 50 ∧ Sp fz1 (d + 3) 426 [(3, 6603), (0, p), (0, c)] h1 (fun y h2 => x = y ∧ RCh h2 ∧ (∀ a, a ≠ 3040 → a ≠ 3104 → a ≠ 12384 → a ≠ 12448 → h2 a = h a))) := by
  have X5 := rtx_5 X
  have C0 := C
  have P2 := P.2.1
  have P1 := P.1
  by_cases hg : (0 ≤ p ∧ p < h 836 4) ∧ 0 ≤ c ∧ c < h (h 64 8 + 598) 5
  · obtain ⟨c1, c2, c3, c4, c5, c6⟩ := C.1 p hg.1.1 hg.1.2
    have q := P.2.2 p hg.1.1 hg.1.2
    have hg2 : (0 ≤ p ∧ p < h 6603 25) ∧ 0 ≤ c ∧ c < h (h 6603 9 + 84) 5 := by rw [P1, X5.1]; exact hg
    by_cases hk : h 928 p = 0
    · have eN : (h 12384 p).toNat = (h 3104 p).toNat := by rw [c1]
      rcases fnx_both (f := fun k => h 3040 (p * 8 + k)) (g := fun k => h 12448 (8 * p + k)) (c := c) (d1 := -1) (d2 := -9) (h 3104 p).toNat 0 (fun i q1 q2 => by
        show h 3040 (p * 8 + i) = h 12448 (8 * p + i)
        rw [(c3 i q1 (by omega)).1, show p * 8 = 8 * p by omega]) with ⟨f1, f2, f3, f4⟩ | ⟨f1, f2, f3⟩
      · rw [s272r X.1 P2.2 hg hg.1 hk c2 rfl f2]
        refine ⟨rfl, ?_⟩
        rw [s426r X.2.1 (by omega) (by omega) hg2 (by omega) (by rw [q.1]; exact hk) (by omega) (by rw [eN]) (by rw [← f1]; omega)]
        exact ⟨rfl, C0, fun _ _ _ _ _ => rfl⟩
      · have hx : ∀ k, 0 ≤ k → k < h 3104 p → h 3040 (8 * p + k) ≠ c := fun k k1 k2 => by
          have := f3 k k1 (by omega)
          rw [show p * 8 = 8 * p by omega] at this
          exact this
        have h8 : h 3104 p < 8 := by
          have := room_c (f := fun k => h 3040 (8 * p + k)) c2.1 X5.2.1 (fun k k1 k2 => (c3 k k1 k2).2) (fun i j i1 i2 i3 => C.2.2.1 p i j hg.1.1 hg.1.2 i1 i2 i3) hg.2 hx
          omega
        rw [s272a X.1 P2.2 hg hg.1 hk c2 f1 ⟨c2.1, h8⟩]
        have e1 : ∀ a, a ≠ 3040 → a ≠ 3104 → hset (hset h 3040 (p * 8 + h 3104 p) c) 3104 p (h 3104 p + 1) a = h a := fun a q1 q2 => by rw [hs_ne q2, hs_ne q1]
        refine ⟨e1 _ (by decide) (by decide), ?_⟩
        have e3 : hset (hset h 3040 (p * 8 + h 3104 p) c) 3104 p (h 3104 p + 1) (h 6603 9 + 84) = h (h 6603 9 + 84) := e1 _ (by rcases X.2.1 with w | w <;> omega) (by rcases X.2.1 with w | w <;> omega)
        have a1 := e1 6603 (by decide) (by decide)
        have a2 := e1 10016 (by decide) (by decide)
        have a3 := e1 12384 (by decide) (by decide)
        have a4 := e1 12448 (by decide) (by decide)
        rw [s426a (by rw [a1]; exact X.2.1) (by rw [a1, e3]; omega) (by rw [a1]; omega) (by rw [a1, e3]; exact hg2) (by omega) (by rw [a2, q.1]; exact hk) (by rw [a3]; omega) (by rw [a3, a4, eN]; exact f2) (by rw [a3]; omega), a3, c1]
        refine ⟨rfl, ?_, ?_⟩
        · exact RCh_pref X P C0 hg.1 hg.2 hk hx h8
        · exact fun a q1 q2 q3 q4 => prefH_ne q1 q2 q3 q4
    · rw [s272k X.1 P2.2 hg hk]
      refine ⟨rfl, ?_⟩
      rw [s426k X.2.1 (by omega) (by omega) hg2 (by rw [q.1]; exact hk)]
      exact ⟨rfl, C0, fun _ _ _ _ _ => rfl⟩
  · rw [s272n X.1 P2.2 hg]
    refine ⟨rfl, ?_⟩
    rw [s426n X.2.1 (by omega) (by omega) (by rw [P1, X5.1]; exact hg)]
    exact ⟨rfl, C0, fun _ _ _ _ _ => rfl⟩
