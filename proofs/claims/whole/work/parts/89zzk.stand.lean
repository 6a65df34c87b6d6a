/-! THE PURE SIDE, 133: stand, rows of both sides: printed by wip/tools/gen89zzk.py -/
def psF (A : Int → Int) : Nat → Int
  | 0 => 0
  | k + 1 => if A k = 1 then psF A k else k + 1
theorem psF_b (A : Int → Int) : ∀ n : Nat, 0 ≤ psF A n ∧ psF A n ≤ n
  | 0 => ⟨Int.le_refl _, Int.le_refl _⟩
  | k + 1 => by
    have := psF_b A k
    unfold psF
    split <;> omega
theorem psF_eq {A B : Int → Int} : ∀ n : Nat, (∀ k, 0 ≤ k → k < (n : Int) → A k = B k) → psF A n = psF B n
  | 0, _ => rfl
  | k + 1, e => by
    unfold psF
    rw [e k (by omega) (by omega), psF_eq k (fun j a b => e j a (by omega))]
/-- places at + 1 .. n of an array moved up by one -/
def shH (h : HV) (a n k : Int) : HV := fun o i => if o = a ∧ k < i ∧ i ≤ n then h o (i - 1) else h o i
theorem sh_ne {h : HV} {a n k o : Int} (w : o ≠ a) : shH h a n k o = h o := by
  funext i
  unfold shH
  rw [if_neg (fun v => w v.1)]
theorem sh_0 {h : HV} {a n : Int} : shH h a n n = h := by
  funext o i
  unfold shH
  rw [if_neg (by omega)]
theorem sh_lo {h : HV} {a n k i : Int} (w : i ≤ k) : shH h a n k a i = h a i := by
  unfold shH
  rw [if_neg (by omega)]
theorem sh_s {h : HV} {a n k : Int} (w : k ≤ n) : hset (shH h a n k) a k (h a (k - 1)) = shH h a n (k - 1) := by
  funext o i
  rw [hset_v]
  unfold shH
  by_cases e : o = a ∧ i = k
  · rw [if_pos e, if_pos ⟨e.1, by omega, by omega⟩, e.1, e.2]
  · rw [if_neg e]
    by_cases f : o = a ∧ k < i ∧ i ≤ n
    · rw [if_pos f, if_pos ⟨f.1, by omega, f.2.2⟩]
    · rw [if_neg f, if_neg (fun v => f ⟨v.1, by omega, v.2.2⟩)]
def sh3 (h : HV) (n k : Int) : HV := fun o i => if (o = 6432 ∨ o = 6496 ∨ o = 6561) ∧ k < i ∧ i ≤ n then h o (i - 1) else h o i
theorem sh3_ne {h : HV} {n k o : Int} (w : ¬ (o = 6432 ∨ o = 6496 ∨ o = 6561)) : sh3 h n k o = h o := by
  funext i
  unfold sh3
  rw [if_neg (fun v => w v.1)]
theorem sh3_lo {h : HV} {n k o i : Int} (w : i ≤ k) : sh3 h n k o i = h o i := by
  unfold sh3
  rw [if_neg (by omega)]
theorem sh3_0 {h : HV} {n : Int} : sh3 h n n = h := by
  funext o i
  unfold sh3
  rw [if_neg (by omega)]
theorem sh3_s {h : HV} {n k : Int} (w : k ≤ n) : hset (hset (hset (sh3 h n k) 6432 k (h 6432 (k - 1))) 6496 k (h 6496 (k - 1))) 6561 k (h 6561 (k - 1)) = sh3 h n (k - 1) := by
  funext o i
  rw [hset_v, hset_v, hset_v]
  unfold sh3
  by_cases e : i = k
  · by_cases o1 : o = 6561
    · rw [if_pos ⟨o1, e⟩, if_pos ⟨.inr (.inr o1), by omega, by omega⟩, o1, e]
    · rw [if_neg (fun v => o1 v.1)]
      by_cases o2 : o = 6496
      · rw [if_pos ⟨o2, e⟩, if_pos ⟨.inr (.inl o2), by omega, by omega⟩, o2, e]
      · rw [if_neg (fun v => o2 v.1)]
        by_cases o3 : o = 6432
        · rw [if_pos ⟨o3, e⟩, if_pos ⟨.inl o3, by omega, by omega⟩, o3, e]
        · rw [if_neg (fun v => o3 v.1), if_neg (by omega), if_neg (by omega)]
  · rw [if_neg (fun v => e v.2), if_neg (fun v => e v.2), if_neg (fun v => e v.2)]
    by_cases f : (o = 6432 ∨ o = 6496 ∨ o = 6561) ∧ k < i ∧ i ≤ n
    · rw [if_pos f, if_pos ⟨f.1, by omega, f.2.2⟩]
    · rw [if_neg f, if_neg (fun v => f ⟨v.1, by omega, v.2.2⟩)]
def aheC (h : HV) (gr re k : Int) : Int := if gr = h 6496 k then (if gr = 0 ∧ ltR re (h 6561 k) = 1 then 1 else 0) else if gr < h 6496 k then 1 else 0
def aheR (h : HV) (p q : Int) : Int := if h 11552 p = h 11552 q then (if h 11552 p = 0 ∧ ¬ d_cmp .l (h 11618 p) (h 11618 q) = 0 then (if d_cmp .g (h 11618 p) (h 11618 q) < 0 then 1 else 0) else if p < q then 1 else 0) else if h 11552 p < h 11552 q then 1 else 0
theorem ahe_01 {h : HV} {gr re k : Int} : aheC h gr re k = 0 ∨ aheC h gr re k = 1 := by
  unfold aheC
  split
  · split
    · exact .inr rfl
    · exact .inl rfl
  · split
    · exact .inr rfl
    · exact .inl rfl
theorem aheR_01 {h : HV} {p q : Int} : aheR h p q = 0 ∨ aheR h p q = 1 := by
  unfold aheR
  split
  · split
    · split
      · exact .inr rfl
      · exact .inl rfl
    · split
      · exact .inr rfl
      · exact .inl rfl
  · split
    · exact .inr rfl
    · exact .inl rfl
theorem ltR_01 {a b : Int} : ltR a b = 0 ∨ ltR a b = 1 := by
  unfold ltR
  split
  · exact .inr rfl
  · exact .inl rfl
theorem s239 {d : Nat} {h : HV} {Q : Int → HV → Prop} {gr re k : Int} (hk : 0 ≤ k ∧ k < 24) (hL : gr = 0 → h 6496 k = 0 → L64 re ∧ L64 (h 6561 k)) : Sp fz1 (d + 2) 239 [(3, 64), (0, gr), (1, re), (0, k)] h Q = Q (aheC h gr re k) h := by
  unfold aheC
  by_cases a1 : gr = h 6496 k
  · by_cases a2 : gr = 0
    · rw [if_pos a1]
      have a7 : h 6496 k = 0 := by omega
      obtain ⟨ha, hb⟩ := hL a2 a7
      rcases ltR_01 (a := re) (b := h 6561 k) with a3 | a3
      · rw [a3, if_neg (by omega)]
        simp (implicitDefEqProofs := false) (disch := omega) only [sp239, b239_0, b239_1, b239_2, b239_3, b239_4, b239_5, q239_1, q239_2, q239_3, q239_4, q239_5, x_aload0, y_call207, x_freturn, x_gc_115, x_gc_123, x_goto_2, x_goto_5, x_iaload, x_iconst, x_ifCond_eq_4, x_ifCond_ne_4, x_if_icmp_eq_3, x_if_icmp_ge_1, x_iload1, x_iload4, x_laload, x_lload2, klp_0, klp_1, klp_2, klp_3, klp_9, KC_0, KC_1, KC_2, KC_3, KC_4, ne_eq, not_false_eq_true, not_true_eq_false, true_and, and_true, and_self, implies_true, eq_self, true_imp_iff, false_implies, Int.reduceEq, Int.reduceNe, Int.reduceMod, Int.reduceMul, Int.reduceAdd, Int.reduceSub, Int.reduceLT, Int.reduceLE, Nat.reduceAdd, Nat.reduceLeDiff, Nat.reduceLT, Nat.reduceSub, reduceIte, wds_n, wds_0, wds_1, wds_2, wds_3, or_true, true_or, or_false, false_or, or_self, false_and, and_false, d_pos, d_s1, d_s2, d_s3, d_s4, d_s5, d_s6, d_s7, d_s8, Classical.not_not, z64_14, z6496_l, z64_15, z6561_l, s207t ha hb, a1, a2, a3, eq_true a7, le_sub1, le_T, le_F, lt_T, lt_F, eq_F, w32_T, bz0, bz1, lc_le, lc_ge, lc_lt, lc_gt, lc_eq]
      · rw [a3, if_pos ⟨a2, rfl⟩]
        simp (implicitDefEqProofs := false) (disch := omega) only [sp239, b239_0, b239_1, b239_2, b239_3, b239_4, b239_5, q239_1, q239_2, q239_3, q239_4, q239_5, x_aload0, y_call207, x_freturn, x_gc_115, x_gc_123, x_goto_2, x_goto_5, x_iaload, x_iconst, x_ifCond_eq_4, x_ifCond_ne_4, x_if_icmp_eq_3, x_if_icmp_ge_1, x_iload1, x_iload4, x_laload, x_lload2, klp_0, klp_1, klp_2, klp_3, klp_9, KC_0, KC_1, KC_2, KC_3, KC_4, ne_eq, not_false_eq_true, not_true_eq_false, true_and, and_true, and_self, implies_true, eq_self, true_imp_iff, false_implies, Int.reduceEq, Int.reduceNe, Int.reduceMod, Int.reduceMul, Int.reduceAdd, Int.reduceSub, Int.reduceLT, Int.reduceLE, Nat.reduceAdd, Nat.reduceLeDiff, Nat.reduceLT, Nat.reduceSub, reduceIte, wds_n, wds_0, wds_1, wds_2, wds_3, or_true, true_or, or_false, false_or, or_self, false_and, and_false, d_pos, d_s1, d_s2, d_s3, d_s4, d_s5, d_s6, d_s7, d_s8, Classical.not_not, z64_14, z6496_l, z64_15, z6561_l, s207t ha hb, a1, a2, a3, eq_true a7, le_sub1, le_T, le_F, lt_T, lt_F, eq_F, w32_T, bz0, bz1, lc_le, lc_ge, lc_lt, lc_gt, lc_eq]
    · rw [if_pos a1, if_neg (by omega)]
      simp (implicitDefEqProofs := false) (disch := omega) only [sp239, b239_0, b239_1, b239_2, b239_3, b239_4, b239_5, q239_1, q239_2, q239_3, q239_4, q239_5, x_aload0, y_call207, x_freturn, x_gc_115, x_gc_123, x_goto_2, x_goto_5, x_iaload, x_iconst, x_ifCond_eq_4, x_ifCond_ne_4, x_if_icmp_eq_3, x_if_icmp_ge_1, x_iload1, x_iload4, x_laload, x_lload2, klp_0, klp_1, klp_2, klp_3, klp_9, KC_0, KC_1, KC_2, KC_3, KC_4, ne_eq, not_false_eq_true, not_true_eq_false, true_and, and_true, and_self, implies_true, eq_self, true_imp_iff, false_implies, Int.reduceEq, Int.reduceNe, Int.reduceMod, Int.reduceMul, Int.reduceAdd, Int.reduceSub, Int.reduceLT, Int.reduceLE, Nat.reduceAdd, Nat.reduceLeDiff, Nat.reduceLT, Nat.reduceSub, reduceIte, wds_n, wds_0, wds_1, wds_2, wds_3, or_true, true_or, or_false, false_or, or_self, false_and, and_false, d_pos, d_s1, d_s2, d_s3, d_s4, d_s5, d_s6, d_s7, d_s8, Classical.not_not, z64_14, z6496_l, z64_15, z6561_l, a1, a2, le_sub1, le_T, le_F, lt_T, lt_F, eq_F, w32_T, bz0, bz1, lc_le, lc_ge, lc_lt, lc_gt, lc_eq]
  · rw [if_neg a1]
    by_cases a2 : gr < h 6496 k
    · rw [if_pos a2]
      simp (implicitDefEqProofs := false) (disch := omega) only [sp239, b239_0, b239_1, b239_2, b239_3, b239_4, b239_5, q239_1, q239_2, q239_3, q239_4, q239_5, x_aload0, y_call207, x_freturn, x_gc_115, x_gc_123, x_goto_2, x_goto_5, x_iaload, x_iconst, x_ifCond_eq_4, x_ifCond_ne_4, x_if_icmp_eq_3, x_if_icmp_ge_1, x_iload1, x_iload4, x_laload, x_lload2, klp_0, klp_1, klp_2, klp_3, klp_9, KC_0, KC_1, KC_2, KC_3, KC_4, ne_eq, not_false_eq_true, not_true_eq_false, true_and, and_true, and_self, implies_true, eq_self, true_imp_iff, false_implies, Int.reduceEq, Int.reduceNe, Int.reduceMod, Int.reduceMul, Int.reduceAdd, Int.reduceSub, Int.reduceLT, Int.reduceLE, Nat.reduceAdd, Nat.reduceLeDiff, Nat.reduceLT, Nat.reduceSub, reduceIte, wds_n, wds_0, wds_1, wds_2, wds_3, or_true, true_or, or_false, false_or, or_self, false_and, and_false, d_pos, d_s1, d_s2, d_s3, d_s4, d_s5, d_s6, d_s7, d_s8, Classical.not_not, z64_14, z6496_l, z64_15, z6561_l, a1, a2, le_sub1, le_T, le_F, lt_T, lt_F, eq_F, w32_T, bz0, bz1, lc_le, lc_ge, lc_lt, lc_gt, lc_eq]
    · rw [if_neg a2]
      simp (implicitDefEqProofs := false) (disch := omega) only [sp239, b239_0, b239_1, b239_2, b239_3, b239_4, b239_5, q239_1, q239_2, q239_3, q239_4, q239_5, x_aload0, y_call207, x_freturn, x_gc_115, x_gc_123, x_goto_2, x_goto_5, x_iaload, x_iconst, x_ifCond_eq_4, x_ifCond_ne_4, x_if_icmp_eq_3, x_if_icmp_ge_1, x_iload1, x_iload4, x_laload, x_lload2, klp_0, klp_1, klp_2, klp_3, klp_9, KC_0, KC_1, KC_2, KC_3, KC_4, ne_eq, not_false_eq_true, not_true_eq_false, true_and, and_true, and_self, implies_true, eq_self, true_imp_iff, false_implies, Int.reduceEq, Int.reduceNe, Int.reduceMod, Int.reduceMul, Int.reduceAdd, Int.reduceSub, Int.reduceLT, Int.reduceLE, Nat.reduceAdd, Nat.reduceLeDiff, Nat.reduceLT, Nat.reduceSub, reduceIte, wds_n, wds_0, wds_1, wds_2, wds_3, or_true, true_or, or_false, false_or, or_self, false_and, and_false, d_pos, d_s1, d_s2, d_s3, d_s4, d_s5, d_s6, d_s7, d_s8, Classical.not_not, z64_14, z6496_l, z64_15, z6561_l, a1, a2, le_sub1, le_T, le_F, lt_T, lt_F, eq_F, w32_T, bz0, bz1, lc_le, lc_ge, lc_lt, lc_gt, lc_eq]
theorem v414 {d : Nat} {h : HV} {Q : Int → HV → Prop} {p q : Int} (hp : 0 ≤ p ∧ p < 24) (hq : 0 ≤ q ∧ q < 24) : Sp fz1 (d + 2) 414 [(3, 6603), (0, p), (0, q)] h Q = Q (aheR h p q) h := by
  unfold aheR
  by_cases a1 : h 11552 p = h 11552 q
  · rw [if_pos a1]
    by_cases a2 : h 11552 p = 0 ∧ ¬ d_cmp .l (h 11618 p) (h 11618 q) = 0
    · rw [if_pos a2]
      obtain ⟨a3, a4⟩ := a2
      have a7 : h 11552 q = 0 := by omega
      by_cases a5 : d_cmp .g (h 11618 p) (h 11618 q) < 0
      · rw [if_pos a5]
        simp (implicitDefEqProofs := false) (disch := omega) only [sp414, b414_0, b414_1, b414_2, b414_3, b414_4, b414_5, b414_6, b414_7, q414_1, q414_2, q414_3, q414_4, q414_5, q414_6, q414_7, x_aload0, x_daload, x_dcmp, x_freturn, x_gc_11771, x_gc_11779, x_goto_2, x_goto_7, x_iaload, x_iconst, x_ifCond_eq_5, x_ifCond_ge_4, x_ifCond_ne_5, x_if_icmp_eq_3, x_if_icmp_ge_1, x_if_icmp_ge_6, x_iload1, x_iload2, klp_0, klp_1, klp_2, klp_3, klp_9, KC_0, KC_1, KC_2, KC_3, KC_4, ne_eq, not_false_eq_true, not_true_eq_false, true_and, and_true, and_self, implies_true, eq_self, true_imp_iff, false_implies, Int.reduceEq, Int.reduceNe, Int.reduceMod, Int.reduceMul, Int.reduceAdd, Int.reduceSub, Int.reduceLT, Int.reduceLE, Nat.reduceAdd, Nat.reduceLeDiff, Nat.reduceLT, Nat.reduceSub, reduceIte, wds_n, wds_0, wds_1, wds_2, wds_3, or_true, true_or, or_false, false_or, or_self, false_and, and_false, d_pos, d_s1, d_s2, d_s3, d_s4, d_s5, d_s6, d_s7, d_s8, Classical.not_not, z6603_63, z11552_l, z6603_64, z11618_l, a1, eq_true a7, a4, a5, le_sub1, le_T, le_F, lt_T, lt_F, eq_F, w32_T, bz0, bz1, lc_le, lc_ge, lc_lt, lc_gt, lc_eq]
      · rw [if_neg a5]
        simp (implicitDefEqProofs := false) (disch := omega) only [sp414, b414_0, b414_1, b414_2, b414_3, b414_4, b414_5, b414_6, b414_7, q414_1, q414_2, q414_3, q414_4, q414_5, q414_6, q414_7, x_aload0, x_daload, x_dcmp, x_freturn, x_gc_11771, x_gc_11779, x_goto_2, x_goto_7, x_iaload, x_iconst, x_ifCond_eq_5, x_ifCond_ge_4, x_ifCond_ne_5, x_if_icmp_eq_3, x_if_icmp_ge_1, x_if_icmp_ge_6, x_iload1, x_iload2, klp_0, klp_1, klp_2, klp_3, klp_9, KC_0, KC_1, KC_2, KC_3, KC_4, ne_eq, not_false_eq_true, not_true_eq_false, true_and, and_true, and_self, implies_true, eq_self, true_imp_iff, false_implies, Int.reduceEq, Int.reduceNe, Int.reduceMod, Int.reduceMul, Int.reduceAdd, Int.reduceSub, Int.reduceLT, Int.reduceLE, Nat.reduceAdd, Nat.reduceLeDiff, Nat.reduceLT, Nat.reduceSub, reduceIte, wds_n, wds_0, wds_1, wds_2, wds_3, or_true, true_or, or_false, false_or, or_self, false_and, and_false, d_pos, d_s1, d_s2, d_s3, d_s4, d_s5, d_s6, d_s7, d_s8, Classical.not_not, z6603_63, z11552_l, z6603_64, z11618_l, a1, eq_true a7, a4, a5, le_sub1, le_T, le_F, lt_T, lt_F, eq_F, w32_T, bz0, bz1, lc_le, lc_ge, lc_lt, lc_gt, lc_eq]
    · rw [if_neg a2]
      by_cases a6 : p < q
      · rw [if_pos a6]
        by_cases a3 : h 11552 p = 0
        · have a4 : d_cmp .l (h 11618 p) (h 11618 q) = 0 := by
            by_cases w : d_cmp .l (h 11618 p) (h 11618 q) = 0
            · exact w
            · exact absurd ⟨a3, w⟩ a2
          have a7 : h 11552 q = 0 := by omega
          simp (implicitDefEqProofs := false) (disch := omega) only [sp414, b414_0, b414_1, b414_2, b414_3, b414_4, b414_5, b414_6, b414_7, q414_1, q414_2, q414_3, q414_4, q414_5, q414_6, q414_7, x_aload0, x_daload, x_dcmp, x_freturn, x_gc_11771, x_gc_11779, x_goto_2, x_goto_7, x_iaload, x_iconst, x_ifCond_eq_5, x_ifCond_ge_4, x_ifCond_ne_5, x_if_icmp_eq_3, x_if_icmp_ge_1, x_if_icmp_ge_6, x_iload1, x_iload2, klp_0, klp_1, klp_2, klp_3, klp_9, KC_0, KC_1, KC_2, KC_3, KC_4, ne_eq, not_false_eq_true, not_true_eq_false, true_and, and_true, and_self, implies_true, eq_self, true_imp_iff, false_implies, Int.reduceEq, Int.reduceNe, Int.reduceMod, Int.reduceMul, Int.reduceAdd, Int.reduceSub, Int.reduceLT, Int.reduceLE, Nat.reduceAdd, Nat.reduceLeDiff, Nat.reduceLT, Nat.reduceSub, reduceIte, wds_n, wds_0, wds_1, wds_2, wds_3, or_true, true_or, or_false, false_or, or_self, false_and, and_false, d_pos, d_s1, d_s2, d_s3, d_s4, d_s5, d_s6, d_s7, d_s8, Classical.not_not, z6603_63, z11552_l, z6603_64, z11618_l, a1, eq_true a7, a4, a6, le_sub1, le_T, le_F, lt_T, lt_F, eq_F, w32_T, bz0, bz1, lc_le, lc_ge, lc_lt, lc_gt, lc_eq]
        · simp (implicitDefEqProofs := false) (disch := omega) only [sp414, b414_0, b414_1, b414_2, b414_3, b414_4, b414_5, b414_6, b414_7, q414_1, q414_2, q414_3, q414_4, q414_5, q414_6, q414_7, x_aload0, x_daload, x_dcmp, x_freturn, x_gc_11771, x_gc_11779, x_goto_2, x_goto_7, x_iaload, x_iconst, x_ifCond_eq_5, x_ifCond_ge_4, x_ifCond_ne_5, x_if_icmp_eq_3, x_if_icmp_ge_1, x_if_icmp_ge_6, x_iload1, x_iload2, klp_0, klp_1, klp_2, klp_3, klp_9, KC_0, KC_1, KC_2, KC_3, KC_4, ne_eq, not_false_eq_true, not_true_eq_false, true_and, and_true, and_self, implies_true, eq_self, true_imp_iff, false_implies, Int.reduceEq, Int.reduceNe, Int.reduceMod, Int.reduceMul, Int.reduceAdd, Int.reduceSub, Int.reduceLT, Int.reduceLE, Nat.reduceAdd, Nat.reduceLeDiff, Nat.reduceLT, Nat.reduceSub, reduceIte, wds_n, wds_0, wds_1, wds_2, wds_3, or_true, true_or, or_false, false_or, or_self, false_and, and_false, d_pos, d_s1, d_s2, d_s3, d_s4, d_s5, d_s6, d_s7, d_s8, Classical.not_not, z6603_63, z11552_l, z6603_64, z11618_l, a1, a3, a6, le_sub1, le_T, le_F, lt_T, lt_F, eq_F, w32_T, bz0, bz1, lc_le, lc_ge, lc_lt, lc_gt, lc_eq]
      · rw [if_neg a6]
        by_cases a3 : h 11552 p = 0
        · have a4 : d_cmp .l (h 11618 p) (h 11618 q) = 0 := by
            by_cases w : d_cmp .l (h 11618 p) (h 11618 q) = 0
            · exact w
            · exact absurd ⟨a3, w⟩ a2
          have a7 : h 11552 q = 0 := by omega
          simp (implicitDefEqProofs := false) (disch := omega) only [sp414, b414_0, b414_1, b414_2, b414_3, b414_4, b414_5, b414_6, b414_7, q414_1, q414_2, q414_3, q414_4, q414_5, q414_6, q414_7, x_aload0, x_daload, x_dcmp, x_freturn, x_gc_11771, x_gc_11779, x_goto_2, x_goto_7, x_iaload, x_iconst, x_ifCond_eq_5, x_ifCond_ge_4, x_ifCond_ne_5, x_if_icmp_eq_3, x_if_icmp_ge_1, x_if_icmp_ge_6, x_iload1, x_iload2, klp_0, klp_1, klp_2, klp_3, klp_9, KC_0, KC_1, KC_2, KC_3, KC_4, ne_eq, not_false_eq_true, not_true_eq_false, true_and, and_true, and_self, implies_true, eq_self, true_imp_iff, false_implies, Int.reduceEq, Int.reduceNe, Int.reduceMod, Int.reduceMul, Int.reduceAdd, Int.reduceSub, Int.reduceLT, Int.reduceLE, Nat.reduceAdd, Nat.reduceLeDiff, Nat.reduceLT, Nat.reduceSub, reduceIte, wds_n, wds_0, wds_1, wds_2, wds_3, or_true, true_or, or_false, false_or, or_self, false_and, and_false, d_pos, d_s1, d_s2, d_s3, d_s4, d_s5, d_s6, d_s7, d_s8, Classical.not_not, z6603_63, z11552_l, z6603_64, z11618_l, a1, eq_true a7, a4, a6, le_sub1, le_T, le_F, lt_T, lt_F, eq_F, w32_T, bz0, bz1, lc_le, lc_ge, lc_lt, lc_gt, lc_eq]
        · simp (implicitDefEqProofs := false) (disch := omega) only [sp414, b414_0, b414_1, b414_2, b414_3, b414_4, b414_5, b414_6, b414_7, q414_1, q414_2, q414_3, q414_4, q414_5, q414_6, q414_7, x_aload0, x_daload, x_dcmp, x_freturn, x_gc_11771, x_gc_11779, x_goto_2, x_goto_7, x_iaload, x_iconst, x_ifCond_eq_5, x_ifCond_ge_4, x_ifCond_ne_5, x_if_icmp_eq_3, x_if_icmp_ge_1, x_if_icmp_ge_6, x_iload1, x_iload2, klp_0, klp_1, klp_2, klp_3, klp_9, KC_0, KC_1, KC_2, KC_3, KC_4, ne_eq, not_false_eq_true, not_true_eq_false, true_and, and_true, and_self, implies_true, eq_self, true_imp_iff, false_implies, Int.reduceEq, Int.reduceNe, Int.reduceMod, Int.reduceMul, Int.reduceAdd, Int.reduceSub, Int.reduceLT, Int.reduceLE, Nat.reduceAdd, Nat.reduceLeDiff, Nat.reduceLT, Nat.reduceSub, reduceIte, wds_n, wds_0, wds_1, wds_2, wds_3, or_true, true_or, or_false, false_or, or_self, false_and, and_false, d_pos, d_s1, d_s2, d_s3, d_s4, d_s5, d_s6, d_s7, d_s8, Classical.not_not, z6603_63, z11552_l, z6603_64, z11618_l, a1, a3, a6, le_sub1, le_T, le_F, lt_T, lt_F, eq_F, w32_T, bz0, bz1, lc_le, lc_ge, lc_lt, lc_gt, lc_eq]
  · rw [if_neg a1]
    by_cases a2 : h 11552 p < h 11552 q
    · rw [if_pos a2]
      simp (implicitDefEqProofs := false) (disch := omega) only [sp414, b414_0, b414_1, b414_2, b414_3, b414_4, b414_5, b414_6, b414_7, q414_1, q414_2, q414_3, q414_4, q414_5, q414_6, q414_7, x_aload0, x_daload, x_dcmp, x_freturn, x_gc_11771, x_gc_11779, x_goto_2, x_goto_7, x_iaload, x_iconst, x_ifCond_eq_5, x_ifCond_ge_4, x_ifCond_ne_5, x_if_icmp_eq_3, x_if_icmp_ge_1, x_if_icmp_ge_6, x_iload1, x_iload2, klp_0, klp_1, klp_2, klp_3, klp_9, KC_0, KC_1, KC_2, KC_3, KC_4, ne_eq, not_false_eq_true, not_true_eq_false, true_and, and_true, and_self, implies_true, eq_self, true_imp_iff, false_implies, Int.reduceEq, Int.reduceNe, Int.reduceMod, Int.reduceMul, Int.reduceAdd, Int.reduceSub, Int.reduceLT, Int.reduceLE, Nat.reduceAdd, Nat.reduceLeDiff, Nat.reduceLT, Nat.reduceSub, reduceIte, wds_n, wds_0, wds_1, wds_2, wds_3, or_true, true_or, or_false, false_or, or_self, false_and, and_false, d_pos, d_s1, d_s2, d_s3, d_s4, d_s5, d_s6, d_s7, d_s8, Classical.not_not, z6603_63, z11552_l, z6603_64, z11618_l, a1, a2, le_sub1, le_T, le_F, lt_T, lt_F, eq_F, w32_T, bz0, bz1, lc_le, lc_ge, lc_lt, lc_gt, lc_eq]
    · rw [if_neg a2]
      simp (implicitDefEqProofs := false) (disch := omega) only [sp414, b414_0, b414_1, b414_2, b414_3, b414_4, b414_5, b414_6, b414_7, q414_1, q414_2, q414_3, q414_4, q414_5, q414_6, q414_7, x_aload0, x_daload, x_dcmp, x_freturn, x_gc_11771, x_gc_11779, x_goto_2, x_goto_7, x_iaload, x_iconst, x_ifCond_eq_5, x_ifCond_ge_4, x_ifCond_ne_5, x_if_icmp_eq_3, x_if_icmp_ge_1, x_if_icmp_ge_6, x_iload1, x_iload2, klp_0, klp_1, klp_2, klp_3, klp_9, KC_0, KC_1, KC_2, KC_3, KC_4, ne_eq, not_false_eq_true, not_true_eq_false, true_and, and_true, and_self, implies_true, eq_self, true_imp_iff, false_implies, Int.reduceEq, Int.reduceNe, Int.reduceMod, Int.reduceMul, Int.reduceAdd, Int.reduceSub, Int.reduceLT, Int.reduceLE, Nat.reduceAdd, Nat.reduceLeDiff, Nat.reduceLT, Nat.reduceSub, reduceIte, wds_n, wds_0, wds_1, wds_2, wds_3, or_true, true_or, or_false, false_or, or_self, false_and, and_false, d_pos, d_s1, d_s2, d_s3, d_s4, d_s5, d_s6, d_s7, d_s8, Classical.not_not, z6603_63, z11552_l, z6603_64, z11618_l, a1, a2, le_sub1, le_T, le_F, lt_T, lt_F, eq_F, w32_T, bz0, bz1, lc_le, lc_ge, lc_lt, lc_gt, lc_eq]
def plcH (h : HV) (n k p gr re : Int) : HV := hset (hset (hset (hset (sh3 h n k) 6432 k p) 6496 k gr) 6561 k re) 64 16 (n + 1)
theorem lp238 {d : Nat} {h : HV} {Q : Int → HV → Prop} {p x re gr n : Int} (hn : 0 ≤ n ∧ n < 24) (e16 : h 64 16 = n) (hL : ∀ k, 0 ≤ k → k < n → gr = 0 → h 6496 k = 0 → L64 re ∧ L64 (h 6561 k)) : ∀ k : Nat, (k : Int) ≤ n → G fz1 (d + 3) 238 6 [(3, 64), (0, p), (0, x), (1, re), (9, 0), (0, gr), (0, (k : Int))] [] (sh3 h n k) Q = Q 0 (plcH h n (psF (aheC h gr re) k) p gr re)
  | 0, hk => by
    rw [show ((0 : Nat) : Int) = 0 from rfl]
    have e6 : sh3 h n 0 64 = h 64 := sh3_ne (by decide)
    rw [q238_6]
    unfold psF plcH
    simp (implicitDefEqProofs := false) (disch := omega) only [b238_6, b238_7, q238_7, x_aload0, y_call239, x_dup0, x_dup3, x_gc_107, x_gc_115, x_gc_123, x_gf_128, x_goto_6, x_iadd, x_iaload, x_iastore, x_iconst, x_ifCond_eq_7, x_ifCond_le_7, x_iinc6, x_iload1, x_iload5, x_iload6, x_isub, x_laload, x_lastore, x_lload3, x_pf_128, x_return, klp_0, klp_1, klp_2, klp_3, klp_9, KC_0, KC_1, KC_2, KC_3, KC_4, ne_eq, not_false_eq_true, not_true_eq_false, true_and, and_true, and_self, implies_true, eq_self, true_imp_iff, false_implies, Int.reduceEq, Int.reduceNe, Int.reduceMod, Int.reduceMul, Int.reduceAdd, Int.reduceSub, Int.reduceLT, Int.reduceLE, Nat.reduceAdd, Nat.reduceLeDiff, Nat.reduceLT, Nat.reduceSub, reduceIte, wds_n, wds_0, wds_1, wds_2, wds_3, or_true, true_or, or_false, false_or, or_self, false_and, and_false, d_pos, d_s1, d_s2, d_s3, d_s4, d_s5, d_s6, d_s7, d_s8, Classical.not_not, z64_13, z6432_l, z64_14, z6496_l, z64_15, z6561_l, z64_4, hs_ne, hcell, hcel1, e6, e16, le_sub1, le_T, le_F, lt_T, lt_F, eq_F, w32_T, bz0, bz1, lc_le, lc_ge, lc_lt, lc_gt, lc_eq]
  | k + 1, hk => by
    have ih := lp238 (d := d) (h := h) (Q := Q) (p := p) (x := x) (re := re) (gr := gr) hn e16 hL k (by omega)
    have ek : ((k + 1 : Nat) : Int) = (k : Int) + 1 := by omega
    rw [ek]
    have e6 : sh3 h n ((k : Int) + 1) 64 = h 64 := sh3_ne (by decide)
    have f1 : sh3 h n ((k : Int) + 1) 6496 k = h 6496 k := sh3_lo (by omega)
    have f2 : sh3 h n ((k : Int) + 1) 6561 k = h 6561 k := sh3_lo (by omega)
    have f3 : sh3 h n ((k : Int) + 1) 6432 k = h 6432 k := sh3_lo (by omega)
    have eA : aheC (sh3 h n ((k : Int) + 1)) gr re k = aheC h gr re k := by unfold aheC; rw [f1, f2]
    have W : ∀ Q : Int → HV → Prop, Sp fz1 (d + 2) 239 [(3, 64), (0, gr), (1, re), (0, (k : Int))] (sh3 h n ((k : Int) + 1)) Q = Q (aheC h gr re k) (sh3 h n ((k : Int) + 1)) := fun Q => by
      rw [s239 (d := d) (by omega) (by rw [f1, f2]; exact hL _ (by omega) (by omega)), eA]
    have k1 : (k : Int) + 1 - 1 = k := by omega
    have k2 : (k : Int) + 1 + -1 = k := by omega
    rw [q238_6]
    unfold psF
    by_cases a1 : aheC h gr re k = 1
    · rw [if_pos a1]
      have stp := sh3_s (h := h) (n := n) (k := (k : Int) + 1) (by omega)
      rw [k1] at stp
      rw [← ih, ← stp]
      simp (implicitDefEqProofs := false) (disch := omega) only [b238_6, b238_7, q238_7, x_aload0, y_call239, x_dup0, x_dup3, x_gc_107, x_gc_115, x_gc_123, x_gf_128, x_goto_6, x_iadd, x_iaload, x_iastore, x_iconst, x_ifCond_eq_7, x_ifCond_le_7, x_iinc6, x_iload1, x_iload5, x_iload6, x_isub, x_laload, x_lastore, x_lload3, x_pf_128, x_return, klp_0, klp_1, klp_2, klp_3, klp_9, KC_0, KC_1, KC_2, KC_3, KC_4, ne_eq, not_false_eq_true, not_true_eq_false, true_and, and_true, and_self, implies_true, eq_self, true_imp_iff, false_implies, Int.reduceEq, Int.reduceNe, Int.reduceMod, Int.reduceMul, Int.reduceAdd, Int.reduceSub, Int.reduceLT, Int.reduceLE, Nat.reduceAdd, Nat.reduceLeDiff, Nat.reduceLT, Nat.reduceSub, reduceIte, wds_n, wds_0, wds_1, wds_2, wds_3, or_true, true_or, or_false, false_or, or_self, false_and, and_false, d_pos, d_s1, d_s2, d_s3, d_s4, d_s5, d_s6, d_s7, d_s8, Classical.not_not, z64_13, z6432_l, z64_14, z6496_l, z64_15, z6561_l, z64_4, hs_ne, hcell, hcel1, e6, W, a1, le_sub1, le_T, le_F, lt_T, lt_F, eq_F, w32_T, bz0, bz1, lc_le, lc_ge, lc_lt, lc_gt, lc_eq, k1, k2, f1, f2, f3]
    · rw [if_neg a1]
      unfold plcH
      have a2 := ahe_01.resolve_right a1
      simp (implicitDefEqProofs := false) (disch := omega) only [b238_6, b238_7, q238_7, x_aload0, y_call239, x_dup0, x_dup3, x_gc_107, x_gc_115, x_gc_123, x_gf_128, x_goto_6, x_iadd, x_iaload, x_iastore, x_iconst, x_ifCond_eq_7, x_ifCond_le_7, x_iinc6, x_iload1, x_iload5, x_iload6, x_isub, x_laload, x_lastore, x_lload3, x_pf_128, x_return, klp_0, klp_1, klp_2, klp_3, klp_9, KC_0, KC_1, KC_2, KC_3, KC_4, ne_eq, not_false_eq_true, not_true_eq_false, true_and, and_true, and_self, implies_true, eq_self, true_imp_iff, false_implies, Int.reduceEq, Int.reduceNe, Int.reduceMod, Int.reduceMul, Int.reduceAdd, Int.reduceSub, Int.reduceLT, Int.reduceLE, Nat.reduceAdd, Nat.reduceLeDiff, Nat.reduceLT, Nat.reduceSub, reduceIte, wds_n, wds_0, wds_1, wds_2, wds_3, or_true, true_or, or_false, false_or, or_self, false_and, and_false, d_pos, d_s1, d_s2, d_s3, d_s4, d_s5, d_s6, d_s7, d_s8, Classical.not_not, z64_13, z6432_l, z64_14, z6496_l, z64_15, z6561_l, z64_4, hs_ne, hcell, hcel1, e6, W, a2, le_sub1, le_T, le_F, lt_T, lt_F, eq_F, w32_T, bz0, bz1, lc_le, lc_ge, lc_lt, lc_gt, lc_eq, k1, e16]
