/-! THE PURE SIDE, 10: tokens: printed by wip/tools/genscan.py -/
abbrev isL (tp : Int → Int) (t i : Int) : Prop := i < t ∧ 97 ≤ tp i ∧ tp i ≤ 122
abbrev isD (tp : Int → Int) (t i : Int) : Prop := i < t ∧ 48 ≤ tp i ∧ tp i ≤ 57
def wsF (tp : Int → Int) (t : Int) : Nat → Int → Int
  | 0, p => p
  | n + 1, p => if p < t ∧ (tp p = 32 ∨ tp p = 10) then wsF tp t n (p + 1) else p
def wdF (tp : Int → Int) (t : Int) : Nat → Int → Int
  | 0, p => p
  | n + 1, p => if isL tp t p ∨ isD tp t p then wdF tp t n (p + 1) else p
def dgF (tp : Int → Int) (t : Int) : Nat → Int → Int
  | 0, p => p
  | n + 1, p => if isD tp t p then dgF tp t n (p + 1) else p
/-- n signs from s on, packed behind v -/
def pkF (tp : Int → Int) : Nat → Int → Int → Int
  | 0, _, v => v
  | n + 1, s, v => pkF tp n (s + 1) (l_or (l_shl v 8) (tp s))
def dvF (tp : Int → Int) : Nat → Int → Int → Int
  | 0, _, v => v
  | n + 1, s, v => dvF tp n (s + 1) (v * 10 + (tp s - 48))
theorem wsF_ge (tp : Int → Int) (t : Int) : ∀ (n : Nat) (p : Int), p ≤ wsF tp t n p
  | 0, p => Int.le_refl p
  | n + 1, p => by
    rw [wsF]
    split
    · have := wsF_ge tp t n (p + 1); omega
    · exact Int.le_refl p
theorem wsF_le (tp : Int → Int) (t : Int) : ∀ (n : Nat) (p : Int), p ≤ t → wsF tp t n p ≤ t
  | 0, p, h => h
  | n + 1, p, h => by
    rw [wsF]
    split
    · exact wsF_le tp t n (p + 1) (by omega)
    · exact h
theorem wdF_ge (tp : Int → Int) (t : Int) : ∀ (n : Nat) (p : Int), p ≤ wdF tp t n p
  | 0, p => Int.le_refl p
  | n + 1, p => by
    rw [wdF]
    split
    · have := wdF_ge tp t n (p + 1); omega
    · exact Int.le_refl p
theorem wdF_le (tp : Int → Int) (t : Int) : ∀ (n : Nat) (p : Int), p ≤ t → wdF tp t n p ≤ t
  | 0, p, h => h
  | n + 1, p, h => by
    rw [wdF]
    split
    · exact wdF_le tp t n (p + 1) (by omega)
    · exact h
theorem dgF_ge (tp : Int → Int) (t : Int) : ∀ (n : Nat) (p : Int), p ≤ dgF tp t n p
  | 0, p => Int.le_refl p
  | n + 1, p => by
    rw [dgF]
    split
    · have := dgF_ge tp t n (p + 1); omega
    · exact Int.le_refl p
theorem dgF_le (tp : Int → Int) (t : Int) : ∀ (n : Nat) (p : Int), p ≤ t → dgF tp t n p ≤ t
  | 0, p, h => h
  | n + 1, p, h => by
    rw [dgF]
    split
    · exact dgF_le tp t n (p + 1) (by omega)
    · exact h
/-- all that dgF passes are digits -/
theorem dgF_all (tp : Int → Int) (t : Int) : ∀ (n : Nat) (p i : Int), p ≤ i → i < dgF tp t n p → isD tp t i
  | 0, p, i, h1, h2 => by rw [dgF] at h2; omega
  | n + 1, p, i, h1, h2 => by
    rw [dgF] at h2
    split at h2
    · rename_i hc
      by_cases he : i = p
      · rw [he]; exact hc
      · exact dgF_all tp t n (p + 1) i (by omega) h2
    · omega
theorem wdF_all (tp : Int → Int) (t : Int) : ∀ (n : Nat) (p i : Int), p ≤ i → i < wdF tp t n p → isL tp t i ∨ isD tp t i
  | 0, p, i, h1, h2 => by rw [wdF] at h2; omega
  | n + 1, p, i, h1, h2 => by
    rw [wdF] at h2
    split at h2
    · rename_i hc
      by_cases he : i = p
      · rw [he]; exact hc
      · exact wdF_all tp t n (p + 1) i (by omega) h2
    · omega
theorem wsF_end (tp : Int → Int) (t : Int) : ∀ (n : Nat) (p : Int), t ≤ p + n → ¬ (wsF tp t n p < t ∧ (tp (wsF tp t n p) = 32 ∨ tp (wsF tp t n p) = 10))
  | 0, p, h => by rw [wsF]; omega
  | n + 1, p, h => by
    rw [wsF]
    split
    · exact wsF_end tp t n (p + 1) (by omega)
    · assumption
theorem hset_hset (h : HV) (o i x y : Int) : hset (hset h o i x) o i y = hset h o i y := by
  funext a b
  simp only [hset_v]
  by_cases hc : a = o ∧ b = i
  · rw [if_pos hc, if_pos hc]
  · rw [if_neg hc, if_neg hc, if_neg hc]
theorem hset_swap (h : HV) {o i x p j y : Int} (hn : ¬ (o = p ∧ i = j)) : hset (hset h o i x) p j y = hset (hset h p j y) o i x := by
  funext a b
  simp only [hset_v]
  by_cases h1 : a = p ∧ b = j
  · rw [if_pos h1, if_neg (by omega), if_pos h1]
  · rw [if_neg h1, if_neg h1]
theorem hset_self {h : HV} {o i x : Int} (hx : h o i = x) : hset h o i x = h := by
  funext a b
  rw [hset_v]
  by_cases h1 : a = o ∧ b = i
  · rw [if_pos h1, h1.1, h1.2, hx]
  · rw [if_neg h1]
theorem hset_4 (h : HV) {o a b x y x' y' : Int} (hn : a ≠ b) : hset (hset (hset (hset h o a x) o b y) o a x') o b y' = hset (hset h o a x') o b y' := by
  rw [hset_swap (hset h o a x) (by omega), hset_hset, hset_hset]
/-! signs of the tape, class -/
theorem s29 {d : Nat} {i t : Int} {h : HV} {Q : Int → HV → Prop} (ht : h 129 1 = t) (htm : t ≤ 2400) (h0 : 0 ≤ i) (hA : isL (h 227) t i → Q 1 h) (hB : ¬ isL (h 227) t i → Q 0 h) : Sp fz1 d 29 [(3, 129), (0, i)] h Q := by
  refine G_in ?_
  simp only [en29, b29_0, b29_1, b29_2, x_aload0, x_baload, x_freturn, x_gc_1027, x_gf_1032, x_goto_2, x_iconst, x_if_icmp_ge_1, x_if_icmp_gt_1, x_if_icmp_lt_1, x_iload1, klp_0, klp_1, klp_2, klp_3, klp_9, KC_0, KC_1, KC_2, KC_3, KC_4, ne_eq, not_false_eq_true, not_true_eq_false, true_and, and_true, and_self, implies_true, eq_self, true_imp_iff, false_implies, Int.reduceEq, Int.reduceNe, Int.reduceMod, Int.reduceMul, Int.reduceAdd, Int.reduceSub, Int.reduceNeg, Int.reduceLT, Int.reduceLE, Nat.reduceAdd, Nat.reduceLeDiff, Nat.reduceLT, Nat.reduceSub, reduceIte, wds_n, wds_0, wds_1, wds_2, wds_3, or_true, true_or, or_false, false_or, or_self, ht, z129_0, z227_l]
  repeat' (first
    | (refine And.intro ?_ ?_)
    | (intro _; try (exfalso; omega))
    | (refine G_in ?_; simp only [en29, b29_0, b29_1, b29_2, x_aload0, x_baload, x_freturn, x_gc_1027, x_gf_1032, x_goto_2, x_iconst, x_if_icmp_ge_1, x_if_icmp_gt_1, x_if_icmp_lt_1, x_iload1, klp_0, klp_1, klp_2, klp_3, klp_9, KC_0, KC_1, KC_2, KC_3, KC_4, ne_eq, not_false_eq_true, not_true_eq_false, true_and, and_true, and_self, implies_true, eq_self, true_imp_iff, false_implies, Int.reduceEq, Int.reduceNe, Int.reduceMod, Int.reduceMul, Int.reduceAdd, Int.reduceSub, Int.reduceNeg, Int.reduceLT, Int.reduceLE, Nat.reduceAdd, Nat.reduceLeDiff, Nat.reduceLT, Nat.reduceSub, reduceIte, wds_n, wds_0, wds_1, wds_2, wds_3, or_true, true_or, or_false, false_or, or_self, ht, z129_0, z227_l])
    | omega
    | (exact hA (by omega))
    | (exact hB (by omega)))
theorem s31 {d : Nat} {i t : Int} {h : HV} {Q : Int → HV → Prop} (ht : h 129 1 = t) (htm : t ≤ 2400) (h0 : 0 ≤ i) (hA : isD (h 227) t i → Q 1 h) (hB : ¬ isD (h 227) t i → Q 0 h) : Sp fz1 d 31 [(3, 129), (0, i)] h Q := by
  refine G_in ?_
  simp only [en31, b31_0, b31_1, b31_2, x_aload0, x_baload, x_freturn, x_gc_1027, x_gf_1032, x_goto_2, x_iconst, x_if_icmp_ge_1, x_if_icmp_gt_1, x_if_icmp_lt_1, x_iload1, klp_0, klp_1, klp_2, klp_3, klp_9, KC_0, KC_1, KC_2, KC_3, KC_4, ne_eq, not_false_eq_true, not_true_eq_false, true_and, and_true, and_self, implies_true, eq_self, true_imp_iff, false_implies, Int.reduceEq, Int.reduceNe, Int.reduceMod, Int.reduceMul, Int.reduceAdd, Int.reduceSub, Int.reduceNeg, Int.reduceLT, Int.reduceLE, Nat.reduceAdd, Nat.reduceLeDiff, Nat.reduceLT, Nat.reduceSub, reduceIte, wds_n, wds_0, wds_1, wds_2, wds_3, or_true, true_or, or_false, false_or, or_self, ht, z129_0, z227_l]
  repeat' (first
    | (refine And.intro ?_ ?_)
    | (intro _; try (exfalso; omega))
    | (refine G_in ?_; simp only [en31, b31_0, b31_1, b31_2, x_aload0, x_baload, x_freturn, x_gc_1027, x_gf_1032, x_goto_2, x_iconst, x_if_icmp_ge_1, x_if_icmp_gt_1, x_if_icmp_lt_1, x_iload1, klp_0, klp_1, klp_2, klp_3, klp_9, KC_0, KC_1, KC_2, KC_3, KC_4, ne_eq, not_false_eq_true, not_true_eq_false, true_and, and_true, and_self, implies_true, eq_self, true_imp_iff, false_implies, Int.reduceEq, Int.reduceNe, Int.reduceMod, Int.reduceMul, Int.reduceAdd, Int.reduceSub, Int.reduceNeg, Int.reduceLT, Int.reduceLE, Nat.reduceAdd, Nat.reduceLeDiff, Nat.reduceLT, Nat.reduceSub, reduceIte, wds_n, wds_0, wds_1, wds_2, wds_3, or_true, true_or, or_false, false_or, or_self, ht, z129_0, z227_l])
    | omega
    | (exact hA (by omega))
    | (exact hB (by omega)))
theorem lp28 {d : Nat} {a t : Int} {h : HV} {Q : Int → HV → Prop} (ht : h 129 1 = t) (htm : t ≤ 2400) : ∀ (n : Nat) (p : Int), 0 ≤ p → t ≤ p + n → G fz1 d 28 5 [(3, 129), (0, a)] [] (hset h 129 2 (wsF (h 227) t n p)) Q → G fz1 d 28 3 [(3, 129), (0, a)] [] (hset h 129 2 p) Q
  | 0, p, h0, hn, hQ => by
    refine G_in ?_
    simp only [en28, b28_3, x_aload0, x_baload, x_gc_1027, x_gf_1032, x_gf_1040, x_goto_4, x_iconst, x_if_icmp_eq_4, x_if_icmp_ge_5, x_if_icmp_ne_5, klp_0, klp_1, klp_2, klp_3, klp_9, KC_0, KC_1, KC_2, KC_3, KC_4, ne_eq, not_false_eq_true, not_true_eq_false, true_and, and_true, and_self, implies_true, eq_self, true_imp_iff, false_implies, Int.reduceEq, Int.reduceNe, Int.reduceMod, Int.reduceMul, Int.reduceAdd, Int.reduceSub, Int.reduceNeg, Int.reduceLT, Int.reduceLE, Nat.reduceAdd, Nat.reduceLeDiff, Nat.reduceLT, Nat.reduceSub, reduceIte, wds_n, wds_0, wds_1, wds_2, wds_3, or_true, true_or, or_false, false_or, or_self, hs_eq, ht]
    exact ⟨fun _ => hQ, fun q => (q (by omega)).elim⟩
  | n + 1, p, h0, hn, hQ => by
    rw [wsF] at hQ
    by_cases hc : p < t ∧ (h 227 p = 32 ∨ h 227 p = 10)
    · rw [if_pos hc] at hQ
      have h1 : G fz1 d 28 4 [(3, 129), (0, a)] [] (hset h 129 2 p) Q := by
        refine G_in ?_
        simp only [en28, b28_4, x_aload0, x_dup0, x_dup3, x_gf_1040, x_goto_3, x_iadd, x_iconst, x_pf_1040, klp_0, klp_1, klp_2, klp_3, klp_9, KC_0, KC_1, KC_2, KC_3, KC_4, ne_eq, not_false_eq_true, not_true_eq_false, true_and, and_true, and_self, implies_true, eq_self, true_imp_iff, false_implies, Int.reduceEq, Int.reduceNe, Int.reduceMod, Int.reduceMul, Int.reduceAdd, Int.reduceSub, Int.reduceNeg, Int.reduceLT, Int.reduceLE, Nat.reduceAdd, Nat.reduceLeDiff, Nat.reduceLT, Nat.reduceSub, reduceIte, wds_n, wds_0, wds_1, wds_2, wds_3, or_true, true_or, or_false, false_or, or_self, hs_eq, hset_hset]
        rw [w32_id (by omega)]
        exact lp28 ht htm n (p + 1) (by omega) (by omega) hQ
      refine G_in ?_
      simp only [en28, b28_3, x_aload0, x_baload, x_gc_1027, x_gf_1032, x_gf_1040, x_goto_4, x_iconst, x_if_icmp_eq_4, x_if_icmp_ge_5, x_if_icmp_ne_5, klp_0, klp_1, klp_2, klp_3, klp_9, KC_0, KC_1, KC_2, KC_3, KC_4, ne_eq, not_false_eq_true, not_true_eq_false, true_and, and_true, and_self, implies_true, eq_self, true_imp_iff, false_implies, Int.reduceEq, Int.reduceNe, Int.reduceMod, Int.reduceMul, Int.reduceAdd, Int.reduceSub, Int.reduceNeg, Int.reduceLT, Int.reduceLE, Nat.reduceAdd, Nat.reduceLeDiff, Nat.reduceLT, Nat.reduceSub, reduceIte, wds_n, wds_0, wds_1, wds_2, wds_3, or_true, true_or, or_false, false_or, or_self, hs_eq, hs_ne, ht, z129_0, z227_l]
      exact ⟨fun q => by omega, fun _ => ⟨⟨h0, by omega⟩, fun _ => h1, fun q => ⟨⟨h0, by omega⟩, fun q2 => by omega, fun _ => h1⟩⟩⟩
    · rw [if_neg hc] at hQ
      refine G_in ?_
      simp only [en28, b28_3, x_aload0, x_baload, x_gc_1027, x_gf_1032, x_gf_1040, x_goto_4, x_iconst, x_if_icmp_eq_4, x_if_icmp_ge_5, x_if_icmp_ne_5, klp_0, klp_1, klp_2, klp_3, klp_9, KC_0, KC_1, KC_2, KC_3, KC_4, ne_eq, not_false_eq_true, not_true_eq_false, true_and, and_true, and_self, implies_true, eq_self, true_imp_iff, false_implies, Int.reduceEq, Int.reduceNe, Int.reduceMod, Int.reduceMul, Int.reduceAdd, Int.reduceSub, Int.reduceNeg, Int.reduceLT, Int.reduceLE, Nat.reduceAdd, Nat.reduceLeDiff, Nat.reduceLT, Nat.reduceSub, reduceIte, wds_n, wds_0, wds_1, wds_2, wds_3, or_true, true_or, or_false, false_or, or_self, hs_eq, hs_ne, ht, z129_0, z227_l]
      exact ⟨fun _ => hQ, fun q => ⟨⟨h0, by omega⟩, fun q2 => by omega, fun q2 => ⟨⟨h0, by omega⟩, fun _ => hQ, fun q3 => by omega⟩⟩⟩
/-- packed while there are letters, digits -/
def pkW (tp : Int → Int) (t : Int) : Nat → Int → Int → Int
  | 0, _, v => v
  | n + 1, p, v => if isL tp t p ∨ isD tp t p then pkW tp t n (p + 1) (l_or (l_shl v 8) (tp p)) else v
theorem pkW_eq (tp : Int → Int) (t : Int) : ∀ (n : Nat) (p v : Int), pkW tp t n p v = pkF tp (wdF tp t n p - p).toNat p v
  | 0, p, v => by rw [pkW, wdF, show (p - p).toNat = 0 by omega, pkF]
  | n + 1, p, v => by
    rw [pkW, wdF]
    split
    · have := wdF_ge tp t n (p + 1)
      rw [show (wdF tp t n (p + 1) - p).toNat = (wdF tp t n (p + 1) - (p + 1)).toNat + 1 by omega, pkF, pkW_eq tp t n]
    · rw [show (p - p).toNat = 0 by omega, pkF]
theorem lp30 {d : Nat} {t : Int} {h : HV} {Q : Int → HV → Prop} (hd : 0 < d) (ht : h 129 1 = t) (htm : t ≤ 2400) : ∀ (n : Nat) (p w : Int), 0 ≤ p → t ≤ p + n → G fz1 d 30 3 [(3, 129)] [] (hset (hset h 129 6 (pkW (h 227) t n p w)) 129 2 (wdF (h 227) t n p)) Q → G fz1 d 30 1 [(3, 129)] [] (hset (hset h 129 6 w) 129 2 p) Q
  | 0, p, w, h0, hn, hQ => by
    refine G_in ?_
    simp only [en30, b30_1, x_aload0, y_call29, y_call31, x_gf_1032, x_gf_1040, x_goto_2, x_ifCond_eq_3, x_ifCond_ne_2, x_if_icmp_ge_3, klp_0, klp_1, klp_2, klp_3, klp_9, KC_0, KC_1, KC_2, KC_3, KC_4, ne_eq, not_false_eq_true, not_true_eq_false, true_and, and_true, and_self, implies_true, eq_self, true_imp_iff, false_implies, Int.reduceEq, Int.reduceNe, Int.reduceMod, Int.reduceMul, Int.reduceAdd, Int.reduceSub, Int.reduceNeg, Int.reduceLT, Int.reduceLE, Nat.reduceAdd, Nat.reduceLeDiff, Nat.reduceLT, Nat.reduceSub, reduceIte, wds_n, wds_0, wds_1, wds_2, wds_3, or_true, true_or, or_false, false_or, or_self, hs_eq, ht]
    exact ⟨fun _ => hQ, fun q => (q (by omega)).elim⟩
  | n + 1, p, w, h0, hn, hQ => by
    rw [wdF, pkW] at hQ
    have e1 : (hset (hset h 129 6 w) 129 2 p) 227 = h 227 := by rw [hs_ne (by decide), hs_ne (by decide)]
    have e2 : (hset (hset h 129 6 w) 129 2 p) 129 1 = t := by simp only [hs_eq, ne_eq, not_false_eq_true, not_true_eq_false, true_and, and_true, and_self, implies_true, eq_self, true_imp_iff, false_implies, Int.reduceEq, Int.reduceNe, Int.reduceMod, Int.reduceMul, Int.reduceAdd, Int.reduceSub, Int.reduceNeg, Int.reduceLT, Int.reduceLE, Nat.reduceAdd, Nat.reduceLeDiff, Nat.reduceLT, Nat.reduceSub, reduceIte, wds_n, wds_0, wds_1, wds_2, wds_3, or_true, true_or, or_false, false_or, or_self, ht]
    by_cases hc : isL (h 227) t p ∨ isD (h 227) t p
    · rw [if_pos hc, if_pos hc] at hQ
      have h1 : G fz1 d 30 2 [(3, 129)] [] (hset (hset h 129 6 w) 129 2 p) Q := by
        refine G_in ?_
        simp only [en30, b30_2, x_aload0, x_baload, x_dup0, x_dup3, x_gc_1027, x_gf_1040, x_gf_1073, x_goto_1, x_i2l, x_iadd, x_iconst, x_lor, x_lshl, x_pf_1040, x_pf_1073, klp_0, klp_1, klp_2, klp_3, klp_9, KC_0, KC_1, KC_2, KC_3, KC_4, ne_eq, not_false_eq_true, not_true_eq_false, true_and, and_true, and_self, implies_true, eq_self, true_imp_iff, false_implies, Int.reduceEq, Int.reduceNe, Int.reduceMod, Int.reduceMul, Int.reduceAdd, Int.reduceSub, Int.reduceNeg, Int.reduceLT, Int.reduceLE, Nat.reduceAdd, Nat.reduceLeDiff, Nat.reduceLT, Nat.reduceSub, reduceIte, wds_n, wds_0, wds_1, wds_2, wds_3, or_true, true_or, or_false, false_or, or_self, hs_eq, hs_ne, ht, z129_0, z227_l]
        refine ⟨⟨h0, by omega⟩, ?_⟩
        rw [w32_id (by omega), hset_4 h (by decide)]
        exact lp30 hd ht htm n (p + 1) _ (by omega) (by omega) hQ
      refine G_in ?_
      simp only [en30, b30_1, x_aload0, y_call29, y_call31, x_gf_1032, x_gf_1040, x_goto_2, x_ifCond_eq_3, x_ifCond_ne_2, x_if_icmp_ge_3, klp_0, klp_1, klp_2, klp_3, klp_9, KC_0, KC_1, KC_2, KC_3, KC_4, ne_eq, not_false_eq_true, not_true_eq_false, true_and, and_true, and_self, implies_true, eq_self, true_imp_iff, false_implies, Int.reduceEq, Int.reduceNe, Int.reduceMod, Int.reduceMul, Int.reduceAdd, Int.reduceSub, Int.reduceNeg, Int.reduceLT, Int.reduceLE, Nat.reduceAdd, Nat.reduceLeDiff, Nat.reduceLT, Nat.reduceSub, reduceIte, wds_n, wds_0, wds_1, wds_2, wds_3, or_true, true_or, or_false, false_or, or_self, hs_eq, hs_ne, ht]
      refine ⟨fun q => by omega, fun _ => ⟨hd, s29 e2 htm h0 (fun _ => ?_) (fun q1 => ?_)⟩⟩
      · simp only [en30, b30_1, x_aload0, y_call29, y_call31, x_gf_1032, x_gf_1040, x_goto_2, x_ifCond_eq_3, x_ifCond_ne_2, x_if_icmp_ge_3, klp_0, klp_1, klp_2, klp_3, klp_9, KC_0, KC_1, KC_2, KC_3, KC_4, ne_eq, not_false_eq_true, not_true_eq_false, true_and, and_true, and_self, implies_true, eq_self, true_imp_iff, false_implies, Int.reduceEq, Int.reduceNe, Int.reduceMod, Int.reduceMul, Int.reduceAdd, Int.reduceSub, Int.reduceNeg, Int.reduceLT, Int.reduceLE, Nat.reduceAdd, Nat.reduceLeDiff, Nat.reduceLT, Nat.reduceSub, reduceIte, wds_n, wds_0, wds_1, wds_2, wds_3, or_true, true_or, or_false, false_or, or_self]
        exact h1
      · simp only [en30, b30_1, x_aload0, y_call29, y_call31, x_gf_1032, x_gf_1040, x_goto_2, x_ifCond_eq_3, x_ifCond_ne_2, x_if_icmp_ge_3, klp_0, klp_1, klp_2, klp_3, klp_9, KC_0, KC_1, KC_2, KC_3, KC_4, ne_eq, not_false_eq_true, not_true_eq_false, true_and, and_true, and_self, implies_true, eq_self, true_imp_iff, false_implies, Int.reduceEq, Int.reduceNe, Int.reduceMod, Int.reduceMul, Int.reduceAdd, Int.reduceSub, Int.reduceNeg, Int.reduceLT, Int.reduceLE, Nat.reduceAdd, Nat.reduceLeDiff, Nat.reduceLT, Nat.reduceSub, reduceIte, wds_n, wds_0, wds_1, wds_2, wds_3, or_true, true_or, or_false, false_or, or_self, hs_eq, hs_ne, ht]
        refine ⟨hd, s31 e2 htm h0 (fun _ => ?_) (fun q2 => ?_)⟩
        · simp only [en30, b30_1, x_aload0, y_call29, y_call31, x_gf_1032, x_gf_1040, x_goto_2, x_ifCond_eq_3, x_ifCond_ne_2, x_if_icmp_ge_3, klp_0, klp_1, klp_2, klp_3, klp_9, KC_0, KC_1, KC_2, KC_3, KC_4, ne_eq, not_false_eq_true, not_true_eq_false, true_and, and_true, and_self, implies_true, eq_self, true_imp_iff, false_implies, Int.reduceEq, Int.reduceNe, Int.reduceMod, Int.reduceMul, Int.reduceAdd, Int.reduceSub, Int.reduceNeg, Int.reduceLT, Int.reduceLE, Nat.reduceAdd, Nat.reduceLeDiff, Nat.reduceLT, Nat.reduceSub, reduceIte, wds_n, wds_0, wds_1, wds_2, wds_3, or_true, true_or, or_false, false_or, or_self]
          exact h1
        · rw [e1] at q1 q2
          exact (hc.elim q1 q2).elim
    · rw [if_neg hc, if_neg hc] at hQ
      refine G_in ?_
      simp only [en30, b30_1, x_aload0, y_call29, y_call31, x_gf_1032, x_gf_1040, x_goto_2, x_ifCond_eq_3, x_ifCond_ne_2, x_if_icmp_ge_3, klp_0, klp_1, klp_2, klp_3, klp_9, KC_0, KC_1, KC_2, KC_3, KC_4, ne_eq, not_false_eq_true, not_true_eq_false, true_and, and_true, and_self, implies_true, eq_self, true_imp_iff, false_implies, Int.reduceEq, Int.reduceNe, Int.reduceMod, Int.reduceMul, Int.reduceAdd, Int.reduceSub, Int.reduceNeg, Int.reduceLT, Int.reduceLE, Nat.reduceAdd, Nat.reduceLeDiff, Nat.reduceLT, Nat.reduceSub, reduceIte, wds_n, wds_0, wds_1, wds_2, wds_3, or_true, true_or, or_false, false_or, or_self, hs_eq, hs_ne, ht]
      refine ⟨fun _ => hQ, fun _ => ⟨hd, s29 e2 htm h0 (fun q1 => ?_) (fun q1 => ?_)⟩⟩
      · rw [e1] at q1
        exact (hc (Or.inl q1)).elim
      · simp only [en30, b30_1, x_aload0, y_call29, y_call31, x_gf_1032, x_gf_1040, x_goto_2, x_ifCond_eq_3, x_ifCond_ne_2, x_if_icmp_ge_3, klp_0, klp_1, klp_2, klp_3, klp_9, KC_0, KC_1, KC_2, KC_3, KC_4, ne_eq, not_false_eq_true, not_true_eq_false, true_and, and_true, and_self, implies_true, eq_self, true_imp_iff, false_implies, Int.reduceEq, Int.reduceNe, Int.reduceMod, Int.reduceMul, Int.reduceAdd, Int.reduceSub, Int.reduceNeg, Int.reduceLT, Int.reduceLE, Nat.reduceAdd, Nat.reduceLeDiff, Nat.reduceLT, Nat.reduceSub, reduceIte, wds_n, wds_0, wds_1, wds_2, wds_3, or_true, true_or, or_false, false_or, or_self, hs_eq, hs_ne, ht]
        refine ⟨hd, s31 e2 htm h0 (fun q2 => ?_) (fun q2 => ?_)⟩
        · rw [e1] at q2
          exact (hc (Or.inr q2)).elim
        · simp only [en30, b30_1, x_aload0, y_call29, y_call31, x_gf_1032, x_gf_1040, x_goto_2, x_ifCond_eq_3, x_ifCond_ne_2, x_if_icmp_ge_3, klp_0, klp_1, klp_2, klp_3, klp_9, KC_0, KC_1, KC_2, KC_3, KC_4, ne_eq, not_false_eq_true, not_true_eq_false, true_and, and_true, and_self, implies_true, eq_self, true_imp_iff, false_implies, Int.reduceEq, Int.reduceNe, Int.reduceMod, Int.reduceMul, Int.reduceAdd, Int.reduceSub, Int.reduceNeg, Int.reduceLT, Int.reduceLE, Nat.reduceAdd, Nat.reduceLeDiff, Nat.reduceLT, Nat.reduceSub, reduceIte, wds_n, wds_0, wds_1, wds_2, wds_3, or_true, true_or, or_false, false_or, or_self]
          exact hQ
/-- Scanner.takeWord -/
theorem s30 {d : Nat} {t p s : Int} {h : HV} {Q : Int → HV → Prop} (hd : 0 < d) (ht : h 129 1 = t) (htm : t ≤ 2400) (hp : h 129 2 = p) (h0 : 0 ≤ p) (hs : h 129 5 = s) (h0s : 0 ≤ s ∧ s ≤ 2400) (hpt : p ≤ t) {n : Nat} (hn : t ≤ p + n) (hQ : Q 0 (hset (hset (hset h 129 6 (pkW (h 227) t n p 0)) 129 2 (wdF (h 227) t n p)) 129 4 (if wdF (h 227) t n p - s ≤ 8 then 1 else 5))) : Sp fz1 d 30 [(3, 129)] h Q := by
  refine G_in ?_
  simp only [en30, b30_0, x_aload0, x_bipush, x_goto_1, x_pf_1073, klp_0, klp_1, klp_2, klp_3, klp_9, KC_0, KC_1, KC_2, KC_3, KC_4, ne_eq, not_false_eq_true, not_true_eq_false, true_and, and_true, and_self, implies_true, eq_self, true_imp_iff, false_implies, Int.reduceEq, Int.reduceNe, Int.reduceMod, Int.reduceMul, Int.reduceAdd, Int.reduceSub, Int.reduceNeg, Int.reduceLT, Int.reduceLE, Nat.reduceAdd, Nat.reduceLeDiff, Nat.reduceLT, Nat.reduceSub, reduceIte, wds_n, wds_0, wds_1, wds_2, wds_3, or_true, true_or, or_false, false_or, or_self]
  have e0 : hset h 129 6 0 = hset (hset h 129 6 0) 129 2 p := (hset_self (show hset h 129 6 0 129 2 = p by rw [hset_v, if_neg (by decide)]; exact hp)).symm
  rw [e0]
  refine lp30 hd ht htm n p 0 h0 hn ?_
  have h1 := wdF_ge (h 227) t n p
  have h2 := wdF_le (h 227) t n p hpt
  have e3 : w32 (wdF (h 227) t n p - s) = wdF (h 227) t n p - s := w32_id (by omega)
  refine G_in ?_
  simp only [en30, b30_3, x_aload0, x_gf_1040, x_gf_1064, x_goto_5, x_iconst, x_if_icmp_gt_4, x_isub, klp_0, klp_1, klp_2, klp_3, klp_9, KC_0, KC_1, KC_2, KC_3, KC_4, ne_eq, not_false_eq_true, not_true_eq_false, true_and, and_true, and_self, implies_true, eq_self, true_imp_iff, false_implies, Int.reduceEq, Int.reduceNe, Int.reduceMod, Int.reduceMul, Int.reduceAdd, Int.reduceSub, Int.reduceNeg, Int.reduceLT, Int.reduceLE, Nat.reduceAdd, Nat.reduceLeDiff, Nat.reduceLT, Nat.reduceSub, reduceIte, wds_n, wds_0, wds_1, wds_2, wds_3, or_true, true_or, or_false, false_or, or_self, hs_eq, hs, e3]
  refine ⟨fun hc => ?_, fun hc => ?_⟩
  · rw [if_neg (by omega)] at hQ
    refine G_in ?_
    simp only [en30, b30_4, x_goto_5, x_iconst, klp_0, klp_1, klp_2, klp_3, klp_9, KC_0, KC_1, KC_2, KC_3, KC_4, ne_eq, not_false_eq_true, not_true_eq_false, true_and, and_true, and_self, implies_true, eq_self, true_imp_iff, false_implies, Int.reduceEq, Int.reduceNe, Int.reduceMod, Int.reduceMul, Int.reduceAdd, Int.reduceSub, Int.reduceNeg, Int.reduceLT, Int.reduceLE, Nat.reduceAdd, Nat.reduceLeDiff, Nat.reduceLT, Nat.reduceSub, reduceIte, wds_n, wds_0, wds_1, wds_2, wds_3, or_true, true_or, or_false, false_or, or_self]
    refine G_in ?_
    simp only [en30, b30_5, x_pf_1056, x_return, klp_0, klp_1, klp_2, klp_3, klp_9, KC_0, KC_1, KC_2, KC_3, KC_4, ne_eq, not_false_eq_true, not_true_eq_false, true_and, and_true, and_self, implies_true, eq_self, true_imp_iff, false_implies, Int.reduceEq, Int.reduceNe, Int.reduceMod, Int.reduceMul, Int.reduceAdd, Int.reduceSub, Int.reduceNeg, Int.reduceLT, Int.reduceLE, Nat.reduceAdd, Nat.reduceLeDiff, Nat.reduceLT, Nat.reduceSub, reduceIte, wds_n, wds_0, wds_1, wds_2, wds_3, or_true, true_or, or_false, false_or, or_self]
    exact hQ
  · rw [if_pos (by omega)] at hQ
    refine G_in ?_
    simp only [en30, b30_5, x_pf_1056, x_return, klp_0, klp_1, klp_2, klp_3, klp_9, KC_0, KC_1, KC_2, KC_3, KC_4, ne_eq, not_false_eq_true, not_true_eq_false, true_and, and_true, and_self, implies_true, eq_self, true_imp_iff, false_implies, Int.reduceEq, Int.reduceNe, Int.reduceMod, Int.reduceMul, Int.reduceAdd, Int.reduceSub, Int.reduceNeg, Int.reduceLT, Int.reduceLE, Nat.reduceAdd, Nat.reduceLeDiff, Nat.reduceLT, Nat.reduceSub, reduceIte, wds_n, wds_0, wds_1, wds_2, wds_3, or_true, true_or, or_false, false_or, or_self]
    exact hQ


/-! texts -/
def STR (h : HV) (o : Int) (l : List Int) : Prop := (o < 0 ∧ o % 64 = 13) ∧ (h o 0 < 0 ∧ h o 0 % 64 = 51) ∧ h o 1 = 0 ∧ h (h o 0) (-1) = l.length ∧ ∀ q : Nat, q < l.length → h (h o 0) q = l.getD q 0 ∧ 0 ≤ l.getD q 0 ∧ l.getD q 0 ≤ 127
theorem STR.len {h : HV} {o : Int} {l : List Int} (S : STR h o l) : rd fz1 h (h o 0) (-1) = l.length := (rd1_low (by have := S.2.1.1; omega)).trans S.2.2.2.1
theorem STR.at {h : HV} {o i : Int} {l : List Int} (S : STR h o l) (h0 : 0 ≤ i) (hi : i < l.length) : h (h o 0) i = l.getD i.toNat 0 ∧ 0 ≤ l.getD i.toNat 0 ∧ l.getD i.toNat 0 ≤ 127 := by
  have := S.2.2.2.2 i.toNat (by omega)
  rw [show ((i.toNat : Nat) : Int) = i by omega] at this
  exact this
theorem s35 {d : Nat} {o : Int} {h : HV} {l : List Int} {Q : Int → HV → Prop} (S : STR h o l) (hQ : Q 1 h) : Sp fz1 d 35 [(3, o)] h Q := by
  have h1 : (o = 0) = False := eq_false (by have := S.1.1; omega)
  refine G_in ?_
  simp only [en35, b35_0, b35_1, b35_2, x_aload0, x_freturn, x_gc_13326, x_goto_2, x_iconst, x_ifCond_eq_1, x_ifCond_ne_1, klp_0, klp_1, klp_2, klp_3, klp_9, KC_0, KC_1, KC_2, KC_3, KC_4, ne_eq, not_false_eq_true, not_true_eq_false, true_and, and_true, and_self, implies_true, eq_self, true_imp_iff, false_implies, Int.reduceEq, Int.reduceNe, Int.reduceMod, Int.reduceMul, Int.reduceAdd, Int.reduceSub, Int.reduceNeg, Int.reduceLT, Int.reduceLE, Nat.reduceAdd, Nat.reduceLeDiff, Nat.reduceLT, Nat.reduceSub, reduceIte, wds_n, wds_0, wds_1, wds_2, wds_3, or_true, true_or, or_false, false_or, or_self, h1, S.1.2, rd1_low (show o < 64 by have := S.1.1; omega), S.2.2.1]
  refine G_in ?_
  simp only [en35, b35_0, b35_1, b35_2, x_aload0, x_freturn, x_gc_13326, x_goto_2, x_iconst, x_ifCond_eq_1, x_ifCond_ne_1, klp_0, klp_1, klp_2, klp_3, klp_9, KC_0, KC_1, KC_2, KC_3, KC_4, ne_eq, not_false_eq_true, not_true_eq_false, true_and, and_true, and_self, implies_true, eq_self, true_imp_iff, false_implies, Int.reduceEq, Int.reduceNe, Int.reduceMod, Int.reduceMul, Int.reduceAdd, Int.reduceSub, Int.reduceNeg, Int.reduceLT, Int.reduceLE, Nat.reduceAdd, Nat.reduceLeDiff, Nat.reduceLT, Nat.reduceSub, reduceIte, wds_n, wds_0, wds_1, wds_2, wds_3, or_true, true_or, or_false, false_or, or_self]
  exact hQ
theorem s37 {d : Nat} {o : Int} {h : HV} {l : List Int} {Q : Int → HV → Prop} (S : STR h o l) (hQ : Q 0 h) : Sp fz1 d 37 [(3, o)] h Q := by
  have h1 : (o = 0) = False := eq_false (by have := S.1.1; omega)
  refine G_in ?_
  simp only [en37, b37_0, b37_1, b37_2, x_aload0, x_fadd, x_gc_13326, x_goto_2, x_iconst, x_ifCond_eq_1, klp_0, klp_1, klp_2, klp_3, klp_9, KC_0, KC_1, KC_2, KC_3, KC_4, ne_eq, not_false_eq_true, not_true_eq_false, true_and, and_true, and_self, implies_true, eq_self, true_imp_iff, false_implies, Int.reduceEq, Int.reduceNe, Int.reduceMod, Int.reduceMul, Int.reduceAdd, Int.reduceSub, Int.reduceNeg, Int.reduceLT, Int.reduceLE, Nat.reduceAdd, Nat.reduceLeDiff, Nat.reduceLT, Nat.reduceSub, reduceIte, wds_n, wds_0, wds_1, wds_2, wds_3, or_true, true_or, or_false, false_or, or_self, h1, S.1.2, rd1_low (show o < 64 by have := S.1.1; omega), S.2.2.1]
  refine G_in ?_
  simp only [en37, b37_0, b37_1, b37_2, x_aload0, x_fadd, x_gc_13326, x_goto_2, x_iconst, x_ifCond_eq_1, klp_0, klp_1, klp_2, klp_3, klp_9, KC_0, KC_1, KC_2, KC_3, KC_4, ne_eq, not_false_eq_true, not_true_eq_false, true_and, and_true, and_self, implies_true, eq_self, true_imp_iff, false_implies, Int.reduceEq, Int.reduceNe, Int.reduceMod, Int.reduceMul, Int.reduceAdd, Int.reduceSub, Int.reduceNeg, Int.reduceLT, Int.reduceLE, Nat.reduceAdd, Nat.reduceLeDiff, Nat.reduceLT, Nat.reduceSub, reduceIte, wds_n, wds_0, wds_1, wds_2, wds_3, or_true, true_or, or_false, false_or, or_self]
  exact hQ
/-- length -/
theorem s36 {d : Nat} {o : Int} {h : HV} {l : List Int} {Q : Int → HV → Prop} (hd : 0 < d) (S : STR h o l) (hl : l.length ≤ 1000) (hQ : Q l.length h) : Sp fz1 d 36 [(3, o)] h Q := by
  have h1 : (o = 0) = False := eq_false (by have := S.1.1; omega)
  refine G_in ?_
  simp only [en36, b36_0, x_alen, x_aload0, y_call37, x_gc_13315, x_ireturn, x_ishr, klp_0, klp_1, klp_2, klp_3, klp_9, KC_0, KC_1, KC_2, KC_3, KC_4, ne_eq, not_false_eq_true, not_true_eq_false, true_and, and_true, and_self, implies_true, eq_self, true_imp_iff, false_implies, Int.reduceEq, Int.reduceNe, Int.reduceMod, Int.reduceMul, Int.reduceAdd, Int.reduceSub, Int.reduceNeg, Int.reduceLT, Int.reduceLE, Nat.reduceAdd, Nat.reduceLeDiff, Nat.reduceLT, Nat.reduceSub, reduceIte, wds_n, wds_0, wds_1, wds_2, wds_3, or_true, true_or, or_false, false_or, or_self, h1, S.1.2, rd1_low (show o < 64 by have := S.1.1; omega), S.2.1.2, S.len]
  refine ⟨hd, s37 S ?_⟩
  simp only [en36, b36_0, x_alen, x_aload0, y_call37, x_gc_13315, x_ireturn, x_ishr, klp_0, klp_1, klp_2, klp_3, klp_9, KC_0, KC_1, KC_2, KC_3, KC_4, ne_eq, not_false_eq_true, not_true_eq_false, true_and, and_true, and_self, implies_true, eq_self, true_imp_iff, false_implies, Int.reduceEq, Int.reduceNe, Int.reduceMod, Int.reduceMul, Int.reduceAdd, Int.reduceSub, Int.reduceNeg, Int.reduceLT, Int.reduceLE, Nat.reduceAdd, Nat.reduceLeDiff, Nat.reduceLT, Nat.reduceSub, reduceIte, wds_n, wds_0, wds_1, wds_2, wds_3, or_true, true_or, or_false, false_or, or_self]
  rw [i_shr_0 (by omega)]
  exact hQ
/-- charAt -/
theorem s46 {d : Nat} {o i : Int} {h : HV} {l : List Int} {Q : Int → HV → Prop} (hd : 3 < d) (S : STR h o l) (hl : l.length ≤ 1000) (h0 : 0 ≤ i) (hi : i < l.length) (hQ : Q (l.getD i.toNat 0) h) : Sp fz1 d 46 [(3, o), (0, i)] h Q := by
  have h1 : (o = 0) = False := eq_false (by have := S.1.1; omega)
  have hA := S.at h0 hi
  have e2 : (l.getD i.toNat 0 % 65536) = l.getD i.toNat 0 := by omega
  have e1 : i_and (l.getD i.toNat 0) 255 = l.getD i.toNat 0 := by rw [i_and_255 (by omega)]; omega
  refine G_in ?_
  simp only [en46, b46_0, b46_1, x_aload0, y_call35, y_call47, x_fneg, x_gc_13315, x_ifCond_eq_1, x_iload1, klp_0, klp_1, klp_2, klp_3, klp_9, KC_0, KC_1, KC_2, KC_3, KC_4, ne_eq, not_false_eq_true, not_true_eq_false, true_and, and_true, and_self, implies_true, eq_self, true_imp_iff, false_implies, Int.reduceEq, Int.reduceNe, Int.reduceMod, Int.reduceMul, Int.reduceAdd, Int.reduceSub, Int.reduceNeg, Int.reduceLT, Int.reduceLE, Nat.reduceAdd, Nat.reduceLeDiff, Nat.reduceLT, Nat.reduceSub, reduceIte, wds_n, wds_0, wds_1, wds_2, wds_3, or_true, true_or, or_false, false_or, or_self, h1, S.1.2]
  refine ⟨by omega, s35 S ?_⟩
  simp only [en46, b46_0, b46_1, x_aload0, y_call35, y_call47, x_fneg, x_gc_13315, x_ifCond_eq_1, x_iload1, klp_0, klp_1, klp_2, klp_3, klp_9, KC_0, KC_1, KC_2, KC_3, KC_4, ne_eq, not_false_eq_true, not_true_eq_false, true_and, and_true, and_self, implies_true, eq_self, true_imp_iff, false_implies, Int.reduceEq, Int.reduceNe, Int.reduceMod, Int.reduceMul, Int.reduceAdd, Int.reduceSub, Int.reduceNeg, Int.reduceLT, Int.reduceLE, Nat.reduceAdd, Nat.reduceLeDiff, Nat.reduceLT, Nat.reduceSub, reduceIte, wds_n, wds_0, wds_1, wds_2, wds_3, or_true, true_or, or_false, false_or, or_self, h1, S.1.2, rd1_low (show o < 64 by have := S.1.1; omega)]
  refine ⟨by omega, G_in ?_⟩
  simp only [en47, b47_0, x_alen, x_aload0, x_baload, y_call48, x_fneg, x_i2c, x_iand, x_iconst, x_iload1, klp_0, klp_1, klp_2, klp_3, klp_9, KC_0, KC_1, KC_2, KC_3, KC_4, ne_eq, not_false_eq_true, not_true_eq_false, true_and, and_true, and_self, implies_true, eq_self, true_imp_iff, false_implies, Int.reduceEq, Int.reduceNe, Int.reduceMod, Int.reduceMul, Int.reduceAdd, Int.reduceSub, Int.reduceNeg, Int.reduceLT, Int.reduceLE, Nat.reduceAdd, Nat.reduceLeDiff, Nat.reduceLT, Nat.reduceSub, reduceIte, wds_n, wds_0, wds_1, wds_2, wds_3, or_true, true_or, or_false, false_or, or_self, S.2.1.2, S.len]
  refine ⟨by omega, G_in ?_⟩
  simp only [en48, b48_0, y_call49, x_iload0, x_iload1, x_jsr, x_pop0, x_pop3, x_return, klp_0, klp_1, klp_2, klp_3, klp_9, KC_0, KC_1, KC_2, KC_3, KC_4, ne_eq, not_false_eq_true, not_true_eq_false, true_and, and_true, and_self, implies_true, eq_self, true_imp_iff, false_implies, Int.reduceEq, Int.reduceNe, Int.reduceMod, Int.reduceMul, Int.reduceAdd, Int.reduceSub, Int.reduceNeg, Int.reduceLT, Int.reduceLE, Nat.reduceAdd, Nat.reduceLeDiff, Nat.reduceLT, Nat.reduceSub, reduceIte, wds_n, wds_0, wds_1, wds_2, wds_3, or_true, true_or, or_false, false_or, or_self]
  refine ⟨by omega, G_in ?_⟩
  simp only [en49, b49_0, b49_1, b49_2, x_aload2, x_goto_1, x_ifCond_lt_1, x_if_icmp_lt_2, x_iload0, x_iload1, x_ireturn, klp_0, klp_1, klp_2, klp_3, klp_9, KC_0, KC_1, KC_2, KC_3, KC_4, ne_eq, not_false_eq_true, not_true_eq_false, true_and, and_true, and_self, implies_true, eq_self, true_imp_iff, false_implies, Int.reduceEq, Int.reduceNe, Int.reduceMod, Int.reduceMul, Int.reduceAdd, Int.reduceSub, Int.reduceNeg, Int.reduceLT, Int.reduceLE, Nat.reduceAdd, Nat.reduceLeDiff, Nat.reduceLT, Nat.reduceSub, reduceIte, wds_n, wds_0, wds_1, wds_2, wds_3, or_true, true_or, or_false, false_or, or_self]
  refine ⟨fun q => by omega, fun _ => ⟨fun _ => ?_, fun q => by omega⟩⟩
  refine G_in ?_
  simp only [en49, b49_0, b49_1, b49_2, x_aload2, x_goto_1, x_ifCond_lt_1, x_if_icmp_lt_2, x_iload0, x_iload1, x_ireturn, klp_0, klp_1, klp_2, klp_3, klp_9, KC_0, KC_1, KC_2, KC_3, KC_4, ne_eq, not_false_eq_true, not_true_eq_false, true_and, and_true, and_self, implies_true, eq_self, true_imp_iff, false_implies, Int.reduceEq, Int.reduceNe, Int.reduceMod, Int.reduceMul, Int.reduceAdd, Int.reduceSub, Int.reduceNeg, Int.reduceLT, Int.reduceLE, Nat.reduceAdd, Nat.reduceLeDiff, Nat.reduceLT, Nat.reduceSub, reduceIte, wds_n, wds_0, wds_1, wds_2, wds_3, or_true, true_or, or_false, false_or, or_self]
  simp only [x_pop0, x_return, KC_4, en47, b47_0, x_alen, x_aload0, x_baload, y_call48, x_fneg, x_i2c, x_iand, x_iconst, x_iload1, klp_0, klp_1, klp_2, klp_3, klp_9, KC_0, KC_1, KC_2, KC_3, KC_4, ne_eq, not_false_eq_true, not_true_eq_false, true_and, and_true, and_self, implies_true, eq_self, true_imp_iff, false_implies, Int.reduceEq, Int.reduceNe, Int.reduceMod, Int.reduceMul, Int.reduceAdd, Int.reduceSub, Int.reduceNeg, Int.reduceLT, Int.reduceLE, Nat.reduceAdd, Nat.reduceLeDiff, Nat.reduceLT, Nat.reduceSub, reduceIte, wds_n, wds_0, wds_1, wds_2, wds_3, or_true, true_or, or_false, false_or, or_self, hA.1, e1, e2]
  refine ⟨⟨.inr (.inr S.2.1.2), h0, by rw [S.len]; exact hi⟩, ?_⟩
  exact hQ
/-- the first place of a byte in a text, from place i on; -1 -/
def ixF (c : Int) : List Int → Int → Int
  | [], _ => -1
  | a :: l, i => if a = c then i else ixF c l (i + 1)
theorem lp40 {d : Nat} {o c e : Int} {h : HV} {l : List Int} {Q : Int → HV → Prop} (S : STR h o l) (hl : l.length ≤ 1000) : ∀ (m : Nat) (j : Int), 0 ≤ j → j + m = l.length → Q (ixF e (l.drop j.toNat) j) h → G fz1 d 40 1 [(3, h o 0), (0, c), (0, 0), (0, (l.length : Int)), (0, e), (0, j)] [] h Q
  | 0, j, h0, hm, hQ => by
    have ej : j = l.length := by omega
    subst ej
    rw [List.drop_of_length_le (by omega)] at hQ
    refine G_in ?_
    simp only [en40, b40_1, x_aload0, x_baload, x_if_icmp_ge_3, x_if_icmp_ne_2, x_iload3, x_iload4, x_iload5, x_ireturn, klp_0, klp_1, klp_2, klp_3, klp_9, KC_0, KC_1, KC_2, KC_3, KC_4, ne_eq, not_false_eq_true, not_true_eq_false, true_and, and_true, and_self, implies_true, eq_self, true_imp_iff, false_implies, Int.reduceEq, Int.reduceNe, Int.reduceMod, Int.reduceMul, Int.reduceAdd, Int.reduceSub, Int.reduceNeg, Int.reduceLT, Int.reduceLE, Nat.reduceAdd, Nat.reduceLeDiff, Nat.reduceLT, Nat.reduceSub, reduceIte, wds_n, wds_0, wds_1, wds_2, wds_3, or_true, true_or, or_false, false_or, or_self]
    refine ⟨fun _ => G_in ?_, fun q => (q (by omega)).elim⟩
    simp only [en40, b40_3, x_iconst, x_ireturn, klp_0, klp_1, klp_2, klp_3, klp_9, KC_0, KC_1, KC_2, KC_3, KC_4, ne_eq, not_false_eq_true, not_true_eq_false, true_and, and_true, and_self, implies_true, eq_self, true_imp_iff, false_implies, Int.reduceEq, Int.reduceNe, Int.reduceMod, Int.reduceMul, Int.reduceAdd, Int.reduceSub, Int.reduceNeg, Int.reduceLT, Int.reduceLE, Nat.reduceAdd, Nat.reduceLeDiff, Nat.reduceLT, Nat.reduceSub, reduceIte, wds_n, wds_0, wds_1, wds_2, wds_3, or_true, true_or, or_false, false_or, or_self]
    exact hQ
  | m + 1, j, h0, hm, hQ => by
    have hlt : j.toNat < l.length := by omega
    have hA := S.at h0 (show j < l.length by omega)
    rw [List.drop_eq_getElem_cons hlt, ixF, List.getElem_eq_getD 0] at hQ
    refine G_in ?_
    simp only [en40, b40_1, x_aload0, x_baload, x_if_icmp_ge_3, x_if_icmp_ne_2, x_iload3, x_iload4, x_iload5, x_ireturn, klp_0, klp_1, klp_2, klp_3, klp_9, KC_0, KC_1, KC_2, KC_3, KC_4, ne_eq, not_false_eq_true, not_true_eq_false, true_and, and_true, and_self, implies_true, eq_self, true_imp_iff, false_implies, Int.reduceEq, Int.reduceNe, Int.reduceMod, Int.reduceMul, Int.reduceAdd, Int.reduceSub, Int.reduceNeg, Int.reduceLT, Int.reduceLE, Nat.reduceAdd, Nat.reduceLeDiff, Nat.reduceLT, Nat.reduceSub, reduceIte, wds_n, wds_0, wds_1, wds_2, wds_3, or_true, true_or, or_false, false_or, or_self, S.2.1.2, S.len, hA.1]
    refine ⟨fun q => by omega, fun _ => ⟨⟨h0, by omega⟩, fun hc => ?_, fun hc => ?_⟩⟩
    · refine G_in ?_
      simp only [en40, b40_2, x_goto_1, x_iinc5, klp_0, klp_1, klp_2, klp_3, klp_9, KC_0, KC_1, KC_2, KC_3, KC_4, ne_eq, not_false_eq_true, not_true_eq_false, true_and, and_true, and_self, implies_true, eq_self, true_imp_iff, false_implies, Int.reduceEq, Int.reduceNe, Int.reduceMod, Int.reduceMul, Int.reduceAdd, Int.reduceSub, Int.reduceNeg, Int.reduceLT, Int.reduceLE, Nat.reduceAdd, Nat.reduceLeDiff, Nat.reduceLT, Nat.reduceSub, reduceIte, wds_n, wds_0, wds_1, wds_2, wds_3, or_true, true_or, or_false, false_or, or_self]
      rw [w32_id (by omega)]
      rw [if_neg hc] at hQ
      refine lp40 S hl m (j + 1) (by omega) (by omega) ?_
      rw [show (j + 1).toNat = j.toNat + 1 by omega]
      exact hQ
    · rw [if_pos (by omega)] at hQ
      exact hQ
/-- indexOf of a sign below 256 -/
theorem s33 {d : Nat} {o c : Int} {h : HV} {l : List Int} {Q : Int → HV → Prop} (hd : 5 < d) (S : STR h o l) (hl : l.length ≤ 1000) (hl0 : 0 < l.length) (hc : 0 ≤ c ∧ c ≤ 255) (hQ : Q (ixF (w8 c) l 0) h) : Sp fz1 d 33 [(3, o), (0, c)] h Q := by
  have h1 : (o = 0) = False := eq_false (by have := S.1.1; omega)
  have e1 : max (0 : Int) 0 = 0 := by decide
  have e2 : min (l.length : Int) (l.length : Int) = l.length := by omega
  refine G_in ?_
  simp only [en33, b33_0, x_aload0, y_call34, x_iconst, x_iload1, x_ireturn, klp_0, klp_1, klp_2, klp_3, klp_9, KC_0, KC_1, KC_2, KC_3, KC_4, ne_eq, not_false_eq_true, not_true_eq_false, true_and, and_true, and_self, implies_true, eq_self, true_imp_iff, false_implies, Int.reduceEq, Int.reduceNe, Int.reduceMod, Int.reduceMul, Int.reduceAdd, Int.reduceSub, Int.reduceNeg, Int.reduceLT, Int.reduceLE, Nat.reduceAdd, Nat.reduceLeDiff, Nat.reduceLT, Nat.reduceSub, reduceIte, wds_n, wds_0, wds_1, wds_2, wds_3, or_true, true_or, or_false, false_or, or_self, h1, S.1.2]
  refine ⟨by omega, G_in ?_⟩
  simp only [en34, b34_0, b34_1, b34_2, x_aload0, y_call35, y_call36, y_call38, x_gc_13315, x_goto_2, x_ifCond_eq_1, x_iload1, x_iload2, x_ireturn, klp_0, klp_1, klp_2, klp_3, klp_9, KC_0, KC_1, KC_2, KC_3, KC_4, ne_eq, not_false_eq_true, not_true_eq_false, true_and, and_true, and_self, implies_true, eq_self, true_imp_iff, false_implies, Int.reduceEq, Int.reduceNe, Int.reduceMod, Int.reduceMul, Int.reduceAdd, Int.reduceSub, Int.reduceNeg, Int.reduceLT, Int.reduceLE, Nat.reduceAdd, Nat.reduceLeDiff, Nat.reduceLT, Nat.reduceSub, reduceIte, wds_n, wds_0, wds_1, wds_2, wds_3, or_true, true_or, or_false, false_or, or_self, h1, S.1.2]
  refine ⟨by omega, s35 S ?_⟩
  simp only [en34, b34_0, b34_1, b34_2, x_aload0, y_call35, y_call36, y_call38, x_gc_13315, x_goto_2, x_ifCond_eq_1, x_iload1, x_iload2, x_ireturn, klp_0, klp_1, klp_2, klp_3, klp_9, KC_0, KC_1, KC_2, KC_3, KC_4, ne_eq, not_false_eq_true, not_true_eq_false, true_and, and_true, and_self, implies_true, eq_self, true_imp_iff, false_implies, Int.reduceEq, Int.reduceNe, Int.reduceMod, Int.reduceMul, Int.reduceAdd, Int.reduceSub, Int.reduceNeg, Int.reduceLT, Int.reduceLE, Nat.reduceAdd, Nat.reduceLeDiff, Nat.reduceLT, Nat.reduceSub, reduceIte, wds_n, wds_0, wds_1, wds_2, wds_3, or_true, true_or, or_false, false_or, or_self, h1, S.1.2, rd1_low (show o < 64 by have := S.1.1; omega)]
  refine ⟨by omega, s36 (by omega) S hl ?_⟩
  simp only [en34, b34_0, b34_1, b34_2, x_aload0, y_call35, y_call36, y_call38, x_gc_13315, x_goto_2, x_ifCond_eq_1, x_iload1, x_iload2, x_ireturn, klp_0, klp_1, klp_2, klp_3, klp_9, KC_0, KC_1, KC_2, KC_3, KC_4, ne_eq, not_false_eq_true, not_true_eq_false, true_and, and_true, and_self, implies_true, eq_self, true_imp_iff, false_implies, Int.reduceEq, Int.reduceNe, Int.reduceMod, Int.reduceMul, Int.reduceAdd, Int.reduceSub, Int.reduceNeg, Int.reduceLT, Int.reduceLE, Nat.reduceAdd, Nat.reduceLeDiff, Nat.reduceLT, Nat.reduceSub, reduceIte, wds_n, wds_0, wds_1, wds_2, wds_3, or_true, true_or, or_false, false_or, or_self]
  refine ⟨by omega, G_in ?_⟩
  simp only [en38, b38_0, b38_1, b38_2, x_alen, x_aload0, y_call39, y_call40, x_iconst, x_ifCond_ne_1, x_if_icmp_lt_2, x_iload1, x_iload2, x_iload3, x_imax, x_imin, x_ireturn, x_istore2, x_istore3, klp_0, klp_1, klp_2, klp_3, klp_9, KC_0, KC_1, KC_2, KC_3, KC_4, ne_eq, not_false_eq_true, not_true_eq_false, true_and, and_true, and_self, implies_true, eq_self, true_imp_iff, false_implies, Int.reduceEq, Int.reduceNe, Int.reduceMod, Int.reduceMul, Int.reduceAdd, Int.reduceSub, Int.reduceNeg, Int.reduceLT, Int.reduceLE, Nat.reduceAdd, Nat.reduceLeDiff, Nat.reduceLT, Nat.reduceSub, reduceIte, wds_n, wds_0, wds_1, wds_2, wds_3, or_true, true_or, or_false, false_or, or_self]
  refine ⟨by omega, G_in ?_⟩
  simp only [en39, b39_0, b39_1, b39_2, x_freturn, x_goto_2, x_iconst, x_ifCond_lt_1, x_if_icmp_gt_1, x_iload0, klp_0, klp_1, klp_2, klp_3, klp_9, KC_0, KC_1, KC_2, KC_3, KC_4, ne_eq, not_false_eq_true, not_true_eq_false, true_and, and_true, and_self, implies_true, eq_self, true_imp_iff, false_implies, Int.reduceEq, Int.reduceNe, Int.reduceMod, Int.reduceMul, Int.reduceAdd, Int.reduceSub, Int.reduceNeg, Int.reduceLT, Int.reduceLE, Nat.reduceAdd, Nat.reduceLeDiff, Nat.reduceLT, Nat.reduceSub, reduceIte, wds_n, wds_0, wds_1, wds_2, wds_3, or_true, true_or, or_false, false_or, or_self]
  refine ⟨fun q => by omega, fun _ => ⟨fun q => by omega, fun _ => ?_⟩⟩
  refine G_in ?_
  simp only [en39, b39_0, b39_1, b39_2, x_freturn, x_goto_2, x_iconst, x_ifCond_lt_1, x_if_icmp_gt_1, x_iload0, klp_0, klp_1, klp_2, klp_3, klp_9, KC_0, KC_1, KC_2, KC_3, KC_4, ne_eq, not_false_eq_true, not_true_eq_false, true_and, and_true, and_self, implies_true, eq_self, true_imp_iff, false_implies, Int.reduceEq, Int.reduceNe, Int.reduceMod, Int.reduceMul, Int.reduceAdd, Int.reduceSub, Int.reduceNeg, Int.reduceLT, Int.reduceLE, Nat.reduceAdd, Nat.reduceLeDiff, Nat.reduceLT, Nat.reduceSub, reduceIte, wds_n, wds_0, wds_1, wds_2, wds_3, or_true, true_or, or_false, false_or, or_self]
  simp only [en38, b38_0, b38_1, b38_2, x_alen, x_aload0, y_call39, y_call40, x_iconst, x_ifCond_ne_1, x_if_icmp_lt_2, x_iload1, x_iload2, x_iload3, x_imax, x_imin, x_ireturn, x_istore2, x_istore3, klp_0, klp_1, klp_2, klp_3, klp_9, KC_0, KC_1, KC_2, KC_3, KC_4, ne_eq, not_false_eq_true, not_true_eq_false, true_and, and_true, and_self, implies_true, eq_self, true_imp_iff, false_implies, Int.reduceEq, Int.reduceNe, Int.reduceMod, Int.reduceMul, Int.reduceAdd, Int.reduceSub, Int.reduceNeg, Int.reduceLT, Int.reduceLE, Nat.reduceAdd, Nat.reduceLeDiff, Nat.reduceLT, Nat.reduceSub, reduceIte, wds_n, wds_0, wds_1, wds_2, wds_3, or_true, true_or, or_false, false_or, or_self, e1, S.2.1.2, S.len, e2]
  refine G_in ?_
  simp only [en38, b38_0, b38_1, b38_2, x_alen, x_aload0, y_call39, y_call40, x_iconst, x_ifCond_ne_1, x_if_icmp_lt_2, x_iload1, x_iload2, x_iload3, x_imax, x_imin, x_ireturn, x_istore2, x_istore3, klp_0, klp_1, klp_2, klp_3, klp_9, KC_0, KC_1, KC_2, KC_3, KC_4, ne_eq, not_false_eq_true, not_true_eq_false, true_and, and_true, and_self, implies_true, eq_self, true_imp_iff, false_implies, Int.reduceEq, Int.reduceNe, Int.reduceMod, Int.reduceMul, Int.reduceAdd, Int.reduceSub, Int.reduceNeg, Int.reduceLT, Int.reduceLE, Nat.reduceAdd, Nat.reduceLeDiff, Nat.reduceLT, Nat.reduceSub, reduceIte, wds_n, wds_0, wds_1, wds_2, wds_3, or_true, true_or, or_false, false_or, or_self, e1, S.2.1.2, S.len, e2]
  refine ⟨fun _ => ?_, fun q => by omega⟩
  refine G_in ?_
  simp only [en38, b38_0, b38_1, b38_2, x_alen, x_aload0, y_call39, y_call40, x_iconst, x_ifCond_ne_1, x_if_icmp_lt_2, x_iload1, x_iload2, x_iload3, x_imax, x_imin, x_ireturn, x_istore2, x_istore3, klp_0, klp_1, klp_2, klp_3, klp_9, KC_0, KC_1, KC_2, KC_3, KC_4, ne_eq, not_false_eq_true, not_true_eq_false, true_and, and_true, and_self, implies_true, eq_self, true_imp_iff, false_implies, Int.reduceEq, Int.reduceNe, Int.reduceMod, Int.reduceMul, Int.reduceAdd, Int.reduceSub, Int.reduceNeg, Int.reduceLT, Int.reduceLE, Nat.reduceAdd, Nat.reduceLeDiff, Nat.reduceLT, Nat.reduceSub, reduceIte, wds_n, wds_0, wds_1, wds_2, wds_3, or_true, true_or, or_false, false_or, or_self]
  refine ⟨by omega, G_in ?_⟩
  simp only [en40, b40_0, x_goto_1, x_i2b, x_iload1, x_iload2, x_istore4, x_istore5, klp_0, klp_1, klp_2, klp_3, klp_9, KC_0, KC_1, KC_2, KC_3, KC_4, ne_eq, not_false_eq_true, not_true_eq_false, true_and, and_true, and_self, implies_true, eq_self, true_imp_iff, false_implies, Int.reduceEq, Int.reduceNe, Int.reduceMod, Int.reduceMul, Int.reduceAdd, Int.reduceSub, Int.reduceNeg, Int.reduceLT, Int.reduceLE, Nat.reduceAdd, Nat.reduceLeDiff, Nat.reduceLT, Nat.reduceSub, reduceIte, wds_n, wds_0, wds_1, wds_2, wds_3, or_true, true_or, or_false, false_or, or_self]
  refine lp40 S hl l.length 0 (by decide) (by omega) ?_
  simp only [en38, b38_2, x_aload0, y_call40, x_iload1, x_iload2, x_iload3, x_ireturn, klp_0, klp_1, klp_2, klp_3, klp_9, KC_0, KC_1, KC_2, KC_3, KC_4, ne_eq, not_false_eq_true, not_true_eq_false, true_and, and_true, and_self, implies_true, eq_self, true_imp_iff, false_implies, Int.reduceEq, Int.reduceNe, Int.reduceMod, Int.reduceMul, Int.reduceAdd, Int.reduceSub, Int.reduceNeg, Int.reduceLT, Int.reduceLE, Nat.reduceAdd, Nat.reduceLeDiff, Nat.reduceLT, Nat.reduceSub, reduceIte, wds_n, wds_0, wds_1, wds_2, wds_3, or_true, true_or, or_false, false_or, or_self]
  refine G_in ?_
  exact hQ

theorem l_cmp_0 (a b : Int) : (l_cmp a b = 0) = (a = b) := by
  unfold l_cmp
  refine propext ⟨fun q => ?_, fun q => ?_⟩
  · by_cases h1 : a > b
    · rw [if_pos h1] at q; omega
    · rw [if_neg h1] at q
      by_cases h2 : a = b
      · exact h2
      · rw [if_neg h2] at q; omega
  · rw [if_neg (by omega), if_pos q]
def fnd (w : Int) : List Int → Int → Int → Int
  | [], a, i => if a = w then i else -1
  | c :: l, a, i => if c = 32 then (if a = w then i else fnd w l 0 (i + 1)) else fnd w l (l_or (l_shl a 8) c) i
/-- the words of a text, packed -/
def wordsOf : List Int → Int → List Int
  | [], a => [a]
  | c :: l, a => if c = 32 then a :: wordsOf l 0 else wordsOf l (l_or (l_shl a 8) c)
/-- the place of a word in a row of them; -1 -/
def ix (w : Int) : List Int → Int → Int
  | [], _ => -1
  | a :: l, i => if a = w then i else ix w l (i + 1)
theorem fnd_ix (w : Int) : ∀ (l : List Int) (a i : Int), fnd w l a i = ix w (wordsOf l a) i
  | [], a, i => by rw [fnd, wordsOf, ix, ix]
  | c :: l, a, i => by
    rw [fnd, wordsOf]
    by_cases hc : c = 32
    · rw [if_pos hc, if_pos hc, ix, fnd_ix w l]
    · rw [if_neg hc, if_neg hc, fnd_ix w l]
theorem lp45 {d : Nat} {o w : Int} {h : HV} {l : List Int} {Q : Int → HV → Prop} (hd : 4 < d) (S : STR h o l) (hl : l.length ≤ 1000) (hw : h 129 6 = w) : ∀ (m : Nat) (j a i : Int), 0 ≤ j → j + m = l.length → 0 ≤ i → i ≤ j → Q (fnd w (l.drop j.toNat) a i) h → G fz1 d 45 2 [(3, 129), (3, o), (0, i), (1, a), (9, 0), (0, j)] [] h Q
  | 0, j, a, i, h0, hm, hi0, hij, hQ => by
    have h1 : (o = 0) = False := eq_false (by have := S.1.1; omega)
    have ej : j = l.length := by omega
    subst ej
    rw [List.drop_of_length_le (by omega), fnd] at hQ
    refine G_in ?_
    simp only [en45, b45_2, x_aload1, y_call36, y_call46, x_goto_5, x_i2l, x_iconst, x_if_icmp_eq_3, x_if_icmp_ge_6, x_iload5, x_lload3, x_lor, x_lshl, x_lstore3, klp_0, klp_1, klp_2, klp_3, klp_9, KC_0, KC_1, KC_2, KC_3, KC_4, ne_eq, not_false_eq_true, not_true_eq_false, true_and, and_true, and_self, implies_true, eq_self, true_imp_iff, false_implies, Int.reduceEq, Int.reduceNe, Int.reduceMod, Int.reduceMul, Int.reduceAdd, Int.reduceSub, Int.reduceNeg, Int.reduceLT, Int.reduceLE, Nat.reduceAdd, Nat.reduceLeDiff, Nat.reduceLT, Nat.reduceSub, reduceIte, wds_n, wds_0, wds_1, wds_2, wds_3, or_true, true_or, or_false, false_or, or_self, h1, S.1.2]
    refine ⟨by omega, s36 (by omega) S hl ?_⟩
    simp only [en45, b45_2, x_aload1, y_call36, y_call46, x_goto_5, x_i2l, x_iconst, x_if_icmp_eq_3, x_if_icmp_ge_6, x_iload5, x_lload3, x_lor, x_lshl, x_lstore3, klp_0, klp_1, klp_2, klp_3, klp_9, KC_0, KC_1, KC_2, KC_3, KC_4, ne_eq, not_false_eq_true, not_true_eq_false, true_and, and_true, and_self, implies_true, eq_self, true_imp_iff, false_implies, Int.reduceEq, Int.reduceNe, Int.reduceMod, Int.reduceMul, Int.reduceAdd, Int.reduceSub, Int.reduceNeg, Int.reduceLT, Int.reduceLE, Nat.reduceAdd, Nat.reduceLeDiff, Nat.reduceLT, Nat.reduceSub, reduceIte, wds_n, wds_0, wds_1, wds_2, wds_3, or_true, true_or, or_false, false_or, or_self]
    refine ⟨fun _ => G_in ?_, fun q => (q (by omega)).elim⟩
    simp only [en45, b45_6, x_aload0, x_gf_1073, x_goto_8, x_ifCond_ne_7, x_iload2, x_lcmp, x_lload3, klp_0, klp_1, klp_2, klp_3, klp_9, KC_0, KC_1, KC_2, KC_3, KC_4, ne_eq, not_false_eq_true, not_true_eq_false, true_and, and_true, and_self, implies_true, eq_self, true_imp_iff, false_implies, Int.reduceEq, Int.reduceNe, Int.reduceMod, Int.reduceMul, Int.reduceAdd, Int.reduceSub, Int.reduceNeg, Int.reduceLT, Int.reduceLE, Nat.reduceAdd, Nat.reduceLeDiff, Nat.reduceLT, Nat.reduceSub, reduceIte, wds_n, wds_0, wds_1, wds_2, wds_3, or_true, true_or, or_false, false_or, or_self, hw, l_cmp_0]
    refine ⟨fun hc => G_in ?_, fun hc => G_in ?_⟩
    · rw [if_neg hc] at hQ
      simp only [en45, b45_7, x_goto_8, x_iconst, klp_0, klp_1, klp_2, klp_3, klp_9, KC_0, KC_1, KC_2, KC_3, KC_4, ne_eq, not_false_eq_true, not_true_eq_false, true_and, and_true, and_self, implies_true, eq_self, true_imp_iff, false_implies, Int.reduceEq, Int.reduceNe, Int.reduceMod, Int.reduceMul, Int.reduceAdd, Int.reduceSub, Int.reduceNeg, Int.reduceLT, Int.reduceLE, Nat.reduceAdd, Nat.reduceLeDiff, Nat.reduceLT, Nat.reduceSub, reduceIte, wds_n, wds_0, wds_1, wds_2, wds_3, or_true, true_or, or_false, false_or, or_self]
      refine G_in ?_
      simp only [en45, b45_8, x_ireturn, klp_0, klp_1, klp_2, klp_3, klp_9, KC_0, KC_1, KC_2, KC_3, KC_4, ne_eq, not_false_eq_true, not_true_eq_false, true_and, and_true, and_self, implies_true, eq_self, true_imp_iff, false_implies, Int.reduceEq, Int.reduceNe, Int.reduceMod, Int.reduceMul, Int.reduceAdd, Int.reduceSub, Int.reduceNeg, Int.reduceLT, Int.reduceLE, Nat.reduceAdd, Nat.reduceLeDiff, Nat.reduceLT, Nat.reduceSub, reduceIte, wds_n, wds_0, wds_1, wds_2, wds_3, or_true, true_or, or_false, false_or, or_self]
      exact hQ
    · rw [if_pos (Classical.not_not.mp hc)] at hQ
      simp only [en45, b45_8, x_ireturn, klp_0, klp_1, klp_2, klp_3, klp_9, KC_0, KC_1, KC_2, KC_3, KC_4, ne_eq, not_false_eq_true, not_true_eq_false, true_and, and_true, and_self, implies_true, eq_self, true_imp_iff, false_implies, Int.reduceEq, Int.reduceNe, Int.reduceMod, Int.reduceMul, Int.reduceAdd, Int.reduceSub, Int.reduceNeg, Int.reduceLT, Int.reduceLE, Nat.reduceAdd, Nat.reduceLeDiff, Nat.reduceLT, Nat.reduceSub, reduceIte, wds_n, wds_0, wds_1, wds_2, wds_3, or_true, true_or, or_false, false_or, or_self]
      exact hQ
  | m + 1, j, a, i, h0, hm, hi0, hij, hQ => by
    have h1 : (o = 0) = False := eq_false (by have := S.1.1; omega)
    have hlt : j.toNat < l.length := by omega
    rw [List.drop_eq_getElem_cons hlt, fnd, List.getElem_eq_getD 0] at hQ
    refine G_in ?_
    simp only [en45, b45_2, x_aload1, y_call36, y_call46, x_goto_5, x_i2l, x_iconst, x_if_icmp_eq_3, x_if_icmp_ge_6, x_iload5, x_lload3, x_lor, x_lshl, x_lstore3, klp_0, klp_1, klp_2, klp_3, klp_9, KC_0, KC_1, KC_2, KC_3, KC_4, ne_eq, not_false_eq_true, not_true_eq_false, true_and, and_true, and_self, implies_true, eq_self, true_imp_iff, false_implies, Int.reduceEq, Int.reduceNe, Int.reduceMod, Int.reduceMul, Int.reduceAdd, Int.reduceSub, Int.reduceNeg, Int.reduceLT, Int.reduceLE, Nat.reduceAdd, Nat.reduceLeDiff, Nat.reduceLT, Nat.reduceSub, reduceIte, wds_n, wds_0, wds_1, wds_2, wds_3, or_true, true_or, or_false, false_or, or_self, h1, S.1.2]
    refine ⟨by omega, s36 (by omega) S hl ?_⟩
    simp only [en45, b45_2, x_aload1, y_call36, y_call46, x_goto_5, x_i2l, x_iconst, x_if_icmp_eq_3, x_if_icmp_ge_6, x_iload5, x_lload3, x_lor, x_lshl, x_lstore3, klp_0, klp_1, klp_2, klp_3, klp_9, KC_0, KC_1, KC_2, KC_3, KC_4, ne_eq, not_false_eq_true, not_true_eq_false, true_and, and_true, and_self, implies_true, eq_self, true_imp_iff, false_implies, Int.reduceEq, Int.reduceNe, Int.reduceMod, Int.reduceMul, Int.reduceAdd, Int.reduceSub, Int.reduceNeg, Int.reduceLT, Int.reduceLE, Nat.reduceAdd, Nat.reduceLeDiff, Nat.reduceLT, Nat.reduceSub, reduceIte, wds_n, wds_0, wds_1, wds_2, wds_3, or_true, true_or, or_false, false_or, or_self, h1, S.1.2]
    refine ⟨fun q => by omega, fun _ => ⟨by omega, s46 (by omega) S hl h0 (by omega) ?_⟩⟩
    simp only [en45, b45_2, x_aload1, y_call36, y_call46, x_goto_5, x_i2l, x_iconst, x_if_icmp_eq_3, x_if_icmp_ge_6, x_iload5, x_lload3, x_lor, x_lshl, x_lstore3, klp_0, klp_1, klp_2, klp_3, klp_9, KC_0, KC_1, KC_2, KC_3, KC_4, ne_eq, not_false_eq_true, not_true_eq_false, true_and, and_true, and_self, implies_true, eq_self, true_imp_iff, false_implies, Int.reduceEq, Int.reduceNe, Int.reduceMod, Int.reduceMul, Int.reduceAdd, Int.reduceSub, Int.reduceNeg, Int.reduceLT, Int.reduceLE, Nat.reduceAdd, Nat.reduceLeDiff, Nat.reduceLT, Nat.reduceSub, reduceIte, wds_n, wds_0, wds_1, wds_2, wds_3, or_true, true_or, or_false, false_or, or_self, h1, S.1.2]
    refine ⟨fun hc => G_in ?_, fun hc => ⟨by omega, s46 (by omega) S hl h0 (by omega) ?_⟩⟩
    · rw [if_pos hc] at hQ
      simp only [en45, b45_3, x_aload0, x_gf_1073, x_ifCond_ne_4, x_iload2, x_ireturn, x_lcmp, x_lload3, klp_0, klp_1, klp_2, klp_3, klp_9, KC_0, KC_1, KC_2, KC_3, KC_4, ne_eq, not_false_eq_true, not_true_eq_false, true_and, and_true, and_self, implies_true, eq_self, true_imp_iff, false_implies, Int.reduceEq, Int.reduceNe, Int.reduceMod, Int.reduceMul, Int.reduceAdd, Int.reduceSub, Int.reduceNeg, Int.reduceLT, Int.reduceLE, Nat.reduceAdd, Nat.reduceLeDiff, Nat.reduceLT, Nat.reduceSub, reduceIte, wds_n, wds_0, wds_1, wds_2, wds_3, or_true, true_or, or_false, false_or, or_self, hw, l_cmp_0]
      refine ⟨fun hc2 => G_in ?_, fun hc2 => ?_⟩
      · rw [if_neg hc2] at hQ
        simp only [en45, b45_4, x_bipush, x_goto_5, x_iinc2, x_lstore3, klp_0, klp_1, klp_2, klp_3, klp_9, KC_0, KC_1, KC_2, KC_3, KC_4, ne_eq, not_false_eq_true, not_true_eq_false, true_and, and_true, and_self, implies_true, eq_self, true_imp_iff, false_implies, Int.reduceEq, Int.reduceNe, Int.reduceMod, Int.reduceMul, Int.reduceAdd, Int.reduceSub, Int.reduceNeg, Int.reduceLT, Int.reduceLE, Nat.reduceAdd, Nat.reduceLeDiff, Nat.reduceLT, Nat.reduceSub, reduceIte, wds_n, wds_0, wds_1, wds_2, wds_3, or_true, true_or, or_false, false_or, or_self]
        refine G_in ?_
        simp only [en45, b45_5, x_goto_2, x_iinc5, klp_0, klp_1, klp_2, klp_3, klp_9, KC_0, KC_1, KC_2, KC_3, KC_4, ne_eq, not_false_eq_true, not_true_eq_false, true_and, and_true, and_self, implies_true, eq_self, true_imp_iff, false_implies, Int.reduceEq, Int.reduceNe, Int.reduceMod, Int.reduceMul, Int.reduceAdd, Int.reduceSub, Int.reduceNeg, Int.reduceLT, Int.reduceLE, Nat.reduceAdd, Nat.reduceLeDiff, Nat.reduceLT, Nat.reduceSub, reduceIte, wds_n, wds_0, wds_1, wds_2, wds_3, or_true, true_or, or_false, false_or, or_self]
        rw [w32_id (x := i + 1) (by omega), w32_id (x := j + 1) (by omega)]
        refine lp45 hd S hl hw m (j + 1) 0 (i + 1) (by omega) (by omega) (by omega) (by omega) ?_
        rw [show (j + 1).toNat = j.toNat + 1 by omega]
        exact hQ
      · rw [if_pos (Classical.not_not.mp hc2)] at hQ
        exact hQ
    · rw [if_neg hc] at hQ
      simp only [en45, b45_2, x_aload1, y_call36, y_call46, x_goto_5, x_i2l, x_iconst, x_if_icmp_eq_3, x_if_icmp_ge_6, x_iload5, x_lload3, x_lor, x_lshl, x_lstore3, klp_0, klp_1, klp_2, klp_3, klp_9, KC_0, KC_1, KC_2, KC_3, KC_4, ne_eq, not_false_eq_true, not_true_eq_false, true_and, and_true, and_self, implies_true, eq_self, true_imp_iff, false_implies, Int.reduceEq, Int.reduceNe, Int.reduceMod, Int.reduceMul, Int.reduceAdd, Int.reduceSub, Int.reduceNeg, Int.reduceLT, Int.reduceLE, Nat.reduceAdd, Nat.reduceLeDiff, Nat.reduceLT, Nat.reduceSub, reduceIte, wds_n, wds_0, wds_1, wds_2, wds_3, or_true, true_or, or_false, false_or, or_self]
      refine G_in ?_
      simp only [en45, b45_5, x_goto_2, x_iinc5, klp_0, klp_1, klp_2, klp_3, klp_9, KC_0, KC_1, KC_2, KC_3, KC_4, ne_eq, not_false_eq_true, not_true_eq_false, true_and, and_true, and_self, implies_true, eq_self, true_imp_iff, false_implies, Int.reduceEq, Int.reduceNe, Int.reduceMod, Int.reduceMul, Int.reduceAdd, Int.reduceSub, Int.reduceNeg, Int.reduceLT, Int.reduceLE, Nat.reduceAdd, Nat.reduceLeDiff, Nat.reduceLT, Nat.reduceSub, reduceIte, wds_n, wds_0, wds_1, wds_2, wds_3, or_true, true_or, or_false, false_or, or_self]
      rw [w32_id (x := j + 1) (by omega)]
      refine lp45 hd S hl hw m (j + 1) _ i (by omega) (by omega) (by omega) (by omega) ?_
      rw [show (j + 1).toNat = j.toNat + 1 by omega]
      exact hQ
/-- Scanner.find -/
theorem s45 {d : Nat} {o : Int} {h : HV} {l : List Int} {Q : Int → HV → Prop} (hd : 4 < d) (S : STR h o l) (hl : l.length ≤ 1000) (hA : h 129 4 = 1 → Q (ix (h 129 6) (wordsOf l 0) 0) h) (hB : h 129 4 ≠ 1 → Q (-1) h) : Sp fz1 d 45 [(3, 129), (3, o)] h Q := by
  refine G_in ?_
  simp only [en45, b45_0, x_aload0, x_gf_1056, x_iconst, x_if_icmp_eq_1, x_ireturn, klp_0, klp_1, klp_2, klp_3, klp_9, KC_0, KC_1, KC_2, KC_3, KC_4, ne_eq, not_false_eq_true, not_true_eq_false, true_and, and_true, and_self, implies_true, eq_self, true_imp_iff, false_implies, Int.reduceEq, Int.reduceNe, Int.reduceMod, Int.reduceMul, Int.reduceAdd, Int.reduceSub, Int.reduceNeg, Int.reduceLT, Int.reduceLE, Nat.reduceAdd, Nat.reduceLeDiff, Nat.reduceLT, Nat.reduceSub, reduceIte, wds_n, wds_0, wds_1, wds_2, wds_3, or_true, true_or, or_false, false_or, or_self]
  refine ⟨fun hc => G_in ?_, fun hc => hB hc⟩
  simp only [en45, b45_1, x_bipush, x_goto_2, x_iconst, x_istore2, x_istore5, x_lstore3, klp_0, klp_1, klp_2, klp_3, klp_9, KC_0, KC_1, KC_2, KC_3, KC_4, ne_eq, not_false_eq_true, not_true_eq_false, true_and, and_true, and_self, implies_true, eq_self, true_imp_iff, false_implies, Int.reduceEq, Int.reduceNe, Int.reduceMod, Int.reduceMul, Int.reduceAdd, Int.reduceSub, Int.reduceNeg, Int.reduceLT, Int.reduceLE, Nat.reduceAdd, Nat.reduceLeDiff, Nat.reduceLT, Nat.reduceSub, reduceIte, wds_n, wds_0, wds_1, wds_2, wds_3, or_true, true_or, or_false, false_or, or_self]
  refine lp45 hd S hl rfl l.length 0 0 0 (by decide) (by omega) (by decide) (by decide) ?_
  rw [fnd_ix]
  exact hA hc
/-- Scanner.isSign -/
theorem s59 {d : Nat} {c : Int} {h : HV} {Q : Int → HV → Prop} (hA : h 129 4 = 4 ∧ h 129 9 = c → Q 1 h) (hB : ¬ (h 129 4 = 4 ∧ h 129 9 = c) → Q 0 h) : Sp fz1 d 59 [(3, 129), (0, c)] h Q := by
  refine G_in ?_
  simp only [en59, b59_0, b59_1, b59_2, x_aload0, x_freturn, x_gf_1056, x_gf_1101, x_goto_2, x_iconst, x_if_icmp_ne_1, x_iload1, klp_0, klp_1, klp_2, klp_3, klp_9, KC_0, KC_1, KC_2, KC_3, KC_4, ne_eq, not_false_eq_true, not_true_eq_false, true_and, and_true, and_self, implies_true, eq_self, true_imp_iff, false_implies, Int.reduceEq, Int.reduceNe, Int.reduceMod, Int.reduceMul, Int.reduceAdd, Int.reduceSub, Int.reduceNeg, Int.reduceLT, Int.reduceLE, Nat.reduceAdd, Nat.reduceLeDiff, Nat.reduceLT, Nat.reduceSub, reduceIte, wds_n, wds_0, wds_1, wds_2, wds_3, or_true, true_or, or_false, false_or, or_self]
  repeat' (first
    | (refine And.intro ?_ ?_)
    | (intro _; try (exfalso; omega))
    | (refine G_in ?_; simp only [en59, b59_0, b59_1, b59_2, x_aload0, x_freturn, x_gf_1056, x_gf_1101, x_goto_2, x_iconst, x_if_icmp_ne_1, x_iload1, klp_0, klp_1, klp_2, klp_3, klp_9, KC_0, KC_1, KC_2, KC_3, KC_4, ne_eq, not_false_eq_true, not_true_eq_false, true_and, and_true, and_self, implies_true, eq_self, true_imp_iff, false_implies, Int.reduceEq, Int.reduceNe, Int.reduceMod, Int.reduceMul, Int.reduceAdd, Int.reduceSub, Int.reduceNeg, Int.reduceLT, Int.reduceLE, Nat.reduceAdd, Nat.reduceLeDiff, Nat.reduceLT, Nat.reduceSub, reduceIte, wds_n, wds_0, wds_1, wds_2, wds_3, or_true, true_or, or_false, false_or, or_self])
    | omega
    | (exact hA (by omega))
    | (exact hB (by omega)))
/-- Scanner.findSign -/
theorem s111 {d : Nat} {o : Int} {h : HV} {l : List Int} {Q : Int → HV → Prop} (hd : 6 < d) (S : STR h o l) (hl : l.length ≤ 1000) (hl0 : 0 < l.length) (hs : h 129 4 = 4 → 0 ≤ h 129 9 ∧ h 129 9 ≤ 255) (hA : h 129 4 = 4 → Q (ixF (w8 (h 129 9)) l 0) h) (hB : h 129 4 ≠ 4 → Q (-1) h) : Sp fz1 d 111 [(3, 129), (3, o)] h Q := by
  have h1 : (o = 0) = False := eq_false (by have := S.1.1; omega)
  refine G_in ?_
  simp only [en111, b111_0, b111_1, b111_2, x_aload0, x_aload1, y_call33, x_gf_1056, x_gf_1101, x_goto_2, x_iconst, x_if_icmp_ne_1, x_ireturn, klp_0, klp_1, klp_2, klp_3, klp_9, KC_0, KC_1, KC_2, KC_3, KC_4, ne_eq, not_false_eq_true, not_true_eq_false, true_and, and_true, and_self, implies_true, eq_self, true_imp_iff, false_implies, Int.reduceEq, Int.reduceNe, Int.reduceMod, Int.reduceMul, Int.reduceAdd, Int.reduceSub, Int.reduceNeg, Int.reduceLT, Int.reduceLE, Nat.reduceAdd, Nat.reduceLeDiff, Nat.reduceLT, Nat.reduceSub, reduceIte, wds_n, wds_0, wds_1, wds_2, wds_3, or_true, true_or, or_false, false_or, or_self, h1, S.1.2]
  refine ⟨fun hc => G_in ?_, fun hc => ⟨by omega, s33 (by omega) S hl hl0 (hs (Classical.not_not.mp hc)) ?_⟩⟩
  · simp only [en111, b111_0, b111_1, b111_2, x_aload0, x_aload1, y_call33, x_gf_1056, x_gf_1101, x_goto_2, x_iconst, x_if_icmp_ne_1, x_ireturn, klp_0, klp_1, klp_2, klp_3, klp_9, KC_0, KC_1, KC_2, KC_3, KC_4, ne_eq, not_false_eq_true, not_true_eq_false, true_and, and_true, and_self, implies_true, eq_self, true_imp_iff, false_implies, Int.reduceEq, Int.reduceNe, Int.reduceMod, Int.reduceMul, Int.reduceAdd, Int.reduceSub, Int.reduceNeg, Int.reduceLT, Int.reduceLE, Nat.reduceAdd, Nat.reduceLeDiff, Nat.reduceLT, Nat.reduceSub, reduceIte, wds_n, wds_0, wds_1, wds_2, wds_3, or_true, true_or, or_false, false_or, or_self]
    refine G_in ?_
    simp only [en111, b111_0, b111_1, b111_2, x_aload0, x_aload1, y_call33, x_gf_1056, x_gf_1101, x_goto_2, x_iconst, x_if_icmp_ne_1, x_ireturn, klp_0, klp_1, klp_2, klp_3, klp_9, KC_0, KC_1, KC_2, KC_3, KC_4, ne_eq, not_false_eq_true, not_true_eq_false, true_and, and_true, and_self, implies_true, eq_self, true_imp_iff, false_implies, Int.reduceEq, Int.reduceNe, Int.reduceMod, Int.reduceMul, Int.reduceAdd, Int.reduceSub, Int.reduceNeg, Int.reduceLT, Int.reduceLE, Nat.reduceAdd, Nat.reduceLeDiff, Nat.reduceLT, Nat.reduceSub, reduceIte, wds_n, wds_0, wds_1, wds_2, wds_3, or_true, true_or, or_false, false_or, or_self]
    exact hB hc
  · simp only [en111, b111_0, b111_1, b111_2, x_aload0, x_aload1, y_call33, x_gf_1056, x_gf_1101, x_goto_2, x_iconst, x_if_icmp_ne_1, x_ireturn, klp_0, klp_1, klp_2, klp_3, klp_9, KC_0, KC_1, KC_2, KC_3, KC_4, ne_eq, not_false_eq_true, not_true_eq_false, true_and, and_true, and_self, implies_true, eq_self, true_imp_iff, false_implies, Int.reduceEq, Int.reduceNe, Int.reduceMod, Int.reduceMul, Int.reduceAdd, Int.reduceSub, Int.reduceNeg, Int.reduceLT, Int.reduceLE, Nat.reduceAdd, Nat.reduceLeDiff, Nat.reduceLT, Nat.reduceSub, reduceIte, wds_n, wds_0, wds_1, wds_2, wds_3, or_true, true_or, or_false, false_or, or_self]
    refine G_in ?_
    simp only [en111, b111_0, b111_1, b111_2, x_aload0, x_aload1, y_call33, x_gf_1056, x_gf_1101, x_goto_2, x_iconst, x_if_icmp_ne_1, x_ireturn, klp_0, klp_1, klp_2, klp_3, klp_9, KC_0, KC_1, KC_2, KC_3, KC_4, ne_eq, not_false_eq_true, not_true_eq_false, true_and, and_true, and_self, implies_true, eq_self, true_imp_iff, false_implies, Int.reduceEq, Int.reduceNe, Int.reduceMod, Int.reduceMul, Int.reduceAdd, Int.reduceSub, Int.reduceNeg, Int.reduceLT, Int.reduceLE, Nat.reduceAdd, Nat.reduceLeDiff, Nat.reduceLT, Nat.reduceSub, reduceIte, wds_n, wds_0, wds_1, wds_2, wds_3, or_true, true_or, or_false, false_or, or_self]
    exact hA (Classical.not_not.mp hc)
/-! numbers, class -/
theorem w64_dg (V c : Int) : w64 (w64 (w64 V * 10) + c) = w64 (V * 10 + c) := by unfold w64; omega
theorem dgF_s {tp : Int → Int} {t p : Int} {n : Nat} (h : isD tp t p) : dgF tp t (n + 1) p = dgF tp t n (p + 1) := by rw [dgF, if_pos h]
theorem dgF_n {tp : Int → Int} {t p : Int} {n : Nat} (h : ¬ isD tp t p) : dgF tp t (n + 1) p = p := by rw [dgF, if_neg h]
theorem dvF_s {tp : Int → Int} {p e V : Int} (h : p < e) : dvF tp (e - p).toNat p V = dvF tp (e - (p + 1)).toNat (p + 1) (V * 10 + (tp p - 48)) := by
  rw [show (e - p).toNat = (e - (p + 1)).toNat + 1 by omega, dvF]
theorem dvF_0 {tp : Int → Int} {p V : Int} : dvF tp (p - p).toNat p V = V := by rw [show (p - p).toNat = 0 by omega, dvF]

theorem lp32a {d : Nat} {t f : Int} {h : HV} {Q : Int → HV → Prop} (hd : 0 < d) (ht : h 129 1 = t) (htm : t ≤ 2400) : ∀ (n : Nat) (p V : Int), 0 ≤ p → t ≤ p + n → G fz1 d 32 2 [(3, 129), (9, 0)] [] (hset (hset h 129 7 (w64 (dvF (h 227) (dgF (h 227) t n p - p).toNat p V))) 129 2 (dgF (h 227) t n p)) Q → G fz1 d 32 1 [(3, 129), (9, 0)] [] (hset (hset h 129 7 (w64 V)) 129 2 p) Q
  | 0, p, V, h0, hn, hQ => by
    rw [dgF, dvF_0] at hQ
    refine G_in ?_
    simp only [en32, b32_1, x_aload0, x_baload, x_bipush, y_call31, x_dup0, x_dup3, x_gc_1027, x_gf_1032, x_gf_1040, x_gf_1081, x_goto_1, x_i2l, x_iadd, x_iconst, x_ifCond_eq_2, x_if_icmp_ge_2, x_isub, x_ladd, x_lmul, x_pf_1040, x_pf_1081, klp_0, klp_1, klp_2, klp_3, klp_9, KC_0, KC_1, KC_2, KC_3, KC_4, ne_eq, not_false_eq_true, not_true_eq_false, true_and, and_true, and_self, implies_true, eq_self, true_imp_iff, false_implies, Int.reduceEq, Int.reduceNe, Int.reduceMod, Int.reduceMul, Int.reduceAdd, Int.reduceSub, Int.reduceNeg, Int.reduceLT, Int.reduceLE, Nat.reduceAdd, Nat.reduceLeDiff, Nat.reduceLT, Nat.reduceSub, reduceIte, wds_n, wds_0, wds_1, wds_2, wds_3, or_true, true_or, or_false, false_or, or_self, hs_eq, ht]
    exact ⟨fun _ => hQ, fun q => (q (by omega)).elim⟩
  | n + 1, p, V, h0, hn, hQ => by
    have e1 : (hset (hset h 129 7 (w64 V)) 129 2 p) 227 = h 227 := by rw [hs_ne (by decide), hs_ne (by decide)]
    have e2 : (hset (hset h 129 7 (w64 V)) 129 2 p) 129 1 = t := by simp only [hs_eq, ne_eq, not_false_eq_true, not_true_eq_false, true_and, and_true, and_self, implies_true, eq_self, true_imp_iff, false_implies, Int.reduceEq, Int.reduceNe, Int.reduceMod, Int.reduceMul, Int.reduceAdd, Int.reduceSub, Int.reduceNeg, Int.reduceLT, Int.reduceLE, Nat.reduceAdd, Nat.reduceLeDiff, Nat.reduceLT, Nat.reduceSub, reduceIte, wds_n, wds_0, wds_1, wds_2, wds_3, or_true, true_or, or_false, false_or, or_self, ht]
    by_cases hc : isD (h 227) t p
    · rw [dgF_s hc] at hQ
      have hge := dgF_ge (h 227) t n (p + 1)
      rw [dvF_s (by omega)] at hQ
      refine G_in ?_
      simp only [en32, b32_1, x_aload0, x_baload, x_bipush, y_call31, x_dup0, x_dup3, x_gc_1027, x_gf_1032, x_gf_1040, x_gf_1081, x_goto_1, x_i2l, x_iadd, x_iconst, x_ifCond_eq_2, x_if_icmp_ge_2, x_isub, x_ladd, x_lmul, x_pf_1040, x_pf_1081, klp_0, klp_1, klp_2, klp_3, klp_9, KC_0, KC_1, KC_2, KC_3, KC_4, ne_eq, not_false_eq_true, not_true_eq_false, true_and, and_true, and_self, implies_true, eq_self, true_imp_iff, false_implies, Int.reduceEq, Int.reduceNe, Int.reduceMod, Int.reduceMul, Int.reduceAdd, Int.reduceSub, Int.reduceNeg, Int.reduceLT, Int.reduceLE, Nat.reduceAdd, Nat.reduceLeDiff, Nat.reduceLT, Nat.reduceSub, reduceIte, wds_n, wds_0, wds_1, wds_2, wds_3, or_true, true_or, or_false, false_or, or_self, hs_eq, hs_ne, ht]
      refine ⟨fun q => by omega, fun _ => ⟨hd, s31 e2 htm h0 (fun _ => ?_) (fun q2 => ?_)⟩⟩
      · simp only [en32, b32_1, x_aload0, x_baload, x_bipush, y_call31, x_dup0, x_dup3, x_gc_1027, x_gf_1032, x_gf_1040, x_gf_1081, x_goto_1, x_i2l, x_iadd, x_iconst, x_ifCond_eq_2, x_if_icmp_ge_2, x_isub, x_ladd, x_lmul, x_pf_1040, x_pf_1081, klp_0, klp_1, klp_2, klp_3, klp_9, KC_0, KC_1, KC_2, KC_3, KC_4, ne_eq, not_false_eq_true, not_true_eq_false, true_and, and_true, and_self, implies_true, eq_self, true_imp_iff, false_implies, Int.reduceEq, Int.reduceNe, Int.reduceMod, Int.reduceMul, Int.reduceAdd, Int.reduceSub, Int.reduceNeg, Int.reduceLT, Int.reduceLE, Nat.reduceAdd, Nat.reduceLeDiff, Nat.reduceLT, Nat.reduceSub, reduceIte, wds_n, wds_0, wds_1, wds_2, wds_3, or_true, true_or, or_false, false_or, or_self, hs_eq, hs_ne, ht, z129_0, z227_l]
        refine ⟨⟨h0, by omega⟩, ?_⟩
        rw [w32_id (x := p + 1) (by omega), w32_id (x := h 227 p - 48) (by omega), w64_dg, hset_4 h (by decide)]
        exact lp32a (f := f) hd ht htm n (p + 1) _ (by omega) (by omega) hQ
      · rw [e1] at q2
        exact (q2 hc).elim
    · rw [dgF_n hc, dvF_0] at hQ
      refine G_in ?_
      simp only [en32, b32_1, x_aload0, x_baload, x_bipush, y_call31, x_dup0, x_dup3, x_gc_1027, x_gf_1032, x_gf_1040, x_gf_1081, x_goto_1, x_i2l, x_iadd, x_iconst, x_ifCond_eq_2, x_if_icmp_ge_2, x_isub, x_ladd, x_lmul, x_pf_1040, x_pf_1081, klp_0, klp_1, klp_2, klp_3, klp_9, KC_0, KC_1, KC_2, KC_3, KC_4, ne_eq, not_false_eq_true, not_true_eq_false, true_and, and_true, and_self, implies_true, eq_self, true_imp_iff, false_implies, Int.reduceEq, Int.reduceNe, Int.reduceMod, Int.reduceMul, Int.reduceAdd, Int.reduceSub, Int.reduceNeg, Int.reduceLT, Int.reduceLE, Nat.reduceAdd, Nat.reduceLeDiff, Nat.reduceLT, Nat.reduceSub, reduceIte, wds_n, wds_0, wds_1, wds_2, wds_3, or_true, true_or, or_false, false_or, or_self, hs_eq, hs_ne, ht]
      refine ⟨fun _ => hQ, fun _ => ⟨hd, s31 e2 htm h0 (fun q2 => ?_) (fun q2 => ?_)⟩⟩
      · rw [e1] at q2
        exact (hc q2).elim
      · simp only [en32, b32_1, x_aload0, x_baload, x_bipush, y_call31, x_dup0, x_dup3, x_gc_1027, x_gf_1032, x_gf_1040, x_gf_1081, x_goto_1, x_i2l, x_iadd, x_iconst, x_ifCond_eq_2, x_if_icmp_ge_2, x_isub, x_ladd, x_lmul, x_pf_1040, x_pf_1081, klp_0, klp_1, klp_2, klp_3, klp_9, KC_0, KC_1, KC_2, KC_3, KC_4, ne_eq, not_false_eq_true, not_true_eq_false, true_and, and_true, and_self, implies_true, eq_self, true_imp_iff, false_implies, Int.reduceEq, Int.reduceNe, Int.reduceMod, Int.reduceMul, Int.reduceAdd, Int.reduceSub, Int.reduceNeg, Int.reduceLT, Int.reduceLE, Nat.reduceAdd, Nat.reduceLeDiff, Nat.reduceLT, Nat.reduceSub, reduceIte, wds_n, wds_0, wds_1, wds_2, wds_3, or_true, true_or, or_false, false_or, or_self]
        exact hQ

theorem lp32b {d : Nat} {t f : Int} {h : HV} {Q : Int → HV → Prop} (hd : 0 < d) (ht : h 129 1 = t) (htm : t ≤ 2400) : ∀ (n : Nat) (p V : Int), 0 ≤ p → t ≤ p + n → G fz1 d 32 8 [(3, 129), (0, f)] [] (hset (hset h 129 7 (w64 (dvF (h 227) (dgF (h 227) t n p - p).toNat p V))) 129 2 (dgF (h 227) t n p)) Q → G fz1 d 32 7 [(3, 129), (0, f)] [] (hset (hset h 129 7 (w64 V)) 129 2 p) Q
  | 0, p, V, h0, hn, hQ => by
    rw [dgF, dvF_0] at hQ
    refine G_in ?_
    simp only [en32, b32_7, x_aload0, x_baload, x_bipush, y_call31, x_dup0, x_dup3, x_gc_1027, x_gf_1032, x_gf_1040, x_gf_1081, x_goto_7, x_i2l, x_iadd, x_iconst, x_ifCond_eq_8, x_if_icmp_ge_8, x_isub, x_ladd, x_lmul, x_pf_1040, x_pf_1081, klp_0, klp_1, klp_2, klp_3, klp_9, KC_0, KC_1, KC_2, KC_3, KC_4, ne_eq, not_false_eq_true, not_true_eq_false, true_and, and_true, and_self, implies_true, eq_self, true_imp_iff, false_implies, Int.reduceEq, Int.reduceNe, Int.reduceMod, Int.reduceMul, Int.reduceAdd, Int.reduceSub, Int.reduceNeg, Int.reduceLT, Int.reduceLE, Nat.reduceAdd, Nat.reduceLeDiff, Nat.reduceLT, Nat.reduceSub, reduceIte, wds_n, wds_0, wds_1, wds_2, wds_3, or_true, true_or, or_false, false_or, or_self, hs_eq, ht]
    exact ⟨fun _ => hQ, fun q => (q (by omega)).elim⟩
  | n + 1, p, V, h0, hn, hQ => by
    have e1 : (hset (hset h 129 7 (w64 V)) 129 2 p) 227 = h 227 := by rw [hs_ne (by decide), hs_ne (by decide)]
    have e2 : (hset (hset h 129 7 (w64 V)) 129 2 p) 129 1 = t := by simp only [hs_eq, ne_eq, not_false_eq_true, not_true_eq_false, true_and, and_true, and_self, implies_true, eq_self, true_imp_iff, false_implies, Int.reduceEq, Int.reduceNe, Int.reduceMod, Int.reduceMul, Int.reduceAdd, Int.reduceSub, Int.reduceNeg, Int.reduceLT, Int.reduceLE, Nat.reduceAdd, Nat.reduceLeDiff, Nat.reduceLT, Nat.reduceSub, reduceIte, wds_n, wds_0, wds_1, wds_2, wds_3, or_true, true_or, or_false, false_or, or_self, ht]
    by_cases hc : isD (h 227) t p
    · rw [dgF_s hc] at hQ
      have hge := dgF_ge (h 227) t n (p + 1)
      rw [dvF_s (by omega)] at hQ
      refine G_in ?_
      simp only [en32, b32_7, x_aload0, x_baload, x_bipush, y_call31, x_dup0, x_dup3, x_gc_1027, x_gf_1032, x_gf_1040, x_gf_1081, x_goto_7, x_i2l, x_iadd, x_iconst, x_ifCond_eq_8, x_if_icmp_ge_8, x_isub, x_ladd, x_lmul, x_pf_1040, x_pf_1081, klp_0, klp_1, klp_2, klp_3, klp_9, KC_0, KC_1, KC_2, KC_3, KC_4, ne_eq, not_false_eq_true, not_true_eq_false, true_and, and_true, and_self, implies_true, eq_self, true_imp_iff, false_implies, Int.reduceEq, Int.reduceNe, Int.reduceMod, Int.reduceMul, Int.reduceAdd, Int.reduceSub, Int.reduceNeg, Int.reduceLT, Int.reduceLE, Nat.reduceAdd, Nat.reduceLeDiff, Nat.reduceLT, Nat.reduceSub, reduceIte, wds_n, wds_0, wds_1, wds_2, wds_3, or_true, true_or, or_false, false_or, or_self, hs_eq, hs_ne, ht]
      refine ⟨fun q => by omega, fun _ => ⟨hd, s31 e2 htm h0 (fun _ => ?_) (fun q2 => ?_)⟩⟩
      · simp only [en32, b32_7, x_aload0, x_baload, x_bipush, y_call31, x_dup0, x_dup3, x_gc_1027, x_gf_1032, x_gf_1040, x_gf_1081, x_goto_7, x_i2l, x_iadd, x_iconst, x_ifCond_eq_8, x_if_icmp_ge_8, x_isub, x_ladd, x_lmul, x_pf_1040, x_pf_1081, klp_0, klp_1, klp_2, klp_3, klp_9, KC_0, KC_1, KC_2, KC_3, KC_4, ne_eq, not_false_eq_true, not_true_eq_false, true_and, and_true, and_self, implies_true, eq_self, true_imp_iff, false_implies, Int.reduceEq, Int.reduceNe, Int.reduceMod, Int.reduceMul, Int.reduceAdd, Int.reduceSub, Int.reduceNeg, Int.reduceLT, Int.reduceLE, Nat.reduceAdd, Nat.reduceLeDiff, Nat.reduceLT, Nat.reduceSub, reduceIte, wds_n, wds_0, wds_1, wds_2, wds_3, or_true, true_or, or_false, false_or, or_self, hs_eq, hs_ne, ht, z129_0, z227_l]
        refine ⟨⟨h0, by omega⟩, ?_⟩
        rw [w32_id (x := p + 1) (by omega), w32_id (x := h 227 p - 48) (by omega), w64_dg, hset_4 h (by decide)]
        exact lp32b (f := f) hd ht htm n (p + 1) _ (by omega) (by omega) hQ
      · rw [e1] at q2
        exact (q2 hc).elim
    · rw [dgF_n hc, dvF_0] at hQ
      refine G_in ?_
      simp only [en32, b32_7, x_aload0, x_baload, x_bipush, y_call31, x_dup0, x_dup3, x_gc_1027, x_gf_1032, x_gf_1040, x_gf_1081, x_goto_7, x_i2l, x_iadd, x_iconst, x_ifCond_eq_8, x_if_icmp_ge_8, x_isub, x_ladd, x_lmul, x_pf_1040, x_pf_1081, klp_0, klp_1, klp_2, klp_3, klp_9, KC_0, KC_1, KC_2, KC_3, KC_4, ne_eq, not_false_eq_true, not_true_eq_false, true_and, and_true, and_self, implies_true, eq_self, true_imp_iff, false_implies, Int.reduceEq, Int.reduceNe, Int.reduceMod, Int.reduceMul, Int.reduceAdd, Int.reduceSub, Int.reduceNeg, Int.reduceLT, Int.reduceLE, Nat.reduceAdd, Nat.reduceLeDiff, Nat.reduceLT, Nat.reduceSub, reduceIte, wds_n, wds_0, wds_1, wds_2, wds_3, or_true, true_or, or_false, false_or, or_self, hs_eq, hs_ne, ht]
      refine ⟨fun _ => hQ, fun _ => ⟨hd, s31 e2 htm h0 (fun q2 => ?_) (fun q2 => ?_)⟩⟩
      · rw [e1] at q2
        exact (hc q2).elim
      · simp only [en32, b32_7, x_aload0, x_baload, x_bipush, y_call31, x_dup0, x_dup3, x_gc_1027, x_gf_1032, x_gf_1040, x_gf_1081, x_goto_7, x_i2l, x_iadd, x_iconst, x_ifCond_eq_8, x_if_icmp_ge_8, x_isub, x_ladd, x_lmul, x_pf_1040, x_pf_1081, klp_0, klp_1, klp_2, klp_3, klp_9, KC_0, KC_1, KC_2, KC_3, KC_4, ne_eq, not_false_eq_true, not_true_eq_false, true_and, and_true, and_self, implies_true, eq_self, true_imp_iff, false_implies, Int.reduceEq, Int.reduceNe, Int.reduceMod, Int.reduceMul, Int.reduceAdd, Int.reduceSub, Int.reduceNeg, Int.reduceLT, Int.reduceLE, Nat.reduceAdd, Nat.reduceLeDiff, Nat.reduceLT, Nat.reduceSub, reduceIte, wds_n, wds_0, wds_1, wds_2, wds_3, or_true, true_or, or_false, false_or, or_self]
        exact hQ

/-- a number from s on: its end, whether it is a REAL -/
def nuE (tp : Int → Int) (t s : Int) : Int := dgF tp t 2400 s
abbrev nuR (tp : Int → Int) (t s : Int) : Prop := nuE tp t s < t ∧ tp (nuE tp t s) = 46 ∧ isD tp t (nuE tp t s + 1)
def nuF (tp : Int → Int) (t s : Int) : Int := dgF tp t 2400 (nuE tp t s + 1)
def nuV (tp : Int → Int) (t s : Int) : Int := dvF tp (nuE tp t s - s).toNat s 0
def nuW (tp : Int → Int) (t s : Int) : Int := dvF tp (nuF tp t s - (nuE tp t s + 1)).toNat (nuE tp t s + 1) (nuV tp t s)
theorem nuE_b {tp : Int → Int} {t s : Int} (h : s ≤ t) : s ≤ nuE tp t s ∧ nuE tp t s ≤ t := ⟨dgF_ge _ _ _ _, dgF_le _ _ _ _ h⟩
theorem nuF_b {tp : Int → Int} {t s : Int} (h : nuE tp t s + 1 ≤ t) : nuE tp t s + 1 ≤ nuF tp t s ∧ nuF tp t s ≤ t := ⟨dgF_ge _ _ _ _, dgF_le _ _ _ _ h⟩
/-- Scanner.takeNumber -/
theorem s32 {d : Nat} {t s : Int} {h : HV} {Q : Int → HV → Prop} (hd : 0 < d) (ht : h 129 1 = t) (htm : t ≤ 2400) (hp : h 129 2 = s) (hs : h 129 5 = s) (h0 : 0 ≤ s) (hst : s ≤ t)
    (hA : ¬ nuR (h 227) t s → Q 0 (hset (hset (hset h 129 7 (w64 (nuV (h 227) t s))) 129 2 (nuE (h 227) t s)) 129 4 (if nuE (h 227) t s - s ≤ 6 then 2 else 5)))
    (hB : nuR (h 227) t s → ∀ h' : HV, (∀ o, o ≠ 129 → h' o = h o) → (∀ i, i ≠ 2 → i ≠ 4 → i ≠ 7 → i ≠ 8 → h' 129 i = h 129 i) → h' 129 2 = nuF (h 227) t s → h' 129 7 = w64 (nuW (h 227) t s) → h' 129 8 = nuF (h 227) t s - (nuE (h 227) t s + 1) → h' 129 4 = (if nuE (h 227) t s - s ≤ 6 ∧ nuF (h 227) t s - (nuE (h 227) t s + 1) ≤ 4 then 3 else 5) → Q 0 h') : Sp fz1 d 32 [(3, 129)] h Q := by
  have hb := nuE_b (tp := h 227) hst
  have e0 : hset h 129 7 0 = hset (hset h 129 7 (w64 0)) 129 2 s := by
    rw [show w64 0 = 0 from rfl, hset_self (h := hset h 129 7 0) (o := 129) (i := 2) (x := s)]
    simp only [hs_eq, ne_eq, not_false_eq_true, not_true_eq_false, true_and, and_true, and_self, implies_true, eq_self, true_imp_iff, false_implies, Int.reduceEq, Int.reduceNe, Int.reduceMod, Int.reduceMul, Int.reduceAdd, Int.reduceSub, Int.reduceNeg, Int.reduceLT, Int.reduceLE, Nat.reduceAdd, Nat.reduceLeDiff, Nat.reduceLT, Nat.reduceSub, reduceIte, wds_n, wds_0, wds_1, wds_2, wds_3, or_true, true_or, or_false, false_or, or_self, hp]
  refine G_in ?_
  simp only [en32, b32_0, x_aload0, x_bipush, x_goto_1, x_pf_1081, klp_0, klp_1, klp_2, klp_3, klp_9, KC_0, KC_1, KC_2, KC_3, KC_4, ne_eq, not_false_eq_true, not_true_eq_false, true_and, and_true, and_self, implies_true, eq_self, true_imp_iff, false_implies, Int.reduceEq, Int.reduceNe, Int.reduceMod, Int.reduceMul, Int.reduceAdd, Int.reduceSub, Int.reduceNeg, Int.reduceLT, Int.reduceLE, Nat.reduceAdd, Nat.reduceLeDiff, Nat.reduceLT, Nat.reduceSub, reduceIte, wds_n, wds_0, wds_1, wds_2, wds_3, or_true, true_or, or_false, false_or, or_self]
  rw [e0]
  refine lp32a (f := 0) hd ht htm 2400 s 0 h0 (by omega) ?_
  rw [show dgF (h 227) t 2400 s = nuE (h 227) t s from rfl, show dvF (h 227) (nuE (h 227) t s - s).toNat s 0 = nuV (h 227) t s from rfl]
  have e1 : w32 (nuE (h 227) t s - s) = nuE (h 227) t s - s := w32_id (by omega)
  have key : ∀ k : Int, k = (if nuE (h 227) t s - s ≤ 6 then 2 else 5) → G fz1 d 32 4 [(3, 129), (9, 0)] [(0, k), (3, 129)] (hset (hset h 129 7 (w64 (nuV (h 227) t s))) 129 2 (nuE (h 227) t s)) Q := by
    intro k hk
    rw [← hk] at hA
    have ew : w32 (nuE (h 227) t s + 1) = nuE (h 227) t s + 1 := w32_id (by omega)
    have h5 : ¬ nuR (h 227) t s → G fz1 d 32 5 [(3, 129), (9, 0)] [] (hset (hset (hset h 129 7 (w64 (nuV (h 227) t s))) 129 2 (nuE (h 227) t s)) 129 4 k) Q := fun q => by
      refine G_in ?_
      simp only [en32, b32_5, x_return, klp_0, klp_1, klp_2, klp_3, klp_9, KC_0, KC_1, KC_2, KC_3, KC_4, ne_eq, not_false_eq_true, not_true_eq_false, true_and, and_true, and_self, implies_true, eq_self, true_imp_iff, false_implies, Int.reduceEq, Int.reduceNe, Int.reduceMod, Int.reduceMul, Int.reduceAdd, Int.reduceSub, Int.reduceNeg, Int.reduceLT, Int.reduceLE, Nat.reduceAdd, Nat.reduceLeDiff, Nat.reduceLT, Nat.reduceSub, reduceIte, wds_n, wds_0, wds_1, wds_2, wds_3, or_true, true_or, or_false, false_or, or_self]
      exact hA q
    refine G_in ?_
    simp only [en32, b32_4, x_aload0, x_baload, y_call31, x_gc_1027, x_gf_1032, x_gf_1040, x_goto_5, x_iadd, x_iconst, x_ifCond_ne_6, x_if_icmp_ge_5, x_if_icmp_ne_5, x_pf_1056, klp_0, klp_1, klp_2, klp_3, klp_9, KC_0, KC_1, KC_2, KC_3, KC_4, ne_eq, not_false_eq_true, not_true_eq_false, true_and, and_true, and_self, implies_true, eq_self, true_imp_iff, false_implies, Int.reduceEq, Int.reduceNe, Int.reduceMod, Int.reduceMul, Int.reduceAdd, Int.reduceSub, Int.reduceNeg, Int.reduceLT, Int.reduceLE, Nat.reduceAdd, Nat.reduceLeDiff, Nat.reduceLT, Nat.reduceSub, reduceIte, wds_n, wds_0, wds_1, wds_2, wds_3, or_true, true_or, or_false, false_or, or_self, hs_eq, hs_ne, ht, z129_0, z227_l]
    refine ⟨fun q => h5 (by omega), fun q => ⟨⟨by omega, by omega⟩, fun q2 => h5 (by omega), fun q2 => ?_⟩⟩
    rw [ew]
    refine ⟨hd, s31 (t := t) ?_ htm (by omega) (fun q3 => ?_) (fun q3 => ?_)⟩
    · simp only [hs_eq, ne_eq, not_false_eq_true, not_true_eq_false, true_and, and_true, and_self, implies_true, eq_self, true_imp_iff, false_implies, Int.reduceEq, Int.reduceNe, Int.reduceMod, Int.reduceMul, Int.reduceAdd, Int.reduceSub, Int.reduceNeg, Int.reduceLT, Int.reduceLE, Nat.reduceAdd, Nat.reduceLeDiff, Nat.reduceLT, Nat.reduceSub, reduceIte, wds_n, wds_0, wds_1, wds_2, wds_3, or_true, true_or, or_false, false_or, or_self, ht]
    · have hR : nuR (h 227) t s := by
        rw [hs_ne (by decide), hs_ne (by decide), hs_ne (by decide)] at q3
        exact ⟨by omega, by omega, q3⟩
      have hb2 := nuF_b (tp := h 227) (t := t) (s := s) (by omega)
      have hQ2 := hB hR
      have ew2 : w32 (nuF (h 227) t s - (nuE (h 227) t s + 1)) = nuF (h 227) t s - (nuE (h 227) t s + 1) := w32_id (by omega)
      simp only [en32, b32_4, x_aload0, x_baload, y_call31, x_gc_1027, x_gf_1032, x_gf_1040, x_goto_5, x_iadd, x_iconst, x_ifCond_ne_6, x_if_icmp_ge_5, x_if_icmp_ne_5, x_pf_1056, klp_0, klp_1, klp_2, klp_3, klp_9, KC_0, KC_1, KC_2, KC_3, KC_4, ne_eq, not_false_eq_true, not_true_eq_false, true_and, and_true, and_self, implies_true, eq_self, true_imp_iff, false_implies, Int.reduceEq, Int.reduceNe, Int.reduceMod, Int.reduceMul, Int.reduceAdd, Int.reduceSub, Int.reduceNeg, Int.reduceLT, Int.reduceLE, Nat.reduceAdd, Nat.reduceLeDiff, Nat.reduceLT, Nat.reduceSub, reduceIte, wds_n, wds_0, wds_1, wds_2, wds_3, or_true, true_or, or_false, false_or, or_self]
      refine G_in ?_
      simp only [en32, b32_6, x_aload0, x_dup0, x_dup3, x_gf_1040, x_goto_7, x_iadd, x_iconst, x_istore1, x_pf_1040, klp_0, klp_1, klp_2, klp_3, klp_9, KC_0, KC_1, KC_2, KC_3, KC_4, ne_eq, not_false_eq_true, not_true_eq_false, true_and, and_true, and_self, implies_true, eq_self, true_imp_iff, false_implies, Int.reduceEq, Int.reduceNe, Int.reduceMod, Int.reduceMul, Int.reduceAdd, Int.reduceSub, Int.reduceNeg, Int.reduceLT, Int.reduceLE, Nat.reduceAdd, Nat.reduceLeDiff, Nat.reduceLT, Nat.reduceSub, reduceIte, wds_n, wds_0, wds_1, wds_2, wds_3, or_true, true_or, or_false, false_or, or_self, hs_eq, ew]
      have e6 : hset (hset (hset (hset h 129 7 (w64 (nuV (h 227) t s))) 129 2 (nuE (h 227) t s)) 129 4 k) 129 2 (nuE (h 227) t s + 1) = hset (hset (hset h 129 4 k) 129 7 (w64 (nuV (h 227) t s))) 129 2 (nuE (h 227) t s + 1) := by
        rw [hset_swap (hset (hset h 129 7 _) 129 2 _) (o := 129) (i := 4) (p := 129) (j := 2) (by omega), hset_hset, hset_swap (hset h 129 7 _) (o := 129) (i := 2) (p := 129) (j := 4) (by omega), hset_swap h (o := 129) (i := 7) (p := 129) (j := 4) (by omega)]
      rw [e6]
      have e7 : (hset h 129 4 k) 227 = h 227 := hs_ne (by decide)
      refine lp32b (t := t) (f := nuE (h 227) t s + 1) (h := hset h 129 4 k) hd ?_ htm 2400 (nuE (h 227) t s + 1) (nuV (h 227) t s) (by omega) (by omega) ?_
      · simp only [hs_eq, ne_eq, not_false_eq_true, not_true_eq_false, true_and, and_true, and_self, implies_true, eq_self, true_imp_iff, false_implies, Int.reduceEq, Int.reduceNe, Int.reduceMod, Int.reduceMul, Int.reduceAdd, Int.reduceSub, Int.reduceNeg, Int.reduceLT, Int.reduceLE, Nat.reduceAdd, Nat.reduceLeDiff, Nat.reduceLT, Nat.reduceSub, reduceIte, wds_n, wds_0, wds_1, wds_2, wds_3, or_true, true_or, or_false, false_or, or_self, ht]
      rw [e7, show dgF (h 227) t 2400 (nuE (h 227) t s + 1) = nuF (h 227) t s from rfl, show dvF (h 227) (nuF (h 227) t s - (nuE (h 227) t s + 1)).toNat (nuE (h 227) t s + 1) (nuV (h 227) t s) = nuW (h 227) t s from rfl]
      have fin : ∀ k2 : Int, k2 = (if nuE (h 227) t s - s ≤ 6 ∧ nuF (h 227) t s - (nuE (h 227) t s + 1) ≤ 4 then 3 else 5) → G fz1 d 32 10 [(3, 129), (0, nuE (h 227) t s + 1)] [(0, k2), (3, 129)] (hset (hset (hset (hset h 129 4 k) 129 7 (w64 (nuW (h 227) t s))) 129 2 (nuF (h 227) t s)) 129 8 (nuF (h 227) t s - (nuE (h 227) t s + 1))) Q := by
        intro k2 hk2
        refine G_in ?_
        simp only [en32, b32_10, x_pf_1056, x_return, klp_0, klp_1, klp_2, klp_3, klp_9, KC_0, KC_1, KC_2, KC_3, KC_4, ne_eq, not_false_eq_true, not_true_eq_false, true_and, and_true, and_self, implies_true, eq_self, true_imp_iff, false_implies, Int.reduceEq, Int.reduceNe, Int.reduceMod, Int.reduceMul, Int.reduceAdd, Int.reduceSub, Int.reduceNeg, Int.reduceLT, Int.reduceLE, Nat.reduceAdd, Nat.reduceLeDiff, Nat.reduceLT, Nat.reduceSub, reduceIte, wds_n, wds_0, wds_1, wds_2, wds_3, or_true, true_or, or_false, false_or, or_self]
        refine hQ2 _ (fun o ho => ?_) (fun i h2 h4 h7 h8 => ?_) ?_ ?_ ?_ ?_
        · rw [hs_ne ho, hs_ne ho, hs_ne ho, hs_ne ho, hs_ne ho]
        · simp only [hs_eq, h2, h4, h7, h8, ne_eq, not_false_eq_true, not_true_eq_false, true_and, and_true, and_self, implies_true, eq_self, true_imp_iff, false_implies, Int.reduceEq, Int.reduceNe, Int.reduceMod, Int.reduceMul, Int.reduceAdd, Int.reduceSub, Int.reduceNeg, Int.reduceLT, Int.reduceLE, Nat.reduceAdd, Nat.reduceLeDiff, Nat.reduceLT, Nat.reduceSub, reduceIte, wds_n, wds_0, wds_1, wds_2, wds_3, or_true, true_or, or_false, false_or, or_self]
        all_goals simp only [hs_eq, hk2, ne_eq, not_false_eq_true, not_true_eq_false, true_and, and_true, and_self, implies_true, eq_self, true_imp_iff, false_implies, Int.reduceEq, Int.reduceNe, Int.reduceMod, Int.reduceMul, Int.reduceAdd, Int.reduceSub, Int.reduceNeg, Int.reduceLT, Int.reduceLE, Nat.reduceAdd, Nat.reduceLeDiff, Nat.reduceLT, Nat.reduceSub, reduceIte, wds_n, wds_0, wds_1, wds_2, wds_3, or_true, true_or, or_false, false_or, or_self]
      refine G_in ?_
      simp only [en32, b32_8, x_aload0, x_gf_1040, x_gf_1056, x_gf_1088, x_goto_10, x_iconst, x_if_icmp_gt_9, x_if_icmp_ne_9, x_iload1, x_isub, x_pf_1088, klp_0, klp_1, klp_2, klp_3, klp_9, KC_0, KC_1, KC_2, KC_3, KC_4, ne_eq, not_false_eq_true, not_true_eq_false, true_and, and_true, and_self, implies_true, eq_self, true_imp_iff, false_implies, Int.reduceEq, Int.reduceNe, Int.reduceMod, Int.reduceMul, Int.reduceAdd, Int.reduceSub, Int.reduceNeg, Int.reduceLT, Int.reduceLE, Nat.reduceAdd, Nat.reduceLeDiff, Nat.reduceLT, Nat.reduceSub, reduceIte, wds_n, wds_0, wds_1, wds_2, wds_3, or_true, true_or, or_false, false_or, or_self, hs_eq, ew2]
      refine ⟨fun q4 => G_in ?_, fun q4 => ⟨fun q5 => G_in ?_, fun q5 => fin 3 ?_⟩⟩
      · simp only [en32, b32_9, x_goto_10, x_iconst, klp_0, klp_1, klp_2, klp_3, klp_9, KC_0, KC_1, KC_2, KC_3, KC_4, ne_eq, not_false_eq_true, not_true_eq_false, true_and, and_true, and_self, implies_true, eq_self, true_imp_iff, false_implies, Int.reduceEq, Int.reduceNe, Int.reduceMod, Int.reduceMul, Int.reduceAdd, Int.reduceSub, Int.reduceNeg, Int.reduceLT, Int.reduceLE, Nat.reduceAdd, Nat.reduceLeDiff, Nat.reduceLT, Nat.reduceSub, reduceIte, wds_n, wds_0, wds_1, wds_2, wds_3, or_true, true_or, or_false, false_or, or_self]
        refine fin 5 ?_
        rw [if_neg]
        rw [hk] at q4
        intro q6
        rw [if_pos q6.1] at q4
        exact q4 rfl
      · simp only [en32, b32_9, x_goto_10, x_iconst, klp_0, klp_1, klp_2, klp_3, klp_9, KC_0, KC_1, KC_2, KC_3, KC_4, ne_eq, not_false_eq_true, not_true_eq_false, true_and, and_true, and_self, implies_true, eq_self, true_imp_iff, false_implies, Int.reduceEq, Int.reduceNe, Int.reduceMod, Int.reduceMul, Int.reduceAdd, Int.reduceSub, Int.reduceNeg, Int.reduceLT, Int.reduceLE, Nat.reduceAdd, Nat.reduceLeDiff, Nat.reduceLT, Nat.reduceSub, reduceIte, wds_n, wds_0, wds_1, wds_2, wds_3, or_true, true_or, or_false, false_or, or_self]
        refine fin 5 ?_
        rw [if_neg (by omega)]
      · rw [if_pos]
        refine ⟨?_, by omega⟩
        by_cases q6 : nuE (h 227) t s - s ≤ 6
        · exact q6
        · rw [hk, if_neg q6] at q4
          exact (q4 (by decide)).elim
    · simp only [en32, b32_4, x_aload0, x_baload, y_call31, x_gc_1027, x_gf_1032, x_gf_1040, x_goto_5, x_iadd, x_iconst, x_ifCond_ne_6, x_if_icmp_ge_5, x_if_icmp_ne_5, x_pf_1056, klp_0, klp_1, klp_2, klp_3, klp_9, KC_0, KC_1, KC_2, KC_3, KC_4, ne_eq, not_false_eq_true, not_true_eq_false, true_and, and_true, and_self, implies_true, eq_self, true_imp_iff, false_implies, Int.reduceEq, Int.reduceNe, Int.reduceMod, Int.reduceMul, Int.reduceAdd, Int.reduceSub, Int.reduceNeg, Int.reduceLT, Int.reduceLE, Nat.reduceAdd, Nat.reduceLeDiff, Nat.reduceLT, Nat.reduceSub, reduceIte, wds_n, wds_0, wds_1, wds_2, wds_3, or_true, true_or, or_false, false_or, or_self]
      refine h5 (fun q4 => q3 ?_)
      rw [hs_ne (by decide), hs_ne (by decide), hs_ne (by decide)]
      exact q4.2.2
  refine G_in ?_
  simp only [en32, b32_2, x_aload0, x_gf_1040, x_gf_1064, x_goto_4, x_iconst, x_if_icmp_gt_3, x_isub, klp_0, klp_1, klp_2, klp_3, klp_9, KC_0, KC_1, KC_2, KC_3, KC_4, ne_eq, not_false_eq_true, not_true_eq_false, true_and, and_true, and_self, implies_true, eq_self, true_imp_iff, false_implies, Int.reduceEq, Int.reduceNe, Int.reduceMod, Int.reduceMul, Int.reduceAdd, Int.reduceSub, Int.reduceNeg, Int.reduceLT, Int.reduceLE, Nat.reduceAdd, Nat.reduceLeDiff, Nat.reduceLT, Nat.reduceSub, reduceIte, wds_n, wds_0, wds_1, wds_2, wds_3, or_true, true_or, or_false, false_or, or_self, hs_eq, hs, e1]
  refine ⟨fun hc => G_in ?_, fun hc => key 2 (by rw [if_pos (by omega)])⟩
  simp only [en32, b32_3, x_goto_4, x_iconst, klp_0, klp_1, klp_2, klp_3, klp_9, KC_0, KC_1, KC_2, KC_3, KC_4, ne_eq, not_false_eq_true, not_true_eq_false, true_and, and_true, and_self, implies_true, eq_self, true_imp_iff, false_implies, Int.reduceEq, Int.reduceNe, Int.reduceMod, Int.reduceMul, Int.reduceAdd, Int.reduceSub, Int.reduceNeg, Int.reduceLT, Int.reduceLE, Nat.reduceAdd, Nat.reduceLeDiff, Nat.reduceLT, Nat.reduceSub, reduceIte, wds_n, wds_0, wds_1, wds_2, wds_3, or_true, true_or, or_false, false_or, or_self]
  exact key 5 (by rw [if_neg (by omega)])

/-! tokens, class -/
def SGL : List Int := [59, 58, 44, 61, 43, 45, 42, 47, 37, 60, 62, 40, 41, 91, 93, 123, 125]
/-- the token that begins at s: where it ends, its kind -/
def tkE (tp : Int → Int) (t s : Int) : Int := if t ≤ s then s else if isL tp t s then wdF tp t 2400 s else if isD tp t s then (if nuR tp t s then nuF tp t s else nuE tp t s) else s + 1
def tkK (tp : Int → Int) (t s : Int) : Int := if t ≤ s then 0 else if isL tp t s then (if wdF tp t 2400 s - s ≤ 8 then 1 else 5) else if isD tp t s then (if nuR tp t s then (if nuE tp t s - s ≤ 6 ∧ nuF tp t s - (nuE tp t s + 1) ≤ 4 then 3 else 5) else (if nuE tp t s - s ≤ 6 then 2 else 5)) else (if 0 ≤ ixF (tp s) SGL 0 then 4 else 5)
def TKC (tp : Int → Int) (t s : Int) (h h' : HV) : Prop := (∀ o, o ≠ 129 → h' o = h o) ∧ h' 129 1 = h 129 1 ∧ h' 129 3 = h 129 3 ∧ h' 129 5 = s ∧ h' 129 2 = tkE tp t s ∧ h' 129 4 = tkK tp t s ∧ (tkK tp t s = 1 → h' 129 6 = pkF tp (tkE tp t s - s).toNat s 0) ∧ (tkK tp t s = 2 → h' 129 7 = w64 (nuV tp t s)) ∧ (tkK tp t s = 3 → h' 129 7 = w64 (nuW tp t s) ∧ h' 129 8 = nuF tp t s - (nuE tp t s + 1)) ∧ (tkK tp t s = 4 → h' 129 9 = tp s % 256)
theorem ixF_ge (c : Int) : ∀ (l : List Int) (i : Int), 0 ≤ i → -1 ≤ ixF c l i
  | [], i, _ => by rw [ixF]; omega
  | a :: l, i, h => by
    rw [ixF]
    split
    · omega
    · exact ixF_ge c l (i + 1) (by omega)
/-- pass, when this token can't stand, or there was a fault before -/
theorem s28f {d : Nat} {a : Int} {h : HV} {Q : Int → HV → Prop} (ha : a = 0 ∨ 0 ≤ h 129 3) (hQ : Q 0 (hset (if h 129 3 < 0 then hset h 129 3 (h 129 5) else h) 129 4 5)) : Sp fz1 d 28 [(3, 129), (0, a)] h Q := by
  have h1 : G fz1 d 28 1 [(3, 129), (0, a)] [] h Q := by
    refine G_in ?_
    simp only [en28, b28_1, x_aload0, x_gf_1048, x_gf_1064, x_goto_2, x_ifCond_ge_2, x_pf_1048, klp_0, klp_1, klp_2, klp_3, klp_9, KC_0, KC_1, KC_2, KC_3, KC_4, ne_eq, not_false_eq_true, not_true_eq_false, true_and, and_true, and_self, implies_true, eq_self, true_imp_iff, false_implies, Int.reduceEq, Int.reduceNe, Int.reduceMod, Int.reduceMul, Int.reduceAdd, Int.reduceSub, Int.reduceNeg, Int.reduceLT, Int.reduceLE, Nat.reduceAdd, Nat.reduceLeDiff, Nat.reduceLT, Nat.reduceSub, reduceIte, wds_n, wds_0, wds_1, wds_2, wds_3, or_true, true_or, or_false, false_or, or_self]
    refine ⟨fun hc => G_in ?_, fun hc => ?_⟩
    · rw [if_neg (by omega)] at hQ
      simp only [en28, b28_2, x_aload0, x_iconst, x_pf_1056, x_return, klp_0, klp_1, klp_2, klp_3, klp_9, KC_0, KC_1, KC_2, KC_3, KC_4, ne_eq, not_false_eq_true, not_true_eq_false, true_and, and_true, and_self, implies_true, eq_self, true_imp_iff, false_implies, Int.reduceEq, Int.reduceNe, Int.reduceMod, Int.reduceMul, Int.reduceAdd, Int.reduceSub, Int.reduceNeg, Int.reduceLT, Int.reduceLE, Nat.reduceAdd, Nat.reduceLeDiff, Nat.reduceLT, Nat.reduceSub, reduceIte, wds_n, wds_0, wds_1, wds_2, wds_3, or_true, true_or, or_false, false_or, or_self]
      exact hQ
    · rw [if_pos (by omega)] at hQ
      refine G_in ?_
      simp only [en28, b28_2, x_aload0, x_iconst, x_pf_1056, x_return, klp_0, klp_1, klp_2, klp_3, klp_9, KC_0, KC_1, KC_2, KC_3, KC_4, ne_eq, not_false_eq_true, not_true_eq_false, true_and, and_true, and_self, implies_true, eq_self, true_imp_iff, false_implies, Int.reduceEq, Int.reduceNe, Int.reduceMod, Int.reduceMul, Int.reduceAdd, Int.reduceSub, Int.reduceNeg, Int.reduceLT, Int.reduceLE, Nat.reduceAdd, Nat.reduceLeDiff, Nat.reduceLT, Nat.reduceSub, reduceIte, wds_n, wds_0, wds_1, wds_2, wds_3, or_true, true_or, or_false, false_or, or_self]
      exact hQ
  refine G_in ?_
  simp only [en28, b28_0, x_aload0, x_gf_1048, x_goto_1, x_ifCond_eq_1, x_ifCond_lt_3, x_iload1, klp_0, klp_1, klp_2, klp_3, klp_9, KC_0, KC_1, KC_2, KC_3, KC_4, ne_eq, not_false_eq_true, not_true_eq_false, true_and, and_true, and_self, implies_true, eq_self, true_imp_iff, false_implies, Int.reduceEq, Int.reduceNe, Int.reduceMod, Int.reduceMul, Int.reduceAdd, Int.reduceSub, Int.reduceNeg, Int.reduceLT, Int.reduceLE, Nat.reduceAdd, Nat.reduceLeDiff, Nat.reduceLT, Nat.reduceSub, reduceIte, wds_n, wds_0, wds_1, wds_2, wds_3, or_true, true_or, or_false, false_or, or_self]
  exact ⟨fun _ => h1, fun hc => ⟨fun hc2 => by omega, fun _ => h1⟩⟩
theorem s28 {d : Nat} {a t : Int} {h : HV} {Q : Int → HV → Prop} (hd : 7 < d) (ha : a ≠ 0) (hf : h 129 3 < 0) (ht : h 129 1 = t) (htm : t ≤ 2400) (h0 : 0 ≤ h 129 2) (hpt : h 129 2 ≤ t) (hby : ∀ i, -128 ≤ h 227 i ∧ h 227 i ≤ 127) (S : STR h (-51) SGL) (hQ : ∀ h', TKC (h 227) t (wsF (h 227) t 2400 (h 129 2)) h h' → Q 0 h') : Sp fz1 d 28 [(3, 129), (0, a)] h Q := by
  refine G_in ?_
  simp only [en28, b28_0, x_aload0, x_gf_1048, x_goto_1, x_ifCond_eq_1, x_ifCond_lt_3, x_iload1, klp_0, klp_1, klp_2, klp_3, klp_9, KC_0, KC_1, KC_2, KC_3, KC_4, ne_eq, not_false_eq_true, not_true_eq_false, true_and, and_true, and_self, implies_true, eq_self, true_imp_iff, false_implies, Int.reduceEq, Int.reduceNe, Int.reduceMod, Int.reduceMul, Int.reduceAdd, Int.reduceSub, Int.reduceNeg, Int.reduceLT, Int.reduceLE, Nat.reduceAdd, Nat.reduceLeDiff, Nat.reduceLT, Nat.reduceSub, reduceIte, wds_n, wds_0, wds_1, wds_2, wds_3, or_true, true_or, or_false, false_or, or_self]
  refine ⟨fun q => (ha q).elim, fun _ => ⟨fun _ => ?_, fun q => (q hf).elim⟩⟩
  have es : hset h 129 2 (h 129 2) = h := hset_self rfl
  rw [← es]
  have hs0 := wsF_ge (h 227) t 2400 (h 129 2)
  have hst := wsF_le (h 227) t 2400 (h 129 2) hpt
  refine lp28 ht htm 2400 (h 129 2) h0 (by omega) ?_
  generalize wsF (h 227) t 2400 (h 129 2) = s at hQ hs0 hst ⊢
  refine G_in ?_
  simp only [en28, b28_5, x_aload0, x_gf_1032, x_gf_1040, x_goto_11, x_iconst, x_if_icmp_lt_6, x_pf_1056, x_pf_1064, klp_0, klp_1, klp_2, klp_3, klp_9, KC_0, KC_1, KC_2, KC_3, KC_4, ne_eq, not_false_eq_true, not_true_eq_false, true_and, and_true, and_self, implies_true, eq_self, true_imp_iff, false_implies, Int.reduceEq, Int.reduceNe, Int.reduceMod, Int.reduceMul, Int.reduceAdd, Int.reduceSub, Int.reduceNeg, Int.reduceLT, Int.reduceLE, Nat.reduceAdd, Nat.reduceLeDiff, Nat.reduceLT, Nat.reduceSub, reduceIte, wds_n, wds_0, wds_1, wds_2, wds_3, or_true, true_or, or_false, false_or, or_self, hs_eq, ht]
  refine ⟨fun hlt => ?_, fun hge => ?_⟩
  · have q227 : (hset (hset h 129 2 s) 129 5 s) 227 = h 227 := by rw [hs_ne (by decide), hs_ne (by decide)]
    have qt : (hset (hset h 129 2 s) 129 5 s) 129 1 = t := by simp only [hs_eq, ne_eq, not_false_eq_true, not_true_eq_false, true_and, and_true, and_self, implies_true, eq_self, true_imp_iff, false_implies, Int.reduceEq, Int.reduceNe, Int.reduceMod, Int.reduceMul, Int.reduceAdd, Int.reduceSub, Int.reduceNeg, Int.reduceLT, Int.reduceLE, Nat.reduceAdd, Nat.reduceLeDiff, Nat.reduceLT, Nat.reduceSub, reduceIte, wds_n, wds_0, wds_1, wds_2, wds_3, or_true, true_or, or_false, false_or, or_self, ht]
    refine G_in ?_
    simp only [en28, b28_6, x_aload0, y_call29, y_call30, x_gf_1040, x_goto_11, x_ifCond_eq_7, klp_0, klp_1, klp_2, klp_3, klp_9, KC_0, KC_1, KC_2, KC_3, KC_4, ne_eq, not_false_eq_true, not_true_eq_false, true_and, and_true, and_self, implies_true, eq_self, true_imp_iff, false_implies, Int.reduceEq, Int.reduceNe, Int.reduceMod, Int.reduceMul, Int.reduceAdd, Int.reduceSub, Int.reduceNeg, Int.reduceLT, Int.reduceLE, Nat.reduceAdd, Nat.reduceLeDiff, Nat.reduceLT, Nat.reduceSub, reduceIte, wds_n, wds_0, wds_1, wds_2, wds_3, or_true, true_or, or_false, false_or, or_self, hs_eq]
    refine ⟨by omega, s29 qt htm (by omega) (fun hL => ?_) (fun hL => ?_)⟩
    · rw [q227] at hL
      simp only [en28, b28_6, x_aload0, y_call29, y_call30, x_gf_1040, x_goto_11, x_ifCond_eq_7, klp_0, klp_1, klp_2, klp_3, klp_9, KC_0, KC_1, KC_2, KC_3, KC_4, ne_eq, not_false_eq_true, not_true_eq_false, true_and, and_true, and_self, implies_true, eq_self, true_imp_iff, false_implies, Int.reduceEq, Int.reduceNe, Int.reduceMod, Int.reduceMul, Int.reduceAdd, Int.reduceSub, Int.reduceNeg, Int.reduceLT, Int.reduceLE, Nat.reduceAdd, Nat.reduceLeDiff, Nat.reduceLT, Nat.reduceSub, reduceIte, wds_n, wds_0, wds_1, wds_2, wds_3, or_true, true_or, or_false, false_or, or_self]
      refine ⟨by omega, s30 (t := t) (p := s) (s := s) (n := 2400) (by omega) qt htm ?_ (by omega) ?_ (by omega) (by omega) (by omega) ?_⟩
      · simp only [hs_eq, ne_eq, not_false_eq_true, not_true_eq_false, true_and, and_true, and_self, implies_true, eq_self, true_imp_iff, false_implies, Int.reduceEq, Int.reduceNe, Int.reduceMod, Int.reduceMul, Int.reduceAdd, Int.reduceSub, Int.reduceNeg, Int.reduceLT, Int.reduceLE, Nat.reduceAdd, Nat.reduceLeDiff, Nat.reduceLT, Nat.reduceSub, reduceIte, wds_n, wds_0, wds_1, wds_2, wds_3, or_true, true_or, or_false, false_or, or_self]
      · simp only [hs_eq, ne_eq, not_false_eq_true, not_true_eq_false, true_and, and_true, and_self, implies_true, eq_self, true_imp_iff, false_implies, Int.reduceEq, Int.reduceNe, Int.reduceMod, Int.reduceMul, Int.reduceAdd, Int.reduceSub, Int.reduceNeg, Int.reduceLT, Int.reduceLE, Nat.reduceAdd, Nat.reduceLeDiff, Nat.reduceLT, Nat.reduceSub, reduceIte, wds_n, wds_0, wds_1, wds_2, wds_3, or_true, true_or, or_false, false_or, or_self]
      rw [q227]
      simp only [en28, b28_6, x_aload0, y_call29, y_call30, x_gf_1040, x_goto_11, x_ifCond_eq_7, klp_0, klp_1, klp_2, klp_3, klp_9, KC_0, KC_1, KC_2, KC_3, KC_4, ne_eq, not_false_eq_true, not_true_eq_false, true_and, and_true, and_self, implies_true, eq_self, true_imp_iff, false_implies, Int.reduceEq, Int.reduceNe, Int.reduceMod, Int.reduceMul, Int.reduceAdd, Int.reduceSub, Int.reduceNeg, Int.reduceLT, Int.reduceLE, Nat.reduceAdd, Nat.reduceLeDiff, Nat.reduceLT, Nat.reduceSub, reduceIte, wds_n, wds_0, wds_1, wds_2, wds_3, or_true, true_or, or_false, false_or, or_self]
      refine G_in ?_
      simp only [en28, b28_11, x_return, klp_0, klp_1, klp_2, klp_3, klp_9, KC_0, KC_1, KC_2, KC_3, KC_4, ne_eq, not_false_eq_true, not_true_eq_false, true_and, and_true, and_self, implies_true, eq_self, true_imp_iff, false_implies, Int.reduceEq, Int.reduceNe, Int.reduceMod, Int.reduceMul, Int.reduceAdd, Int.reduceSub, Int.reduceNeg, Int.reduceLT, Int.reduceLE, Nat.reduceAdd, Nat.reduceLeDiff, Nat.reduceLT, Nat.reduceSub, reduceIte, wds_n, wds_0, wds_1, wds_2, wds_3, or_true, true_or, or_false, false_or, or_self]
      refine hQ _ ⟨fun o ho => ?_, ?_, ?_, ?_, ?_, ?_, ?_, ?_, ?_, ?_⟩
      · rw [hs_ne ho, hs_ne ho, hs_ne ho, hs_ne ho, hs_ne ho]
      · simp only [hs_eq, ne_eq, not_false_eq_true, not_true_eq_false, true_and, and_true, and_self, implies_true, eq_self, true_imp_iff, false_implies, Int.reduceEq, Int.reduceNe, Int.reduceMod, Int.reduceMul, Int.reduceAdd, Int.reduceSub, Int.reduceNeg, Int.reduceLT, Int.reduceLE, Nat.reduceAdd, Nat.reduceLeDiff, Nat.reduceLT, Nat.reduceSub, reduceIte, wds_n, wds_0, wds_1, wds_2, wds_3, or_true, true_or, or_false, false_or, or_self]
      · simp only [hs_eq, ne_eq, not_false_eq_true, not_true_eq_false, true_and, and_true, and_self, implies_true, eq_self, true_imp_iff, false_implies, Int.reduceEq, Int.reduceNe, Int.reduceMod, Int.reduceMul, Int.reduceAdd, Int.reduceSub, Int.reduceNeg, Int.reduceLT, Int.reduceLE, Nat.reduceAdd, Nat.reduceLeDiff, Nat.reduceLT, Nat.reduceSub, reduceIte, wds_n, wds_0, wds_1, wds_2, wds_3, or_true, true_or, or_false, false_or, or_self]
      · simp only [hs_eq, ne_eq, not_false_eq_true, not_true_eq_false, true_and, and_true, and_self, implies_true, eq_self, true_imp_iff, false_implies, Int.reduceEq, Int.reduceNe, Int.reduceMod, Int.reduceMul, Int.reduceAdd, Int.reduceSub, Int.reduceNeg, Int.reduceLT, Int.reduceLE, Nat.reduceAdd, Nat.reduceLeDiff, Nat.reduceLT, Nat.reduceSub, reduceIte, wds_n, wds_0, wds_1, wds_2, wds_3, or_true, true_or, or_false, false_or, or_self]
      · simp only [hs_eq, ne_eq, not_false_eq_true, not_true_eq_false, true_and, and_true, and_self, implies_true, eq_self, true_imp_iff, false_implies, Int.reduceEq, Int.reduceNe, Int.reduceMod, Int.reduceMul, Int.reduceAdd, Int.reduceSub, Int.reduceNeg, Int.reduceLT, Int.reduceLE, Nat.reduceAdd, Nat.reduceLeDiff, Nat.reduceLT, Nat.reduceSub, reduceIte, wds_n, wds_0, wds_1, wds_2, wds_3, or_true, true_or, or_false, false_or, or_self]
        rw [tkE, if_neg (by omega), if_pos hL]
      · simp only [hs_eq, ne_eq, not_false_eq_true, not_true_eq_false, true_and, and_true, and_self, implies_true, eq_self, true_imp_iff, false_implies, Int.reduceEq, Int.reduceNe, Int.reduceMod, Int.reduceMul, Int.reduceAdd, Int.reduceSub, Int.reduceNeg, Int.reduceLT, Int.reduceLE, Nat.reduceAdd, Nat.reduceLeDiff, Nat.reduceLT, Nat.reduceSub, reduceIte, wds_n, wds_0, wds_1, wds_2, wds_3, or_true, true_or, or_false, false_or, or_self]
        rw [tkK, if_neg (show ¬ t ≤ s by omega), if_pos hL]
      · intro _
        simp only [hs_eq, ne_eq, not_false_eq_true, not_true_eq_false, true_and, and_true, and_self, implies_true, eq_self, true_imp_iff, false_implies, Int.reduceEq, Int.reduceNe, Int.reduceMod, Int.reduceMul, Int.reduceAdd, Int.reduceSub, Int.reduceNeg, Int.reduceLT, Int.reduceLE, Nat.reduceAdd, Nat.reduceLeDiff, Nat.reduceLT, Nat.reduceSub, reduceIte, wds_n, wds_0, wds_1, wds_2, wds_3, or_true, true_or, or_false, false_or, or_self]
        rw [pkW_eq, tkE, if_neg (by omega), if_pos hL]
      · intro q
        rw [tkK, if_neg (show ¬ t ≤ s by omega), if_pos hL] at q
        split at q <;> omega
      · intro q
        rw [tkK, if_neg (show ¬ t ≤ s by omega), if_pos hL] at q
        split at q <;> omega
      · intro q
        rw [tkK, if_neg (show ¬ t ≤ s by omega), if_pos hL] at q
        split at q <;> omega
    · rw [q227] at hL
      simp only [en28, b28_6, x_aload0, y_call29, y_call30, x_gf_1040, x_goto_11, x_ifCond_eq_7, klp_0, klp_1, klp_2, klp_3, klp_9, KC_0, KC_1, KC_2, KC_3, KC_4, ne_eq, not_false_eq_true, not_true_eq_false, true_and, and_true, and_self, implies_true, eq_self, true_imp_iff, false_implies, Int.reduceEq, Int.reduceNe, Int.reduceMod, Int.reduceMul, Int.reduceAdd, Int.reduceSub, Int.reduceNeg, Int.reduceLT, Int.reduceLE, Nat.reduceAdd, Nat.reduceLeDiff, Nat.reduceLT, Nat.reduceSub, reduceIte, wds_n, wds_0, wds_1, wds_2, wds_3, or_true, true_or, or_false, false_or, or_self]
      refine G_in ?_
      simp only [en28, b28_7, x_aload0, y_call31, y_call32, x_gf_1040, x_goto_11, x_ifCond_eq_8, klp_0, klp_1, klp_2, klp_3, klp_9, KC_0, KC_1, KC_2, KC_3, KC_4, ne_eq, not_false_eq_true, not_true_eq_false, true_and, and_true, and_self, implies_true, eq_self, true_imp_iff, false_implies, Int.reduceEq, Int.reduceNe, Int.reduceMod, Int.reduceMul, Int.reduceAdd, Int.reduceSub, Int.reduceNeg, Int.reduceLT, Int.reduceLE, Nat.reduceAdd, Nat.reduceLeDiff, Nat.reduceLT, Nat.reduceSub, reduceIte, wds_n, wds_0, wds_1, wds_2, wds_3, or_true, true_or, or_false, false_or, or_self, hs_eq]
      refine ⟨by omega, s31 qt htm (by omega) (fun hD => ?_) (fun hD => ?_)⟩
      · rw [q227] at hD
        simp only [en28, b28_7, x_aload0, y_call31, y_call32, x_gf_1040, x_goto_11, x_ifCond_eq_8, klp_0, klp_1, klp_2, klp_3, klp_9, KC_0, KC_1, KC_2, KC_3, KC_4, ne_eq, not_false_eq_true, not_true_eq_false, true_and, and_true, and_self, implies_true, eq_self, true_imp_iff, false_implies, Int.reduceEq, Int.reduceNe, Int.reduceMod, Int.reduceMul, Int.reduceAdd, Int.reduceSub, Int.reduceNeg, Int.reduceLT, Int.reduceLE, Nat.reduceAdd, Nat.reduceLeDiff, Nat.reduceLT, Nat.reduceSub, reduceIte, wds_n, wds_0, wds_1, wds_2, wds_3, or_true, true_or, or_false, false_or, or_self]
        refine ⟨by omega, s32 (t := t) (s := s) (by omega) qt htm ?_ ?_ (by omega) (by omega) (fun hR => ?_) (fun hR h' e1 e2 e3 e4 e5 e6 => ?_)⟩
        · simp only [hs_eq, ne_eq, not_false_eq_true, not_true_eq_false, true_and, and_true, and_self, implies_true, eq_self, true_imp_iff, false_implies, Int.reduceEq, Int.reduceNe, Int.reduceMod, Int.reduceMul, Int.reduceAdd, Int.reduceSub, Int.reduceNeg, Int.reduceLT, Int.reduceLE, Nat.reduceAdd, Nat.reduceLeDiff, Nat.reduceLT, Nat.reduceSub, reduceIte, wds_n, wds_0, wds_1, wds_2, wds_3, or_true, true_or, or_false, false_or, or_self]
        · simp only [hs_eq, ne_eq, not_false_eq_true, not_true_eq_false, true_and, and_true, and_self, implies_true, eq_self, true_imp_iff, false_implies, Int.reduceEq, Int.reduceNe, Int.reduceMod, Int.reduceMul, Int.reduceAdd, Int.reduceSub, Int.reduceNeg, Int.reduceLT, Int.reduceLE, Nat.reduceAdd, Nat.reduceLeDiff, Nat.reduceLT, Nat.reduceSub, reduceIte, wds_n, wds_0, wds_1, wds_2, wds_3, or_true, true_or, or_false, false_or, or_self]
        · rw [q227] at hR ⊢
          simp only [en28, b28_7, x_aload0, y_call31, y_call32, x_gf_1040, x_goto_11, x_ifCond_eq_8, klp_0, klp_1, klp_2, klp_3, klp_9, KC_0, KC_1, KC_2, KC_3, KC_4, ne_eq, not_false_eq_true, not_true_eq_false, true_and, and_true, and_self, implies_true, eq_self, true_imp_iff, false_implies, Int.reduceEq, Int.reduceNe, Int.reduceMod, Int.reduceMul, Int.reduceAdd, Int.reduceSub, Int.reduceNeg, Int.reduceLT, Int.reduceLE, Nat.reduceAdd, Nat.reduceLeDiff, Nat.reduceLT, Nat.reduceSub, reduceIte, wds_n, wds_0, wds_1, wds_2, wds_3, or_true, true_or, or_false, false_or, or_self]
          refine G_in ?_
          simp only [en28, b28_11, x_return, klp_0, klp_1, klp_2, klp_3, klp_9, KC_0, KC_1, KC_2, KC_3, KC_4, ne_eq, not_false_eq_true, not_true_eq_false, true_and, and_true, and_self, implies_true, eq_self, true_imp_iff, false_implies, Int.reduceEq, Int.reduceNe, Int.reduceMod, Int.reduceMul, Int.reduceAdd, Int.reduceSub, Int.reduceNeg, Int.reduceLT, Int.reduceLE, Nat.reduceAdd, Nat.reduceLeDiff, Nat.reduceLT, Nat.reduceSub, reduceIte, wds_n, wds_0, wds_1, wds_2, wds_3, or_true, true_or, or_false, false_or, or_self]
          refine hQ _ ⟨fun o ho => ?_, ?_, ?_, ?_, ?_, ?_, ?_, ?_, ?_, ?_⟩
          · rw [hs_ne ho, hs_ne ho, hs_ne ho, hs_ne ho, hs_ne ho]
          · simp only [hs_eq, ne_eq, not_false_eq_true, not_true_eq_false, true_and, and_true, and_self, implies_true, eq_self, true_imp_iff, false_implies, Int.reduceEq, Int.reduceNe, Int.reduceMod, Int.reduceMul, Int.reduceAdd, Int.reduceSub, Int.reduceNeg, Int.reduceLT, Int.reduceLE, Nat.reduceAdd, Nat.reduceLeDiff, Nat.reduceLT, Nat.reduceSub, reduceIte, wds_n, wds_0, wds_1, wds_2, wds_3, or_true, true_or, or_false, false_or, or_self]
          · simp only [hs_eq, ne_eq, not_false_eq_true, not_true_eq_false, true_and, and_true, and_self, implies_true, eq_self, true_imp_iff, false_implies, Int.reduceEq, Int.reduceNe, Int.reduceMod, Int.reduceMul, Int.reduceAdd, Int.reduceSub, Int.reduceNeg, Int.reduceLT, Int.reduceLE, Nat.reduceAdd, Nat.reduceLeDiff, Nat.reduceLT, Nat.reduceSub, reduceIte, wds_n, wds_0, wds_1, wds_2, wds_3, or_true, true_or, or_false, false_or, or_self]
          · simp only [hs_eq, ne_eq, not_false_eq_true, not_true_eq_false, true_and, and_true, and_self, implies_true, eq_self, true_imp_iff, false_implies, Int.reduceEq, Int.reduceNe, Int.reduceMod, Int.reduceMul, Int.reduceAdd, Int.reduceSub, Int.reduceNeg, Int.reduceLT, Int.reduceLE, Nat.reduceAdd, Nat.reduceLeDiff, Nat.reduceLT, Nat.reduceSub, reduceIte, wds_n, wds_0, wds_1, wds_2, wds_3, or_true, true_or, or_false, false_or, or_self]
          · simp only [hs_eq, ne_eq, not_false_eq_true, not_true_eq_false, true_and, and_true, and_self, implies_true, eq_self, true_imp_iff, false_implies, Int.reduceEq, Int.reduceNe, Int.reduceMod, Int.reduceMul, Int.reduceAdd, Int.reduceSub, Int.reduceNeg, Int.reduceLT, Int.reduceLE, Nat.reduceAdd, Nat.reduceLeDiff, Nat.reduceLT, Nat.reduceSub, reduceIte, wds_n, wds_0, wds_1, wds_2, wds_3, or_true, true_or, or_false, false_or, or_self]
            rw [tkE, if_neg (by omega), if_neg hL, if_pos hD, if_neg hR]
          · simp only [hs_eq, ne_eq, not_false_eq_true, not_true_eq_false, true_and, and_true, and_self, implies_true, eq_self, true_imp_iff, false_implies, Int.reduceEq, Int.reduceNe, Int.reduceMod, Int.reduceMul, Int.reduceAdd, Int.reduceSub, Int.reduceNeg, Int.reduceLT, Int.reduceLE, Nat.reduceAdd, Nat.reduceLeDiff, Nat.reduceLT, Nat.reduceSub, reduceIte, wds_n, wds_0, wds_1, wds_2, wds_3, or_true, true_or, or_false, false_or, or_self]
            rw [tkK, if_neg (show ¬ t ≤ s by omega), if_neg hL, if_pos hD, if_neg hR]
          · intro q
            rw [tkK, if_neg (show ¬ t ≤ s by omega), if_neg hL, if_pos hD, if_neg hR] at q
            split at q <;> omega
          · intro _
            simp only [hs_eq, ne_eq, not_false_eq_true, not_true_eq_false, true_and, and_true, and_self, implies_true, eq_self, true_imp_iff, false_implies, Int.reduceEq, Int.reduceNe, Int.reduceMod, Int.reduceMul, Int.reduceAdd, Int.reduceSub, Int.reduceNeg, Int.reduceLT, Int.reduceLE, Nat.reduceAdd, Nat.reduceLeDiff, Nat.reduceLT, Nat.reduceSub, reduceIte, wds_n, wds_0, wds_1, wds_2, wds_3, or_true, true_or, or_false, false_or, or_self]
          · intro q
            rw [tkK, if_neg (show ¬ t ≤ s by omega), if_neg hL, if_pos hD, if_neg hR] at q
            split at q <;> omega
          · intro q
            rw [tkK, if_neg (show ¬ t ≤ s by omega), if_neg hL, if_pos hD, if_neg hR] at q
            split at q <;> omega
        · rw [q227] at hR e3 e4 e5 e6
          simp only [en28, b28_7, x_aload0, y_call31, y_call32, x_gf_1040, x_goto_11, x_ifCond_eq_8, klp_0, klp_1, klp_2, klp_3, klp_9, KC_0, KC_1, KC_2, KC_3, KC_4, ne_eq, not_false_eq_true, not_true_eq_false, true_and, and_true, and_self, implies_true, eq_self, true_imp_iff, false_implies, Int.reduceEq, Int.reduceNe, Int.reduceMod, Int.reduceMul, Int.reduceAdd, Int.reduceSub, Int.reduceNeg, Int.reduceLT, Int.reduceLE, Nat.reduceAdd, Nat.reduceLeDiff, Nat.reduceLT, Nat.reduceSub, reduceIte, wds_n, wds_0, wds_1, wds_2, wds_3, or_true, true_or, or_false, false_or, or_self]
          refine G_in ?_
          simp only [en28, b28_11, x_return, klp_0, klp_1, klp_2, klp_3, klp_9, KC_0, KC_1, KC_2, KC_3, KC_4, ne_eq, not_false_eq_true, not_true_eq_false, true_and, and_true, and_self, implies_true, eq_self, true_imp_iff, false_implies, Int.reduceEq, Int.reduceNe, Int.reduceMod, Int.reduceMul, Int.reduceAdd, Int.reduceSub, Int.reduceNeg, Int.reduceLT, Int.reduceLE, Nat.reduceAdd, Nat.reduceLeDiff, Nat.reduceLT, Nat.reduceSub, reduceIte, wds_n, wds_0, wds_1, wds_2, wds_3, or_true, true_or, or_false, false_or, or_self]
          have ek : tkK (h 227) t s = (if nuE (h 227) t s - s ≤ 6 ∧ nuF (h 227) t s - (nuE (h 227) t s + 1) ≤ 4 then 3 else 5) := by rw [tkK, if_neg (show ¬ t ≤ s by omega), if_neg hL, if_pos hD, if_pos hR]
          refine hQ _ ⟨fun o ho => ?_, ?_, ?_, ?_, ?_, ?_, ?_, ?_, ?_, ?_⟩
          · rw [e1 o ho, hs_ne ho, hs_ne ho]
          · rw [e2 1 (by decide) (by decide) (by decide) (by decide)]; simp only [hs_eq, ne_eq, not_false_eq_true, not_true_eq_false, true_and, and_true, and_self, implies_true, eq_self, true_imp_iff, false_implies, Int.reduceEq, Int.reduceNe, Int.reduceMod, Int.reduceMul, Int.reduceAdd, Int.reduceSub, Int.reduceNeg, Int.reduceLT, Int.reduceLE, Nat.reduceAdd, Nat.reduceLeDiff, Nat.reduceLT, Nat.reduceSub, reduceIte, wds_n, wds_0, wds_1, wds_2, wds_3, or_true, true_or, or_false, false_or, or_self]
          · rw [e2 3 (by decide) (by decide) (by decide) (by decide)]; simp only [hs_eq, ne_eq, not_false_eq_true, not_true_eq_false, true_and, and_true, and_self, implies_true, eq_self, true_imp_iff, false_implies, Int.reduceEq, Int.reduceNe, Int.reduceMod, Int.reduceMul, Int.reduceAdd, Int.reduceSub, Int.reduceNeg, Int.reduceLT, Int.reduceLE, Nat.reduceAdd, Nat.reduceLeDiff, Nat.reduceLT, Nat.reduceSub, reduceIte, wds_n, wds_0, wds_1, wds_2, wds_3, or_true, true_or, or_false, false_or, or_self]
          · rw [e2 5 (by decide) (by decide) (by decide) (by decide)]; simp only [hs_eq, ne_eq, not_false_eq_true, not_true_eq_false, true_and, and_true, and_self, implies_true, eq_self, true_imp_iff, false_implies, Int.reduceEq, Int.reduceNe, Int.reduceMod, Int.reduceMul, Int.reduceAdd, Int.reduceSub, Int.reduceNeg, Int.reduceLT, Int.reduceLE, Nat.reduceAdd, Nat.reduceLeDiff, Nat.reduceLT, Nat.reduceSub, reduceIte, wds_n, wds_0, wds_1, wds_2, wds_3, or_true, true_or, or_false, false_or, or_self]
          · rw [e3, tkE, if_neg (by omega), if_neg hL, if_pos hD, if_pos hR]
          · rw [e6, ek]
          · intro q
            rw [ek] at q
            split at q <;> omega
          · intro q
            rw [ek] at q
            split at q <;> omega
          · intro _
            exact ⟨e4, e5⟩
          · intro q
            rw [ek] at q
            split at q <;> omega
      · rw [q227] at hD
        have hb := hby s
        have ec : i_and (h 227 s) 255 % 65536 = h 227 s % 256 := by rw [i_and_255 hb]; omega
        have hcc : (0 ≤ h 227 s % 256 ∧ h 227 s % 256 ≤ 65535) = True := eq_true (by omega)
        have ew : w8 (h 227 s % 256) = h 227 s := by unfold w8; omega
        have es1 : w32 (s + 1) = s + 1 := w32_id (by omega)
        have ekK : tkK (h 227) t s = (if 0 ≤ ixF (h 227 s) SGL 0 then 4 else 5) := by rw [tkK, if_neg (show ¬ t ≤ s by omega), if_neg hL, if_neg hD]
        simp only [en28, b28_7, x_aload0, y_call31, y_call32, x_gf_1040, x_goto_11, x_ifCond_eq_8, klp_0, klp_1, klp_2, klp_3, klp_9, KC_0, KC_1, KC_2, KC_3, KC_4, ne_eq, not_false_eq_true, not_true_eq_false, true_and, and_true, and_self, implies_true, eq_self, true_imp_iff, false_implies, Int.reduceEq, Int.reduceNe, Int.reduceMod, Int.reduceMul, Int.reduceAdd, Int.reduceSub, Int.reduceNeg, Int.reduceLT, Int.reduceLE, Nat.reduceAdd, Nat.reduceLeDiff, Nat.reduceLT, Nat.reduceSub, reduceIte, wds_n, wds_0, wds_1, wds_2, wds_3, or_true, true_or, or_false, false_or, or_self]
        have fin : ∀ k : Int, k = tkK (h 227) t s → G fz1 d 28 10 [(3, 129), (0, a)] [(0, k), (3, 129)] (hset (hset (hset h 129 2 s) 129 5 s) 129 9 (h 227 s % 256)) Q := fun k hk => by
          refine G_in ?_
          simp only [en28, b28_10, x_aload0, x_dup0, x_dup3, x_gf_1040, x_goto_11, x_iadd, x_iconst, x_pf_1040, x_pf_1056, klp_0, klp_1, klp_2, klp_3, klp_9, KC_0, KC_1, KC_2, KC_3, KC_4, ne_eq, not_false_eq_true, not_true_eq_false, true_and, and_true, and_self, implies_true, eq_self, true_imp_iff, false_implies, Int.reduceEq, Int.reduceNe, Int.reduceMod, Int.reduceMul, Int.reduceAdd, Int.reduceSub, Int.reduceNeg, Int.reduceLT, Int.reduceLE, Nat.reduceAdd, Nat.reduceLeDiff, Nat.reduceLT, Nat.reduceSub, reduceIte, wds_n, wds_0, wds_1, wds_2, wds_3, or_true, true_or, or_false, false_or, or_self, hs_eq, es1]
          refine G_in ?_
          simp only [en28, b28_11, x_return, klp_0, klp_1, klp_2, klp_3, klp_9, KC_0, KC_1, KC_2, KC_3, KC_4, ne_eq, not_false_eq_true, not_true_eq_false, true_and, and_true, and_self, implies_true, eq_self, true_imp_iff, false_implies, Int.reduceEq, Int.reduceNe, Int.reduceMod, Int.reduceMul, Int.reduceAdd, Int.reduceSub, Int.reduceNeg, Int.reduceLT, Int.reduceLE, Nat.reduceAdd, Nat.reduceLeDiff, Nat.reduceLT, Nat.reduceSub, reduceIte, wds_n, wds_0, wds_1, wds_2, wds_3, or_true, true_or, or_false, false_or, or_self]
          refine hQ _ ⟨fun o ho => ?_, ?_, ?_, ?_, ?_, ?_, ?_, ?_, ?_, ?_⟩
          · rw [hs_ne ho, hs_ne ho, hs_ne ho, hs_ne ho, hs_ne ho]
          · simp only [hs_eq, ne_eq, not_false_eq_true, not_true_eq_false, true_and, and_true, and_self, implies_true, eq_self, true_imp_iff, false_implies, Int.reduceEq, Int.reduceNe, Int.reduceMod, Int.reduceMul, Int.reduceAdd, Int.reduceSub, Int.reduceNeg, Int.reduceLT, Int.reduceLE, Nat.reduceAdd, Nat.reduceLeDiff, Nat.reduceLT, Nat.reduceSub, reduceIte, wds_n, wds_0, wds_1, wds_2, wds_3, or_true, true_or, or_false, false_or, or_self]
          · simp only [hs_eq, ne_eq, not_false_eq_true, not_true_eq_false, true_and, and_true, and_self, implies_true, eq_self, true_imp_iff, false_implies, Int.reduceEq, Int.reduceNe, Int.reduceMod, Int.reduceMul, Int.reduceAdd, Int.reduceSub, Int.reduceNeg, Int.reduceLT, Int.reduceLE, Nat.reduceAdd, Nat.reduceLeDiff, Nat.reduceLT, Nat.reduceSub, reduceIte, wds_n, wds_0, wds_1, wds_2, wds_3, or_true, true_or, or_false, false_or, or_self]
          · simp only [hs_eq, ne_eq, not_false_eq_true, not_true_eq_false, true_and, and_true, and_self, implies_true, eq_self, true_imp_iff, false_implies, Int.reduceEq, Int.reduceNe, Int.reduceMod, Int.reduceMul, Int.reduceAdd, Int.reduceSub, Int.reduceNeg, Int.reduceLT, Int.reduceLE, Nat.reduceAdd, Nat.reduceLeDiff, Nat.reduceLT, Nat.reduceSub, reduceIte, wds_n, wds_0, wds_1, wds_2, wds_3, or_true, true_or, or_false, false_or, or_self]
          · simp only [hs_eq, ne_eq, not_false_eq_true, not_true_eq_false, true_and, and_true, and_self, implies_true, eq_self, true_imp_iff, false_implies, Int.reduceEq, Int.reduceNe, Int.reduceMod, Int.reduceMul, Int.reduceAdd, Int.reduceSub, Int.reduceNeg, Int.reduceLT, Int.reduceLE, Nat.reduceAdd, Nat.reduceLeDiff, Nat.reduceLT, Nat.reduceSub, reduceIte, wds_n, wds_0, wds_1, wds_2, wds_3, or_true, true_or, or_false, false_or, or_self]
            rw [tkE, if_neg (by omega), if_neg hL, if_neg hD]
          · simp only [hs_eq, ne_eq, not_false_eq_true, not_true_eq_false, true_and, and_true, and_self, implies_true, eq_self, true_imp_iff, false_implies, Int.reduceEq, Int.reduceNe, Int.reduceMod, Int.reduceMul, Int.reduceAdd, Int.reduceSub, Int.reduceNeg, Int.reduceLT, Int.reduceLE, Nat.reduceAdd, Nat.reduceLeDiff, Nat.reduceLT, Nat.reduceSub, reduceIte, wds_n, wds_0, wds_1, wds_2, wds_3, or_true, true_or, or_false, false_or, or_self]
            exact hk
          · intro q
            rw [ekK] at q
            split at q <;> omega
          · intro q
            rw [ekK] at q
            split at q <;> omega
          · intro q
            rw [ekK] at q
            split at q <;> omega
          · intro _
            simp only [hs_eq, ne_eq, not_false_eq_true, not_true_eq_false, true_and, and_true, and_self, implies_true, eq_self, true_imp_iff, false_implies, Int.reduceEq, Int.reduceNe, Int.reduceMod, Int.reduceMul, Int.reduceAdd, Int.reduceSub, Int.reduceNeg, Int.reduceLT, Int.reduceLE, Nat.reduceAdd, Nat.reduceLeDiff, Nat.reduceLT, Nat.reduceSub, reduceIte, wds_n, wds_0, wds_1, wds_2, wds_3, or_true, true_or, or_false, false_or, or_self]
        refine G_in ?_
        simp only [en28, b28_8, x_aload0, x_baload, y_call33, x_gc_1027, x_gf_1040, x_gf_1101, x_goto_10, x_i2c, x_iand, x_iconst, x_ifCond_lt_9, x_jsr, x_pf_1101, klp_0, klp_1, klp_2, klp_3, klp_9, KC_0, KC_1, KC_2, KC_3, KC_4, ne_eq, not_false_eq_true, not_true_eq_false, true_and, and_true, and_self, implies_true, eq_self, true_imp_iff, false_implies, Int.reduceEq, Int.reduceNe, Int.reduceMod, Int.reduceMul, Int.reduceAdd, Int.reduceSub, Int.reduceNeg, Int.reduceLT, Int.reduceLE, Nat.reduceAdd, Nat.reduceLeDiff, Nat.reduceLT, Nat.reduceSub, reduceIte, wds_n, wds_0, wds_1, wds_2, wds_3, or_true, true_or, or_false, false_or, or_self, hs_eq, hs_ne, ht, z129_0, z227_l, ec, hcc]
        refine ⟨⟨by omega, by omega⟩, by omega, s33 (l := SGL) (by omega) ?_ (by decide) (by decide) (by omega) ?_⟩
        · obtain ⟨S1, S2, S3, S4, S5⟩ := S
          have q51 : ∀ (f : HV) (x : Int), hset f 129 x (h 227 s % 256) (-51) = f (-51) := fun f x => hs_ne (by decide)
          have q52 : ∀ (f : HV) (x v : Int), hset f 129 x v (-51) = f (-51) := fun f x v => hs_ne (by decide)
          have q53 : ∀ (f : HV) (x v : Int), hset f 129 x v (h (-51) 0) = f (h (-51) 0) := fun f x v => hs_ne (by have := S2.1; omega)
          refine ⟨S1, ?_, ?_, ?_, ?_⟩
          all_goals simp only [q52, q53]
          · exact S2
          · exact S3
          · exact S4
          · exact S5
        · rw [ew]
          simp only [en28, b28_8, x_aload0, x_baload, y_call33, x_gc_1027, x_gf_1040, x_gf_1101, x_goto_10, x_i2c, x_iand, x_iconst, x_ifCond_lt_9, x_jsr, x_pf_1101, klp_0, klp_1, klp_2, klp_3, klp_9, KC_0, KC_1, KC_2, KC_3, KC_4, ne_eq, not_false_eq_true, not_true_eq_false, true_and, and_true, and_self, implies_true, eq_self, true_imp_iff, false_implies, Int.reduceEq, Int.reduceNe, Int.reduceMod, Int.reduceMul, Int.reduceAdd, Int.reduceSub, Int.reduceNeg, Int.reduceLT, Int.reduceLE, Nat.reduceAdd, Nat.reduceLeDiff, Nat.reduceLT, Nat.reduceSub, reduceIte, wds_n, wds_0, wds_1, wds_2, wds_3, or_true, true_or, or_false, false_or, or_self]
          refine ⟨fun q => G_in ?_, fun q => fin 4 ?_⟩
          · simp only [en28, b28_9, x_goto_10, x_iconst, klp_0, klp_1, klp_2, klp_3, klp_9, KC_0, KC_1, KC_2, KC_3, KC_4, ne_eq, not_false_eq_true, not_true_eq_false, true_and, and_true, and_self, implies_true, eq_self, true_imp_iff, false_implies, Int.reduceEq, Int.reduceNe, Int.reduceMod, Int.reduceMul, Int.reduceAdd, Int.reduceSub, Int.reduceNeg, Int.reduceLT, Int.reduceLE, Nat.reduceAdd, Nat.reduceLeDiff, Nat.reduceLT, Nat.reduceSub, reduceIte, wds_n, wds_0, wds_1, wds_2, wds_3, or_true, true_or, or_false, false_or, or_self]
            exact fin 5 (by rw [ekK, if_neg (by omega)])
          · rw [ekK, if_pos (by omega)]
  · have hse : s = t := by omega
    refine G_in ?_
    simp only [en28, b28_11, x_return, klp_0, klp_1, klp_2, klp_3, klp_9, KC_0, KC_1, KC_2, KC_3, KC_4, ne_eq, not_false_eq_true, not_true_eq_false, true_and, and_true, and_self, implies_true, eq_self, true_imp_iff, false_implies, Int.reduceEq, Int.reduceNe, Int.reduceMod, Int.reduceMul, Int.reduceAdd, Int.reduceSub, Int.reduceNeg, Int.reduceLT, Int.reduceLE, Nat.reduceAdd, Nat.reduceLeDiff, Nat.reduceLT, Nat.reduceSub, reduceIte, wds_n, wds_0, wds_1, wds_2, wds_3, or_true, true_or, or_false, false_or, or_self]
    refine hQ _ ⟨fun o ho => ?_, ?_, ?_, ?_, ?_, ?_, ?_, ?_, ?_, ?_⟩
    · rw [hs_ne ho, hs_ne ho, hs_ne ho]
    · simp only [hs_eq, ne_eq, not_false_eq_true, not_true_eq_false, true_and, and_true, and_self, implies_true, eq_self, true_imp_iff, false_implies, Int.reduceEq, Int.reduceNe, Int.reduceMod, Int.reduceMul, Int.reduceAdd, Int.reduceSub, Int.reduceNeg, Int.reduceLT, Int.reduceLE, Nat.reduceAdd, Nat.reduceLeDiff, Nat.reduceLT, Nat.reduceSub, reduceIte, wds_n, wds_0, wds_1, wds_2, wds_3, or_true, true_or, or_false, false_or, or_self]
    · simp only [hs_eq, ne_eq, not_false_eq_true, not_true_eq_false, true_and, and_true, and_self, implies_true, eq_self, true_imp_iff, false_implies, Int.reduceEq, Int.reduceNe, Int.reduceMod, Int.reduceMul, Int.reduceAdd, Int.reduceSub, Int.reduceNeg, Int.reduceLT, Int.reduceLE, Nat.reduceAdd, Nat.reduceLeDiff, Nat.reduceLT, Nat.reduceSub, reduceIte, wds_n, wds_0, wds_1, wds_2, wds_3, or_true, true_or, or_false, false_or, or_self]
    · simp only [hs_eq, ne_eq, not_false_eq_true, not_true_eq_false, true_and, and_true, and_self, implies_true, eq_self, true_imp_iff, false_implies, Int.reduceEq, Int.reduceNe, Int.reduceMod, Int.reduceMul, Int.reduceAdd, Int.reduceSub, Int.reduceNeg, Int.reduceLT, Int.reduceLE, Nat.reduceAdd, Nat.reduceLeDiff, Nat.reduceLT, Nat.reduceSub, reduceIte, wds_n, wds_0, wds_1, wds_2, wds_3, or_true, true_or, or_false, false_or, or_self]
    · simp only [hs_eq, ne_eq, not_false_eq_true, not_true_eq_false, true_and, and_true, and_self, implies_true, eq_self, true_imp_iff, false_implies, Int.reduceEq, Int.reduceNe, Int.reduceMod, Int.reduceMul, Int.reduceAdd, Int.reduceSub, Int.reduceNeg, Int.reduceLT, Int.reduceLE, Nat.reduceAdd, Nat.reduceLeDiff, Nat.reduceLT, Nat.reduceSub, reduceIte, wds_n, wds_0, wds_1, wds_2, wds_3, or_true, true_or, or_false, false_or, or_self]
      rw [tkE, if_pos (by omega)]
    · simp only [hs_eq, ne_eq, not_false_eq_true, not_true_eq_false, true_and, and_true, and_self, implies_true, eq_self, true_imp_iff, false_implies, Int.reduceEq, Int.reduceNe, Int.reduceMod, Int.reduceMul, Int.reduceAdd, Int.reduceSub, Int.reduceNeg, Int.reduceLT, Int.reduceLE, Nat.reduceAdd, Nat.reduceLeDiff, Nat.reduceLT, Nat.reduceSub, reduceIte, wds_n, wds_0, wds_1, wds_2, wds_3, or_true, true_or, or_false, false_or, or_self]
      rw [tkK, if_pos (by omega)]
    all_goals
      intro q
      rw [tkK, if_pos (by omega)] at q
      omega

