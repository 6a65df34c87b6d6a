/-! THE PURE SIDE, 12: tokens, reference: printed by wip/tools/genscan3.py -/
theorem SGL_mem (c : Int) : 0 ≤ ixF c SGL 0 ↔ (c = 59 ∨ c = 58 ∨ c = 44 ∨ c = 61 ∨ c = 43 ∨ c = 45 ∨ c = 42 ∨ c = 47 ∨ c = 37 ∨ c = 60 ∨ c = 62 ∨ c = 40 ∨ c = 41 ∨ c = 91 ∨ c = 93 ∨ c = 123 ∨ c = 125) := by
  unfold SGL
  simp only [ixF, Int.reduceAdd, Int.reduceNeg]
  constructor
  · intro h
    repeat' (split at h)
    all_goals omega
  · intro h
    repeat' split
    all_goals omega
def uF : Nat → Int
  | 0 => 1
  | n + 1 => 10 * uF n
theorem uF_pos : ∀ n, 0 < uF n
  | 0 => by decide
  | n + 1 => by have := uF_pos n; rw [uF]; omega
theorem dv_bound {tp : Int → Int} {t : Int} : ∀ (n : Nat) (s V : Int), (∀ i, s ≤ i → i < s + n → isD tp t i) → 0 ≤ V → 0 ≤ dvF tp n s V ∧ dvF tp n s V < (V + 1) * uF n
  | 0, s, V, _, hV => by rw [dvF, uF]; omega
  | n + 1, s, V, hD, hV => by
    have h0 := hD s (by omega) (by omega)
    have ih := dv_bound n (s + 1) (V * 10 + (tp s - 48)) (fun i h1 h2 => hD i (by omega) (by omega)) (by omega)
    rw [dvF, uF]
    refine ⟨ih.1, Int.lt_of_lt_of_le ih.2 ?_⟩
    rw [← Int.mul_assoc]
    exact Int.mul_le_mul_of_nonneg_right (by omega) (by have := uF_pos n; omega)
theorem s322 {d : Nat} {c : Int} {h : HV} {Q : Int → HV → Prop} (hA : 97 ≤ c ∧ c ≤ 122 → Q 1 h) (hB : ¬ (97 ≤ c ∧ c ≤ 122) → Q 0 h) : Sp fz1 d 322 [(0, c)] h Q := by
  refine G_in ?_
  simp only [en322, b322_0, b322_1, b322_2, x_freturn, x_goto_2, x_iconst, x_if_icmp_gt_1, x_if_icmp_lt_1, x_iload0, klp_0, klp_1, klp_2, klp_3, klp_9, KC_0, KC_1, KC_2, KC_3, KC_4, ne_eq, not_false_eq_true, not_true_eq_false, true_and, and_true, and_self, implies_true, eq_self, true_imp_iff, false_implies, Int.reduceEq, Int.reduceNe, Int.reduceMod, Int.reduceMul, Int.reduceAdd, Int.reduceSub, Int.reduceNeg, Int.reduceLT, Int.reduceLE, Nat.reduceAdd, Nat.reduceLeDiff, Nat.reduceLT, Nat.reduceSub, reduceIte, wds_n, wds_0, wds_1, wds_2, wds_3, or_true, true_or, or_false, false_or, or_self]
  repeat' (first
    | (refine And.intro ?_ ?_)
    | (intro _; try (exfalso; omega))
    | (refine G_in ?_; simp only [en322, b322_0, b322_1, b322_2, x_freturn, x_goto_2, x_iconst, x_if_icmp_gt_1, x_if_icmp_lt_1, x_iload0, klp_0, klp_1, klp_2, klp_3, klp_9, KC_0, KC_1, KC_2, KC_3, KC_4, ne_eq, not_false_eq_true, not_true_eq_false, true_and, and_true, and_self, implies_true, eq_self, true_imp_iff, false_implies, Int.reduceEq, Int.reduceNe, Int.reduceMod, Int.reduceMul, Int.reduceAdd, Int.reduceSub, Int.reduceNeg, Int.reduceLT, Int.reduceLE, Nat.reduceAdd, Nat.reduceLeDiff, Nat.reduceLT, Nat.reduceSub, reduceIte, wds_n, wds_0, wds_1, wds_2, wds_3, or_true, true_or, or_false, false_or, or_self])
    | omega
    | (exact hA (by omega))
    | (exact hB (by omega)))
theorem s324 {d : Nat} {c : Int} {h : HV} {Q : Int → HV → Prop} (hA : 48 ≤ c ∧ c ≤ 57 → Q 1 h) (hB : ¬ (48 ≤ c ∧ c ≤ 57) → Q 0 h) : Sp fz1 d 324 [(0, c)] h Q := by
  refine G_in ?_
  simp only [en324, b324_0, b324_1, b324_2, x_freturn, x_goto_2, x_iconst, x_if_icmp_gt_1, x_if_icmp_lt_1, x_iload0, klp_0, klp_1, klp_2, klp_3, klp_9, KC_0, KC_1, KC_2, KC_3, KC_4, ne_eq, not_false_eq_true, not_true_eq_false, true_and, and_true, and_self, implies_true, eq_self, true_imp_iff, false_implies, Int.reduceEq, Int.reduceNe, Int.reduceMod, Int.reduceMul, Int.reduceAdd, Int.reduceSub, Int.reduceNeg, Int.reduceLT, Int.reduceLE, Nat.reduceAdd, Nat.reduceLeDiff, Nat.reduceLT, Nat.reduceSub, reduceIte, wds_n, wds_0, wds_1, wds_2, wds_3, or_true, true_or, or_false, false_or, or_self]
  repeat' (first
    | (refine And.intro ?_ ?_)
    | (intro _; try (exfalso; omega))
    | (refine G_in ?_; simp only [en324, b324_0, b324_1, b324_2, x_freturn, x_goto_2, x_iconst, x_if_icmp_gt_1, x_if_icmp_lt_1, x_iload0, klp_0, klp_1, klp_2, klp_3, klp_9, KC_0, KC_1, KC_2, KC_3, KC_4, ne_eq, not_false_eq_true, not_true_eq_false, true_and, and_true, and_self, implies_true, eq_self, true_imp_iff, false_implies, Int.reduceEq, Int.reduceNe, Int.reduceMod, Int.reduceMul, Int.reduceAdd, Int.reduceSub, Int.reduceNeg, Int.reduceLT, Int.reduceLE, Nat.reduceAdd, Nat.reduceLeDiff, Nat.reduceLT, Nat.reduceSub, reduceIte, wds_n, wds_0, wds_1, wds_2, wds_3, or_true, true_or, or_false, false_or, or_self])
    | omega
    | (exact hA (by omega))
    | (exact hB (by omega)))
theorem s323 {d : Nat} {i t : Int} {h : HV} {Q : Int → HV → Prop} (ht : h 6603 1 = t) (htm : t ≤ 2400) (h0 : 0 ≤ i) (hA : i < t → Q (h 6691 i) h) (hB : t ≤ i → Q 0 h) : Sp fz1 d 323 [(3, 6603), (0, i)] h Q := by
  refine G_in ?_
  simp only [en323, b323_0, b323_1, b323_2, x_aload0, x_baload, x_gc_11267, x_gf_11272, x_goto_2, x_iconst, x_if_icmp_ge_1, x_iload1, x_ireturn, klp_0, klp_1, klp_2, klp_3, klp_9, KC_0, KC_1, KC_2, KC_3, KC_4, ne_eq, not_false_eq_true, not_true_eq_false, true_and, and_true, and_self, implies_true, eq_self, true_imp_iff, false_implies, Int.reduceEq, Int.reduceNe, Int.reduceMod, Int.reduceMul, Int.reduceAdd, Int.reduceSub, Int.reduceNeg, Int.reduceLT, Int.reduceLE, Nat.reduceAdd, Nat.reduceLeDiff, Nat.reduceLT, Nat.reduceSub, reduceIte, wds_n, wds_0, wds_1, wds_2, wds_3, or_true, true_or, or_false, false_or, or_self, ht, z6603_0, z6691_l]
  refine ⟨fun hc => G_in ?_, fun hc => ⟨⟨h0, by omega⟩, G_in ?_⟩⟩
  · simp only [en323, b323_0, b323_1, b323_2, x_aload0, x_baload, x_gc_11267, x_gf_11272, x_goto_2, x_iconst, x_if_icmp_ge_1, x_iload1, x_ireturn, klp_0, klp_1, klp_2, klp_3, klp_9, KC_0, KC_1, KC_2, KC_3, KC_4, ne_eq, not_false_eq_true, not_true_eq_false, true_and, and_true, and_self, implies_true, eq_self, true_imp_iff, false_implies, Int.reduceEq, Int.reduceNe, Int.reduceMod, Int.reduceMul, Int.reduceAdd, Int.reduceSub, Int.reduceNeg, Int.reduceLT, Int.reduceLE, Nat.reduceAdd, Nat.reduceLeDiff, Nat.reduceLT, Nat.reduceSub, reduceIte, wds_n, wds_0, wds_1, wds_2, wds_3, or_true, true_or, or_false, false_or, or_self]
    refine G_in ?_
    simp only [en323, b323_0, b323_1, b323_2, x_aload0, x_baload, x_gc_11267, x_gf_11272, x_goto_2, x_iconst, x_if_icmp_ge_1, x_iload1, x_ireturn, klp_0, klp_1, klp_2, klp_3, klp_9, KC_0, KC_1, KC_2, KC_3, KC_4, ne_eq, not_false_eq_true, not_true_eq_false, true_and, and_true, and_self, implies_true, eq_self, true_imp_iff, false_implies, Int.reduceEq, Int.reduceNe, Int.reduceMod, Int.reduceMul, Int.reduceAdd, Int.reduceSub, Int.reduceNeg, Int.reduceLT, Int.reduceLE, Nat.reduceAdd, Nat.reduceLeDiff, Nat.reduceLT, Nat.reduceSub, reduceIte, wds_n, wds_0, wds_1, wds_2, wds_3, or_true, true_or, or_false, false_or, or_self]
    exact hB hc
  · simp only [en323, b323_0, b323_1, b323_2, x_aload0, x_baload, x_gc_11267, x_gf_11272, x_goto_2, x_iconst, x_if_icmp_ge_1, x_iload1, x_ireturn, klp_0, klp_1, klp_2, klp_3, klp_9, KC_0, KC_1, KC_2, KC_3, KC_4, ne_eq, not_false_eq_true, not_true_eq_false, true_and, and_true, and_self, implies_true, eq_self, true_imp_iff, false_implies, Int.reduceEq, Int.reduceNe, Int.reduceMod, Int.reduceMul, Int.reduceAdd, Int.reduceSub, Int.reduceNeg, Int.reduceLT, Int.reduceLE, Nat.reduceAdd, Nat.reduceLeDiff, Nat.reduceLT, Nat.reduceSub, reduceIte, wds_n, wds_0, wds_1, wds_2, wds_3, or_true, true_or, or_false, false_or, or_self]
    exact hA (by omega)
theorem lp321a {d : Nat} {t : Int} {r : List AV} {h : HV} {Q : Int → HV → Prop} (ht : h 6603 1 = t) (htm : t ≤ 2400) : ∀ (n : Nat) (p : Int), 0 ≤ p → t ≤ p + n → G fz1 d 321 3 ((3, 6603) :: (0, wsF (h 6691) t n p) :: r) [] h Q → G fz1 d 321 1 ((3, 6603) :: (0, p) :: r) [] h Q
  | 0, p, h0, hn, hQ => by
    refine G_in ?_
    simp only [en321, b321_1, x_aload0, x_baload, x_gc_11267, x_gf_11272, x_goto_2, x_iconst, x_if_icmp_eq_2, x_if_icmp_ge_3, x_if_icmp_ne_3, x_iload1, klp_0, klp_1, klp_2, klp_3, klp_9, KC_0, KC_1, KC_2, KC_3, KC_4, ne_eq, not_false_eq_true, not_true_eq_false, true_and, and_true, and_self, implies_true, eq_self, true_imp_iff, false_implies, Int.reduceEq, Int.reduceNe, Int.reduceMod, Int.reduceMul, Int.reduceAdd, Int.reduceSub, Int.reduceNeg, Int.reduceLT, Int.reduceLE, Nat.reduceAdd, Nat.reduceLeDiff, Nat.reduceLT, Nat.reduceSub, reduceIte, wds_n, wds_0, wds_1, wds_2, wds_3, or_true, true_or, or_false, false_or, or_self, ht]
    exact ⟨fun _ => hQ, fun q => (q (by omega)).elim⟩
  | n + 1, p, h0, hn, hQ => by
    rw [wsF] at hQ
    by_cases hc : p < t ∧ (h 6691 p = 32 ∨ h 6691 p = 10)
    · rw [if_pos hc] at hQ
      have h1 : G fz1 d 321 2 ((3, 6603) :: (0, p) :: r) [] h Q := by
        refine G_in ?_
        simp only [en321, b321_2, x_goto_1, x_iinc1, klp_0, klp_1, klp_2, klp_3, klp_9, KC_0, KC_1, KC_2, KC_3, KC_4, ne_eq, not_false_eq_true, not_true_eq_false, true_and, and_true, and_self, implies_true, eq_self, true_imp_iff, false_implies, Int.reduceEq, Int.reduceNe, Int.reduceMod, Int.reduceMul, Int.reduceAdd, Int.reduceSub, Int.reduceNeg, Int.reduceLT, Int.reduceLE, Nat.reduceAdd, Nat.reduceLeDiff, Nat.reduceLT, Nat.reduceSub, reduceIte, wds_n, wds_0, wds_1, wds_2, wds_3, or_true, true_or, or_false, false_or, or_self]
        rw [w32_id (by omega)]
        exact lp321a ht htm n (p + 1) (by omega) (by omega) hQ
      refine G_in ?_
      simp only [en321, b321_1, x_aload0, x_baload, x_gc_11267, x_gf_11272, x_goto_2, x_iconst, x_if_icmp_eq_2, x_if_icmp_ge_3, x_if_icmp_ne_3, x_iload1, klp_0, klp_1, klp_2, klp_3, klp_9, KC_0, KC_1, KC_2, KC_3, KC_4, ne_eq, not_false_eq_true, not_true_eq_false, true_and, and_true, and_self, implies_true, eq_self, true_imp_iff, false_implies, Int.reduceEq, Int.reduceNe, Int.reduceMod, Int.reduceMul, Int.reduceAdd, Int.reduceSub, Int.reduceNeg, Int.reduceLT, Int.reduceLE, Nat.reduceAdd, Nat.reduceLeDiff, Nat.reduceLT, Nat.reduceSub, reduceIte, wds_n, wds_0, wds_1, wds_2, wds_3, or_true, true_or, or_false, false_or, or_self, ht, z6603_0, z6691_l]
      exact ⟨fun q => by omega, fun _ => ⟨⟨h0, by omega⟩, fun _ => h1, fun q => ⟨⟨h0, by omega⟩, fun q2 => by omega, fun _ => h1⟩⟩⟩
    · rw [if_neg hc] at hQ
      refine G_in ?_
      simp only [en321, b321_1, x_aload0, x_baload, x_gc_11267, x_gf_11272, x_goto_2, x_iconst, x_if_icmp_eq_2, x_if_icmp_ge_3, x_if_icmp_ne_3, x_iload1, klp_0, klp_1, klp_2, klp_3, klp_9, KC_0, KC_1, KC_2, KC_3, KC_4, ne_eq, not_false_eq_true, not_true_eq_false, true_and, and_true, and_self, implies_true, eq_self, true_imp_iff, false_implies, Int.reduceEq, Int.reduceNe, Int.reduceMod, Int.reduceMul, Int.reduceAdd, Int.reduceSub, Int.reduceNeg, Int.reduceLT, Int.reduceLE, Nat.reduceAdd, Nat.reduceLeDiff, Nat.reduceLT, Nat.reduceSub, reduceIte, wds_n, wds_0, wds_1, wds_2, wds_3, or_true, true_or, or_false, false_or, or_self, ht, z6603_0, z6691_l]
      exact ⟨fun _ => hQ, fun q => ⟨⟨h0, by omega⟩, fun q2 => by omega, fun q2 => ⟨⟨h0, by omega⟩, fun _ => hQ, fun q3 => by omega⟩⟩⟩
theorem lp321b {d : Nat} {t : Int} {r : List AV} {h : HV} {Q : Int → HV → Prop} (hd : 0 < d) (ht : h 6603 1 = t) (htm : t ≤ 2400) : ∀ (n : Nat) (p : Int), 0 ≤ p → t ≤ p + n → G fz1 d 321 7 ((3, 6603) :: r) [] (hset h 6603 4 (wdF (h 6691) t n p)) Q → G fz1 d 321 5 ((3, 6603) :: r) [] (hset h 6603 4 p) Q := by
  have base : ∀ p : Int, 0 ≤ p → (¬ (isL (h 6691) t p ∨ isD (h 6691) t p) → G fz1 d 321 7 ((3, 6603) :: r) [] (hset h 6603 4 p) Q) → (isL (h 6691) t p ∨ isD (h 6691) t p → G fz1 d 321 6 ((3, 6603) :: r) [] (hset h 6603 4 p) Q) → G fz1 d 321 5 ((3, 6603) :: r) [] (hset h 6603 4 p) Q := fun p h0 hA hB => by
    have e1 : (hset h 6603 4 p) 6691 = h 6691 := hs_ne (by decide)
    have e2 : (hset h 6603 4 p) 6603 1 = t := by simp only [hs_eq, ne_eq, not_false_eq_true, not_true_eq_false, true_and, and_true, and_self, implies_true, eq_self, true_imp_iff, false_implies, Int.reduceEq, Int.reduceNe, Int.reduceMod, Int.reduceMul, Int.reduceAdd, Int.reduceSub, Int.reduceNeg, Int.reduceLT, Int.reduceLE, Nat.reduceAdd, Nat.reduceLeDiff, Nat.reduceLT, Nat.reduceSub, reduceIte, wds_n, wds_0, wds_1, wds_2, wds_3, or_true, true_or, or_false, false_or, or_self, ht]
    refine G_in ?_
    simp only [en321, b321_5, x_aload0, y_call322, y_call323, y_call324, x_gf_11296, x_goto_6, x_ifCond_eq_7, x_ifCond_ne_6, klp_0, klp_1, klp_2, klp_3, klp_9, KC_0, KC_1, KC_2, KC_3, KC_4, ne_eq, not_false_eq_true, not_true_eq_false, true_and, and_true, and_self, implies_true, eq_self, true_imp_iff, false_implies, Int.reduceEq, Int.reduceNe, Int.reduceMod, Int.reduceMul, Int.reduceAdd, Int.reduceSub, Int.reduceNeg, Int.reduceLT, Int.reduceLE, Nat.reduceAdd, Nat.reduceLeDiff, Nat.reduceLT, Nat.reduceSub, reduceIte, wds_n, wds_0, wds_1, wds_2, wds_3, or_true, true_or, or_false, false_or, or_self, hs_eq]
    refine ⟨hd, s323 e2 htm h0 (fun q1 => ?_) (fun q1 => ?_)⟩
    · rw [e1]
      simp only [en321, b321_5, x_aload0, y_call322, y_call323, y_call324, x_gf_11296, x_goto_6, x_ifCond_eq_7, x_ifCond_ne_6, klp_0, klp_1, klp_2, klp_3, klp_9, KC_0, KC_1, KC_2, KC_3, KC_4, ne_eq, not_false_eq_true, not_true_eq_false, true_and, and_true, and_self, implies_true, eq_self, true_imp_iff, false_implies, Int.reduceEq, Int.reduceNe, Int.reduceMod, Int.reduceMul, Int.reduceAdd, Int.reduceSub, Int.reduceNeg, Int.reduceLT, Int.reduceLE, Nat.reduceAdd, Nat.reduceLeDiff, Nat.reduceLT, Nat.reduceSub, reduceIte, wds_n, wds_0, wds_1, wds_2, wds_3, or_true, true_or, or_false, false_or, or_self]
      refine ⟨hd, s322 (fun q2 => ?_) (fun q2 => ?_)⟩
      · simp only [en321, b321_5, x_aload0, y_call322, y_call323, y_call324, x_gf_11296, x_goto_6, x_ifCond_eq_7, x_ifCond_ne_6, klp_0, klp_1, klp_2, klp_3, klp_9, KC_0, KC_1, KC_2, KC_3, KC_4, ne_eq, not_false_eq_true, not_true_eq_false, true_and, and_true, and_self, implies_true, eq_self, true_imp_iff, false_implies, Int.reduceEq, Int.reduceNe, Int.reduceMod, Int.reduceMul, Int.reduceAdd, Int.reduceSub, Int.reduceNeg, Int.reduceLT, Int.reduceLE, Nat.reduceAdd, Nat.reduceLeDiff, Nat.reduceLT, Nat.reduceSub, reduceIte, wds_n, wds_0, wds_1, wds_2, wds_3, or_true, true_or, or_false, false_or, or_self]
        exact hB (Or.inl ⟨q1, q2⟩)
      · simp only [en321, b321_5, x_aload0, y_call322, y_call323, y_call324, x_gf_11296, x_goto_6, x_ifCond_eq_7, x_ifCond_ne_6, klp_0, klp_1, klp_2, klp_3, klp_9, KC_0, KC_1, KC_2, KC_3, KC_4, ne_eq, not_false_eq_true, not_true_eq_false, true_and, and_true, and_self, implies_true, eq_self, true_imp_iff, false_implies, Int.reduceEq, Int.reduceNe, Int.reduceMod, Int.reduceMul, Int.reduceAdd, Int.reduceSub, Int.reduceNeg, Int.reduceLT, Int.reduceLE, Nat.reduceAdd, Nat.reduceLeDiff, Nat.reduceLT, Nat.reduceSub, reduceIte, wds_n, wds_0, wds_1, wds_2, wds_3, or_true, true_or, or_false, false_or, or_self, hs_eq]
        refine ⟨hd, s323 e2 htm h0 (fun q3 => ?_) (fun q3 => by omega)⟩
        rw [e1]
        simp only [en321, b321_5, x_aload0, y_call322, y_call323, y_call324, x_gf_11296, x_goto_6, x_ifCond_eq_7, x_ifCond_ne_6, klp_0, klp_1, klp_2, klp_3, klp_9, KC_0, KC_1, KC_2, KC_3, KC_4, ne_eq, not_false_eq_true, not_true_eq_false, true_and, and_true, and_self, implies_true, eq_self, true_imp_iff, false_implies, Int.reduceEq, Int.reduceNe, Int.reduceMod, Int.reduceMul, Int.reduceAdd, Int.reduceSub, Int.reduceNeg, Int.reduceLT, Int.reduceLE, Nat.reduceAdd, Nat.reduceLeDiff, Nat.reduceLT, Nat.reduceSub, reduceIte, wds_n, wds_0, wds_1, wds_2, wds_3, or_true, true_or, or_false, false_or, or_self]
        refine ⟨hd, s324 (fun q4 => ?_) (fun q4 => ?_)⟩
        · simp only [en321, b321_5, x_aload0, y_call322, y_call323, y_call324, x_gf_11296, x_goto_6, x_ifCond_eq_7, x_ifCond_ne_6, klp_0, klp_1, klp_2, klp_3, klp_9, KC_0, KC_1, KC_2, KC_3, KC_4, ne_eq, not_false_eq_true, not_true_eq_false, true_and, and_true, and_self, implies_true, eq_self, true_imp_iff, false_implies, Int.reduceEq, Int.reduceNe, Int.reduceMod, Int.reduceMul, Int.reduceAdd, Int.reduceSub, Int.reduceNeg, Int.reduceLT, Int.reduceLE, Nat.reduceAdd, Nat.reduceLeDiff, Nat.reduceLT, Nat.reduceSub, reduceIte, wds_n, wds_0, wds_1, wds_2, wds_3, or_true, true_or, or_false, false_or, or_self]
          exact hB (Or.inr ⟨q1, q4⟩)
        · simp only [en321, b321_5, x_aload0, y_call322, y_call323, y_call324, x_gf_11296, x_goto_6, x_ifCond_eq_7, x_ifCond_ne_6, klp_0, klp_1, klp_2, klp_3, klp_9, KC_0, KC_1, KC_2, KC_3, KC_4, ne_eq, not_false_eq_true, not_true_eq_false, true_and, and_true, and_self, implies_true, eq_self, true_imp_iff, false_implies, Int.reduceEq, Int.reduceNe, Int.reduceMod, Int.reduceMul, Int.reduceAdd, Int.reduceSub, Int.reduceNeg, Int.reduceLT, Int.reduceLE, Nat.reduceAdd, Nat.reduceLeDiff, Nat.reduceLT, Nat.reduceSub, reduceIte, wds_n, wds_0, wds_1, wds_2, wds_3, or_true, true_or, or_false, false_or, or_self]
          exact hA (fun q5 => q5.elim (fun q6 => q2 q6.2) (fun q6 => q4 q6.2))
    · simp only [en321, b321_5, x_aload0, y_call322, y_call323, y_call324, x_gf_11296, x_goto_6, x_ifCond_eq_7, x_ifCond_ne_6, klp_0, klp_1, klp_2, klp_3, klp_9, KC_0, KC_1, KC_2, KC_3, KC_4, ne_eq, not_false_eq_true, not_true_eq_false, true_and, and_true, and_self, implies_true, eq_self, true_imp_iff, false_implies, Int.reduceEq, Int.reduceNe, Int.reduceMod, Int.reduceMul, Int.reduceAdd, Int.reduceSub, Int.reduceNeg, Int.reduceLT, Int.reduceLE, Nat.reduceAdd, Nat.reduceLeDiff, Nat.reduceLT, Nat.reduceSub, reduceIte, wds_n, wds_0, wds_1, wds_2, wds_3, or_true, true_or, or_false, false_or, or_self]
      refine ⟨hd, s322 (fun q2 => by omega) (fun q2 => ?_)⟩
      simp only [en321, b321_5, x_aload0, y_call322, y_call323, y_call324, x_gf_11296, x_goto_6, x_ifCond_eq_7, x_ifCond_ne_6, klp_0, klp_1, klp_2, klp_3, klp_9, KC_0, KC_1, KC_2, KC_3, KC_4, ne_eq, not_false_eq_true, not_true_eq_false, true_and, and_true, and_self, implies_true, eq_self, true_imp_iff, false_implies, Int.reduceEq, Int.reduceNe, Int.reduceMod, Int.reduceMul, Int.reduceAdd, Int.reduceSub, Int.reduceNeg, Int.reduceLT, Int.reduceLE, Nat.reduceAdd, Nat.reduceLeDiff, Nat.reduceLT, Nat.reduceSub, reduceIte, wds_n, wds_0, wds_1, wds_2, wds_3, or_true, true_or, or_false, false_or, or_self, hs_eq]
      refine ⟨hd, s323 e2 htm h0 (fun q3 => by omega) (fun q3 => ?_)⟩
      simp only [en321, b321_5, x_aload0, y_call322, y_call323, y_call324, x_gf_11296, x_goto_6, x_ifCond_eq_7, x_ifCond_ne_6, klp_0, klp_1, klp_2, klp_3, klp_9, KC_0, KC_1, KC_2, KC_3, KC_4, ne_eq, not_false_eq_true, not_true_eq_false, true_and, and_true, and_self, implies_true, eq_self, true_imp_iff, false_implies, Int.reduceEq, Int.reduceNe, Int.reduceMod, Int.reduceMul, Int.reduceAdd, Int.reduceSub, Int.reduceNeg, Int.reduceLT, Int.reduceLE, Nat.reduceAdd, Nat.reduceLeDiff, Nat.reduceLT, Nat.reduceSub, reduceIte, wds_n, wds_0, wds_1, wds_2, wds_3, or_true, true_or, or_false, false_or, or_self]
      refine ⟨hd, s324 (fun q4 => by omega) (fun q4 => ?_)⟩
      simp only [en321, b321_5, x_aload0, y_call322, y_call323, y_call324, x_gf_11296, x_goto_6, x_ifCond_eq_7, x_ifCond_ne_6, klp_0, klp_1, klp_2, klp_3, klp_9, KC_0, KC_1, KC_2, KC_3, KC_4, ne_eq, not_false_eq_true, not_true_eq_false, true_and, and_true, and_self, implies_true, eq_self, true_imp_iff, false_implies, Int.reduceEq, Int.reduceNe, Int.reduceMod, Int.reduceMul, Int.reduceAdd, Int.reduceSub, Int.reduceNeg, Int.reduceLT, Int.reduceLE, Nat.reduceAdd, Nat.reduceLeDiff, Nat.reduceLT, Nat.reduceSub, reduceIte, wds_n, wds_0, wds_1, wds_2, wds_3, or_true, true_or, or_false, false_or, or_self]
      exact hA (fun q5 => by omega)
  intro n
  induction n with
  | zero => exact fun p h0 hn hQ => base p h0 (fun _ => hQ) (fun q => by omega)
  | succ n ih =>
    intro p h0 hn hQ
    rw [wdF] at hQ
    refine base p h0 (fun q => ?_) (fun q => ?_)
    · rw [if_neg q] at hQ
      exact hQ
    · rw [if_pos q] at hQ
      refine G_in ?_
      simp only [en321, b321_6, x_aload0, x_dup0, x_dup3, x_gf_11296, x_goto_5, x_iadd, x_iconst, x_pf_11296, klp_0, klp_1, klp_2, klp_3, klp_9, KC_0, KC_1, KC_2, KC_3, KC_4, ne_eq, not_false_eq_true, not_true_eq_false, true_and, and_true, and_self, implies_true, eq_self, true_imp_iff, false_implies, Int.reduceEq, Int.reduceNe, Int.reduceMod, Int.reduceMul, Int.reduceAdd, Int.reduceSub, Int.reduceNeg, Int.reduceLT, Int.reduceLE, Nat.reduceAdd, Nat.reduceLeDiff, Nat.reduceLT, Nat.reduceSub, reduceIte, wds_n, wds_0, wds_1, wds_2, wds_3, or_true, true_or, or_false, false_or, or_self, hs_eq, hset_hset]
      rw [w32_id (by omega)]
      exact ih (p + 1) (by omega) (by omega) hQ
theorem lp321c {d : Nat} {t : Int} {r : List AV} {h : HV} {Q : Int → HV → Prop} (hd : 0 < d) (ht : h 6603 1 = t) (htm : t ≤ 2400) : ∀ (n : Nat) (p : Int), 0 ≤ p → t ≤ p + n → G fz1 d 321 12 ((3, 6603) :: r) [] (hset h 6603 4 (dgF (h 6691) t n p)) Q → G fz1 d 321 11 ((3, 6603) :: r) [] (hset h 6603 4 p) Q := by
  have base : ∀ p : Int, 0 ≤ p → (¬ isD (h 6691) t p → G fz1 d 321 12 ((3, 6603) :: r) [] (hset h 6603 4 p) Q) → (isD (h 6691) t p → p < t → G fz1 d 321 11 ((3, 6603) :: r) [] (hset h 6603 4 (p + 1)) Q) → G fz1 d 321 11 ((3, 6603) :: r) [] (hset h 6603 4 p) Q := fun p h0 hA hB => by
    have e1 : (hset h 6603 4 p) 6691 = h 6691 := hs_ne (by decide)
    have e2 : (hset h 6603 4 p) 6603 1 = t := by simp only [hs_eq, ne_eq, not_false_eq_true, not_true_eq_false, true_and, and_true, and_self, implies_true, eq_self, true_imp_iff, false_implies, Int.reduceEq, Int.reduceNe, Int.reduceMod, Int.reduceMul, Int.reduceAdd, Int.reduceSub, Int.reduceNeg, Int.reduceLT, Int.reduceLE, Nat.reduceAdd, Nat.reduceLeDiff, Nat.reduceLT, Nat.reduceSub, reduceIte, wds_n, wds_0, wds_1, wds_2, wds_3, or_true, true_or, or_false, false_or, or_self, ht]
    refine G_in ?_
    simp only [en321, b321_11, x_aload0, y_call323, y_call324, x_dup0, x_dup3, x_gf_11296, x_goto_11, x_iadd, x_iconst, x_ifCond_eq_12, x_pf_11296, klp_0, klp_1, klp_2, klp_3, klp_9, KC_0, KC_1, KC_2, KC_3, KC_4, ne_eq, not_false_eq_true, not_true_eq_false, true_and, and_true, and_self, implies_true, eq_self, true_imp_iff, false_implies, Int.reduceEq, Int.reduceNe, Int.reduceMod, Int.reduceMul, Int.reduceAdd, Int.reduceSub, Int.reduceNeg, Int.reduceLT, Int.reduceLE, Nat.reduceAdd, Nat.reduceLeDiff, Nat.reduceLT, Nat.reduceSub, reduceIte, wds_n, wds_0, wds_1, wds_2, wds_3, or_true, true_or, or_false, false_or, or_self, hs_eq]
    refine ⟨hd, s323 e2 htm h0 (fun q1 => ?_) (fun q1 => ?_)⟩
    · rw [e1]
      simp only [en321, b321_11, x_aload0, y_call323, y_call324, x_dup0, x_dup3, x_gf_11296, x_goto_11, x_iadd, x_iconst, x_ifCond_eq_12, x_pf_11296, klp_0, klp_1, klp_2, klp_3, klp_9, KC_0, KC_1, KC_2, KC_3, KC_4, ne_eq, not_false_eq_true, not_true_eq_false, true_and, and_true, and_self, implies_true, eq_self, true_imp_iff, false_implies, Int.reduceEq, Int.reduceNe, Int.reduceMod, Int.reduceMul, Int.reduceAdd, Int.reduceSub, Int.reduceNeg, Int.reduceLT, Int.reduceLE, Nat.reduceAdd, Nat.reduceLeDiff, Nat.reduceLT, Nat.reduceSub, reduceIte, wds_n, wds_0, wds_1, wds_2, wds_3, or_true, true_or, or_false, false_or, or_self]
      refine ⟨hd, s324 (fun q2 => ?_) (fun q2 => ?_)⟩
      · simp only [en321, b321_11, x_aload0, y_call323, y_call324, x_dup0, x_dup3, x_gf_11296, x_goto_11, x_iadd, x_iconst, x_ifCond_eq_12, x_pf_11296, klp_0, klp_1, klp_2, klp_3, klp_9, KC_0, KC_1, KC_2, KC_3, KC_4, ne_eq, not_false_eq_true, not_true_eq_false, true_and, and_true, and_self, implies_true, eq_self, true_imp_iff, false_implies, Int.reduceEq, Int.reduceNe, Int.reduceMod, Int.reduceMul, Int.reduceAdd, Int.reduceSub, Int.reduceNeg, Int.reduceLT, Int.reduceLE, Nat.reduceAdd, Nat.reduceLeDiff, Nat.reduceLT, Nat.reduceSub, reduceIte, wds_n, wds_0, wds_1, wds_2, wds_3, or_true, true_or, or_false, false_or, or_self, hs_eq, hset_hset]
        rw [w32_id (by omega)]
        exact hB ⟨q1, q2⟩ q1
      · simp only [en321, b321_11, x_aload0, y_call323, y_call324, x_dup0, x_dup3, x_gf_11296, x_goto_11, x_iadd, x_iconst, x_ifCond_eq_12, x_pf_11296, klp_0, klp_1, klp_2, klp_3, klp_9, KC_0, KC_1, KC_2, KC_3, KC_4, ne_eq, not_false_eq_true, not_true_eq_false, true_and, and_true, and_self, implies_true, eq_self, true_imp_iff, false_implies, Int.reduceEq, Int.reduceNe, Int.reduceMod, Int.reduceMul, Int.reduceAdd, Int.reduceSub, Int.reduceNeg, Int.reduceLT, Int.reduceLE, Nat.reduceAdd, Nat.reduceLeDiff, Nat.reduceLT, Nat.reduceSub, reduceIte, wds_n, wds_0, wds_1, wds_2, wds_3, or_true, true_or, or_false, false_or, or_self]
        exact hA (fun q5 => q2 q5.2)
    · simp only [en321, b321_11, x_aload0, y_call323, y_call324, x_dup0, x_dup3, x_gf_11296, x_goto_11, x_iadd, x_iconst, x_ifCond_eq_12, x_pf_11296, klp_0, klp_1, klp_2, klp_3, klp_9, KC_0, KC_1, KC_2, KC_3, KC_4, ne_eq, not_false_eq_true, not_true_eq_false, true_and, and_true, and_self, implies_true, eq_self, true_imp_iff, false_implies, Int.reduceEq, Int.reduceNe, Int.reduceMod, Int.reduceMul, Int.reduceAdd, Int.reduceSub, Int.reduceNeg, Int.reduceLT, Int.reduceLE, Nat.reduceAdd, Nat.reduceLeDiff, Nat.reduceLT, Nat.reduceSub, reduceIte, wds_n, wds_0, wds_1, wds_2, wds_3, or_true, true_or, or_false, false_or, or_self]
      refine ⟨hd, s324 (fun q4 => by omega) (fun q4 => ?_)⟩
      simp only [en321, b321_11, x_aload0, y_call323, y_call324, x_dup0, x_dup3, x_gf_11296, x_goto_11, x_iadd, x_iconst, x_ifCond_eq_12, x_pf_11296, klp_0, klp_1, klp_2, klp_3, klp_9, KC_0, KC_1, KC_2, KC_3, KC_4, ne_eq, not_false_eq_true, not_true_eq_false, true_and, and_true, and_self, implies_true, eq_self, true_imp_iff, false_implies, Int.reduceEq, Int.reduceNe, Int.reduceMod, Int.reduceMul, Int.reduceAdd, Int.reduceSub, Int.reduceNeg, Int.reduceLT, Int.reduceLE, Nat.reduceAdd, Nat.reduceLeDiff, Nat.reduceLT, Nat.reduceSub, reduceIte, wds_n, wds_0, wds_1, wds_2, wds_3, or_true, true_or, or_false, false_or, or_self]
      exact hA (fun q5 => by omega)
  intro n
  induction n with
  | zero => exact fun p h0 hn hQ => base p h0 (fun _ => hQ) (fun q => by omega)
  | succ n ih =>
    intro p h0 hn hQ
    rw [dgF] at hQ
    refine base p h0 (fun q => ?_) (fun q q1 => ?_)
    · rw [if_neg q] at hQ
      exact hQ
    · rw [if_pos q] at hQ
      exact ih (p + 1) (by omega) (by omega) hQ
theorem w32_dg (V c : Int) : w32 (w32 (w32 (10 * w32 V) + c) - 48) = w32 (V * 10 + (c - 48)) := by unfold w32; omega
theorem w64_dg2 (V c : Int) : w64 (w64 (w64 (10 * w64 V) + c) - 48) = w64 (V * 10 + (c - 48)) := by unfold w64; omega
/-- the value of a NUMBER -/
theorem lp321d {d : Nat} {e : Int} {w : Int} {a1 a2 : AV} {r : List AV} {h : HV} {Q : Int → HV → Prop} (he : h 6603 4 = e) (hem : e ≤ 2400) (htk : h 6603 2 = 2) : ∀ (n : Nat) (k V : Int), 0 ≤ k → k + n = e → G fz1 d 321 16 ((3, 6603) :: a1 :: a2 :: (0, w) :: (0, e) :: r) [] (hset h 6603 5 (w32 (dvF (h 6691) n k V))) Q → G fz1 d 321 15 ((3, 6603) :: a1 :: a2 :: (0, w) :: (0, k) :: r) [] (hset h 6603 5 (w32 V)) Q
  | 0, k, V, h0, hn, hQ => by
    have ek : k = e := by omega
    subst ek
    rw [dvF] at hQ
    refine G_in ?_
    simp only [en321, b321_15, x_aload0, x_baload, x_gc_11267, x_gf_11280, x_gf_11296, x_gf_11304, x_goto_15, x_iadd, x_iconst, x_if_icmp_ge_16, x_if_icmp_ne_16, x_iinc4, x_iload4, x_imul, x_isub, x_pf_11304, klp_0, klp_1, klp_2, klp_3, klp_9, KC_0, KC_1, KC_2, KC_3, KC_4, ne_eq, not_false_eq_true, not_true_eq_false, true_and, and_true, and_self, implies_true, eq_self, true_imp_iff, false_implies, Int.reduceEq, Int.reduceNe, Int.reduceMod, Int.reduceMul, Int.reduceAdd, Int.reduceSub, Int.reduceNeg, Int.reduceLT, Int.reduceLE, Nat.reduceAdd, Nat.reduceLeDiff, Nat.reduceLT, Nat.reduceSub, reduceIte, wds_n, wds_0, wds_1, wds_2, wds_3, or_true, true_or, or_false, false_or, or_self, hs_eq, he]
    exact ⟨fun _ => hQ, fun q => (q (by omega)).elim⟩
  | n + 1, k, V, h0, hn, hQ => by
    rw [dvF] at hQ
    refine G_in ?_
    simp only [en321, b321_15, x_aload0, x_baload, x_gc_11267, x_gf_11280, x_gf_11296, x_gf_11304, x_goto_15, x_iadd, x_iconst, x_if_icmp_ge_16, x_if_icmp_ne_16, x_iinc4, x_iload4, x_imul, x_isub, x_pf_11304, klp_0, klp_1, klp_2, klp_3, klp_9, KC_0, KC_1, KC_2, KC_3, KC_4, ne_eq, not_false_eq_true, not_true_eq_false, true_and, and_true, and_self, implies_true, eq_self, true_imp_iff, false_implies, Int.reduceEq, Int.reduceNe, Int.reduceMod, Int.reduceMul, Int.reduceAdd, Int.reduceSub, Int.reduceNeg, Int.reduceLT, Int.reduceLE, Nat.reduceAdd, Nat.reduceLeDiff, Nat.reduceLT, Nat.reduceSub, reduceIte, wds_n, wds_0, wds_1, wds_2, wds_3, or_true, true_or, or_false, false_or, or_self, hs_eq, hs_ne, he, htk, z6603_0, z6691_l]
    refine ⟨fun q => by omega, fun _ => ⟨⟨h0, by omega⟩, ?_⟩⟩
    rw [w32_dg, hset_hset, w32_id (x := k + 1) (by omega)]
    exact lp321d he hem htk n (k + 1) _ (by omega) (by omega) hQ
theorem dvF_last (tp : Int → Int) : ∀ (n : Nat) (s V : Int), dvF tp (n + 1) s V = dvF tp n s V * 10 + (tp (s + n) - 48)
  | 0, s, V => by rw [dvF, dvF, dvF, show s + ((0 : Nat) : Int) = s by omega]
  | n + 1, s, V => by
    rw [dvF, dvF_last tp n (s + 1), dvF, show s + 1 + (n : Int) = s + ((n + 1 : Nat) : Int) by omega]
theorem uF_le {n : Nat} (h : n ≤ 4) : uF n ≤ 10000 := by
  have hc : n = 0 ∨ n = 1 ∨ n = 2 ∨ n = 3 ∨ n = 4 := by omega
  rcases hc with rfl | rfl | rfl | rfl | rfl <;> decide
/-- a fraction's digits, four at most -/
theorem lp321e {d : Nat} {t f V : Int} {a1 a2 a3 : AV} {h : HV} {Q : Int → HV → Prop} (hd : 0 < d) (ht : h 6603 1 = t) (htm : t ≤ 2400) (hf0 : 0 ≤ f) (hQ : ∀ e, e = dgF (h 6691) t 2400 f → G fz1 d 321 22 [(3, 6603), a1, a2, a3, (0, f), (1, w64 (dvF (h 6691) (min (e - f).toNat 4) f V)), (9, 0), (1, uF (min (e - f).toNat 4)), (9, 0)] [] (hset h 6603 4 e) Q) : ∀ (n : Nat) (p : Int), f ≤ p → t ≤ p + n → dgF (h 6691) t n p = dgF (h 6691) t 2400 f → G fz1 d 321 17 [(3, 6603), a1, a2, a3, (0, f), (1, w64 (dvF (h 6691) (min (p - f).toNat 4) f V)), (9, 0), (1, uF (min (p - f).toNat 4)), (9, 0)] [] (hset h 6603 4 p) Q := by
  have base : ∀ p : Int, f ≤ p → (¬ isD (h 6691) t p → G fz1 d 321 22 [(3, 6603), a1, a2, a3, (0, f), (1, w64 (dvF (h 6691) (min (p - f).toNat 4) f V)), (9, 0), (1, uF (min (p - f).toNat 4)), (9, 0)] [] (hset h 6603 4 p) Q) → (isD (h 6691) t p → p < t → G fz1 d 321 17 [(3, 6603), a1, a2, a3, (0, f), (1, w64 (dvF (h 6691) (min (p + 1 - f).toNat 4) f V)), (9, 0), (1, uF (min (p + 1 - f).toNat 4)), (9, 0)] [] (hset h 6603 4 (p + 1)) Q) → G fz1 d 321 17 [(3, 6603), a1, a2, a3, (0, f), (1, w64 (dvF (h 6691) (min (p - f).toNat 4) f V)), (9, 0), (1, uF (min (p - f).toNat 4)), (9, 0)] [] (hset h 6603 4 p) Q := fun p h0 hA hB => by
    have e1 : (hset h 6603 4 p) 6691 = h 6691 := hs_ne (by decide)
    have e2 : (hset h 6603 4 p) 6603 1 = t := by simp only [hs_eq, ne_eq, not_false_eq_true, not_true_eq_false, true_and, and_true, and_self, implies_true, eq_self, true_imp_iff, false_implies, Int.reduceEq, Int.reduceNe, Int.reduceMod, Int.reduceMul, Int.reduceAdd, Int.reduceSub, Int.reduceNeg, Int.reduceLT, Int.reduceLE, Nat.reduceAdd, Nat.reduceLeDiff, Nat.reduceLT, Nat.reduceSub, reduceIte, wds_n, wds_0, wds_1, wds_2, wds_3, or_true, true_or, or_false, false_or, or_self, ht]
    refine G_in ?_
    simp only [en321, b321_17, x_aload0, x_baload, x_bipush, y_call323, y_call324, x_gc_11267, x_gf_11296, x_goto_19, x_i2l, x_iconst, x_ifCond_eq_22, x_if_icmp_ge_18, x_iload4, x_isub, x_ladd, x_lload5, x_lmul, x_lsub, klp_0, klp_1, klp_2, klp_3, klp_9, KC_0, KC_1, KC_2, KC_3, KC_4, ne_eq, not_false_eq_true, not_true_eq_false, true_and, and_true, and_self, implies_true, eq_self, true_imp_iff, false_implies, Int.reduceEq, Int.reduceNe, Int.reduceMod, Int.reduceMul, Int.reduceAdd, Int.reduceSub, Int.reduceNeg, Int.reduceLT, Int.reduceLE, Nat.reduceAdd, Nat.reduceLeDiff, Nat.reduceLT, Nat.reduceSub, reduceIte, wds_n, wds_0, wds_1, wds_2, wds_3, or_true, true_or, or_false, false_or, or_self, hs_eq]
    refine ⟨hd, s323 e2 htm (by omega) (fun q1 => ?_) (fun q1 => ?_)⟩
    · rw [e1]
      simp only [en321, b321_17, x_aload0, x_baload, x_bipush, y_call323, y_call324, x_gc_11267, x_gf_11296, x_goto_19, x_i2l, x_iconst, x_ifCond_eq_22, x_if_icmp_ge_18, x_iload4, x_isub, x_ladd, x_lload5, x_lmul, x_lsub, klp_0, klp_1, klp_2, klp_3, klp_9, KC_0, KC_1, KC_2, KC_3, KC_4, ne_eq, not_false_eq_true, not_true_eq_false, true_and, and_true, and_self, implies_true, eq_self, true_imp_iff, false_implies, Int.reduceEq, Int.reduceNe, Int.reduceMod, Int.reduceMul, Int.reduceAdd, Int.reduceSub, Int.reduceNeg, Int.reduceLT, Int.reduceLE, Nat.reduceAdd, Nat.reduceLeDiff, Nat.reduceLT, Nat.reduceSub, reduceIte, wds_n, wds_0, wds_1, wds_2, wds_3, or_true, true_or, or_false, false_or, or_self]
      have ew : w32 (p - f) = p - f := w32_id (by omega)
      refine ⟨hd, s324 (fun q2 => ?_) (fun q2 => ?_)⟩
      · have hB := hB ⟨q1, q2⟩ q1
        simp only [en321, b321_17, x_aload0, x_baload, x_bipush, y_call323, y_call324, x_gc_11267, x_gf_11296, x_goto_19, x_i2l, x_iconst, x_ifCond_eq_22, x_if_icmp_ge_18, x_iload4, x_isub, x_ladd, x_lload5, x_lmul, x_lsub, klp_0, klp_1, klp_2, klp_3, klp_9, KC_0, KC_1, KC_2, KC_3, KC_4, ne_eq, not_false_eq_true, not_true_eq_false, true_and, and_true, and_self, implies_true, eq_self, true_imp_iff, false_implies, Int.reduceEq, Int.reduceNe, Int.reduceMod, Int.reduceMul, Int.reduceAdd, Int.reduceSub, Int.reduceNeg, Int.reduceLT, Int.reduceLE, Nat.reduceAdd, Nat.reduceLeDiff, Nat.reduceLT, Nat.reduceSub, reduceIte, wds_n, wds_0, wds_1, wds_2, wds_3, or_true, true_or, or_false, false_or, or_self, hs_eq, hs_ne, z6603_0, z6691_l, ew]
        refine ⟨fun q3 => ?_, fun q3 => ⟨⟨by omega, by omega⟩, ?_⟩⟩
        · rw [show min (p + 1 - f).toNat 4 = min (p - f).toNat 4 by omega] at hB
          refine G_in ?_
          simp only [en321, b321_18, x_goto_19, x_lload5, klp_0, klp_1, klp_2, klp_3, klp_9, KC_0, KC_1, KC_2, KC_3, KC_4, ne_eq, not_false_eq_true, not_true_eq_false, true_and, and_true, and_self, implies_true, eq_self, true_imp_iff, false_implies, Int.reduceEq, Int.reduceNe, Int.reduceMod, Int.reduceMul, Int.reduceAdd, Int.reduceSub, Int.reduceNeg, Int.reduceLT, Int.reduceLE, Nat.reduceAdd, Nat.reduceLeDiff, Nat.reduceLT, Nat.reduceSub, reduceIte, wds_n, wds_0, wds_1, wds_2, wds_3, or_true, true_or, or_false, false_or, or_self]
          refine G_in ?_
          simp only [en321, b321_19, x_aload0, x_bipush, x_gf_11296, x_goto_21, x_iconst, x_if_icmp_ge_20, x_iload4, x_isub, x_lload7, x_lmul, x_lstore5, klp_0, klp_1, klp_2, klp_3, klp_9, KC_0, KC_1, KC_2, KC_3, KC_4, ne_eq, not_false_eq_true, not_true_eq_false, true_and, and_true, and_self, implies_true, eq_self, true_imp_iff, false_implies, Int.reduceEq, Int.reduceNe, Int.reduceMod, Int.reduceMul, Int.reduceAdd, Int.reduceSub, Int.reduceNeg, Int.reduceLT, Int.reduceLE, Nat.reduceAdd, Nat.reduceLeDiff, Nat.reduceLT, Nat.reduceSub, reduceIte, wds_n, wds_0, wds_1, wds_2, wds_3, or_true, true_or, or_false, false_or, or_self, hs_eq, ew]
          refine ⟨fun q4 => ?_, fun q4 => by omega⟩
          refine G_in ?_
          simp only [en321, b321_20, x_goto_21, x_lload7, klp_0, klp_1, klp_2, klp_3, klp_9, KC_0, KC_1, KC_2, KC_3, KC_4, ne_eq, not_false_eq_true, not_true_eq_false, true_and, and_true, and_self, implies_true, eq_self, true_imp_iff, false_implies, Int.reduceEq, Int.reduceNe, Int.reduceMod, Int.reduceMul, Int.reduceAdd, Int.reduceSub, Int.reduceNeg, Int.reduceLT, Int.reduceLE, Nat.reduceAdd, Nat.reduceLeDiff, Nat.reduceLT, Nat.reduceSub, reduceIte, wds_n, wds_0, wds_1, wds_2, wds_3, or_true, true_or, or_false, false_or, or_self]
          refine G_in ?_
          simp only [en321, b321_21, x_aload0, x_dup0, x_dup3, x_gf_11296, x_goto_17, x_iadd, x_iconst, x_lstore7, x_pf_11296, klp_0, klp_1, klp_2, klp_3, klp_9, KC_0, KC_1, KC_2, KC_3, KC_4, ne_eq, not_false_eq_true, not_true_eq_false, true_and, and_true, and_self, implies_true, eq_self, true_imp_iff, false_implies, Int.reduceEq, Int.reduceNe, Int.reduceMod, Int.reduceMul, Int.reduceAdd, Int.reduceSub, Int.reduceNeg, Int.reduceLT, Int.reduceLE, Nat.reduceAdd, Nat.reduceLeDiff, Nat.reduceLT, Nat.reduceSub, reduceIte, wds_n, wds_0, wds_1, wds_2, wds_3, or_true, true_or, or_false, false_or, or_self, hs_eq, hset_hset]
          rw [w32_id (by omega)]
          exact hB
        · rw [show min (p + 1 - f).toNat 4 = (p - f).toNat + 1 by omega, dvF_last, show f + ((p - f).toNat : Int) = p by omega, uF] at hB
          rw [show min (p - f).toNat 4 = (p - f).toNat by omega, w64_dg2]
          have eu : w64 (10 * uF (p - f).toNat) = 10 * uF (p - f).toNat := w64_id (by have := uF_le (n := (p - f).toNat) (by omega); have := uF_pos (p - f).toNat; omega)
          refine G_in ?_
          simp only [en321, b321_19, x_aload0, x_bipush, x_gf_11296, x_goto_21, x_iconst, x_if_icmp_ge_20, x_iload4, x_isub, x_lload7, x_lmul, x_lstore5, klp_0, klp_1, klp_2, klp_3, klp_9, KC_0, KC_1, KC_2, KC_3, KC_4, ne_eq, not_false_eq_true, not_true_eq_false, true_and, and_true, and_self, implies_true, eq_self, true_imp_iff, false_implies, Int.reduceEq, Int.reduceNe, Int.reduceMod, Int.reduceMul, Int.reduceAdd, Int.reduceSub, Int.reduceNeg, Int.reduceLT, Int.reduceLE, Nat.reduceAdd, Nat.reduceLeDiff, Nat.reduceLT, Nat.reduceSub, reduceIte, wds_n, wds_0, wds_1, wds_2, wds_3, or_true, true_or, or_false, false_or, or_self, hs_eq, ew]
          refine ⟨fun q4 => by omega, fun q4 => ?_⟩
          rw [eu]
          refine G_in ?_
          simp only [en321, b321_21, x_aload0, x_dup0, x_dup3, x_gf_11296, x_goto_17, x_iadd, x_iconst, x_lstore7, x_pf_11296, klp_0, klp_1, klp_2, klp_3, klp_9, KC_0, KC_1, KC_2, KC_3, KC_4, ne_eq, not_false_eq_true, not_true_eq_false, true_and, and_true, and_self, implies_true, eq_self, true_imp_iff, false_implies, Int.reduceEq, Int.reduceNe, Int.reduceMod, Int.reduceMul, Int.reduceAdd, Int.reduceSub, Int.reduceNeg, Int.reduceLT, Int.reduceLE, Nat.reduceAdd, Nat.reduceLeDiff, Nat.reduceLT, Nat.reduceSub, reduceIte, wds_n, wds_0, wds_1, wds_2, wds_3, or_true, true_or, or_false, false_or, or_self, hs_eq, hset_hset]
          rw [w32_id (by omega)]
          exact hB
      · simp only [en321, b321_17, x_aload0, x_baload, x_bipush, y_call323, y_call324, x_gc_11267, x_gf_11296, x_goto_19, x_i2l, x_iconst, x_ifCond_eq_22, x_if_icmp_ge_18, x_iload4, x_isub, x_ladd, x_lload5, x_lmul, x_lsub, klp_0, klp_1, klp_2, klp_3, klp_9, KC_0, KC_1, KC_2, KC_3, KC_4, ne_eq, not_false_eq_true, not_true_eq_false, true_and, and_true, and_self, implies_true, eq_self, true_imp_iff, false_implies, Int.reduceEq, Int.reduceNe, Int.reduceMod, Int.reduceMul, Int.reduceAdd, Int.reduceSub, Int.reduceNeg, Int.reduceLT, Int.reduceLE, Nat.reduceAdd, Nat.reduceLeDiff, Nat.reduceLT, Nat.reduceSub, reduceIte, wds_n, wds_0, wds_1, wds_2, wds_3, or_true, true_or, or_false, false_or, or_self]
        exact hA (fun q5 => q2 q5.2)
    · simp only [en321, b321_17, x_aload0, x_baload, x_bipush, y_call323, y_call324, x_gc_11267, x_gf_11296, x_goto_19, x_i2l, x_iconst, x_ifCond_eq_22, x_if_icmp_ge_18, x_iload4, x_isub, x_ladd, x_lload5, x_lmul, x_lsub, klp_0, klp_1, klp_2, klp_3, klp_9, KC_0, KC_1, KC_2, KC_3, KC_4, ne_eq, not_false_eq_true, not_true_eq_false, true_and, and_true, and_self, implies_true, eq_self, true_imp_iff, false_implies, Int.reduceEq, Int.reduceNe, Int.reduceMod, Int.reduceMul, Int.reduceAdd, Int.reduceSub, Int.reduceNeg, Int.reduceLT, Int.reduceLE, Nat.reduceAdd, Nat.reduceLeDiff, Nat.reduceLT, Nat.reduceSub, reduceIte, wds_n, wds_0, wds_1, wds_2, wds_3, or_true, true_or, or_false, false_or, or_self]
      refine ⟨hd, s324 (fun q4 => by omega) (fun q4 => ?_)⟩
      simp only [en321, b321_17, x_aload0, x_baload, x_bipush, y_call323, y_call324, x_gc_11267, x_gf_11296, x_goto_19, x_i2l, x_iconst, x_ifCond_eq_22, x_if_icmp_ge_18, x_iload4, x_isub, x_ladd, x_lload5, x_lmul, x_lsub, klp_0, klp_1, klp_2, klp_3, klp_9, KC_0, KC_1, KC_2, KC_3, KC_4, ne_eq, not_false_eq_true, not_true_eq_false, true_and, and_true, and_self, implies_true, eq_self, true_imp_iff, false_implies, Int.reduceEq, Int.reduceNe, Int.reduceMod, Int.reduceMul, Int.reduceAdd, Int.reduceSub, Int.reduceNeg, Int.reduceLT, Int.reduceLE, Nat.reduceAdd, Nat.reduceLeDiff, Nat.reduceLT, Nat.reduceSub, reduceIte, wds_n, wds_0, wds_1, wds_2, wds_3, or_true, true_or, or_false, false_or, or_self]
      exact hA (fun q5 => by omega)
  intro n
  induction n with
  | zero =>
    intro p h0 hn hE
    rw [dgF] at hE
    exact base p h0 (fun _ => hQ p hE) (fun q => by omega)
  | succ n ih =>
    intro p h0 hn hE
    rw [dgF] at hE
    refine base p h0 (fun q => ?_) (fun q q1 => ?_)
    · rw [if_neg q] at hE
      exact hQ p hE
    · rw [if_pos q] at hE
      exact ih (p + 1) (by omega) (by omega) hE
theorem d_UI (u : UInt64) : d_U (d_I u) = u := by
  unfold d_U d_I
  rw [Int64.ofInt_toInt]
  rfl
def TKR (tp : Int → Int) (t s : Int) (h h' : HV) : Prop := (∀ o, o ≠ 6603 → h' o = h o) ∧ (∀ i, i ≠ 2 → i ≠ 3 → i ≠ 4 → i ≠ 5 → i ≠ 6 → h' 6603 i = h 6603 i) ∧ h' 6603 3 = s ∧ h' 6603 4 = tkE tp t s ∧ h' 6603 2 = tkK tp t s ∧ (tkK tp t s = 2 → h' 6603 5 = w32 (nuV tp t s)) ∧ (tkK tp t s = 3 → h' 6603 6 = d_I (FP.ddiv (FP.l2d (Int64.ofInt (w64 (nuW tp t s)))) (FP.l2d (Int64.ofInt (uF (nuF tp t s - (nuE tp t s + 1)).toNat)))))
theorem wdF_fuel (tp : Int → Int) (t : Int) : ∀ (n m : Nat) (p : Int), t ≤ p + n → t ≤ p + m → wdF tp t n p = wdF tp t m p
  | 0, 0, p, h1, h2 => rfl
  | 0, m + 1, p, h1, h2 => by rw [wdF, wdF, if_neg (by omega)]
  | n + 1, 0, p, h1, h2 => by rw [wdF, wdF, if_neg (by omega)]
  | n + 1, m + 1, p, h1, h2 => by
    rw [wdF, wdF]
    split
    · exact wdF_fuel tp t n m (p + 1) (by omega) (by omega)
    · rfl
theorem dgF_fuel (tp : Int → Int) (t : Int) : ∀ (n m : Nat) (p : Int), t ≤ p + n → t ≤ p + m → dgF tp t n p = dgF tp t m p
  | 0, 0, p, h1, h2 => rfl
  | 0, m + 1, p, h1, h2 => by rw [dgF, dgF, if_neg (by omega)]
  | n + 1, 0, p, h1, h2 => by rw [dgF, dgF, if_neg (by omega)]
  | n + 1, m + 1, p, h1, h2 => by
    rw [dgF, dgF]
    split
    · exact dgF_fuel tp t n m (p + 1) (by omega) (by omega)
    · rfl

theorem vf_of {u : UInt64} (h : FP.Core.val64 u ≠ .nan) : vf_n64 u := by
  have h1 : ¬ 9218868437227405312 < mg (d_I u) := fun q => h (by have := dv_nan (dI_L u) q; unfold dv at this; rwa [dU_dI] at this)
  have h2 : mg (d_I u) = u.toNat % 9223372036854775808 := by unfold mg; rw [← dU_nat, dU_dI]
  unfold vf_n64
  rw [UInt64.le_iff_toNat_le, UInt64.toNat_and, show (0x7fffffffffffffff : UInt64).toNat = 2 ^ 63 - 1 from rfl, Nat.and_two_pow_sub_one_eq_mod]
  show _ ≤ 9218868437227405312
  omega
theorem l2d_num (x : Int64) : FP.Core.val64 (FP.l2d x) = rr (decide (x.toInt < 0)) x.toInt.natAbs 1 0 := FP.Core.val64_l2d x
theorem uF_val {k : Nat} (hk : k ≤ 4) : ∃ c q, FP.Core.val64 (FP.l2d (Int64.ofInt (uF k))) = .fin false c q ∧ c ≠ 0 := by
  have h : k = 0 ∨ k = 1 ∨ k = 2 ∨ k = 3 ∨ k = 4 := by omega
  rcases h with e | e | e | e | e <;> subst e
  · exact ⟨4503599627370496, -52, by decide +kernel, by decide⟩
  · exact ⟨5629499534213120, -49, by decide +kernel, by decide⟩
  · exact ⟨7036874417766400, -46, by decide +kernel, by decide⟩
  · exact ⟨8796093022208000, -43, by decide +kernel, by decide⟩
  · exact ⟨5497558138880000, -39, by decide +kernel, by decide⟩
/-- a quotient of whole numbers is a number -/
theorem ddv {x : Int64} {k : Nat} (hk : k ≤ 4) : vf_n64 (FP.ddiv (FP.l2d x) (FP.l2d (Int64.ofInt (uF k)))) := by
  refine vf_of ?_
  obtain ⟨c, q, e, hc⟩ := uF_val hk
  rw [show FP.Core.val64 (FP.ddiv (FP.l2d x) (FP.l2d (Int64.ofInt (uF k)))) = _ from FP.Core.val64_ddiv _ _, e, l2d_num]
  rcases FP.Core.roundRatio_cases FP.Core.b64 (decide (x.toInt < 0)) x.toInt.natAbs 1 0 with ⟨c', q', e'⟩ | e'
  · rw [show rr (decide (x.toInt < 0)) x.toInt.natAbs 1 0 = _ from e']
    simp only [FP.Core.quotient]
    rw [if_neg hc]
    exact FP.Core.roundRatio_ne_nan _ _ _ _ _
  · rw [show rr (decide (x.toInt < 0)) x.toInt.natAbs 1 0 = _ from e']
    exact FP.Core.Datum.noConfusion
theorem wd_1 {tp : Int → Int} {t s : Int} (h0 : 0 ≤ s) (htm : t ≤ 2400) (hL : isL tp t s) : wdF tp t 2400 (s + 1) = wdF tp t 2400 s := by
  rw [wdF_fuel tp t 2400 2399 (s + 1) (by omega) (by omega), show wdF tp t 2400 s = wdF tp t 2399 (s + 1) from by rw [wdF, if_pos (Or.inl hL)]]
theorem dg_1 {tp : Int → Int} {t s : Int} (h0 : 0 ≤ s) (htm : t ≤ 2400) (hD : isD tp t s) : dgF tp t 2400 (s + 1) = nuE tp t s := by
  unfold nuE
  rw [dgF_fuel tp t 2400 2399 (s + 1) (by omega) (by omega), show dgF tp t 2400 s = dgF tp t 2399 (s + 1) from by rw [dgF, if_pos hD]]
theorem nuV_b {tp : Int → Int} {t s : Int} (hst : s ≤ t) (h6 : nuE tp t s - s ≤ 6) : 0 ≤ nuV tp t s ∧ nuV tp t s < 1000000 := by
  have hb := nuE_b (tp := tp) hst
  have h1 := dv_bound (tp := tp) (t := t) (nuE tp t s - s).toNat s 0 (fun i h2 h3 => dgF_all tp t 2400 s i h2 (by have : nuE tp t s = dgF tp t 2400 s := rfl; omega)) (by decide)
  refine ⟨h1.1, Int.lt_of_lt_of_le h1.2 ?_⟩
  have hc : (nuE tp t s - s).toNat = 0 ∨ (nuE tp t s - s).toNat = 1 ∨ (nuE tp t s - s).toNat = 2 ∨ (nuE tp t s - s).toNat = 3 ∨ (nuE tp t s - s).toNat = 4 ∨ (nuE tp t s - s).toNat = 5 ∨ (nuE tp t s - s).toNat = 6 := by omega
  rcases hc with e | e | e | e | e | e | e <;> rw [e] <;> decide
/-- next -/
theorem s321 {d : Nat} {t : Int} {h : HV} {Q : Int → HV → Prop} (hd : 1 < d) (ht : h 6603 1 = t) (htm : t ≤ 2400) (h0 : 0 ≤ h 6603 4) (hpt : h 6603 4 ≤ t) (hQ : ∀ h', TKR (h 6691) t (wsF (h 6691) t 2400 (h 6603 4)) h h' → Q 0 h') : Sp fz1 d 321 [(3, 6603)] h Q := by
  have hs0 := wsF_ge (h 6691) t 2400 (h 6603 4)
  have hst := wsF_le (h 6691) t 2400 (h 6603 4) hpt
  refine G_in ?_
  simp only [en321, b321_0, x_aload0, x_gf_11296, x_goto_1, x_istore1, klp_0, klp_1, klp_2, klp_3, klp_9, KC_0, KC_1, KC_2, KC_3, KC_4, ne_eq, not_false_eq_true, not_true_eq_false, true_and, and_true, and_self, implies_true, eq_self, true_imp_iff, false_implies, Int.reduceEq, Int.reduceNe, Int.reduceMod, Int.reduceMul, Int.reduceAdd, Int.reduceSub, Int.reduceNeg, Int.reduceLT, Int.reduceLE, Nat.reduceAdd, Nat.reduceLeDiff, Nat.reduceLT, Nat.reduceSub, reduceIte, wds_n, wds_0, wds_1, wds_2, wds_3, or_true, true_or, or_false, false_or, or_self]
  refine lp321a ht htm 2400 (h 6603 4) h0 (by omega) ?_
  generalize wsF (h 6691) t 2400 (h 6603 4) = s at hQ hs0 hst ⊢
  refine G_in ?_
  simp only [en321, b321_3, x_aload0, x_gf_11272, x_iconst, x_if_icmp_ne_4, x_iload1, x_pf_11280, x_pf_11288, x_pf_11296, x_return, klp_0, klp_1, klp_2, klp_3, klp_9, KC_0, KC_1, KC_2, KC_3, KC_4, ne_eq, not_false_eq_true, not_true_eq_false, true_and, and_true, and_self, implies_true, eq_self, true_imp_iff, false_implies, Int.reduceEq, Int.reduceNe, Int.reduceMod, Int.reduceMul, Int.reduceAdd, Int.reduceSub, Int.reduceNeg, Int.reduceLT, Int.reduceLE, Nat.reduceAdd, Nat.reduceLeDiff, Nat.reduceLT, Nat.reduceSub, reduceIte, wds_n, wds_0, wds_1, wds_2, wds_3, or_true, true_or, or_false, false_or, or_self, hs_eq, ht]
  refine ⟨fun hne => ?_, fun he => ?_⟩
  · have hlt : s < t := by omega
    have eH : ∀ v, hset (hset (hset (hset h 6603 3 s) 6603 4 s) 6603 2 0) 6603 4 v = hset (hset (hset h 6603 3 s) 6603 2 0) 6603 4 v := fun v => by
      rw [hset_swap (hset h 6603 3 s) (o := 6603) (i := 4) (p := 6603) (j := 2) (by omega), hset_hset]
    have eT : ∀ (v : Int) (a : Int), a ≠ 6603 → hset (hset (hset (hset h 6603 3 s) 6603 4 s) 6603 2 0) 6603 4 v a = h a := fun v a ha => by rw [hs_ne ha, hs_ne ha, hs_ne ha, hs_ne ha]
    have ew1 : w32 (s + 1) = s + 1 := w32_id (by omega)
    have qB : (hset (hset h 6603 3 s) 6603 2 0) 6691 = h 6691 := by rw [hs_ne (by decide), hs_ne (by decide)]
    have qT : (hset (hset h 6603 3 s) 6603 2 0) 6603 1 = t := by simp only [hs_eq, ne_eq, not_false_eq_true, not_true_eq_false, true_and, and_true, and_self, implies_true, eq_self, true_imp_iff, false_implies, Int.reduceEq, Int.reduceNe, Int.reduceMod, Int.reduceMul, Int.reduceAdd, Int.reduceSub, Int.reduceNeg, Int.reduceLT, Int.reduceLE, Nat.reduceAdd, Nat.reduceLeDiff, Nat.reduceLT, Nat.reduceSub, reduceIte, wds_n, wds_0, wds_1, wds_2, wds_3, or_true, true_or, or_false, false_or, or_self, ht]
    generalize hHb : hset (hset h 6603 3 s) 6603 2 0 = Hb at eH qB qT
    have qF : Hb 6603 3 = s := by rw [← hHb]; simp only [hs_eq, ne_eq, not_false_eq_true, not_true_eq_false, true_and, and_true, and_self, implies_true, eq_self, true_imp_iff, false_implies, Int.reduceEq, Int.reduceNe, Int.reduceMod, Int.reduceMul, Int.reduceAdd, Int.reduceSub, Int.reduceNeg, Int.reduceLT, Int.reduceLE, Nat.reduceAdd, Nat.reduceLeDiff, Nat.reduceLT, Nat.reduceSub, reduceIte, wds_n, wds_0, wds_1, wds_2, wds_3, or_true, true_or, or_false, false_or, or_self]
    have qO : ∀ o, o ≠ 6603 → Hb o = h o := fun o ho => by rw [← hHb, hs_ne ho, hs_ne ho]
    have qI : ∀ i, i ≠ 2 → i ≠ 3 → Hb 6603 i = h 6603 i := fun i h2 h3 => by rw [← hHb]; simp only [hs_eq, h2, h3, ne_eq, not_false_eq_true, not_true_eq_false, true_and, and_true, and_self, implies_true, eq_self, true_imp_iff, false_implies, Int.reduceEq, Int.reduceNe, Int.reduceMod, Int.reduceMul, Int.reduceAdd, Int.reduceSub, Int.reduceNeg, Int.reduceLT, Int.reduceLE, Nat.reduceAdd, Nat.reduceLeDiff, Nat.reduceLT, Nat.reduceSub, reduceIte, wds_n, wds_0, wds_1, wds_2, wds_3, or_true, true_or, or_false, false_or, or_self]
    refine G_in ?_
    simp only [en321, b321_4, x_aload0, x_baload, y_call322, x_dup0, x_dup3, x_gc_11267, x_gf_11296, x_goto_5, x_iadd, x_iconst, x_ifCond_eq_10, x_iload1, x_iload2, x_istore2, x_pf_11296, klp_0, klp_1, klp_2, klp_3, klp_9, KC_0, KC_1, KC_2, KC_3, KC_4, ne_eq, not_false_eq_true, not_true_eq_false, true_and, and_true, and_self, implies_true, eq_self, true_imp_iff, false_implies, Int.reduceEq, Int.reduceNe, Int.reduceMod, Int.reduceMul, Int.reduceAdd, Int.reduceSub, Int.reduceNeg, Int.reduceLT, Int.reduceLE, Nat.reduceAdd, Nat.reduceLeDiff, Nat.reduceLT, Nat.reduceSub, reduceIte, wds_n, wds_0, wds_1, wds_2, wds_3, or_true, true_or, or_false, false_or, or_self, hs_eq, hs_ne, z6603_0, z6691_l, ew1, eH]
    refine ⟨⟨by omega, by omega⟩, by omega, s322 (fun hL => ?_) (fun hL => ?_)⟩
    · simp only [en321, b321_4, x_aload0, x_baload, y_call322, x_dup0, x_dup3, x_gc_11267, x_gf_11296, x_goto_5, x_iadd, x_iconst, x_ifCond_eq_10, x_iload1, x_iload2, x_istore2, x_pf_11296, klp_0, klp_1, klp_2, klp_3, klp_9, KC_0, KC_1, KC_2, KC_3, KC_4, ne_eq, not_false_eq_true, not_true_eq_false, true_and, and_true, and_self, implies_true, eq_self, true_imp_iff, false_implies, Int.reduceEq, Int.reduceNe, Int.reduceMod, Int.reduceMul, Int.reduceAdd, Int.reduceSub, Int.reduceNeg, Int.reduceLT, Int.reduceLE, Nat.reduceAdd, Nat.reduceLeDiff, Nat.reduceLT, Nat.reduceSub, reduceIte, wds_n, wds_0, wds_1, wds_2, wds_3, or_true, true_or, or_false, false_or, or_self]
      have hL2 : isL (h 6691) t s := ⟨hlt, hL⟩
      refine lp321b (t := t) (by omega) qT htm 2400 (s + 1) (by omega) (by omega) ?_
      rw [qB, wd_1 (by omega) htm hL2]
      have hb1 := wdF_ge (h 6691) t 2400 s
      have hb2 := wdF_le (h 6691) t 2400 s hst
      have ew : w32 (wdF (h 6691) t 2400 s - s) = wdF (h 6691) t 2400 s - s := w32_id (by omega)
      have ekK : tkK (h 6691) t s = (if wdF (h 6691) t 2400 s - s ≤ 8 then 1 else 5) := by rw [tkK, if_neg (by omega), if_pos hL2]
      have fin : ∀ k : Int, k = tkK (h 6691) t s → G fz1 d 321 9 [(3, 6603), (0, s), (0, h 6691 s), (9, 0), (9, 0), (9, 0), (9, 0), (9, 0), (9, 0)] [(0, k), (3, 6603)] (hset Hb 6603 4 (wdF (h 6691) t 2400 s)) Q := fun k hk => by
        refine G_in ?_
        simp only [en321, b321_9, x_goto_31, x_pf_11280, klp_0, klp_1, klp_2, klp_3, klp_9, KC_0, KC_1, KC_2, KC_3, KC_4, ne_eq, not_false_eq_true, not_true_eq_false, true_and, and_true, and_self, implies_true, eq_self, true_imp_iff, false_implies, Int.reduceEq, Int.reduceNe, Int.reduceMod, Int.reduceMul, Int.reduceAdd, Int.reduceSub, Int.reduceNeg, Int.reduceLT, Int.reduceLE, Nat.reduceAdd, Nat.reduceLeDiff, Nat.reduceLT, Nat.reduceSub, reduceIte, wds_n, wds_0, wds_1, wds_2, wds_3, or_true, true_or, or_false, false_or, or_self]
        refine G_in ?_
        simp only [en321, b321_31, x_return, klp_0, klp_1, klp_2, klp_3, klp_9, KC_0, KC_1, KC_2, KC_3, KC_4, ne_eq, not_false_eq_true, not_true_eq_false, true_and, and_true, and_self, implies_true, eq_self, true_imp_iff, false_implies, Int.reduceEq, Int.reduceNe, Int.reduceMod, Int.reduceMul, Int.reduceAdd, Int.reduceSub, Int.reduceNeg, Int.reduceLT, Int.reduceLE, Nat.reduceAdd, Nat.reduceLeDiff, Nat.reduceLT, Nat.reduceSub, reduceIte, wds_n, wds_0, wds_1, wds_2, wds_3, or_true, true_or, or_false, false_or, or_self]
        refine hQ _ ⟨fun o ho => ?_, fun i h2 h3 h4 h5 h6 => ?_, ?_, ?_, ?_, ?_, ?_⟩
        · rw [hs_ne ho, hs_ne ho, qO o ho]
        · simp only [hs_eq, h2, h4, ne_eq, not_false_eq_true, not_true_eq_false, true_and, and_true, and_self, implies_true, eq_self, true_imp_iff, false_implies, Int.reduceEq, Int.reduceNe, Int.reduceMod, Int.reduceMul, Int.reduceAdd, Int.reduceSub, Int.reduceNeg, Int.reduceLT, Int.reduceLE, Nat.reduceAdd, Nat.reduceLeDiff, Nat.reduceLT, Nat.reduceSub, reduceIte, wds_n, wds_0, wds_1, wds_2, wds_3, or_true, true_or, or_false, false_or, or_self, qI i h2 h3]
        · simp only [hs_eq, ne_eq, not_false_eq_true, not_true_eq_false, true_and, and_true, and_self, implies_true, eq_self, true_imp_iff, false_implies, Int.reduceEq, Int.reduceNe, Int.reduceMod, Int.reduceMul, Int.reduceAdd, Int.reduceSub, Int.reduceNeg, Int.reduceLT, Int.reduceLE, Nat.reduceAdd, Nat.reduceLeDiff, Nat.reduceLT, Nat.reduceSub, reduceIte, wds_n, wds_0, wds_1, wds_2, wds_3, or_true, true_or, or_false, false_or, or_self, qF]
        · simp only [hs_eq, ne_eq, not_false_eq_true, not_true_eq_false, true_and, and_true, and_self, implies_true, eq_self, true_imp_iff, false_implies, Int.reduceEq, Int.reduceNe, Int.reduceMod, Int.reduceMul, Int.reduceAdd, Int.reduceSub, Int.reduceNeg, Int.reduceLT, Int.reduceLE, Nat.reduceAdd, Nat.reduceLeDiff, Nat.reduceLT, Nat.reduceSub, reduceIte, wds_n, wds_0, wds_1, wds_2, wds_3, or_true, true_or, or_false, false_or, or_self]
          rw [tkE, if_neg (by omega), if_pos hL2]
        · simp only [hs_eq, ne_eq, not_false_eq_true, not_true_eq_false, true_and, and_true, and_self, implies_true, eq_self, true_imp_iff, false_implies, Int.reduceEq, Int.reduceNe, Int.reduceMod, Int.reduceMul, Int.reduceAdd, Int.reduceSub, Int.reduceNeg, Int.reduceLT, Int.reduceLE, Nat.reduceAdd, Nat.reduceLeDiff, Nat.reduceLT, Nat.reduceSub, reduceIte, wds_n, wds_0, wds_1, wds_2, wds_3, or_true, true_or, or_false, false_or, or_self]
          exact hk
        · intro q
          rw [ekK] at q
          split at q <;> omega
        · intro q
          rw [ekK] at q
          split at q <;> omega
      refine G_in ?_
      simp only [en321, b321_7, x_aload0, x_gf_11288, x_gf_11296, x_goto_9, x_iconst, x_if_icmp_le_8, x_isub, klp_0, klp_1, klp_2, klp_3, klp_9, KC_0, KC_1, KC_2, KC_3, KC_4, ne_eq, not_false_eq_true, not_true_eq_false, true_and, and_true, and_self, implies_true, eq_self, true_imp_iff, false_implies, Int.reduceEq, Int.reduceNe, Int.reduceMod, Int.reduceMul, Int.reduceAdd, Int.reduceSub, Int.reduceNeg, Int.reduceLT, Int.reduceLE, Nat.reduceAdd, Nat.reduceLeDiff, Nat.reduceLT, Nat.reduceSub, reduceIte, wds_n, wds_0, wds_1, wds_2, wds_3, or_true, true_or, or_false, false_or, or_self, hs_eq, qF, ew]
      refine ⟨fun q => G_in ?_, fun q => fin 5 ?_⟩
      · simp only [en321, b321_8, x_goto_9, x_iconst, klp_0, klp_1, klp_2, klp_3, klp_9, KC_0, KC_1, KC_2, KC_3, KC_4, ne_eq, not_false_eq_true, not_true_eq_false, true_and, and_true, and_self, implies_true, eq_self, true_imp_iff, false_implies, Int.reduceEq, Int.reduceNe, Int.reduceMod, Int.reduceMul, Int.reduceAdd, Int.reduceSub, Int.reduceNeg, Int.reduceLT, Int.reduceLE, Nat.reduceAdd, Nat.reduceLeDiff, Nat.reduceLT, Nat.reduceSub, reduceIte, wds_n, wds_0, wds_1, wds_2, wds_3, or_true, true_or, or_false, false_or, or_self]
        exact fin 1 (by rw [ekK, if_pos (by omega)])
      · rw [ekK, if_neg (by omega)]
    · have hL2 : ¬ isL (h 6691) t s := fun q => hL q.2
      simp only [en321, b321_4, x_aload0, x_baload, y_call322, x_dup0, x_dup3, x_gc_11267, x_gf_11296, x_goto_5, x_iadd, x_iconst, x_ifCond_eq_10, x_iload1, x_iload2, x_istore2, x_pf_11296, klp_0, klp_1, klp_2, klp_3, klp_9, KC_0, KC_1, KC_2, KC_3, KC_4, ne_eq, not_false_eq_true, not_true_eq_false, true_and, and_true, and_self, implies_true, eq_self, true_imp_iff, false_implies, Int.reduceEq, Int.reduceNe, Int.reduceMod, Int.reduceMul, Int.reduceAdd, Int.reduceSub, Int.reduceNeg, Int.reduceLT, Int.reduceLE, Nat.reduceAdd, Nat.reduceLeDiff, Nat.reduceLT, Nat.reduceSub, reduceIte, wds_n, wds_0, wds_1, wds_2, wds_3, or_true, true_or, or_false, false_or, or_self]
      refine G_in ?_
      simp only [en321, b321_10, y_call324, x_goto_11, x_ifCond_eq_27, x_iload2, klp_0, klp_1, klp_2, klp_3, klp_9, KC_0, KC_1, KC_2, KC_3, KC_4, ne_eq, not_false_eq_true, not_true_eq_false, true_and, and_true, and_self, implies_true, eq_self, true_imp_iff, false_implies, Int.reduceEq, Int.reduceNe, Int.reduceMod, Int.reduceMul, Int.reduceAdd, Int.reduceSub, Int.reduceNeg, Int.reduceLT, Int.reduceLE, Nat.reduceAdd, Nat.reduceLeDiff, Nat.reduceLT, Nat.reduceSub, reduceIte, wds_n, wds_0, wds_1, wds_2, wds_3, or_true, true_or, or_false, false_or, or_self]
      refine ⟨by omega, s324 (fun hD => ?_) (fun hD => ?_)⟩
      · have hD2 : isD (h 6691) t s := ⟨hlt, hD⟩
        have hb := nuE_b (tp := h 6691) hst
        simp only [en321, b321_10, y_call324, x_goto_11, x_ifCond_eq_27, x_iload2, klp_0, klp_1, klp_2, klp_3, klp_9, KC_0, KC_1, KC_2, KC_3, KC_4, ne_eq, not_false_eq_true, not_true_eq_false, true_and, and_true, and_self, implies_true, eq_self, true_imp_iff, false_implies, Int.reduceEq, Int.reduceNe, Int.reduceMod, Int.reduceMul, Int.reduceAdd, Int.reduceSub, Int.reduceNeg, Int.reduceLT, Int.reduceLE, Nat.reduceAdd, Nat.reduceLeDiff, Nat.reduceLT, Nat.reduceSub, reduceIte, wds_n, wds_0, wds_1, wds_2, wds_3, or_true, true_or, or_false, false_or, or_self]
        refine lp321c (t := t) (by omega) qT htm 2400 (s + 1) (by omega) (by omega) ?_
        rw [qB, dg_1 (by omega) htm hD2]
        have ew : w32 (nuE (h 6691) t s - s) = nuE (h 6691) t s - s := w32_id (by omega)
        have ew2 : w32 (nuE (h 6691) t s + 1) = nuE (h 6691) t s + 1 := w32_id (by omega)
        have mid : ∀ (k N kk : Int), k = (if nuE (h 6691) t s - s ≤ 6 then 2 else 5) → (k = 2 → N = w32 (nuV (h 6691) t s)) → w64 N = N → G fz1 d 321 16 [(3, 6603), (0, s), (0, h 6691 s), (0, nuE (h 6691) t s - s), (0, kk), (9, 0), (9, 0), (9, 0), (9, 0)] [] (hset (hset (hset Hb 6603 4 (nuE (h 6691) t s)) 6603 2 k) 6603 5 N) Q := by
          intro k N kk hk hN hNr
          have r1 : (hset (hset (hset Hb 6603 4 (nuE (h 6691) t s)) 6603 2 k) 6603 5 N) 6691 = h 6691 := by rw [hs_ne (by decide), hs_ne (by decide), hs_ne (by decide), qB]
          have r2 : (hset (hset (hset Hb 6603 4 (nuE (h 6691) t s)) 6603 2 k) 6603 5 N) 6603 1 = t := by simp only [hs_eq, ne_eq, not_false_eq_true, not_true_eq_false, true_and, and_true, and_self, implies_true, eq_self, true_imp_iff, false_implies, Int.reduceEq, Int.reduceNe, Int.reduceMod, Int.reduceMul, Int.reduceAdd, Int.reduceSub, Int.reduceNeg, Int.reduceLT, Int.reduceLE, Nat.reduceAdd, Nat.reduceLeDiff, Nat.reduceLT, Nat.reduceSub, reduceIte, wds_n, wds_0, wds_1, wds_2, wds_3, or_true, true_or, or_false, false_or, or_self, qT]
          have no : ¬ nuR (h 6691) t s → ∀ ls, G fz1 d 321 26 ls [] (hset (hset (hset Hb 6603 4 (nuE (h 6691) t s)) 6603 2 k) 6603 5 N) Q := fun hR ls => by
            refine G_in ?_
            simp only [en321, b321_26, x_goto_31, klp_0, klp_1, klp_2, klp_3, klp_9, KC_0, KC_1, KC_2, KC_3, KC_4, ne_eq, not_false_eq_true, not_true_eq_false, true_and, and_true, and_self, implies_true, eq_self, true_imp_iff, false_implies, Int.reduceEq, Int.reduceNe, Int.reduceMod, Int.reduceMul, Int.reduceAdd, Int.reduceSub, Int.reduceNeg, Int.reduceLT, Int.reduceLE, Nat.reduceAdd, Nat.reduceLeDiff, Nat.reduceLT, Nat.reduceSub, reduceIte, wds_n, wds_0, wds_1, wds_2, wds_3, or_true, true_or, or_false, false_or, or_self]
            refine G_in ?_
            simp only [en321, b321_31, x_return, klp_0, klp_1, klp_2, klp_3, klp_9, KC_0, KC_1, KC_2, KC_3, KC_4, ne_eq, not_false_eq_true, not_true_eq_false, true_and, and_true, and_self, implies_true, eq_self, true_imp_iff, false_implies, Int.reduceEq, Int.reduceNe, Int.reduceMod, Int.reduceMul, Int.reduceAdd, Int.reduceSub, Int.reduceNeg, Int.reduceLT, Int.reduceLE, Nat.reduceAdd, Nat.reduceLeDiff, Nat.reduceLT, Nat.reduceSub, reduceIte, wds_n, wds_0, wds_1, wds_2, wds_3, or_true, true_or, or_false, false_or, or_self]
            have ekK : tkK (h 6691) t s = (if nuE (h 6691) t s - s ≤ 6 then 2 else 5) := by rw [tkK, if_neg (by omega), if_neg hL2, if_pos hD2, if_neg hR]
            refine hQ _ ⟨fun o ho => ?_, fun i h2 h3 h4 h5 h6 => ?_, ?_, ?_, ?_, ?_, ?_⟩
            · rw [hs_ne ho, hs_ne ho, hs_ne ho, qO o ho]
            · simp only [hs_eq, h2, h4, h5, ne_eq, not_false_eq_true, not_true_eq_false, true_and, and_true, and_self, implies_true, eq_self, true_imp_iff, false_implies, Int.reduceEq, Int.reduceNe, Int.reduceMod, Int.reduceMul, Int.reduceAdd, Int.reduceSub, Int.reduceNeg, Int.reduceLT, Int.reduceLE, Nat.reduceAdd, Nat.reduceLeDiff, Nat.reduceLT, Nat.reduceSub, reduceIte, wds_n, wds_0, wds_1, wds_2, wds_3, or_true, true_or, or_false, false_or, or_self, qI i h2 h3]
            · simp only [hs_eq, ne_eq, not_false_eq_true, not_true_eq_false, true_and, and_true, and_self, implies_true, eq_self, true_imp_iff, false_implies, Int.reduceEq, Int.reduceNe, Int.reduceMod, Int.reduceMul, Int.reduceAdd, Int.reduceSub, Int.reduceNeg, Int.reduceLT, Int.reduceLE, Nat.reduceAdd, Nat.reduceLeDiff, Nat.reduceLT, Nat.reduceSub, reduceIte, wds_n, wds_0, wds_1, wds_2, wds_3, or_true, true_or, or_false, false_or, or_self, qF]
            · simp only [hs_eq, ne_eq, not_false_eq_true, not_true_eq_false, true_and, and_true, and_self, implies_true, eq_self, true_imp_iff, false_implies, Int.reduceEq, Int.reduceNe, Int.reduceMod, Int.reduceMul, Int.reduceAdd, Int.reduceSub, Int.reduceNeg, Int.reduceLT, Int.reduceLE, Nat.reduceAdd, Nat.reduceLeDiff, Nat.reduceLT, Nat.reduceSub, reduceIte, wds_n, wds_0, wds_1, wds_2, wds_3, or_true, true_or, or_false, false_or, or_self]
              rw [tkE, if_neg (by omega), if_neg hL2, if_pos hD2, if_neg hR]
            · simp only [hs_eq, ne_eq, not_false_eq_true, not_true_eq_false, true_and, and_true, and_self, implies_true, eq_self, true_imp_iff, false_implies, Int.reduceEq, Int.reduceNe, Int.reduceMod, Int.reduceMul, Int.reduceAdd, Int.reduceSub, Int.reduceNeg, Int.reduceLT, Int.reduceLE, Nat.reduceAdd, Nat.reduceLeDiff, Nat.reduceLT, Nat.reduceSub, reduceIte, wds_n, wds_0, wds_1, wds_2, wds_3, or_true, true_or, or_false, false_or, or_self]
              rw [ekK, hk]
            · intro q
              simp only [hs_eq, ne_eq, not_false_eq_true, not_true_eq_false, true_and, and_true, and_self, implies_true, eq_self, true_imp_iff, false_implies, Int.reduceEq, Int.reduceNe, Int.reduceMod, Int.reduceMul, Int.reduceAdd, Int.reduceSub, Int.reduceNeg, Int.reduceLT, Int.reduceLE, Nat.reduceAdd, Nat.reduceLeDiff, Nat.reduceLT, Nat.reduceSub, reduceIte, wds_n, wds_0, wds_1, wds_2, wds_3, or_true, true_or, or_false, false_or, or_self]
              exact hN (by rw [hk, ← ekK, q])
            · intro q
              rw [ekK] at q
              split at q <;> omega
          refine G_in ?_
          simp only [en321, b321_16, x_aload0, x_bipush, y_call323, y_call324, x_dup0, x_dup3, x_gf_11296, x_gf_11304, x_goto_17, x_i2l, x_iadd, x_iconst, x_ifCond_eq_26, x_if_icmp_ne_26, x_istore4, x_lstore5, x_lstore7, x_pf_11296, klp_0, klp_1, klp_2, klp_3, klp_9, KC_0, KC_1, KC_2, KC_3, KC_4, ne_eq, not_false_eq_true, not_true_eq_false, true_and, and_true, and_self, implies_true, eq_self, true_imp_iff, false_implies, Int.reduceEq, Int.reduceNe, Int.reduceMod, Int.reduceMul, Int.reduceAdd, Int.reduceSub, Int.reduceNeg, Int.reduceLT, Int.reduceLE, Nat.reduceAdd, Nat.reduceLeDiff, Nat.reduceLT, Nat.reduceSub, reduceIte, wds_n, wds_0, wds_1, wds_2, wds_3, or_true, true_or, or_false, false_or, or_self, hs_eq]
          refine ⟨by omega, s323 r2 htm (by omega) (fun q1 => ?_) (fun q1 => ?_)⟩
          · rw [r1]
            simp only [en321, b321_16, x_aload0, x_bipush, y_call323, y_call324, x_dup0, x_dup3, x_gf_11296, x_gf_11304, x_goto_17, x_i2l, x_iadd, x_iconst, x_ifCond_eq_26, x_if_icmp_ne_26, x_istore4, x_lstore5, x_lstore7, x_pf_11296, klp_0, klp_1, klp_2, klp_3, klp_9, KC_0, KC_1, KC_2, KC_3, KC_4, ne_eq, not_false_eq_true, not_true_eq_false, true_and, and_true, and_self, implies_true, eq_self, true_imp_iff, false_implies, Int.reduceEq, Int.reduceNe, Int.reduceMod, Int.reduceMul, Int.reduceAdd, Int.reduceSub, Int.reduceNeg, Int.reduceLT, Int.reduceLE, Nat.reduceAdd, Nat.reduceLeDiff, Nat.reduceLT, Nat.reduceSub, reduceIte, wds_n, wds_0, wds_1, wds_2, wds_3, or_true, true_or, or_false, false_or, or_self, hs_eq, ew2]
            refine ⟨fun q2 => no (fun q => q2 q.2.1) _, fun q2 => ⟨by omega, s323 r2 htm (by omega) (fun q3 => ?_) (fun q3 => ?_)⟩⟩
            · rw [r1]
              simp only [en321, b321_16, x_aload0, x_bipush, y_call323, y_call324, x_dup0, x_dup3, x_gf_11296, x_gf_11304, x_goto_17, x_i2l, x_iadd, x_iconst, x_ifCond_eq_26, x_if_icmp_ne_26, x_istore4, x_lstore5, x_lstore7, x_pf_11296, klp_0, klp_1, klp_2, klp_3, klp_9, KC_0, KC_1, KC_2, KC_3, KC_4, ne_eq, not_false_eq_true, not_true_eq_false, true_and, and_true, and_self, implies_true, eq_self, true_imp_iff, false_implies, Int.reduceEq, Int.reduceNe, Int.reduceMod, Int.reduceMul, Int.reduceAdd, Int.reduceSub, Int.reduceNeg, Int.reduceLT, Int.reduceLE, Nat.reduceAdd, Nat.reduceLeDiff, Nat.reduceLT, Nat.reduceSub, reduceIte, wds_n, wds_0, wds_1, wds_2, wds_3, or_true, true_or, or_false, false_or, or_self]
              refine ⟨by omega, s324 (fun q4 => ?_) (fun q4 => ?_)⟩
              · have hR : nuR (h 6691) t s := ⟨q1, Classical.not_not.mp q2, q3, q4⟩
                have hf := nuF_b (tp := h 6691) (t := t) (s := s) (by omega)
                simp only [en321, b321_16, x_aload0, x_bipush, y_call323, y_call324, x_dup0, x_dup3, x_gf_11296, x_gf_11304, x_goto_17, x_i2l, x_iadd, x_iconst, x_ifCond_eq_26, x_if_icmp_ne_26, x_istore4, x_lstore5, x_lstore7, x_pf_11296, klp_0, klp_1, klp_2, klp_3, klp_9, KC_0, KC_1, KC_2, KC_3, KC_4, ne_eq, not_false_eq_true, not_true_eq_false, true_and, and_true, and_self, implies_true, eq_self, true_imp_iff, false_implies, Int.reduceEq, Int.reduceNe, Int.reduceMod, Int.reduceMul, Int.reduceAdd, Int.reduceSub, Int.reduceNeg, Int.reduceLT, Int.reduceLE, Nat.reduceAdd, Nat.reduceLeDiff, Nat.reduceLT, Nat.reduceSub, reduceIte, wds_n, wds_0, wds_1, wds_2, wds_3, or_true, true_or, or_false, false_or, or_self, hs_eq, ew2]
                have e0 : w64 (dvF (h 6691) (min (nuE (h 6691) t s + 1 - (nuE (h 6691) t s + 1)).toNat 4) (nuE (h 6691) t s + 1) N) = N := by
                  rw [show min (nuE (h 6691) t s + 1 - (nuE (h 6691) t s + 1)).toNat 4 = 0 by omega, dvF, hNr]
                have u0 : uF (min (nuE (h 6691) t s + 1 - (nuE (h 6691) t s + 1)).toNat 4) = 1 := by
                  rw [show min (nuE (h 6691) t s + 1 - (nuE (h 6691) t s + 1)).toNat 4 = 0 by omega, uF]
                have L := lp321e (d := d) (t := t) (f := nuE (h 6691) t s + 1) (V := N) (a1 := (0, s)) (a2 := (0, h 6691 s)) (a3 := (0, nuE (h 6691) t s - s)) (h := hset (hset (hset Hb 6603 4 (nuE (h 6691) t s)) 6603 2 k) 6603 5 N) (Q := Q) (by omega) r2 htm (by omega) ?_ 2400 (nuE (h 6691) t s + 1) (Int.le_refl _) (by omega) rfl
                · rw [r1, e0, u0] at L
                  exact L
                · intro e he
                  rw [r1] at he ⊢
                  have hee : e = nuF (h 6691) t s := he
                  subst hee
                  have ew3 : w32 (nuF (h 6691) t s - (nuE (h 6691) t s + 1)) = nuF (h 6691) t s - (nuE (h 6691) t s + 1) := w32_id (by omega)
                  have ekK : tkK (h 6691) t s = (if nuE (h 6691) t s - s ≤ 6 ∧ nuF (h 6691) t s - (nuE (h 6691) t s + 1) ≤ 4 then 3 else 5) := by rw [tkK, if_neg (by omega), if_neg hL2, if_pos hD2, if_pos hR]
                  have fin : ∀ k2 : Int, k2 = tkK (h 6691) t s → G fz1 d 321 25 [(3, 6603), (0, s), (0, h 6691 s), (0, nuE (h 6691) t s - s), (0, nuE (h 6691) t s + 1), (1, w64 (dvF (h 6691) (min (nuF (h 6691) t s - (nuE (h 6691) t s + 1)).toNat 4) (nuE (h 6691) t s + 1) N)), (9, 0), (1, uF (min (nuF (h 6691) t s - (nuE (h 6691) t s + 1)).toNat 4)), (9, 0)] [(0, k2), (3, 6603)] (hset (hset (hset (hset Hb 6603 4 (nuE (h 6691) t s)) 6603 2 k) 6603 5 N) 6603 4 (nuF (h 6691) t s)) Q := fun k2 hk2 => by
                    refine G_in ?_
                    simp only [en321, b321_25, x_aload0, x_ddiv, x_goto_26, x_l2d, x_lload5, x_lload7, x_pf_11280, x_pf_11314, klp_0, klp_1, klp_2, klp_3, klp_9, KC_0, KC_1, KC_2, KC_3, KC_4, ne_eq, not_false_eq_true, not_true_eq_false, true_and, and_true, and_self, implies_true, eq_self, true_imp_iff, false_implies, Int.reduceEq, Int.reduceNe, Int.reduceMod, Int.reduceMul, Int.reduceAdd, Int.reduceSub, Int.reduceNeg, Int.reduceLT, Int.reduceLE, Nat.reduceAdd, Nat.reduceLeDiff, Nat.reduceLT, Nat.reduceSub, reduceIte, wds_n, wds_0, wds_1, wds_2, wds_3, or_true, true_or, or_false, false_or, or_self, d_UI]
                    refine ⟨ddv (by omega), ?_⟩
                    refine G_in ?_
                    simp only [en321, b321_26, x_goto_31, klp_0, klp_1, klp_2, klp_3, klp_9, KC_0, KC_1, KC_2, KC_3, KC_4, ne_eq, not_false_eq_true, not_true_eq_false, true_and, and_true, and_self, implies_true, eq_self, true_imp_iff, false_implies, Int.reduceEq, Int.reduceNe, Int.reduceMod, Int.reduceMul, Int.reduceAdd, Int.reduceSub, Int.reduceNeg, Int.reduceLT, Int.reduceLE, Nat.reduceAdd, Nat.reduceLeDiff, Nat.reduceLT, Nat.reduceSub, reduceIte, wds_n, wds_0, wds_1, wds_2, wds_3, or_true, true_or, or_false, false_or, or_self]
                    refine G_in ?_
                    simp only [en321, b321_31, x_return, klp_0, klp_1, klp_2, klp_3, klp_9, KC_0, KC_1, KC_2, KC_3, KC_4, ne_eq, not_false_eq_true, not_true_eq_false, true_and, and_true, and_self, implies_true, eq_self, true_imp_iff, false_implies, Int.reduceEq, Int.reduceNe, Int.reduceMod, Int.reduceMul, Int.reduceAdd, Int.reduceSub, Int.reduceNeg, Int.reduceLT, Int.reduceLE, Nat.reduceAdd, Nat.reduceLeDiff, Nat.reduceLT, Nat.reduceSub, reduceIte, wds_n, wds_0, wds_1, wds_2, wds_3, or_true, true_or, or_false, false_or, or_self]
                    refine hQ _ ⟨fun o ho => ?_, fun i h2 h3 h4 h5 h6 => ?_, ?_, ?_, ?_, ?_, ?_⟩
                    · rw [hs_ne ho, hs_ne ho, hs_ne ho, hs_ne ho, hs_ne ho, hs_ne ho, qO o ho]
                    · simp only [hs_eq, h2, h4, h5, h6, ne_eq, not_false_eq_true, not_true_eq_false, true_and, and_true, and_self, implies_true, eq_self, true_imp_iff, false_implies, Int.reduceEq, Int.reduceNe, Int.reduceMod, Int.reduceMul, Int.reduceAdd, Int.reduceSub, Int.reduceNeg, Int.reduceLT, Int.reduceLE, Nat.reduceAdd, Nat.reduceLeDiff, Nat.reduceLT, Nat.reduceSub, reduceIte, wds_n, wds_0, wds_1, wds_2, wds_3, or_true, true_or, or_false, false_or, or_self, qI i h2 h3]
                    · simp only [hs_eq, ne_eq, not_false_eq_true, not_true_eq_false, true_and, and_true, and_self, implies_true, eq_self, true_imp_iff, false_implies, Int.reduceEq, Int.reduceNe, Int.reduceMod, Int.reduceMul, Int.reduceAdd, Int.reduceSub, Int.reduceNeg, Int.reduceLT, Int.reduceLE, Nat.reduceAdd, Nat.reduceLeDiff, Nat.reduceLT, Nat.reduceSub, reduceIte, wds_n, wds_0, wds_1, wds_2, wds_3, or_true, true_or, or_false, false_or, or_self, qF]
                    · simp only [hs_eq, ne_eq, not_false_eq_true, not_true_eq_false, true_and, and_true, and_self, implies_true, eq_self, true_imp_iff, false_implies, Int.reduceEq, Int.reduceNe, Int.reduceMod, Int.reduceMul, Int.reduceAdd, Int.reduceSub, Int.reduceNeg, Int.reduceLT, Int.reduceLE, Nat.reduceAdd, Nat.reduceLeDiff, Nat.reduceLT, Nat.reduceSub, reduceIte, wds_n, wds_0, wds_1, wds_2, wds_3, or_true, true_or, or_false, false_or, or_self]
                      rw [tkE, if_neg (by omega), if_neg hL2, if_pos hD2, if_pos hR]
                    · simp only [hs_eq, ne_eq, not_false_eq_true, not_true_eq_false, true_and, and_true, and_self, implies_true, eq_self, true_imp_iff, false_implies, Int.reduceEq, Int.reduceNe, Int.reduceMod, Int.reduceMul, Int.reduceAdd, Int.reduceSub, Int.reduceNeg, Int.reduceLT, Int.reduceLE, Nat.reduceAdd, Nat.reduceLeDiff, Nat.reduceLT, Nat.reduceSub, reduceIte, wds_n, wds_0, wds_1, wds_2, wds_3, or_true, true_or, or_false, false_or, or_self]
                      exact hk2
                    · intro q
                      rw [ekK] at q
                      split at q <;> omega
                    · intro q
                      simp only [hs_eq, ne_eq, not_false_eq_true, not_true_eq_false, true_and, and_true, and_self, implies_true, eq_self, true_imp_iff, false_implies, Int.reduceEq, Int.reduceNe, Int.reduceMod, Int.reduceMul, Int.reduceAdd, Int.reduceSub, Int.reduceNeg, Int.reduceLT, Int.reduceLE, Nat.reduceAdd, Nat.reduceLeDiff, Nat.reduceLT, Nat.reduceSub, reduceIte, wds_n, wds_0, wds_1, wds_2, wds_3, or_true, true_or, or_false, false_or, or_self]
                      rw [ekK] at q
                      have hq : nuE (h 6691) t s - s ≤ 6 ∧ nuF (h 6691) t s - (nuE (h 6691) t s + 1) ≤ 4 := by
                        by_cases hq : nuE (h 6691) t s - s ≤ 6 ∧ nuF (h 6691) t s - (nuE (h 6691) t s + 1) ≤ 4
                        · exact hq
                        · rw [if_neg hq] at q; omega
                      have hv := nuV_b (tp := h 6691) hst hq.1
                      rw [show min (nuF (h 6691) t s - (nuE (h 6691) t s + 1)).toNat 4 = (nuF (h 6691) t s - (nuE (h 6691) t s + 1)).toNat by omega, hN (by rw [hk, if_pos hq.1]), w32_id (by omega)]
                      rfl
                  refine G_in ?_
                  simp only [en321, b321_22, x_aload0, x_gf_11296, x_goto_23, x_iconst, x_if_icmp_gt_23, x_if_icmp_le_24, x_iload3, x_iload4, x_isub, klp_0, klp_1, klp_2, klp_3, klp_9, KC_0, KC_1, KC_2, KC_3, KC_4, ne_eq, not_false_eq_true, not_true_eq_false, true_and, and_true, and_self, implies_true, eq_self, true_imp_iff, false_implies, Int.reduceEq, Int.reduceNe, Int.reduceMod, Int.reduceMul, Int.reduceAdd, Int.reduceSub, Int.reduceNeg, Int.reduceLT, Int.reduceLE, Nat.reduceAdd, Nat.reduceLeDiff, Nat.reduceLT, Nat.reduceSub, reduceIte, wds_n, wds_0, wds_1, wds_2, wds_3, or_true, true_or, or_false, false_or, or_self, hs_eq, ew3]
                  refine ⟨fun q5 => G_in ?_, fun q5 => ⟨fun q6 => G_in ?_, fun q6 => G_in ?_⟩⟩
                  · simp only [en321, b321_23, x_goto_25, x_iconst, klp_0, klp_1, klp_2, klp_3, klp_9, KC_0, KC_1, KC_2, KC_3, KC_4, ne_eq, not_false_eq_true, not_true_eq_false, true_and, and_true, and_self, implies_true, eq_self, true_imp_iff, false_implies, Int.reduceEq, Int.reduceNe, Int.reduceMod, Int.reduceMul, Int.reduceAdd, Int.reduceSub, Int.reduceNeg, Int.reduceLT, Int.reduceLE, Nat.reduceAdd, Nat.reduceLeDiff, Nat.reduceLT, Nat.reduceSub, reduceIte, wds_n, wds_0, wds_1, wds_2, wds_3, or_true, true_or, or_false, false_or, or_self]
                    exact fin 5 (by rw [ekK, if_neg (by omega)])
                  · simp only [en321, b321_24, x_goto_25, x_iconst, klp_0, klp_1, klp_2, klp_3, klp_9, KC_0, KC_1, KC_2, KC_3, KC_4, ne_eq, not_false_eq_true, not_true_eq_false, true_and, and_true, and_self, implies_true, eq_self, true_imp_iff, false_implies, Int.reduceEq, Int.reduceNe, Int.reduceMod, Int.reduceMul, Int.reduceAdd, Int.reduceSub, Int.reduceNeg, Int.reduceLT, Int.reduceLE, Nat.reduceAdd, Nat.reduceLeDiff, Nat.reduceLT, Nat.reduceSub, reduceIte, wds_n, wds_0, wds_1, wds_2, wds_3, or_true, true_or, or_false, false_or, or_self]
                    exact fin 3 (by rw [ekK, if_pos (by omega)])
                  · simp only [en321, b321_23, x_goto_25, x_iconst, klp_0, klp_1, klp_2, klp_3, klp_9, KC_0, KC_1, KC_2, KC_3, KC_4, ne_eq, not_false_eq_true, not_true_eq_false, true_and, and_true, and_self, implies_true, eq_self, true_imp_iff, false_implies, Int.reduceEq, Int.reduceNe, Int.reduceMod, Int.reduceMul, Int.reduceAdd, Int.reduceSub, Int.reduceNeg, Int.reduceLT, Int.reduceLE, Nat.reduceAdd, Nat.reduceLeDiff, Nat.reduceLT, Nat.reduceSub, reduceIte, wds_n, wds_0, wds_1, wds_2, wds_3, or_true, true_or, or_false, false_or, or_self]
                    exact fin 5 (by rw [ekK, if_neg (by omega)])
              · simp only [en321, b321_16, x_aload0, x_bipush, y_call323, y_call324, x_dup0, x_dup3, x_gf_11296, x_gf_11304, x_goto_17, x_i2l, x_iadd, x_iconst, x_ifCond_eq_26, x_if_icmp_ne_26, x_istore4, x_lstore5, x_lstore7, x_pf_11296, klp_0, klp_1, klp_2, klp_3, klp_9, KC_0, KC_1, KC_2, KC_3, KC_4, ne_eq, not_false_eq_true, not_true_eq_false, true_and, and_true, and_self, implies_true, eq_self, true_imp_iff, false_implies, Int.reduceEq, Int.reduceNe, Int.reduceMod, Int.reduceMul, Int.reduceAdd, Int.reduceSub, Int.reduceNeg, Int.reduceLT, Int.reduceLE, Nat.reduceAdd, Nat.reduceLeDiff, Nat.reduceLT, Nat.reduceSub, reduceIte, wds_n, wds_0, wds_1, wds_2, wds_3, or_true, true_or, or_false, false_or, or_self]
                exact no (fun q => q4 q.2.2.2) _
            · simp only [en321, b321_16, x_aload0, x_bipush, y_call323, y_call324, x_dup0, x_dup3, x_gf_11296, x_gf_11304, x_goto_17, x_i2l, x_iadd, x_iconst, x_ifCond_eq_26, x_if_icmp_ne_26, x_istore4, x_lstore5, x_lstore7, x_pf_11296, klp_0, klp_1, klp_2, klp_3, klp_9, KC_0, KC_1, KC_2, KC_3, KC_4, ne_eq, not_false_eq_true, not_true_eq_false, true_and, and_true, and_self, implies_true, eq_self, true_imp_iff, false_implies, Int.reduceEq, Int.reduceNe, Int.reduceMod, Int.reduceMul, Int.reduceAdd, Int.reduceSub, Int.reduceNeg, Int.reduceLT, Int.reduceLE, Nat.reduceAdd, Nat.reduceLeDiff, Nat.reduceLT, Nat.reduceSub, reduceIte, wds_n, wds_0, wds_1, wds_2, wds_3, or_true, true_or, or_false, false_or, or_self]
              refine ⟨by omega, s324 (fun q4 => by omega) (fun q4 => ?_)⟩
              simp only [en321, b321_16, x_aload0, x_bipush, y_call323, y_call324, x_dup0, x_dup3, x_gf_11296, x_gf_11304, x_goto_17, x_i2l, x_iadd, x_iconst, x_ifCond_eq_26, x_if_icmp_ne_26, x_istore4, x_lstore5, x_lstore7, x_pf_11296, klp_0, klp_1, klp_2, klp_3, klp_9, KC_0, KC_1, KC_2, KC_3, KC_4, ne_eq, not_false_eq_true, not_true_eq_false, true_and, and_true, and_self, implies_true, eq_self, true_imp_iff, false_implies, Int.reduceEq, Int.reduceNe, Int.reduceMod, Int.reduceMul, Int.reduceAdd, Int.reduceSub, Int.reduceNeg, Int.reduceLT, Int.reduceLE, Nat.reduceAdd, Nat.reduceLeDiff, Nat.reduceLT, Nat.reduceSub, reduceIte, wds_n, wds_0, wds_1, wds_2, wds_3, or_true, true_or, or_false, false_or, or_self]
              exact no (fun q => by have := q.2.2.1; omega) _
          · simp only [en321, b321_16, x_aload0, x_bipush, y_call323, y_call324, x_dup0, x_dup3, x_gf_11296, x_gf_11304, x_goto_17, x_i2l, x_iadd, x_iconst, x_ifCond_eq_26, x_if_icmp_ne_26, x_istore4, x_lstore5, x_lstore7, x_pf_11296, klp_0, klp_1, klp_2, klp_3, klp_9, KC_0, KC_1, KC_2, KC_3, KC_4, ne_eq, not_false_eq_true, not_true_eq_false, true_and, and_true, and_self, implies_true, eq_self, true_imp_iff, false_implies, Int.reduceEq, Int.reduceNe, Int.reduceMod, Int.reduceMul, Int.reduceAdd, Int.reduceSub, Int.reduceNeg, Int.reduceLT, Int.reduceLE, Nat.reduceAdd, Nat.reduceLeDiff, Nat.reduceLT, Nat.reduceSub, reduceIte, wds_n, wds_0, wds_1, wds_2, wds_3, or_true, true_or, or_false, false_or, or_self]
            exact no (fun q => by have := q.1; omega) _
        have key : ∀ k : Int, k = (if nuE (h 6691) t s - s ≤ 6 then 2 else 5) → G fz1 d 321 14 [(3, 6603), (0, s), (0, h 6691 s), (0, nuE (h 6691) t s - s), (9, 0), (9, 0), (9, 0), (9, 0), (9, 0)] [(0, k), (3, 6603)] (hset Hb 6603 4 (nuE (h 6691) t s)) Q := fun k hk => by
          refine G_in ?_
          simp only [en321, b321_14, x_aload0, x_gf_11288, x_goto_15, x_iconst, x_istore4, x_pf_11280, x_pf_11304, klp_0, klp_1, klp_2, klp_3, klp_9, KC_0, KC_1, KC_2, KC_3, KC_4, ne_eq, not_false_eq_true, not_true_eq_false, true_and, and_true, and_self, implies_true, eq_self, true_imp_iff, false_implies, Int.reduceEq, Int.reduceNe, Int.reduceMod, Int.reduceMul, Int.reduceAdd, Int.reduceSub, Int.reduceNeg, Int.reduceLT, Int.reduceLE, Nat.reduceAdd, Nat.reduceLeDiff, Nat.reduceLT, Nat.reduceSub, reduceIte, wds_n, wds_0, wds_1, wds_2, wds_3, or_true, true_or, or_false, false_or, or_self, hs_eq, qF]
          by_cases h6 : nuE (h 6691) t s - s ≤ 6
          · rw [if_pos h6] at hk
            subst hk
            have hv := nuV_b (tp := h 6691) hst h6
            have L := lp321d (d := d) (e := nuE (h 6691) t s) (w := nuE (h 6691) t s - s) (a1 := (0, s)) (a2 := (0, h 6691 s)) (r := [(9, 0), (9, 0), (9, 0), (9, 0)]) (h := hset (hset Hb 6603 4 (nuE (h 6691) t s)) 6603 2 2) (Q := Q) (by simp only [hs_eq, ne_eq, not_false_eq_true, not_true_eq_false, true_and, and_true, and_self, implies_true, eq_self, true_imp_iff, false_implies, Int.reduceEq, Int.reduceNe, Int.reduceMod, Int.reduceMul, Int.reduceAdd, Int.reduceSub, Int.reduceNeg, Int.reduceLT, Int.reduceLE, Nat.reduceAdd, Nat.reduceLeDiff, Nat.reduceLT, Nat.reduceSub, reduceIte, wds_n, wds_0, wds_1, wds_2, wds_3, or_true, true_or, or_false, false_or, or_self]) (by omega) (by simp only [hs_eq, ne_eq, not_false_eq_true, not_true_eq_false, true_and, and_true, and_self, implies_true, eq_self, true_imp_iff, false_implies, Int.reduceEq, Int.reduceNe, Int.reduceMod, Int.reduceMul, Int.reduceAdd, Int.reduceSub, Int.reduceNeg, Int.reduceLT, Int.reduceLE, Nat.reduceAdd, Nat.reduceLeDiff, Nat.reduceLT, Nat.reduceSub, reduceIte, wds_n, wds_0, wds_1, wds_2, wds_3, or_true, true_or, or_false, false_or, or_self]) (nuE (h 6691) t s - s).toNat s 0 (by omega) (by omega) ?_
            · exact L
            · rw [hs_ne (by decide), hs_ne (by decide), qB]
              refine mid 2 _ _ (by rw [if_pos h6]) (fun _ => rfl) ?_
              rw [show dvF (h 6691) (nuE (h 6691) t s - s).toNat s 0 = nuV (h 6691) t s from rfl, w32_id (by omega), w64_id (by omega)]
          · rw [if_neg h6] at hk
            subst hk
            refine G_in ?_
            simp only [en321, b321_15, x_aload0, x_baload, x_gc_11267, x_gf_11280, x_gf_11296, x_gf_11304, x_goto_15, x_iadd, x_iconst, x_if_icmp_ge_16, x_if_icmp_ne_16, x_iinc4, x_iload4, x_imul, x_isub, x_pf_11304, klp_0, klp_1, klp_2, klp_3, klp_9, KC_0, KC_1, KC_2, KC_3, KC_4, ne_eq, not_false_eq_true, not_true_eq_false, true_and, and_true, and_self, implies_true, eq_self, true_imp_iff, false_implies, Int.reduceEq, Int.reduceNe, Int.reduceMod, Int.reduceMul, Int.reduceAdd, Int.reduceSub, Int.reduceNeg, Int.reduceLT, Int.reduceLE, Nat.reduceAdd, Nat.reduceLeDiff, Nat.reduceLT, Nat.reduceSub, reduceIte, wds_n, wds_0, wds_1, wds_2, wds_3, or_true, true_or, or_false, false_or, or_self, hs_eq]
            have m := fun kk => mid 5 0 kk (by rw [if_neg h6]) (fun q => by omega) rfl
            exact ⟨fun _ => m _, fun _ => m _⟩
        refine G_in ?_
        simp only [en321, b321_12, x_aload0, x_gf_11288, x_gf_11296, x_goto_14, x_iconst, x_if_icmp_le_13, x_iload3, x_istore3, x_isub, klp_0, klp_1, klp_2, klp_3, klp_9, KC_0, KC_1, KC_2, KC_3, KC_4, ne_eq, not_false_eq_true, not_true_eq_false, true_and, and_true, and_self, implies_true, eq_self, true_imp_iff, false_implies, Int.reduceEq, Int.reduceNe, Int.reduceMod, Int.reduceMul, Int.reduceAdd, Int.reduceSub, Int.reduceNeg, Int.reduceLT, Int.reduceLE, Nat.reduceAdd, Nat.reduceLeDiff, Nat.reduceLT, Nat.reduceSub, reduceIte, wds_n, wds_0, wds_1, wds_2, wds_3, or_true, true_or, or_false, false_or, or_self, hs_eq, qF, ew]
        refine ⟨fun q => G_in ?_, fun q => key 5 (by rw [if_neg (by omega)])⟩
        simp only [en321, b321_13, x_goto_14, x_iconst, klp_0, klp_1, klp_2, klp_3, klp_9, KC_0, KC_1, KC_2, KC_3, KC_4, ne_eq, not_false_eq_true, not_true_eq_false, true_and, and_true, and_self, implies_true, eq_self, true_imp_iff, false_implies, Int.reduceEq, Int.reduceNe, Int.reduceMod, Int.reduceMul, Int.reduceAdd, Int.reduceSub, Int.reduceNeg, Int.reduceLT, Int.reduceLE, Nat.reduceAdd, Nat.reduceLeDiff, Nat.reduceLT, Nat.reduceSub, reduceIte, wds_n, wds_0, wds_1, wds_2, wds_3, or_true, true_or, or_false, false_or, or_self]
        exact key 2 (by rw [if_pos (by omega)])
      · have hD2 : ¬ isD (h 6691) t s := fun q => hD q.2
        have ekK : tkK (h 6691) t s = (if 0 ≤ ixF (h 6691 s) SGL 0 then 4 else 5) := by rw [tkK, if_neg (by omega), if_neg hL2, if_neg hD2]
        have fin : ∀ k : Int, k = tkK (h 6691) t s → G fz1 d 321 30 [(3, 6603), (0, s), (0, h 6691 s), (9, 0), (9, 0), (9, 0), (9, 0), (9, 0), (9, 0)] [(0, k), (3, 6603)] (hset Hb 6603 4 (s + 1)) Q := fun k hk => by
          refine G_in ?_
          simp only [en321, b321_30, x_goto_31, x_pf_11280, klp_0, klp_1, klp_2, klp_3, klp_9, KC_0, KC_1, KC_2, KC_3, KC_4, ne_eq, not_false_eq_true, not_true_eq_false, true_and, and_true, and_self, implies_true, eq_self, true_imp_iff, false_implies, Int.reduceEq, Int.reduceNe, Int.reduceMod, Int.reduceMul, Int.reduceAdd, Int.reduceSub, Int.reduceNeg, Int.reduceLT, Int.reduceLE, Nat.reduceAdd, Nat.reduceLeDiff, Nat.reduceLT, Nat.reduceSub, reduceIte, wds_n, wds_0, wds_1, wds_2, wds_3, or_true, true_or, or_false, false_or, or_self]
          refine G_in ?_
          simp only [en321, b321_31, x_return, klp_0, klp_1, klp_2, klp_3, klp_9, KC_0, KC_1, KC_2, KC_3, KC_4, ne_eq, not_false_eq_true, not_true_eq_false, true_and, and_true, and_self, implies_true, eq_self, true_imp_iff, false_implies, Int.reduceEq, Int.reduceNe, Int.reduceMod, Int.reduceMul, Int.reduceAdd, Int.reduceSub, Int.reduceNeg, Int.reduceLT, Int.reduceLE, Nat.reduceAdd, Nat.reduceLeDiff, Nat.reduceLT, Nat.reduceSub, reduceIte, wds_n, wds_0, wds_1, wds_2, wds_3, or_true, true_or, or_false, false_or, or_self]
          refine hQ _ ⟨fun o ho => ?_, fun i h2 h3 h4 h5 h6 => ?_, ?_, ?_, ?_, ?_, ?_⟩
          · rw [hs_ne ho, hs_ne ho, qO o ho]
          · simp only [hs_eq, h2, h4, ne_eq, not_false_eq_true, not_true_eq_false, true_and, and_true, and_self, implies_true, eq_self, true_imp_iff, false_implies, Int.reduceEq, Int.reduceNe, Int.reduceMod, Int.reduceMul, Int.reduceAdd, Int.reduceSub, Int.reduceNeg, Int.reduceLT, Int.reduceLE, Nat.reduceAdd, Nat.reduceLeDiff, Nat.reduceLT, Nat.reduceSub, reduceIte, wds_n, wds_0, wds_1, wds_2, wds_3, or_true, true_or, or_false, false_or, or_self, qI i h2 h3]
          · simp only [hs_eq, ne_eq, not_false_eq_true, not_true_eq_false, true_and, and_true, and_self, implies_true, eq_self, true_imp_iff, false_implies, Int.reduceEq, Int.reduceNe, Int.reduceMod, Int.reduceMul, Int.reduceAdd, Int.reduceSub, Int.reduceNeg, Int.reduceLT, Int.reduceLE, Nat.reduceAdd, Nat.reduceLeDiff, Nat.reduceLT, Nat.reduceSub, reduceIte, wds_n, wds_0, wds_1, wds_2, wds_3, or_true, true_or, or_false, false_or, or_self, qF]
          · simp only [hs_eq, ne_eq, not_false_eq_true, not_true_eq_false, true_and, and_true, and_self, implies_true, eq_self, true_imp_iff, false_implies, Int.reduceEq, Int.reduceNe, Int.reduceMod, Int.reduceMul, Int.reduceAdd, Int.reduceSub, Int.reduceNeg, Int.reduceLT, Int.reduceLE, Nat.reduceAdd, Nat.reduceLeDiff, Nat.reduceLT, Nat.reduceSub, reduceIte, wds_n, wds_0, wds_1, wds_2, wds_3, or_true, true_or, or_false, false_or, or_self]
            rw [tkE, if_neg (by omega), if_neg hL2, if_neg hD2]
          · simp only [hs_eq, ne_eq, not_false_eq_true, not_true_eq_false, true_and, and_true, and_self, implies_true, eq_self, true_imp_iff, false_implies, Int.reduceEq, Int.reduceNe, Int.reduceMod, Int.reduceMul, Int.reduceAdd, Int.reduceSub, Int.reduceNeg, Int.reduceLT, Int.reduceLE, Nat.reduceAdd, Nat.reduceLeDiff, Nat.reduceLT, Nat.reduceSub, reduceIte, wds_n, wds_0, wds_1, wds_2, wds_3, or_true, true_or, or_false, false_or, or_self]
            exact hk
          · intro q
            rw [ekK] at q
            split at q <;> omega
          · intro q
            rw [ekK] at q
            split at q <;> omega
        have g28 : (0 ≤ ixF (h 6691 s) SGL 0) → G fz1 d 321 28 [(3, 6603), (0, s), (0, h 6691 s), (9, 0), (9, 0), (9, 0), (9, 0), (9, 0), (9, 0)] [(3, 6603)] (hset Hb 6603 4 (s + 1)) Q := fun q => by
          refine G_in ?_
          simp only [en321, b321_28, x_goto_30, x_iconst, klp_0, klp_1, klp_2, klp_3, klp_9, KC_0, KC_1, KC_2, KC_3, KC_4, ne_eq, not_false_eq_true, not_true_eq_false, true_and, and_true, and_self, implies_true, eq_self, true_imp_iff, false_implies, Int.reduceEq, Int.reduceNe, Int.reduceMod, Int.reduceMul, Int.reduceAdd, Int.reduceSub, Int.reduceNeg, Int.reduceLT, Int.reduceLE, Nat.reduceAdd, Nat.reduceLeDiff, Nat.reduceLT, Nat.reduceSub, reduceIte, wds_n, wds_0, wds_1, wds_2, wds_3, or_true, true_or, or_false, false_or, or_self]
          exact fin 4 (by rw [ekK, if_pos q])
        have g29 : ¬ (0 ≤ ixF (h 6691 s) SGL 0) → G fz1 d 321 29 [(3, 6603), (0, s), (0, h 6691 s), (9, 0), (9, 0), (9, 0), (9, 0), (9, 0), (9, 0)] [(3, 6603)] (hset Hb 6603 4 (s + 1)) Q := fun q => by
          refine G_in ?_
          simp only [en321, b321_29, x_goto_30, x_iconst, klp_0, klp_1, klp_2, klp_3, klp_9, KC_0, KC_1, KC_2, KC_3, KC_4, ne_eq, not_false_eq_true, not_true_eq_false, true_and, and_true, and_self, implies_true, eq_self, true_imp_iff, false_implies, Int.reduceEq, Int.reduceNe, Int.reduceMod, Int.reduceMul, Int.reduceAdd, Int.reduceSub, Int.reduceNeg, Int.reduceLT, Int.reduceLE, Nat.reduceAdd, Nat.reduceLeDiff, Nat.reduceLT, Nat.reduceSub, reduceIte, wds_n, wds_0, wds_1, wds_2, wds_3, or_true, true_or, or_false, false_or, or_self]
          exact fin 5 (by rw [ekK, if_neg q])
        rw [SGL_mem] at g28 g29
        simp only [en321, b321_10, y_call324, x_goto_11, x_ifCond_eq_27, x_iload2, klp_0, klp_1, klp_2, klp_3, klp_9, KC_0, KC_1, KC_2, KC_3, KC_4, ne_eq, not_false_eq_true, not_true_eq_false, true_and, and_true, and_self, implies_true, eq_self, true_imp_iff, false_implies, Int.reduceEq, Int.reduceNe, Int.reduceMod, Int.reduceMul, Int.reduceAdd, Int.reduceSub, Int.reduceNeg, Int.reduceLT, Int.reduceLE, Nat.reduceAdd, Nat.reduceLeDiff, Nat.reduceLT, Nat.reduceSub, reduceIte, wds_n, wds_0, wds_1, wds_2, wds_3, or_true, true_or, or_false, false_or, or_self]
        refine G_in ?_
        simp only [en321, b321_27, x_aload0, x_goto_28, x_iconst, x_if_icmp_eq_28, x_if_icmp_ne_29, x_iload2, klp_0, klp_1, klp_2, klp_3, klp_9, KC_0, KC_1, KC_2, KC_3, KC_4, ne_eq, not_false_eq_true, not_true_eq_false, true_and, and_true, and_self, implies_true, eq_self, true_imp_iff, false_implies, Int.reduceEq, Int.reduceNe, Int.reduceMod, Int.reduceMul, Int.reduceAdd, Int.reduceSub, Int.reduceNeg, Int.reduceLT, Int.reduceLE, Nat.reduceAdd, Nat.reduceLeDiff, Nat.reduceLT, Nat.reduceSub, reduceIte, wds_n, wds_0, wds_1, wds_2, wds_3, or_true, true_or, or_false, false_or, or_self]
        repeat' (first
          | (refine And.intro ?_ ?_)
          | (intro _)
          | exact g28 (by omega)
          | exact g29 (by omega))
  · have hse : s = t := by omega
    refine hQ _ ⟨fun o ho => ?_, fun i h2 h3 h4 h5 h6 => ?_, ?_, ?_, ?_, ?_, ?_⟩
    · rw [hs_ne ho, hs_ne ho, hs_ne ho]
    · simp only [hs_eq, h2, h3, h4, ne_eq, not_false_eq_true, not_true_eq_false, true_and, and_true, and_self, implies_true, eq_self, true_imp_iff, false_implies, Int.reduceEq, Int.reduceNe, Int.reduceMod, Int.reduceMul, Int.reduceAdd, Int.reduceSub, Int.reduceNeg, Int.reduceLT, Int.reduceLE, Nat.reduceAdd, Nat.reduceLeDiff, Nat.reduceLT, Nat.reduceSub, reduceIte, wds_n, wds_0, wds_1, wds_2, wds_3, or_true, true_or, or_false, false_or, or_self]
    · simp only [hs_eq, ne_eq, not_false_eq_true, not_true_eq_false, true_and, and_true, and_self, implies_true, eq_self, true_imp_iff, false_implies, Int.reduceEq, Int.reduceNe, Int.reduceMod, Int.reduceMul, Int.reduceAdd, Int.reduceSub, Int.reduceNeg, Int.reduceLT, Int.reduceLE, Nat.reduceAdd, Nat.reduceLeDiff, Nat.reduceLT, Nat.reduceSub, reduceIte, wds_n, wds_0, wds_1, wds_2, wds_3, or_true, true_or, or_false, false_or, or_self]
    · simp only [hs_eq, ne_eq, not_false_eq_true, not_true_eq_false, true_and, and_true, and_self, implies_true, eq_self, true_imp_iff, false_implies, Int.reduceEq, Int.reduceNe, Int.reduceMod, Int.reduceMul, Int.reduceAdd, Int.reduceSub, Int.reduceNeg, Int.reduceLT, Int.reduceLE, Nat.reduceAdd, Nat.reduceLeDiff, Nat.reduceLT, Nat.reduceSub, reduceIte, wds_n, wds_0, wds_1, wds_2, wds_3, or_true, true_or, or_false, false_or, or_self]
      rw [tkE, if_pos (by omega)]
    · simp only [hs_eq, ne_eq, not_false_eq_true, not_true_eq_false, true_and, and_true, and_self, implies_true, eq_self, true_imp_iff, false_implies, Int.reduceEq, Int.reduceNe, Int.reduceMod, Int.reduceMul, Int.reduceAdd, Int.reduceSub, Int.reduceNeg, Int.reduceLT, Int.reduceLE, Nat.reduceAdd, Nat.reduceLeDiff, Nat.reduceLT, Nat.reduceSub, reduceIte, wds_n, wds_0, wds_1, wds_2, wds_3, or_true, true_or, or_false, false_or, or_self]
      rw [tkK, if_pos (by omega)]
    all_goals
      intro q
      rw [tkK, if_pos (by omega)] at q
      omega

