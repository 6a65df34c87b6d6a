/-! THE PURE SIDE, 137: tokens on both sides: printed by wip/tools/gen89zzo.py -/
theorem s28n {d : Nat} {a t : Int} {h : HV} {Q : Int → HV → Prop} (hd : 7 < d) (ha : a ≠ 0) (hf : h 129 3 < 0) (ht : h 129 1 = t) (htm : t ≤ 2400) (h0 : 0 ≤ h 129 2) (hpt : h 129 2 ≤ t) (hby : ∀ i, 0 ≤ i → i < t → -128 ≤ h 227 i ∧ h 227 i ≤ 127) (S : STR h (-51) SGL) (hQ : ∀ h', TKC (h 227) t (wsF (h 227) t 2400 (h 129 2)) h h' → Q 0 h') : Sp fz1 d 28 [(3, 129), (0, a)] h Q := by
  refine G_in ?_
  simp only [en28, b28_0, x_aload0, x_gf_1048, x_goto_1, x_ifCond_eq_1, x_ifCond_lt_3, x_iload1, klp_0, klp_1, klp_2, klp_3, klp_9, KC_0, KC_1, KC_2, KC_3, KC_4, ne_eq, not_false_eq_true, not_true_eq_false, true_and, and_true, and_self, implies_true, eq_self, true_imp_iff, false_implies, Int.reduceEq, Int.reduceNe, Int.reduceMod, Int.reduceMul, Int.reduceAdd, Int.reduceSub, Int.reduceNeg, Int.reduceLT, Int.reduceLE, Nat.reduceAdd, Nat.reduceLeDiff, Nat.reduceLT, Nat.reduceSub, reduceIte, wds_n, wds_0, wds_1, wds_2, wds_3, or_true, true_or, or_false, false_or, or_self]
  refine ⟨fun q => (ha q).elim, fun _ => ⟨fun _ => ?_, fun q => (q hf).elim⟩⟩
  have es : hset h 129 2 (h 129 2) = h := hset_self rfl
  rw [← es]
  have hs0 := wsF_ge (h 227) t 2400 (h 129 2)
  have hst := wsF_le (h 227) t 2400 (h 129 2) hpt
  refine lp28 ht htm 2400 (h 129 2) h0 (by omega) ?_
  generalize wsF (h 227) t 2400 (h 129 2) = s at hQ hs0 hst ⊢
  refine G_in ?_
  simp only [en28, b28_5, x_aload0, x_gf_1032, x_gf_1040, x_goto_11, x_iconst, x_if_icmp_lt_6, x_pf_1056, x_pf_1064, klp_0, klp_1, klp_2, klp_3, klp_9, KC_0, KC_1, KC_2, KC_3, KC_4, ne_eq, not_false_eq_true, not_true_eq_false, true_and, and_true, and_self, implies_true, eq_self, true_imp_iff, false_implies, Int.reduceEq, Int.reduceNe, Int.reduceMod, Int.reduceMul, Int.reduceAdd, Int.reduceSub, Int.reduceNeg, Int.reduceLT, Int.reduceLE, Nat.reduceAdd, Nat.reduceLeDiff, Nat.reduceLT, Nat.reduceSub, reduceIte, wds_n, wds_0, wds_1, wds_2, wds_3, or_true, true_or, or_false, false_or, or_self, hs_eq, ht]
  refine ⟨fun hlt => ?_, fun hge => ?_⟩
  · have q227 : (hset (hset h 129 2 s) 129 5 s) 227 = h 227 := by rw [hs_ne (by decide), hs_ne (by decide)]
    have qt : (hset (hset h 129 2 s) 129 5 s) 129 1 = t := by simp only [hs_eq, ne_eq, not_false_eq_true, not_true_eq_false, true_and, and_true, and_self, implies_true, eq_self, true_imp_iff, false_implies, Int.reduceEq, Int.reduceNe, Int.reduceMod, Int.reduceMul, Int.reduceAdd, Int.reduceSub, Int.reduceNeg, Int.reduceLT, Int.reduceLE, Nat.reduceAdd, Nat.reduceLeDiff, Nat.reduceLT, Nat.reduceSub, reduceIte, wds_n, wds_0, wds_1, wds_2, wds_3, or_true, true_or, or_false, false_or, or_self, ht]
    refine G_in ?_
    simp only [en28, b28_6, x_aload0, y_call29, y_call30, x_gf_1040, x_goto_11, x_ifCond_eq_7, klp_0, klp_1, klp_2, klp_3, klp_9, KC_0, KC_1, KC_2, KC_3, KC_4, ne_eq, not_false_eq_true, not_true_eq_false, true_and, and_true, and_self, implies_true, eq_self, true_imp_iff, false_implies, Int.reduceEq, Int.reduceNe, Int.reduceMod, Int.reduceMul, Int.reduceAdd, Int.reduceSub, Int.reduceNeg, Int.reduceLT, Int.reduceLE, Nat.reduceAdd, Nat.reduceLeDiff, Nat.reduceLT, Nat.reduceSub, reduceIte, wds_n, wds_0, wds_1, wds_2, wds_3, or_true, true_or, or_false, false_or, or_self, hs_eq]
    refine ⟨by omega, s29 qt htm (by omega) (fun hL => ?_) (fun hL => ?_)⟩
    · rw [q227] at hL
      simp only [en28, b28_6, x_aload0, y_call29, y_call30, x_gf_1040, x_goto_11, x_ifCond_eq_7, klp_0, klp_1, klp_2, klp_3, klp_9, KC_0, KC_1, KC_2, KC_3, KC_4, ne_eq, not_false_eq_true, not_true_eq_false, true_and, and_true, and_self, implies_true, eq_self, true_imp_iff, false_implies, Int.reduceEq, Int.reduceNe, Int.reduceMod, Int.reduceMul, Int.reduceAdd, Int.reduceSub, Int.reduceNeg, Int.reduceLT, Int.reduceLE, Nat.reduceAdd, Nat.reduceLeDiff, Nat.reduceLT, Nat.reduceSub, reduceIte, wds_n, wds_0, wds_1, wds_2, wds_3, or_true, true_or, or_false, false_or, or_self]
      refine ⟨by omega, s30 (t := t) (p := s) (s := s) (n := 2400) (by omega) qt htm ?_ (by omega) ?_ (by omega) (by omega) (by omega) ?_⟩
      · simp only [hs_eq, ne_eq, not_false_eq_true, not_true_eq_false, true_and, and_true, and_self, implies_true, eq_self, true_imp_iff, false_implies, Int.reduceEq, Int.reduceNe, Int.reduceMod, Int.reduceMul, Int.reduceAdd, Int.reduceSub, Int.reduceNeg, Int.reduceLT, Int.reduceLE, Nat.reduceAdd, Nat.reduceLeDiff, Nat.reduceLT, Nat.reduceSub, reduceIte, wds_n, wds_0, wds_1, wds_2, wds_3, or_true, true_or, or_false, false_or, or_self]
      · simp only [hs_eq, ne_eq, not_false_eq_true, not_true_eq_false, true_and, and_true, and_self, implies_true, eq_self, true_imp_iff, false_implies, Int.reduceEq, Int.reduceNe, Int.reduceMod, Int.reduceMul, Int.reduceAdd, Int.reduceSub, Int.reduceNeg, Int.reduceLT, Int.reduceLE, Nat.reduceAdd, Nat.reduceLeDiff, Nat.reduceLT, Nat.reduceSub, reduceIte, wds_n, wds_0, wds_1, wds_2, wds_3, or_true, true_or, or_false, false_or, or_self]
      rw [q227]
      simp only [en28, b28_6, x_aload0, y_call29, y_call30, x_gf_1040, x_goto_11, x_ifCond_eq_7, klp_0, klp_1, klp_2, klp_3, klp_9, KC_0, KC_1, KC_2, KC_3, KC_4, ne_eq, not_false_eq_true, not_true_eq_false, true_and, and_true, and_self, implies_true, eq_self, true_imp_iff, false_implies, Int.reduceEq, Int.reduceNe, Int.reduceMod, Int.reduceMul, Int.reduceAdd, Int.reduceSub, Int.reduceNeg, Int.reduceLT, Int.reduceLE, Nat.reduceAdd, Nat.reduceLeDiff, Nat.reduceLT, Nat.reduceSub, reduceIte, wds_n, wds_0, wds_1, wds_2, wds_3, or_true, true_or, or_false, false_or, or_self]
      refine G_in ?_
      simp only [en28, b28_11, x_return, klp_0, klp_1, klp_2, klp_3, klp_9, KC_0, KC_1, KC_2, KC_3, KC_4, ne_eq, not_false_eq_true, not_true_eq_false, true_and, and_true, and_self, implies_true, eq_self, true_imp_iff, false_implies, Int.reduceEq, Int.reduceNe, Int.reduceMod, Int.reduceMul, Int.reduceAdd, Int.reduceSub, Int.reduceNeg, Int.reduceLT, Int.reduceLE, Nat.reduceAdd, Nat.reduceLeDiff, Nat.reduceLT, Nat.reduceSub, reduceIte, wds_n, wds_0, wds_1, wds_2, wds_3, or_true, true_or, or_false, false_or, or_self]
      refine hQ _ ⟨fun o ho => ?_, ?_, ?_, ?_, ?_, ?_, ?_, ?_, ?_, ?_⟩
      · rw [hs_ne ho, hs_ne ho, hs_ne ho, hs_ne ho, hs_ne ho]
      · simp only [hs_eq, ne_eq, not_false_eq_true, not_true_eq_false, true_and, and_true, and_self, implies_true, eq_self, true_imp_iff, false_implies, Int.reduceEq, Int.reduceNe, Int.reduceMod, Int.reduceMul, Int.reduceAdd, Int.reduceSub, Int.reduceNeg, Int.reduceLT, Int.reduceLE, Nat.reduceAdd, Nat.reduceLeDiff, Nat.reduceLT, Nat.reduceSub, reduceIte, wds_n, wds_0, wds_1, wds_2, wds_3, or_true, true_or, or_false, false_or, or_self]
      · simp only [hs_eq, ne_eq, not_false_eq_true, not_true_eq_false, true_and, and_true, and_self, implies_true, eq_self, true_imp_iff, false_implies, Int.reduceEq, Int.reduceNe, Int.reduceMod, Int.reduceMul, Int.reduceAdd, Int.reduceSub, Int.reduceNeg, Int.reduceLT, Int.reduceLE, Nat.reduceAdd, Nat.reduceLeDiff, Nat.reduceLT, Nat.reduceSub, reduceIte, wds_n, wds_0, wds_1, wds_2, wds_3, or_true, true_or, or_false, false_or, or_self]
      · simp only [hs_eq, ne_eq, not_false_eq_true, not_true_eq_false, true_and, and_true, and_self, implies_true, eq_self, true_imp_iff, false_implies, Int.reduceEq, Int.reduceNe, Int.reduceMod, Int.reduceMul, Int.reduceAdd, Int.reduceSub, Int.reduceNeg, Int.reduceLT, Int.reduceLE, Nat.reduceAdd, Nat.reduceLeDiff, Nat.reduceLT, Nat.reduceSub, reduceIte, wds_n, wds_0, wds_1, wds_2, wds_3, or_true, true_or, or_false, false_or, or_self]
      · simp only [hs_eq, ne_eq, not_false_eq_true, not_true_eq_false, true_and, and_true, and_self, implies_true, eq_self, true_imp_iff, false_implies, Int.reduceEq, Int.reduceNe, Int.reduceMod, Int.reduceMul, Int.reduceAdd, Int.reduceSub, Int.reduceNeg, Int.reduceLT, Int.reduceLE, Nat.reduceAdd, Nat.reduceLeDiff, Nat.reduceLT, Nat.reduceSub, reduceIte, wds_n, wds_0, wds_1, wds_2, wds_3, or_true, true_or, or_false, false_or, or_self]
        rw [tkE, if_neg (by omega), if_pos hL]
      · simp only [hs_eq, ne_eq, not_false_eq_true, not_true_eq_false, true_and, and_true, and_self, implies_true, eq_self, true_imp_iff, false_implies, Int.reduceEq, Int.reduceNe, Int.reduceMod, Int.reduceMul, Int.reduceAdd, Int.reduceSub, Int.reduceNeg, Int.reduceLT, Int.reduceLE, Nat.reduceAdd, Nat.reduceLeDiff, Nat.reduceLT, Nat.reduceSub, reduceIte, wds_n, wds_0, wds_1, wds_2, wds_3, or_true, true_or, or_false, false_or, or_self]
        rw [tkK, if_neg (show ¬ t ≤ s by omega), if_pos hL]
      · intro _
        simp only [hs_eq, ne_eq, not_false_eq_true, not_true_eq_false, true_and, and_true, and_self, implies_true, eq_self, true_imp_iff, false_implies, Int.reduceEq, Int.reduceNe, Int.reduceMod, Int.reduceMul, Int.reduceAdd, Int.reduceSub, Int.reduceNeg, Int.reduceLT, Int.reduceLE, Nat.reduceAdd, Nat.reduceLeDiff, Nat.reduceLT, Nat.reduceSub, reduceIte, wds_n, wds_0, wds_1, wds_2, wds_3, or_true, true_or, or_false, false_or, or_self]
        rw [pkW_eq, tkE, if_neg (by omega), if_pos hL]
      · intro q
        rw [tkK, if_neg (show ¬ t ≤ s by omega), if_pos hL] at q
        split at q <;> omega
      · intro q
        rw [tkK, if_neg (show ¬ t ≤ s by omega), if_pos hL] at q
        split at q <;> omega
      · intro q
        rw [tkK, if_neg (show ¬ t ≤ s by omega), if_pos hL] at q
        split at q <;> omega
    · rw [q227] at hL
      simp only [en28, b28_6, x_aload0, y_call29, y_call30, x_gf_1040, x_goto_11, x_ifCond_eq_7, klp_0, klp_1, klp_2, klp_3, klp_9, KC_0, KC_1, KC_2, KC_3, KC_4, ne_eq, not_false_eq_true, not_true_eq_false, true_and, and_true, and_self, implies_true, eq_self, true_imp_iff, false_implies, Int.reduceEq, Int.reduceNe, Int.reduceMod, Int.reduceMul, Int.reduceAdd, Int.reduceSub, Int.reduceNeg, Int.reduceLT, Int.reduceLE, Nat.reduceAdd, Nat.reduceLeDiff, Nat.reduceLT, Nat.reduceSub, reduceIte, wds_n, wds_0, wds_1, wds_2, wds_3, or_true, true_or, or_false, false_or, or_self]
      refine G_in ?_
      simp only [en28, b28_7, x_aload0, y_call31, y_call32, x_gf_1040, x_goto_11, x_ifCond_eq_8, klp_0, klp_1, klp_2, klp_3, klp_9, KC_0, KC_1, KC_2, KC_3, KC_4, ne_eq, not_false_eq_true, not_true_eq_false, true_and, and_true, and_self, implies_true, eq_self, true_imp_iff, false_implies, Int.reduceEq, Int.reduceNe, Int.reduceMod, Int.reduceMul, Int.reduceAdd, Int.reduceSub, Int.reduceNeg, Int.reduceLT, Int.reduceLE, Nat.reduceAdd, Nat.reduceLeDiff, Nat.reduceLT, Nat.reduceSub, reduceIte, wds_n, wds_0, wds_1, wds_2, wds_3, or_true, true_or, or_false, false_or, or_self, hs_eq]
      refine ⟨by omega, s31 qt htm (by omega) (fun hD => ?_) (fun hD => ?_)⟩
      · rw [q227] at hD
        simp only [en28, b28_7, x_aload0, y_call31, y_call32, x_gf_1040, x_goto_11, x_ifCond_eq_8, klp_0, klp_1, klp_2, klp_3, klp_9, KC_0, KC_1, KC_2, KC_3, KC_4, ne_eq, not_false_eq_true, not_true_eq_false, true_and, and_true, and_self, implies_true, eq_self, true_imp_iff, false_implies, Int.reduceEq, Int.reduceNe, Int.reduceMod, Int.reduceMul, Int.reduceAdd, Int.reduceSub, Int.reduceNeg, Int.reduceLT, Int.reduceLE, Nat.reduceAdd, Nat.reduceLeDiff, Nat.reduceLT, Nat.reduceSub, reduceIte, wds_n, wds_0, wds_1, wds_2, wds_3, or_true, true_or, or_false, false_or, or_self]
        refine ⟨by omega, s32 (t := t) (s := s) (by omega) qt htm ?_ ?_ (by omega) (by omega) (fun hR => ?_) (fun hR h' e1 e2 e3 e4 e5 e6 => ?_)⟩
        · simp only [hs_eq, ne_eq, not_false_eq_true, not_true_eq_false, true_and, and_true, and_self, implies_true, eq_self, true_imp_iff, false_implies, Int.reduceEq, Int.reduceNe, Int.reduceMod, Int.reduceMul, Int.reduceAdd, Int.reduceSub, Int.reduceNeg, Int.reduceLT, Int.reduceLE, Nat.reduceAdd, Nat.reduceLeDiff, Nat.reduceLT, Nat.reduceSub, reduceIte, wds_n, wds_0, wds_1, wds_2, wds_3, or_true, true_or, or_false, false_or, or_self]
        · simp only [hs_eq, ne_eq, not_false_eq_true, not_true_eq_false, true_and, and_true, and_self, implies_true, eq_self, true_imp_iff, false_implies, Int.reduceEq, Int.reduceNe, Int.reduceMod, Int.reduceMul, Int.reduceAdd, Int.reduceSub, Int.reduceNeg, Int.reduceLT, Int.reduceLE, Nat.reduceAdd, Nat.reduceLeDiff, Nat.reduceLT, Nat.reduceSub, reduceIte, wds_n, wds_0, wds_1, wds_2, wds_3, or_true, true_or, or_false, false_or, or_self]
        · rw [q227] at hR ⊢
          simp only [en28, b28_7, x_aload0, y_call31, y_call32, x_gf_1040, x_goto_11, x_ifCond_eq_8, klp_0, klp_1, klp_2, klp_3, klp_9, KC_0, KC_1, KC_2, KC_3, KC_4, ne_eq, not_false_eq_true, not_true_eq_false, true_and, and_true, and_self, implies_true, eq_self, true_imp_iff, false_implies, Int.reduceEq, Int.reduceNe, Int.reduceMod, Int.reduceMul, Int.reduceAdd, Int.reduceSub, Int.reduceNeg, Int.reduceLT, Int.reduceLE, Nat.reduceAdd, Nat.reduceLeDiff, Nat.reduceLT, Nat.reduceSub, reduceIte, wds_n, wds_0, wds_1, wds_2, wds_3, or_true, true_or, or_false, false_or, or_self]
          refine G_in ?_
          simp only [en28, b28_11, x_return, klp_0, klp_1, klp_2, klp_3, klp_9, KC_0, KC_1, KC_2, KC_3, KC_4, ne_eq, not_false_eq_true, not_true_eq_false, true_and, and_true, and_self, implies_true, eq_self, true_imp_iff, false_implies, Int.reduceEq, Int.reduceNe, Int.reduceMod, Int.reduceMul, Int.reduceAdd, Int.reduceSub, Int.reduceNeg, Int.reduceLT, Int.reduceLE, Nat.reduceAdd, Nat.reduceLeDiff, Nat.reduceLT, Nat.reduceSub, reduceIte, wds_n, wds_0, wds_1, wds_2, wds_3, or_true, true_or, or_false, false_or, or_self]
          refine hQ _ ⟨fun o ho => ?_, ?_, ?_, ?_, ?_, ?_, ?_, ?_, ?_, ?_⟩
          · rw [hs_ne ho, hs_ne ho, hs_ne ho, hs_ne ho, hs_ne ho]
          · simp only [hs_eq, ne_eq, not_false_eq_true, not_true_eq_false, true_and, and_true, and_self, implies_true, eq_self, true_imp_iff, false_implies, Int.reduceEq, Int.reduceNe, Int.reduceMod, Int.reduceMul, Int.reduceAdd, Int.reduceSub, Int.reduceNeg, Int.reduceLT, Int.reduceLE, Nat.reduceAdd, Nat.reduceLeDiff, Nat.reduceLT, Nat.reduceSub, reduceIte, wds_n, wds_0, wds_1, wds_2, wds_3, or_true, true_or, or_false, false_or, or_self]
          · simp only [hs_eq, ne_eq, not_false_eq_true, not_true_eq_false, true_and, and_true, and_self, implies_true, eq_self, true_imp_iff, false_implies, Int.reduceEq, Int.reduceNe, Int.reduceMod, Int.reduceMul, Int.reduceAdd, Int.reduceSub, Int.reduceNeg, Int.reduceLT, Int.reduceLE, Nat.reduceAdd, Nat.reduceLeDiff, Nat.reduceLT, Nat.reduceSub, reduceIte, wds_n, wds_0, wds_1, wds_2, wds_3, or_true, true_or, or_false, false_or, or_self]
          · simp only [hs_eq, ne_eq, not_false_eq_true, not_true_eq_false, true_and, and_true, and_self, implies_true, eq_self, true_imp_iff, false_implies, Int.reduceEq, Int.reduceNe, Int.reduceMod, Int.reduceMul, Int.reduceAdd, Int.reduceSub, Int.reduceNeg, Int.reduceLT, Int.reduceLE, Nat.reduceAdd, Nat.reduceLeDiff, Nat.reduceLT, Nat.reduceSub, reduceIte, wds_n, wds_0, wds_1, wds_2, wds_3, or_true, true_or, or_false, false_or, or_self]
          · simp only [hs_eq, ne_eq, not_false_eq_true, not_true_eq_false, true_and, and_true, and_self, implies_true, eq_self, true_imp_iff, false_implies, Int.reduceEq, Int.reduceNe, Int.reduceMod, Int.reduceMul, Int.reduceAdd, Int.reduceSub, Int.reduceNeg, Int.reduceLT, Int.reduceLE, Nat.reduceAdd, Nat.reduceLeDiff, Nat.reduceLT, Nat.reduceSub, reduceIte, wds_n, wds_0, wds_1, wds_2, wds_3, or_true, true_or, or_false, false_or, or_self]
            rw [tkE, if_neg (by omega), if_neg hL, if_pos hD, if_neg hR]
          · simp only [hs_eq, ne_eq, not_false_eq_true, not_true_eq_false, true_and, and_true, and_self, implies_true, eq_self, true_imp_iff, false_implies, Int.reduceEq, Int.reduceNe, Int.reduceMod, Int.reduceMul, Int.reduceAdd, Int.reduceSub, Int.reduceNeg, Int.reduceLT, Int.reduceLE, Nat.reduceAdd, Nat.reduceLeDiff, Nat.reduceLT, Nat.reduceSub, reduceIte, wds_n, wds_0, wds_1, wds_2, wds_3, or_true, true_or, or_false, false_or, or_self]
            rw [tkK, if_neg (show ¬ t ≤ s by omega), if_neg hL, if_pos hD, if_neg hR]
          · intro q
            rw [tkK, if_neg (show ¬ t ≤ s by omega), if_neg hL, if_pos hD, if_neg hR] at q
            split at q <;> omega
          · intro _
            simp only [hs_eq, ne_eq, not_false_eq_true, not_true_eq_false, true_and, and_true, and_self, implies_true, eq_self, true_imp_iff, false_implies, Int.reduceEq, Int.reduceNe, Int.reduceMod, Int.reduceMul, Int.reduceAdd, Int.reduceSub, Int.reduceNeg, Int.reduceLT, Int.reduceLE, Nat.reduceAdd, Nat.reduceLeDiff, Nat.reduceLT, Nat.reduceSub, reduceIte, wds_n, wds_0, wds_1, wds_2, wds_3, or_true, true_or, or_false, false_or, or_self]
          · intro q
            rw [tkK, if_neg (show ¬ t ≤ s by omega), if_neg hL, if_pos hD, if_neg hR] at q
            split at q <;> omega
          · intro q
            rw [tkK, if_neg (show ¬ t ≤ s by omega), if_neg hL, if_pos hD, if_neg hR] at q
            split at q <;> omega
        · rw [q227] at hR e3 e4 e5 e6
          simp only [en28, b28_7, x_aload0, y_call31, y_call32, x_gf_1040, x_goto_11, x_ifCond_eq_8, klp_0, klp_1, klp_2, klp_3, klp_9, KC_0, KC_1, KC_2, KC_3, KC_4, ne_eq, not_false_eq_true, not_true_eq_false, true_and, and_true, and_self, implies_true, eq_self, true_imp_iff, false_implies, Int.reduceEq, Int.reduceNe, Int.reduceMod, Int.reduceMul, Int.reduceAdd, Int.reduceSub, Int.reduceNeg, Int.reduceLT, Int.reduceLE, Nat.reduceAdd, Nat.reduceLeDiff, Nat.reduceLT, Nat.reduceSub, reduceIte, wds_n, wds_0, wds_1, wds_2, wds_3, or_true, true_or, or_false, false_or, or_self]
          refine G_in ?_
          simp only [en28, b28_11, x_return, klp_0, klp_1, klp_2, klp_3, klp_9, KC_0, KC_1, KC_2, KC_3, KC_4, ne_eq, not_false_eq_true, not_true_eq_false, true_and, and_true, and_self, implies_true, eq_self, true_imp_iff, false_implies, Int.reduceEq, Int.reduceNe, Int.reduceMod, Int.reduceMul, Int.reduceAdd, Int.reduceSub, Int.reduceNeg, Int.reduceLT, Int.reduceLE, Nat.reduceAdd, Nat.reduceLeDiff, Nat.reduceLT, Nat.reduceSub, reduceIte, wds_n, wds_0, wds_1, wds_2, wds_3, or_true, true_or, or_false, false_or, or_self]
          have ek : tkK (h 227) t s = (if nuE (h 227) t s - s ≤ 6 ∧ nuF (h 227) t s - (nuE (h 227) t s + 1) ≤ 4 then 3 else 5) := by rw [tkK, if_neg (show ¬ t ≤ s by omega), if_neg hL, if_pos hD, if_pos hR]
          refine hQ _ ⟨fun o ho => ?_, ?_, ?_, ?_, ?_, ?_, ?_, ?_, ?_, ?_⟩
          · rw [e1 o ho, hs_ne ho, hs_ne ho]
          · rw [e2 1 (by decide) (by decide) (by decide) (by decide)]; simp only [hs_eq, ne_eq, not_false_eq_true, not_true_eq_false, true_and, and_true, and_self, implies_true, eq_self, true_imp_iff, false_implies, Int.reduceEq, Int.reduceNe, Int.reduceMod, Int.reduceMul, Int.reduceAdd, Int.reduceSub, Int.reduceNeg, Int.reduceLT, Int.reduceLE, Nat.reduceAdd, Nat.reduceLeDiff, Nat.reduceLT, Nat.reduceSub, reduceIte, wds_n, wds_0, wds_1, wds_2, wds_3, or_true, true_or, or_false, false_or, or_self]
          · rw [e2 3 (by decide) (by decide) (by decide) (by decide)]; simp only [hs_eq, ne_eq, not_false_eq_true, not_true_eq_false, true_and, and_true, and_self, implies_true, eq_self, true_imp_iff, false_implies, Int.reduceEq, Int.reduceNe, Int.reduceMod, Int.reduceMul, Int.reduceAdd, Int.reduceSub, Int.reduceNeg, Int.reduceLT, Int.reduceLE, Nat.reduceAdd, Nat.reduceLeDiff, Nat.reduceLT, Nat.reduceSub, reduceIte, wds_n, wds_0, wds_1, wds_2, wds_3, or_true, true_or, or_false, false_or, or_self]
          · rw [e2 5 (by decide) (by decide) (by decide) (by decide)]; simp only [hs_eq, ne_eq, not_false_eq_true, not_true_eq_false, true_and, and_true, and_self, implies_true, eq_self, true_imp_iff, false_implies, Int.reduceEq, Int.reduceNe, Int.reduceMod, Int.reduceMul, Int.reduceAdd, Int.reduceSub, Int.reduceNeg, Int.reduceLT, Int.reduceLE, Nat.reduceAdd, Nat.reduceLeDiff, Nat.reduceLT, Nat.reduceSub, reduceIte, wds_n, wds_0, wds_1, wds_2, wds_3, or_true, true_or, or_false, false_or, or_self]
          · rw [e3, tkE, if_neg (by omega), if_neg hL, if_pos hD, if_pos hR]
          · rw [e6, ek]
          · intro q
            rw [ek] at q
            split at q <;> omega
          · intro q
            rw [ek] at q
            split at q <;> omega
          · intro _
            exact ⟨e4, e5⟩
          · intro q
            rw [ek] at q
            split at q <;> omega
      · rw [q227] at hD
        have hb := hby s (by omega) (by omega)
        have ec : i_and (h 227 s) 255 % 65536 = h 227 s % 256 := by rw [i_and_255 hb]; omega
        have hcc : (0 ≤ h 227 s % 256 ∧ h 227 s % 256 ≤ 65535) = True := eq_true (by omega)
        have ew : w8 (h 227 s % 256) = h 227 s := by unfold w8; omega
        have es1 : w32 (s + 1) = s + 1 := w32_id (by omega)
        have ekK : tkK (h 227) t s = (if 0 ≤ ixF (h 227 s) SGL 0 then 4 else 5) := by rw [tkK, if_neg (show ¬ t ≤ s by omega), if_neg hL, if_neg hD]
        simp only [en28, b28_7, x_aload0, y_call31, y_call32, x_gf_1040, x_goto_11, x_ifCond_eq_8, klp_0, klp_1, klp_2, klp_3, klp_9, KC_0, KC_1, KC_2, KC_3, KC_4, ne_eq, not_false_eq_true, not_true_eq_false, true_and, and_true, and_self, implies_true, eq_self, true_imp_iff, false_implies, Int.reduceEq, Int.reduceNe, Int.reduceMod, Int.reduceMul, Int.reduceAdd, Int.reduceSub, Int.reduceNeg, Int.reduceLT, Int.reduceLE, Nat.reduceAdd, Nat.reduceLeDiff, Nat.reduceLT, Nat.reduceSub, reduceIte, wds_n, wds_0, wds_1, wds_2, wds_3, or_true, true_or, or_false, false_or, or_self]
        have fin : ∀ k : Int, k = tkK (h 227) t s → G fz1 d 28 10 [(3, 129), (0, a)] [(0, k), (3, 129)] (hset (hset (hset h 129 2 s) 129 5 s) 129 9 (h 227 s % 256)) Q := fun k hk => by
          refine G_in ?_
          simp only [en28, b28_10, x_aload0, x_dup0, x_dup3, x_gf_1040, x_goto_11, x_iadd, x_iconst, x_pf_1040, x_pf_1056, klp_0, klp_1, klp_2, klp_3, klp_9, KC_0, KC_1, KC_2, KC_3, KC_4, ne_eq, not_false_eq_true, not_true_eq_false, true_and, and_true, and_self, implies_true, eq_self, true_imp_iff, false_implies, Int.reduceEq, Int.reduceNe, Int.reduceMod, Int.reduceMul, Int.reduceAdd, Int.reduceSub, Int.reduceNeg, Int.reduceLT, Int.reduceLE, Nat.reduceAdd, Nat.reduceLeDiff, Nat.reduceLT, Nat.reduceSub, reduceIte, wds_n, wds_0, wds_1, wds_2, wds_3, or_true, true_or, or_false, false_or, or_self, hs_eq, es1]
          refine G_in ?_
          simp only [en28, b28_11, x_return, klp_0, klp_1, klp_2, klp_3, klp_9, KC_0, KC_1, KC_2, KC_3, KC_4, ne_eq, not_false_eq_true, not_true_eq_false, true_and, and_true, and_self, implies_true, eq_self, true_imp_iff, false_implies, Int.reduceEq, Int.reduceNe, Int.reduceMod, Int.reduceMul, Int.reduceAdd, Int.reduceSub, Int.reduceNeg, Int.reduceLT, Int.reduceLE, Nat.reduceAdd, Nat.reduceLeDiff, Nat.reduceLT, Nat.reduceSub, reduceIte, wds_n, wds_0, wds_1, wds_2, wds_3, or_true, true_or, or_false, false_or, or_self]
          refine hQ _ ⟨fun o ho => ?_, ?_, ?_, ?_, ?_, ?_, ?_, ?_, ?_, ?_⟩
          · rw [hs_ne ho, hs_ne ho, hs_ne ho, hs_ne ho, hs_ne ho]
          · simp only [hs_eq, ne_eq, not_false_eq_true, not_true_eq_false, true_and, and_true, and_self, implies_true, eq_self, true_imp_iff, false_implies, Int.reduceEq, Int.reduceNe, Int.reduceMod, Int.reduceMul, Int.reduceAdd, Int.reduceSub, Int.reduceNeg, Int.reduceLT, Int.reduceLE, Nat.reduceAdd, Nat.reduceLeDiff, Nat.reduceLT, Nat.reduceSub, reduceIte, wds_n, wds_0, wds_1, wds_2, wds_3, or_true, true_or, or_false, false_or, or_self]
          · simp only [hs_eq, ne_eq, not_false_eq_true, not_true_eq_false, true_and, and_true, and_self, implies_true, eq_self, true_imp_iff, false_implies, Int.reduceEq, Int.reduceNe, Int.reduceMod, Int.reduceMul, Int.reduceAdd, Int.reduceSub, Int.reduceNeg, Int.reduceLT, Int.reduceLE, Nat.reduceAdd, Nat.reduceLeDiff, Nat.reduceLT, Nat.reduceSub, reduceIte, wds_n, wds_0, wds_1, wds_2, wds_3, or_true, true_or, or_false, false_or, or_self]
          · simp only [hs_eq, ne_eq, not_false_eq_true, not_true_eq_false, true_and, and_true, and_self, implies_true, eq_self, true_imp_iff, false_implies, Int.reduceEq, Int.reduceNe, Int.reduceMod, Int.reduceMul, Int.reduceAdd, Int.reduceSub, Int.reduceNeg, Int.reduceLT, Int.reduceLE, Nat.reduceAdd, Nat.reduceLeDiff, Nat.reduceLT, Nat.reduceSub, reduceIte, wds_n, wds_0, wds_1, wds_2, wds_3, or_true, true_or, or_false, false_or, or_self]
          · simp only [hs_eq, ne_eq, not_false_eq_true, not_true_eq_false, true_and, and_true, and_self, implies_true, eq_self, true_imp_iff, false_implies, Int.reduceEq, Int.reduceNe, Int.reduceMod, Int.reduceMul, Int.reduceAdd, Int.reduceSub, Int.reduceNeg, Int.reduceLT, Int.reduceLE, Nat.reduceAdd, Nat.reduceLeDiff, Nat.reduceLT, Nat.reduceSub, reduceIte, wds_n, wds_0, wds_1, wds_2, wds_3, or_true, true_or, or_false, false_or, or_self]
            rw [tkE, if_neg (by omega), if_neg hL, if_neg hD]
          · simp only [hs_eq, ne_eq, not_false_eq_true, not_true_eq_false, true_and, and_true, and_self, implies_true, eq_self, true_imp_iff, false_implies, Int.reduceEq, Int.reduceNe, Int.reduceMod, Int.reduceMul, Int.reduceAdd, Int.reduceSub, Int.reduceNeg, Int.reduceLT, Int.reduceLE, Nat.reduceAdd, Nat.reduceLeDiff, Nat.reduceLT, Nat.reduceSub, reduceIte, wds_n, wds_0, wds_1, wds_2, wds_3, or_true, true_or, or_false, false_or, or_self]
            exact hk
          · intro q
            rw [ekK] at q
            split at q <;> omega
          · intro q
            rw [ekK] at q
            split at q <;> omega
          · intro q
            rw [ekK] at q
            split at q <;> omega
          · intro _
            simp only [hs_eq, ne_eq, not_false_eq_true, not_true_eq_false, true_and, and_true, and_self, implies_true, eq_self, true_imp_iff, false_implies, Int.reduceEq, Int.reduceNe, Int.reduceMod, Int.reduceMul, Int.reduceAdd, Int.reduceSub, Int.reduceNeg, Int.reduceLT, Int.reduceLE, Nat.reduceAdd, Nat.reduceLeDiff, Nat.reduceLT, Nat.reduceSub, reduceIte, wds_n, wds_0, wds_1, wds_2, wds_3, or_true, true_or, or_false, false_or, or_self]
        refine G_in ?_
        simp only [en28, b28_8, x_aload0, x_baload, y_call33, x_gc_1027, x_gf_1040, x_gf_1101, x_goto_10, x_i2c, x_iand, x_iconst, x_ifCond_lt_9, x_jsr, x_pf_1101, klp_0, klp_1, klp_2, klp_3, klp_9, KC_0, KC_1, KC_2, KC_3, KC_4, ne_eq, not_false_eq_true, not_true_eq_false, true_and, and_true, and_self, implies_true, eq_self, true_imp_iff, false_implies, Int.reduceEq, Int.reduceNe, Int.reduceMod, Int.reduceMul, Int.reduceAdd, Int.reduceSub, Int.reduceNeg, Int.reduceLT, Int.reduceLE, Nat.reduceAdd, Nat.reduceLeDiff, Nat.reduceLT, Nat.reduceSub, reduceIte, wds_n, wds_0, wds_1, wds_2, wds_3, or_true, true_or, or_false, false_or, or_self, hs_eq, hs_ne, ht, z129_0, z227_l, ec, hcc]
        refine ⟨⟨by omega, by omega⟩, by omega, s33 (l := SGL) (by omega) ?_ (by decide) (by decide) (by omega) ?_⟩
        · obtain ⟨S1, S2, S3, S4, S5⟩ := S
          have q51 : ∀ (f : HV) (x : Int), hset f 129 x (h 227 s % 256) (-51) = f (-51) := fun f x => hs_ne (by decide)
          have q52 : ∀ (f : HV) (x v : Int), hset f 129 x v (-51) = f (-51) := fun f x v => hs_ne (by decide)
          have q53 : ∀ (f : HV) (x v : Int), hset f 129 x v (h (-51) 0) = f (h (-51) 0) := fun f x v => hs_ne (by have := S2.1; omega)
          refine ⟨S1, ?_, ?_, ?_, ?_⟩
          all_goals simp only [q52, q53]
          · exact S2
          · exact S3
          · exact S4
          · exact S5
        · rw [ew]
          simp only [en28, b28_8, x_aload0, x_baload, y_call33, x_gc_1027, x_gf_1040, x_gf_1101, x_goto_10, x_i2c, x_iand, x_iconst, x_ifCond_lt_9, x_jsr, x_pf_1101, klp_0, klp_1, klp_2, klp_3, klp_9, KC_0, KC_1, KC_2, KC_3, KC_4, ne_eq, not_false_eq_true, not_true_eq_false, true_and, and_true, and_self, implies_true, eq_self, true_imp_iff, false_implies, Int.reduceEq, Int.reduceNe, Int.reduceMod, Int.reduceMul, Int.reduceAdd, Int.reduceSub, Int.reduceNeg, Int.reduceLT, Int.reduceLE, Nat.reduceAdd, Nat.reduceLeDiff, Nat.reduceLT, Nat.reduceSub, reduceIte, wds_n, wds_0, wds_1, wds_2, wds_3, or_true, true_or, or_false, false_or, or_self]
          refine ⟨fun q => G_in ?_, fun q => fin 4 ?_⟩
          · simp only [en28, b28_9, x_goto_10, x_iconst, klp_0, klp_1, klp_2, klp_3, klp_9, KC_0, KC_1, KC_2, KC_3, KC_4, ne_eq, not_false_eq_true, not_true_eq_false, true_and, and_true, and_self, implies_true, eq_self, true_imp_iff, false_implies, Int.reduceEq, Int.reduceNe, Int.reduceMod, Int.reduceMul, Int.reduceAdd, Int.reduceSub, Int.reduceNeg, Int.reduceLT, Int.reduceLE, Nat.reduceAdd, Nat.reduceLeDiff, Nat.reduceLT, Nat.reduceSub, reduceIte, wds_n, wds_0, wds_1, wds_2, wds_3, or_true, true_or, or_false, false_or, or_self]
            exact fin 5 (by rw [ekK, if_neg (by omega)])
          · rw [ekK, if_pos (by omega)]
  · have hse : s = t := by omega
    refine G_in ?_
    simp only [en28, b28_11, x_return, klp_0, klp_1, klp_2, klp_3, klp_9, KC_0, KC_1, KC_2, KC_3, KC_4, ne_eq, not_false_eq_true, not_true_eq_false, true_and, and_true, and_self, implies_true, eq_self, true_imp_iff, false_implies, Int.reduceEq, Int.reduceNe, Int.reduceMod, Int.reduceMul, Int.reduceAdd, Int.reduceSub, Int.reduceNeg, Int.reduceLT, Int.reduceLE, Nat.reduceAdd, Nat.reduceLeDiff, Nat.reduceLT, Nat.reduceSub, reduceIte, wds_n, wds_0, wds_1, wds_2, wds_3, or_true, true_or, or_false, false_or, or_self]
    refine hQ _ ⟨fun o ho => ?_, ?_, ?_, ?_, ?_, ?_, ?_, ?_, ?_, ?_⟩
    · rw [hs_ne ho, hs_ne ho, hs_ne ho]
    · simp only [hs_eq, ne_eq, not_false_eq_true, not_true_eq_false, true_and, and_true, and_self, implies_true, eq_self, true_imp_iff, false_implies, Int.reduceEq, Int.reduceNe, Int.reduceMod, Int.reduceMul, Int.reduceAdd, Int.reduceSub, Int.reduceNeg, Int.reduceLT, Int.reduceLE, Nat.reduceAdd, Nat.reduceLeDiff, Nat.reduceLT, Nat.reduceSub, reduceIte, wds_n, wds_0, wds_1, wds_2, wds_3, or_true, true_or, or_false, false_or, or_self]
    · simp only [hs_eq, ne_eq, not_false_eq_true, not_true_eq_false, true_and, and_true, and_self, implies_true, eq_self, true_imp_iff, false_implies, Int.reduceEq, Int.reduceNe, Int.reduceMod, Int.reduceMul, Int.reduceAdd, Int.reduceSub, Int.reduceNeg, Int.reduceLT, Int.reduceLE, Nat.reduceAdd, Nat.reduceLeDiff, Nat.reduceLT, Nat.reduceSub, reduceIte, wds_n, wds_0, wds_1, wds_2, wds_3, or_true, true_or, or_false, false_or, or_self]
    · simp only [hs_eq, ne_eq, not_false_eq_true, not_true_eq_false, true_and, and_true, and_self, implies_true, eq_self, true_imp_iff, false_implies, Int.reduceEq, Int.reduceNe, Int.reduceMod, Int.reduceMul, Int.reduceAdd, Int.reduceSub, Int.reduceNeg, Int.reduceLT, Int.reduceLE, Nat.reduceAdd, Nat.reduceLeDiff, Nat.reduceLT, Nat.reduceSub, reduceIte, wds_n, wds_0, wds_1, wds_2, wds_3, or_true, true_or, or_false, false_or, or_self]
    · simp only [hs_eq, ne_eq, not_false_eq_true, not_true_eq_false, true_and, and_true, and_self, implies_true, eq_self, true_imp_iff, false_implies, Int.reduceEq, Int.reduceNe, Int.reduceMod, Int.reduceMul, Int.reduceAdd, Int.reduceSub, Int.reduceNeg, Int.reduceLT, Int.reduceLE, Nat.reduceAdd, Nat.reduceLeDiff, Nat.reduceLT, Nat.reduceSub, reduceIte, wds_n, wds_0, wds_1, wds_2, wds_3, or_true, true_or, or_false, false_or, or_self]
      rw [tkE, if_pos (by omega)]
    · simp only [hs_eq, ne_eq, not_false_eq_true, not_true_eq_false, true_and, and_true, and_self, implies_true, eq_self, true_imp_iff, false_implies, Int.reduceEq, Int.reduceNe, Int.reduceMod, Int.reduceMul, Int.reduceAdd, Int.reduceSub, Int.reduceNeg, Int.reduceLT, Int.reduceLE, Nat.reduceAdd, Nat.reduceLeDiff, Nat.reduceLT, Nat.reduceSub, reduceIte, wds_n, wds_0, wds_1, wds_2, wds_3, or_true, true_or, or_false, false_or, or_self]
      rw [tkK, if_pos (by omega)]
    all_goals
      intro q
      rw [tkK, if_pos (by omega)] at q
      omega
section TK
variable {tp tp' : Int → Int} {t : Int}
theorem isL_c (e : ∀ i, 0 ≤ i → i < t → tp i = tp' i) {i : Int} (h0 : 0 ≤ i) : isL tp t i ↔ isL tp' t i := by
  constructor
  · rintro ⟨a, b, c⟩
    rw [e i h0 a] at b c
    exact ⟨a, b, c⟩
  · rintro ⟨a, b, c⟩
    rw [← e i h0 a] at b c
    exact ⟨a, b, c⟩
theorem isD_c (e : ∀ i, 0 ≤ i → i < t → tp i = tp' i) {i : Int} (h0 : 0 ≤ i) : isD tp t i ↔ isD tp' t i := by
  constructor
  · rintro ⟨a, b, c⟩
    rw [e i h0 a] at b c
    exact ⟨a, b, c⟩
  · rintro ⟨a, b, c⟩
    rw [← e i h0 a] at b c
    exact ⟨a, b, c⟩
theorem wsF_c (e : ∀ i, 0 ≤ i → i < t → tp i = tp' i) : ∀ (n : Nat) (p : Int), 0 ≤ p → wsF tp t n p = wsF tp' t n p
  | 0, p, _ => rfl
  | n + 1, p, hp => by
    rw [wsF, wsF]
    by_cases c : p < t ∧ (tp p = 32 ∨ tp p = 10)
    · rw [if_pos c, if_pos ⟨c.1, by rw [← e p hp c.1]; exact c.2⟩, wsF_c e n (p + 1) (by omega)]
    · rw [if_neg c, if_neg (fun w => c ⟨w.1, by rw [e p hp w.1]; exact w.2⟩)]
theorem wdF_c (e : ∀ i, 0 ≤ i → i < t → tp i = tp' i) : ∀ (n : Nat) (p : Int), 0 ≤ p → wdF tp t n p = wdF tp' t n p
  | 0, p, _ => rfl
  | n + 1, p, hp => by
    rw [wdF, wdF]
    by_cases c : isL tp t p ∨ isD tp t p
    · rw [if_pos c, if_pos (c.imp (isL_c e hp).mp (isD_c e hp).mp), wdF_c e n (p + 1) (by omega)]
    · rw [if_neg c, if_neg (fun w => c (w.imp (isL_c e hp).mpr (isD_c e hp).mpr))]
theorem dgF_c (e : ∀ i, 0 ≤ i → i < t → tp i = tp' i) : ∀ (n : Nat) (p : Int), 0 ≤ p → dgF tp t n p = dgF tp' t n p
  | 0, p, _ => rfl
  | n + 1, p, hp => by
    rw [dgF, dgF]
    by_cases c : isD tp t p
    · rw [if_pos c, if_pos ((isD_c e hp).mp c), dgF_c e n (p + 1) (by omega)]
    · rw [if_neg c, if_neg (fun w => c ((isD_c e hp).mpr w))]
theorem pkF_c (e : ∀ i, 0 ≤ i → i < t → tp i = tp' i) : ∀ (n : Nat) (s v : Int), 0 ≤ s → s + n ≤ t → pkF tp n s v = pkF tp' n s v
  | 0, _, _, _, _ => rfl
  | n + 1, s, v, h0, h1 => by rw [pkF, pkF, e s h0 (by omega), pkF_c e n (s + 1) _ (by omega) (by omega)]
theorem dvF_c (e : ∀ i, 0 ≤ i → i < t → tp i = tp' i) : ∀ (n : Nat) (s v : Int), 0 ≤ s → s + n ≤ t → dvF tp n s v = dvF tp' n s v
  | 0, _, _, _, _ => rfl
  | n + 1, s, v, h0, h1 => by rw [dvF, dvF, e s h0 (by omega), dvF_c e n (s + 1) _ (by omega) (by omega)]
theorem nuR_c (e : ∀ i, 0 ≤ i → i < t → tp i = tp' i) {s : Int} (h0 : 0 ≤ s) : nuR tp t s ↔ nuR tp' t s := by
  have b := dgF_ge tp t 2400 s
  have q : nuE tp t s = nuE tp' t s := dgF_c e 2400 s h0
  have b' : s ≤ nuE tp t s := b
  unfold nuR
  rw [← q]
  constructor
  · rintro ⟨a, c, f⟩
    exact ⟨a, by rw [← e _ (by omega) a]; exact c, (isD_c e (by omega)).mp f⟩
  · rintro ⟨a, c, f⟩
    exact ⟨a, by rw [e _ (by omega) a]; exact c, (isD_c e (by omega)).mpr f⟩
/-- the word at hand, packed; where the next token begins -/
def wdT (tp : Int → Int) (t s : Int) : Int := pkF tp (tkE tp t s - s).toNat s 0
def nxS (tp : Int → Int) (t s : Int) : Int := wsF tp t 2400 (tkE tp t s)
theorem tkE_b {s : Int} (h : s ≤ t) : s ≤ tkE tp t s ∧ tkE tp t s ≤ t := by
  unfold tkE
  by_cases a : t ≤ s
  · rw [if_pos a]; omega
  rw [if_neg a]
  by_cases b : isL tp t s
  · rw [if_pos b]
    exact ⟨wdF_ge tp t 2400 s, wdF_le tp t 2400 s h⟩
  rw [if_neg b]
  by_cases c : isD tp t s
  · rw [if_pos c]
    have e := nuE_b (tp := tp) h
    by_cases f : nuR tp t s
    · rw [if_pos f]
      have g := nuF_b (tp := tp) (t := t) (s := s) (by have := f.1; omega)
      omega
    · rw [if_neg f]; omega
  · rw [if_neg c]; omega
theorem tkE_c (e : ∀ i, 0 ≤ i → i < t → tp i = tp' i) {s : Int} (h0 : 0 ≤ s) : tkE tp t s = tkE tp' t s := by
  unfold tkE
  by_cases a : t ≤ s
  · rw [if_pos a, if_pos a]
  rw [if_neg a, if_neg a]
  by_cases b : isL tp t s
  · rw [if_pos b, if_pos ((isL_c e h0).mp b), wdF_c e 2400 s h0]
  rw [if_neg b, if_neg (fun w => b ((isL_c e h0).mpr w))]
  have q : nuE tp t s = nuE tp' t s := dgF_c e 2400 s h0
  have q0 : s ≤ nuE tp t s := dgF_ge tp t 2400 s
  have q2 : nuF tp t s = nuF tp' t s := by
    unfold nuF
    rw [← q]
    exact dgF_c e 2400 _ (by omega)
  by_cases c : isD tp t s
  · rw [if_pos c, if_pos ((isD_c e h0).mp c)]
    by_cases f : nuR tp t s
    · rw [if_pos f, if_pos ((nuR_c e h0).mp f), q2]
    · rw [if_neg f, if_neg (fun w => f ((nuR_c e h0).mpr w)), q]
  · rw [if_neg c, if_neg (fun w => c ((isD_c e h0).mpr w))]
theorem tkK_c (e : ∀ i, 0 ≤ i → i < t → tp i = tp' i) {s : Int} (h0 : 0 ≤ s) : tkK tp t s = tkK tp' t s := by
  unfold tkK
  by_cases a : t ≤ s
  · rw [if_pos a, if_pos a]
  rw [if_neg a, if_neg a]
  by_cases b : isL tp t s
  · rw [if_pos b, if_pos ((isL_c e h0).mp b), wdF_c e 2400 s h0]
  rw [if_neg b, if_neg (fun w => b ((isL_c e h0).mpr w))]
  have q : nuE tp t s = nuE tp' t s := dgF_c e 2400 s h0
  have q0 : s ≤ nuE tp t s := dgF_ge tp t 2400 s
  have q2 : nuF tp t s = nuF tp' t s := by
    unfold nuF
    rw [← q]
    exact dgF_c e 2400 _ (by omega)
  by_cases c : isD tp t s
  · rw [if_pos c, if_pos ((isD_c e h0).mp c)]
    by_cases f : nuR tp t s
    · rw [if_pos f, if_pos ((nuR_c e h0).mp f), q2, q]
    · rw [if_neg f, if_neg (fun w => f ((nuR_c e h0).mpr w)), q]
  · rw [if_neg c, if_neg (fun w => c ((isD_c e h0).mpr w)), e s h0 (by omega)]
theorem tkK_r {s : Int} : 0 ≤ tkK tp t s ∧ tkK tp t s ≤ 5 ∧ (tkK tp t s = 0 ↔ t ≤ s) := by
  unfold tkK
  split
  · omega
  · split
    · split <;> omega
    · split
      · split
        · split <;> omega
        · split <;> omega
      · split <;> omega
theorem tkE_gt {s : Int} (h0 : 0 ≤ s) (h : s < t) (ht : t ≤ 2400) : s < tkE tp t s := by
  unfold tkE
  rw [if_neg (by omega)]
  by_cases b : isL tp t s
  · rw [if_pos b, ← wd_1 h0 ht b]
    have := wdF_ge tp t 2400 (s + 1)
    omega
  rw [if_neg b]
  by_cases c : isD tp t s
  · rw [if_pos c]
    have e : s + 1 ≤ nuE tp t s := by rw [← dg_1 h0 ht c]; exact dgF_ge tp t 2400 (s + 1)
    by_cases f : nuR tp t s
    · rw [if_pos f]
      have g := nuF_b (tp := tp) (t := t) (s := s) (by have := f.1; omega)
      omega
    · rw [if_neg f]; omega
  · rw [if_neg c]; omega
theorem nxS_b {s : Int} (h : s ≤ t) : tkE tp t s ≤ nxS tp t s ∧ nxS tp t s ≤ t := ⟨wsF_ge tp t 2400 _, wsF_le tp t 2400 _ (tkE_b h).2⟩
theorem nuV_n {s : Int} (hs : s ≤ t) (k : tkK tp t s = 2) : 0 ≤ nuV tp t s ∧ nuV tp t s < 1000000 := by
  refine nuV_b hs ?_
  unfold tkK at k
  split at k
  · omega
  split at k
  · split at k <;> omega
  split at k
  · split at k
    · split at k <;> omega
    · split at k
      · assumption
      · omega
  · split at k <;> omega
theorem nuW_n {s : Int} (h0 : 0 ≤ s) (hs : s ≤ t) (ht : t ≤ 2400) (k : tkK tp t s = 3) : nuR tp t s ∧ nuE tp t s - s ≤ 6 ∧ (0 ≤ nuF tp t s - (nuE tp t s + 1) ∧ nuF tp t s - (nuE tp t s + 1) ≤ 4) ∧ 0 ≤ nuW tp t s ∧ nuW tp t s < 10000000000 := by
  have r : nuR tp t s ∧ nuE tp t s - s ≤ 6 ∧ nuF tp t s - (nuE tp t s + 1) ≤ 4 := by
    unfold tkK at k
    split at k
    · omega
    split at k
    · split at k <;> omega
    split at k
    · split at k
      · rename_i w
        split at k
        · rename_i u
          exact ⟨w, u⟩
        · omega
      · split at k <;> omega
    · split at k <;> omega
  obtain ⟨a, b, c⟩ := r
  have v := nuV_b hs b
  have fb := nuF_b (tp := tp) (t := t) (s := s) (by have := a.1; omega)
  have d := dv_bound (tp := tp) (t := t) (nuF tp t s - (nuE tp t s + 1)).toNat (nuE tp t s + 1) (nuV tp t s) (fun i i0 i1 => dgF_all tp t 2400 (nuE tp t s + 1) i i0 (by have : nuF tp t s = dgF tp t 2400 (nuE tp t s + 1) := rfl; omega)) v.1
  have u := uF_le (n := (nuF tp t s - (nuE tp t s + 1)).toNat) (by omega)
  have u0 := uF_pos (nuF tp t s - (nuE tp t s + 1)).toNat
  refine ⟨a, b, by omega, d.1, ?_⟩
  have e : nuW tp t s = dvF tp (nuF tp t s - (nuE tp t s + 1)).toNat (nuE tp t s + 1) (nuV tp t s) := rfl
  rw [e]
  refine Int.lt_of_lt_of_le d.2 ?_
  refine Int.le_trans (Int.mul_le_mul_of_nonneg_left u (by omega)) ?_
  omega
/-! words as numbers -/
def pkI (f : Int → Int) : Nat → Int → Int → Int
  | 0, _, v => v
  | n + 1, s, v => pkI f n (s + 1) (v * 256 + f s)
theorem pkI_last (f : Int → Int) : ∀ (n : Nat) (s v : Int), pkI f (n + 1) s v = pkI f n s v * 256 + f (s + n)
  | 0, s, v => by show v * 256 + f s = v * 256 + f (s + ((0 : Nat) : Int)); rw [show s + ((0 : Nat) : Int) = s by omega]
  | n + 1, s, v => by
    show pkI f (n + 1) (s + 1) (v * 256 + f s) = pkI f n (s + 1) (v * 256 + f s) * 256 + f (s + ((n + 1 : Nat) : Int))
    rw [pkI_last f n, show s + 1 + (n : Int) = s + ((n + 1 : Nat) : Int) by omega]
theorem pkI_pos (f : Int → Int) : ∀ (n : Nat) (s : Int), (∀ k, s ≤ k → k < s + n → 1 ≤ f k ∧ f k ≤ 255) → 0 ≤ pkI f n s 0 ∧ (0 < n → 1 ≤ pkI f n s 0)
  | 0, s, _ => ⟨Int.le_refl _, fun w => absurd w (by decide)⟩
  | n + 1, s, h => by
    have i := pkI_pos f n s (fun k a b => h k a (by omega))
    have := h (s + n) (by omega) (by omega)
    rw [pkI_last]
    omega
theorem pkI_inj {f g : Int → Int} : ∀ (n m : Nat) (a b : Int), (∀ k, a ≤ k → k < a + n → 1 ≤ f k ∧ f k ≤ 255) → (∀ k, b ≤ k → k < b + m → 1 ≤ g k ∧ g k ≤ 255) → pkI f n a 0 = pkI g m b 0 → n = m ∧ ∀ k : Int, 0 ≤ k → k < n → f (a + k) = g (b + k)
  | 0, 0, _, _, _, _, _ => ⟨rfl, fun k a b => by omega⟩
  | 0, m + 1, a, b, _, hg, e => by
    have := (pkI_pos g (m + 1) b hg).2 (by omega)
    have : pkI f 0 a 0 = 0 := rfl
    omega
  | n + 1, 0, a, b, hf, _, e => by
    have := (pkI_pos f (n + 1) a hf).2 (by omega)
    have : pkI g 0 b 0 = 0 := rfl
    omega
  | n + 1, m + 1, a, b, hf, hg, e => by
    rw [pkI_last, pkI_last] at e
    have u := hf (a + n) (by omega) (by omega)
    have v := hg (b + m) (by omega) (by omega)
    have i := pkI_inj n m a b (fun k x y => hf k x (by omega)) (fun k x y => hg k x (by omega)) (by omega)
    refine ⟨by omega, fun k k0 k1 => ?_⟩
    by_cases w : k = n
    · have i1 := i.1
      subst w
      subst i1
      omega
    · exact i.2 k k0 (by omega)
def pkL (l : List Int) : Int := pkI (fun i => l.getD i.toNat 0) l.length 0 0
theorem pk_stp {v c : Int} (v0 : 0 ≤ v) (v1 : v < 36028797018963968) (c0 : 0 ≤ c) (c1 : c < 256) : l_or (l_shl v 8) c = v * 256 + c := by
  have e := l_shl_eq (x := v) (n := 8) (by omega) (by decide)
  rw [show ((8 : Nat) : Int) = 8 from rfl] at e
  have q : l_shl v 8 = v * 256 := by
    rw [e, show ((2 ^ 8 : Nat) : Int) = 256 from rfl]
    unfold w64
    omega
  rw [q]
  obtain ⟨n, rfl⟩ : ∃ n : Nat, v = n := ⟨v.toNat, by omega⟩
  obtain ⟨m, rfl⟩ : ∃ m : Nat, c = m := ⟨c.toNat, by omega⟩
  rw [show (n : Int) * 256 = ((n * 2 ^ 8 : Nat) : Int) by omega, l_or_nat (by omega) (by omega), or_hi (by omega)]
  omega
theorem p256 {m : Nat} (h : m ≤ 7) : (256 : Int) ^ m ≤ 72057594037927936 := by
  rcases (show m = 0 ∨ m = 1 ∨ m = 2 ∨ m = 3 ∨ m = 4 ∨ m = 5 ∨ m = 6 ∨ m = 7 by omega) with w | w | w | w | w | w | w | w <;> subst w <;> decide
theorem pkF_I {f : Int → Int} : ∀ (n m : Nat) (s v : Int), n + m ≤ 8 → 0 ≤ v → 255 * v ≤ 127 * ((256 : Int) ^ m - 1) → (∀ k, s ≤ k → k < s + n → 1 ≤ f k ∧ f k ≤ 127) → pkF f n s v = pkI f n s v
  | 0, _, _, _, _, _, _, _ => rfl
  | n + 1, m, s, v, h, v0, v1, hf => by
    have u := hf s (by omega) (by omega)
    have b := p256 (m := m) (by omega)
    have e : (256 : Int) ^ (m + 1) = (256 : Int) ^ m * 256 := Int.pow_succ ..
    generalize (256 : Int) ^ m = P at *
    rw [pkF, pkI, pk_stp v0 (by omega) (by omega) (by omega)]
    exact pkF_I n (m + 1) (s + 1) _ (by omega) (by omega) (by rw [e]; omega) (fun k a b => hf k (by omega) (by omega))
theorem wd_ch {s k : Int} (h0 : s ≤ k) (h1 : k < tkE tp t s) (w : tkK tp t s = 1) : 48 ≤ tp k ∧ tp k ≤ 122 := by
  have q : isL tp t s ∧ ¬ t ≤ s := by
    unfold tkK at w
    split at w
    · omega
    split at w
    · rename_i a b
      exact ⟨b, a⟩
    · split at w
      · split at w <;> split at w <;> omega
      · split at w <;> omega
  have e : tkE tp t s = wdF tp t 2400 s := by unfold tkE; rw [if_neg q.2, if_pos q.1]
  rw [e] at h1
  rcases wdF_all tp t 2400 s k h0 h1 with z | z
  · have := z.2; omega
  · have := z.2; omega
theorem wd_len {s : Int} (w : tkK tp t s = 1) (h0 : 0 ≤ s) (ht : t ≤ 2400) : 1 ≤ tkE tp t s - s ∧ tkE tp t s - s ≤ 8 := by
  have r := tkK_r (tp := tp) (t := t) (s := s)
  have g := tkE_gt (tp := tp) h0 (by omega) ht
  refine ⟨by omega, ?_⟩
  unfold tkK at w
  unfold tkE
  split at w
  · omega
  rename_i a
  rw [if_neg a]
  split at w
  · rename_i b
    rw [if_pos b]
    split at w
    · assumption
    · omega
  · split at w
    · split at w <;> split at w <;> omega
    · split at w <;> omega
theorem wrd_I {s : Int} (w : tkK tp t s = 1) (h0 : 0 ≤ s) (ht : t ≤ 2400) : wdT tp t s = pkI tp (tkE tp t s - s).toNat s 0 := by
  have l := wd_len w h0 ht
  refine pkF_I (tkE tp t s - s).toNat 0 s 0 (by omega) (by decide) (by decide) (fun k a b => ?_)
  have := wd_ch a (by omega) w
  omega
/-- the word at hand is this one -/
theorem wrd_eq {s : Int} {l : List Int} (w : tkK tp t s = 1) (h0 : 0 ≤ s) (ht : t ≤ 2400) (hl : ∀ q : Nat, q < l.length → 1 ≤ l.getD q 0 ∧ l.getD q 0 ≤ 127) : wdT tp t s = pkL l ↔ tkE tp t s - s = l.length ∧ ∀ k : Int, 0 ≤ k → k < l.length → tp (s + k) = l.getD k.toNat 0 := by
  have l1 := wd_len w h0 ht
  rw [wrd_I w h0 ht]
  have hf : ∀ k, s ≤ k → k < s + ((tkE tp t s - s).toNat : Nat) → 1 ≤ tp k ∧ tp k ≤ 255 := fun k a b => by
    have := wd_ch a (by omega) w
    omega
  have hg : ∀ k : Int, 0 ≤ k → k < 0 + (l.length : Int) → 1 ≤ (fun i : Int => l.getD i.toNat 0) k ∧ (fun i : Int => l.getD i.toNat 0) k ≤ 255 := fun k a b => by
    have := hl k.toNat (by omega)
    exact ⟨this.1, by have := this.2; show l.getD k.toNat 0 ≤ 255; omega⟩
  constructor
  · intro e
    have i := pkI_inj _ _ s 0 hf hg e
    refine ⟨by omega, fun k k0 k1 => ?_⟩
    have := i.2 k k0 (by omega)
    rw [this]
    show l.getD (0 + k).toNat 0 = l.getD k.toNat 0
    rw [Int.zero_add]
  · rintro ⟨a, b⟩
    have e : (tkE tp t s - s).toNat = l.length := by omega
    rw [e]
    unfold pkL
    have c : ∀ (n : Nat) (x y v : Int), (∀ k : Int, 0 ≤ k → k < n → tp (x + k) = (fun i : Int => l.getD i.toNat 0) (y + k)) → pkI tp n x v = pkI (fun i : Int => l.getD i.toNat 0) n y v := by
      intro n
      induction n with
      | zero => intro x y v _; rfl
      | succ n ih =>
        intro x y v h
        have h00 := h 0 (by decide) (by omega)
        rw [Int.add_zero, Int.add_zero] at h00
        rw [pkI, pkI, h00]
        exact ih (x + 1) (y + 1) _ (fun k a b => by
          have := h (k + 1) (by omega) (by omega)
          rw [show x + 1 + k = x + (k + 1) by omega, show y + 1 + k = y + (k + 1) by omega]
          exact this)
    refine c _ s 0 0 (fun k k0 k1 => ?_)
    show tp (s + k) = l.getD (0 + k).toNat 0
    rw [Int.zero_add]
    exact b k k0 k1
/-- the token at hand, on each side -/
def TKh (tp : Int → Int) (t s : Int) (h : HV) : Prop := (h 129 1 = t ∧ h 129 3 = -1 ∧ h 129 5 = s ∧ h 129 2 = tkE tp t s ∧ h 129 4 = tkK tp t s) ∧ (tkK tp t s = 1 → h 129 6 = wdT tp t s) ∧ (tkK tp t s = 2 → h 129 7 = nuV tp t s) ∧ (tkK tp t s = 3 → h 129 7 = nuW tp t s ∧ h 129 8 = nuF tp t s - (nuE tp t s + 1)) ∧ (tkK tp t s = 4 → h 129 9 = tp s % 256) ∧ h 227 = tp
def rlV (tp : Int → Int) (t s : Int) : Int := d_I (FP.ddiv (FP.l2d (Int64.ofInt (nuW tp t s))) (FP.l2d (Int64.ofInt (uF (nuF tp t s - (nuE tp t s + 1)).toNat))))
def TKf (tp : Int → Int) (t s fu : Int) (h : HV) : Prop := (h 6603 1 = t ∧ h 6603 7 = fu ∧ h 6603 3 = s ∧ h 6603 4 = tkE tp t s ∧ h 6603 2 = tkK tp t s) ∧ (tkK tp t s = 2 → h 6603 5 = nuV tp t s) ∧ (tkK tp t s = 3 → h 6603 6 = rlV tp t s) ∧ ∀ i, 0 ≤ i → i < t → h 6691 i = tp i
abbrev TKq (tp : Int → Int) (t s : Int) (h : HV) : Prop := TKf tp t s (-9) h
/-- the tape's bytes, and the place -/
def TOK (tp : Int → Int) (t s : Int) : Prop := (0 ≤ s ∧ s ≤ t ∧ t ≤ 2400) ∧ ∀ i, 0 ≤ i → i < t → -128 ≤ tp i ∧ tp i ≤ 127
theorem TOK.n {s : Int} (T : TOK tp t s) : TOK tp t (nxS tp t s) := by
  have T1 : 0 ≤ s ∧ s ≤ t ∧ t ≤ 2400 := T.1
  have a := tkE_b (tp := tp) T.1.2.1
  have b := nxS_b (tp := tp) T.1.2.1
  exact ⟨by omega, T.2⟩
theorem Sp_ex2 {fz : Int → Int → Option Int} {d m : Nat} {as : List AV} {h : HV} {v : Int} {P : HV → Prop} (g : Sp fz d m as h (fun x h1 => x = v ∧ P h1)) : ∃ h1, P h1 ∧ ∀ Q, Sp fz d m as h Q = Q v h1 := by
  obtain ⟨n, r, h', e, q1, q2⟩ := g
  refine ⟨h', q2, fun Q => ?_⟩
  subst q1
  exact G_det ⟨n, r, h', e, rfl, rfl⟩ Q
/-- the next token, class -/
theorem c_next {d : Nat} {h : HV} {s : Int} (T : TOK tp t s) (K : TKh tp t s h) (S : STR h (-51) SGL) : ∃ h1, (TKh tp t (nxS tp t s) h1 ∧ ∀ o, o ≠ 129 → h1 o = h o) ∧ ∀ Q, Sp fz1 (d + 8) 28 [(3, 129), (0, 1)] h Q = Q 0 h1 := by
  obtain ⟨⟨k1, k2, k3, k4, k5⟩, -, -, -, -, k6⟩ := K
  have T1 : 0 ≤ s ∧ s ≤ t ∧ t ≤ 2400 := T.1
  have b := tkE_b (tp := tp) T.1.2.1
  have bn := T.n
  refine Sp_ex2 (s28n (t := t) (by omega) (by decide) (by omega) k1 T.1.2.2 (by omega) (by omega) (by rw [k6]; exact T.2) S (fun h' C => ?_))
  rw [k6, k4] at C
  obtain ⟨c1, c2, c3, c4, c5, c6, c7, c8, c9, c10⟩ := C
  have e : wsF tp t 2400 (tkE tp t s) = nxS tp t s := rfl
  rw [e] at c4 c5 c6 c7 c8 c9 c10
  refine ⟨rfl, ⟨⟨by rw [c2, k1], by rw [c3, k2], c4, c5, c6⟩, c7, fun w => ?_, fun w => ?_, c10, by rw [c1 227 (by decide), k6]⟩, c1⟩
  · rw [c8 w]
    have := nuV_n (tp := tp) bn.1.2.1 w
    unfold w64
    omega
  · obtain ⟨a1, a2⟩ := c9 w
    have := nuW_n (tp := tp) bn.1.1 bn.1.2.1 T.1.2.2 w
    refine ⟨?_, a2⟩
    rw [a1]
    unfold w64
    omega
/-- the next token, reference -/
theorem r_next {d : Nat} {h : HV} {s : Int} (T : TOK tp t s) (K : TKq tp t s h) : ∃ h1, (TKq tp t (nxS tp t s) h1 ∧ (∀ o, o ≠ 6603 → h1 o = h o) ∧ ∀ i, i ≠ 2 → i ≠ 3 → i ≠ 4 → i ≠ 5 → i ≠ 6 → h1 6603 i = h 6603 i) ∧ ∀ Q, Sp fz1 (d + 2) 321 [(3, 6603)] h Q = Q 0 h1 := by
  obtain ⟨⟨k1, k2, k3, k4, k5⟩, -, -, k6⟩ := K
  have T1 : 0 ≤ s ∧ s ≤ t ∧ t ≤ 2400 := T.1
  have b := tkE_b (tp := tp) T.1.2.1
  have bn := T.n
  have e0 : ∀ i, 0 ≤ i → i < t → h 6691 i = tp i := k6
  refine Sp_ex2 (s321 (t := t) (by omega) k1 T.1.2.2 (by omega) (by omega) (fun h' C => ?_))
  rw [k4, wsF_c e0 2400 _ (by omega)] at C
  have e : wsF tp t 2400 (tkE tp t s) = nxS tp t s := rfl
  rw [e] at C
  obtain ⟨c1, c2, c3, c4, c5, c6, c7⟩ := C
  have n0 := bn.1.1
  rw [tkE_c e0 n0] at c4
  rw [tkK_c e0 n0] at c5 c6 c7
  have q : nuE (h 6691) t (nxS tp t s) = nuE tp t (nxS tp t s) := dgF_c e0 2400 _ n0
  have q0 : nxS tp t s ≤ nuE tp t (nxS tp t s) ∧ nuE tp t (nxS tp t s) ≤ t := nuE_b bn.1.2.1
  have q2 : nuF (h 6691) t (nxS tp t s) = nuF tp t (nxS tp t s) := by
    unfold nuF
    rw [q]
    exact dgF_c e0 2400 _ (by omega)
  have qV : nuV (h 6691) t (nxS tp t s) = nuV tp t (nxS tp t s) := by
    unfold nuV
    rw [q]
    exact dvF_c e0 _ _ _ n0 (by omega)
  refine ⟨rfl, ⟨⟨by rw [c2 1 (by decide) (by decide) (by decide) (by decide) (by decide), k1], by rw [c2 7 (by decide) (by decide) (by decide) (by decide) (by decide), k2], c3, c4, c5⟩, fun w => ?_, fun w => ?_, fun i a b => by rw [c1 6691 (by decide)]; exact k6 i a b⟩, c1, c2⟩
  · rw [c6 w, qV]
    have := nuV_n (tp := tp) bn.1.2.1 w
    unfold w32
    omega
  · have z := nuW_n (tp := tp) bn.1.1 bn.1.2.1 T.1.2.2 w
    have fb := nuF_b (tp := tp) (t := t) (s := nxS tp t s) (by have := z.1.1; omega)
    have qW : nuW (h 6691) t (nxS tp t s) = nuW tp t (nxS tp t s) := by
      unfold nuW
      rw [q, q2, qV]
      exact dvF_c e0 _ _ _ (by omega) (by omega)
    rw [c7 w, qW, q, q2]
    unfold rlV
    rw [show w64 (nuW tp t (nxS tp t s)) = nuW tp t (nxS tp t s) by unfold w64; omega]
end TK
