/-! THE PURE SIDE, 53: match, a round of the class: printed by wip/tools/gen72.py -/
theorem faF_spec {h : HV} : ∀ (n : Nat) (r : Int), 0 ≤ r → (faF h n r = -1 ∧ ∀ x, r ≤ x → x < r + n → ¬ (h 3232 x = -9 ∧ h 3296 x < h 3104 x)) ∨ (r ≤ faF h n r ∧ faF h n r < r + n ∧ h 3232 (faF h n r) = -9 ∧ h 3296 (faF h n r) < h 3104 (faF h n r))
  | 0, r, _ => .inl ⟨rfl, fun x a b => by omega⟩
  | n + 1, r, h0 => by
    rw [faF]
    by_cases q : h 3232 r = -9 ∧ h 3296 r < h 3104 r
    · rw [if_pos q]
      exact .inr ⟨Int.le_refl _, by omega, q⟩
    · rw [if_neg q]
      rcases faF_spec (h := h) n (r + 1) (by omega) with ⟨e, f⟩ | ⟨e1, e2, e3⟩
      · refine .inl ⟨e, fun x a b => ?_⟩
        by_cases e4 : x = r
        · rw [e4]; exact q
        · exact f x (by omega) (by omega)
      · exact .inr ⟨by omega, by omega, e3⟩
theorem rd283 {d : Nat} {h : HV} {Q : Int → HV → Prop} {i p : Int} {y : AV} (h24 : 0 ≤ h 836 4 ∧ h 836 4 ≤ 24) (hi : 0 ≤ i ∧ i < 192) (rc8 : h 3104 p ≤ 8) (hm : h (h 64 8 + 598) 5 ≤ 8) (L : RLf h) (P0 : ∀ c, 0 ≤ c → c < h (h 64 8 + 598) 5 → 0 ≤ h (h 64 8 + 1110) c ∧ h (h 64 8 + 1110) c ≤ 1000)
    (hf : faF h (h 836 4).toNat 0 = p) (hp : 0 ≤ p ∧ p < h 836 4) (h1 : h 3232 p = -9) (A0 : 0 ≤ h 3296 p ∧ h 3296 p < h 3104 p) {c : Int} (hcc : h 3040 (p * 8 + h 3296 p) = c)
    (nx : ∀ K : HV, (∀ a, a ≠ 3232 → a ≠ 3296 → a ≠ 3360 → K a = h a) → (∀ x : Int, K 3296 x = if x = p then h 3296 p + 1 else h 3296 x) → RLf K →
      ((0 < h 3360 c ∧ ∀ x : Int, K 3232 x = if x = p then c else h 3232 x) ∨ (¬ 0 < h 3360 c ∧ (lsC h c < 0 ∨ bfF (fun q => h 3168 (q * 8 + c)) p (lsC h c) = 0) ∧ ∀ x : Int, K 3232 x = h 3232 x) ∨ (¬ 0 < h 3360 c ∧ 0 ≤ lsC h c ∧ bfF (fun q => h 3168 (q * 8 + c)) p (lsC h c) ≠ 0 ∧ ∀ x : Int, K 3232 x = if x = p then c else if x = lsC h c then -9 else h 3232 x)) →
      G fz1 (d + 5) 283 1 [(3, 2953), (0, i + 1), (0, p)] [] K Q) : 0 ≤ c ∧ c < h (h 64 8 + 598) 5 → (h 64 8 + 598 ≠ 3232 ∧ h 64 8 + 598 ≠ 3296 ∧ h 64 8 + 598 ≠ 3360) → (h 64 8 + 1110 ≠ 3232 ∧ h 64 8 + 1110 ≠ 3296 ∧ h 64 8 + 1110 ≠ 3360) → G fz1 (d + 5) 283 1 [(3, 2953), (0, i), y] [] h Q := by
  intro cr T1 T2

  have p24 : 0 ≤ p ∧ p < 24 := by omega
  have hA : 0 ≤ h 3296 p ∧ h 3296 p < h 3104 p := A0
  have c8 : 0 ≤ c ∧ c < 8 := by omega
  have LC := L c cr.1 cr.2
  have PC := P0 c cr.1 cr.2
  have sb := sumI_b (f := fun p => isE (h 3232 p) c) (fun i => isE_b _ _) (h 836 4).toNat
  have lm := lsF_max (pl := h 3232) (t := fun p => h 3168 (p * 8 + c)) (c := c) (h 836 4).toNat
  have lE : lsF (h 3232) (fun p => h 3168 (p * 8 + c)) c (h 836 4).toNat = lsC h c := rfl
  rw [lE] at lm
  refine G_in ?_
  by_cases h0 : 0 < h 3360 c
  · have hl : 0 < h 3360 c ∧ h 3360 c ≤ 1000 := by omega
    simp (implicitDefEqProofs := false) (disch := omega) only [b283_1, b283_2, q283_2, x_aload0, y_call274, y_call286, y_call287, x_dup203, x_dup21, x_gc_9275, x_goto_1, x_goto_3, x_iadd, x_iaload, x_iastore, x_iconst, x_ifCond_ge_2, x_if_icmp_ge_3, x_iinc1, x_iload1, x_iload2, x_istore2, klp_0, klp_1, klp_2, klp_3, klp_9, KC_0, KC_1, KC_2, KC_3, KC_4, ne_eq, not_false_eq_true, not_true_eq_false, true_and, and_true, and_self, implies_true, eq_self, true_imp_iff, false_implies, Int.reduceEq, Int.reduceNe, Int.reduceMod, Int.reduceMul, Int.reduceAdd, Int.reduceSub, Int.reduceLT, Int.reduceLE, Nat.reduceAdd, Nat.reduceLeDiff, Nat.reduceLT, Nat.reduceSub, reduceIte, wds_n, wds_0, wds_1, wds_2, wds_3, or_true, true_or, or_false, false_or, or_self, false_and, and_false, d_pos, d_s1, d_s2, d_s3, d_s4, d_s5, d_s6, d_s7, d_s8, Classical.not_not, z2953_7, z3296_l, s286 h24, hf, s274 p24 hA rc8, hcc, hs_ne, s287a h24 p24 c8 hl, le_T, le_F, lt_T, lt_F, w32_T]
    have e1 : ∀ x : Int, hset (hset (hset h 3232 p c) 3360 c (h 3360 c - 1)) 3296 p (h 3296 p + 1) 3232 x = if x = p then c else h 3232 x := fun x => by
      rw [hs_ne (by decide), hs_ne (by decide), hset_v]
      by_cases q : x = p
      · rw [if_pos ⟨rfl, q⟩, if_pos q]
      · rw [if_neg (fun w => q w.2), if_neg q]
    have e2 : ∀ x : Int, hset (hset (hset h 3232 p c) 3360 c (h 3360 c - 1)) 3296 p (h 3296 p + 1) 3360 x = if x = c then h 3360 c - 1 else h 3360 x := fun x => by
      rw [hs_ne (by decide), hset_v, hs_ne (by decide)]
      by_cases q : x = c
      · rw [if_pos ⟨rfl, q⟩, if_pos q]
      · rw [if_neg (fun w => q w.2), if_neg q]
    have fr : ∀ a, a ≠ 3232 → a ≠ 3296 → a ≠ 3360 → hset (hset (hset h 3232 p c) 3360 c (h 3360 c - 1)) 3296 p (h 3296 p + 1) a = h a := fun a q1 q2 q3 => by rw [hs_ne q2, hs_ne q3, hs_ne q1]
    refine nx _ fr (fun x => ?_) (RLf_a L h24 hp h1 (fr _ (by decide) (by decide) (by decide)) (fr _ (by decide) (by decide) (by decide)) (fr _ T1.1 T1.2.1 T1.2.2) (fr _ T2.1 T2.2.1 T2.2.2) e1 e2) (.inl ⟨h0, e1⟩)
    rw [hset_v, hs_ne (by decide), hs_ne (by decide)]
    by_cases q : x = p
    · rw [if_pos ⟨rfl, q⟩, if_pos q]
    · rw [if_neg (fun w => q w.2), if_neg q]
  · have same : ∀ K : HV, K = hset h 3296 p (h 3296 p + 1) → (lsC h c < 0 ∨ bfF (fun q => h 3168 (q * 8 + c)) p (lsC h c) = 0) → G fz1 (d + 5) 283 1 [(3, 2953), (0, i + 1), (0, p)] [] K Q := fun K hK hb => by
      subst hK
      have fr : ∀ a, a ≠ 3296 → hset h 3296 p (h 3296 p + 1) a = h a := fun a q2 => hs_ne q2
      refine nx _ (fun a _ q2 _ => fr a q2) (fun x => ?_) ?_ (.inr (.inl ⟨h0, hb, fun x => by rw [fr _ (by decide)]⟩))
      · rw [hset_v]
        by_cases q : x = p
        · rw [if_pos ⟨rfl, q⟩, if_pos q]
        · rw [if_neg (fun w => q w.2), if_neg q]
      · unfold RLf
        rw [fr 64 (by decide), fr 836 (by decide), fr _ T1.2.1, fr _ T2.2.1, fr 3360 (by decide), fr 3232 (by decide)]
        exact L
    by_cases l0 : lsC h c < 0
    · simp (implicitDefEqProofs := false) (disch := omega) only [b283_1, b283_2, q283_2, x_aload0, y_call274, y_call286, y_call287, x_dup203, x_dup21, x_gc_9275, x_goto_1, x_goto_3, x_iadd, x_iaload, x_iastore, x_iconst, x_ifCond_ge_2, x_if_icmp_ge_3, x_iinc1, x_iload1, x_iload2, x_istore2, klp_0, klp_1, klp_2, klp_3, klp_9, KC_0, KC_1, KC_2, KC_3, KC_4, ne_eq, not_false_eq_true, not_true_eq_false, true_and, and_true, and_self, implies_true, eq_self, true_imp_iff, false_implies, Int.reduceEq, Int.reduceNe, Int.reduceMod, Int.reduceMul, Int.reduceAdd, Int.reduceSub, Int.reduceLT, Int.reduceLE, Nat.reduceAdd, Nat.reduceLeDiff, Nat.reduceLT, Nat.reduceSub, reduceIte, wds_n, wds_0, wds_1, wds_2, wds_3, or_true, true_or, or_false, false_or, or_self, false_and, and_false, d_pos, d_s1, d_s2, d_s3, d_s4, d_s5, d_s6, d_s7, d_s8, Classical.not_not, z2953_7, z3296_l, s286 h24, hf, s274 p24 hA rc8, hcc, hs_ne, s287b h24 p24 c8 h0 lE l0, le_T, le_F, lt_T, lt_F, w32_T]
      exact same _ rfl (.inl l0)
    · have l24 : 0 ≤ lsC h c ∧ lsC h c < 24 := by omega
      by_cases hb : bfF (fun q => h 3168 (q * 8 + c)) p (lsC h c) = 0
      · simp (implicitDefEqProofs := false) (disch := omega) only [b283_1, b283_2, q283_2, x_aload0, y_call274, y_call286, y_call287, x_dup203, x_dup21, x_gc_9275, x_goto_1, x_goto_3, x_iadd, x_iaload, x_iastore, x_iconst, x_ifCond_ge_2, x_if_icmp_ge_3, x_iinc1, x_iload1, x_iload2, x_istore2, klp_0, klp_1, klp_2, klp_3, klp_9, KC_0, KC_1, KC_2, KC_3, KC_4, ne_eq, not_false_eq_true, not_true_eq_false, true_and, and_true, and_self, implies_true, eq_self, true_imp_iff, false_implies, Int.reduceEq, Int.reduceNe, Int.reduceMod, Int.reduceMul, Int.reduceAdd, Int.reduceSub, Int.reduceLT, Int.reduceLE, Nat.reduceAdd, Nat.reduceLeDiff, Nat.reduceLT, Nat.reduceSub, reduceIte, wds_n, wds_0, wds_1, wds_2, wds_3, or_true, true_or, or_false, false_or, or_self, false_and, and_false, d_pos, d_s1, d_s2, d_s3, d_s4, d_s5, d_s6, d_s7, d_s8, Classical.not_not, z2953_7, z3296_l, s286 h24, hf, s274 p24 hA rc8, hcc, hs_ne, s287c h24 p24 c8 h0 lE l24 hb, le_T, le_F, lt_T, lt_F, w32_T]
        exact same _ rfl (.inr hb)
      · simp (implicitDefEqProofs := false) (disch := omega) only [b283_1, b283_2, q283_2, x_aload0, y_call274, y_call286, y_call287, x_dup203, x_dup21, x_gc_9275, x_goto_1, x_goto_3, x_iadd, x_iaload, x_iastore, x_iconst, x_ifCond_ge_2, x_if_icmp_ge_3, x_iinc1, x_iload1, x_iload2, x_istore2, klp_0, klp_1, klp_2, klp_3, klp_9, KC_0, KC_1, KC_2, KC_3, KC_4, ne_eq, not_false_eq_true, not_true_eq_false, true_and, and_true, and_self, implies_true, eq_self, true_imp_iff, false_implies, Int.reduceEq, Int.reduceNe, Int.reduceMod, Int.reduceMul, Int.reduceAdd, Int.reduceSub, Int.reduceLT, Int.reduceLE, Nat.reduceAdd, Nat.reduceLeDiff, Nat.reduceLT, Nat.reduceSub, reduceIte, wds_n, wds_0, wds_1, wds_2, wds_3, or_true, true_or, or_false, false_or, or_self, false_and, and_false, d_pos, d_s1, d_s2, d_s3, d_s4, d_s5, d_s6, d_s7, d_s8, Classical.not_not, z2953_7, z3296_l, s286 h24, hf, s274 p24 hA rc8, hcc, hs_ne, s287d h24 p24 c8 h0 lE l24 hb, le_T, le_F, lt_T, lt_F, w32_T]
        have lm2 : h 3232 (lsC h c) = c := by omega
        have e1 : ∀ x : Int, hset (hset (hset h 3232 (lsC h c) (-9)) 3232 p c) 3296 p (h 3296 p + 1) 3232 x = if x = p then c else if x = lsC h c then -9 else h 3232 x := fun x => by
          rw [hs_ne (by decide), hset_v, hset_v]
          by_cases q : x = p
          · rw [if_pos ⟨rfl, q⟩, if_pos q]
          · rw [if_neg (fun w => q w.2), if_neg q]
            by_cases q2 : x = lsC h c
            · rw [if_pos ⟨rfl, q2⟩, if_pos q2]
            · rw [if_neg (fun w => q2 w.2), if_neg q2]
        have fr : ∀ a, a ≠ 3232 → a ≠ 3296 → hset (hset (hset h 3232 (lsC h c) (-9)) 3232 p c) 3296 p (h 3296 p + 1) a = h a := fun a q1 q2 => by rw [hs_ne q2, hs_ne q1, hs_ne q1]
        refine nx _ (fun a q1 q2 _ => fr a q1 q2) (fun x => ?_) (RLf_d (w := lsC h c) L h24 hp (by omega) (fun w => by rw [← w] at lm2; omega) h1 lm2 (fr _ (by decide) (by decide)) (fr _ (by decide) (by decide)) (fr _ T1.1 T1.2.1) (fr _ T2.1 T2.2.1) e1 (fr _ (by decide) (by decide))) (.inr (.inr ⟨h0, by omega, hb, e1⟩))
        rw [hset_v, hs_ne (by decide), hs_ne (by decide)]
        by_cases q : x = p
        · rw [if_pos ⟨rfl, q⟩, if_pos q]
        · rw [if_neg (fun w => q w.2), if_neg q]
