/-! THE PURE SIDE, 55: match, the class's offers from the beginning: printed by wip/tools/gen74.py -/
theorem begH_ne {h : HV} {a : Int} (h1 : a ≠ 2953) (h2 : a ≠ 3232) (h3 : a ≠ 3296) : begH h a = h a := by
  unfold begH
  rw [fillH_ne h3, fillH_ne h2, hs_ne h1]
theorem begH_p {h : HV} {p : Int} (hp : 0 ≤ p ∧ p < 24) : begH h 3232 p = -9 := by
  unfold begH
  rw [fillH_ne (by decide), fillH_v, if_pos ⟨rfl, hp⟩]
theorem begH_a {h : HV} {p : Int} (hp : 0 ≤ p ∧ p < 24) : begH h 3296 p = 0 := by
  unfold begH
  rw [fillH_v, if_pos ⟨rfl, hp⟩]
theorem begH_m {h : HV} {i : Int} : begH h 2953 i = if i = 6 then 1 else h 2953 i := by
  unfold begH
  rw [fillH_ne (by decide), fillH_ne (by decide), hset_v]
  by_cases q : i = 6
  · rw [if_pos ⟨rfl, q⟩, if_pos q]
  · rw [if_neg (fun w => q w.2), if_neg q]
theorem sumI_z {f : Int → Int} : ∀ n : Nat, (∀ x, 0 ≤ x → x < (n : Int) → f x = 0) → sumI f n = 0
  | 0, _ => rfl
  | n + 1, h => by rw [sumI, sumI_z n (fun x a b => h x a (by omega)), h n (by omega) (by omega)]; rfl
theorem s283 {d : Nat} {h : HV} {Q : Int → HV → Prop} (X : RTx h) (h24 : 0 ≤ h 836 4 ∧ h 836 4 ≤ 24) (C : RPc h)
    (F1 : ∀ p k : Int, 0 ≤ p → p < h 836 4 → 0 ≤ k → k < h 3104 p → 0 ≤ h 3040 (p * 8 + k) ∧ h 3040 (p * 8 + k) < h (h 64 8 + 598) 5) (F2 : ∀ p i j : Int, 0 ≤ p → p < h 836 4 → 0 ≤ i → i < j → j < h 3104 p → h 3040 (p * 8 + i) ≠ h 3040 (p * 8 + j)) (F3 : ∀ p : Int, 0 ≤ p → p < h 836 4 → 0 ≤ h 3104 p ∧ h 3104 p ≤ 8)
    (hQ : ∀ (K : HV) (i : Int), CIn (begH h) K i → OE (h 836 4).toNat (rcA (begH h)) (abP K) (abA K) → Q (plN (K 3232) (h 836 4).toNat) K) : Sp fz1 (d + 5) 283 [(3, 2953)] h Q := by
  have T1 : h 64 8 + 598 ≠ 2953 ∧ h 64 8 + 598 ≠ 3232 ∧ h 64 8 + 598 ≠ 3296 ∧ h 64 8 + 598 ≠ 3360 := by rcases X.1 with w | w <;> omega
  have T2 : h 64 8 + 1110 ≠ 2953 ∧ h 64 8 + 1110 ≠ 3232 ∧ h 64 8 + 1110 ≠ 3296 ∧ h 64 8 + 1110 ≠ 3360 := by rcases X.1 with w | w <;> omega
  have T3 : h 6603 9 + 84 ≠ 2953 ∧ h 6603 9 + 84 ≠ 3232 ∧ h 6603 9 + 84 ≠ 3296 := by rcases X.2.1 with w | w <;> omega
  have T4 : h 6603 9 + 724 ≠ 2953 ∧ h 6603 9 + 724 ≠ 3232 ∧ h 6603 9 + 724 ≠ 3296 := by rcases X.2.1 with w | w <;> omega
  have b64 : begH h 64 = h 64 := begH_ne (by decide) (by decide) (by decide)
  have b836 : begH h 836 = h 836 := begH_ne (by decide) (by decide) (by decide)
  have b6603 : begH h 6603 = h 6603 := begH_ne (by decide) (by decide) (by decide)
  have b3104 : begH h 3104 = h 3104 := begH_ne (by decide) (by decide) (by decide)
  have b3040 : begH h 3040 = h 3040 := begH_ne (by decide) (by decide) (by decide)
  have bT : begH h (h 64 8 + 598) = h (h 64 8 + 598) := begH_ne T1.1 T1.2.1 T1.2.2.1
  have bP : begH h (h 64 8 + 1110) = h (h 64 8 + 1110) := begH_ne T2.1 T2.2.1 T2.2.2.1
  have XB : RTx (begH h) := by
    unfold RTx
    rw [b64, b6603, bT, begH_ne T3.1 T3.2.1 T3.2.2]
    exact X
  have CB : RPc (begH h) := by
    unfold RPc
    rw [b64, b6603, bT, bP, b836, begH_ne T4.1 T4.2.1 T4.2.2, begH_m, if_neg (by decide)]
    exact ⟨C.1, C.2.1, fun p p0 p1 => .inl (begH_p (by omega))⟩
  have hB : 0 ≤ begH h 836 4 ∧ begH h 836 4 ≤ 24 := by rw [b836]; exact h24
  have X5 := rtx_5 X
  simp (implicitDefEqProofs := false) (disch := omega) only [sp283, b283_0, b283_1, b283_2, b283_3, q283_2, q283_3, x_aload0, y_call274, y_call284, y_call286, y_call287, y_call292, x_dup203, x_dup21, x_gc_9275, x_goto_1, x_goto_3, x_iadd, x_iaload, x_iastore, x_iconst, x_ifCond_ge_2, x_if_icmp_ge_3, x_iinc1, x_iload1, x_iload2, x_ireturn, x_istore1, x_istore2, klp_0, klp_1, klp_2, klp_3, klp_9, KC_0, KC_1, KC_2, KC_3, KC_4, ne_eq, not_false_eq_true, not_true_eq_false, true_and, and_true, and_self, implies_true, eq_self, true_imp_iff, false_implies, Int.reduceEq, Int.reduceNe, Int.reduceMod, Int.reduceMul, Int.reduceAdd, Int.reduceSub, Int.reduceLT, Int.reduceLE, Nat.reduceAdd, Nat.reduceLeDiff, Nat.reduceLT, Nat.reduceSub, reduceIte, wds_n, wds_0, wds_1, wds_2, wds_3, or_true, true_or, or_false, false_or, or_self, false_and, and_false, d_pos, d_s1, d_s2, d_s3, d_s4, d_s5, d_s6, d_s7, d_s8, Classical.not_not, s284 XB hB CB rfl]
  have e : ∀ a, a ≠ 3360 → lfH (begH h) (begH h (begH h 64 8 + 598) 5) (begH h 836 4).toNat a = begH h a := fun a ha => lfH_ne ha
  have L : RLf (lfH (begH h) (begH h (begH h 64 8 + 598) 5) (begH h 836 4).toNat) := by
    unfold RLf
    rw [e 64 (by decide), e (begH h 64 8 + 598) (by rw [b64]; exact T1.2.2.2), e (begH h 64 8 + 1110) (by rw [b64]; exact T2.2.2.2), e 836 (by decide), e 3232 (by decide)]
    intro c c0 c1
    rw [lfH_v, if_pos ⟨rfl, c0, c1⟩]
  refine lp283 (h := begH h) hB XB.1 (by rw [b64, bT]; exact X5.2.2) (fun c c0 c1 => by rw [b64, bT] at c1; rw [b64, bP]; exact ⟨(C.2.1 c c0 c1).1, (C.2.1 c c0 c1).2.1⟩) (by rw [b836, b3104, b3040, b64, bT]; exact F1) (by rw [b836, b3104, b3040]; exact F2) (by rw [b836, b3104]; exact F3) (fun K i y I E => ?_) 192 0 _ _ (by decide) (by decide) ⟨fun a q1 q2 q3 => e a q3, L, OI_0 _ _ (fun p hp => ?_) (fun p hp => ?_), fun x x0 x1 => ?_, ?_, fun pl2 ak2 _ _ p hp => ?_, fun x hx => by rw [e 3232 (by decide)]⟩
  · have K836 : K 836 = h 836 := by rw [I.1 _ (by decide) (by decide) (by decide), b836]
    have hK : 0 ≤ K 836 4 ∧ K 836 4 ≤ 24 := by rw [K836]; exact h24
    refine G_in ?_
    simp (implicitDefEqProofs := false) (disch := omega) only [b283_3, q283_3, x_aload0, y_call292, x_ireturn, klp_0, klp_1, klp_2, klp_3, klp_9, KC_0, KC_1, KC_2, KC_3, KC_4, ne_eq, not_false_eq_true, not_true_eq_false, true_and, and_true, and_self, implies_true, eq_self, true_imp_iff, false_implies, Int.reduceEq, Int.reduceNe, Int.reduceMod, Int.reduceMul, Int.reduceAdd, Int.reduceSub, Int.reduceLT, Int.reduceLE, Nat.reduceAdd, Nat.reduceLeDiff, Nat.reduceLT, Nat.reduceSub, reduceIte, wds_n, wds_0, wds_1, wds_2, wds_3, or_true, true_or, or_false, false_or, or_self, false_and, and_false, d_pos, d_s1, d_s2, d_s3, d_s4, d_s5, d_s6, d_s7, d_s8, Classical.not_not, s292 hK, K836]
    rw [b836] at E
    exact hQ K i I E
  · unfold abP
    rw [e 3232 (by decide)]
    exact begH_p (by rw [b836] at hp; omega)
  · unfold abA
    rw [e 3296 (by decide), begH_a (by rw [b836] at hp; omega)]
    rfl
  · rw [e 3296 (by decide), begH_a (by rw [b836] at x1; omega)]
    decide
  · rw [e 3296 (by decide)]
    exact sumI_z _ (fun x x0 x1 => begH_a (by rw [b836] at x1; omega))
  · have : abA (lfH (begH h) (begH h (begH h 64 8 + 598) 5) (begH h 836 4).toNat) p = 0 := by
      unfold abA
      rw [e 3296 (by decide), begH_a (by rw [b836] at hp; omega)]
      rfl
    omega
