/-! THE PURE SIDE, 54: match, all offers of the class: printed by wip/tools/gen73.py -/
theorem sum_lt {f : Int → Int} {p : Int} : ∀ n : Nat, (∀ x, 0 ≤ x → x < (n : Int) → f x ≤ 8) → sumI f n ≤ 8 * n ∧ (0 ≤ p → p < (n : Int) → f p < 8 → sumI f n ≤ 8 * n - 1)
  | 0, _ => ⟨by rw [sumI]; decide, fun a b _ => by omega⟩
  | n + 1, h => by
    have ih := sum_lt (f := f) (p := p) n (fun x a b => h x a (by omega))
    have hn := h n (by omega) (by omega)
    rw [sumI]
    refine ⟨by omega, fun a b c => ?_⟩
    by_cases e : p = n
    · rw [e] at c; omega
    · have := ih.2 a (by omega) c
      omega
/-- nobody has gone further than at any end -/
def OL (n : Nat) (rc : Nat → Nat) (rk : Nat → Nat → Int) (cap : Int → Nat) (bt : Int → Nat → Nat → Prop) (ak : Nat → Nat) : Prop := ∀ pl2 ak2, OI n rc rk cap bt pl2 ak2 → OE n rc pl2 ak2 → ∀ p, p < n → ak p ≤ ak2 p
/-- on the way of the class's offers -/
def CIn (h K : HV) (i : Int) : Prop := (∀ a, a ≠ 3232 → a ≠ 3296 → a ≠ 3360 → K a = h a) ∧ RLf K ∧ OI (h 836 4).toNat (rcA h) (rkA h) (cpA h) (btA h) (abP K) (abA K) ∧ (∀ x, 0 ≤ x → x < h 836 4 → 0 ≤ K 3296 x) ∧ sumI (K 3296) (h 836 4).toNat = i ∧ OL (h 836 4).toNat (rcA h) (rkA h) (cpA h) (btA h) (abA K) ∧ ∀ x, h 836 4 ≤ x → K 3232 x = h 3232 x
theorem lp283 {d : Nat} {h : HV} {Q : Int → HV → Prop} (h24 : 0 ≤ h 836 4 ∧ h 836 4 ≤ 24) (hT : TC (h 64 8)) (hm : h (h 64 8 + 598) 5 ≤ 8) (P0 : ∀ c, 0 ≤ c → c < h (h 64 8 + 598) 5 → 0 ≤ h (h 64 8 + 1110) c ∧ h (h 64 8 + 1110) c ≤ 1000)
    (F1 : ∀ p k : Int, 0 ≤ p → p < h 836 4 → 0 ≤ k → k < h 3104 p → 0 ≤ h 3040 (p * 8 + k) ∧ h 3040 (p * 8 + k) < h (h 64 8 + 598) 5) (F2 : ∀ p i j : Int, 0 ≤ p → p < h 836 4 → 0 ≤ i → i < j → j < h 3104 p → h 3040 (p * 8 + i) ≠ h 3040 (p * 8 + j)) (F3 : ∀ p : Int, 0 ≤ p → p < h 836 4 → 0 ≤ h 3104 p ∧ h 3104 p ≤ 8)
    (ex : ∀ (K : HV) (i : Int) (y : AV), CIn h K i → OE (h 836 4).toNat (rcA h) (abP K) (abA K) → G fz1 (d + 5) 283 3 [(3, 2953), (0, i), y] [] K Q) : ∀ (n : Nat) (i : Int) (K : HV) (y : AV), 0 ≤ i → i + n = 192 → CIn h K i → G fz1 (d + 5) 283 1 [(3, 2953), (0, i), y] [] K Q
  | 0, i, K, y, h0, he, I => by
    refine G_in ?_
    simp (implicitDefEqProofs := false) (disch := omega) only [b283_1, x_aload0, y_call286, x_goto_3, x_iconst, x_ifCond_ge_2, x_if_icmp_ge_3, x_iload1, x_iload2, x_istore2, klp_0, klp_1, klp_2, klp_3, klp_9, KC_0, KC_1, KC_2, KC_3, KC_4, ne_eq, not_false_eq_true, not_true_eq_false, true_and, and_true, and_self, implies_true, eq_self, true_imp_iff, false_implies, Int.reduceEq, Int.reduceNe, Int.reduceMod, Int.reduceMul, Int.reduceAdd, Int.reduceSub, Int.reduceLT, Int.reduceLE, Nat.reduceAdd, Nat.reduceLeDiff, Nat.reduceLT, Nat.reduceSub, reduceIte, wds_n, wds_0, wds_1, wds_2, wds_3, or_true, true_or, or_false, false_or, or_self, false_and, and_false, d_pos, d_s1, d_s2, d_s3, d_s4, d_s5, d_s6, d_s7, d_s8, Classical.not_not, le_T, le_F, lt_T, lt_F, w32_T]
    refine ex K i _ I (fun p hp hpl => ?_)
    obtain ⟨fr, L, I2, A0, S, O, bey⟩ := I
    have a1 := I2.2.1
    have s := (sum_lt (f := K 3296) (p := (p : Int)) (h 836 4).toNat (fun x x0 x1 => by
      have e1 := a1 x.toNat (by omega)
      have e2 := F3 x x0 (by omega)
      have e3 := A0 x x0 (by omega)
      unfold abA rcA at e1
      rw [show ((x.toNat : Nat) : Int) = x by omega] at e1
      omega)).2 (by omega) (by omega)
    have f3 := F3 p (by omega) (by omega)
    have a3 := A0 p (by omega) (by omega)
    unfold abA rcA
    have : ¬ K 3296 p < 8 := fun w => by have := s w; omega
    omega
  | n + 1, i, K, y, h0, he, I => by
    have I0 := I
    obtain ⟨fr, L, I2, A0, S, O, bey⟩ := I
    have T1 : h 64 8 + 598 ≠ 3232 ∧ h 64 8 + 598 ≠ 3296 ∧ h 64 8 + 598 ≠ 3360 := by rcases hT with w | w <;> omega
    have T2 : h 64 8 + 1110 ≠ 3232 ∧ h 64 8 + 1110 ≠ 3296 ∧ h 64 8 + 1110 ≠ 3360 := by rcases hT with w | w <;> omega
    have a64 : K 64 = h 64 := fr _ (by decide) (by decide) (by decide)
    have a836 : K 836 = h 836 := fr _ (by decide) (by decide) (by decide)
    have a3104 : K 3104 = h 3104 := fr _ (by decide) (by decide) (by decide)
    have a3040 : K 3040 = h 3040 := fr _ (by decide) (by decide) (by decide)
    have a3168 : K 3168 = h 3168 := fr _ (by decide) (by decide) (by decide)
    have aT : K (h 64 8 + 598) = h (h 64 8 + 598) := fr _ T1.1 T1.2.1 T1.2.2
    have aP : K (h 64 8 + 1110) = h (h 64 8 + 1110) := fr _ T2.1 T2.2.1 T2.2.2
    have r1 : rcA K = rcA h := by funext p; unfold rcA; rw [a3104]
    have r2 : rkA K = rkA h := by funext p k; unfold rkA; rw [a3040]
    have r3 : cpA K = cpA h := by funext c; unfold cpA; rw [a64, aP]
    have r4 : btA K = btA h := by funext c p q; unfold btA; rw [a3168]
    have hK24 : 0 ≤ K 836 4 ∧ K 836 4 ≤ 24 := by rw [a836]; exact h24
    have sp := faF_spec (h := K) (K 836 4).toNat 0 (by decide)
    rcases sp with ⟨e, f⟩ | ⟨e1, e2, e3, e4⟩
    · refine G_in ?_
      simp (implicitDefEqProofs := false) (disch := omega) only [b283_1, x_aload0, y_call286, x_goto_3, x_iconst, x_ifCond_ge_2, x_if_icmp_ge_3, x_iload1, x_iload2, x_istore2, klp_0, klp_1, klp_2, klp_3, klp_9, KC_0, KC_1, KC_2, KC_3, KC_4, ne_eq, not_false_eq_true, not_true_eq_false, true_and, and_true, and_self, implies_true, eq_self, true_imp_iff, false_implies, Int.reduceEq, Int.reduceNe, Int.reduceMod, Int.reduceMul, Int.reduceAdd, Int.reduceSub, Int.reduceLT, Int.reduceLE, Nat.reduceAdd, Nat.reduceLeDiff, Nat.reduceLT, Nat.reduceSub, reduceIte, wds_n, wds_0, wds_1, wds_2, wds_3, or_true, true_or, or_false, false_or, or_self, false_and, and_false, d_pos, d_s1, d_s2, d_s3, d_s4, d_s5, d_s6, d_s7, d_s8, Classical.not_not, s286 hK24, e, le_T, le_F, lt_T, lt_F, w32_T]
      refine ex K i _ I0 (fun p hp hpl => ?_)
      have fp := f p (by omega) (by rw [a836]; omega)
      unfold abP at hpl
      unfold rcA abA
      have : ¬ K 3296 p < K 3104 p := fun w => fp ⟨hpl, w⟩
      rw [a3104] at this
      omega
    · obtain ⟨p, hpe⟩ : ∃ p, faF K (K 836 4).toNat 0 = p := ⟨_, rfl⟩
      rw [hpe] at e1 e2 e3 e4
      have hp : 0 ≤ p ∧ p < h 836 4 := by rw [a836] at e2; omega
      have pA := A0 p hp.1 hp.2
      have f3 := F3 p hp.1 hp.2
      rw [a3104] at e4
      have f1 := F1 p (K 3296 p) hp.1 hp.2 pA e4
      refine rd283 (c := h 3040 (p * 8 + K 3296 p)) hK24 (by omega) (by rw [a3104]; exact f3.2) (by rw [a64, aT]; exact hm) L (fun c c0 c1 => by rw [a64, aT] at c1; rw [a64, aP]; exact P0 c c0 c1) hpe (by rw [a836]; exact hp) e3 (by rw [a3104]; exact ⟨pA, e4⟩) (by rw [a3040]) (fun K2 g1 g2 g3 g4 => ?_) (by rw [a64, aT]; exact f1) (by rw [a64]; exact T1) (by rw [a64]; exact T2)
      have pE : ((p.toNat : Nat) : Int) = p := by omega
      have os := os_of (h := K) (K := K2) (p := p.toNat) (c := h 3040 (p * 8 + K 3296 p)) hK24 (by rw [pE, a836]; exact hp.2) (by rw [pE]; exact e3) (by rw [pE, a3104]; exact ⟨pA, e4⟩) (by rw [pE, a3040]) (by rw [a64, aT]; exact f1) L (by rw [a64, aP]; exact (P0 _ f1.1 f1.2).1) (fun x hx => A0 x (by omega) (by rw [a836] at hx; exact hx)) (by rw [pE]; exact g2) (by rw [a836, r1, r2, r3, r4]; exact I2) (by rw [pE]; exact g4)
      rw [a836, r1, r2, r3, r4] at os
      have hrk9 : ∀ q k, q < (h 836 4).toNat → k < rcA h q → rkA h q k ≠ -9 := fun q k hq hk => by
        have := F1 q k (by omega) (by omega) (by omega) (by unfold rcA at hk; omega)
        unfold rkA
        omega
      refine lp283 h24 hT hm P0 F1 F2 F3 ex n (i + 1) K2 _ (by omega) (by omega) ⟨fun a q1 q2 q3 => by rw [g1 a q1 q2 q3, fr a q1 q2 q3], g3, ?_, fun x x0 x1 => ?_, ?_, ?_, fun x hx => ?_⟩
      · refine OI_step hrk9 (fun q k j hq hk hj hkj => ?_) (fun c a b e q1 q2 => bt_tr c a b e q1 q2) I2 os
        unfold rcA at hk hj
        unfold rkA at hkj
        rcases Nat.lt_trichotomy k j with w | w | w
        · exact absurd hkj (F2 q k j (by omega) (by omega) (by omega) (by omega) (by omega))
        · exact w
        · exact absurd hkj.symm (F2 q j k (by omega) (by omega) (by omega) (by omega) (by omega))
      · rw [g2]
        split
        · omega
        · exact A0 x x0 x1
      · rw [sumI_c (f := K2 3296) (g := fun x => if x = p then K 3296 p + 1 else K 3296 x) _ (fun x _ _ => g2 x), sumI_upd hp.1, if_pos (by omega), S]
        omega
      · exact fun pl2 ak2 w1 w2 => off_le hrk9 (fun c a b => bt_as c a b) w1 w2 I2 (O pl2 ak2 w1 w2) os
      · rw [← bey x hx]
        rcases g4 with ⟨_, g⟩ | ⟨_, _, g⟩ | ⟨_, _, _, g⟩
        · rw [g, if_neg (by omega)]
        · exact g x
        · have lb := lsF_b (pl := K 3232) (t := fun p_1 => K 3168 (p_1 * 8 + h 3040 (p * 8 + K 3296 p))) (c := h 3040 (p * 8 + K 3296 p)) (K 836 4).toNat
          have lE : lsC K (h 3040 (p * 8 + K 3296 p)) = lsF (K 3232) (fun p_1 => K 3168 (p_1 * 8 + h 3040 (p * 8 + K 3296 p))) (h 3040 (p * 8 + K 3296 p)) (K 836 4).toNat := rfl
          rw [← lE, a836] at lb
          rw [g, if_neg (by omega), if_neg (by omega)]
