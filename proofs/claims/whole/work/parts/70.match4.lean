/-! THE PURE SIDE, 51: match, a round of the class is an offer of the pure machine: printed by wip/tools/gen70.py -/
theorem os_of {h K : HV} {p : Nat} {c : Int} (h24 : 0 ≤ h 836 4 ∧ h 836 4 ≤ 24) (hp : (p : Int) < h 836 4) (h1 : h 3232 p = -9) (h2 : 0 ≤ h 3296 p ∧ h 3296 p < h 3104 p) (hc : h 3040 ((p : Int) * 8 + h 3296 p) = c) (c0 : 0 ≤ c ∧ c < h (h 64 8 + 598) 5) (L : RLf h) (P0 : 0 ≤ h (h 64 8 + 1110) c)
    (A0 : ∀ x : Nat, (x : Int) < h 836 4 → 0 ≤ h 3296 x)
    (ka : ∀ x : Int, K 3296 x = if x = p then h 3296 p + 1 else h 3296 x)
    (I : OI (h 836 4).toNat (rcA h) (rkA h) (cpA h) (btA h) (abP h) (abA h))
    (out : (0 < h 3360 c ∧ ∀ x : Int, K 3232 x = if x = p then c else h 3232 x) ∨ (¬ 0 < h 3360 c ∧ (lsC h c < 0 ∨ bfF (fun q => h 3168 (q * 8 + c)) p (lsC h c) = 0) ∧ ∀ x : Int, K 3232 x = h 3232 x) ∨ (¬ 0 < h 3360 c ∧ 0 ≤ lsC h c ∧ bfF (fun q => h 3168 (q * 8 + c)) p (lsC h c) ≠ 0 ∧ ∀ x : Int, K 3232 x = if x = p then c else if x = lsC h c then -9 else h 3232 x)) :
    OS (h 836 4).toNat (rcA h) (rkA h) (cpA h) (btA h) (abP h) (abA h) (abP K) (abA K) := by
  have e : rkA h p (abA h p) = c := by
    unfold rkA abA
    rw [show (((h 3296 p).toNat : Nat) : Int) = h 3296 p by omega]
    exact hc
  have hdE : ((hd (h 836 4).toNat (abP h) c : Nat) : Int) = sumI (fun p => isE (h 3232 p) c) (h 836 4).toNat := hd_sum (pl := h 3232) (h 836 4).toNat
  have cpE : ((cpA h c : Nat) : Int) = h (h 64 8 + 1110) c := by unfold cpA; omega
  have LC := L c c0.1 c0.2
  have hle := I.2.2.1 c (by omega)
  have lm := lsF_max (pl := h 3232) (t := fun p => h 3168 (p * 8 + c)) (c := c) (h 836 4).toNat
  have lE : lsC h c = lsF (h 3232) (fun p => h 3168 (p * 8 + c)) c (h 836 4).toNat := rfl
  rw [← lE] at lm
  refine ⟨p, by omega, h1, by unfold abA rcA; omega, fun x hx => ?_, ?_⟩
  · unfold abA
    rw [ka]
    by_cases q : x = p
    · rw [if_pos (by omega), if_pos q]; omega
    · rw [if_neg (by omega), if_neg q]
  · rw [e]
    rcases out with ⟨o1, o2⟩ | ⟨o1, o2, o3⟩ | ⟨o1, o2, o3, o4⟩
    · refine .inl ⟨by omega, fun x hx => ?_⟩
      unfold abP
      rw [o2]
      by_cases q : x = p
      · rw [if_pos (by omega), if_pos q]
      · rw [if_neg (by omega), if_neg q]
    · refine .inr (.inl ⟨by omega, fun q hq hqc => ?_, fun x hx => o3 x⟩)
      unfold abP at hqc
      rcases lm with ⟨l1, l2⟩ | ⟨l1, l2, l3, l4⟩
      · exact absurd hqc (l2 q (by omega) (by omega))
      · have ob : bfF (fun q => h 3168 (q * 8 + c)) p (lsC h c) = 0 := o2.elim (fun w => by omega) id
        have nb : ¬ (h 3168 ((p : Int) * 8 + c) < h 3168 (lsC h c * 8 + c) ∨ h 3168 ((p : Int) * 8 + c) = h 3168 (lsC h c * 8 + c) ∧ (p : Int) < lsC h c) := fun w => (bf_iff (t := fun q => h 3168 (q * 8 + c))).2 w ob
        have npl : (p : Int) ≠ lsC h c := fun w => by rw [← w] at l3; omega
        have fq := l4 q (by omega) (by omega) hqc
        unfold btA
        rw [bf_iff]
        change (q : Int) = lsC h c ∨ (h 3168 ((q : Int) * 8 + c) < h 3168 (lsC h c * 8 + c) ∨ h 3168 ((q : Int) * 8 + c) = h 3168 (lsC h c * 8 + c) ∧ (q : Int) < lsC h c) at fq
        show h 3168 ((q : Int) * 8 + c) < h 3168 ((p : Int) * 8 + c) ∨ h 3168 ((q : Int) * 8 + c) = h 3168 ((p : Int) * 8 + c) ∧ (q : Int) < p
        rcases fq with fq | fq
        · rw [fq]; omega
        · omega
    · rcases lm with ⟨l1, l2⟩ | ⟨l1, l2, l3, l4⟩
      · omega
      · have wE : (((lsC h c).toNat : Nat) : Int) = lsC h c := by omega
        refine .inr (.inr ⟨by omega, (lsC h c).toNat, by omega, ?_, ?_, fun q hq hqc hqw => ?_, fun x hx => ?_⟩)
        · unfold abP; rw [wE]; exact l3
        · unfold btA; rw [wE]; exact o3
        · unfold abP at hqc
          rcases l4 q (by omega) (by omega) hqc with fq | fq
          · omega
          · unfold btA
            rw [wE, bf_iff]
            exact fq
        · unfold abP
          rw [o4]
          by_cases q : x = p
          · rw [if_pos (by omega), if_pos q]
          · rw [if_neg (by omega), if_neg q]
            by_cases q2 : x = (lsC h c).toNat
            · rw [if_pos (by omega), if_pos q2]
            · rw [if_neg (by omega), if_neg q2]
