/-! THE PURE SIDE, 88: whole from read, run and stand: printed by wip/tools/gen89r.py -/
theorem pure_of {RA : HV → Prop} (hs : ∀ (L : Nat) (xs : Nat → Int32), L ≤ 3584 → RA (HR (hI0 L xs) M_2 204 509953)) (hB : ∀ h, RA h → RB h) (hU : ∀ h h2, RA h → RB h2 → UF h h2 → RA h2)
    (oread : OpR RA 24 320 [(3, 64)] [(3, 6603)]) (orun : ∀ a b c e f g : Int, I32 c → I32 e → I32 f → I32 g → OpR RA 164 380 [(3, 64), (0, a), (0, b), (0, c), (0, e), (0, f), (0, g)] [(3, 6603), (0, a), (0, b), (0, c), (0, e), (0, f), (0, g)])
    (ostand : ∀ a b : Int, OpR RA 237 413 [(3, 64), (0, a), (0, b)] [(3, 6603), (0, a), (0, b)]) : PURE := by
  intro L xs hL
  refine ⟨1900, by decide, law1 (by decide) ?_⟩
  have e : HR (hI0 L xs) M_2 204 509953 50 (-1) = (L : Int) := by
    rw [HR_v (by decide)]
    have n : lk M_2 50 (-1) = none := by decide +kernel
    rw [n]
    rfl
  have hI : ∀ k, 0 ≤ k → k < (L : Int) → I32 (HR (hI0 L xs) M_2 204 509953 50 k) := by
    intro k k0 k1
    rw [HR_v (by decide)]
    have n : lk M_2 50 k = none := by
      cases hc : lk M_2 50 k with
      | none => rfl
      | some v => exact absurd rfl ((show ∀ q ∈ M_2, q.1 ≠ 50 by decide +kernel) _ (lk_some hc))
    rw [n]
    show I32 (hI0 L xs 50 k)
    unfold hI0
    rw [if_pos rfl, if_neg (by omega), if_pos ⟨k0, k1⟩]
    have a := (xs k.toNat).le_toInt
    have b := (xs k.toNat).toInt_lt
    unfold I32
    omega
  exact law_loop (L := L) ⟨by omega, by omega⟩ hB hU oread orun ostand L 0 _ (by decide) (by omega) (hs L xs hL) e hI
