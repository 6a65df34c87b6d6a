/-! THE PURE SIDE, 2: what is to be shown of every script -/
/-- the law's room: what a run may make -/
def PURE : Prop := ∀ (L : Nat) (xs : Nat → Int32), L ≤ 3584 → ∃ d : Nat, d ≤ 2000 ∧ Sp f0 d 0 [(3, 50)] (hI0 L xs) (fun r h => r = 1 ∧ h 0 0 ≤ 600001 ∧ h 0 1 ≤ 7302250)
set_option maxRecDepth 100000 in
theorem hNBall : ∀ k, k < 445 → 0 < (hk k).length := by decide +kernel
theorem start_of {p : Program} {e : Env} {s : State} {m : MethodId} {below : List Frame} {meth : Method} {c : Code} (hP : PURE) (hOB : ∀ k, k < 445 → OKB k) (hOM : ∀ k, 0 < k → k < 445 → OM k) (l : Launch) {b L : Nat} {xs : Nat → Int32} (hL : L ≤ 3584) (C0 : lw_At p s m meth c b L xs) : W p l e room_1 s m #[Value.ref b] below meth c s.heap [] 0 0 (lw_Z below #[Value.ref b] s) (entryFrame m ([Value.ref b] : List Value).toArray 4) := by
  obtain ⟨d, hd, n, r, hE, hrun, hr, h1, h2⟩ := hP L xs hL
  subst hr
  exact law_walk l hL C0 FZ_f0 hOB hNBall hOM hd hrun h1 h2
