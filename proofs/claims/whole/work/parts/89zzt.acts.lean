/-! THE PURE SIDE, 142: acts and blocks on both sides: printed by wip/tools/gen89zzt.py -/
def XB (x : CX) (f t : Int) : Prop := ∀ e ∈ x, (e.2.1 = -1 → e.1 < f) ∧ (e.2.1 ≠ -1 → e.1 < t)
theorem XB.mono {x : CX} {f t f2 t2 : Int} (h : XB x f t) (a : f ≤ f2) (b : t ≤ t2) : XB x f2 t2 := fun e m => ⟨fun w => Int.lt_of_lt_of_le ((h e m).1 w) a, fun w => Int.lt_of_lt_of_le ((h e m).2 w) b⟩
theorem XB.cons {x : CX} {e : Int × Int × Int × Int} {f t f2 t2 : Int} (h : XB x f t) (a : f ≤ f2) (b : t ≤ t2) (c : (e.2.1 = -1 → e.1 < f2) ∧ (e.2.1 ≠ -1 → e.1 < t2)) : XB (e :: x) f2 t2 := fun e2 m => by
  cases m with
  | head => exact c
  | tail _ m => exact h.mono a b e2 m
theorem RKx.cons {k k2 : Int} {x : CX} {e : Int × Int × Int × Int} (h : RKx k x) (l : k ≤ k2) (c : e.2.1 ≠ -1 → e.2.2.1 + 12 - 4 * e.2.1 ≤ k2) : RKx k2 (e :: x) := fun e2 m w => by
  cases m with
  | head => exact c w
  | tail _ m => exact h.mono l e2 m w
section PC
variable {K : HV} {V CL : Int → Int → Prop} {P : PT} {c r : Int} {x : CX} {E k : Int} {n : Nat}
theorem m_STEP {j : Int} (hc : 0 ≤ c ∧ c < 2400) (hr : 0 ≤ r ∧ r < 6000) (a1 : K 0 c = 1) (a2 : K 1 r = 0) (hk : 1 ≤ k ∧ k ≤ 399) (hx : x.length ≤ 12) (hR : RKx k x) (M : MEM K V CL n (c + 1) (r + 1) x 0 j) : MEM K V CL n c r x 0 k := by
  cases n with
  | zero => trivial
  | succ n => exact i_STEP ⟨⟨hc, hr⟩, hk, by omega, hx, hR⟩ ⟨a1, a2, rfl, j, MEM.down _ _ _ _ _ _ M⟩
theorem m_SET (hc : 0 ≤ c ∧ c < 2400) (hr : 0 ≤ r ∧ r < 6000) (a1 : K 0 c = 6) (a2 : K 1 r = 5) (a3 : V (K 0 (c + 1)) r) (hk : 1 ≤ k ∧ k ≤ 399) (hx : x.length ≤ 12) (hR : RKx k x) (M : MEM K V CL n (c + 2) (r + 1) x 0 (k - 1)) : MEM K V CL n c r x 1 k := by
  cases n with
  | zero => trivial
  | succ n => exact i_SET ⟨⟨hc, hr⟩, hk, by omega, hx, hR⟩ ⟨a1, a2, a3, rfl, MEM.down _ _ _ _ _ _ M⟩
theorem m_SETITEM (hc : 0 ≤ c ∧ c < 2400) (hr : 0 ≤ r ∧ r < 6000) (a1 : K 0 c = 7) (a2 : K 1 r = 6) (a3 : V (K 0 (c + 1)) r) (hk : 1 ≤ k ∧ k ≤ 399) (hx : x.length ≤ 12) (hR : RKx k x) (M : MEM K V CL n (c + 2) (r + 1) x 0 (k - 1)) : MEM K V CL n c r x 2 k := by
  cases n with
  | zero => trivial
  | succ n => exact i_SETITEM ⟨⟨hc, hr⟩, hk, by omega, hx, hR⟩ ⟨a1, a2, a3, rfl, MEM.down _ _ _ _ _ _ M⟩
theorem m_GIVE (hc : 0 ≤ c ∧ c < 2400) (hr : 0 ≤ r ∧ r < 6000) (a1 : K 0 c = 14) (a2 : K 1 r = 27) (hk : 1 ≤ k ∧ k ≤ 399) (hx : x.length ≤ 12) (hR : RKx k x) : MEM K V CL n c r x 1 k := by
  cases n with
  | zero => trivial
  | succ n => exact i_GIVE ⟨⟨hc, hr⟩, hk, by omega, hx, hR⟩ ⟨a1, a2, rfl⟩
theorem m_RAISE (hc : 0 ≤ c ∧ c < 2400) (hr : 0 ≤ r ∧ r < 6000) (a1 : K 0 c = 19) (a2 : K 1 r = 26) (a3 : K 2 r = K 0 (c + 1)) (a4 : 1 ≤ K 0 (c + 1) ∧ K 0 (c + 1) ≤ 7) (hk : 1 ≤ k ∧ k ≤ 399) (hx : x.length ≤ 12) (hR : RKx k x) : MEM K V CL n c r x 0 k := by
  cases n with
  | zero => trivial
  | succ n => exact i_RAISE ⟨⟨hc, hr⟩, hk, by omega, hx, hR⟩ ⟨a1, a2, rfl, a3, a4⟩
theorem m_END (hc : 0 ≤ c ∧ c < 2400) (hr : 0 ≤ r ∧ r < 6000) (a1 : K 0 c = 0) (a2 : K 1 r = 29) (hk : 1 ≤ k ∧ k ≤ 399) (hx : x.length ≤ 12) (hR : RKx k x) : MEM K V CL n c r x 0 k := by
  cases n with
  | zero => trivial
  | succ n => exact i_END ⟨⟨hc, hr⟩, hk, by omega, hx, hR⟩ ⟨a1, a2, rfl⟩
theorem m_COPY (hc : 0 ≤ c ∧ c < 2400) (hr : 0 ≤ r ∧ r < 6000) (a1 : K 0 c = 20) (a2 : K 1 r = 28) (hk : 1 ≤ k ∧ k ≤ 399) (hx : x.length ≤ 12) (hR : RKx k x) (M : MEM K V CL n (c + 1) (r + 1) x 0 (k - 1)) : MEM K V CL n c r x 5 k := by
  cases n with
  | zero => trivial
  | succ n => exact i_COPY ⟨⟨hc, hr⟩, hk, by omega, hx, hR⟩ ⟨a1, a2, rfl, MEM.down _ _ _ _ _ _ M⟩
theorem m_JUMP (hc : 0 ≤ c ∧ c < 2400) (hr : 0 ≤ r ∧ r < 6000) (a1 : K 0 c = 15) (a2 : K 1 r = 20) (hk : 1 ≤ k ∧ k ≤ 399) (hx : x.length ≤ 12) (hR : RKx k x) (M : MEM K V CL n (K 0 (c + 1)) (K 2 r) x 0 (k - 1)) : MEM K V CL n c r x 0 k := by
  cases n with
  | zero => trivial
  | succ n => exact i_JUMP ⟨⟨hc, hr⟩, hk, by omega, hx, hR⟩ ⟨a1, a2, rfl, MEM.down _ _ _ _ _ _ M⟩
theorem m_UNLESS (hc : 0 ≤ c ∧ c < 2400) (hr : 0 ≤ r ∧ r < 6000) (a1 : K 0 c = 16) (a2 : K 1 r = 19) (hk : 1 ≤ k ∧ k ≤ 399) (hx : x.length ≤ 12) (hR : RKx k x) (M : MEM K V CL n (c + 2) (r + 1) x 0 (k - 1)) (M2 : MEM K V CL n (K 0 (c + 1)) (K 2 r) x 0 (k - 1)) : MEM K V CL n c r x 1 k := by
  cases n with
  | zero => trivial
  | succ n => exact i_UNLESS ⟨⟨hc, hr⟩, hk, by omega, hx, hR⟩ ⟨a1, a2, rfl, MEM.down _ _ _ _ _ _ M, MEM.down _ _ _ _ _ _ M2⟩
theorem m_LOOP (hc : 0 ≤ c ∧ c < 2400) (hr : 0 ≤ r ∧ r < 6000) (a1 : K 0 c = 17) (a2 : K 1 r = 21) (a3 : 0 ≤ K 2 r ∧ K 2 r < 402) (a4 : ∀ e ∈ x, e.2.1 = -1 → e.1 ≠ K 2 r) (hk : 1 ≤ k ∧ k ≤ 399) (hx : x.length ≤ 12) (hR : RKx k x) (M : MEM K V CL n (c + 1) (r + 1) ((K 2 r, -1, 0, 0) :: x) 0 (k - 1)) : MEM K V CL n c r x 1 k := by
  cases n with
  | zero => trivial
  | succ n => exact i_LOOP ⟨⟨hc, hr⟩, hk, by omega, hx, hR⟩ ⟨a1, a2, rfl, a3, a4, MEM.down _ _ _ _ _ _ M⟩
/-- a block, or acts: from its beginning to its end, with the loops and tries numbered below f and t lying around it -/
def BKP (K : HV) (V CL : Int → Int → Prop) (c0 r0 c1 r1 f t dp : Int) : Prop := ∀ (n : Nat) (x : CX) (ke k : Int), 1 ≤ ke → ke ≤ 1 + 12 * dp → ke ≤ k → k ≤ 399 → (x.length : Int) ≤ dp → XB x f t → RKx ke x → MEM K V CL n c1 r1 x 0 ke → MEM K V CL n c0 r0 x 0 k
variable {c0 r0 c1 r1 c2 r2 f t f2 t2 dp m w cE rE cL rL ch e : Int}
theorem BKP.nil : BKP K V CL c0 r0 c0 r0 f t dp := fun _ _ _ _ _ _ c d _ _ _ M => MEM.up _ M c d
theorem BKP.seq (A : BKP K V CL c0 r0 c1 r1 f t dp) (B : BKP K V CL c1 r1 c2 r2 f2 t2 dp) (hf : f ≤ f2) (ht : t ≤ t2) : BKP K V CL c0 r0 c2 r2 f t dp :=
  fun n x ke k a b c d e X R M => A n x ke k a b c d e X R (B n x ke ke a b (Int.le_refl _) (by omega) e (X.mono hf ht) R M)
theorem a_SET (hd : 0 ≤ dp ∧ dp ≤ 11) (hc : 0 ≤ c0 ∧ c0 < c1 ∧ c1 < 2400) (hr : 0 ≤ r0 ∧ r0 < r1 ∧ r1 < 6000) (s1 : K 0 c0 = 1) (s2 : K 1 r0 = 0) (X : EXK K V CL (c0 + 1) (r0 + 1) c1 r1 m 1 w 0) (hm : 0 ≤ m ∧ m ≤ 200) (hw : w ≤ 36) (a1 : K 0 c1 = 6) (a2 : K 1 r1 = 5) (a3 : V (K 0 (c1 + 1)) r1) : BKP K V CL c0 r0 (c1 + 2) (r1 + 1) f t dp := by
  intro n x ke k a b c d le XX R M
  refine m_STEP (j := ke + 1 + m) (by omega) (by omega) s1 s2 (by omega) (by omega) (R.mono c) ?_
  refine X n x 0 (ke + 1 + m) (by omega) (by omega) (by omega) (by omega) (by omega) (by omega) (R.mono (by omega)) ?_
  refine m_SET (by omega) (by omega) a1 a2 a3 (by omega) (by omega) (R.mono (by omega)) ?_
  rw [show ke + 1 + m - m - 1 = ke by omega]
  exact M
theorem a_SETITEM (hd : 0 ≤ dp ∧ dp ≤ 11) (hc : 0 ≤ c0 ∧ c0 < c1 ∧ c1 < 2400) (hr : 0 ≤ r0 ∧ r0 < r1 ∧ r1 < 6000) (s1 : K 0 c0 = 1) (s2 : K 1 r0 = 0) (X : EXK K V CL (c0 + 1) (r0 + 1) c1 r1 m 2 w 0) (hm : 0 ≤ m ∧ m ≤ 200) (hw : w ≤ 36) (a1 : K 0 c1 = 7) (a2 : K 1 r1 = 6) (a3 : V (K 0 (c1 + 1)) r1) : BKP K V CL c0 r0 (c1 + 2) (r1 + 1) f t dp := by
  intro n x ke k a b c d le XX R M
  refine m_STEP (j := ke + 1 + m) (by omega) (by omega) s1 s2 (by omega) (by omega) (R.mono c) ?_
  refine X n x 0 (ke + 1 + m) (by omega) (by omega) (by omega) (by omega) (by omega) (by omega) (R.mono (by omega)) ?_
  refine m_SETITEM (by omega) (by omega) a1 a2 a3 (by omega) (by omega) (R.mono (by omega)) ?_
  rw [show ke + 1 + m - m - 1 = ke by omega]
  exact M
theorem a_GIVE (hd : 0 ≤ dp ∧ dp ≤ 11) (hc : 0 ≤ c0 ∧ c0 < c1 ∧ c1 < 2400) (hr : 0 ≤ r0 ∧ r0 < r1 ∧ r1 < 6000) (s1 : K 0 c0 = 1) (s2 : K 1 r0 = 0) (X : EXK K V CL (c0 + 1) (r0 + 1) c1 r1 m 1 w 0) (hm : 0 ≤ m ∧ m ≤ 200) (hw : w ≤ 36) (a1 : K 0 c1 = 14) (a2 : K 1 r1 = 27) : BKP K V CL c0 r0 c2 r2 f t dp := by
  intro n x ke k a b c d le XX R M
  refine m_STEP (j := ke + 1 + m) (by omega) (by omega) s1 s2 (by omega) (by omega) (R.mono c) ?_
  refine X n x 0 (ke + 1 + m) (by omega) (by omega) (by omega) (by omega) (by omega) (by omega) (R.mono (by omega)) ?_
  exact m_GIVE (by omega) (by omega) a1 a2 (by omega) (by omega) (R.mono (by omega))
theorem a_RAISE (hd : 0 ≤ dp ∧ dp ≤ 11) (hc : 0 ≤ c0 ∧ c0 < 2399) (hr : 0 ≤ r0 ∧ r0 < 5999) (s1 : K 0 c0 = 1) (s2 : K 1 r0 = 0) (a1 : K 0 (c0 + 1) = 19) (a2 : K 1 (r0 + 1) = 26) (a3 : K 2 (r0 + 1) = K 0 (c0 + 2)) (a4 : 1 ≤ K 0 (c0 + 2) ∧ K 0 (c0 + 2) ≤ 7) : BKP K V CL c0 r0 c2 r2 f t dp := by
  intro n x ke k a b c d le XX R M
  have e : c0 + 1 + 1 = c0 + 2 := by omega
  refine m_STEP (j := ke) (by omega) (by omega) s1 s2 (by omega) (by omega) (R.mono c) ?_
  exact m_RAISE (by omega) (by omega) a1 a2 (by rw [e]; exact a3) (by rw [e]; exact a4) (by omega) (by omega) R
theorem a_COPY (hd : 0 ≤ dp ∧ dp ≤ 11) (hc : 0 ≤ c0 ∧ c0 < c1 ∧ c1 < 2400) (hr : 0 ≤ r0 ∧ r0 < r1 ∧ r1 < 6000) (s1 : K 0 c0 = 1) (s2 : K 1 r0 = 0) (X : EXK K V CL (c0 + 1) (r0 + 1) c1 r1 m 5 w 0) (hm : 0 ≤ m ∧ m ≤ 200) (hw : w ≤ 36) (a1 : K 0 c1 = 20) (a2 : K 1 r1 = 28) : BKP K V CL c0 r0 (c1 + 1) (r1 + 1) f t dp := by
  intro n x ke k a b c d le XX R M
  refine m_STEP (j := ke + 1 + m) (by omega) (by omega) s1 s2 (by omega) (by omega) (R.mono c) ?_
  refine X n x 0 (ke + 1 + m) (by omega) (by omega) (by omega) (by omega) (by omega) (by omega) (R.mono (by omega)) ?_
  refine m_COPY (by omega) (by omega) a1 a2 (by omega) (by omega) (R.mono (by omega)) ?_
  rw [show ke + 1 + m - m - 1 = ke by omega]
  exact M
theorem a_IF (hd : 0 ≤ dp ∧ dp ≤ 11) (hc : 0 ≤ c0 ∧ c0 < c1 ∧ c1 < 2400) (hr : 0 ≤ r0 ∧ r0 < r1 ∧ r1 < 6000) (s1 : K 0 c0 = 1) (s2 : K 1 r0 = 0) (X : EXK K V CL (c0 + 1) (r0 + 1) c1 r1 m 1 w 0) (hm : 0 ≤ m ∧ m ≤ 200) (hw : w ≤ 36) (a1 : K 0 c1 = 16) (a2 : K 1 r1 = 19) (a3 : K 0 (c1 + 1) = c2) (a4 : K 2 r1 = r2) (B : BKP K V CL (c1 + 2) (r1 + 1) c2 r2 f t (dp + 1)) : BKP K V CL c0 r0 c2 r2 f t dp := by
  intro n x ke k a b c d le XX R M
  refine m_STEP (j := ke + 1 + m) (by omega) (by omega) s1 s2 (by omega) (by omega) (R.mono c) ?_
  refine X n x 0 (ke + 1 + m) (by omega) (by omega) (by omega) (by omega) (by omega) (by omega) (R.mono (by omega)) ?_
  have M2 : MEM K V CL n c2 r2 x 0 (ke + 1 + m - m - 1) := by
    rw [show ke + 1 + m - m - 1 = ke by omega]
    exact M
  refine m_UNLESS (by omega) (by omega) a1 a2 (by omega) (by omega) (R.mono (by omega)) ?_ (by rw [a3, a4]; exact M2)
  exact B n x ke _ a (by omega) (by omega) (by omega) (by omega) XX R M
theorem a_IFELSE (hd : 0 ≤ dp ∧ dp ≤ 11) (hc : 0 ≤ c0 ∧ c0 < c1 ∧ c1 < cL ∧ cL < 2400) (hr : 0 ≤ r0 ∧ r0 < r1 ∧ r1 < rL ∧ rL < 6000) (s1 : K 0 c0 = 1) (s2 : K 1 r0 = 0) (X : EXK K V CL (c0 + 1) (r0 + 1) c1 r1 m 1 w 0) (hm : 0 ≤ m ∧ m ≤ 200) (hw : w ≤ 36) (a1 : K 0 c1 = 16) (a2 : K 1 r1 = 19) (a3 : K 0 (c1 + 1) = cL + 2) (a4 : K 2 r1 = rL + 1) (B : BKP K V CL (c1 + 2) (r1 + 1) cL rL f t (dp + 1)) (b1 : K 0 cL = 15) (b2 : K 1 rL = 20) (b3 : K 0 (cL + 1) = c2) (b4 : K 2 rL = r2) (B2 : BKP K V CL (cL + 2) (rL + 1) c2 r2 f2 t2 (dp + 1)) (hf : f ≤ f2) (ht : t ≤ t2) : BKP K V CL c0 r0 c2 r2 f t dp := by
  intro n x ke k a b c d le XX R M
  refine m_STEP (j := ke + 2 + m) (by omega) (by omega) s1 s2 (by omega) (by omega) (R.mono c) ?_
  refine X n x 0 (ke + 2 + m) (by omega) (by omega) (by omega) (by omega) (by omega) (by omega) (R.mono (by omega)) ?_
  have MJ : MEM K V CL n cL rL x 0 (ke + 1) := by
    refine m_JUMP (by omega) (by omega) b1 b2 (by omega) (by omega) (R.mono (by omega)) ?_
    rw [b3, b4, show ke + 1 - 1 = ke by omega]
    exact M
  refine m_UNLESS (by omega) (by omega) a1 a2 (by omega) (by omega) (R.mono (by omega)) ?_ ?_
  · exact B n x (ke + 1) _ (by omega) (by omega) (by omega) (by omega) (by omega) XX (R.mono (by omega)) MJ
  · rw [a3, a4]
    exact B2 n x ke _ (by omega) (by omega) (by omega) (by omega) (by omega) (XX.mono hf ht) R M
theorem a_FOR {fn : Int} (hd : 0 ≤ dp ∧ dp ≤ 11) (hc : 0 ≤ c0 ∧ c0 < c1 ∧ c1 + 4 ≤ cL ∧ cL < 2400) (hr : 0 ≤ r0 ∧ r0 < r1 ∧ r1 + 3 ≤ rL ∧ rL < 6000) (s1 : K 0 c0 = 1) (s2 : K 1 r0 = 0) (X : EXK K V CL (c0 + 1) (r0 + 1) c1 r1 m 1 w 0) (hm : 0 ≤ m ∧ m ≤ 200) (hw : w ≤ 36) (a1 : K 0 c1 = 17) (a2 : K 1 r1 = 21) (a3 : K 2 r1 = fn) (hf : 0 ≤ fn ∧ fn < 402) (b1 : K 0 (c1 + 1) = 18) (b2 : K 1 (r1 + 1) = 22) (b3 : K 2 (r1 + 1) = fn) (b4 : K 1 (r1 + 2) = 20) (b5 : V (K 0 (c1 + 2)) (r1 + 1)) (b6 : K 0 (c1 + 3) = cL + 2) (b7 : K 2 (r1 + 2) = rL + 1) (B : BKP K V CL (c1 + 4) (r1 + 3) cL rL (fn + 1) t (dp + 1)) (d1 : K 0 cL = 15) (d2 : K 1 rL = 20) (d3 : K 0 (cL + 1) = c1 + 1) (d4 : K 2 rL = r1 + 1) : BKP K V CL c0 r0 (cL + 2) (rL + 1) fn t dp := by
  intro n x ke k a b c d le XX R M
  have RR : RKx ke ((fn, -1, 0, 0) :: x) := R.cons (Int.le_refl _) (fun w => absurd rfl w)
  have XC : XB ((fn, -1, 0, 0) :: x) (fn + 1) t := XX.cons (by omega) (Int.le_refl _) ⟨fun _ => by show fn < fn + 1; omega, fun w => absurd rfl w⟩
  have len : (((fn, -1, 0, 0) :: x).length : Int) ≤ dp + 1 := by
    show ((x.length + 1 : Nat) : Int) ≤ dp + 1
    omega
  have len2 : ((fn, -1, 0, 0) :: x).length ≤ 12 := by omega
  have e1 : c1 + 1 + 1 = c1 + 2 := by omega
  have e2 : c1 + 1 + 2 = c1 + 3 := by omega
  have e3 : c1 + 1 + 3 = c1 + 4 := by omega
  have e4 : r1 + 1 + 1 = r1 + 2 := by omega
  have e5 : r1 + 1 + 2 = r1 + 3 := by omega
  have LP : ∀ j : Nat, j ≤ n → MEM K V CL j (c1 + 1) (r1 + 1) ((fn, -1, 0, 0) :: x) 0 (ke + 1) := by
    intro j
    induction j with
    | zero => exact fun _ => trivial
    | succ j ih =>
      intro hj
      refine i_ROUND ⟨⟨by omega, by omega⟩, by omega, by omega, len2, RR.mono (by omega)⟩ ⟨b1, b2, rfl, by rw [e4]; exact b4, by rw [e1]; exact b5, x, by rw [b3], ⟨ke + 2, ?_⟩, ?_⟩
      · rw [e3, e5]
        refine B j _ (ke + 2) (ke + 2) (by omega) (by omega) (by omega) (by omega) len XC (RR.mono (by omega)) ?_
        refine m_JUMP (by omega) (by omega) d1 d2 (by omega) len2 (RR.mono (by omega)) ?_
        rw [d3, d4, show ke + 2 - 1 = ke + 1 by omega]
        exact ih (by omega)
      · rw [e2, b6, e4, b7, show ke + 1 - 1 = ke by omega]
        exact MEM.le (by omega) M
  refine m_STEP (j := ke + 2 + m) (by omega) (by omega) s1 s2 (by omega) (by omega) (R.mono c) ?_
  refine X n x 0 (ke + 2 + m) (by omega) (by omega) (by omega) (by omega) (by omega) (by omega) (R.mono (by omega)) ?_
  refine m_LOOP (by omega) (by omega) a1 a2 (by omega) (fun e he we => by have := (XX e he).1 we; omega) (by omega) (by omega) (R.mono (by omega)) ?_
  rw [a3, show ke + 2 + m - m - 1 = ke + 1 by omega]
  exact LP n (Nat.le_refl n)
/-- the chain of what catches failures: (failure, where its block begins) -/
def CHN (K : HV) : List (Int × Int) → Int → Int → Prop
  | [], a, e => a = e
  | p :: l, a, e => (0 ≤ a ∧ a < 2400) ∧ K 0 a = 22 ∧ K 0 (a + 1) = p.1 ∧ p.2 = a + 3 ∧ CHN K l (K 0 (a + 2)) e
theorem CHN.snoc {K : HV} {p : Int × Int} : ∀ (l : List (Int × Int)) (a b : Int), CHN K l a b → (0 ≤ b ∧ b < 2400) → K 0 b = 22 → K 0 (b + 1) = p.1 → p.2 = b + 3 → CHN K (l ++ [p]) a (K 0 (b + 2))
  | [], a, b, h, h1, h2, h3, h4 => by
    have e : a = b := h
    rw [e]
    exact ⟨h1, h2, h3, h4, rfl⟩
  | q :: l, a, b, h, h1, h2, h3, h4 => ⟨h.1, h.2.1, h.2.2.1, h.2.2.2.1, CHN.snoc l _ b h.2.2.2.2 h1 h2 h3 h4⟩
theorem CHN.end {K : HV} {e : Int} (he : K 0 e ≠ 22) (h5 : 0 ≤ e ∧ e ≤ 5000) : ∀ (N : Nat) (l : List (Int × Int)) (a : Int), l.length ≤ N → CHN K l a e → endF K N a = e ∧ chB K N a ∧ ∀ f, (∀ p ∈ l, p.1 ≠ f) → blkF K f N a = -1
  | 0, [], a, _, h => ⟨h, trivial, fun _ _ => rfl⟩
  | 0, p :: l, a, hl, _ => absurd hl (by simp)
  | N + 1, [], a, _, h => by
    have e1 : a = e := h
    subst e1
    unfold endF chB blkF
    rw [if_neg he]
    exact ⟨rfl, ⟨h5, fun w => absurd w he⟩, fun f _ => if_neg he⟩
  | N + 1, p :: l, a, hl, h => by
    obtain ⟨h1, h2, h3, h4, h0⟩ := h
    have i := CHN.end he h5 N l (K 0 (a + 2)) (by simp at hl; omega) h0
    unfold endF chB blkF
    rw [if_pos h2]
    refine ⟨i.1, ⟨by omega, fun _ => i.2.1⟩, fun f hf => ?_⟩
    have nf : ¬ K 0 (a + 1) = f := by
      rw [h3]
      exact hf p (.head _)
    rw [if_pos h2, if_neg nf]
    exact i.2.2 f (fun q m => hf q (.tail _ m))
theorem CHN.mem {K : HV} {e : Int} : ∀ (N : Nat) (l : List (Int × Int)) (a : Int), l.length ≤ N → CHN K l a e → (l.map Prod.fst).Nodup → ∀ p ∈ l, blkF K p.1 N a = p.2 ∧ 0 ≤ p.2
  | 0, p :: l, a, hl, _, _ => absurd hl (by simp)
  | _, [], _, _, _, _ => fun p m => absurd m (by simp)
  | N + 1, q :: l, a, hl, h, hd => by
    obtain ⟨h1, h2, h3, h4, h0⟩ := h
    rw [List.map_cons, List.nodup_cons] at hd
    have i := CHN.mem N l (K 0 (a + 2)) (by simp at hl; omega) h0 hd.2
    intro p m
    unfold blkF
    rw [if_pos h2]
    cases m with
    | head => rw [if_pos h3]; exact ⟨h4.symm, by omega⟩
    | tail _ m =>
      have nf : ¬ K 0 (a + 1) = p.1 := by
        rw [h3]
        intro w
        exact hd.1 (List.mem_map.mpr ⟨p, m, w.symm⟩)
      rw [if_neg nf]
      exact i p m
/-- what leads out of a try's block: the class's LEAVE and the reference's O_TRIED -/
def LV (K : HV) (c r tn rE : Int) : Prop := ((0 ≤ c ∧ c < 2400) ∧ 0 ≤ r ∧ r < 6000) ∧ K 0 c = 23 ∧ K 1 r = 24 ∧ K 2 r = tn ∧ K 3 r = rE
theorem a_TRY {tn rX cF rF : Int} {l : List (Int × Int)} (hd : 0 ≤ dp ∧ dp ≤ 11) (hc : 0 ≤ c0 ∧ c0 + 3 ≤ cL ∧ cL < 2400) (hr : 0 ≤ r0 ∧ r0 + 2 ≤ rL ∧ rL < 6000) (he : 0 ≤ e ∧ e < 2400) (s1 : K 0 c0 = 1) (s2 : K 1 r0 = 0) (a1 : K 0 (c0 + 1) = 21) (a2 : K 1 (r0 + 1) = 23) (a3 : K 2 (r0 + 1) = tn) (ht : 0 ≤ tn ∧ tn < 401) (a4 : K 0 (c0 + 2) = cL + 1) (B : BKP K V CL (c0 + 3) (r0 + 2) cL rL f (tn + 1) (dp + 1)) (L : LV K cL rL tn rX)
    (C : CHN K l (cL + 1) e) (hl : l.length ≤ 7) (hn : (l.map Prod.fst).Nodup) (he22 : K 0 e ≠ 22) (N4 : ∀ f, 1 ≤ f → f ≤ 7 → (∀ p ∈ l, p.1 ≠ f) → K 4 (8 * tn + f) = -9) (B4 : ∀ p ∈ l, K 4 (8 * tn + p.1) ≠ -9 ∧ ∃ cl rl, BKP K V CL p.2 (K 4 (8 * tn + p.1)) cl rl f (tn + 1) (dp + 1) ∧ LV K cl rl tn rX)
    (Z : (K 5 tn = -9 ∧ K 0 e = 24 ∧ c2 = e + 1 ∧ r2 = rX) ∨ (K 5 tn ≠ -9 ∧ BKP K V CL e (K 5 tn) cF rF f (tn + 1) (dp + 1) ∧ ((0 ≤ cF ∧ cF < 2400) ∧ 0 ≤ rF ∧ rF < 6000) ∧ K 0 cF = 24 ∧ K 1 rF = 25 ∧ K 2 rF = tn ∧ c2 = cF + 1 ∧ r2 = rF + 1)) : BKP K V CL c0 r0 c2 r2 f tn dp := by
  intro n x ke k a b c d le XX R M
  have Q := CHN.end he22 (by omega) 7 l (cL + 1) hl C
  have Qm := CHN.mem 7 l (cL + 1) hl C hn
  have XC : ∀ ph, ph ≠ -1 → XB ((tn, ph, ke, cL + 1) :: x) f (tn + 1) := fun ph hp => XX.cons (Int.le_refl _) (by omega) ⟨fun w => absurd w hp, fun _ => by show tn < tn + 1; omega⟩
  have RR : ∀ ph kk, 0 ≤ ph → ph ≤ 2 → ke + 12 - 4 * ph ≤ kk → RKx kk ((tn, ph, ke, cL + 1) :: x) := fun ph kk p0 p2 hk => R.cons (by omega) (fun _ => hk)
  have len : ∀ ph, (((tn, ph, ke, cL + 1) :: x).length : Int) ≤ dp + 1 := fun ph => by
    show ((x.length + 1 : Nat) : Int) ≤ dp + 1
    omega
  have len2 : ∀ ph, ((tn, ph, ke, cL + 1) :: x).length ≤ 12 := fun ph => by
    have := len ph
    omega
  have nx : ∀ e ∈ x, e.2.1 ≠ -1 → e.1 ≠ tn := fun e he we => by
    have := (XX e he).2 we
    omega
  have AL : ∀ j : Nat, j ≤ n → K 5 tn ≠ -9 → MEM K V CL j e (K 5 tn) ((tn, 2, ke, cL + 1) :: x) 0 (ke + 4) := by
    intro j hj w
    rcases Z with z | ⟨-, BA, ⟨z1, z2⟩, z3, z4, z5, rfl, rfl⟩
    · exact absurd z.1 w
    · refine BA j _ (ke + 4) (ke + 4) (by omega) (by omega) (by omega) (by omega) (len 2) (XC 2 (by decide)) (RR 2 _ (by decide) (by decide) (by omega)) ?_
      cases j with
      | zero => trivial
      | succ j => exact i_FINISH ⟨⟨z1, z2⟩, by omega, by omega, len2 2, RR 2 _ (by decide) (by decide) (by omega)⟩ ⟨z3, z4, rfl, ke, cL + 1, x, by rw [z5], MEM.le (by omega) M⟩
  have LVM : ∀ (j : Nat) (ph cl rl kk : Int), j ≤ n → (ph = 0 ∨ ph = 1) → ke + 12 - 4 * ph ≤ kk → kk ≤ 399 → LV K cl rl tn rX → MEM K V CL j cl rl ((tn, ph, ke, cL + 1) :: x) 0 kk := by
    intro j ph cl rl kk hj hp hk hk2 ⟨⟨z1, z2⟩, z3, z4, z5, z6⟩
    cases j with
    | zero => trivial
    | succ j =>
      refine i_LEAVE ⟨⟨z1, z2⟩, by omega, by omega, len2 ph, RR ph _ (by omega) (by omega) hk⟩ ⟨z3, z4, rfl, ph, ke, cL + 1, x, by rw [z5], hp, by rw [z5]; exact nx, fun w => ?_, fun w => ?_⟩
      · rw [z5] at w
        rw [Q.1, z6]
        rcases Z with ⟨-, y2, rfl, rfl⟩ | z
        · exact ⟨y2, MEM.le (by omega) M⟩
        · exact absurd w z.1
      · rw [z5] at w ⊢
        rw [Q.1]
        exact AL j (by omega) w
  refine m_STEP (j := ke + 14) (by omega) (by omega) s1 s2 (by omega) (by omega) (R.mono c) ?_
  cases n with
  | zero => trivial
  | succ n =>
    have e2 : c0 + 1 + 1 = c0 + 2 := by omega
    have e3 : c0 + 1 + 2 = c0 + 3 := by omega
    have e4 : r0 + 1 + 1 = r0 + 2 := by omega
    refine i_TRY ⟨⟨by omega, by omega⟩, by omega, by omega, by omega, R.mono (by omega)⟩ ⟨a1, a2, rfl, by omega, by rw [a3]; exact nx, ke, ?_, ?_⟩
    · rw [e2, e3, e4, a3, a4]
      exact B n _ (ke + 12) _ (by omega) (by omega) (by omega) (by omega) (len 0) (XC 0 (by decide)) (RR 0 _ (by decide) (by decide) (by omega)) (LVM n 0 _ _ _ (by omega) (.inl rfl) (by omega) (by omega) L)
    · rw [e2, a3, a4]
      refine ⟨⟨Q.2.1, by omega, R⟩, fun g g1 g7 => ?_, ?_⟩
      · by_cases mg : ∀ p ∈ l, p.1 ≠ g
        · exact .inl ⟨Q.2.2 g mg, N4 g g1 g7 mg⟩
        · obtain ⟨p, pm, pg⟩ : ∃ p ∈ l, p.1 = g := Classical.byContradiction (fun w => mg (fun p pm pg => w ⟨p, pm, pg⟩))
          subst pg
          obtain ⟨b1, cl, rl, b2, b3⟩ := B4 p pm
          obtain ⟨q1, q2⟩ := Qm p pm
          refine .inr ⟨by rw [q1]; exact q2, b1, ?_⟩
          rw [q1]
          exact b2 n _ (ke + 8) (ke + 8) (by omega) (by omega) (by omega) (by omega) (len 1) (XC 1 (by decide)) (RR 1 _ (by decide) (by decide) (by omega)) (LVM n 1 _ _ _ (by omega) (.inr rfl) (by omega) (by omega) b3)
      · by_cases w : K 5 tn = -9
        · refine .inl ⟨w, ?_⟩
          rw [Q.1]
          rcases Z with z | z
          · exact z.2.1
          · exact absurd w z.1
        · refine .inr ⟨w, ?_⟩
          rw [Q.1]
          exact AL n (by omega) w
end PC
