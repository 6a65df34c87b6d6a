/-! THE PURE SIDE, 177: rules on both sides: what is kept of each: printed by wip/tools/gen8z4.py -/
/-- the code of a rule at the end agrees with what was told: places c to c1, codes r to r1, tries t to t1 -/
def AGC (K : HV) (CL : Int → Int → Prop) (T S c r t c1 r1 t1 : Int) (h hr : HV) : Prop := (∀ i, c ≤ i → 0 ≤ i → i < c1 → (∀ k, 0 ≤ k → k < h 258 10 → h 608 k ≠ i) → K 0 i = h (T + 1430) i) ∧ (∀ i, r ≤ i → 0 ≤ i → i < r1 → K 1 i = hr (S + 980) i ∧ (hr (S + 980) i ≠ 7 → K 2 i = hr (S + 1044) i) ∧ K 3 i = hr (S + 1108) i) ∧ (∀ i, 0 ≤ i → i < hr S 20 → K 6 i = hr (S + 1174) i) ∧ (∀ i, 8 * t ≤ i → 0 ≤ i → i < 8 * t1 → K 4 i = hr (S + 1236) i) ∧ (∀ i, t ≤ i → 0 ≤ i → i < t1 → K 5 i = hr (S + 1300) i) ∧ ∀ k, 0 ≤ k → k < h 258 10 → CL (h 608 k - 1) (hr 9888 k)
/-- variables lie in the slots sg -/
def VSS (K : HV) (sg : Int → Int) (n r r1 : Int) (V : Int → Int → Prop) : Prop := ∀ v i, 0 ≤ v → v < n → r ≤ i → i < r1 → (K 1 i = 22 → K 3 i = sg v) → (K 1 i ≠ 22 → K 2 i = sg v) → V v i
def RLX (T S : Int) (h hr : HV) (q : Int) : Prop := ∃ c1 r1 t0 t1, ∃ sg : Int → Int, ((0 ≤ h (T + 1238) q ∧ h (T + 1238) q < c1 ∧ c1 ≤ h T 17) ∧ (0 ≤ hr (S + 916) q ∧ hr (S + 916) q < r1 ∧ r1 ≤ hr S 15) ∧ 0 ≤ t0 ∧ t0 ≤ t1 ∧ t1 ≤ hr S 22) ∧ (h (T + 1366) q = hr (S + 852) q ∧ h (T + 1302) q ≤ h (T + 1366) q ∧ h (T + 1366) q ≤ 420) ∧ ((∀ v, 0 ≤ v → v < h (T + 1366) q → 0 ≤ sg v ∧ sg v < h (T + 1366) q) ∧ (∀ v w, 0 ≤ v → v < h (T + 1366) q → 0 ≤ w → w < h (T + 1366) q → sg v = sg w → v = w) ∧ ∀ v, 0 ≤ v → v < h (T + 1302) q → sg v = v) ∧ ∀ K V CL, AGC K CL T S (h (T + 1238) q) (hr (S + 916) q) t0 c1 r1 t1 h hr → VSS K sg (h (T + 1366) q) (hr (S + 916) q) r1 V → ∀ n, MEM K V CL n (h (T + 1238) q) (hr (S + 916) q) [] 0 1
/-- what was told stays -/
def CEP (T : Int) (h g : HV) : Prop := (h T 17 ≤ g T 17 ∧ PRE 0 (h T 17) (h (T + 1430)) (g (T + 1430))) ∧ h 258 10 ≤ g 258 10 ∧ PRE 0 (h 258 10) (h 608) (g 608) ∧ ∀ k, 0 ≤ k → h 258 10 ≤ k → k < g 258 10 → h T 17 < g 608 k
def REP (S : Int) (h g : HV) : Prop := (h S 15 ≤ g S 15 ∧ PRE 0 (h S 15) (h (S + 980)) (g (S + 980)) ∧ PRE 0 (h S 15) (h (S + 1044)) (g (S + 1044)) ∧ PRE 0 (h S 15) (h (S + 1108)) (g (S + 1108))) ∧ (h S 20 ≤ g S 20 ∧ PRE 0 (h S 20) (h (S + 1174)) (g (S + 1174))) ∧ (h 6603 24 ≤ g 6603 24 ∧ PRE 0 (h 6603 24) (h 9888) (g 9888)) ∧ h S 22 ≤ g S 22 ∧ PRE 0 (8 * h S 22) (h (S + 1236)) (g (S + 1236)) ∧ PRE 0 (h S 22) (h (S + 1300)) (g (S + 1300))
section SM
variable {bX : Int} {tp : Int → Int} {t T S s s1 s2 f : Int} {h hr g gr k kr m mr : HV}
theorem ECP.e (E : ECP T 0 h g) : CEP T h g := ⟨E.1, E.2.2.1, E.2.2.2.1.2.2, E.2.2.2.2⟩
theorem ERP.e (E : ERP S 0 0 h g) : REP S h g := ⟨E.1, E.2.1, ⟨E.2.2.2.2.1.1, E.2.2.2.2.1.2.2.2.1⟩, E.2.2.2.2.2.2.1, by
  have z := E.2.2.2.2.2.2.2.1
  exact z, E.2.2.2.2.2.2.2.2⟩
theorem CEP.rfl' : CEP T h h := ⟨⟨Int.le_refl _, PRE.rfl'⟩, Int.le_refl _, PRE.rfl', fun k a b c => by omega⟩
theorem REP.rfl' : REP S h h := ⟨⟨Int.le_refl _, PRE.rfl', PRE.rfl', PRE.rfl'⟩, ⟨Int.le_refl _, PRE.rfl'⟩, ⟨Int.le_refl _, PRE.rfl'⟩, Int.le_refl _, PRE.rfl', PRE.rfl'⟩
theorem CEP.trans (A : CEP T h g) (B : CEP T g k) : CEP T h k := by
  obtain ⟨⟨a1, a2⟩, a3, a4, a5⟩ := A
  obtain ⟨⟨b1, b2⟩, b3, b4, b5⟩ := B
  refine ⟨⟨by omega, a2.trans b2 a1⟩, by omega, a4.trans b4 a3, fun j j0 j1 j2 => ?_⟩
  by_cases u : j < g 258 10
  · rw [b4 j j0 j0 u]
    exact a5 j j0 j1 u
  · have := b5 j j0 (by omega) j2
    omega
theorem REP.trans (A : REP S h g) (B : REP S g k) : REP S h k := by
  obtain ⟨⟨a1, a2, a3, a4⟩, ⟨a5, a6⟩, ⟨a7, a8⟩, a9, x1, x2⟩ := A
  obtain ⟨⟨b1, b2, b3, b4⟩, ⟨b5, b6⟩, ⟨b7, b8⟩, b9, y1, y2⟩ := B
  exact ⟨⟨by omega, a2.trans b2 a1, a3.trans b3 a1, a4.trans b4 a1⟩, ⟨by omega, a6.trans b6 a5⟩, ⟨by omega, a8.trans b8 a7⟩, by omega, x1.trans y1 (by omega), x2.trans y2 a9⟩
/-- nothing of code and calls is touched -/
theorem CEP.of (e1 : g T 17 = h T 17) (e2 : g (T + 1430) = h (T + 1430)) (e3 : g 258 10 = h 258 10) (e4 : g 608 = h 608) : CEP T h g := by
  unfold CEP
  rw [e1, e2, e3, e4]
  exact CEP.rfl'
theorem REP.of (e1 : g S 15 = h S 15 ∧ g S 20 = h S 20 ∧ g S 22 = h S 22) (e2 : g (S + 980) = h (S + 980) ∧ g (S + 1044) = h (S + 1044) ∧ g (S + 1108) = h (S + 1108)) (e3 : g (S + 1174) = h (S + 1174) ∧ g (S + 1236) = h (S + 1236) ∧ g (S + 1300) = h (S + 1300)) (e4 : g 6603 24 = h 6603 24 ∧ g 9888 = h 9888) : REP S h g := by
  unfold REP
  rw [e1.1, e1.2.1, e1.2.2, e2.1, e2.2.1, e2.2.2, e3.1, e3.2.1, e3.2.2, e4.1, e4.2]
  exact REP.rfl'
/-- a rule stays -/
theorem RLX.fr {q : Int} (R : RLX T S h hr q) (C : CEP T h g) (E : REP S hr gr) (q0 : h 258 10 = hr 6603 24) (e1 : g (T + 1238) q = h (T + 1238) q ∧ g (T + 1302) q = h (T + 1302) q ∧ g (T + 1366) q = h (T + 1366) q) (e2 : gr (S + 916) q = hr (S + 916) q ∧ gr (S + 852) q = hr (S + 852) q) : RLX T S g gr q := by
  obtain ⟨c1, r1, t0, t1, sg, ⟨⟨x1, x2, x3⟩, ⟨x4, x5, x6⟩, x7, x8, x9⟩, y1, y2, y3⟩ := R
  obtain ⟨⟨a1, a2⟩, a3, a4, a5⟩ := C
  obtain ⟨⟨b1, b2, b3, b4⟩, ⟨b5, b6⟩, ⟨b7, b8⟩, b9, z1, z2⟩ := E
  obtain ⟨e3, e4, e5⟩ := e1
  obtain ⟨e6, e7⟩ := e2
  unfold RLX
  rw [e3, e4, e5, e6, e7]
  refine ⟨c1, r1, t0, t1, sg, ⟨⟨x1, x2, by omega⟩, ⟨x4, x5, by omega⟩, x7, x8, by omega⟩, y1, y2, fun K V CL A W n => y3 K V CL ?_ W n⟩
  obtain ⟨A1, A2, A3, A4, A5, A6⟩ := A
  refine ⟨fun i i0 i1 i2 w => ?_, fun i i0 i1 i2 => ?_, fun i i0 i1 => ?_, fun i i0 i1 i2 => ?_, fun i i0 i1 i2 => ?_, fun j j0 j1 => ?_⟩
  · rw [← a2 i i1 i1 (by omega)]
    refine A1 i i0 i1 i2 (fun j j0 j1 => ?_)
    by_cases u : j < h 258 10
    · rw [a4 j j0 j0 u]
      exact w j j0 u
    · have := a5 j j0 (by omega) j1
      omega
  · rw [← b2 i i1 i1 (by omega), ← b3 i i1 i1 (by omega), ← b4 i i1 i1 (by omega)]
    exact A2 i i0 i1 i2
  · rw [← b6 i i0 i0 i1]
    exact A3 i i0 (by omega)
  · rw [← z1 i i1 i1 (by omega)]
    exact A4 i i0 i1 i2
  · rw [← z2 i i1 i1 (by omega)]
    exact A5 i i0 i1 i2
  · rw [← a4 j j0 j0 j1, ← b8 j j0 j0 (by omega)]
    exact A6 j j0 (by omega)
/-- one row of numbers in another: no longer than that -/
theorem inj_le {n m : Int} {f : Int → Int} (hf : ∀ i, 0 ≤ i → i < n → 0 ≤ f i ∧ f i < m) (hi : ∀ i j, 0 ≤ i → i < n → 0 ≤ j → j < n → f i = f j → i = j) (hm : 0 ≤ m) : n ≤ m := by
  refine Int.not_lt.mp (fun w => ?_)
  obtain ⟨i, j, a, b, c⟩ := pigeonT m.toNat (fun i => (f i).toNat) (fun i hi => by
    have := hf i (by omega) (by omega)
    show (f i).toNat < m.toNat
    omega)
  have x := hf i (by omega) (by omega)
  have y := hf j (by omega) (by omega)
  have e : (f i).toNat = (f j).toNat := c
  have z := hi i j (by omega) (by omega) (by omega) (by omega) (by omega)
  omega
/-- the slot of a name -/
theorem sl_sp {w : Int} (h0 : 0 ≤ hr 6603 15) : (0 ≤ slF hr w ∧ slF hr w < hr 6603 15 ∧ hr 9505 (slF hr w) = w) ∨ (slF hr w = -9 ∧ ∀ i, 0 ≤ i → i < hr 6603 15 → hr 9505 i ≠ w) := fnx_sp h0
/-- what lies at the names noted -/
theorem rfA_at {n : Nat} (N : RFI S hr) (hn : (n : Int) ≤ hr 6603 19) : ∀ (m : Nat), m ≤ n → ∀ j : Int, 0 ≤ j → j < m → rfA S hr m (hr 9696 j) = slF hr (hr 9569 j)
  | 0, _, j, h0, h1 => by omega
  | m + 1, hm, j, h0, h1 => by
    rw [rfA]
    by_cases u : j = m
    · rw [u, if_pos rfl]
    · have y := (N.2 m (by omega) (by omega)).2.2 j h0 (by omega)
      rw [if_neg (by omega)]
      exact rfA_at N hn m (by omega) j h0 (by omega)
theorem rfA_no : ∀ (m : Nat) (i : Int), (∀ j : Int, 0 ≤ j → j < m → hr 9696 j ≠ i) → rfA S hr m i = hr (S + 1044) i
  | 0, i, _ => rfl
  | m + 1, i, hj => by
    rw [rfA, if_neg (fun u => hj m (by omega) (by omega) u.symm)]
    exact rfA_no m i (fun j a b => hj j a (by omega))
/-- what is found late in a rule is the same on both sides -/
theorem late_rule {c0 r0 : Int} (D : GD bX tp t T S s1 g gr) (P : PARI h hr) (E : ECP T 0 h g) (V : NVR h g gr) (L : LATX c0 r0) : LATX (ltC (g 416) c0 (g 258 6).toNat) (rltR gr r0 (gr 6603 19).toNat) := by
  have N := D.nb
  unfold NBR at N
  obtain ⟨⟨n1, n2, n3, n4, n5⟩, n6⟩ := D.2.2.2.2.1
  have h0 : 0 ≤ gr 6603 15 := by omega
  have vt : ∀ j, 0 ≤ j → j < gr 6603 19 → slF gr (gr 9569 j) = -9 → ∃ v, (0 ≤ v ∧ v < g 258 6) ∧ 0 ≤ g 416 v ∧ g 416 v ≤ gr 9632 j := fun j j0 j1 e => by
    obtain ⟨v, ⟨v0, v1⟩, e1⟩ := n5 j j0 j1
    refine ⟨v, ⟨v0, v1⟩, ?_⟩
    rcases n3 v v0 v1 with ⟨-, i, ⟨i0, i1⟩, e2⟩ | ⟨u1, u2, u3⟩
    · rcases sl_sp (hr := gr) (w := gr 9569 j) h0 with ⟨w1, -⟩ | ⟨-, w2⟩
      · omega
      · exact absurd (by rw [e2, e1]) (w2 i i0 i1)
    · exact ⟨u1, u3 j j0 j1 e1.symm⟩
  have MA := ltC_min (f := g 416) (l0 := c0) (g 258 6).toNat
  have MB : LMIN (fun p => ∃ v : Int, (0 ≤ v ∧ v < ((gr 6603 19).toNat : Int)) ∧ slF gr (gr 9569 v) = -9 ∧ gr 9632 v = p) r0 (rltR gr r0 (gr 6603 19).toNat) := rltR_min' (fun j j0 j1 e => by
    obtain ⟨v, -, a, b⟩ := vt j j0 j1 e
    omega) (gr 6603 19).toNat (by omega)
  refine late_both L MA MB (fun p ⟨v, ⟨v0, v1⟩, e, p0⟩ => ?_) (fun p ⟨j, ⟨j0, j1⟩, e, e2⟩ => ?_)
  · have vn : ¬ v < h 258 6 := fun u => by
      have a := (P.2.2.1 v v0 u).2
      rcases E.2.1.2.2 v v0 u with b | b <;> omega
    obtain ⟨j, ⟨j0, j1⟩, a1, a2⟩ := V v v0 (by omega) (by omega) (by omega)
    refine ⟨j, ⟨j0, by omega⟩, ?_, by omega⟩
    rw [a1]
    rcases sl_sp (hr := gr) (w := g 353 v) h0 with ⟨w1, w2, w3⟩ | ⟨w1, -⟩
    · rcases n3 v v0 (by omega) with ⟨u1, -⟩ | ⟨-, u2, -⟩
      · omega
      · exact absurd w3 (u2 _ w1 w2)
    · exact w1
  · obtain ⟨v, ⟨v0, v1⟩, a, b⟩ := vt j j0 (by omega) e
    exact ⟨g 416 v, ⟨v, ⟨v0, by omega⟩, rfl, a⟩, by omega⟩
/-- a rule's code, kept -/
theorem rl_make {x c0 : Int} {gF rF : HV} (D : GD bX tp t T S s h hr) (P : PARI h hr) (G : GOM bX tp t T S s h hr s1 g gr) (BK : ∀ K V CL, AGK K V CL T S (h T 17) (hr S 15) (hr S 22) g gr → BKP K V CL (h T 17) (hr S 15) (g T 17) (gr S 15) (hr S 21) (hr S 22) 0) (hst : gF (T + 1238) x = h T 17 ∧ gF (T + 1302) x = h 258 6 ∧ gF (T + 1366) x = g 258 6) (hrc : rF (S + 916) x = hr S 15 ∧ rF (S + 852) x = gr 6603 15) (hx : hr (S + 916) (hr (S + 84) 6 - 1) = hr S 15)
    (L : ltC (g 416) c0 (g 258 6).toNat = -1) (f1 : gF T 17 = g T 17 + 1 ∧ (∀ i, i < g T 17 → gF (T + 1430) i = g (T + 1430) i) ∧ gF (T + 1430) (g T 17) = 0) (f2 : gF 258 10 = g 258 10 ∧ gF 608 = g 608) (f3 : rF S 15 = gr S 15 + 1 ∧ rF S 20 = gr S 20 ∧ rF S 22 = gr S 22) (f4 : (∀ i, i < gr S 15 → rF (S + 980) i = gr (S + 980) i) ∧ rF (S + 980) (gr S 15) = 29) (f5 : ∀ i, i < gr S 15 → rF (S + 1044) i = rfA S gr (gr 6603 19).toNat i) (f6 : ∀ i, i < gr S 15 → rF (S + 1108) i = gr (S + 1108) i) (f7 : rF (S + 1174) = gr (S + 1174) ∧ rF (S + 1236) = gr (S + 1236) ∧ rF (S + 1300) = gr (S + 1300) ∧ rF 9888 = gr 9888) (lm : g T 17 < 2400) : RLX T S gF rF x := by
  have N := D.nb
  have D2 := G.2.1
  have N2 := D2.nb
  have S2 := D2.sb
  have kS := kTR D.2.1.2.1
  unfold NBR at N N2
  obtain ⟨⟨n1, n2, n3, n4, n5⟩, n6⟩ := D2.2.2.2.2.1
  have R := D2.2.2.2.2.2.2.2.1
  have CLRx := D2.2.2.2.2.2.1
  have CLIx := D2.2.2.2.2.2.2.2.2
  have E := G.2.2.1.1
  have F := G.2.2.2.1
  have FX := G.2.2.2.2
  have h0 : 0 ≤ gr 6603 15 := by omega
  have s916 : gr (S + 916) = hr (S + 916) := FX.1 (S + 916) (by omega) (by omega) (by omega) (by omega) (by omega) (by omega) (by omega) (by omega) (by omega) (by omega) (by omega) (by omega) (by omega) (by omega) (by omega) (by omega)
  have s84 : gr (S + 84) = hr (S + 84) := FX.1 (S + 84) (by omega) (by omega) (by omega) (by omega) (by omega) (by omega) (by omega) (by omega) (by omega) (by omega) (by omega) (by omega) (by omega) (by omega) (by omega) (by omega)
  unfold RFI at R
  rw [s916, s84, hx] at R
  have told : ∀ v, 0 ≤ v → v < g 258 6 → 0 ≤ slF gr (g 353 v) ∧ slF gr (g 353 v) < gr 6603 15 ∧ gr 9505 (slF gr (g 353 v)) = g 353 v := fun v v0 v1 => by
    have M := (ltC_min (f := g 416) (l0 := c0) (g 258 6).toNat).1
    rcases n3 v v0 v1 with ⟨-, i, ⟨i0, i1⟩, e2⟩ | ⟨u1, -⟩
    · rcases sl_sp (hr := gr) (w := g 353 v) h0 with w | ⟨-, w2⟩
      · exact w
      · exact absurd e2 (w2 i i0 i1)
    · have z := M (g 416 v) ⟨v, ⟨v0, by omega⟩, rfl, u1⟩
      omega
  have sgi : ∀ v w, 0 ≤ v → v < g 258 6 → 0 ≤ w → w < g 258 6 → slF gr (g 353 v) = slF gr (g 353 w) → v = w := fun v w v0 v1 w0 w1 e => by
    have a := (told v v0 v1).2.2
    have b := (told w w0 w1).2.2
    rw [e] at a
    exact n1 v w v0 v1 w0 w1 (a.symm.trans b)
  have le1 : g 258 6 ≤ gr 6603 15 := inj_le (f := fun v => slF gr (g 353 v)) (fun v v0 v1 => ⟨(told v v0 v1).1, (told v v0 v1).2.1⟩) (fun v w v0 v1 w0 w1 e => sgi v w v0 v1 w0 w1 e) h0
  have ff : ∀ j, 0 ≤ j → j < gr 6603 15 → 0 ≤ fnx (g 353) (gr 9505 j) (-1) (g 258 6).toNat 0 ∧ fnx (g 353) (gr 9505 j) (-1) (g 258 6).toNat 0 < g 258 6 ∧ g 353 (fnx (g 353) (gr 9505 j) (-1) (g 258 6).toNat 0) = gr 9505 j := fun j j0 j1 => by
    obtain ⟨v, ⟨v0, v1⟩, e⟩ := n4 j j0 j1
    rcases fnx_sp (f := g 353) (w := gr 9505 j) (z := -1) (m := g 258 6) (by omega) with w | ⟨-, w⟩
    · exact w
    · exact absurd e (w v v0 v1)
  have le2 : gr 6603 15 ≤ g 258 6 := inj_le (f := fun j => fnx (g 353) (gr 9505 j) (-1) (g 258 6).toNat 0) (fun j j0 j1 => ⟨(ff j j0 j1).1, (ff j j0 j1).2.1⟩) (fun i j i0 i1 j0 j1 e => by
    have a := (ff i i0 i1).2.2
    have b := (ff j j0 j1).2.2
    have e' : fnx (g 353) (gr 9505 i) (-1) (g 258 6).toNat 0 = fnx (g 353) (gr 9505 j) (-1) (g 258 6).toNat 0 := e
    rw [e'] at a
    exact n2 i j i0 i1 j0 j1 (a.symm.trans b)) (by omega)
  have sgn : ∀ v, 0 ≤ v → v < h 258 6 → slF gr (g 353 v) = v := fun v v0 v1 => by
    have e6 := E.2.1.1
    have a := (told v v0 (by omega))
    have b := (P.2.2.1 v v0 v1).1
    have c : g 353 v = h 353 v := E.2.1.2.1 v v0 v0 v1
    have x15 := F.2.2.1.1
    have p1 := P.1
    have d : gr 9505 v = hr 9505 v := F.2.2.1.2 v v0 v0 (by omega)
    exact n2 _ v a.1 a.2.1 v0 (by omega) (by rw [a.2.2, c, b, d])
  have slw : ∀ v j, 0 ≤ v → v < g 258 6 → 0 ≤ j → j < gr 6603 15 → g 353 v = gr 9505 j → j = slF gr (g 353 v) := fun v j v0 v1 j0 j1 e => by
    have a := told v v0 v1
    exact (n2 _ j a.1 a.2.1 j0 j1 (by rw [a.2.2, e])).symm
  have E1 := E.1.1
  have F1 := F.1.1
  unfold RLX
  rw [hst.1, hst.2.1, hst.2.2, hrc.1, hrc.2, f1.1, f3.1, f3.2.2]
  have x6 := E.2.1.1
  refine ⟨g T 17 + 1, gr S 15 + 1, hr S 22, gr S 22, fun v => slF gr (g 353 v), ⟨by omega, by omega, by omega, F.2.2.2.2.2.2.1, Int.le_refl _⟩, by omega, ⟨fun v v0 v1 => ⟨(told v v0 v1).1, Int.lt_of_lt_of_le (told v v0 v1).2.1 le2⟩, sgi, sgn⟩, fun K V CL A W n => ?_⟩
  obtain ⟨A1, A2, A3, A4, A5, A6⟩ := A
  rw [f2.1] at A6
  rw [f3.2.1, f7.1] at A3
  rw [f7.2.1] at A4
  rw [f7.2.2.1] at A5
  rw [f7.2.2.2] at A6
  have AA : AGK K V CL T S (h T 17) (hr S 15) (hr S 22) g gr := by
    refine ⟨fun i i0 i1 i2 w => ?_, fun i i0 i1 i2 => ?_, fun i i0 i1 => A3 i i0 i1, fun i i0 i1 i2 => A4 i i0 i1 i2, fun i i0 i1 i2 => A5 i i0 i1 i2, fun i v i0 i1 i2 v0 v1 o5 q1 q2 q3 => ?_, fun i v i0 i1 i2 v0 v1 o5 q1 q2 q3 => ?_, fun j v j0 j1 v0 v1 e => ?_, fun j j0 j1 => ?_⟩
    · rw [← f1.2.1 i i2]
      refine A1 i i0 i1 (by omega) (fun j j0 j1 => ?_)
      rw [f2.1] at j1
      rw [f2.2]
      exact w j j0 j1
    · obtain ⟨a1, a2, a3⟩ := A2 i i0 i1 (by omega)
      rw [f4.1 i i2] at a1 a2
      rw [f6 i i2] at a3
      refine ⟨a1, fun o4 o6 o7 => ?_, fun _ _ => a3⟩
      rw [a2 o7, f5 i i2]
      refine rfA_no _ i (fun j j0 j1 u => ?_)
      have y := (R.2 j j0 (by omega)).2.1
      rw [u] at y
      omega
    · obtain ⟨a1, a2, a3⟩ := A2 i i0 i1 (by omega)
      rw [f4.1 i i2] at a1 a2
      refine W v i v0 (by omega) i0 (by omega) (fun u => by omega) (fun _ => ?_)
      rw [a2 (by omega), f5 i i2, rfA_no _ i (fun j j0 j1 u => by
        have y := (R.2 j j0 (by omega)).2.1
        rw [u] at y
        omega)]
      exact slw v _ v0 v1 q1 q2 q3
    · obtain ⟨a1, a2, a3⟩ := A2 i i0 i1 (by omega)
      rw [f4.1 i i2] at a1
      rw [f6 i i2] at a3
      refine W v i v0 (by omega) i0 (by omega) (fun _ => ?_) (fun u => by omega)
      rw [a3]
      exact slw v _ v0 v1 q1 q2 q3
    · obtain ⟨⟨y1, y2, y3⟩, y4, y5⟩ := R.2 j j0 j1
      obtain ⟨a1, a2, a3⟩ := A2 (gr 9696 j) y1 y2 (by omega)
      rw [f4.1 _ y3] at a1 a2
      refine W v _ v0 (by omega) y1 (by omega) (fun u => by omega) (fun _ => ?_)
      rw [a2 (by omega), f5 _ y3, rfA_at (n := (gr 6603 19).toNat) D2.2.2.2.2.2.2.2.1 (by omega) _ (Nat.le_refl _) j j0 (by omega), ← e]
    · have z := A6 j j0 j1
      rw [f2.2] at z
      exact z
  have B := BK K V CL AA
  have o1 := A1 (g T 17) (by omega) (by omega) (by omega) (fun j j0 j1 => by
    rw [f2.1] at j1
    rw [f2.2]
    have := (CLRx j j0 j1).2.1.1
    omega)
  have o2 := (A2 (gr S 15) (by omega) (by omega) (by omega)).1
  rw [f1.2.2] at o1
  rw [f4.2] at o2
  refine B n [] 1 1 (by decide) (by decide) (Int.le_refl _) (by decide) (by simp) (fun e m => absurd m List.not_mem_nil) (fun e m => absurd m List.not_mem_nil) ?_
  exact m_END (by omega) (by omega) o1 o2 (by decide) (by simp) (fun e m => absurd m List.not_mem_nil)
end SM
