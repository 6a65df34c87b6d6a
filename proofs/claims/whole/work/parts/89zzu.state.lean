/-! THE PURE SIDE, 143: the two parsers' states: printed by wip/tools/gen89zzu.py -/
/-- the first places of an array are the same -/
def PRE (lo n : Int) (f g : Int → Int) : Prop := ∀ i, lo ≤ i → 0 ≤ i → i < n → g i = f i
theorem PRE.rfl' {lo n : Int} {f : Int → Int} : PRE lo n f f := fun _ _ _ _ => rfl
theorem PRE.of_eq {lo n : Int} {f g : Int → Int} (e : g = f) : PRE lo n f g := fun _ _ _ _ => by rw [e]
theorem PRE.trans {lo n m : Int} {f g k : Int → Int} (a : PRE lo n f g) (b : PRE lo m g k) (h : n ≤ m) : PRE lo n f k := fun i x y z => (b i x y (by omega)).trans (a i x y z)
theorem PRE.lo {lo lo2 n : Int} {f g : Int → Int} (a : PRE lo n f g) (h : lo ≤ lo2) : PRE lo2 n f g := fun i x y z => a i (by omega) y z
/-- what stays on each side while a rule is read -/
def FXC (T : Int) (h g : HV) : Prop := (∀ o, o ≠ 129 → o ≠ 258 → o ≠ 353 → o ≠ 416 → o ≠ 481 → o ≠ 544 → o ≠ 608 → o ≠ T → o ≠ T + 1430 → g o = h o) ∧ (∀ i, i ≠ 15 → i ≠ 17 → g T i = h T i) ∧ ∀ i, (i ≠ 3 ∧ i ≠ 11) → i ≠ 6 → i ≠ 10 → g 258 i = h 258 i
def FXR (S : Int) (h g : HV) : Prop := (∀ o, o ≠ 6603 → o ≠ 9505 → o ≠ 9569 → o ≠ 9632 → o ≠ 9696 → o ≠ 9761 → o ≠ 9824 → o ≠ 9888 → o ≠ 9952 → o ≠ S → o ≠ S + 980 → o ≠ S + 1044 → o ≠ S + 1108 → o ≠ S + 1174 → o ≠ S + 1236 → o ≠ S + 1300 → g o = h o) ∧ (∀ i, i ≠ 14 → i ≠ 15 → i ≠ 20 → i ≠ 21 → i ≠ 22 → g S i = h S i) ∧ ∀ i, i ≠ 2 → i ≠ 3 → i ≠ 4 → i ≠ 5 → i ≠ 6 → i ≠ 7 → i ≠ 12 → i ≠ 13 → i ≠ 15 → i ≠ 19 → i ≠ 24 → g 6603 i = h 6603 i
theorem FXC.rfl' {T : Int} {h : HV} : FXC T h h := ⟨fun _ _ _ _ _ _ _ _ _ _ => rfl, fun _ _ _ => rfl, fun _ _ _ _ => rfl⟩
theorem FXC.trans {T : Int} {h g k : HV} (a : FXC T h g) (b : FXC T g k) : FXC T h k := ⟨fun o w1 w2 w3 w4 w5 w6 w7 w8 w9 => (b.1 o w1 w2 w3 w4 w5 w6 w7 w8 w9).trans (a.1 o w1 w2 w3 w4 w5 w6 w7 w8 w9), fun i w1 w2 => (b.2.1 i w1 w2).trans (a.2.1 i w1 w2), fun i w1 w2 w3 => (b.2.2 i w1 w2 w3).trans (a.2.2 i w1 w2 w3)⟩
theorem FXR.rfl' {S : Int} {h : HV} : FXR S h h := ⟨fun _ _ _ _ _ _ _ _ _ _ _ _ _ _ _ _ _ => rfl, fun _ _ _ _ _ _ => rfl, fun _ _ _ _ _ _ _ _ _ _ _ _ => rfl⟩
theorem FXR.trans {S : Int} {h g k : HV} (a : FXR S h g) (b : FXR S g k) : FXR S h k := ⟨fun o w1 w2 w3 w4 w5 w6 w7 w8 w9 x1 x2 x3 x4 x5 x6 x7 => (b.1 o w1 w2 w3 w4 w5 w6 w7 w8 w9 x1 x2 x3 x4 x5 x6 x7).trans (a.1 o w1 w2 w3 w4 w5 w6 w7 w8 w9 x1 x2 x3 x4 x5 x6 x7), fun i w1 w2 w3 w4 w5 => (b.2.1 i w1 w2 w3 w4 w5).trans (a.2.1 i w1 w2 w3 w4 w5), fun i w1 w2 w3 w4 w5 w6 w7 w8 w9 x1 x2 => (b.2.2 i w1 w2 w3 w4 w5 w6 w7 w8 w9 x1 x2).trans (a.2.2 i w1 w2 w3 w4 w5 w6 w7 w8 w9 x1 x2)⟩
/-- what was told before stays: code from c on, variables, calls; codes from r on, tries from t on -/
def ECP (T c : Int) (h g : HV) : Prop := (h T 17 ≤ g T 17 ∧ PRE c (h T 17) (h (T + 1430)) (g (T + 1430))) ∧ (h 258 6 ≤ g 258 6 ∧ PRE 0 (h 258 6) (h 353) (g 353) ∧ ∀ v, 0 ≤ v → v < h 258 6 → g 416 v = h 416 v ∨ g 416 v = -1) ∧ (h 258 10 ≤ g 258 10 ∧ (PRE 0 (h 258 10) (h 481) (g 481) ∧ PRE 0 (h 258 10) (h 544) (g 544) ∧ PRE 0 (h 258 10) (h 608) (g 608)) ∧ ∀ k, 0 ≤ k → h 258 10 ≤ k → k < g 258 10 → h T 17 < g 608 k)
def ERP (S r t : Int) (h g : HV) : Prop := (h S 15 ≤ g S 15 ∧ PRE r (h S 15) (h (S + 980)) (g (S + 980)) ∧ PRE r (h S 15) (h (S + 1044)) (g (S + 1044)) ∧ PRE r (h S 15) (h (S + 1108)) (g (S + 1108))) ∧ (h S 20 ≤ g S 20 ∧ PRE 0 (h S 20) (h (S + 1174)) (g (S + 1174))) ∧ (h 6603 15 ≤ g 6603 15 ∧ PRE 0 (h 6603 15) (h 9505) (g 9505)) ∧ (h 6603 19 ≤ g 6603 19 ∧ PRE 0 (h 6603 19) (h 9569) (g 9569) ∧ PRE 0 (h 6603 19) (h 9632) (g 9632) ∧ PRE 0 (h 6603 19) (h 9696) (g 9696)) ∧ (h 6603 24 ≤ g 6603 24 ∧ PRE 0 (h 6603 24) (h 9761) (g 9761) ∧ PRE 0 (h 6603 24) (h 9824) (g 9824) ∧ PRE 0 (h 6603 24) (h 9888) (g 9888) ∧ PRE 0 (h 6603 24) (h 9952) (g 9952)) ∧ h S 21 ≤ g S 21 ∧ (h S 22 ≤ g S 22 ∧ PRE (8 * t) (8 * h S 22) (h (S + 1236)) (g (S + 1236)) ∧ PRE t (h S 22) (h (S + 1300)) (g (S + 1300)))
theorem ECP.lo {T c c2 : Int} {h g : HV} (a : ECP T c h g) (l : c ≤ c2) : ECP T c2 h g := ⟨⟨a.1.1, a.1.2.lo l⟩, a.2⟩
theorem ECP.trans {T c : Int} {h g k : HV} (a : ECP T c h g) (b : ECP T c g k) : ECP T c h k := by
  obtain ⟨⟨a1, a2⟩, ⟨a3, a4, a5⟩, a6, ⟨a7, a8, a9⟩, a0⟩ := a
  obtain ⟨⟨b1, b2⟩, ⟨b3, b4, b5⟩, b6, ⟨b7, b8, b9⟩, b0⟩ := b
  refine ⟨⟨by omega, a2.trans b2 a1⟩, ⟨by omega, a4.trans b4 a3, fun v v0 v1 => ?_⟩, by omega, ⟨a7.trans b7 a6, a8.trans b8 a6, a9.trans b9 a6⟩, fun j z j0 j1 => ?_⟩
  · have x := a5 v v0 v1
    have y := b5 v v0 (by omega)
    omega
  · by_cases w : j < g 258 10
    · have x := a0 j z j0 w
      have y := b9 j z z w
      omega
    · have := b0 j z (by omega) j1
      omega
theorem ECP.rfl' {T c : Int} {h : HV} : ECP T c h h := ⟨⟨Int.le_refl _, PRE.rfl'⟩, ⟨Int.le_refl _, PRE.rfl', fun _ _ _ => .inl rfl⟩, Int.le_refl _, ⟨PRE.rfl', PRE.rfl', PRE.rfl'⟩, fun k _ a b => by omega⟩
theorem ERP.lo {S r r2 t t2 : Int} {h g : HV} (a : ERP S r t h g) (l : r ≤ r2) (m : t ≤ t2) : ERP S r2 t2 h g := ⟨⟨a.1.1, a.1.2.1.lo l, a.1.2.2.1.lo l, a.1.2.2.2.lo l⟩, a.2.1, a.2.2.1, a.2.2.2.1, a.2.2.2.2.1, a.2.2.2.2.2.1, a.2.2.2.2.2.2.1, a.2.2.2.2.2.2.2.1.lo (by omega), a.2.2.2.2.2.2.2.2.lo m⟩
theorem ERP.rfl' {S r t : Int} {h : HV} : ERP S r t h h := ⟨⟨Int.le_refl _, PRE.rfl', PRE.rfl', PRE.rfl'⟩, ⟨Int.le_refl _, PRE.rfl'⟩, ⟨Int.le_refl _, PRE.rfl'⟩, ⟨Int.le_refl _, PRE.rfl', PRE.rfl', PRE.rfl'⟩, ⟨Int.le_refl _, PRE.rfl', PRE.rfl', PRE.rfl', PRE.rfl'⟩, Int.le_refl _, Int.le_refl _, PRE.rfl', PRE.rfl'⟩
theorem ERP.trans {S r t : Int} {h g k : HV} (a : ERP S r t h g) (b : ERP S r t g k) : ERP S r t h k := by
  obtain ⟨⟨a1, a2, a3, a4⟩, ⟨a5, a6⟩, ⟨a7, a8⟩, ⟨a9, c1, c2, c3⟩, ⟨c4, c5, c6, c7, c8⟩, c9, d1, d2, d3⟩ := a
  obtain ⟨⟨e1, e2, e3, e4⟩, ⟨e5, e6⟩, ⟨e7, e8⟩, ⟨e9, f1, f2, f3⟩, ⟨f4, f5, f6, f7, f8⟩, f9, g1, g2, g3⟩ := b
  exact ⟨⟨by omega, a2.trans e2 a1, a3.trans e3 a1, a4.trans e4 a1⟩, ⟨by omega, a6.trans e6 a5⟩, ⟨by omega, a8.trans e8 a7⟩, ⟨by omega, c1.trans f1 a9, c2.trans f2 a9, c3.trans f3 a9⟩, ⟨by omega, c5.trans f5 c4, c6.trans f6 c4, c7.trans f7 c4, c8.trans f8 c4⟩, by omega, by omega, d2.trans g2 (by omega), d3.trans g3 d1⟩
/-- the numbers of both sides -/
def STQ (bX : Int) (h hr : HV) : Prop := bX = 1 → hr 6603 13 = h 258 3 ∧ 0 ≤ h 258 3 ∧ h 258 3 ≤ 30
def NBR (bX : Int) (T S s : Int) (h hr : HV) : Prop := (0 ≤ h T 15 ∧ h T 15 ≤ 400 ∧ hr S 14 = h T 15) ∧ (STQ bX h hr ∧ 0 ≤ hr 6603 13 ∧ hr 6603 13 ≤ 30) ∧ (0 ≤ h T 17 ∧ 2 * h T 17 ≤ 6 * h T 15 + s) ∧ (0 ≤ hr S 15 ∧ hr S 15 ≤ 11 * h T 15 + hr (S + 84) 6 ∧ 0 ≤ hr (S + 84) 6 ∧ hr (S + 84) 6 ≤ 12) ∧ (0 ≤ h 258 6 ∧ h 258 6 ≤ 4 + h T 15) ∧ (0 ≤ hr 6603 15 ∧ hr 6603 15 ≤ 4 + h T 15) ∧ (0 ≤ hr 6603 19 ∧ hr 6603 19 ≤ h T 15) ∧ (h 258 10 = hr 6603 24 ∧ 0 ≤ h 258 10 ∧ h 258 10 ≤ h T 15) ∧ (0 ≤ hr S 20 ∧ hr S 20 ≤ h T 15) ∧ (0 ≤ hr S 21 ∧ hr S 21 ≤ h T 15) ∧ 0 ≤ hr S 22 ∧ hr S 22 ≤ h T 15
/-- the variables: told, or used first at a place -/
def VTL (h hr : HV) (v : Int) : Prop := (h 416 v = -1 ∧ ∃ j, (0 ≤ j ∧ j < hr 6603 15) ∧ hr 9505 j = h 353 v) ∨ (0 ≤ h 416 v ∧ (∀ j, 0 ≤ j → j < hr 6603 15 → hr 9505 j ≠ h 353 v) ∧ ∀ k, 0 ≤ k → k < hr 6603 19 → hr 9569 k = h 353 v → h 416 v ≤ hr 9632 k)
def NM0 (h hr : HV) : Prop := (∀ v w, 0 ≤ v → v < h 258 6 → 0 ≤ w → w < h 258 6 → h 353 v = h 353 w → v = w) ∧ (∀ v w, 0 ≤ v → v < hr 6603 15 → 0 ≤ w → w < hr 6603 15 → hr 9505 v = hr 9505 w → v = w) ∧ (∀ v, 0 ≤ v → v < h 258 6 → VTL h hr v) ∧ (∀ j, 0 ≤ j → j < hr 6603 15 → ∃ v, (0 ≤ v ∧ v < h 258 6) ∧ h 353 v = hr 9505 j) ∧ ∀ k, 0 ≤ k → k < hr 6603 19 → ∃ v, (0 ≤ v ∧ v < h 258 6) ∧ h 353 v = hr 9569 k
def NMS (s : Int) (h hr : HV) : Prop := NM0 h hr ∧ ∀ v, 0 ≤ v → v < h 258 6 → h 416 v ≤ s
theorem NMS.mono {s s2 : Int} {h hr : HV} (N : NMS s h hr) (l : s ≤ s2) : NMS s2 h hr := ⟨N.1, fun v a b => Int.le_trans (N.2 v a b) l⟩
/-- the calls, in the order of the code -/
def CLR (T S : Int) (h hr : HV) : Prop := ∀ k, 0 ≤ k → k < h 258 10 → (h 481 k = hr 9761 k ∧ h 544 k = hr 9824 k ∧ 0 ≤ h 544 k) ∧ ((1 ≤ h 608 k ∧ h 608 k + 1 < h T 17) ∧ h (T + 1430) (h 608 k + 1) = hr 9952 k ∧ 0 ≤ hr 9952 k) ∧ (0 ≤ hr 9888 k ∧ hr 9888 k < hr S 15) ∧ ∀ j, 0 ≤ j → j < k → h 608 j + 1 < h 608 k ∧ hr 9888 j < hr 9888 k
def TRI0 (S : Int) (hr : HV) : Prop := ∀ i, 0 ≤ i → i < hr S 15 → hr (S + 980) i = 24 → 0 ≤ hr (S + 1044) i ∧ hr (S + 1044) i < hr S 22
/-- the names noted lie at codes of the rule, in their order; calls lie at calls -/
def RFI (S : Int) (hr : HV) : Prop := hr (S + 916) (hr (S + 84) 6 - 1) ≤ hr S 15 ∧ ∀ k, 0 ≤ k → k < hr 6603 19 → (hr (S + 916) (hr (S + 84) 6 - 1) ≤ hr 9696 k ∧ 0 ≤ hr 9696 k ∧ hr 9696 k < hr S 15) ∧ (hr (S + 980) (hr 9696 k) = 4 ∨ hr (S + 980) (hr 9696 k) = 6) ∧ ∀ j, 0 ≤ j → j < k → hr 9696 j < hr 9696 k
def CLI (S : Int) (hr : HV) : Prop := ∀ k, 0 ≤ k → k < hr 6603 24 → (0 ≤ hr 9888 k ∧ hr 9888 k < hr S 15) ∧ hr (S + 980) (hr 9888 k) = 7
def TRI (S : Int) (hr : HV) : Prop := TRI0 S hr ∧ RFI S hr ∧ CLI S hr
theorem RFI.gr {S : Int} {h g : HV} (N : RFI S h) (e1 : h S 15 ≤ g S 15) (e2 : ∀ i, 0 ≤ i → i < h S 15 → g (S + 980) i = h (S + 980) i) (e4 : g 6603 19 = h 6603 19) (e5 : g 9696 = h 9696) (e6 : g (S + 916) = h (S + 916)) (e7 : g (S + 84) = h (S + 84)) : RFI S g := by
  obtain ⟨n1, n2⟩ := N
  unfold RFI
  rw [e4, e5, e6, e7]
  refine ⟨by omega, fun k k0 k1 => ?_⟩
  obtain ⟨a, b, c⟩ := n2 k k0 k1
  exact ⟨⟨a.1, a.2.1, by omega⟩, by rw [e2 _ a.2.1 a.2.2]; exact b, c⟩
theorem CLI.gr {S : Int} {h g : HV} (N : CLI S h) (e1 : h S 15 ≤ g S 15) (e2 : ∀ i, 0 ≤ i → i < h S 15 → g (S + 980) i = h (S + 980) i) (e4 : g 6603 24 = h 6603 24) (e5 : g 9888 = h 9888) : CLI S g := by
  unfold CLI
  rw [e4, e5]
  intro k k0 k1
  obtain ⟨a, b⟩ := N k k0 k1
  exact ⟨⟨a.1, by omega⟩, by rw [e2 _ a.1 a.2]; exact b⟩
theorem NMS.fr {s : Int} {h hr g gr : HV} (N : NMS s h hr) (e1 : g 258 6 = h 258 6) (e2 : g 353 = h 353) (e3 : g 416 = h 416) (e4 : gr 6603 15 = hr 6603 15) (e5 : gr 9505 = hr 9505) (e6 : gr 6603 19 = hr 6603 19) (e7 : gr 9569 = hr 9569) (e8 : gr 9632 = hr 9632) : NMS s g gr := by
  unfold NMS NM0 VTL at *
  rw [e1, e2, e3, e4, e5, e6, e7, e8]
  exact N
theorem CLR.fr {T S : Int} {h hr g gr : HV} (N : CLR T S h hr) (e1 : g 258 10 = h 258 10) (e2 : g 481 = h 481) (e3 : g 544 = h 544) (e4 : g 608 = h 608) (l : h T 17 ≤ g T 17) (p : PRE 0 (h T 17) (h (T + 1430)) (g (T + 1430))) (e5 : gr 9761 = hr 9761) (e6 : gr 9824 = hr 9824) (e7 : gr 9888 = hr 9888) (e8 : gr 9952 = hr 9952) (m : hr S 15 ≤ gr S 15) : CLR T S g gr := by
  unfold CLR at *
  rw [e1, e2, e3, e4, e5, e6, e7, e8]
  intro k k0 k1
  obtain ⟨a, ⟨b, c, d⟩, e, f⟩ := N k k0 k1
  exact ⟨a, ⟨⟨b.1, by omega⟩, by rw [p _ (by omega) (by omega) (by omega)]; exact c, d⟩, ⟨e.1, by omega⟩, f⟩
theorem TRI.fr {S : Int} {h g : HV} (N : TRI S h) (e1 : g S 15 = h S 15) (e2 : g (S + 980) = h (S + 980)) (e3 : g (S + 1044) = h (S + 1044)) (l : h S 22 ≤ g S 22) (e4 : g 6603 19 = h 6603 19 ∧ g 6603 24 = h 6603 24) (e5 : g 9696 = h 9696 ∧ g 9888 = h 9888 ∧ g (S + 916) = h (S + 916) ∧ g (S + 84) = h (S + 84)) : TRI S g := by
  refine ⟨?_, N.2.1.gr (by omega) (fun i _ _ => by rw [e2]) e4.1 e5.1 e5.2.2.1 e5.2.2.2, N.2.2.gr (by omega) (fun i _ _ => by rw [e2]) e4.2 e5.2.1⟩
  unfold TRI0
  rw [e1, e2, e3]
  intro i a b c
  have := N.1 i a b c
  omega
/-- both stand, at the token at s; both have met the fault f -/
def GRS (bX : Int) (T S s : Int) (h hr : HV) : Prop := ((TC T ∧ h 258 1 = T) ∧ TR S ∧ hr 6603 9 = S) ∧ (STS h ∧ STS hr) ∧ NBR bX T S s h hr ∧ NMS s h hr ∧ CLR T S h hr ∧ TRI S hr
def GD (bX : Int) (tp : Int → Int) (t T S s : Int) (h hr : HV) : Prop := (TOK tp t s ∧ TKh tp t s h ∧ TKq tp t s hr) ∧ GRS bX T S s h hr
def BDC (T f : Int) (h : HV) : Prop := (TC T ∧ h 258 1 = T) ∧ (h 129 3 = f ∧ 0 ≤ f ∧ h 129 4 = 5) ∧ STS h ∧ (0 ≤ h T 17 ∧ h T 17 ≤ 2400) ∧ (0 ≤ h 258 6 ∧ h 258 6 ≤ 404) ∧ 0 ≤ h 258 10 ∧ h 258 10 ≤ 400
def BDR (S f : Int) (h : HV) : Prop := (TR S ∧ h 6603 9 = S) ∧ (h 6603 7 = f ∧ 0 ≤ f ∧ 0 ≤ h 6603 19 ∧ h 6603 19 ≤ 401) ∧ STS h ∧ (0 ≤ h S 14 ∧ h S 14 ≤ 400) ∧ 0 ≤ h S 15 ∧ h S 15 ≤ 11 * h S 14 + 14
section SM
variable {bX : Int} {tp : Int → Int} {t T S s : Int} {h hr g gr : HV}
/-- the fault is met here -/
theorem GD.bad (D : GD bX tp t T S s h hr) : BDC T s (bdH h) ∧ BDR S s (bdR hr) ∧ FXC T h (bdH h) ∧ FXR S hr (bdR hr) := by
  obtain ⟨⟨K, ⟨⟨k1, k2, k3, k4, k5⟩, -⟩, ⟨⟨q1, q2, q3, q4, q5⟩, -⟩⟩, ⟨⟨d1, d2⟩, d3, d4⟩, ⟨s1, s2⟩, N, -⟩ := D
  have kT := kTC d1
  have kS := kTR d3
  have s0 : 0 ≤ s ∧ s ≤ t ∧ t ≤ 2400 := K.1
  unfold NBR STQ at N
  unfold bdH bdR
  have e1 : ∀ o, o ≠ 129 → hset (hset h 129 3 (h 129 5)) 129 4 5 o = h o := fun o w => by rw [hs_ne w, hs_ne w]
  have e2 : ∀ o, o ≠ 6603 → hset hr 6603 7 (hr 6603 3) o = hr o := fun o w => hs_ne w
  have e3 : ∀ i, i ≠ 7 → hset hr 6603 7 (hr 6603 3) 6603 i = hr 6603 i := fun i w => hcell w
  refine ⟨⟨⟨d1, by rw [e1 _ (by decide)]; exact d2⟩, ⟨by rw [hcell (by decide), hcel1]; exact k3, s0.1, hcel1⟩, fun a w => by rw [e1 a (by omega)]; exact s1 a w, ?_, ?_, ?_⟩, ⟨⟨d3, by rw [e3 9 (by decide)]; exact d4⟩, ⟨by rw [hcel1]; exact q3, s0.1, by rw [e3 19 (by decide)]; omega⟩, fun a w => by rw [e2 a (by omega)]; exact s2 a w, ?_, ?_⟩, ⟨fun o w _ _ _ _ _ _ _ _ => e1 o w, fun i _ _ => by rw [e1 T (by omega)], fun i _ _ _ => by rw [e1 258 (by decide)]⟩, ⟨fun o w _ _ _ _ _ _ _ _ _ _ _ _ _ _ _ => e2 o w, fun i _ _ _ _ _ => by rw [e2 S (by omega)], fun i _ _ _ _ _ w _ _ _ _ _ => e3 i w⟩⟩
  · rw [e1 T (by omega)]
    omega
  · rw [e1 258 (by decide)]
    omega
  · rw [e1 258 (by decide)]
    omega
  · rw [e2 S (by omega)]
    omega
  · rw [e2 S (by omega)]
    omega
/-- nothing but the token is new -/
def SAC (h g : HV) : Prop := ∀ o, o ≠ 129 → g o = h o
def SAR (h g : HV) : Prop := (∀ o, o ≠ 6603 → g o = h o) ∧ ∀ i, i ≠ 2 → i ≠ 3 → i ≠ 4 → i ≠ 5 → i ≠ 6 → g 6603 i = h 6603 i
theorem SAC.ec {c : Int} (hT : TC T) (e : SAC h g) : ECP T c h g ∧ FXC T h g := by
  have kT := kTC hT
  refine ⟨?_, fun o w _ _ _ _ _ _ _ _ => e o w, fun i _ _ => by rw [e T (by omega)], fun i _ _ _ => by rw [e 258 (by decide)]⟩
  unfold ECP
  rw [e T (by omega), e (T + 1430) (by omega), e 258 (by decide), e 353 (by decide), e 416 (by decide), e 481 (by decide), e 544 (by decide), e 608 (by decide)]
  exact ECP.rfl'
theorem SAR.er {r t2 : Int} (hS : TR S) (e : SAR h g) : ERP S r t2 h g ∧ FXR S h g := by
  have kS := kTR hS
  refine ⟨?_, fun o w _ _ _ _ _ _ _ _ _ _ _ _ _ _ _ => e.1 o w, fun i _ _ _ _ _ => by rw [e.1 S (by omega)], fun i a b c d f _ _ _ _ _ _ => e.2 i a b c d f⟩
  unfold ERP
  rw [e.1 S (by omega), e.1 (S + 980) (by omega), e.1 (S + 1044) (by omega), e.1 (S + 1108) (by omega), e.1 (S + 1174) (by omega), e.1 (S + 1236) (by omega), e.1 (S + 1300) (by omega), e.2 15 (by decide) (by decide) (by decide) (by decide) (by decide), e.2 19 (by decide) (by decide) (by decide) (by decide) (by decide), e.2 24 (by decide) (by decide) (by decide) (by decide) (by decide), e.1 9505 (by decide), e.1 9569 (by decide), e.1 9632 (by decide), e.1 9696 (by decide), e.1 9761 (by decide), e.1 9824 (by decide), e.1 9888 (by decide), e.1 9952 (by decide)]
  exact ERP.rfl'
theorem GRS.tok {s2 : Int} (D : GRS bX T S s h hr) (a : SAC h g) (b : SAR hr gr) (hs : s ≤ s2) : GRS bX T S s2 g gr := by
  obtain ⟨⟨⟨d1, d2⟩, d3, d4⟩, ⟨s1, s3⟩, N, M, L, R⟩ := D
  have kT := kTC d1
  have kS := kTR d3
  have r := b.2
  refine ⟨⟨⟨d1, by rw [a 258 (by decide)]; exact d2⟩, d3, by rw [r 9 (by decide) (by decide) (by decide) (by decide) (by decide)]; exact d4⟩, ⟨fun o w => by rw [a o (by omega)]; exact s1 o w, fun o w => by rw [b.1 o (by omega)]; exact s3 o w⟩, ?_, ?_, ?_, ?_⟩
  · unfold NBR STQ at *
    rw [a T (by omega), b.1 S (by omega), b.1 (S + 84) (by omega), a 258 (by decide), r 13 (by decide) (by decide) (by decide) (by decide) (by decide), r 15 (by decide) (by decide) (by decide) (by decide) (by decide), r 19 (by decide) (by decide) (by decide) (by decide) (by decide), r 24 (by decide) (by decide) (by decide) (by decide) (by decide)]
    omega
  · exact NMS.mono (M.fr (by rw [a 258 (by decide)]) (a _ (by decide)) (a _ (by decide)) (r 15 (by decide) (by decide) (by decide) (by decide) (by decide)) (b.1 _ (by decide)) (r 19 (by decide) (by decide) (by decide) (by decide) (by decide)) (b.1 _ (by decide)) (b.1 _ (by decide))) hs
  · exact L.fr (by rw [a 258 (by decide)]) (a _ (by decide)) (a _ (by decide)) (a _ (by decide)) (by rw [a T (by omega)]; exact Int.le_refl _) (PRE.of_eq (a _ (by omega))) (b.1 _ (by decide)) (b.1 _ (by decide)) (b.1 _ (by decide)) (b.1 _ (by decide)) (by rw [b.1 S (by omega)]; exact Int.le_refl _)
  · exact R.fr (by rw [b.1 S (by omega)]) (b.1 _ (by omega)) (b.1 _ (by omega)) (by rw [b.1 S (by omega)]; exact Int.le_refl _) ⟨r 19 (by decide) (by decide) (by decide) (by decide) (by decide), r 24 (by decide) (by decide) (by decide) (by decide) (by decide)⟩ ⟨b.1 _ (by decide), b.1 _ (by decide), b.1 _ (by omega), b.1 _ (by omega)⟩
theorem GD.tok {s2 : Int} (D : GD bX tp t T S s h hr) (a : SAC h g) (b : SAR hr gr) (hs : s ≤ s2) (T2 : TOK tp t s2) (k1 : TKh tp t s2 g) (k2 : TKq tp t s2 gr) : GD bX tp t T S s2 g gr := ⟨⟨T2, k1, k2⟩, D.2.tok a b hs⟩
/-- the next token on both sides -/
theorem GD.next (D : GD bX tp t T S s h hr) (d e : Nat) : ∃ g gr, GD bX tp t T S (nxS tp t s) g gr ∧ s ≤ tkE tp t s ∧ tkE tp t s ≤ nxS tp t s ∧ SAC h g ∧ SAR hr gr ∧ (∀ Q, Sp fz1 (d + 8) 28 [(3, 129), (0, 1)] h Q = Q 0 g) ∧ ∀ Q, Sp fz1 (e + 2) 321 [(3, 6603)] hr Q = Q 0 gr := by
  have D0 := D
  obtain ⟨⟨k, k1, k2⟩, -, ⟨s1, s3⟩, -⟩ := D
  have S1 : STR h (-51) SGL := str_0 s1
  obtain ⟨g, ⟨c1, c2⟩, c3⟩ := c_next (d := d) k k1 S1
  obtain ⟨gr, ⟨r1, r2, r3⟩, r4⟩ := r_next (d := e) k k2
  have b1 := tkE_b (tp := tp) k.1.2.1
  have b2 := nxS_b (tp := tp) k.1.2.1
  have b3 := k.1.1
  exact ⟨g, gr, D0.tok c2 ⟨r2, r3⟩ (by omega) k.n c1 r1, by omega, by omega, c2, ⟨r2, r3⟩, c3, r4⟩
end SM
