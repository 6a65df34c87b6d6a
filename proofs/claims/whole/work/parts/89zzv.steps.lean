/-! THE PURE SIDE, 144: the two parsers' small steps: printed by wip/tools/gen89zzv.py -/
theorem fnx_sp {f : Int → Int} {w z m : Int} (hm : 0 ≤ m) : (0 ≤ fnx f w z m.toNat 0 ∧ fnx f w z m.toNat 0 < m ∧ f (fnx f w z m.toNat 0) = w) ∨ (fnx f w z m.toNat 0 = z ∧ ∀ i, 0 ≤ i → i < m → f i ≠ w) := by
  rcases fnx_both (f := f) (g := f) (c := w) (d1 := z) (d2 := z) m.toNat 0 (fun _ _ _ => rfl) with ⟨-, a, b, c⟩ | ⟨a, -, b⟩
  · exact .inl ⟨a, by omega, c⟩
  · exact .inr ⟨a, fun i i0 i1 => b i i0 (by omega)⟩
/-- a place of the class's code that no call's rule is written to; a code of the reference -/
def PLN (T : Int) (h : HV) (i : Int) : Prop := (0 ≤ i ∧ i < h T 17) ∧ ∀ k, 0 ≤ k → k < h 258 10 → h 608 k ≠ i
def CEL (T : Int) (h : HV) (i x : Int) : Prop := PLN T h i ∧ h (T + 1430) i = x
def RCO (S : Int) (h : HV) (i p a b : Int) : Prop := (0 ≤ i ∧ i < h S 15) ∧ h (S + 980) i = p ∧ h (S + 1044) i = a ∧ h (S + 1108) i = b
theorem PLN.ec {T c i : Int} {h g : HV} (C : PLN T h i) (E : ECP T c h g) : PLN T g i := by
  obtain ⟨⟨a, b⟩, d⟩ := C
  refine ⟨⟨a, by have := E.1.1; omega⟩, fun k k0 k1 => ?_⟩
  by_cases w : k < h 258 10
  · rw [E.2.2.2.1.2.2 k k0 k0 w]
    exact d k k0 w
  · have := E.2.2.2.2 k k0 (by omega) k1
    omega
theorem CEL.ec {T c i x : Int} {h g : HV} (C : CEL T h i x) (E : ECP T c h g) (hc : c ≤ i) : CEL T g i x := ⟨C.1.ec E, by rw [E.1.2 i hc C.1.1.1 C.1.1.2]; exact C.2⟩
theorem RCO.er {S r t i p a b : Int} {h g : HV} (C : RCO S h i p a b) (E : ERP S r t h g) (hr : r ≤ i) : RCO S g i p a b := by
  obtain ⟨⟨a0, a1⟩, c1, c2, c3⟩ := C
  obtain ⟨⟨e1, e2, e3, e4⟩, -⟩ := E
  exact ⟨⟨a0, by omega⟩, (e2 i hr a0 a1).trans c1, (e3 i hr a0 a1).trans c2, (e4 i hr a0 a1).trans c3⟩
/-- the code at the end agrees with what was told since: from c, r, t on -/
def AGK (K : HV) (V CL : Int → Int → Prop) (T S c r t : Int) (h hr : HV) : Prop := (∀ i, c ≤ i → 0 ≤ i → i < h T 17 → (∀ k, 0 ≤ k → k < h 258 10 → h 608 k ≠ i) → K 0 i = h (T + 1430) i) ∧ (∀ i, r ≤ i → 0 ≤ i → i < hr S 15 → K 1 i = hr (S + 980) i ∧ (hr (S + 980) i ≠ 4 → hr (S + 980) i ≠ 6 → hr (S + 980) i ≠ 7 → K 2 i = hr (S + 1044) i) ∧ (hr (S + 980) i = 24 → t ≤ hr (S + 1044) i → K 3 i = hr (S + 1108) i)) ∧ (∀ i, 0 ≤ i → i < hr S 20 → K 6 i = hr (S + 1174) i) ∧ (∀ i, 8 * t ≤ i → 0 ≤ i → i < 8 * hr S 22 → K 4 i = hr (S + 1236) i) ∧ (∀ i, t ≤ i → 0 ≤ i → i < hr S 22 → K 5 i = hr (S + 1300) i) ∧
  (∀ i v, r ≤ i → 0 ≤ i → i < hr S 15 → 0 ≤ v → v < h 258 6 → hr (S + 980) i = 5 → 0 ≤ hr (S + 1044) i → hr (S + 1044) i < hr 6603 15 → h 353 v = hr 9505 (hr (S + 1044) i) → V v i) ∧ (∀ i v, r ≤ i → 0 ≤ i → i < hr S 15 → 0 ≤ v → v < h 258 6 → hr (S + 980) i = 22 → 0 ≤ hr (S + 1108) i → hr (S + 1108) i < hr 6603 15 → h 353 v = hr 9505 (hr (S + 1108) i) → V v i) ∧ (∀ k v, 0 ≤ k → k < hr 6603 19 → 0 ≤ v → v < h 258 6 → h 353 v = hr 9569 k → V v (hr 9696 k)) ∧ ∀ k, 0 ≤ k → k < h 258 10 → CL (h 608 k - 1) (hr 9888 k)
section AG
variable {K : HV} {V CL : Int → Int → Prop} {T S c r t c2 r2 t2 : Int} {h hr g gr : HV}
theorem AGK.cel {i x : Int} (A : AGK K V CL T S c r t h hr) (hi : c ≤ i) (C : CEL T h i x) : K 0 i = x := (A.1 i hi C.1.1.1 C.1.1.2 C.1.2).trans C.2
theorem AGK.rco {i p a b : Int} (A : AGK K V CL T S c r t h hr) (hi : r ≤ i) (C : RCO S hr i p a b) : K 1 i = p ∧ (p ≠ 4 → p ≠ 6 → p ≠ 7 → K 2 i = a) ∧ (p = 24 → t ≤ a → K 3 i = b) := by
  obtain ⟨⟨c0, c1⟩, c2, c3, c4⟩ := C
  have q := A.2.1 i hi c0 c1
  rw [c2, c3, c4] at q
  exact q
theorem AGK.lo (A : AGK K V CL T S c r t h hr) (l1 : c ≤ c2) (l2 : r ≤ r2) (l3 : t ≤ t2) : AGK K V CL T S c2 r2 t2 h hr := by
  obtain ⟨a1, a2, a3, a4, a5, a6, a7, a8, a9⟩ := A
  exact ⟨fun i x => a1 i (by omega), fun i x y z => ⟨(a2 i (by omega) y z).1, (a2 i (by omega) y z).2.1, fun p q => (a2 i (by omega) y z).2.2 p (by omega)⟩, a3, fun i x => a4 i (by omega), fun i x => a5 i (by omega), fun i v x => a6 i v (by omega), fun i v x => a7 i v (by omega), a8, a9⟩
/-- as ERP; what leads out of tries below t may be told anew -/
def ERQ (S r t : Int) (h g : HV) : Prop := (h S 15 ≤ g S 15 ∧ PRE r (h S 15) (h (S + 980)) (g (S + 980)) ∧ PRE r (h S 15) (h (S + 1044)) (g (S + 1044)) ∧ ∀ i, r ≤ i → 0 ≤ i → i < h S 15 → (h (S + 980) i = 24 → t ≤ h (S + 1044) i) → g (S + 1108) i = h (S + 1108) i) ∧ (h S 20 ≤ g S 20 ∧ PRE 0 (h S 20) (h (S + 1174)) (g (S + 1174))) ∧ (h 6603 15 ≤ g 6603 15 ∧ PRE 0 (h 6603 15) (h 9505) (g 9505)) ∧ (h 6603 19 ≤ g 6603 19 ∧ PRE 0 (h 6603 19) (h 9569) (g 9569) ∧ PRE 0 (h 6603 19) (h 9632) (g 9632) ∧ PRE 0 (h 6603 19) (h 9696) (g 9696)) ∧ (h 6603 24 ≤ g 6603 24 ∧ PRE 0 (h 6603 24) (h 9761) (g 9761) ∧ PRE 0 (h 6603 24) (h 9824) (g 9824) ∧ PRE 0 (h 6603 24) (h 9888) (g 9888) ∧ PRE 0 (h 6603 24) (h 9952) (g 9952)) ∧ h S 21 ≤ g S 21 ∧ (h S 22 ≤ g S 22 ∧ PRE (8 * t) (8 * h S 22) (h (S + 1236)) (g (S + 1236)) ∧ PRE t (h S 22) (h (S + 1300)) (g (S + 1300)))
theorem ERP.q (E : ERP S r t h g) : ERQ S r t h g := ⟨⟨E.1.1, E.1.2.1, E.1.2.2.1, fun i x y z _ => E.1.2.2.2 i x y z⟩, E.2⟩
theorem AGK.subq (A : AGK K V CL T S c r t g gr) (q0 : h 258 10 = hr 6603 24) (E : ECP T c2 h g) (F : ERQ S r2 t2 hr gr) (l1 : c ≤ c2) (l2 : r ≤ r2) (l3 : t ≤ t2) : AGK K V CL T S c2 r2 t2 h hr := by
  obtain ⟨a1, a2, a3, a4, a5, a6, a7, a8, a9⟩ := A
  obtain ⟨⟨e1, e2⟩, ⟨e3, e4, -⟩, e6, ⟨-, -, e7⟩, e8⟩ := E
  obtain ⟨⟨f1, f2, f3, f4⟩, ⟨f5, f6⟩, ⟨f7, f8⟩, ⟨f9, b1, -, b3⟩, ⟨b4, -, -, b7, -⟩, -, d1, d2, d3⟩ := F
  refine ⟨fun i x y z w => ?_, fun i x y z => ?_, fun i x y => ?_, fun i x y z => ?_, fun i x y z => ?_, fun i v x y z v0 v1 q1 q2 q3 q4 => ?_, fun i v x y z v0 v1 q1 q2 q3 q4 => ?_, fun k v k0 k1 v0 v1 q => ?_, fun k k0 k1 => ?_⟩
  · rw [← e2 i x y z]
    refine a1 i (by omega) y (by omega) (fun k k0 k1 => ?_)
    by_cases u : k < h 258 10
    · rw [e7 k k0 k0 u]
      exact w k k0 u
    · have := e8 k k0 (by omega) k1
      omega
  · obtain ⟨u1, u2, u3⟩ := a2 i (by omega) y (by omega)
    rw [f2 i x y z, f3 i x y z] at u2 u3
    rw [f2 i x y z] at u1
    refine ⟨u1, u2, fun p q => ?_⟩
    rw [← f4 i x y z (fun _ => q)]
    exact u3 p (by omega)
  · rw [← f6 i x x y]
    exact a3 i x (by omega)
  · rw [← d2 i x y z]
    exact a4 i (by omega) y (by omega)
  · rw [← d3 i x y z]
    exact a5 i (by omega) y (by omega)
  · have o1 := f2 i x y z
    have o2 := f3 i x y z
    refine a6 i v (by omega) y (by omega) v0 (by omega) (by rw [o1]; exact q1) (by rw [o2]; exact q2) (by rw [o2]; omega) ?_
    rw [o2, e4 v v0 v0 v1, f8 _ q2 q2 q3]
    exact q4
  · have o1 := f2 i x y z
    have o2 := f4 i x y z (fun w => by omega)
    refine a7 i v (by omega) y (by omega) v0 (by omega) (by rw [o1]; exact q1) (by rw [o2]; exact q2) (by rw [o2]; omega) ?_
    rw [o2, e4 v v0 v0 v1, f8 _ q2 q2 q3]
    exact q4
  · rw [← b3 k k0 k0 k1]
    refine a8 k v k0 (by omega) v0 (by omega) ?_
    rw [e4 v v0 v0 v1, b1 k k0 k0 k1]
    exact q
  · rw [← e7 k k0 k0 k1, ← b7 k k0 k0 (by omega)]
    exact a9 k k0 (by omega)
theorem AGK.sub (A : AGK K V CL T S c r t g gr) (q0 : h 258 10 = hr 6603 24) (E : ECP T c2 h g) (F : ERP S r2 t2 hr gr) (l1 : c ≤ c2) (l2 : r ≤ r2) (l3 : t ≤ t2) : AGK K V CL T S c2 r2 t2 h hr := A.subq q0 E F.q l1 l2 l3
end AG
section SM
variable {bX : Int} {tp : Int → Int} {t T S s : Int} {h hr g gr : HV}
theorem TKh.fr (K : TKh tp t s h) (e1 : g 129 = h 129) (e2 : g 227 = h 227) : TKh tp t s g := by
  unfold TKh at *
  rw [e1, e2]
  exact K
theorem TKf.fr {fu : Int} (K : TKf tp t s fu hr) (e : ∀ i, 1 ≤ i → i ≤ 7 → gr 6603 i = hr 6603 i) (e2 : gr 6691 = hr 6691) : TKf tp t s fu gr := by
  unfold TKf at *
  rw [e 1 (by decide) (by decide), e 7 (by decide) (by decide), e 3 (by decide) (by decide), e 4 (by decide) (by decide), e 2 (by decide) (by decide), e 5 (by decide) (by decide), e 6 (by decide) (by decide), e2]
  exact K
theorem GRS.cls (D : GRS bX T S s h hr) (e1 : g 258 1 = h 258 1) (e2 : ∀ o, o < 0 → g o = h o) (N : NBR bX T S s g hr) (M : NMS s g hr) (L : CLR T S g hr) : GRS bX T S s g hr := by
  obtain ⟨⟨⟨d1, d2⟩, d3, d4⟩, ⟨s1, s3⟩, -, -, -, R⟩ := D
  exact ⟨⟨⟨d1, by rw [e1]; exact d2⟩, d3, d4⟩, ⟨fun o w => by rw [e2 o w]; exact s1 o w, s3⟩, N, M, L, R⟩
theorem GRS.ref (D : GRS bX T S s h hr) (e1 : gr 6603 9 = hr 6603 9) (e2 : ∀ o, o < 0 → gr o = hr o) (N : NBR bX T S s h gr) (M : NMS s h gr) (L : CLR T S h gr) (R : TRI S gr) : GRS bX T S s h gr := by
  obtain ⟨⟨⟨d1, d2⟩, d3, d4⟩, ⟨s1, s3⟩, -⟩ := D
  exact ⟨⟨⟨d1, d2⟩, d3, by rw [e1]; exact d4⟩, ⟨s1, fun o w => by rw [e2 o w]; exact s3 o w⟩, N, M, L, R⟩
/-- an int more of the class's code -/
theorem GRS.em {x : Int} (D : GRS bX T S s h hr) (hs : s ≤ 2400) (l : 2 * (h T 17 + 1) ≤ 6 * h T 15 + s) : GRS bX T S s (emH T h x) hr ∧ ECP T 0 h (emH T h x) ∧ FXC T h (emH T h x) ∧ emH T h x T 17 = h T 17 + 1 ∧ CEL T (emH T h x) (h T 17) x ∧ (∀ o, o ≠ T → o ≠ T + 1430 → emH T h x o = h o) ∧ ∀ i, i ≠ 17 → emH T h x T i = h T i := by
  have D0 := D
  obtain ⟨⟨⟨d1, d2⟩, d3, d4⟩, ⟨s1, s3⟩, N, M, L, R⟩ := D
  have kT := kTC d1
  have N0 := N
  unfold NBR STQ at N0
  have cl : h T 17 < 2400 := by omega
  have f17 : emH T h x T 17 = h T 17 + 1 := em_17 cl
  have fo : ∀ o, o ≠ T → o ≠ T + 1430 → emH T h x o = h o := fun o a b => em_ne a b
  have fi : ∀ i, i ≠ 17 → emH T h x T i = h T i := fun i a => em_s a
  have fc : ∀ i, i < h T 17 → emH T h x (T + 1430) i = h (T + 1430) i := fun i a => by rw [em_c cl, if_neg (by omega)]
  have f8 := fo 258 (by omega) (by omega)
  refine ⟨D0.cls (by rw [f8]) (fun o w => fo o (by omega) (by omega)) ?_ (M.fr (by rw [f8]) (fo _ (by omega) (by omega)) (fo _ (by omega) (by omega)) rfl rfl rfl rfl rfl) (L.fr (by rw [f8]) (fo _ (by omega) (by omega)) (fo _ (by omega) (by omega)) (fo _ (by omega) (by omega)) (by omega) (fun i _ _ w => fc i w) rfl rfl rfl rfl (Int.le_refl _)), ?_, ⟨fun o _ _ _ _ _ _ _ a b => fo o a b, fun i _ a => fi i a, fun i _ _ _ => by rw [f8]⟩, f17, ⟨⟨by omega, fun k k0 k1 => ?_⟩, by rw [em_c cl, if_pos rfl]⟩, fo, fi⟩
  · unfold NBR STQ
    rw [f8, f17, fi 15 (by decide)]
    omega
  · unfold ECP
    rw [f17, f8, fo 353 (by omega) (by omega), fo 416 (by omega) (by omega), fo 481 (by omega) (by omega), fo 544 (by omega) (by omega), fo 608 (by omega) (by omega)]
    exact ⟨⟨by omega, fun i _ _ w => fc i w⟩, (ECP.rfl' (T := T) (c := 0) (h := h)).2⟩
  · rw [f8] at k1
    rw [fo 608 (by omega) (by omega)]
    have := (L k k0 k1).2.1.1
    omega
/-- a code more of the reference -/
theorem GRS.cd {p a b : Int} (D : GRS bX T S s h hr) (l : hr S 15 + 1 ≤ 11 * h T 15 + hr (S + 84) 6) (w : p = 24 → 0 ≤ a ∧ a < hr S 22) : GRS bX T S s h (cdR S hr p a b) ∧ ERP S 0 0 hr (cdR S hr p a b) ∧ FXR S hr (cdR S hr p a b) ∧ cdR S hr p a b S 15 = hr S 15 + 1 ∧ RCO S (cdR S hr p a b) (hr S 15) p a b ∧ (∀ o, o ≠ S → o ≠ S + 980 → o ≠ S + 1044 → o ≠ S + 1108 → cdR S hr p a b o = hr o) ∧ ∀ i, i ≠ 15 → cdR S hr p a b S i = hr S i := by
  have D0 := D
  obtain ⟨⟨⟨d1, d2⟩, d3, d4⟩, ⟨s1, s3⟩, N, M, L, R⟩ := D
  have kS := kTR d3
  have N0 := N
  unfold NBR STQ at N0
  have f15 : cdR S hr p a b S 15 = hr S 15 + 1 := by
    unfold cdR
    rw [hs_ne (by omega), hs_ne (by omega), hs_ne (by omega), hcel1]
  have fo : ∀ o, o ≠ S → o ≠ S + 980 → o ≠ S + 1044 → o ≠ S + 1108 → cdR S hr p a b o = hr o := fun o a1 a2 a3 a4 => by
    unfold cdR
    rw [hs_ne a4, hs_ne a3, hs_ne a2, hs_ne a1]
  have fi : ∀ i, i ≠ 15 → cdR S hr p a b S i = hr S i := fun i z => by
    unfold cdR
    rw [hs_ne (by omega), hs_ne (by omega), hs_ne (by omega), hcell z]
  have fp : ∀ i, cdR S hr p a b (S + 980) i = if i = hr S 15 then p else hr (S + 980) i := fun i => by
    unfold cdR
    rw [hs_ne (by omega), hs_ne (by omega)]
    by_cases z : i = hr S 15
    · rw [if_pos z, z, hcel1]
    · rw [if_neg z, hcell z, hs_ne (by omega)]
  have fa : ∀ i, cdR S hr p a b (S + 1044) i = if i = hr S 15 then a else hr (S + 1044) i := fun i => by
    unfold cdR
    rw [hs_ne (by omega)]
    by_cases z : i = hr S 15
    · rw [if_pos z, z, hcel1]
    · rw [if_neg z, hcell z, hs_ne (by omega), hs_ne (by omega)]
  have fb : ∀ i, cdR S hr p a b (S + 1108) i = if i = hr S 15 then b else hr (S + 1108) i := fun i => by
    unfold cdR
    by_cases z : i = hr S 15
    · rw [if_pos z, z, hcel1]
    · rw [if_neg z, hcell z, hs_ne (by omega), hs_ne (by omega), hs_ne (by omega)]
  have f3 := fo 6603 (by omega) (by omega) (by omega) (by omega)
  refine ⟨D0.ref (by rw [f3]) (fun o w => fo o (by omega) (by omega) (by omega) (by omega)) ?_ (M.fr rfl rfl rfl (by rw [f3]) (fo _ (by omega) (by omega) (by omega) (by omega)) (by rw [f3]) (fo _ (by omega) (by omega) (by omega) (by omega)) (fo _ (by omega) (by omega) (by omega) (by omega))) (L.fr rfl rfl rfl rfl (Int.le_refl _) PRE.rfl' (fo _ (by omega) (by omega) (by omega) (by omega)) (fo _ (by omega) (by omega) (by omega) (by omega)) (fo _ (by omega) (by omega) (by omega) (by omega)) (fo _ (by omega) (by omega) (by omega) (by omega)) (by omega)) ?_, ?_, ⟨fun o _ _ _ _ _ _ _ _ _ a1 a2 a3 a4 _ _ _ => fo o a1 a2 a3 a4, fun i _ a _ _ _ => fi i a, fun i _ _ _ _ _ _ _ _ _ _ _ => by rw [f3]⟩, f15, ⟨by omega, by rw [fp, if_pos rfl], by rw [fa, if_pos rfl], by rw [fb, if_pos rfl]⟩, fo, fi⟩
  · unfold NBR STQ
    rw [f3, f15, fi 14 (by decide), fi 20 (by decide), fi 21 (by decide), fi 22 (by decide), fo (S + 84) (by omega) (by omega) (by omega) (by omega)]
    omega
  · refine ⟨?_, R.2.1.gr (by omega) (fun i _ x => by rw [fp, if_neg (by omega)]) (by rw [f3]) (fo _ (by omega) (by omega) (by omega) (by omega)) (fo _ (by omega) (by omega) (by omega) (by omega)) (fo _ (by omega) (by omega) (by omega) (by omega)), R.2.2.gr (by omega) (fun i _ x => by rw [fp, if_neg (by omega)]) (by rw [f3]) (fo _ (by omega) (by omega) (by omega) (by omega))⟩
    intro i i0 i1 i2
    rw [fi 22 (by decide), fa]
    rw [fp] at i2
    by_cases z : i = hr S 15
    · rw [if_pos z] at i2 ⊢
      exact w i2
    · rw [if_neg z] at i2 ⊢
      exact R.1 i i0 (by omega) i2
  · unfold ERP
    rw [f15, f3, fi 20 (by decide), fi 21 (by decide), fi 22 (by decide), fo (S + 1174) (by omega) (by omega) (by omega) (by omega), fo (S + 1236) (by omega) (by omega) (by omega) (by omega), fo (S + 1300) (by omega) (by omega) (by omega) (by omega), fo 9505 (by omega) (by omega) (by omega) (by omega), fo 9569 (by omega) (by omega) (by omega) (by omega), fo 9632 (by omega) (by omega) (by omega) (by omega), fo 9696 (by omega) (by omega) (by omega) (by omega), fo 9761 (by omega) (by omega) (by omega) (by omega), fo 9824 (by omega) (by omega) (by omega) (by omega), fo 9888 (by omega) (by omega) (by omega) (by omega), fo 9952 (by omega) (by omega) (by omega) (by omega)]
    exact ⟨⟨by omega, fun i _ _ z => by rw [fp, if_neg (by omega)], fun i _ _ z => by rw [fa, if_neg (by omega)], fun i _ _ z => by rw [fb, if_neg (by omega)]⟩, (ERP.rfl' (S := S) (r := 0) (t := 0) (h := hr)).2⟩
/-- a node of an exp, a node of an act -/
def ndH (T : Int) (h : HV) : HV := hset (hset h 258 3 (h 258 3 + 1)) T 15 (h T 15 + 1)
def anH (T : Int) (h : HV) : HV := hset h T 15 (h T 15 + 1)
def ndR (S : Int) (h : HV) : HV := hset (hset h S 14 (h S 14 + 1)) 6603 13 (h 6603 13 + 1)
def anR (S : Int) (h : HV) : HV := hset (hset h S 14 (h S 14 + 1)) 6603 13 (h 6603 13)
theorem GRS.nd (D : GRS 1 T S s h hr) (l1 : h T 15 < 400) (l2 : h 258 3 < 30) : GRS 1 T S s (ndH T h) (ndR S hr) ∧ (ECP T 0 h (ndH T h) ∧ FXC T h (ndH T h)) ∧ (ERP S 0 0 hr (ndR S hr) ∧ FXR S hr (ndR S hr)) ∧ (ndH T h T 15 = h T 15 + 1 ∧ ndH T h 258 3 = h 258 3 + 1 ∧ ndH T h T 17 = h T 17) ∧ ((∀ o, o ≠ T → o ≠ 258 → ndH T h o = h o) ∧ ∀ i, i ≠ 3 → ndH T h 258 i = h 258 i) ∧ ((∀ o, o ≠ S → o ≠ 6603 → ndR S hr o = hr o) ∧ (∀ i, i ≠ 14 → ndR S hr S i = hr S i) ∧ ∀ i, i ≠ 13 → ndR S hr 6603 i = hr 6603 i) := by
  have D0 := D
  obtain ⟨⟨⟨d1, d2⟩, d3, d4⟩, ⟨s1, s3⟩, N, M, L, R⟩ := D
  have kT := kTC d1
  have kS := kTR d3
  have N0 := N
  unfold NBR STQ at N0
  have c15 : ndH T h T 15 = h T 15 + 1 := by unfold ndH; rw [hcel1]
  have c3 : ndH T h 258 3 = h 258 3 + 1 := by unfold ndH; rw [hs_ne (by omega), hcel1]
  have ci : ∀ i, i ≠ 15 → ndH T h T i = h T i := fun i z => by unfold ndH; rw [hcell z, hs_ne (by omega)]
  have co : ∀ o, o ≠ T → o ≠ 258 → ndH T h o = h o := fun o a b => by unfold ndH; rw [hs_ne a, hs_ne b]
  have c8 : ∀ i, i ≠ 3 → ndH T h 258 i = h 258 i := fun i z => by unfold ndH; rw [hs_ne (by omega), hcell z]
  have r14 : ndR S hr S 14 = hr S 14 + 1 := by unfold ndR; rw [hs_ne (by omega), hcel1]
  have r13 : ndR S hr 6603 13 = hr 6603 13 + 1 := by unfold ndR; rw [hcel1]
  have ro : ∀ o, o ≠ S → o ≠ 6603 → ndR S hr o = hr o := fun o a b => by unfold ndR; rw [hs_ne b, hs_ne a]
  have ri : ∀ i, i ≠ 14 → ndR S hr S i = hr S i := fun i z => by unfold ndR; rw [hs_ne (by omega), hcell z]
  have r3 : ∀ i, i ≠ 13 → ndR S hr 6603 i = hr 6603 i := fun i z => by unfold ndR; rw [hcell z, hs_ne (by omega)]
  refine ⟨⟨⟨⟨d1, by rw [c8 1 (by decide)]; exact d2⟩, d3, by rw [r3 9 (by decide)]; exact d4⟩, ⟨fun o w => by rw [co o (by omega) (by omega)]; exact s1 o w, fun o w => by rw [ro o (by omega) (by omega)]; exact s3 o w⟩, ?_, ?_, ?_, ?_⟩, ⟨?_, fun o _ a _ _ _ _ _ b _ => co o b a, fun i a _ => ci i a, fun i a _ _ => c8 i a.1⟩, ⟨?_, fun o a _ _ _ _ _ _ _ _ b _ _ _ _ _ _ => ro o b a, fun i a _ _ _ _ => ri i a, fun i _ _ _ _ _ _ _ a _ _ _ => r3 i a⟩, ⟨c15, c3, ci 17 (by decide)⟩, ⟨co, c8⟩, ro, ri, r3⟩
  · unfold NBR STQ
    rw [c15, c3, ci 17 (by decide), c8 6 (by decide), c8 10 (by decide), r14, r13, ri 15 (by decide), ri 20 (by decide), ri 21 (by decide), ri 22 (by decide), r3 15 (by decide), r3 19 (by decide), r3 24 (by decide), ro (S + 84) (by omega) (by omega)]
    omega
  · exact M.fr (c8 6 (by decide)) (co _ (by omega) (by omega)) (co _ (by omega) (by omega)) (r3 15 (by decide)) (ro _ (by omega) (by omega)) (r3 19 (by decide)) (ro _ (by omega) (by omega)) (ro _ (by omega) (by omega))
  · exact L.fr (c8 10 (by decide)) (co _ (by omega) (by omega)) (co _ (by omega) (by omega)) (co _ (by omega) (by omega)) (by rw [ci 17 (by decide)]; exact Int.le_refl _) (PRE.of_eq (co _ (by omega) (by omega))) (ro _ (by omega) (by omega)) (ro _ (by omega) (by omega)) (ro _ (by omega) (by omega)) (ro _ (by omega) (by omega)) (by rw [ri 15 (by decide)]; exact Int.le_refl _)
  · exact R.fr (ri 15 (by decide)) (ro _ (by omega) (by omega)) (ro _ (by omega) (by omega)) (by rw [ri 22 (by decide)]; exact Int.le_refl _) ⟨r3 19 (by decide), r3 24 (by decide)⟩ ⟨ro _ (by omega) (by omega), ro _ (by omega) (by omega), ro _ (by omega) (by omega), ro _ (by omega) (by omega)⟩
  · unfold ECP
    rw [ci 17 (by decide), c8 6 (by decide), c8 10 (by decide), co (T + 1430) (by omega) (by omega), co 353 (by omega) (by omega), co 416 (by omega) (by omega), co 481 (by omega) (by omega), co 544 (by omega) (by omega), co 608 (by omega) (by omega)]
    exact ECP.rfl'
  · unfold ERP
    rw [ri 15 (by decide), ri 20 (by decide), ri 21 (by decide), ri 22 (by decide), r3 15 (by decide), r3 19 (by decide), r3 24 (by decide), ro (S + 980) (by omega) (by omega), ro (S + 1044) (by omega) (by omega), ro (S + 1108) (by omega) (by omega), ro (S + 1174) (by omega) (by omega), ro (S + 1236) (by omega) (by omega), ro (S + 1300) (by omega) (by omega), ro 9505 (by omega) (by omega), ro 9569 (by omega) (by omega), ro 9632 (by omega) (by omega), ro 9696 (by omega) (by omega), ro 9761 (by omega) (by omega), ro 9824 (by omega) (by omega), ro 9888 (by omega) (by omega), ro 9952 (by omega) (by omega)]
    exact ERP.rfl'
theorem GRS.an (D : GRS bX T S s h hr) (l1 : h T 15 < 400) : GRS bX T S s (anH T h) (anR S hr) ∧ (ECP T 0 h (anH T h) ∧ FXC T h (anH T h)) ∧ (ERP S 0 0 hr (anR S hr) ∧ FXR S hr (anR S hr)) ∧ (anH T h T 15 = h T 15 + 1 ∧ anH T h 258 3 = h 258 3 ∧ anH T h T 17 = h T 17) ∧ ((∀ o, o ≠ T → o ≠ 258 → anH T h o = h o) ∧ ∀ i, i ≠ 3 → anH T h 258 i = h 258 i) ∧ ((∀ o, o ≠ S → o ≠ 6603 → anR S hr o = hr o) ∧ (∀ i, i ≠ 14 → anR S hr S i = hr S i) ∧ ∀ i, i ≠ 13 → anR S hr 6603 i = hr 6603 i) := by
  have D0 := D
  obtain ⟨⟨⟨d1, d2⟩, d3, d4⟩, ⟨s1, s3⟩, N, M, L, R⟩ := D
  have kT := kTC d1
  have kS := kTR d3
  have N0 := N
  unfold NBR STQ at N0
  have c15 : anH T h T 15 = h T 15 + 1 := by unfold anH; rw [hcel1]
  have c3 : anH T h 258 3 = h 258 3 := by unfold anH; rw [hs_ne (by omega)]
  have ci : ∀ i, i ≠ 15 → anH T h T i = h T i := fun i z => by unfold anH; rw [hcell z]
  have co : ∀ o, o ≠ T → o ≠ 258 → anH T h o = h o := fun o a b => by unfold anH; rw [hs_ne a]
  have c8 : ∀ i, i ≠ 3 → anH T h 258 i = h 258 i := fun i _ => by unfold anH; rw [hs_ne (by omega)]
  have r14 : anR S hr S 14 = hr S 14 + 1 := by unfold anR; rw [hs_ne (by omega), hcel1]
  have r13 : anR S hr 6603 13 = hr 6603 13 := by unfold anR; rw [hcel1]
  have ro : ∀ o, o ≠ S → o ≠ 6603 → anR S hr o = hr o := fun o a b => by unfold anR; rw [hs_ne b, hs_ne a]
  have ri : ∀ i, i ≠ 14 → anR S hr S i = hr S i := fun i z => by unfold anR; rw [hs_ne (by omega), hcell z]
  have r3 : ∀ i, i ≠ 13 → anR S hr 6603 i = hr 6603 i := fun i z => by unfold anR; rw [hcell z, hs_ne (by omega)]
  refine ⟨⟨⟨⟨d1, by rw [c8 1 (by decide)]; exact d2⟩, d3, by rw [r3 9 (by decide)]; exact d4⟩, ⟨fun o w => by rw [co o (by omega) (by omega)]; exact s1 o w, fun o w => by rw [ro o (by omega) (by omega)]; exact s3 o w⟩, ?_, ?_, ?_, ?_⟩, ⟨?_, fun o _ a _ _ _ _ _ b _ => co o b a, fun i a _ => ci i a, fun i a _ _ => c8 i a.1⟩, ⟨?_, fun o a _ _ _ _ _ _ _ _ b _ _ _ _ _ _ => ro o b a, fun i a _ _ _ _ => ri i a, fun i _ _ _ _ _ _ _ a _ _ _ => r3 i a⟩, ⟨c15, c3, ci 17 (by decide)⟩, ⟨co, c8⟩, ro, ri, r3⟩
  · unfold NBR STQ
    rw [c15, c3, ci 17 (by decide), c8 6 (by decide), c8 10 (by decide), r14, r13, ri 15 (by decide), ri 20 (by decide), ri 21 (by decide), ri 22 (by decide), r3 15 (by decide), r3 19 (by decide), r3 24 (by decide), ro (S + 84) (by omega) (by omega)]
    omega
  · exact M.fr (c8 6 (by decide)) (co _ (by omega) (by omega)) (co _ (by omega) (by omega)) (r3 15 (by decide)) (ro _ (by omega) (by omega)) (r3 19 (by decide)) (ro _ (by omega) (by omega)) (ro _ (by omega) (by omega))
  · exact L.fr (c8 10 (by decide)) (co _ (by omega) (by omega)) (co _ (by omega) (by omega)) (co _ (by omega) (by omega)) (by rw [ci 17 (by decide)]; exact Int.le_refl _) (PRE.of_eq (co _ (by omega) (by omega))) (ro _ (by omega) (by omega)) (ro _ (by omega) (by omega)) (ro _ (by omega) (by omega)) (ro _ (by omega) (by omega)) (by rw [ri 15 (by decide)]; exact Int.le_refl _)
  · exact R.fr (ri 15 (by decide)) (ro _ (by omega) (by omega)) (ro _ (by omega) (by omega)) (by rw [ri 22 (by decide)]; exact Int.le_refl _) ⟨r3 19 (by decide), r3 24 (by decide)⟩ ⟨ro _ (by omega) (by omega), ro _ (by omega) (by omega), ro _ (by omega) (by omega), ro _ (by omega) (by omega)⟩
  · unfold ECP
    rw [ci 17 (by decide), c8 6 (by decide), c8 10 (by decide), co (T + 1430) (by omega) (by omega), co 353 (by omega) (by omega), co 416 (by omega) (by omega), co 481 (by omega) (by omega), co 544 (by omega) (by omega), co 608 (by omega) (by omega)]
    exact ECP.rfl'
  · unfold ERP
    rw [ri 15 (by decide), ri 20 (by decide), ri 21 (by decide), ri 22 (by decide), r3 15 (by decide), r3 19 (by decide), r3 24 (by decide), ro (S + 980) (by omega) (by omega), ro (S + 1044) (by omega) (by omega), ro (S + 1108) (by omega) (by omega), ro (S + 1174) (by omega) (by omega), ro (S + 1236) (by omega) (by omega), ro (S + 1300) (by omega) (by omega), ro 9505 (by omega) (by omega), ro 9569 (by omega) (by omega), ro 9632 (by omega) (by omega), ro 9696 (by omega) (by omega), ro 9761 (by omega) (by omega), ro 9824 (by omega) (by omega), ro 9888 (by omega) (by omega), ro 9952 (by omega) (by omega)]
    exact ERP.rfl'
end SM
