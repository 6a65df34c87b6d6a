/-! THE PURE SIDE, 164: patches, and what acts do behind a fault: printed by wip/tools/gen8q.py -/
/-- a place of the class's code that is told anew later -/
def HOL (T : Int) (h : HV) (i : Int) : Prop := (0 ≤ i ∧ i < h T 17) ∧ ∀ k, 0 ≤ k → k < h 258 10 → h 608 k ≠ i ∧ h 608 k + 1 ≠ i
section SM
variable {bX : Int} {tp : Int → Int} {t T S s s1 s2 f : Int} {h hr g gr k kr m mr : HV} {Q : Int → HV → Prop} {d : Nat}
theorem HOL.ec {c i : Int} (H : HOL T h i) (E : ECP T c h g) : HOL T g i := by
  obtain ⟨⟨a0, a1⟩, a2⟩ := H
  obtain ⟨⟨e1, -⟩, -, e3, ⟨-, -, e4⟩, e5⟩ := E
  refine ⟨⟨a0, by omega⟩, fun k k0 k1 => ?_⟩
  by_cases u : k < h 258 10
  · rw [e4 k k0 k0 u]
    exact a2 k k0 u
  · have := e5 k k0 (by omega) k1
    omega
theorem GD.lim (D : GD bX tp t T S s h hr) : (0 ≤ h T 17 ∧ h T 17 ≤ 2400) ∧ (0 ≤ h T 15 ∧ h T 15 ≤ 400) ∧ (0 ≤ hr S 15 ∧ hr S 15 ≤ 4412) ∧ hr S 14 = h T 15 := by
  have N := D.nb
  have S0 := D.sb
  unfold NBR at N
  omega
theorem GD.hol (D : GD bX tp t T S s h hr) {x : Int} (l : 2 * (h T 17 + 1) ≤ 6 * h T 15 + s) : HOL T (emH T h x) (h T 17) := by
  have kT := kTC D.2.1.1.1
  have N := D.nb
  have S0 := D.sb
  unfold NBR at N
  have cl : h T 17 < 2400 := by omega
  refine ⟨⟨by omega, by rw [em_17 cl]; omega⟩, fun k k0 k1 => ?_⟩
  rw [em_ne (by omega) (by omega)] at k1
  rw [em_ne (by omega) (by omega)]
  have := (D.2.2.2.2.2.1 k k0 k1).2.1.1
  omega
theorem ECP.pa {c i x : Int} (E : ECP T c h g) (hT : TC T) (l : h T 17 ≤ i) : ECP T c h (hset g (T + 1430) i x) := by
  have kT := kTC hT
  unfold ECP at *
  rw [hs_ne (a := T) (by omega), hs_ne (a := 258) (by omega), hs_ne (a := 353) (by omega), hs_ne (a := 416) (by omega), hs_ne (a := 481) (by omega), hs_ne (a := 544) (by omega), hs_ne (a := 608) (by omega)]
  exact ⟨⟨E.1.1, fun j a b c => by rw [hcell (by omega)]; exact E.1.2 j a b c⟩, E.2⟩
theorem ECP.paE {c i x : Int} (E : ECP T c h g) (e : k = hset g (T + 1430) i x) (hT : TC T) (l : h T 17 ≤ i) : ECP T c h k := by
  rw [e]
  exact E.pa hT l
theorem CEL.paE {i j x y : Int} (C : CEL T g i x) (e : k = hset g (T + 1430) j y) (w : i ≠ j) (hT : TC T) : CEL T k i x := by
  have kT := kTC hT
  obtain ⟨⟨c1, c2⟩, c3⟩ := C
  rw [e]
  exact ⟨⟨by rw [hs_ne (by omega)]; exact c1, fun k k0 k1 => by rw [hs_ne (by omega)] at k1 ⊢; exact c2 k k0 k1⟩, by rw [hcell w]; exact c3⟩
theorem ECP.pa1 {i x : Int} (hT : TC T) : ECP T (i + 1) g (hset g (T + 1430) i x) := by
  have kT := kTC hT
  unfold ECP
  rw [hs_ne (a := T) (by omega), hs_ne (a := 258) (by omega), hs_ne (a := 353) (by omega), hs_ne (a := 416) (by omega), hs_ne (a := 481) (by omega), hs_ne (a := 544) (by omega), hs_ne (a := 608) (by omega)]
  exact ⟨⟨Int.le_refl _, fun j a b c => hcell (by omega)⟩, (ECP.rfl' (T := T) (c := 0) (h := g)).2⟩
/-- the class's code told anew at a place -/
theorem GOM.pa {i x : Int} (Z : GOM bX tp t T S s h hr s1 g gr) (H : HOL T g i) (l : h T 17 ≤ i) : GOM bX tp t T S s h hr s1 (hset g (T + 1430) i x) gr ∧ NC T g (hset g (T + 1430) i x) 0 0 0 0 0 ∧ ECP T (i + 1) g (hset g (T + 1430) i x) ∧ CEL T (hset g (T + 1430) i x) i x := by
  obtain ⟨z1, D, ⟨z2, z3⟩, z4⟩ := Z
  have kT := kTC D.2.1.1.1
  have kS := kTR D.2.1.2.1
  have fo : ∀ o, o ≠ T + 1430 → hset g (T + 1430) i x o = g o := fun o a => hs_ne a
  have eT := fo T (by omega)
  have e8 := fo 258 (by omega)
  have F : FXC T g (hset g (T + 1430) i x) := ⟨fun o _ _ _ _ _ _ _ _ a => fo o a, fun j _ _ => by rw [eT], fun j _ _ _ => by rw [e8]⟩
  have D0 := D
  obtain ⟨K, -, -, N, M, L, R⟩ := D
  refine ⟨⟨z1, D0.cls (D0.2.cls (by rw [e8]) (fun o w => fo o (by omega)) ?_ (M.fr (by rw [e8]) (fo _ (by omega)) (fo _ (by omega)) rfl rfl rfl rfl rfl) ?_) (fo _ (by omega)) (fo _ (by omega)), ⟨z2.pa D0.2.1.1.1 l, z3.trans F⟩, z4⟩, ?_, ECP.pa1 D0.2.1.1.1, ⟨⟨by rw [eT]; exact H.1, fun k k0 k1 => ?_⟩, hcel1⟩⟩
  · unfold NBR STQ at *
    rw [eT, e8]
    exact N
  · intro k k0 k1
    rw [e8] at k1
    have l1 := L k k0 k1
    have l2 := H.2 k k0 k1
    rw [fo 481 (by omega), fo 544 (by omega), fo 608 (by omega), eT, hcell l2.2]
    exact l1
  · unfold NC
    rw [eT, e8]
    omega
  · rw [e8] at k1
    rw [fo 608 (by omega)]
    exact (H.2 k k0 k1).1
theorem ERP.pr {r t j x : Int} (E : ERP S r t h g) (hS : TR S) (l : h S 15 ≤ j) : ERP S r t h (hset g (S + 1044) j x) := by
  have kS := kTR hS
  unfold ERP at *
  rw [hs_ne (a := S) (by omega), hs_ne (a := S + 980) (by omega), hs_ne (a := S + 1108) (by omega), hs_ne (a := S + 1174) (by omega), hs_ne (a := S + 1236) (by omega), hs_ne (a := S + 1300) (by omega), hs_ne (a := 6603) (by omega), hs_ne (a := 9505) (by omega), hs_ne (a := 9569) (by omega), hs_ne (a := 9632) (by omega), hs_ne (a := 9696) (by omega), hs_ne (a := 9761) (by omega), hs_ne (a := 9824) (by omega), hs_ne (a := 9888) (by omega), hs_ne (a := 9952) (by omega)]
  exact ⟨⟨E.1.1, E.1.2.1, fun i a b c => by rw [hcell (by omega)]; exact E.1.2.2.1 i a b c, E.1.2.2.2⟩, E.2⟩
theorem ERP.prE {r t j x : Int} (E : ERP S r t h g) (e : k = hset g (S + 1044) j x) (hS : TR S) (l : h S 15 ≤ j) : ERP S r t h k := by
  rw [e]
  exact E.pr hS l
theorem RCO.prE {i j p a b y : Int} (C : RCO S g i p a b) (e : k = hset g (S + 1044) j y) (w : i ≠ j) (hS : TR S) : RCO S k i p a b := by
  have kS := kTR hS
  obtain ⟨c1, c2, c3, c4⟩ := C
  rw [e]
  exact ⟨by rw [hs_ne (by omega)]; exact c1, by rw [hs_ne (by omega)]; exact c2, by rw [hcell w]; exact c3, by rw [hs_ne (by omega)]; exact c4⟩
theorem ERP.pr1 {j x : Int} (hS : TR S) : ERP S (j + 1) 0 g (hset g (S + 1044) j x) := by
  have kS := kTR hS
  unfold ERP
  rw [hs_ne (a := S) (by omega), hs_ne (a := S + 980) (by omega), hs_ne (a := S + 1108) (by omega), hs_ne (a := S + 1174) (by omega), hs_ne (a := S + 1236) (by omega), hs_ne (a := S + 1300) (by omega), hs_ne (a := 6603) (by omega), hs_ne (a := 9505) (by omega), hs_ne (a := 9569) (by omega), hs_ne (a := 9632) (by omega), hs_ne (a := 9696) (by omega), hs_ne (a := 9761) (by omega), hs_ne (a := 9824) (by omega), hs_ne (a := 9888) (by omega), hs_ne (a := 9952) (by omega)]
  have z := ERP.rfl' (S := S) (r := j + 1) (t := 0) (h := g)
  unfold ERP at z
  exact ⟨⟨z.1.1, z.1.2.1, fun i a b c => hcell (by omega), z.1.2.2.2⟩, z.2⟩
/-- the reference's code told anew at a place -/
theorem GOM.pr {j x p a b : Int} (Z : GOM bX tp t T S s h hr s1 g gr) (H : RCO S gr j p a b) (hp : p ≠ 24) (l : hr S 15 ≤ j) : GOM bX tp t T S s h hr s1 g (hset gr (S + 1044) j x) ∧ NR S gr (hset gr (S + 1044) j x) 0 0 0 0 0 0 0 ∧ ERP S (j + 1) 0 gr (hset gr (S + 1044) j x) ∧ RCO S (hset gr (S + 1044) j x) j p x b := by
  obtain ⟨z1, D, z2, z3, z4⟩ := Z
  have kS := kTR D.2.1.2.1
  have fo : ∀ o, o ≠ S + 1044 → hset gr (S + 1044) j x o = gr o := fun o a => hs_ne a
  have eS := fo S (by omega)
  have e3 := fo 6603 (by omega)
  have F : FXR S gr (hset gr (S + 1044) j x) := ⟨fun o _ _ _ _ _ _ _ _ _ _ _ a _ _ _ _ => fo o a, fun i _ _ _ _ _ => by rw [eS], fun i _ _ _ _ _ _ _ _ _ _ _ => by rw [e3]⟩
  have D0 := D
  obtain ⟨K, -, -, N, M, L, R⟩ := D
  refine ⟨⟨z1, D0.ref (D0.2.ref (by rw [e3]) (fun o w => fo o (by omega)) ?_ (M.fr rfl rfl rfl (by rw [e3]) (fo _ (by omega)) (by rw [e3]) (fo _ (by omega)) (fo _ (by omega))) (L.fr rfl rfl rfl rfl (Int.le_refl _) PRE.rfl' (fo _ (by omega)) (fo _ (by omega)) (fo _ (by omega)) (fo _ (by omega)) (by rw [eS]; exact Int.le_refl _)) ?_) (fun i _ _ => by rw [e3]) (fo _ (by omega)), z2, z3.pr D0.2.1.2.1 l, z4.trans F⟩, ?_, ERP.pr1 D0.2.1.2.1, ⟨by rw [eS]; exact H.1, by rw [fo _ (by omega)]; exact H.2.1, hcel1, by rw [fo _ (by omega)]; exact H.2.2.2⟩⟩
  · unfold NBR STQ at *
    rw [eS, e3, fo (S + 84) (by omega)]
    exact N
  · refine ⟨?_, R.2.1.gr (by rw [eS]; exact Int.le_refl _) (fun i _ _ => by rw [fo (S + 980) (by omega)]) (by rw [e3]) (fo _ (by omega)) (fo _ (by omega)) (fo _ (by omega)), R.2.2.gr (by rw [eS]; exact Int.le_refl _) (fun i _ _ => by rw [fo (S + 980) (by omega)]) (by rw [e3]) (fo _ (by omega))⟩
    intro i i0 i1 i2
    rw [eS] at i1 ⊢
    rw [fo (S + 980) (by omega)] at i2
    have ij : i ≠ j := fun w => by rw [w, H.2.1] at i2; exact hp i2
    rw [hcell ij]
    exact R.1 i i0 i1 i2
  · unfold NR
    rw [eS, e3, fo (S + 84) (by omega)]
    omega
/-! behind a fault -/
/-- as BDR, with no bound of the names noted -/
def BDQ (S f : Int) (h : HV) : Prop := (TR S ∧ h 6603 9 = S) ∧ (h 6603 7 = f ∧ 0 ≤ f) ∧ STS h ∧ (0 ≤ h S 14 ∧ h S 14 ≤ 400) ∧ 0 ≤ h S 15 ∧ h S 15 ≤ 11 * h S 14 + 14
theorem BDR.q (B : BDR S f hr) : BDQ S f hr := ⟨B.1, ⟨B.2.1.1, B.2.1.2.1⟩, B.2.2⟩
theorem BDQ.fr (B : BDQ S f hr) (F : FXR S hr gr) (e7 : gr 6603 7 = hr 6603 7) (e14 : gr S 14 = hr S 14) (e15 : 0 ≤ gr S 15 ∧ gr S 15 ≤ 11 * hr S 14 + 14) : BDQ S f gr := by
  obtain ⟨⟨b1, b2⟩, b3, b4, b5, b6⟩ := B
  have kS := kTR b1
  exact ⟨⟨b1, by rw [F.2.2 9 (by decide) (by decide) (by decide) (by decide) (by decide) (by decide) (by decide) (by decide) (by decide) (by decide) (by decide)]; exact b2⟩, by rw [e7]; exact b3, fun o w => by rw [F.1 o (by omega) (by omega) (by omega) (by omega) (by omega) (by omega) (by omega) (by omega) (by omega) (by omega) (by omega) (by omega) (by omega) (by omega) (by omega) (by omega)]; exact b4 o w, by rw [e14]; exact b5, by rw [e14]; exact e15⟩
/-- what stays of the reference behind a fault, and its new codes -/
def KPR (S f : Int) (h g : HV) (a : Int) : Prop := BDQ S f g ∧ FXR S h g ∧ g S 14 = h S 14 ∧ g S 15 = h S 15 + a ∧ g 6603 19 = h 6603 19
theorem BDQ.pr {j x : Int} (B : BDQ S f hr) : KPR S f hr (hset hr (S + 1044) j x) 0 := by
  have kS := kTR B.1.1
  have fo : ∀ o, o ≠ S + 1044 → hset hr (S + 1044) j x o = hr o := fun o a => hs_ne a
  have eS := fo S (by omega)
  have e3 := fo 6603 (by omega)
  have F : FXR S hr (hset hr (S + 1044) j x) := ⟨fun o _ _ _ _ _ _ _ _ _ _ _ a _ _ _ _ => fo o a, fun i _ _ _ _ _ => by rw [eS], fun i _ _ _ _ _ _ _ _ _ _ _ => by rw [e3]⟩
  exact ⟨B.fr F (by rw [e3]) (by rw [eS]) (by rw [eS]; exact B.2.2.2.2), F, by rw [eS], by rw [eS]; omega, by rw [e3]⟩
theorem BDQ.cd {p a b : Int} (B : BDQ S f hr) (l : hr S 15 + 1 ≤ 11 * hr S 14 + 14) : KPR S f hr (cdR S hr p a b) 1 := by
  have kS := kTR B.1.1
  have b6 := B.2.2.2.2
  have f15 : cdR S hr p a b S 15 = hr S 15 + 1 := by
    unfold cdR
    rw [hs_ne (by omega), hs_ne (by omega), hs_ne (by omega), hcel1]
  have fo : ∀ o, o ≠ S → o ≠ S + 980 → o ≠ S + 1044 → o ≠ S + 1108 → cdR S hr p a b o = hr o := fun o a1 a2 a3 a4 => by
    unfold cdR
    rw [hs_ne a4, hs_ne a3, hs_ne a2, hs_ne a1]
  have fi : ∀ i, i ≠ 15 → cdR S hr p a b S i = hr S i := fun i z => by
    unfold cdR
    rw [hs_ne (by omega), hs_ne (by omega), hs_ne (by omega), hcell z]
  have f3 := fo 6603 (by omega) (by omega) (by omega) (by omega)
  have F : FXR S hr (cdR S hr p a b) := ⟨fun o _ _ _ _ _ _ _ _ _ a1 a2 a3 a4 _ _ _ => fo o a1 a2 a3 a4, fun i _ a _ _ _ => fi i a, fun i _ _ _ _ _ _ _ _ _ _ _ => by rw [f3]⟩
  exact ⟨B.fr F (by rw [f3]) (fi 14 (by decide)) (by rw [f15]; omega), F, fi 14 (by decide), f15, by rw [f3]⟩
theorem BDQ.cx {p a b : Int} (B : BDQ S f hr) (l : hr S 15 + 1 ≤ 11 * hr S 14 + 14) : ∃ gr, KPR S f hr gr 1 ∧ ∀ (d : Nat) Q, Sp fz1 d 347 [(3, 6603), (0, p), (0, a), (0, b)] hr Q = Q (hr S 15) gr := by
  have b5 := B.2.2.2
  exact ⟨_, B.cd l, fun d Q => v347 B.1.1 B.1.2 (by omega)⟩
theorem BDQ.s5 {x : Int} (i : Int) (B : BDQ S f hr) (hi : i = 21 ∨ i = 22) : KPR S f hr (hset hr S i x) 0 := by
  have kS := kTR B.1.1
  have fo : ∀ o, o ≠ S → hset hr S i x o = hr o := fun o a => hs_ne a
  have fi : ∀ j, j ≠ i → hset hr S i x S j = hr S j := fun j a => hcell a
  have e3 := fo 6603 (by omega)
  have F : FXR S hr (hset hr S i x) := ⟨fun o _ _ _ _ _ _ _ _ _ a _ _ _ _ _ _ => fo o a, fun j _ _ _ u v => fi j (by omega), fun j _ _ _ _ _ _ _ _ _ _ _ => by rw [e3]⟩
  exact ⟨B.fr F (by rw [e3]) (fi 14 (by omega)) (by rw [fi 15 (by omega)]; exact B.2.2.2.2), F, fi 14 (by omega), by rw [fi 15 (by omega)]; omega, by rw [e3]⟩
theorem KPR.trans {a b : Int} (A : KPR S f h g a) (B : KPR S f g k b) : KPR S f h k (a + b) := ⟨B.1, A.2.1.trans B.2.1, B.2.2.1.trans A.2.2.1, by have := A.2.2.2.1; have := B.2.2.2.1; omega, B.2.2.2.2.trans A.2.2.2.2⟩
theorem BDQ.k6 {x : Int} (i : Int) (B : BDQ S f hr) (hi : i = 12 ∨ i = 13) : KPR S f hr (hset hr 6603 i x) 0 := by
  have kS := kTR B.1.1
  have fo : ∀ o, o ≠ 6603 → hset hr 6603 i x o = hr o := fun o a => hs_ne a
  have fi : ∀ j, j ≠ i → hset hr 6603 i x 6603 j = hr 6603 j := fun j a => hcell a
  have eS := fo S (by omega)
  have F : FXR S hr (hset hr 6603 i x) := ⟨fun o a _ _ _ _ _ _ _ _ _ _ _ _ _ _ _ => fo o a, fun j _ _ _ _ _ => by rw [eS], fun j _ _ _ _ _ _ a b _ _ _ => fi j (by omega)⟩
  exact ⟨B.fr F (fi 7 (by omega)) (by rw [eS]) (by rw [eS]; exact B.2.2.2.2), F, by rw [eS], by rw [eS]; omega, fi 19 (by omega)⟩
theorem BDQ.k12 {x : Int} (B : BDQ S f hr) : KPR S f hr (hset hr 6603 12 x) 0 := B.k6 12 (.inl rfl)
theorem BDQ.w0 (B : BDQ S f hr) : ∃ gr, KPR S f hr gr 0 ∧ ∀ (d : Nat) Q, Sp fz1 (d + 5) 349 [(3, 6603)] hr Q = Q 0 gr := ⟨_, B.k6 13 (.inr rfl), fun d Q => v349b (by have := B.2.1; omega)⟩
theorem BDQ.g325 (B : BDQ S f hr) : Sp fz1 d 325 [(3, 6603)] hr Q = Q 0 hr := by
  have := B.2.1
  rw [v325, if_neg (by omega)]
theorem BDQ.sg {c : Int} (B : BDQ S f hr) : Sp fz1 (d + 1) 333 [(3, 6603), (0, c)] hr Q = Q 0 hr := v333b (by have := B.2.1; omega)
theorem BDQ.bl (B : BDQ S f hr) : ∃ gr, KPR S f hr gr 0 ∧ ∀ (d : Nat) Q, Sp fz1 (d + 2) 343 [(3, 6603)] hr Q = Q 0 gr := by
  have kS := kTR B.1.1
  have r7 : 0 ≤ hr 6603 7 := by have := B.2.1; omega
  have U1 := B.k12 (x := w32 (hr 6603 12 + 1))
  have dp : ∀ (d : Nat) Q, Sp fz1 (d + 1) 344 [(3, 6603)] hr Q = Q 0 (hset hr 6603 12 (w32 (hr 6603 12 + 1))) := fun d Q => v344b r7
  generalize hset hr 6603 12 (w32 (hr 6603 12 + 1)) = k at *
  obtain ⟨k2, hk2⟩ : ∃ k2, k2 = k := ⟨_, rfl⟩
  obtain ⟨k3, hk3⟩ : ∃ k2, k2 = k := ⟨_, rfl⟩
  have s1 : ∀ (d : Nat) Q, Sp fz1 (d + 1) 333 [(3, 6603), (0, 123)] k Q = Q 0 k2 := fun d Q => by rw [hk2]; exact U1.1.sg
  have g1 : ∀ (d : Nat) Q, Sp fz1 d 325 [(3, 6603)] k2 Q = Q 0 k2 := fun d Q => by rw [hk2]; exact U1.1.g325
  have s2 : ∀ (d : Nat) Q, Sp fz1 (d + 1) 333 [(3, 6603), (0, 125)] k2 Q = Q 0 k3 := fun d Q => by rw [hk3, hk2]; exact U1.1.sg
  have W1 := U1.1.k12 (x := w32 (k3 6603 12 - 1))
  have U2 := U1.trans W1
  refine ⟨hset k3 6603 12 (w32 (k3 6603 12 - 1)), by rw [show hset k3 6603 12 (w32 (k3 6603 12 - 1)) = hset k 6603 12 (w32 (k3 6603 12 - 1)) by rw [hk3]]; exact U2, fun d Q => ?_⟩
  simp (implicitDefEqProofs := false) (disch := omega) only [sp343, b343_0, b343_1, b343_2, q343_1, q343_2, x_aload0, y_call325, y_call333, y_call334, y_call344, y_call345, x_dup0, x_dup3, x_gf_11360, x_goto_1, x_iconst, x_ifCond_eq_2, x_ifCond_ne_2, x_isub, x_pf_11360, x_return, klp_0, klp_1, klp_2, klp_3, klp_9, KC_0, KC_1, KC_2, KC_3, KC_4, ne_eq, not_false_eq_true, not_true_eq_false, true_and, and_true, and_self, implies_true, eq_self, true_imp_iff, false_implies, Int.reduceEq, Int.reduceNe, Int.reduceMod, Int.reduceMul, Int.reduceAdd, Int.reduceSub, Int.reduceLT, Int.reduceLE, Nat.reduceAdd, Nat.reduceLeDiff, Nat.reduceLT, Nat.reduceSub, reduceIte, wds_n, wds_0, wds_1, wds_2, wds_3, or_true, true_or, or_false, false_or, or_self, false_and, and_false, d_pos, d_s1, d_s2, d_s3, d_s4, d_s5, d_s6, d_s7, d_s8, Classical.not_not, dp, s1, g1, s2, d_s9, d_s10, d_s11, d_s12, d_s13, d_s14, d_s15, d_s16, d_s17, d_s18, d_s19, d_s20, d_s21, d_s22, d_s23, d_s24, d_s25, d_s26, d_s27, d_s28, d_s29, d_s30, hs_ne, hcell, hcel1, le_sub1, le_T, le_F, lt_T, lt_F, eq_F, w32_T, bz0, bz1, lc_le, lc_ge, lc_lt, lc_gt, lc_eq]
theorem b78 {e : Int} (B : BDC T f h) : Sp fz1 (d + 2) 78 [(3, 258), (0, e)] h Q = Q 0 h := by
  obtain ⟨k2, hk2⟩ : ∃ k2, k2 = h := ⟨_, rfl⟩
  have a1 : ∀ Q, Sp fz1 (d + 1) 79 [(3, 258), (0, 123), (0, e)] h Q = Q 0 k2 := fun Q => by rw [hk2]; exact b79 B
  have a2 : ∀ Q, Sp fz1 (d + 1) 41 [(3, 258)] k2 Q = Q 0 k2 := fun Q => by rw [hk2]; exact b41 B
  have a3 : ∀ Q, Sp fz1 (d + 1) 58 [(3, 258), (0, 125)] k2 Q = Q 0 h := fun Q => by rw [hk2]; exact b58 B
  simp (implicitDefEqProofs := false) (disch := omega) only [sp78, b78_0, b78_1, b78_2, q78_1, q78_2, x_aload0, y_call41, y_call58, y_call59, y_call79, y_call80, x_gc_2051, x_goto_1, x_iadd, x_iconst, x_ifCond_eq_2, x_ifCond_ne_2, x_if_icmp_gt_2, x_iinc2, x_iload1, x_iload2, x_istore2, x_return, klp_0, klp_1, klp_2, klp_3, klp_9, KC_0, KC_1, KC_2, KC_3, KC_4, ne_eq, not_false_eq_true, not_true_eq_false, true_and, and_true, and_self, implies_true, eq_self, true_imp_iff, false_implies, Int.reduceEq, Int.reduceNe, Int.reduceMod, Int.reduceMul, Int.reduceAdd, Int.reduceSub, Int.reduceLT, Int.reduceLE, Nat.reduceAdd, Nat.reduceLeDiff, Nat.reduceLT, Nat.reduceSub, reduceIte, wds_n, wds_0, wds_1, wds_2, wds_3, or_true, true_or, or_false, false_or, or_self, false_and, and_false, d_pos, d_s1, d_s2, d_s3, d_s4, d_s5, d_s6, d_s7, d_s8, Classical.not_not, z258_0, a1, a2, a3, d_s9, d_s10, d_s11, d_s12, d_s13, d_s14, d_s15, d_s16, d_s17, d_s18, d_s19, d_s20, d_s21, d_s22, d_s23, d_s24, d_s25, d_s26, d_s27, d_s28, d_s29, d_s30, hs_ne, hcell, hcel1, le_sub1, le_T, le_F, lt_T, lt_F, eq_F, w32_T, bz0, bz1, lc_le, lc_ge, lc_lt, lc_gt, lc_eq]
/-- what stays of the class behind a fault -/
def KPC (T f : Int) (h g : HV) : Prop := BDC T f g ∧ FXC T h g
theorem KPC.trans (A : KPC T f h g) (B : KPC T f g k) : KPC T f h k := ⟨B.1, A.2.trans B.2⟩
theorem BDC.e1 {x : Int} (B : BDC T f h) : ∃ g, KPC T f h g ∧ ∀ (d : Nat) Q, Sp fz1 d 82 [(3, T), (0, x)] h Q = Q 0 g := ⟨_, B.em, fun d Q => q82 B.1.1 B.2.2.2.1.1⟩
theorem BDC.e2 {p x : Int} (B : BDC T f h) : ∃ g, KPC T f h g ∧ ∀ (d : Nat) Q, Sp fz1 (d + 1) 93 [(3, 258), (0, p), (0, x)] h Q = Q 0 g := by
  have a := B.em (x := p)
  exact ⟨_, KPC.trans a a.1.em, fun d Q => q93 B.1.1 B.1.2 B.2.2.2.1⟩
theorem BDC.ho {p : Int} (B : BDC T f h) : ∃ v g, KPC T f h g ∧ ∀ (d : Nat) Q, Sp fz1 (d + 2) 113 [(3, 258), (0, p)] h Q = Q v g := by
  have a := B.em (x := p)
  exact ⟨_, _, KPC.trans a a.1.em, fun d Q => q113 B.1.1 B.1.2 B.2.2.2.1⟩
theorem BDC.h1 (B : BDC T f h) : ∃ v g, KPC T f h g ∧ ∀ (d : Nat) Q, Sp fz1 (d + 1) 114 [(3, 258)] h Q = Q v g := ⟨_, _, B.em, fun d Q => q114 B.1.1 B.1.2 B.2.2.2.1⟩
theorem BDC.fi {i : Int} (B : BDC T f h) : ∃ g, KPC T f h g ∧ ∀ (d : Nat) Q, Sp fz1 (d + 1) 115 [(3, 258), (0, i)] h Q = Q 0 g := ⟨_, B.pa, fun d Q => q115 B.1.1 B.1.2 B.2.2.2.1.2⟩
theorem BDC.wh {e : Int} (d : Nat) (B : BDC T f h) : ∃ g, KPC T f h g ∧ ∀ Q, Sp fz1 (d + 13) 86 [(3, 258), (0, e)] h Q = Q 0 g := by
  obtain ⟨g, a, b, c⟩ := b85 (d := d) (e := e) B
  exact ⟨g, ⟨a, b⟩, c⟩
theorem BDC.telx {w : Int} (B : BDC T f h) : ∃ v g, KPC T f h g ∧ ∀ (d : Nat) Q, Sp fz1 (d + 2) 75 [(3, 258), (1, w)] h Q = Q v g := by
  obtain ⟨v, g, a, b, c⟩ := B.tell (w := w)
  exact ⟨v, g, ⟨a, b⟩, c⟩
theorem BDC.usex {w p : Int} (B : BDC T f h) : ∃ v g, KPC T f h g ∧ ∀ (d : Nat) Q, Sp fz1 (d + 1) 76 [(3, 258), (1, w), (0, p)] h Q = Q v g := by
  obtain ⟨v, g, a, b, -, c⟩ := B.use (w := w) (p := p)
  exact ⟨v, g, ⟨a, b⟩, c⟩
theorem BDC.fd {o : Int} {l : List Int} (B : BDC T f h) (S : STR h o l) (hl : l.length ≤ 1000) : Sp fz1 (d + 5) 45 [(3, 129), (3, o)] h Q = Q (-1) h := c45b B.k.2.2 S hl
theorem b119 {e : Int} (B : BDC T f h) : Sp fz1 (d + 6) 119 [(3, 258), (0, e)] h Q = Q 0 h := by
  have k2 := B.k.2.2
  have k4 := B.2.2.1
  have fd : ∀ Q, Sp fz1 (d + 5) 45 [(3, 129), (3, NV_563)] h Q = Q (-1) h := fun Q => by rw [NV_563_e]; exact c45b k2 (str_4 k4) (by decide)
  have pp : ∀ Q, Sp fz1 (d + 5) 28 [(3, 129), (0, 0)] h Q = Q 0 h := fun Q => p28b B.k.2.1 k2
  simp (implicitDefEqProofs := false) (disch := omega) only [sp119, n119_0, b119_1, b119_2, q119_1, q119_2, x_aload0, y_call28, y_call45, x_gc_2051, x_goto_2, x_iadd, x_iand, x_iconst, x_ifCond_le_1, x_ifCond_ne_1, x_iload1, x_iload2, x_ireturn, x_ishr, x_istore2, x_jsr, klp_0, klp_1, klp_2, klp_3, klp_9, KC_0, KC_1, KC_2, KC_3, KC_4, ne_eq, not_false_eq_true, not_true_eq_false, true_and, and_true, and_self, implies_true, eq_self, true_imp_iff, false_implies, Int.reduceEq, Int.reduceNe, Int.reduceMod, Int.reduceMul, Int.reduceAdd, Int.reduceSub, Int.reduceLT, Int.reduceLE, Nat.reduceAdd, Nat.reduceLeDiff, Nat.reduceLT, Nat.reduceSub, reduceIte, wds_n, wds_0, wds_1, wds_2, wds_3, or_true, true_or, or_false, false_or, or_self, false_and, and_false, d_pos, d_s1, d_s2, d_s3, d_s4, d_s5, d_s6, d_s7, d_s8, Classical.not_not, z258_0, fd, pp, d_s9, d_s10, d_s11, d_s12, d_s13, d_s14, d_s15, d_s16, d_s17, d_s18, d_s19, d_s20, d_s21, d_s22, d_s23, d_s24, d_s25, d_s26, d_s27, d_s28, d_s29, d_s30, hs_ne, hcell, hcel1, le_sub1, le_T, le_F, lt_T, lt_F, eq_F, w32_T, bz0, bz1, lc_le, lc_ge, lc_lt, lc_gt, lc_eq]
end SM
