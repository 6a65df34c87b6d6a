/-! THE PURE SIDE, 149: what the reading of an exp comes to: printed by wip/tools/gen8b.py -/
def NVR (h g gr : HV) : Prop := ∀ v, 0 ≤ v → h 258 6 ≤ v → v < g 258 6 → 0 ≤ g 416 v → ∃ k, (0 ≤ k ∧ k < gr 6603 19) ∧ gr 9569 k = g 353 v ∧ gr 9632 k = g 416 v
theorem NVR.same {h g gr : HV} (e : g 258 6 = h 258 6) : NVR h g gr := fun v _ a b _ => by omega
theorem NVR.trans {T S c r t : Int} {h g gr k kr : HV} (A : NVR h g gr) (E : ECP T c g k) (F : ERP S r t gr kr) (B : NVR g k kr) : NVR h k kr := by
  intro v v0 a b u
  by_cases w : v < g 258 6
  · have e1 := E.2.1.2.1 v v0 v0 w
    have e2 := E.2.1.2.2 v v0 w
    obtain ⟨j, ⟨j0, j1⟩, j2, j3⟩ := A v v0 a w (by omega)
    have f := F.2.2.2.1
    refine ⟨j, ⟨j0, by omega⟩, ?_, ?_⟩
    · rw [f.2.1 j j0 j0 j1, e1]
      exact j2
    · rw [f.2.2.1 j j0 j0 j1]
      omega
  · exact B v v0 (by omega) b u
/-- how far the numbers have grown -/
def NC (T : Int) (h g : HV) (a b c d e : Int) : Prop := g T 15 = h T 15 + a ∧ g 258 3 = h 258 3 + b ∧ g T 17 = h T 17 + c ∧ g 258 6 = h 258 6 + d ∧ g 258 10 = h 258 10 + e ∧ g 258 11 = h 258 11
def NR (S : Int) (h g : HV) (a b c d e f k : Int) : Prop := g S 15 = h S 15 + a ∧ g S 20 = h S 20 + b ∧ g S 21 = h S 21 + c ∧ g S 22 = h S 22 + d ∧ g 6603 12 = h 6603 12 + e ∧ g 6603 15 = h 6603 15 + f ∧ g 6603 19 = h 6603 19 + k ∧ g (S + 84) 6 = h (S + 84) 6
def DXP (T S : Int) (h hr g gr : HV) : Prop := (0 ≤ g T 15 - h T 15 ∧ g 258 3 - h 258 3 = g T 15 - h T 15 ∧ gr S 15 - hr S 15 = g T 15 - h T 15 ∧ g 258 11 = h 258 11) ∧ (0 ≤ g T 17 - h T 17 ∧ g T 17 - h T 17 ≤ 3 * (g T 15 - h T 15)) ∧ (g 258 6 - h 258 6 ≤ g T 15 - h T 15 ∧ gr 6603 15 = hr 6603 15 ∧ gr 6603 19 - hr 6603 19 ≤ g T 15 - h T 15 ∧ g 258 10 - h 258 10 ≤ g T 15 - h T 15) ∧ (gr S 20 - hr S 20 ≤ g T 15 - h T 15 ∧ gr S 21 = hr S 21 ∧ gr S 22 = hr S 22) ∧ gr 6603 12 = hr 6603 12 ∧ gr (S + 84) 6 = hr (S + 84) 6
def GOM (bX : Int) (tp : Int → Int) (t T S s : Int) (h hr : HV) (s1 : Int) (g gr : HV) : Prop := s ≤ s1 ∧ GD bX tp t T S s1 g gr ∧ (ECP T 0 h g ∧ FXC T h g) ∧ (ERP S 0 0 hr gr ∧ FXR S hr gr)
def BADO (T S : Int) (h hr g gr : HV) : Prop := (∃ f, BDC T f g ∧ BDR S f gr) ∧ FXC T h g ∧ FXR S hr gr ∧ hr S 14 ≤ gr S 14 ∧ hr S 15 ≤ gr S 15 ∧ gr S 15 ≤ hr S 15 + 11 * (gr S 14 - hr S 14) + 1
/-- either both stand, and the code in between leaves gg more on the stack, or both have met the same fault -/
def OUTC (bX : Int) (tp : Int → Int) (t T S s : Int) (h hr g gr : HV) (gg lo : Int) : Prop := (∃ s1, GOM bX tp t T S s h hr s1 g gr ∧ NVR h g gr ∧ DXP T S h hr g gr ∧ gg ≤ gr S 15 - hr S 15 ∧ ∀ K V CL, AGK K V CL T S (h T 17) (hr S 15) (hr S 22) g gr → EXK K V CL (h T 17) (hr S 15) (g T 17) (gr S 15) (gr S 15 - hr S 15) gg (gr S 15 - hr S 15) lo) ∨ BADO T S h hr g gr
section SM
variable {bX : Int} {tp : Int → Int} {t T S s s1 s2 : Int} {h hr g gr k kr : HV} {Q : Int → HV → Prop}
theorem GOM.rfl' (D : GD bX tp t T S s h hr) : GOM bX tp t T S s h hr s h hr := ⟨Int.le_refl _, D, ⟨ECP.rfl', FXC.rfl'⟩, ERP.rfl', FXR.rfl'⟩
theorem GOM.trans (A : GOM bX tp t T S s h hr s1 g gr) (B : GOM bX tp t T S s1 g gr s2 k kr) : GOM bX tp t T S s h hr s2 k kr := ⟨Int.le_trans A.1 B.1, B.2.1, ⟨A.2.2.1.1.trans B.2.2.1.1, A.2.2.1.2.trans B.2.2.1.2⟩, A.2.2.2.1.trans B.2.2.2.1, A.2.2.2.2.trans B.2.2.2.2⟩
theorem GD.nb (D : GD bX tp t T S s h hr) : NBR bX T S s h hr := D.2.2.2.1
theorem GD.sb (D : GD bX tp t T S s h hr) : 0 ≤ s ∧ s ≤ t ∧ t ≤ 2400 := D.1.1.1
theorem GD.ctx (D : GD bX tp t T S s h hr) : ((TC T ∧ h 258 1 = T) ∧ TR S ∧ hr 6603 9 = S) ∧ STS h ∧ STS hr := ⟨D.2.1, D.2.2.1⟩
theorem GD.f (D : GD bX tp t T S s h hr) : h 129 3 = -1 ∧ hr 6603 7 = -9 ∧ hr 6603 3 = s ∧ h 129 5 = s := ⟨D.1.2.1.1.2.1, D.1.2.2.1.2.1, D.1.2.2.1.2.2.1, D.1.2.1.1.2.2.1⟩
theorem EXK.nil {K : HV} {V CL : Int → Int → Prop} {c r lo m : Int} (e : m = 0) : EXK K V CL c r c r m 0 m lo := by
  intro n x E k' a a0 b c1 d e' f M
  subst e
  rw [Int.add_zero, Int.sub_zero] at M
  exact M
theorem OUTC.nil (D : GD bX tp t T S s h hr) {lo : Int} : OUTC bX tp t T S s h hr h hr 0 lo := .inl ⟨s, GOM.rfl' D, NVR.same rfl, ⟨by omega, by omega, by omega, by omega, rfl, rfl⟩, by omega, fun K V CL _ => EXK.nil (by omega)⟩
theorem BADO.pre (n0 : NBR bX T S s h hr) (G : GOM bX tp t T S s h hr s1 g gr) (X : DXP T S h hr g gr) (B : BADO T S g gr k kr) : BADO T S h hr k kr := by
  have n1 := G.2.1.nb
  obtain ⟨b1, b2, b3, b4, b5, b6⟩ := B
  refine ⟨b1, G.2.2.1.2.trans b2, G.2.2.2.2.trans b3, ?_⟩
  have q := G.2.2.2.1.1.1
  unfold DXP at X
  unfold NBR STQ at n0 n1
  omega
theorem OUTC.seq {gg1 gg2 lo1 lo2 lo gg : Int} (G : GOM bX tp t T S s h hr s1 g gr) (N : NVR h g gr) (X : DXP T S h hr g gr) (n0 : NBR bX T S s h hr) (P : ∀ K V CL, AGK K V CL T S (h T 17) (hr S 15) (hr S 22) g gr → EXK K V CL (h T 17) (hr S 15) (g T 17) (gr S 15) (gr S 15 - hr S 15) gg1 (gr S 15 - hr S 15) lo1) (B : OUTC bX tp t T S s1 g gr k kr gg2 lo2) (h1 : lo1 ≤ lo) (h2 : lo2 ≤ lo + gg1) (h3 : 0 ≤ lo + gg1) (h4 : gg1 ≤ gr S 15 - hr S 15) (eg : gg = gg1 + gg2) : OUTC bX tp t T S s h hr k kr gg lo := by
  have n1 := G.2.1.nb
  rcases B with ⟨s2, G2, N2, X2, h5, P2⟩ | B
  · refine .inl ⟨s2, G.trans G2, N.trans G2.2.2.1.1 G2.2.2.2.1 N2, ?_, by omega, fun K V CL A => ?_⟩
    · unfold DXP at *
      omega
    · have n2 := G2.2.1.nb
      unfold DXP at X X2
      unfold NBR STQ at n0 n1 n2
      have A1 : AGK K V CL T S (h T 17) (hr S 15) (hr S 22) g gr := A.sub (by omega) (G2.2.2.1.1.lo (by omega)) (G2.2.2.2.1.lo (by omega) (by omega)) (Int.le_refl _) (Int.le_refl _) (Int.le_refl _)
      have A2 : AGK K V CL T S (g T 17) (gr S 15) (gr S 22) k kr := A.lo (by omega) (by omega) (by omega)
      exact (P K V CL A1).seq (P2 K V CL A2) h1 h2 h3 (by omega) (by omega) (by omega) (by omega) (by omega) eg
  · refine .inr ?_
    have n1' := n1
    obtain ⟨b1, b2, b3, b4, b5, b6⟩ := B
    unfold DXP at X
    unfold NBR STQ at n0 n1
    exact ⟨b1, G.2.2.1.2.trans b2, G.2.2.2.2.trans b3, by omega, by omega, by omega⟩
/-- a token on, on both sides -/
theorem GD.nx (D : GD bX tp t T S s h hr) (d e : Nat) : ∃ g gr, GOM bX tp t T S s h hr (nxS tp t s) g gr ∧ (s < t → s < nxS tp t s) ∧ s ≤ tkE tp t s ∧ tkE tp t s ≤ nxS tp t s ∧ NC T h g 0 0 0 0 0 ∧ NR S hr gr 0 0 0 0 0 0 0 ∧ SAC h g ∧ SAR hr gr ∧ (∀ Q, Sp fz1 (d + 8) 28 [(3, 129), (0, 1)] h Q = Q 0 g) ∧ ∀ Q, Sp fz1 (e + 2) 321 [(3, 6603)] hr Q = Q 0 gr := by
  obtain ⟨g, gr, D1, b1, b2, c1, c2, e1, e2⟩ := D.next d e
  have kT := kTC D.2.1.1.1
  have kS := kTR D.2.1.2.1
  have S0 := D.sb
  refine ⟨g, gr, ⟨by omega, D1, (c1.ec D.2.1.1.1), c2.er D.2.1.2.1⟩, fun w => ?_, b1, b2, ?_, ?_, c1, c2, e1, e2⟩
  · have := tkE_gt (tp := tp) (s := s) S0.1 w S0.2.2
    omega
  · unfold NC
    rw [c1 T (by omega), c1 258 (by decide)]
    omega
  · unfold NR
    have r := c2.2
    rw [c2.1 S (by omega), c2.1 (S + 84) (by omega), r 12 (by decide) (by decide) (by decide) (by decide) (by decide), r 15 (by decide) (by decide) (by decide) (by decide) (by decide), r 19 (by decide) (by decide) (by decide) (by decide) (by decide)]
    omega
theorem GD.cls (D : GD bX tp t T S s h hr) (R : GRS bX T S s g hr) (e1 : g 129 = h 129) (e2 : g 227 = h 227) : GD bX tp t T S s g hr := ⟨⟨D.1.1, D.1.2.1.fr e1 e2, D.1.2.2⟩, R⟩
theorem GD.ref (D : GD bX tp t T S s h hr) (R : GRS bX T S s h gr) (e : ∀ i, 1 ≤ i → i ≤ 7 → gr 6603 i = hr 6603 i) (e2 : gr 6691 = hr 6691) : GD bX tp t T S s h gr := ⟨⟨D.1.1, D.1.2.1, D.1.2.2.fr e e2⟩, R⟩
/-- an int more of code -/
theorem GD.em {x : Int} (D : GD bX tp t T S s h hr) (l : 2 * (h T 17 + 1) ≤ 6 * h T 15 + s) : GOM bX tp t T S s h hr s (emH T h x) hr ∧ NC T h (emH T h x) 0 0 1 0 0 ∧ CEL T (emH T h x) (h T 17) x := by
  have S0 := D.sb
  have kT := kTC D.2.1.1.1
  obtain ⟨a1, a2, a3, a4, a5, a6, a7⟩ := D.2.em (x := x) (by omega) l
  refine ⟨⟨Int.le_refl _, D.cls a1 (a6 _ (by omega) (by omega)) (a6 _ (by omega) (by omega)), ⟨a2, a3⟩, ERP.rfl', FXR.rfl'⟩, ?_, a5⟩
  unfold NC
  rw [a4, a7 15 (by decide), a6 258 (by omega) (by omega)]
  omega
theorem GD.cd {p a b : Int} (D : GD bX tp t T S s h hr) (l : hr S 15 + 1 ≤ 11 * h T 15 + hr (S + 84) 6) (w : p = 24 → 0 ≤ a ∧ a < hr S 22) : GOM bX tp t T S s h hr s h (cdR S hr p a b) ∧ NR S hr (cdR S hr p a b) 1 0 0 0 0 0 0 ∧ RCO S (cdR S hr p a b) (hr S 15) p a b := by
  have kS := kTR D.2.1.2.1
  obtain ⟨a1, a2, a3, a4, a5, a6, a7⟩ := D.2.cd l w (b := b)
  have a8 := a6 6603 (by omega) (by omega) (by omega) (by omega)
  refine ⟨⟨Int.le_refl _, D.ref a1 (fun i _ _ => by rw [a8]) (a6 _ (by omega) (by omega) (by omega) (by omega)), ⟨ECP.rfl', FXC.rfl'⟩, a2, a3⟩, ?_, a5⟩
  unfold NR
  rw [a4, a8, a7 20 (by decide), a7 21 (by decide), a7 22 (by decide), a6 (S + 84) (by omega) (by omega) (by omega) (by omega)]
  omega
theorem GD.nd (D : GD 1 tp t T S s h hr) (l1 : h T 15 < 400) (l2 : h 258 3 < 30) : GOM 1 tp t T S s h hr s (ndH T h) (ndR S hr) ∧ NC T h (ndH T h) 1 1 0 0 0 ∧ NR S hr (ndR S hr) 0 0 0 0 0 0 0 ∧ ndR S hr 6603 7 < 0 := by
  have kT := kTC D.2.1.1.1
  have kS := kTR D.2.1.2.1
  obtain ⟨a1, a2, a3, ⟨a4, a5, a6⟩, ⟨a7, a8⟩, b1, b2, b3⟩ := D.2.nd l1 l2
  have F := D.f
  refine ⟨⟨Int.le_refl _, ⟨⟨D.1.1, D.1.2.1.fr (a7 _ (by omega) (by omega)) (a7 _ (by omega) (by omega)), D.1.2.2.fr (fun i _ _ => b3 i (by omega)) (b1 _ (by omega) (by omega))⟩, a1⟩, a2, a3⟩, ?_, ?_, by rw [b3 7 (by decide)]; omega⟩
  · unfold NC
    rw [a4, a5, a6, a8 6 (by decide), a8 10 (by decide), a8 11 (by decide)]
    omega
  · unfold NR
    rw [b2 15 (by decide), b2 20 (by decide), b2 21 (by decide), b2 22 (by decide), b3 12 (by decide), b3 15 (by decide), b3 19 (by decide), b1 (S + 84) (by omega) (by omega)]
    omega
theorem GD.an (D : GD bX tp t T S s h hr) (l1 : h T 15 < 400) : GOM bX tp t T S s h hr s (anH T h) (anR S hr) ∧ NC T h (anH T h) 1 0 0 0 0 ∧ NR S hr (anR S hr) 0 0 0 0 0 0 0 ∧ anR S hr 6603 7 < 0 := by
  have kT := kTC D.2.1.1.1
  have kS := kTR D.2.1.2.1
  obtain ⟨a1, a2, a3, ⟨a4, a5, a6⟩, ⟨a7, a8⟩, b1, b2, b3⟩ := D.2.an l1
  have F := D.f
  refine ⟨⟨Int.le_refl _, ⟨⟨D.1.1, D.1.2.1.fr (a7 _ (by omega) (by omega)) (a7 _ (by omega) (by omega)), D.1.2.2.fr (fun i _ _ => b3 i (by omega)) (b1 _ (by omega) (by omega))⟩, a1⟩, a2, a3⟩, ?_, ?_, by rw [b3 7 (by decide)]; omega⟩
  · unfold NC
    rw [a4, a5, a6, a8 6 (by decide), a8 10 (by decide), a8 11 (by decide)]
    omega
  · unfold NR
    rw [b2 15 (by decide), b2 20 (by decide), b2 21 (by decide), b2 22 (by decide), b3 12 (by decide), b3 15 (by decide), b3 19 (by decide), b1 (S + 84) (by omega) (by omega)]
    omega
/-- both are bad, where nothing was told since -/
theorem BADO.mk0 {f : Int} (a : BDC T f g) (b : BDR S f gr) (F : FXC T h g) (R : FXR S hr gr) (e14 : hr S 14 ≤ gr S 14) (e1 : hr S 15 ≤ gr S 15) (e2 : gr S 15 ≤ hr S 15 + 11 * (gr S 14 - hr S 14) + 1) : BADO T S h hr g gr := ⟨⟨f, a, b⟩, F, R, e14, e1, e2⟩
/-- a code more of the reference behind a fault -/
theorem BDR.cd {f p a b : Int} (B : BDR S f hr) (l : hr S 15 + 1 ≤ 11 * hr S 14 + 14) : BDR S f (cdR S hr p a b) ∧ FXR S hr (cdR S hr p a b) ∧ cdR S hr p a b S 15 = hr S 15 + 1 ∧ cdR S hr p a b S 14 = hr S 14 ∧ cdR S hr p a b 6603 = hr 6603 := by
  obtain ⟨⟨b1, b2⟩, b3, b4, b5, b6⟩ := B
  have kS := kTR b1
  have f15 : cdR S hr p a b S 15 = hr S 15 + 1 := by
    unfold cdR
    rw [hs_ne (by omega), hs_ne (by omega), hs_ne (by omega), hcel1]
  have fo : ∀ o, o ≠ S → o ≠ S + 980 → o ≠ S + 1044 → o ≠ S + 1108 → cdR S hr p a b o = hr o := fun o a1 a2 a3 a4 => by
    unfold cdR
    rw [hs_ne a4, hs_ne a3, hs_ne a2, hs_ne a1]
  have fi : ∀ i, i ≠ 15 → cdR S hr p a b S i = hr S i := fun i z => by
    unfold cdR
    rw [hs_ne (by omega), hs_ne (by omega), hs_ne (by omega), hcell z]
  have f3 := fo 6603 (by omega) (by omega) (by omega) (by omega)
  exact ⟨⟨⟨b1, by rw [f3]; exact b2⟩, by rw [f3]; exact b3, fun o w => by rw [fo o (by omega) (by omega) (by omega) (by omega)]; exact b4 o w, by rw [fi 14 (by decide)]; exact b5, by rw [f15, fi 14 (by decide)]; omega⟩, ⟨fun o _ _ _ _ _ _ _ _ _ a1 a2 a3 a4 _ _ _ => fo o a1 a2 a3 a4, fun i _ a _ _ _ => fi i a, fun i _ _ _ _ _ _ _ _ _ _ _ => by rw [f3]⟩, f15, fi 14 (by decide), f3⟩
/-- a node of an exp on both sides: counted, or a fault -/
theorem GD.node (D : GD 1 tp t T S s h hr) (d e : Nat) : ∃ g gr, (∀ Q, Sp fz1 (e + 1) 346 [(3, 6603), (0, 1)] hr Q = Q 0 gr) ∧ (((∀ Q, Sp fz1 (d + 2) 90 [(3, 258)] h Q = Q 1 g) ∧ GOM 1 tp t T S s h hr s g gr ∧ NC T h g 1 1 0 0 0 ∧ NR S hr gr 0 0 0 0 0 0 0 ∧ gr 6603 7 < 0 ∧ gr 6603 3 = s) ∨ ((∃ k, (∀ Q, Sp fz1 (d + 2) 90 [(3, 258)] h Q = Q 0 k) ∧ ∀ (d : Nat) Q, Sp fz1 d 28 [(3, 129), (0, 0)] k Q = Q 0 g) ∧ BDC T s g ∧ BDR S s gr ∧ FXC T h g ∧ FXR S hr gr ∧ gr = bdR hr)) := by
  have F := D.f
  have N := D.nb
  have S0 := D.sb
  unfold NBR STQ at N
  obtain ⟨⟨⟨⟨d1, d2⟩, d3, d4⟩, -⟩⟩ : (((TC T ∧ h 258 1 = T) ∧ TR S ∧ hr 6603 9 = S) ∧ STS h ∧ STS hr) ∧ True := ⟨D.ctx, trivial⟩
  obtain ⟨B1, B2, B3, B4⟩ := D.bad
  have kT := kTC d1
  have eh : ∀ x y, bdH (hset (hset h 258 3 x) T 15 y) = hset (hset (bdH h) 258 3 x) T 15 y := fun x y => by
    unfold bdH
    rw [show hset (hset h 258 3 x) T 15 y 129 5 = h 129 5 by rw [hs_ne (by omega), hs_ne (by decide)]]
    funext a i
    simp only [hset_v]
    by_cases z1 : a = 129
    · subst z1
      simp [show ¬ (129 : Int) = T by omega]
    · simp [z1]
  have pb : ∀ x y (d : Nat) Q, Sp fz1 d 28 [(3, 129), (0, 0)] (hset (hset h 258 3 x) T 15 y) Q = Q 0 (hset (hset (bdH h) 258 3 x) T 15 y) := fun x y d Q => by
    rw [← eh]
    exact p28f (by rw [hs_ne (by omega), hs_ne (by decide)]; omega)
  by_cases n : h T 15 < 400
  · by_cases p : h 258 3 < 30
    · obtain ⟨g1, g2, g3, g4⟩ := D.nd n p
      exact ⟨ndH T h, ndR S hr, fun Q => v346p d3 d4 (by omega) (by omega) (by omega), .inl ⟨fun Q => q90g d1 d2 ⟨by omega, p⟩ ⟨by omega, n⟩, g1, g2, g3, g4, (g1.2.1.f).2.2.1⟩⟩
    · obtain ⟨c1, c2⟩ := B1.nd (x := 31) (y := h T 15 + 1)
      exact ⟨_, _, fun Q => v346e d3 d4 (by omega) (by omega) (by omega), .inr ⟨⟨_, fun Q => q90x d1 d2 (by omega) (by omega), pb _ _⟩, c1, B2, B3.trans c2, B4, rfl⟩⟩
  · obtain ⟨c1, c2⟩ := B1.nd (x := h 258 3 + 1) (y := 401)
    exact ⟨_, _, fun Q => v346n d3 d4 (by omega) (by omega) (by omega), .inr ⟨⟨_, fun Q => q90n d1 d2 (by omega) (by omega), pb _ _⟩, c1, B2, B3.trans c2, B4, rfl⟩⟩
/-- an op of one int, of two -/
theorem GD.st1 {p q a b : Int} (D : GD bX tp t T S s h hr) (l : 2 * (h T 17 + 1) ≤ 6 * h T 15 + s) (l2 : hr S 15 + 1 ≤ 11 * h T 15 + hr (S + 84) 6) (q24 : q ≠ 24) : GOM bX tp t T S s h hr s (emH T h p) (cdR S hr q a b) ∧ NC T h (emH T h p) 0 0 1 0 0 ∧ NR S hr (cdR S hr q a b) 1 0 0 0 0 0 0 ∧ (∀ K V CL c r t, AGK K V CL T S c r t (emH T h p) (cdR S hr q a b) → c ≤ h T 17 → r ≤ hr S 15 → K 0 (h T 17) = p ∧ K 1 (hr S 15) = q ∧ (q ≠ 4 → q ≠ 6 → q ≠ 7 → K 2 (hr S 15) = a)) := by
  obtain ⟨a1, a2, a3⟩ := D.em (x := p) l
  have a4 := a2
  unfold NC at a4
  obtain ⟨b1, b2, b3⟩ := a1.2.1.cd (p := q) (a := a) (b := b) (by omega) (fun w => absurd w q24)
  refine ⟨⟨Int.le_refl _, b1.2.1, a1.2.2.1, b1.2.2.2⟩, a2, b2, fun K V CL c r t A x y => ?_⟩
  have z := A.rco y b3
  exact ⟨A.cel x a3, z.1, z.2.1⟩
theorem GD.st2 {p x q a b : Int} (D : GD bX tp t T S s h hr) (l : 2 * (h T 17 + 2) ≤ 6 * h T 15 + s) (l2 : hr S 15 + 1 ≤ 11 * h T 15 + hr (S + 84) 6) (q24 : q ≠ 24) : GOM bX tp t T S s h hr s (emH T (emH T h p) x) (cdR S hr q a b) ∧ NC T h (emH T (emH T h p) x) 0 0 2 0 0 ∧ NR S hr (cdR S hr q a b) 1 0 0 0 0 0 0 ∧ (∀ K V CL c r t, AGK K V CL T S c r t (emH T (emH T h p) x) (cdR S hr q a b) → c ≤ h T 17 → r ≤ hr S 15 → K 0 (h T 17) = p ∧ K 0 (h T 17 + 1) = x ∧ K 1 (hr S 15) = q ∧ (q ≠ 4 → q ≠ 6 → q ≠ 7 → K 2 (hr S 15) = a) ∧ RCO S (cdR S hr q a b) (hr S 15) q a b) := by
  obtain ⟨a1, a2, a3⟩ := D.em (x := p) (by omega)
  have a4 := a2
  unfold NC at a4
  obtain ⟨c1, c2, c3⟩ := a1.2.1.em (x := x) (by omega)
  have c4 := c2
  unfold NC at c4
  obtain ⟨b1, b2, b3⟩ := c1.2.1.cd (p := q) (a := a) (b := b) (by omega) (fun w => absurd w q24)
  have G := a1.trans c1
  have d1 : CEL T (emH T (emH T h p) x) (h T 17) p := a3.ec c1.2.2.1.1 (by have := D.nb; unfold NBR STQ at this; omega)
  refine ⟨⟨Int.le_refl _, b1.2.1, G.2.2.1, b1.2.2.2⟩, by unfold NC; omega, b2, fun K V CL c r t A x y => ?_⟩
  have z := A.rco y b3
  have w := A.cel (by omega) c3
  rw [a4.2.2.1] at w
  exact ⟨A.cel x d1, w, z.1, z.2.1, b3⟩
end SM
