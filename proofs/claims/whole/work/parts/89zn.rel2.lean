/-! THE PURE SIDE, 110: the two machines alike: the rest of the state: printed by wip/tools/gen89zn.py -/
def DATA (h hr : HV) : Prop := RRw (mixH h hr) ∧ RIt (mixH h hr) ∧ RMk (mixH h hr) ∧ RVl (mixH h hr) ∧ RRm (mixH h hr)
def CFR (B h : HV) : Prop := (∀ o, o < 13056 → ¬ (1157 ≤ o ∧ o ≤ 1926) → o ≠ 0 → o ≠ 643 → o ≠ 736 → o ≠ 801 → h o = B o) ∧ (∀ s, s ≤ 3 → h 1157 s = B 1157 s) ∧ rb h = rb B ∧ B 643 2 ≤ h 643 2
def RFR (Br hr : HV) : Prop := (∀ o, o ≠ 6603 → ¬ (10272 ≤ o ∧ o ≤ 11487) → hr o = Br o) ∧ ∀ s, s ≠ 30 → s ≠ 36 → s ≠ 41 → s ≠ 44 → ¬ (52 ≤ s ∧ s ≤ 59) → hr 6603 s = Br 6603 s
def CCG (h h2 : HV) : Prop := (∀ o, ¬ (1157 ≤ o ∧ o ≤ 1926) → o ≠ h 1222 0 → o ≠ h 1222 1 → h2 o = h o) ∧ (∀ s, s ≤ 3 → h2 1157 s = h 1157 s) ∧ (h2 1222 0 = h 1222 0 ∧ h2 1222 1 = h 1222 1) ∧ (cK h2 (-1) = cK h (-1) ∧ cB h2 (-1) = cB h (-1)) ∧ 0 ≤ h2 1222 2 ∧ h2 1222 2 ≤ cK h (-1)
def RCG (hr hr2 : HV) : Prop := (∀ o, o ≠ 6603 → ¬ (10464 ≤ o ∧ o ≤ 11487) → hr2 o = hr o) ∧ ∀ s, s ≠ 36 → s ≠ 41 → s ≠ 44 → ¬ (52 ≤ s ∧ s ≤ 59) → hr2 6603 s = hr 6603 s
def STA (B Br h hr : HV) : Prop := CFR B h ∧ RFR Br hr ∧ VOK h ∧ DATA h hr
theorem VOK.ar {h : HV} (V : VOK h) : (h 1222 0 = 1312 ∨ 13056 ≤ h 1222 0) ∧ (h 1222 1 = 1377 ∨ 13056 ≤ h 1222 1) := ⟨V.1.2.2.1, V.2.1.2.2.1⟩
theorem VOK.md {h : HV} (V : VOK h) : h 1222 0 % 64 = 32 ∧ h 1222 1 % 64 = 33 := ⟨V.1.2.1, V.2.1.2.1⟩
theorem CCG.id {h : HV} (V : VOK h) : CCG h h := ⟨fun _ _ _ _ => Eq.refl _, fun _ _ => Eq.refl _, ⟨Eq.refl _, Eq.refl _⟩, ⟨Eq.refl _, Eq.refl _⟩, V.2.2.2.1⟩
theorem RCG.id {h : HV} : RCG h h := ⟨fun _ _ _ => Eq.refl _, fun _ _ _ _ _ => Eq.refl _⟩
theorem CCG.tr {h h2 h3 : HV} (A : CCG h h2) (C : CCG h2 h3) : CCG h h3 := by
  obtain ⟨a1, a2, a3, a4, a5⟩ := A
  obtain ⟨c1, c2, c3, c4, c5⟩ := C
  rw [a3.1, a3.2] at c1 c3
  rw [a4.1, a4.2] at c4
  rw [a4.1] at c5
  exact ⟨fun o p q r => (c1 o p q r).trans (a1 o p q r), fun s w => (c2 s w).trans (a2 s w), c3, c4, c5⟩
theorem RCG.tr {h h2 h3 : HV} (A : RCG h h2) (C : RCG h2 h3) : RCG h h3 := ⟨fun o p q => (C.1 o p q).trans (A.1 o p q), fun s p q r t => (C.2 s p q r t).trans (A.2 s p q r t)⟩
theorem cg_set {h : HV} {o i v : Int} (V : VOK h) (ho : 1157 ≤ o ∧ o ≤ 1926) (h1 : o ≠ 1222 ∧ o ≠ 1312 ∧ o ≠ 1377) (h2 : o = 1157 → 4 ≤ i) : CCG h (hset h o i v) := by
  have a := V.ar
  have e0 : hset h o i v 1222 = h 1222 := hs_ne (by omega)
  have eK : hset h o i v (h 1222 0) = h (h 1222 0) := hs_ne (by omega)
  have eB : hset h o i v (h 1222 1) = h (h 1222 1) := hs_ne (by omega)
  refine ⟨fun p q _ _ => hs_ne (by omega), fun s w => ?_, ⟨by rw [e0], by rw [e0]⟩, ⟨by unfold cK; rw [e0, eK], by unfold cB; rw [e0, eB]⟩, ?_⟩
  · by_cases q : o = 1157
    · subst q
      rw [hcell (by omega)]
    · rw [hs_ne (fun e => q e.symm)]
  · rw [e0]; exact V.2.2.2.1
theorem rg_set {h : HV} {o i v : Int} (ho : 10464 ≤ o ∧ o ≤ 11487 ∨ o = 6603 ∧ (i = 36 ∨ i = 41 ∨ i = 44 ∨ 52 ≤ i ∧ i ≤ 59)) : RCG h (hset h o i v) := by
  refine ⟨fun p q r => hs_ne (by omega), fun s a b c e => ?_⟩
  by_cases q : o = 6603
  · subst q
    rw [hcell (by omega)]
  · rw [hs_ne (fun e => q e.symm)]
theorem CCG.V {h h2 : HV} (V : VOK h) (C : CCG h h2) : VOK h2 := by
  have a := V.ar
  obtain ⟨c1, c2, c3, c4, c5⟩ := C
  have e0 : h2 0 = h 0 := c1 0 (by omega) (by omega) (by omega)
  unfold cK cB at *
  rw [c3.1, c3.2] at c4
  unfold VOK at *
  rw [c3.1, c3.2, e0, c4.1, c4.2]
  exact ⟨V.1, V.2.1, V.2.2.1, c5, V.2.2.2.2⟩
theorem CCG.o643 {h h2 : HV} (V : VOK h) (C : CCG h h2) : h2 643 = h 643 ∧ h2 836 = h 836 ∧ h2 0 = h 0 := by
  have a := V.ar
  exact ⟨C.1 643 (by omega) (by omega) (by omega), C.1 836 (by omega) (by omega) (by omega), C.1 0 (by omega) (by omega) (by omega)⟩
theorem VVh.cg {h h2 hr hr2 : HV} (V : VOK h) (C : CCG h h2) (R : RCG hr hr2) : VVh h2 hr2 = VVh h hr := by
  have e := C.o643 V
  unfold VVh rb
  rw [e.1, e.2.1, R.1 10272 (by decide) (by decide)]
theorem STA.cg {B Br h h2 hr hr2 : HV} (S : STA B Br h hr) (C : CCG h h2) (R : RCG hr hr2) : STA B Br h2 hr2 := by
  obtain ⟨F, G, V, W, I, M, L, Rm⟩ := S
  have a := V.ar
  have md := V.md
  have V2 := C.V V
  have e := C.o643 V
  have C0 := C
  obtain ⟨c1, c2, c3, c4, c5⟩ := C
  have w1 := W.1.1
  have w2 := W.1.2.1
  have m6 : mixH h hr 643 = h 643 := mx_c (by decide)
  have m12 : mixH h hr 1222 = h 1222 := mx_c (by decide)
  unfold NFA at w1 w2
  rw [m6] at w1 w2
  have dd := L
  unfold RVl at dd
  rw [m6, m12] at dd
  have k0 : mixH h2 hr2 0 = mixH h hr 0 := by rw [mx_c (by decide), mx_c (by decide), e.2.2]
  have k643 : mixH h2 hr2 643 = mixH h hr 643 := by rw [mx_c (by decide), mx_c (by decide), e.1]
  have ks : mixH h2 hr2 (mixH h hr 643 0) = mixH h hr (mixH h hr 643 0) := by
    rw [m6, mx_c (by omega), mx_c (by omega)]
    exact c1 _ (by omega) (by omega) (by omega)
  have ki : mixH h2 hr2 (mixH h hr 643 1) = mixH h hr (mixH h hr 643 1) := by
    rw [m6, mx_c (by omega), mx_c (by omega)]
    exact c1 _ (by omega) (by omega) (by omega)
  have k30 : mixH h2 hr2 6603 30 = mixH h hr 6603 30 := by rw [mx_r (by decide) (by decide), mx_r (by decide) (by decide)]; exact R.2 30 (by decide) (by decide) (by decide) (by decide)
  have kr : ∀ o, 10000 ≤ o → o < 10464 → mixH h2 hr2 o = mixH h hr o := fun o p q => by rw [mx_r (by omega) (by omega), mx_r (by omega) (by omega)]; exact R.1 o (by omega) (by omega)
  have kc : ∀ o, 836 ≤ o → o ≤ 1156 → mixH h2 hr2 o = mixH h hr o := fun o p q => by rw [mx_c (by omega), mx_c (by omega)]; exact c1 o (by omega) (by omega) (by omega)
  have n0 : mixH h2 hr2 1222 0 = mixH h hr 1222 0 := by rw [mx_c (by decide), m12]; exact c3.1
  have n1 : mixH h2 hr2 1222 1 = mixH h hr 1222 1 := by rw [mx_c (by decide), m12]; exact c3.2
  have l0 : mixH h2 hr2 (mixH h hr 1222 0) (-1) = mixH h hr (mixH h hr 1222 0) (-1) := by
    rw [m12, mx_c (by omega), mx_c (by omega)]
    have := c4.1
    unfold cK at this
    rw [c3.1] at this
    exact this
  have l1 : mixH h2 hr2 (mixH h hr 1222 1) (-1) = mixH h hr (mixH h hr 1222 1) (-1) := by
    rw [m12, mx_c (by omega), mx_c (by omega)]
    have := c4.2
    unfold cB at this
    rw [c3.2] at this
    exact this
  have eb : rb (mixH h2 hr2) = rb (mixH h hr) := by unfold rb; rw [k643]
  have ez : rwZ (mixH h2 hr2) = rwZ (mixH h hr) := by funext r; unfold rwZ; rw [k643, ks]
  have ei : rwI (mixH h2 hr2) = rwI (mixH h hr) := by funext r i; unfold rwI; rw [k643, ks, ki]
  have em : rm (mixH h2 hr2) = rm (mixH h hr) := by unfold rm; rw [k643, ks, ki]
  refine ⟨⟨fun o p q r s t u => ?_, fun s w => (c2 s w).trans (F.2.1 s w), by have w := F.2.2; unfold rb at w ⊢; rw [e.1]; exact w⟩, ⟨fun o p q => (R.1 o p (by omega)).trans (G.1 o p q), fun s p q r t u => (R.2 s q r t u).trans (G.2 s p q r t u)⟩, V2, ?_, ?_, ?_, ?_, ?_⟩
  · rw [c1 o q (by omega) (by omega)]
    exact F.1 o p q r s t u
  · unfold RRw at *
    rw [k30, k643, eb, ez, ei, kr 10336 (by decide) (by decide), kr 10401 (by decide) (by decide)]
    exact ⟨RW_eq W.1 k0 k643 ks ki, W.2⟩
  · unfold RIt at *
    rw [k643, eb, ez, ei, kr 10272 (by decide) (by decide), kc 836 (by decide) (by decide), kc 928 (by decide) (by decide)]
    exact I
  · unfold RMk at *
    rw [k643, eb, kr 10272 (by decide) (by decide), kr 10208 (by decide) (by decide), kc 836 (by decide) (by decide), kc 928 (by decide) (by decide), kc 1120 (by decide) (by decide)]
    exact M
  · unfold RVl at *
    rw [n0, n1, k0, k643, l0, l1]
    exact L
  · unfold RRm at *
    rw [n0, n1, k0, em, l0, l1]
    exact Rm
/-! the scalars -/
def SCL (K h hr : HV) (l : List FRT) : Prop := (1 ≤ l.length ∧ l.length ≤ 8) ∧ h 1157 5 = l.length - 1 ∧ h 1222 2 = bsF K l ∧ hr 6603 36 = ftF l ∧ hr 6603 41 = l.length ∧ h 1157 8 = ntF l ∧ hr 6603 44 = ngF K l ∧
  (h 1157 17 = hr 6603 53 ∧ h 1157 16 = hr 6603 54 ∧ 0 ≤ h 1157 17 ∧ h 1157 17 ≤ h 1157 16 ∧ h 1157 16 ≤ 3000) ∧ (h 1157 15 = hr 6603 55 ∧ 0 ≤ h 1157 15 ∧ h 1157 15 ≤ 10000) ∧ (hr 6603 56 = 1 ∧ hr 6603 58 = 0 ∧ hr 6603 59 = 0) ∧ h 1157 20 = 0 ∧ h 1157 19 = 100 ∧ h 1157 18 = 0
def VMS (K B Br h hr : HV) (n : Nat) (l : List FRT) : Prop := STA B Br h hr ∧ SCL K h hr l ∧ ALF K h hr n l
/-- the stack's part alone has changed -/
theorem AGR.stk {K h h2 hr hr2 : HV} {l : List FRT} (V : VOK h) (C : CCG h h2) (R : RCG hr hr2) (hm : ∀ o, 1440 ≤ o → o ≤ 1926 → h2 o = h o) (hq : ∀ o, 10592 ≤ o → o ≤ 11487 → hr2 o = hr o) (hc : ∀ p : Int, 0 ≤ p → p < bsF K l → cK h2 p = cK h p ∧ cB h2 p = cB h p) (hs : ∀ i : Int, 0 ≤ i → i < ftF l → hr2 10464 i = hr 10464 i ∧ hr2 10529 i = hr 10529 i) : AGR K h h2 hr hr2 l := by
  refine ⟨fun k b k' b' w => by rw [VVh.cg V C R]; exact w, hc, fun j _ _ => ?_, fun i _ _ => ?_, fun i _ _ => ?_, hs, ⟨fun t _ _ => ?_, fun g _ _ => ?_⟩, by rw [C.2.2.2.1.1]; omega⟩
  · rw [hm 1440 (by decide) (by decide), hm 1504 (by decide) (by decide), hq 10848 (by decide) (by decide), hq 10912 (by decide) (by decide)]
    exact ⟨rfl, rfl, rfl, rfl⟩
  · rw [hq 10592 (by decide) (by decide), hq 10657 (by decide) (by decide)]
    exact ⟨rfl, rfl⟩
  · rw [hq 10720 (by decide) (by decide), hq 10784 (by decide) (by decide)]
    exact ⟨rfl, rfl⟩
  · rw [hm 1568 (by decide) (by decide), hm 1632 (by decide) (by decide), hm 1696 (by decide) (by decide), hm 1760 (by decide) (by decide), hm 1824 (by decide) (by decide), hm 1889 (by decide) (by decide)]
    exact ⟨rfl, rfl, rfl, rfl, rfl, rfl⟩
  · rw [hq 10976 (by decide) (by decide), hq 11040 (by decide) (by decide), hq 11104 (by decide) (by decide), hq 11168 (by decide) (by decide), hq 11232 (by decide) (by decide), hq 11296 (by decide) (by decide), hq 11361 (by decide) (by decide)]
    exact ⟨rfl, rfl, rfl, rfl, rfl, rfl, rfl⟩
/-- the top frame's exp values apart -/
theorem ALF.ev {K h hr : HV} {n : Nat} {q E E2 k k2 : Int} {x : CX} {l : List FRT} (A : ALF K h hr n ((q, x, E, k) :: l)) (h1 : 0 ≤ E2 ∧ E2 ≤ 36) (hk : 1 ≤ k2 ∧ k2 ≤ 399) (S : EVR h hr (bsF K l + K 7 q + 2 * lps x) (ftF l) E2) : ALF K h hr n ((q, x, E2, k2) :: l) := by
  obtain ⟨⟨a, b, -, d, e, -, g, -, i, j⟩, R⟩ := A
  exact ⟨⟨a, b, h1, d, e, hk, g, S, i, j⟩, R⟩
theorem ALF.e0 {K h hr : HV} {n : Nat} {q E k : Int} {x : CX} {l : List FRT} (A : ALF K h hr n ((q, x, E, k) :: l)) : ALF K h hr n ((q, x, 0, k) :: l) := A.ev ⟨by decide, by decide⟩ A.1.2.2.2.2.2.1 (fun i a b => by omega)
theorem rpH_2 {h : HV} {n k b : Int} (V : VOK h) (hn : 0 ≤ n ∧ n ≤ h 1222 2) (hl : h 1222 2 - n < cK h (-1)) : CCG h (rpH h n k b) ∧ rpH h n k b 1222 2 = h 1222 2 - n + 1 ∧ (∀ p, cK (rpH h n k b) p = if p = h 1222 2 - n then k else cK h p) ∧ (∀ p, cB (rpH h n k b) p = if p = h 1222 2 - n then b else cB h p) ∧ ∀ o, o ≠ 1222 → o ≠ h 1222 0 → o ≠ h 1222 1 → rpH h n k b o = h o := by
  have a := V.ar
  have m := V.md
  have e2 := cut_2 (h := h) (l := h 1222 2 - n) (by omega) (by omega)
  have ez : ∀ s, s ≠ 2 → cutH h (h 1222 2 - n) 1222 s = h 1222 s := fun s w => cut_s w
  have eo : ∀ o, o ≠ 1222 → cutH h (h 1222 2 - n) o = h o := fun o w => cut_ne w
  have z0 := ez 0 (by decide)
  have z1 := ez 1 (by decide)
  have r2 : rpH h n k b 1222 2 = h 1222 2 - n + 1 := by unfold rpH pshH; rw [hcel1, e2]
  have r0 : ∀ s, s ≠ 2 → rpH h n k b 1222 s = h 1222 s := fun s w => by
    unfold rpH pshH
    rw [hcell w, z1, hs_ne (by omega), z0, hs_ne (by omega), ez s w]
  have ro : ∀ o, o ≠ 1222 → o ≠ h 1222 0 → o ≠ h 1222 1 → rpH h n k b o = h o := fun o w1 w2 w3 => by
    unfold rpH pshH
    rw [hs_ne w1, z1, hs_ne w3, z0, hs_ne w2, eo o w1]
  have rK : ∀ p, rpH h n k b (h 1222 0) p = if p = h 1222 2 - n then k else h (h 1222 0) p := fun p => by
    unfold rpH pshH
    rw [hs_ne (by omega), z1, hs_ne (by omega), z0, hset_v, e2, eo _ (by omega)]
    by_cases w : p = h 1222 2 - n
    · rw [if_pos ⟨rfl, w⟩, if_pos w]
    · rw [if_neg (fun z => w z.2), if_neg w]
  have rB : ∀ p, rpH h n k b (h 1222 1) p = if p = h 1222 2 - n then b else h (h 1222 1) p := fun p => by
    unfold rpH pshH
    rw [hs_ne (by omega), z1, hset_v, z0, hs_ne (by omega), e2, eo _ (by omega)]
    by_cases w : p = h 1222 2 - n
    · rw [if_pos ⟨rfl, w⟩, if_pos w]
    · rw [if_neg (fun z => w z.2), if_neg w]
  have cK' : ∀ p, cK (rpH h n k b) p = if p = h 1222 2 - n then k else cK h p := fun p => by unfold cK; rw [r0 0 (by decide), rK]
  have cB' : ∀ p, cB (rpH h n k b) p = if p = h 1222 2 - n then b else cB h p := fun p => by unfold cB; rw [r0 1 (by decide), rB]
  refine ⟨⟨fun o p q r => ro o (by omega) q r, fun s w => by rw [ro 1157 (by decide) (by omega) (by omega)], ⟨r0 0 (by decide), r0 1 (by decide)⟩, ⟨by rw [cK', if_neg (by omega)], by rw [cB', if_neg (by omega)]⟩, by omega, by omega⟩, r2, cK', cB', ro⟩
theorem puR_2 {h : HV} {n k b : Int} : RCG h (puR (tpR h n) k b) ∧ puR (tpR h n) k b 6603 36 = h 6603 36 - n + 1 ∧ (∀ s, s ≠ 36 → puR (tpR h n) k b 6603 s = h 6603 s) ∧ (∀ i, puR (tpR h n) k b 10464 i = if i = h 6603 36 - n then k else h 10464 i) ∧ (∀ i, puR (tpR h n) k b 10529 i = if i = h 6603 36 - n then b else h 10529 i) ∧ ∀ o, o ≠ 6603 → o ≠ 10464 → o ≠ 10529 → puR (tpR h n) k b o = h o := by
  have t : tpR h n 6603 36 = h 6603 36 - n := by unfold tpR; rw [hcel1]
  have to : ∀ o, o ≠ 6603 → tpR h n o = h o := fun o w => by unfold tpR; rw [hs_ne w]
  have ro : ∀ o, o ≠ 6603 → o ≠ 10464 → o ≠ 10529 → puR (tpR h n) k b o = h o := fun o p q r => by unfold puR; rw [hs_ne p, hs_ne r, hs_ne q, to o p]
  have rs : ∀ s, s ≠ 36 → puR (tpR h n) k b 6603 s = h 6603 s := fun s w => by unfold puR; rw [hcell w, hs_ne (by decide), hs_ne (by decide)]; unfold tpR; rw [hcell w]
  refine ⟨⟨fun o p q => ro o p (by omega) (by omega), fun s p _ _ _ => rs s p⟩, by unfold puR; rw [hcel1, t], rs, fun i => ?_, fun i => ?_, ro⟩
  · unfold puR
    rw [hs_ne (by decide), hs_ne (by decide), hset_v, t, to _ (by decide)]
    by_cases w : i = h 6603 36 - n
    · rw [if_pos ⟨rfl, w⟩, if_pos w]
    · rw [if_neg (fun z => w z.2), if_neg w]
  · unfold puR
    rw [hs_ne (by decide), hset_v, t, hs_ne (by decide), to _ (by decide)]
    by_cases w : i = h 6603 36 - n
    · rw [if_pos ⟨rfl, w⟩, if_pos w]
    · rw [if_neg (fun z => w z.2), if_neg w]
theorem bsF_c {K : HV} {f : FRT} {l : List FRT} : bsF K (f :: l) = bsF K l + (K 7 f.1 + 2 * lps f.2.1 + f.2.2.1) := rfl
theorem ftF_c {f : FRT} {l : List FRT} : ftF (f :: l) = ftF l + f.2.2.1 := rfl
theorem ntF_c {f : FRT} {l : List FRT} : ntF (f :: l) = ntF l + ntX f.2.1 := rfl
theorem ngF_c {K : HV} {f : FRT} {l : List FRT} : ngF K (f :: l) = ngF K l + ngX K f.2.1 := rfl
theorem phF_c {f : FRT} {l : List FRT} : phF (f :: l) = phF l + f.2.2.2 := rfl
/-- n values away, one on -/
theorem VMS.rp {K B Br h hr : HV} {n : Nat} {q E k k2 m kc bc kr br : Int} {x : CX} {l : List FRT} (O : KOK K) (M : VMS K B Br h hr n ((q, x, E, k) :: l)) (hm : 0 ≤ m ∧ m ≤ E) (hE : E - m + 1 ≤ 36) (hk : 1 ≤ k2 ∧ k2 ≤ 399) (v : VVh h hr kc bc kr br) : VMS K B Br (rpH h m kc bc) (puR (tpR hr m) kr br) n ((q, x, E - m + 1, k2) :: l) := by
  obtain ⟨S, ⟨s1, s2, s3, s4, s5, s6, s7, s8, s9, s10, s11, s12, s13⟩, A⟩ := M
  have V := S.2.2.1
  have a := V.ar
  have z := ALF.sz O l A.2
  have l0 := lps_0 x
  have kq := (O.2 q A.1.2.1.1 A.1.2.1.2).1
  have le : bsF K l + K 7 q + 64 ≤ cK h (-1) := A.1.2.2.2.2.1
  have lx : x.length ≤ 12 := A.1.2.2.2.1
  have e3 : h 1222 2 = bsF K l + (K 7 q + 2 * lps x + E) := s3
  have e4 : hr 6603 36 = ftF l + E := s4
  obtain ⟨C, r2, rK, rB, ro⟩ := rpH_2 (h := h) (n := m) (k := kc) (b := bc) V (by omega) (by omega)
  obtain ⟨R, t36, ts, tK, tB, to⟩ := puR_2 (h := hr) (n := m) (k := kr) (b := br)
  have c57 : rpH h m kc bc 1157 = h 1157 := ro 1157 (by decide) (by omega) (by omega)
  refine ⟨S.cg C R, ⟨s1, by rw [c57]; exact s2, ?_, ?_, by rw [ts 41 (by decide)]; exact s5, by rw [c57]; exact s6, by rw [ts 44 (by decide)]; exact s7, by rw [c57, ts 53 (by decide), ts 54 (by decide)]; exact s8, by rw [c57, ts 55 (by decide)]; exact s9, by rw [ts 56 (by decide), ts 58 (by decide), ts 59 (by decide)]; exact s10, by rw [c57]; exact s11, by rw [c57]; exact s12, by rw [c57]; exact s13⟩, ?_⟩
  · rw [r2, bsF_c]
    show _ = bsF K l + (K 7 q + 2 * lps x + (E - m + 1))
    omega
  · rw [t36, ftF_c]
    show _ = ftF l + (E - m + 1)
    omega
  · have G : AGR K h (rpH h m kc bc) hr (puR (tpR hr m) kr br) ((q, x, 0, k) :: l) := by
      refine AGR.stk V C R (fun o p r => ro o (by omega) (by omega) (by omega)) (fun o p r => to o (by omega) (by omega) (by omega)) (fun p p0 p1 => ?_) (fun i i0 i1 => ?_)
      · rw [bsF_c] at p1
        have p1 : p < bsF K l + (K 7 q + 2 * lps x + 0) := p1
        rw [rK, rB, if_neg (by omega), if_neg (by omega)]
        exact ⟨rfl, rfl⟩
      · rw [ftF_c] at i1
        have i1 : i < ftF l + 0 := i1
        rw [tK, tB, if_neg (by omega), if_neg (by omega)]
        exact ⟨rfl, rfl⟩
    have A2 := ALF.ag O (Nat.le_refl n) _ G A.e0
    refine A2.ev (by omega) hk (fun i i0 i1 => ?_)
    rw [rK, rB, tK, tB, VVh.cg V C R]
    by_cases w : i = E - m
    · rw [if_pos (by omega), if_pos (by omega), if_pos (by omega), if_pos (by omega)]
      exact v
    · rw [if_neg (by omega), if_neg (by omega), if_neg (by omega), if_neg (by omega)]
      exact A.1.2.2.2.2.2.2.2.1 i i0 (by show i < E; omega)
