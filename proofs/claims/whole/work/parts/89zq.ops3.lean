/-! THE PURE SIDE, 113: the two machines alike: slots, loops: printed by wip/tools/gen89zq.py -/
theorem stv_2 {h : HV} {p k b : Int} (V : VOK h) (hp : 0 ≤ p) : CCG h (stvH h p k b) ∧ stvH h p k b 1222 = h 1222 ∧ (∀ i, cK (stvH h p k b) i = if i = p then k else cK h i) ∧ (∀ i, cB (stvH h p k b) i = if i = p then b else cB h i) ∧ ∀ o, o ≠ h 1222 0 → o ≠ h 1222 1 → stvH h p k b o = h o := by
  have a := V.ar
  have m := V.md
  have e := stv_s (p := p) (k := k) (b := b) V
  have ro : ∀ o, o ≠ h 1222 0 → o ≠ h 1222 1 → stvH h p k b o = h o := fun o w2 w3 => by unfold stvH; rw [hs_ne w3, hs_ne w2]
  have rK : ∀ i, cK (stvH h p k b) i = if i = p then k else cK h i := fun i => by
    unfold cK
    rw [e]
    unfold stvH
    rw [hs_ne (by omega), hset_v]
    by_cases w : i = p
    · rw [if_pos ⟨rfl, w⟩, if_pos w]
    · rw [if_neg (fun z => w z.2), if_neg w]
  have rB : ∀ i, cB (stvH h p k b) i = if i = p then b else cB h i := fun i => by
    unfold cB
    rw [e]
    unfold stvH
    rw [hset_v, hs_ne (by omega)]
    by_cases w : i = p
    · rw [if_pos ⟨rfl, w⟩, if_pos w]
    · rw [if_neg (fun z => w z.2), if_neg w]
  exact ⟨⟨fun o _ q r => ro o q r, fun s w => by rw [ro 1157 (by omega) (by omega)], ⟨by rw [e], by rw [e]⟩, ⟨by rw [rK, if_neg (by omega)], by rw [rB, if_neg (by omega)]⟩, by rw [e]; exact V.2.2.2.1⟩, e, rK, rB, ro⟩
theorem cut_3 {h : HV} {m : Int} (V : VOK h) (hm : 0 ≤ m ∧ m ≤ h 1222 2) : CCG h (cutH h (h 1222 2 - m)) ∧ cutH h (h 1222 2 - m) 1222 2 = h 1222 2 - m ∧ (∀ i, cK (cutH h (h 1222 2 - m)) i = cK h i) ∧ (∀ i, cB (cutH h (h 1222 2 - m)) i = cB h i) ∧ ∀ o, o ≠ 1222 → cutH h (h 1222 2 - m) o = h o := by
  have a := V.ar
  have md := V.md
  have e2 := cut_2 (h := h) (l := h 1222 2 - m) (by omega) (by omega)
  have ez : ∀ s, s ≠ 2 → cutH h (h 1222 2 - m) 1222 s = h 1222 s := fun s w => cut_s w
  have eo : ∀ o, o ≠ 1222 → cutH h (h 1222 2 - m) o = h o := fun o w => cut_ne w
  have rK : ∀ i, cK (cutH h (h 1222 2 - m)) i = cK h i := fun i => by unfold cK; rw [ez 0 (by decide), eo _ (by omega)]
  have rB : ∀ i, cB (cutH h (h 1222 2 - m)) i = cB h i := fun i => by unfold cB; rw [ez 1 (by decide), eo _ (by omega)]
  have v4 := V.2.2.2.1
  exact ⟨⟨fun o p _ _ => eo o (by omega), fun s w => by rw [eo 1157 (by decide)], ⟨ez 0 (by decide), ez 1 (by decide)⟩, ⟨rK _, rB _⟩, by omega, by unfold cK; omega⟩, e2, rK, rB, eo⟩
section VM
variable {K B Br h hr h2 hr2 : HV} {n : Nat} {q E k k2 : Int} {x : CX} {l L L2 : List FRT}
theorem SCL.up (s : SCL K h hr L) (hl : L2.length = L.length) (c : ∀ s, s ≠ 4 → s ≠ 8 → h2 1157 s = h 1157 s) (r : ∀ s, s ≠ 36 → s ≠ 44 → s ≠ 52 → hr2 6603 s = hr 6603 s) (e1 : h2 1222 2 = bsF K L2) (e2 : hr2 6603 36 = ftF L2) (e3 : h2 1157 8 = ntF L2) (e4 : hr2 6603 44 = ngF K L2) : SCL K h2 hr2 L2 := by
  obtain ⟨s1, s2, s3, s4, s5, s6, s7, s8, s9, s10, s11, s12, s13⟩ := s
  unfold SCL
  rw [hl, e1, e2, e3, e4, c 5 (by decide) (by decide), r 41 (by decide) (by decide) (by decide), c 17 (by decide) (by decide), c 16 (by decide) (by decide), r 53 (by decide) (by decide) (by decide), r 54 (by decide) (by decide) (by decide), c 15 (by decide) (by decide), r 55 (by decide) (by decide) (by decide), r 56 (by decide) (by decide) (by decide), r 58 (by decide) (by decide) (by decide), r 59 (by decide) (by decide) (by decide), c 20 (by decide) (by decide), c 19 (by decide) (by decide), c 18 (by decide) (by decide)]
  exact ⟨s1, s2, rfl, rfl, s5, rfl, rfl, s8, s9, s10, s11, s12, s13⟩
theorem VMS.fr (M : VMS K B Br h hr n ((q, x, E, k) :: l)) : h 1157 5 = l.length ∧ hr 6603 41 = l.length + 1 ∧ l.length ≤ 7 ∧ h 1440 (h 1157 5) = bsF K l ∧ 420 * (hr 6603 41 - 1) = 420 * l.length ∧ 402 * (hr 6603 41 - 1) = 402 * l.length ∧ h 1157 8 = ntF l + ntX x ∧ hr 6603 44 = ngF K l + ngX K x ∧ (0 ≤ q ∧ q < K 12 0) ∧ x.length ≤ 12 ∧ bsF K l + K 7 q + 64 ≤ cK h (-1) := by
  obtain ⟨S, ⟨s1, s2, s3, s4, s5, s6, s7, -⟩, A⟩ := M
  have a0 : h 1440 l.length = bsF K l := A.1.1.1
  rw [List.length_cons] at s1 s2 s5
  have e5 : h 1157 5 = l.length := by omega
  have a1 : x.length ≤ 12 := A.1.2.2.2.1
  have a2 : bsF K l + K 7 q + 64 ≤ cK h (-1) := A.1.2.2.2.2.1
  exact ⟨e5, by omega, by omega, by rw [e5]; exact a0, by omega, by omega, s6, s7, A.1.2.1, a1, a2⟩
theorem VMS.slot (O : KOK K) (M : VMS K B Br h hr n ((q, x, E, k) :: l)) {v : Int} (hv : 0 ≤ v ∧ v < K 7 q) : VVh h hr (kA h (h 1440 (h 1157 5) + v)) (bA h (h 1440 (h 1157 5) + v)) (hr 10592 (420 * (hr 6603 41 - 1) + K 11 (512 * q + v))) (hr 10657 (420 * (hr 6603 41 - 1) + K 11 (512 * q + v))) := by
  have z := M.hs O
  have f := M.fr
  have s : SLR K h hr q l.length (bsF K l) := M.2.2.1.2.2.2.2.2.2.1
  have s := s v hv.1 hv.2
  unfold kA bA
  rw [f.2.2.2.1, f.2.2.2.2.1, if_pos (by omega), if_pos (by omega)]
  exact s
theorem VMS.sl0 (O : KOK K) (M : VMS K B Br h hr n ((q, x, E, k) :: l)) {v : Int} (hv : 0 ≤ v ∧ v < K 7 q) : (0 ≤ K 11 (512 * q + v) ∧ K 11 (512 * q + v) < 420) ∧ (0 ≤ h 1157 5 ∧ h 1157 5 < 8) ∧ (0 ≤ v ∧ v ≤ 1000) ∧ (0 ≤ h 1440 (h 1157 5) ∧ h 1440 (h 1157 5) ≤ 20000) ∧ h 1440 (h 1157 5) + v < h 1222 2 ∧ h 1222 2 < h (h 1222 0) (-1) ∧ (1 ≤ hr 6603 41 ∧ hr 6603 41 ≤ 8) := by
  have z := M.hs O
  have f := M.fr
  have m := (O.2 q f.2.2.2.2.2.2.2.2.1.1 f.2.2.2.2.2.2.2.2.1.2)
  have m1 := m.1
  have m2 := m.2.1 v hv.1 hv.2
  have zz := z.2.2.2.2.2.2.1
  unfold cK at zz
  rw [f.2.2.2.1]
  omega
/-- the top's slots, loops and tries under a change -/
theorem ALF.tp {q2 E2 : Int} {x2 : CX} (O : KOK K) (A : ALF K h hr n ((q, x, E, k) :: l)) (hq : q2 = q) (G : AGR K h h2 hr hr2 l) (e1 : h2 1440 l.length = h 1440 l.length) (e2 : hr2 10912 l.length = hr 10912 l.length) (e3 : h2 1504 l.length = h 1504 l.length) (e4 : hr2 10848 l.length = hr 10848 l.length) (hE : 0 ≤ E2 ∧ E2 ≤ 36) (hx : x2.length ≤ 12) (hk : 1 ≤ k2 ∧ k2 ≤ 399) (S : SLR K h2 hr2 q l.length (bsF K l)) (V : EVR h2 hr2 (bsF K l + K 7 q + 2 * lps x2) (ftF l) E2) (C : CXR K (MEM K (VS K q) (CLS K) n) h2 hr2 l.length (bsF K l + K 7 q) (ftF l) (ntF l) (ngF K l) x2) : ALF K h2 hr2 n ((q2, x2, E2, k2) :: l) := by
  subst hq
  obtain ⟨⟨⟨a1, a2⟩, b, -, -, e, -, -, -, -, j⟩, R⟩ := A
  refine ⟨⟨⟨by rw [e1]; exact a1, by rw [e2]; exact a2⟩, b, hE, hx, ?_, hk, S, V, C, RET.le (Nat.le_refl n) e3 e4 l j⟩, ALF.ag O (Nat.le_refl n) l G R⟩
  have := G.2.2.2.2.2.2.2
  show bsF K l + K 7 q2 + 64 ≤ _
  have e : bsF K l + K 7 q2 + 64 ≤ cK h (-1) := e
  omega
theorem VMS.cut (O : KOK K) (M : VMS K B Br h hr n ((q, x, 1, k) :: l)) (hk : 1 ≤ k2 ∧ k2 ≤ 399) : VMS K B Br (cutH h (h 1222 2 - 1)) (tpR hr 1) n ((q, x, 0, k2) :: l) := by
  have z := M.hs O
  obtain ⟨S, s, A⟩ := M
  have V := S.2.2.1
  have ar := V.ar
  obtain ⟨C, r2, rK, rB, ro⟩ := cut_3 (m := 1) V (by omega)
  have R : RCG hr (tpR hr 1) := rg_set (.inr ⟨rfl, .inl rfl⟩)
  have to : ∀ o, o ≠ 6603 → tpR hr 1 o = hr o := fun o w => hs_ne w
  have ts : ∀ s, s ≠ 36 → tpR hr 1 6603 s = hr 6603 s := fun s w => hcell w
  have t36 : tpR hr 1 6603 36 = hr 6603 36 - 1 := hcel1
  have c57 := ro 1157 (by decide)
  refine ⟨S.cg C R, s.up rfl (fun s _ _ => by rw [c57]) (fun s a _ _ => ts s a) ?_ ?_ (by rw [c57]; exact s.2.2.2.2.2.1) (by rw [ts 44 (by decide)]; exact s.2.2.2.2.2.2.1), ?_⟩
  · rw [r2, bsF_c]
    show _ = bsF K l + (K 7 q + 2 * lps x + 0)
    omega
  · rw [t36, ftF_c]
    show _ = ftF l + 0
    omega
  · have G : AGR K h (cutH h (h 1222 2 - 1)) hr (tpR hr 1) ((q, x, 0, k) :: l) := AGR.stk V C R (fun o p r => ro o (by omega)) (fun o p r => to o (by omega)) (fun p p0 p1 => ⟨rK _, rB _⟩) (fun i i0 i1 => by rw [to _ (by decide), to _ (by decide)]; exact ⟨rfl, rfl⟩)
    exact (ALF.ag O (Nat.le_refl n) _ G A.e0).ev ⟨by decide, by decide⟩ hk (fun i a b => by omega)
theorem VMS.set (O : KOK K) (M : VMS K B Br h hr n ((q, x, 1, k) :: l)) {v : Int} (hv : 0 ≤ v ∧ v < K 7 q) (hk : 1 ≤ k2 ∧ k2 ≤ 399) : VMS K B Br (cutH (stvH h (h 1440 (h 1157 5) + v) (tK h 0) (tB h 0)) (h 1222 2 - 1)) (hset (hset (tpR hr 1) 10592 (420 * (hr 6603 41 - 1) + K 11 (512 * q + v)) (uK hr 1)) 10657 (420 * (hr 6603 41 - 1) + K 11 (512 * q + v)) (uB hr 1)) n ((q, x, 0, k2) :: l) := by
  have z := M.hs O
  have f := M.fr
  have v0 := M.top0 O (by decide)
  have kq := O.2 q f.2.2.2.2.2.2.2.2.1.1 f.2.2.2.2.2.2.2.2.1.2
  rw [f.2.2.2.1, f.2.2.2.2.1]
  have V := M.V
  have ar := V.ar
  obtain ⟨C1, e1, K1, B1, o1⟩ := stv_2 (p := bsF K l + v) (k := tK h 0) (b := tB h 0) V (by omega)
  have V1 := C1.V V
  have e22 : stvH h (bsF K l + v) (tK h 0) (tB h 0) 1222 2 = h 1222 2 := by rw [e1]
  generalize stvH h (bsF K l + v) (tK h 0) (tB h 0) = h1 at *
  obtain ⟨C2, r2, K2, B2, o2⟩ := cut_3 (m := 1) V1 (by omega)
  rw [e22] at C2 r2 K2 B2 o2
  have C := C1.tr C2
  generalize cutH h1 (h 1222 2 - 1) = h2 at *
  have ho : ∀ o, o ≠ 1222 → o ≠ h 1222 0 → o ≠ h 1222 1 → h2 o = h o := fun o a b c => (o2 o a).trans (o1 o b c)
  have to : ∀ o, o ≠ 6603 → tpR hr 1 o = hr o := fun o w => hs_ne w
  have ts : ∀ s, s ≠ 36 → tpR hr 1 6603 s = hr 6603 s := fun s w => hcell w
  have t36 : tpR hr 1 6603 36 = hr 6603 36 - 1 := hcel1
  have R : RCG hr (hset (hset (tpR hr 1) 10592 (420 * (l.length : Int) + K 11 (512 * q + v)) (uK hr 1)) 10657 (420 * (l.length : Int) + K 11 (512 * q + v)) (uB hr 1)) := (RCG.tr (rg_set (.inr ⟨rfl, .inl rfl⟩) : RCG hr (tpR hr 1)) (rg_set (.inl (by decide)))).tr (rg_set (.inl (by decide)))
  have q92 : ∀ i, hset (hset (tpR hr 1) 10592 (420 * (l.length : Int) + K 11 (512 * q + v)) (uK hr 1)) 10657 (420 * (l.length : Int) + K 11 (512 * q + v)) (uB hr 1) 10592 i = if i = 420 * (l.length : Int) + K 11 (512 * q + v) then uK hr 1 else hr 10592 i := fun i => by
    rw [hs_ne (by decide), hset_v, to _ (by decide)]
    by_cases w : i = 420 * (l.length : Int) + K 11 (512 * q + v)
    · rw [if_pos ⟨rfl, w⟩, if_pos w]
    · rw [if_neg (fun z => w z.2), if_neg w]
  have q57 : ∀ i, hset (hset (tpR hr 1) 10592 (420 * (l.length : Int) + K 11 (512 * q + v)) (uK hr 1)) 10657 (420 * (l.length : Int) + K 11 (512 * q + v)) (uB hr 1) 10657 i = if i = 420 * (l.length : Int) + K 11 (512 * q + v) then uB hr 1 else hr 10657 i := fun i => by
    rw [hset_v, hs_ne (by decide), to _ (by decide)]
    by_cases w : i = 420 * (l.length : Int) + K 11 (512 * q + v)
    · rw [if_pos ⟨rfl, w⟩, if_pos w]
    · rw [if_neg (fun z => w z.2), if_neg w]
  have qo : ∀ o, o ≠ 6603 → o ≠ 10592 → o ≠ 10657 → hset (hset (tpR hr 1) 10592 (420 * (l.length : Int) + K 11 (512 * q + v)) (uK hr 1)) 10657 (420 * (l.length : Int) + K 11 (512 * q + v)) (uB hr 1) o = hr o := fun o a b c => by rw [hs_ne c, hs_ne b, to o a]
  have qs : ∀ s, s ≠ 36 → hset (hset (tpR hr 1) 10592 (420 * (l.length : Int) + K 11 (512 * q + v)) (uK hr 1)) 10657 (420 * (l.length : Int) + K 11 (512 * q + v)) (uB hr 1) 6603 s = hr 6603 s := fun s a => by rw [hs_ne (by decide), hs_ne (by decide), ts s a]
  have q36 : hset (hset (tpR hr 1) 10592 (420 * (l.length : Int) + K 11 (512 * q + v)) (uK hr 1)) 10657 (420 * (l.length : Int) + K 11 (512 * q + v)) (uB hr 1) 6603 36 = hr 6603 36 - 1 := by rw [hs_ne (by decide), hs_ne (by decide), t36]
  generalize hset (hset (tpR hr 1) 10592 (420 * (l.length : Int) + K 11 (512 * q + v)) (uK hr 1)) 10657 (420 * (l.length : Int) + K 11 (512 * q + v)) (uB hr 1) = hr2 at *
  obtain ⟨S, s, A⟩ := M
  have c57 : h2 1157 = h 1157 := ho 1157 (by decide) (by omega) (by omega)
  have mv : ∀ k b k' b', VVh h hr k b k' b' → VVh h2 hr2 k b k' b' := fun k b k' b' w => by rw [VVh.cg V C R]; exact w
  have kc : ∀ i, cK h2 i = if i = bsF K l + v then tK h 0 else cK h i := fun i => (K2 i).trans (K1 i)
  have kb : ∀ i, cB h2 i = if i = bsF K l + v then tB h 0 else cB h i := fun i => (B2 i).trans (B1 i)
  have m0 := kq.2.1 v hv.1 hv.2
  refine ⟨S.cg C R, s.up rfl (fun s _ _ => by rw [c57]) (fun s a _ _ => qs s a) ?_ ?_ (by rw [c57]; exact s.2.2.2.2.2.1) (by rw [qs 44 (by decide)]; exact s.2.2.2.2.2.2.1), ?_⟩
  · rw [r2, bsF_c]
    show _ = bsF K l + (K 7 q + 2 * lps x + 0)
    omega
  · rw [q36, ftF_c]
    show _ = ftF l + 0
    omega
  · have g1 : ∀ o, 1440 ≤ o → o ≤ 1926 → h2 o = h o := fun o a b => ho o (by omega) (by omega) (by omega)
    refine ALF.tp O A rfl ⟨mv, fun p a b => ?_, fun j _ _ => by rw [g1 1440 (by decide) (by decide), g1 1504 (by decide) (by decide), qo 10848 (by decide) (by decide) (by decide), qo 10912 (by decide) (by decide) (by decide)]; exact ⟨rfl, rfl, rfl, rfl⟩, fun i a b => ?_, fun i _ _ => by rw [qo 10720 (by decide) (by decide) (by decide), qo 10784 (by decide) (by decide) (by decide)]; exact ⟨rfl, rfl⟩, fun i _ _ => by rw [qo 10464 (by decide) (by decide) (by decide), qo 10529 (by decide) (by decide) (by decide)]; exact ⟨rfl, rfl⟩, ⟨fun t _ _ => ?_, fun g _ _ => ?_⟩, by rw [C.2.2.2.1.1]; omega⟩ (by rw [g1 1440 (by decide) (by decide)]) (by rw [qo 10912 (by decide) (by decide) (by decide)]) (by rw [g1 1504 (by decide) (by decide)]) (by rw [qo 10848 (by decide) (by decide) (by decide)]) ⟨by decide, by decide⟩ A.1.2.2.2.1 hk ?_ (fun i a b => by omega) ?_
    · rw [kc, kb, if_neg (by omega), if_neg (by omega)]
      exact ⟨rfl, rfl⟩
    · rw [q92, q57, if_neg (by omega), if_neg (by omega)]
      exact ⟨rfl, rfl⟩
    · rw [g1 1568 (by decide) (by decide), g1 1632 (by decide) (by decide), g1 1696 (by decide) (by decide), g1 1760 (by decide) (by decide), g1 1824 (by decide) (by decide), g1 1889 (by decide) (by decide)]
      exact ⟨rfl, rfl, rfl, rfl, rfl, rfl⟩
    · rw [qo 10976 (by decide) (by decide) (by decide), qo 11040 (by decide) (by decide) (by decide), qo 11104 (by decide) (by decide) (by decide), qo 11168 (by decide) (by decide) (by decide), qo 11232 (by decide) (by decide) (by decide), qo 11296 (by decide) (by decide) (by decide), qo 11361 (by decide) (by decide) (by decide)]
      exact ⟨rfl, rfl, rfl, rfl, rfl, rfl, rfl⟩
    · intro w w0 w1
      have s0 : SLR K h hr q l.length (bsF K l) := A.1.2.2.2.2.2.2.1
      have mw := kq.2.1 w w0 w1
      rw [kc, kb, q92, q57]
      by_cases e : w = v
      · subst e
        rw [if_pos rfl, if_pos rfl, if_pos rfl, if_pos rfl]
        exact mv _ _ _ _ v0
      · have ne : K 11 (512 * q + w) ≠ K 11 (512 * q + v) := fun z => e (kq.2.2.1 w v w0 w1 hv.1 hv.2 z)
        rw [if_neg (by omega), if_neg (by omega), if_neg (by omega), if_neg (by omega)]
        exact mv _ _ _ _ (s0 w w0 w1)
    · refine CXR.ag (fun _ _ _ _ _ w => w) mv x (fun p a b => ?_) (fun e' m w => ?_) ⟨fun t _ _ => ?_, fun g _ _ => ?_⟩ A.1.2.2.2.2.2.2.2.2.1
      · rw [kc, kb, if_neg (by omega), if_neg (by omega)]
        exact ⟨rfl, rfl⟩
      · rw [qo 10720 (by decide) (by decide) (by decide), qo 10784 (by decide) (by decide) (by decide)]
        exact ⟨rfl, rfl⟩
      · rw [g1 1568 (by decide) (by decide), g1 1632 (by decide) (by decide), g1 1696 (by decide) (by decide), g1 1760 (by decide) (by decide), g1 1824 (by decide) (by decide), g1 1889 (by decide) (by decide)]
        exact ⟨rfl, rfl, rfl, rfl, rfl, rfl⟩
      · rw [qo 10976 (by decide) (by decide) (by decide), qo 11040 (by decide) (by decide) (by decide), qo 11104 (by decide) (by decide) (by decide), qo 11168 (by decide) (by decide) (by decide), qo 11232 (by decide) (by decide) (by decide), qo 11296 (by decide) (by decide) (by decide), qo 11361 (by decide) (by decide) (by decide)]
        exact ⟨rfl, rfl, rfl, rfl, rfl, rfl, rfl⟩
end VM
