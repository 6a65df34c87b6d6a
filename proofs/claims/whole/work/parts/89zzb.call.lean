/-! THE PURE SIDE, 124: the two machines alike: a call: printed by wip/tools/gen89zzb.py -/
theorem RW_grow {h k : HV} (R : RW h) (e0 : h 0 0 ≤ k 0 0) (e1 : k 643 = h 643) (e2 : k (h 643 0) = h (h 643 0)) (e3 : k (h 643 1) = h (h 643 1)) : RW k := by
  unfold RW NFA at *
  rw [e1, e2, e3]
  exact ⟨⟨R.1.1, R.1.2.1, R.1.2.2.1, by omega, by omega⟩, ⟨R.2.1.1, R.2.1.2.1, R.2.1.2.2.1, by omega, by omega⟩, R.2.2⟩
section VM
variable {K B Br h hr h1 h2 hr2 : HV} {n n2 n0 : Nat} {q E k k2 : Int} {x y : CX} {l L L2 : List FRT} {g : CFG}
/-- the values' arrays have grown -/
theorem STA.grow (S : STA B Br h hr) (V1 : VOK h1) (R : RCG hr hr2) (oo : ∀ o, ¬ (1157 ≤ o ∧ o ≤ 1926) → o ≠ 0 → o ≠ h 1222 0 → o ≠ h 1222 1 → o < 64 * h 0 0 → h1 o = h o) (s3 : ∀ s, s ≤ 3 → h1 1157 s = h 1157 s) (z0 : h 0 0 ≤ h1 0 0) (z1 : 64 * (h1 0 0 - h 0 0) ≤ 2 * (cK h1 (-1) - cK h (-1))) (z2 : h1 0 1 - h 0 1 ≤ 4 * (cK h1 (-1) - cK h (-1))) (z3 : cK h (-1) ≤ cK h1 (-1)) (a0 : h1 1222 0 = h 1222 0 ∨ 64 * h 0 0 ≤ h1 1222 0) (a1 : h1 1222 1 = h 1222 1 ∨ 64 * h 0 0 ≤ h1 1222 1) : STA B Br h1 hr2 := by
  obtain ⟨RR, dd, rbb, e30, rows⟩ := S.RW
  obtain ⟨F, G, V, W, I, M, L, Rm⟩ := S
  have ar := V.ar
  have md := V.md
  have ar1 := V1.ar
  have m12' : mixH h hr 1222 = h 1222 := mx_c (by decide)
  have n1 := RR.1
  have n2 := RR.2.1
  have V1' := V1.1
  have V2' := V1.2.1
  unfold NFA at n1 n2 V1' V2'
  have e643 : h1 643 = h 643 := oo 643 (by omega) (by omega) (by omega) (by omega) (by omega)
  have es : h1 (h 643 0) = h (h 643 0) := oo _ (by omega) (by omega) (by omega) (by omega) (by omega)
  have ei : h1 (h 643 1) = h (h 643 1) := oo _ (by omega) (by omega) (by omega) (by omega) (by omega)
  have m6 : mixH h hr 643 = h 643 := mx_c (by decide)
  have k6 : mixH h1 hr2 643 = h 643 := by rw [mx_c (by decide), e643]
  have k0 : mixH h1 hr2 0 = h1 0 := mx_c (by decide)
  have m0 : mixH h hr 0 = h 0 := mx_c (by decide)
  have ms : mixH h hr (h 643 0) = h (h 643 0) := mx_c (by omega)
  have mi : mixH h hr (h 643 1) = h (h 643 1) := mx_c (by omega)
  have ks : mixH h1 hr2 (h 643 0) = h (h 643 0) := by rw [mx_c (by omega), es]
  have ki : mixH h1 hr2 (h 643 1) = h (h 643 1) := by rw [mx_c (by omega), ei]
  have k30 : mixH h1 hr2 6603 30 = mixH h hr 6603 30 := by rw [mx_r (by decide) (by decide), mx_r (by decide) (by decide)]; exact R.2 30 (by decide) (by decide) (by decide) (by decide)
  have kr : ∀ o, 10000 ≤ o → o < 10464 → mixH h1 hr2 o = mixH h hr o := fun o p q => by rw [mx_r (by omega) (by omega), mx_r (by omega) (by omega)]; exact R.1 o (by omega) (by omega)
  have kc : ∀ o, 836 ≤ o → o ≤ 1156 → mixH h1 hr2 o = mixH h hr o := fun o p q => by rw [mx_c (by omega), mx_c (by omega)]; exact oo o (by omega) (by omega) (by omega) (by omega) (by omega)
  have eb : rb (mixH h1 hr2) = rb (mixH h hr) := by unfold rb; rw [k6, m6]
  have ez : rwZ (mixH h1 hr2) = rwZ (mixH h hr) := by funext r; unfold rwZ; rw [k6, m6, ks, ms]
  have ex : rwI (mixH h1 hr2) = rwI (mixH h hr) := by funext r i; unfold rwI; rw [k6, m6, ks, ki, ms, mi]
  have em : rm (mixH h1 hr2) = rm (mixH h hr) := by unfold rm; rw [k6, m6, ks, ki, ms, mi]
  have k12 : mixH h1 hr2 1222 = h1 1222 := mx_c (by decide)
  have m12 : mixH h hr 1222 = h 1222 := mx_c (by decide)
  have l0 : mixH h1 hr2 (h1 1222 0) (-1) = cK h1 (-1) := by rw [mx_c (by omega)]; rfl
  have l1 : mixH h1 hr2 (h1 1222 1) (-1) = cB h1 (-1) := by rw [mx_c (by omega)]; rfl
  have j0 : mixH h hr (h 1222 0) (-1) = cK h (-1) := by rw [mx_c (by omega)]; rfl
  have j1 : mixH h hr (h 1222 1) (-1) = cB h (-1) := by rw [mx_c (by omega)]; rfl
  have q1 : cB h1 (-1) = cK h1 (-1) := V1.2.2.1
  have q0 : cB h (-1) = cK h (-1) := V.2.2.1
  have v5 : cK h1 (-1) ≤ 16384 := V1.2.2.2.2
  refine ⟨⟨fun o a b c d e f => ?_, fun s w => (s3 s w).trans (F.2.1 s w), by have w := F.2.2; unfold rb at w ⊢; rw [e643]; exact w⟩, ⟨fun o p q => (R.1 o p (by omega)).trans (G.1 o p q), fun s p q r t u => (R.2 s q r t u).trans (G.2 s p q r t u)⟩, V1, ?_, ?_, ?_, ?_, ?_⟩
  · rw [oo o b c (by omega) (by omega) (by omega)]
    exact F.1 o a b c d e f
  · unfold RRw at *
    rw [k30, eb, ez, ex, kr 10336 (by decide) (by decide), kr 10401 (by decide) (by decide), k6]
    rw [m6] at W
    exact ⟨RW_grow W.1 (by rw [m0, k0]; exact z0) (by rw [k6, m6]) (by rw [m6, ks, ms]) (by rw [m6, ki, mi]), W.2⟩
  · unfold RIt at *
    rw [k6, eb, ez, ex, kr 10272 (by decide) (by decide), kc 836 (by decide) (by decide), kc 928 (by decide) (by decide)]
    rw [m6] at I
    exact I
  · unfold RMk at *
    rw [k6, eb, kr 10272 (by decide) (by decide), kr 10208 (by decide) (by decide), kc 836 (by decide) (by decide), kc 928 (by decide) (by decide), kc 1120 (by decide) (by decide)]
    rw [m6] at M
    exact M
  · unfold RVl at *
    rw [k12, k0, k6, l0, l1, q1]
    rw [m12, m6, j0, j1, q0] at L
    refine ⟨V1.1, V1.2.1, ?_, ?_, by omega, by omega⟩
    · rcases a0 with u | u
      · rw [u]; exact L.2.2.1
      · omega
    · rcases a1 with u | u
      · rw [u]; exact L.2.2.2.1
      · omega
  · unfold RRm at *
    rw [k12, k0, em, l0, l1, q1]
    rw [m12, m0, j0, j1, q0] at Rm
    omega
theorem VMS.call {q' nm : Int} (N : ENV K h hr) (M : VMS K B Br h hr n ((q, x, E, k) :: l)) (hq : 0 ≤ q' ∧ q' < K 12 0) (hnm : nm = K 8 q' ∧ nm ≤ E) (hd : h 1157 5 < 7) (EN : ENT h h1 (K 9 q') (K 7 q' - nm) nm) {kr : Int} (hkr : 1 ≤ kr ∧ kr ≤ 399) (hk : 1 ≤ k2 ∧ k2 ≤ 399) (rt : MEM K (VS K q) (CLS K) n (h 1157 4) (hr 6603 52) x (E - nm + 1) kr) :
    VMS K B Br h1 (cldH hr nm (K 7 q') (K 10 q')) n ((q', [], 0, k2) :: (q, x, E - nm, kr) :: l) ∧ h1 1157 4 = K 9 q' ∧ cldH hr nm (K 7 q') (K 10 q') 6603 52 = K 10 q' ∧ h1 1157 16 = h 1157 16 ∧ h1 1157 17 = h 1157 17 := by
  have O := N.1
  have z := M.hs O
  have f := M.fr
  obtain ⟨S, ⟨s1, s2, s3, s4, s5, s6, s7, s8, s9, s10, s11, s12, s13⟩, A⟩ := M
  have V := S.2.2.1
  have ar := V.ar
  obtain ⟨V1, e2, e3, e4, e5, e6, e7, e8, e9, e10, e11, e12, e13, e14, e15, e16, e17, e18⟩ := EN
  have ar1 := V1.ar
  have kq := O.2 q' hq.1 hq.2
  have evr : EVR h hr (bsF K l + K 7 q + 2 * lps x) (ftF l) E := A.1.2.2.2.2.2.2.2.1
  have V0' := V.1
  have V0'' := V.2.1
  unfold NFA at V0' V0''
  -- the reference's heap
  generalize eR : cldH hr nm (K 7 q') (K 10 q') = hr1
  have r36 : hr1 6603 36 = hr 6603 36 - nm := by rw [← eR]; unfold cldH; rw [hcell (by decide), hcell (by decide), hs_ne (by decide), hs_ne (by decide), hcel1]
  have r41 : hr1 6603 41 = hr 6603 41 + 1 := by rw [← eR]; unfold cldH; rw [hcell (by decide), hcel1]
  have r52 : hr1 6603 52 = K 10 q' := by rw [← eR]; unfold cldH; rw [hcel1]
  have ra : ∀ o, o ≠ 10592 → o ≠ 10657 → argH (clrH hr (420 * hr 6603 41) (K 7 q')) (420 * hr 6603 41) (hr 6603 36 - nm) nm o = hr o := fun o a b => by rw [arg_ne a b, clr_ne a b]
  have rs : ∀ s, s ≠ 36 → s ≠ 41 → s ≠ 52 → hr1 6603 s = hr 6603 s := fun s a b c => by rw [← eR]; unfold cldH; rw [hcell c, hcell b, hs_ne (by decide), hs_ne (by decide), hcell a, ra 6603 (by decide) (by decide)]
  have r12 : ∀ i, hr1 10912 i = if i = hr 6603 41 then hr 6603 36 - nm else hr 10912 i := fun i => by rw [← eR]; unfold cldH; rw [hs_ne (by decide), hs_ne (by decide), hs_ne (by decide), hset_eq, hs_ne (by decide), ra 10912 (by decide) (by decide)]
  have r48 : ∀ i, hr1 10848 i = if i = hr 6603 41 then hr 6603 52 else hr 10848 i := fun i => by rw [← eR]; unfold cldH; rw [hs_ne (by decide), hs_ne (by decide), hset_eq, hs_ne (by decide), hs_ne (by decide), ra 10848 (by decide) (by decide)]
  have ro : ∀ o, o ≠ 6603 → o ≠ 10592 → o ≠ 10657 → o ≠ 10848 → o ≠ 10912 → hr1 o = hr o := fun o a b c d e => by rw [← eR]; unfold cldH; rw [hs_ne a, hs_ne a, hs_ne d, hs_ne e, hs_ne a, ra o b c]
  have r92 : ∀ i, hr1 10592 i = if 420 * hr 6603 41 ≤ i ∧ i < 420 * hr 6603 41 + nm then hr 10464 (hr 6603 36 - nm + (i - 420 * hr 6603 41)) else if 420 * hr 6603 41 ≤ i ∧ i < 420 * hr 6603 41 + K 7 q' then 0 else hr 10592 i := fun i => by
    rw [← eR]
    unfold cldH
    rw [hs_ne (by decide), hs_ne (by decide), hs_ne (by decide), hs_ne (by decide), hs_ne (by decide)]
    unfold argH
    by_cases c : 420 * hr 6603 41 ≤ i ∧ i < 420 * hr 6603 41 + nm
    · rw [if_pos ⟨rfl, c⟩, if_pos c, clr_ne (by decide) (by decide)]
    · rw [if_neg (fun w => c w.2), if_neg c, if_neg (fun w => absurd w.1 (by decide))]
      unfold clrH
      by_cases e : 420 * hr 6603 41 ≤ i ∧ i < 420 * hr 6603 41 + K 7 q'
      · rw [if_pos ⟨.inl rfl, e⟩, if_pos e]
      · rw [if_neg (fun w => e w.2), if_neg e]
  have r57 : ∀ i, hr1 10657 i = if 420 * hr 6603 41 ≤ i ∧ i < 420 * hr 6603 41 + nm then hr 10529 (hr 6603 36 - nm + (i - 420 * hr 6603 41)) else if 420 * hr 6603 41 ≤ i ∧ i < 420 * hr 6603 41 + K 7 q' then 0 else hr 10657 i := fun i => by
    rw [← eR]
    unfold cldH
    rw [hs_ne (by decide), hs_ne (by decide), hs_ne (by decide), hs_ne (by decide), hs_ne (by decide)]
    unfold argH
    rw [if_neg (fun w => absurd w.1 (by decide))]
    by_cases c : 420 * hr 6603 41 ≤ i ∧ i < 420 * hr 6603 41 + nm
    · rw [if_pos ⟨rfl, c⟩, if_pos c, clr_ne (by decide) (by decide)]
    · rw [if_neg (fun w => c w.2), if_neg c]
      unfold clrH
      by_cases e : 420 * hr 6603 41 ≤ i ∧ i < 420 * hr 6603 41 + K 7 q'
      · rw [if_pos ⟨.inr rfl, e⟩, if_pos e]
      · rw [if_neg (fun w => e w.2), if_neg e]
  have R : RCG hr hr1 := by
    refine ⟨fun o a b => ?_, fun s a b c d => rs s a b (by omega)⟩
    exact ro o a (by omega) (by omega) (by omega) (by omega)
  clear eR
  have oo : ∀ o, ¬ (1157 ≤ o ∧ o ≤ 1926) → o ≠ 0 → o ≠ h 1222 0 → o ≠ h 1222 1 → o < 64 * h 0 0 → h1 o = h o := fun o a b c d e => e6 o (by omega) b (by omega) (by omega) (by omega) c d e
  have mo : ∀ o, 1440 < o → o ≤ 1926 → o ≠ 1504 → h1 o = h o := fun o a b c => e6 o (by omega) (by omega) (by omega) (by omega) c (by omega) (by omega) (by omega)
  have S2 : STA B Br h1 hr1 := S.grow V1 R oo (fun s w => e13 s (by omega) (by omega)) e7 e8 e9 e10 e11 e12
  have e643 : h1 643 = h 643 ∧ h1 836 = h 836 := by
    obtain ⟨RR, dd, -, -, -⟩ := S.RW
    exact ⟨oo 643 (by omega) (by omega) (by omega) (by omega) (by omega), oo 836 (by omega) (by omega) (by omega) (by omega) (by omega)⟩
  have mv : ∀ k b k' b', VVh h hr k b k' b' → VVh h1 hr1 k b k' b' := fun k b k' b' w => by
    unfold VVh rb at *
    rw [e643.1, e643.2, R.1 10272 (by decide) (by decide)]
    exact w
  have ck : ∀ p, 0 ≤ p → p < h 1222 2 → cK h1 p = cK h p ∧ cB h1 p = cB h p := e3
  have en : bsF K ((q, x, E - nm, kr) :: l) = bsF K l + (K 7 q + 2 * lps x + (E - nm)) := rfl
  have ef : ftF ((q, x, E - nm, kr) :: l) = ftF l + (E - nm) := rfl
  have ent : ntF ((q, x, E - nm, kr) :: l) = ntF l + ntX x := rfl
  have eng : ngF K ((q, x, E - nm, kr) :: l) = ngF K l + ngX K x := rfl
  have A1 : ALF K h hr n ((q, x, E - nm, kr) :: l) := A.ev ⟨by omega, by omega⟩ hkr (fun i a b => evr i a (by omega))
  have G : AGR K h h1 hr hr1 ((q, x, E - nm, kr) :: l) := by
    rw [show AGR K h h1 hr hr1 ((q, x, E - nm, kr) :: l) = AGR K h h1 hr hr1 ((q, x, E - nm, kr) :: l) from rfl]
    refine ⟨mv, fun p a b => ck p a (by omega), fun j a b => ?_, fun i a b => ?_, fun i _ _ => by rw [ro 10720 (by decide) (by decide) (by decide) (by decide) (by decide), ro 10784 (by decide) (by decide) (by decide) (by decide) (by decide)]; exact ⟨rfl, rfl⟩, fun i _ _ => by rw [ro 10464 (by decide) (by decide) (by decide) (by decide) (by decide), ro 10529 (by decide) (by decide) (by decide) (by decide) (by decide)]; exact ⟨rfl, rfl⟩, ⟨fun t _ _ => ?_, fun g _ _ => ?_⟩, e10⟩
    · rw [List.length_cons] at b
      have e := e16 j (by omega)
      rw [e.1, e.2, r48, r12, if_neg (by omega), if_neg (by omega)]
      exact ⟨rfl, rfl, rfl, rfl⟩
    · rw [List.length_cons] at b
      rw [r92, r57, if_neg (by omega), if_neg (by omega), if_neg (by omega), if_neg (by omega)]
      exact ⟨rfl, rfl⟩
    · rw [mo 1568 (by decide) (by decide) (by decide), mo 1632 (by decide) (by decide) (by decide), mo 1696 (by decide) (by decide) (by decide), mo 1760 (by decide) (by decide) (by decide), mo 1824 (by decide) (by decide) (by decide), mo 1889 (by decide) (by decide) (by decide)]
      exact ⟨rfl, rfl, rfl, rfl, rfl, rfl⟩
    · rw [ro 10976 (by decide) (by decide) (by decide) (by decide) (by decide), ro 11040 (by decide) (by decide) (by decide) (by decide) (by decide), ro 11104 (by decide) (by decide) (by decide) (by decide) (by decide), ro 11168 (by decide) (by decide) (by decide) (by decide) (by decide), ro 11232 (by decide) (by decide) (by decide) (by decide) (by decide), ro 11296 (by decide) (by decide) (by decide) (by decide) (by decide), ro 11361 (by decide) (by decide) (by decide) (by decide) (by decide)]
      exact ⟨rfl, rfl, rfl, rfl, rfl, rfl, rfl⟩
  have A2 := ALF.ag O (Nat.le_refl n) _ G A1
  refine ⟨⟨S2, ⟨by rw [List.length_cons, List.length_cons]; omega, by rw [e15, f.1, List.length_cons, List.length_cons]; omega, ?_, ?_, by rw [r41, f.2.1, List.length_cons, List.length_cons]; omega, ?_, ?_, ?_, ?_, ?_, by rw [e13 20 (by decide) (by decide)]; exact s11, by rw [e13 19 (by decide) (by decide)]; exact s12, by rw [e13 18 (by decide) (by decide)]; exact s13⟩, ⟨⟨?_, ?_⟩, hq, ⟨by show (0 : Int) ≤ 0; decide, by show (0 : Int) ≤ 36; decide⟩, by show ([] : CX).length ≤ 12; decide, ?_, hk, ?_, fun i a b => absurd (show i < 0 from b) (by omega), trivial, ?_⟩, A2⟩, e14, r52, e13 16 (by decide) (by decide), e13 17 (by decide) (by decide)⟩
  · rw [e5, bsF_c, en]
    show _ = bsF K l + (K 7 q + 2 * lps x + (E - nm)) + (K 7 q' + 2 * lps [] + 0)
    rw [show lps ([] : CX) = 0 from rfl]
    omega
  · rw [r36, ftF_c, ef]
    show _ = ftF l + (E - nm) + 0
    omega
  · rw [e13 8 (by decide) (by decide), f.2.2.2.2.2.2.1, ntF_c, ent]
    show _ = ntF l + ntX x + ntX []
    rw [show ntX ([] : CX) = 0 from rfl]
    omega
  · rw [rs 44 (by decide) (by decide) (by decide), f.2.2.2.2.2.2.2.1, ngF_c, eng]
    show _ = ngF K l + ngX K x + ngX K []
    rw [show ngX K ([] : CX) = 0 from rfl]
    omega
  · rw [e13 17 (by decide) (by decide), e13 16 (by decide) (by decide), rs 53 (by decide) (by decide) (by decide), rs 54 (by decide) (by decide) (by decide)]; exact s8
  · rw [e13 15 (by decide) (by decide), rs 55 (by decide) (by decide) (by decide)]; exact s9
  · rw [rs 56 (by decide) (by decide) (by decide), rs 58 (by decide) (by decide) (by decide), rs 59 (by decide) (by decide) (by decide)]; exact s10
  · rw [List.length_cons, show ((l.length + 1 : Nat) : Int) = h 1157 5 + 1 by omega, e17, en]
    omega
  · rw [List.length_cons, r12, if_pos (by omega), ef]
    omega
  · show bsF K ((q, x, E - nm, kr) :: l) + K 7 q' + 64 ≤ cK h1 (-1)
    have : h 1222 2 + (K 7 q' - nm) + 64 ≤ cK h1 (-1) := e2
    omega
  · intro v v0 v1
    have v1 : v < K 7 q' := v1
    have m0 := kq.2.1 v v0 v1
    show VVh h1 hr1 (cK h1 (bsF K ((q, x, E - nm, kr) :: l) + v)) (cB h1 (bsF K ((q, x, E - nm, kr) :: l) + v)) (hr1 10592 (420 * (((q, x, E - nm, kr) :: l : List FRT).length : Int) + K 11 (512 * q' + v))) (hr1 10657 (420 * (((q, x, E - nm, kr) :: l : List FRT).length : Int) + K 11 (512 * q' + v)))
    rw [List.length_cons, show 420 * ((l.length + 1 : Nat) : Int) = 420 * hr 6603 41 by omega, r92, r57]
    by_cases c : v < nm
    · have sm := kq.2.2.2.1 v v0 (by omega)
      have e := ck (bsF K ((q, x, E - nm, kr) :: l) + v) (by omega) (by omega)
      have w := evr (E - nm + v) (by omega) (by omega)
      rw [sm, if_pos (by omega), if_pos (by omega), e.1, e.2, show hr 6603 36 - nm + (420 * hr 6603 41 + v - 420 * hr 6603 41) = ftF l + (E - nm + v) by omega]
      rw [show bsF K l + K 7 q + 2 * lps x + (E - nm + v) = bsF K ((q, x, E - nm, kr) :: l) + v by omega] at w
      exact mv _ _ _ _ w
    · have sm : nm ≤ K 11 (512 * q' + v) := by
        by_cases u : K 11 (512 * q' + v) < nm
        · have u2 := kq.2.2.2.1 (K 11 (512 * q' + v)) m0.1 (by omega)
          have := kq.2.2.1 v (K 11 (512 * q' + v)) v0 v1 m0.1 m0.2 u2.symm
          omega
        · omega
      have ek : cK h1 (bsF K ((q, x, E - nm, kr) :: l) + v) = 0 := e4 (bsF K ((q, x, E - nm, kr) :: l) + v) (by omega) (by omega)
      rw [if_neg (by omega), if_pos (by omega), if_neg (by omega), if_pos (by omega), ek]
      exact vv_0
  · show MEM K (VS K q) (CLS K) n _ _ x (E - nm + 1) kr
    rw [List.length_cons, show ((l.length + 1 : Nat) : Int) = h 1157 5 + 1 by omega, e18, r48, if_pos (by omega)]
    exact rt
end VM
