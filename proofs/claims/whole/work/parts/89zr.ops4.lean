/-! THE PURE SIDE, 114: the two machines alike: loops, tries: printed by wip/tools/gen89zr.py -/
theorem TRA.of {h h2 hr hr2 : HV} {T T' G G' : Int} (g1 : ∀ o, 1440 ≤ o → o ≤ 1926 → h2 o = h o) (qo : ∀ o, 10848 ≤ o → o ≤ 11487 → hr2 o = hr o) : TRA h h2 hr hr2 T T' G G' := by
  refine ⟨fun t _ _ => ?_, fun g _ _ => ?_⟩
  · rw [g1 1568 (by decide) (by decide), g1 1632 (by decide) (by decide), g1 1696 (by decide) (by decide), g1 1760 (by decide) (by decide), g1 1824 (by decide) (by decide), g1 1889 (by decide) (by decide)]
    exact ⟨rfl, rfl, rfl, rfl, rfl, rfl⟩
  · rw [qo 10976 (by decide) (by decide), qo 11040 (by decide) (by decide), qo 11104 (by decide) (by decide), qo 11168 (by decide) (by decide), qo 11232 (by decide) (by decide), qo 11296 (by decide) (by decide), qo 11361 (by decide) (by decide)]
    exact ⟨rfl, rfl, rfl, rfl, rfl, rfl, rfl⟩
theorem AGR.fm {K h h2 hr hr2 : HV} {l : List FRT} (mv : ∀ k b k' b', VVh h hr k b k' b' → VVh h2 hr2 k b k' b') (len : cK h (-1) ≤ cK h2 (-1)) (hc : ∀ p : Int, 0 ≤ p → p < bsF K l → cK h2 p = cK h p ∧ cB h2 p = cB h p) (g1 : ∀ o, 1440 ≤ o → o ≤ 1926 → h2 o = h o) (qo : ∀ o, 10848 ≤ o → o ≤ 11487 → hr2 o = hr o) (hs : ∀ i : Int, 0 ≤ i → i < 420 * (l.length : Int) → hr2 10592 i = hr 10592 i ∧ hr2 10657 i = hr 10657 i) (hl : ∀ i : Int, 0 ≤ i → i < 402 * (l.length : Int) → hr2 10720 i = hr 10720 i ∧ hr2 10784 i = hr 10784 i) (ht : ∀ i : Int, 0 ≤ i → i < ftF l → hr2 10464 i = hr 10464 i ∧ hr2 10529 i = hr 10529 i) : AGR K h h2 hr hr2 l :=
  ⟨mv, hc, fun j _ _ => by rw [g1 1440 (by decide) (by decide), g1 1504 (by decide) (by decide), qo 10848 (by decide) (by decide), qo 10912 (by decide) (by decide)]; exact ⟨rfl, rfl, rfl, rfl⟩, hs, hl, ht, TRA.of g1 qo, len⟩
theorem hs2 {h : HV} {o i v o' i' : Int} : hset h o i v o' i' = if o' = o ∧ i' = i then v else h o' i' := hset_v ..
section VM
variable {K B Br h hr h2 hr2 : HV} {n : Nat} {q E k k2 : Int} {x y : CX} {l L L2 : List FRT}
/-- a step done on both sides -/
theorem VMS.step (O : KOK K) (M : VMS K B Br h hr n ((q, x, E, k) :: l)) (hs : h 1157 17 < h 1157 16) : VMS K B Br (hset h 1157 17 (h 1157 17 + 1)) (hset hr 6603 53 (hr 6603 53 + 1)) n ((q, x, E, k) :: l) := by
  obtain ⟨S, ⟨s1, s2, s3, s4, s5, s6, s7, s8, s9, s10, s11, s12, s13⟩, A⟩ := M
  have V := S.2.2.1
  have a := V.ar
  have C : CCG h (hset h 1157 17 (h 1157 17 + 1)) := cg_set V (by decide) (by decide) (fun _ => by decide)
  have R : RCG hr (hset hr 6603 53 (hr 6603 53 + 1)) := rg_set (.inr ⟨rfl, by decide⟩)
  have ch : ∀ s, s ≠ 17 → hset h 1157 17 (h 1157 17 + 1) 1157 s = h 1157 s := fun s w => hcell w
  have rh : ∀ s, s ≠ 53 → hset hr 6603 53 (hr 6603 53 + 1) 6603 s = hr 6603 s := fun s w => hcell w
  refine ⟨S.cg C R, ⟨s1, by rw [ch 5 (by decide)]; exact s2, by rw [hs_ne (by decide)]; exact s3, by rw [rh 36 (by decide)]; exact s4, by rw [rh 41 (by decide)]; exact s5, by rw [ch 8 (by decide)]; exact s6, by rw [rh 44 (by decide)]; exact s7, by rw [hcel1, ch 16 (by decide), hcel1, rh 54 (by decide)]; omega, by rw [ch 15 (by decide), rh 55 (by decide)]; exact s9, by rw [rh 56 (by decide), rh 58 (by decide), rh 59 (by decide)]; exact s10, by rw [ch 20 (by decide)]; exact s11, by rw [ch 19 (by decide)]; exact s12, by rw [ch 18 (by decide)]; exact s13⟩, ?_⟩
  refine ALF.ag O (Nat.le_refl n) _ (AGR.stk V C R (fun o p r => hs_ne (by omega)) (fun o p r => hs_ne (by omega)) (fun p _ _ => ?_) (fun i _ _ => ?_)) A
  · unfold cK cB
    have e12 : hset h 1157 17 (h 1157 17 + 1) 1222 = h 1222 := hs_ne (by decide)
    rw [e12, hs_ne (by omega), hs_ne (by omega)]
    exact ⟨rfl, rfl⟩
  · rw [hs_ne (by decide), hs_ne (by decide)]
    exact ⟨rfl, rfl⟩
/-- a slot set on both sides -/
theorem VMS.sset (O : KOK K) (M : VMS K B Br h hr n ((q, x, E, k) :: l)) {v kc bc kr br : Int} (hv : 0 ≤ v ∧ v < K 7 q) (v0 : VVh h hr kc bc kr br) : VMS K B Br (stvH h (h 1440 (h 1157 5) + v) kc bc) (hset (hset hr 10592 (420 * (hr 6603 41 - 1) + K 11 (512 * q + v)) kr) 10657 (420 * (hr 6603 41 - 1) + K 11 (512 * q + v)) br) n ((q, x, E, k) :: l) := by
  have z := M.hs O
  have f := M.fr
  have kq := O.2 q f.2.2.2.2.2.2.2.2.1.1 f.2.2.2.2.2.2.2.2.1.2
  rw [f.2.2.2.1, f.2.2.2.2.1]
  have V := M.V
  have ar := V.ar
  obtain ⟨C, e1, kK, kB, ho⟩ := stv_2 (p := bsF K l + v) (k := kc) (b := bc) V (by omega)
  generalize stvH h (bsF K l + v) kc bc = h2 at *
  have R : RCG hr (hset (hset hr 10592 (420 * (l.length : Int) + K 11 (512 * q + v)) kr) 10657 (420 * (l.length : Int) + K 11 (512 * q + v)) br) := (rg_set (.inl (by decide))).tr (rg_set (.inl (by decide)))
  have q92 : ∀ i, hset (hset hr 10592 (420 * (l.length : Int) + K 11 (512 * q + v)) kr) 10657 (420 * (l.length : Int) + K 11 (512 * q + v)) br 10592 i = if i = 420 * (l.length : Int) + K 11 (512 * q + v) then kr else hr 10592 i := fun i => by
    rw [hs_ne (by decide), hset_v]
    by_cases w : i = 420 * (l.length : Int) + K 11 (512 * q + v)
    · rw [if_pos ⟨rfl, w⟩, if_pos w]
    · rw [if_neg (fun z => w z.2), if_neg w]
  have q57 : ∀ i, hset (hset hr 10592 (420 * (l.length : Int) + K 11 (512 * q + v)) kr) 10657 (420 * (l.length : Int) + K 11 (512 * q + v)) br 10657 i = if i = 420 * (l.length : Int) + K 11 (512 * q + v) then br else hr 10657 i := fun i => by
    rw [hset_v, hs_ne (by decide)]
    by_cases w : i = 420 * (l.length : Int) + K 11 (512 * q + v)
    · rw [if_pos ⟨rfl, w⟩, if_pos w]
    · rw [if_neg (fun z => w z.2), if_neg w]
  have qo : ∀ o, o ≠ 10592 → o ≠ 10657 → hset (hset hr 10592 (420 * (l.length : Int) + K 11 (512 * q + v)) kr) 10657 (420 * (l.length : Int) + K 11 (512 * q + v)) br o = hr o := fun o b c => by rw [hs_ne c, hs_ne b]
  generalize hset (hset hr 10592 (420 * (l.length : Int) + K 11 (512 * q + v)) kr) 10657 (420 * (l.length : Int) + K 11 (512 * q + v)) br = hr2 at *
  obtain ⟨S, s, A⟩ := M
  have c57 : h2 1157 = h 1157 := ho 1157 (by omega) (by omega)
  have mv : ∀ k b k' b', VVh h hr k b k' b' → VVh h2 hr2 k b k' b' := fun k b k' b' w => by rw [VVh.cg V C R]; exact w
  have m0 := kq.2.1 v hv.1 hv.2
  have r66 : hr2 6603 = hr 6603 := qo _ (by decide) (by decide)
  refine ⟨S.cg C R, s.up rfl (fun s _ _ => by rw [c57]) (fun s a _ _ => by rw [r66]) (by rw [e1]; exact s.2.2.1) (by rw [r66]; exact s.2.2.2.1) (by rw [c57]; exact s.2.2.2.2.2.1) (by rw [r66]; exact s.2.2.2.2.2.2.1), ?_⟩
  have g1 : ∀ o, 1440 ≤ o → o ≤ 1926 → h2 o = h o := fun o a b => ho o (by omega) (by omega)
  have qt : ∀ o, 10848 ≤ o → o ≤ 11487 → hr2 o = hr o := fun o a b => qo o (by omega) (by omega)
  have ev : EVR h hr (bsF K l + K 7 q + 2 * lps x) (ftF l) E := A.1.2.2.2.2.2.2.2.1
  refine ALF.tp O A rfl (AGR.fm mv (by rw [C.2.2.2.1.1]; omega) (fun p a b => ?_) g1 qt (fun i a b => ?_) (fun i _ _ => by rw [qo 10720 (by decide) (by decide), qo 10784 (by decide) (by decide)]; exact ⟨rfl, rfl⟩) (fun i _ _ => by rw [qo 10464 (by decide) (by decide), qo 10529 (by decide) (by decide)]; exact ⟨rfl, rfl⟩)) (by rw [g1 1440 (by decide) (by decide)]) (by rw [qo 10912 (by decide) (by decide)]) (by rw [g1 1504 (by decide) (by decide)]) (by rw [qo 10848 (by decide) (by decide)]) A.1.2.2.1 A.1.2.2.2.1 A.1.2.2.2.2.2.1 ?_ ?_ ?_
  · rw [kK, kB, if_neg (by omega), if_neg (by omega)]
    exact ⟨rfl, rfl⟩
  · rw [q92, q57, if_neg (by omega), if_neg (by omega)]
    exact ⟨rfl, rfl⟩
  · intro w w0 w1
    have s0 : SLR K h hr q l.length (bsF K l) := A.1.2.2.2.2.2.2.1
    have mw := kq.2.1 w w0 w1
    rw [kK, kB, q92, q57]
    by_cases e : w = v
    · subst e
      rw [if_pos rfl, if_pos rfl, if_pos rfl, if_pos rfl]
      exact mv _ _ _ _ v0
    · have ne : K 11 (512 * q + w) ≠ K 11 (512 * q + v) := fun z => e (kq.2.2.1 w v w0 w1 hv.1 hv.2 z)
      rw [if_neg (by omega), if_neg (by omega), if_neg (by omega), if_neg (by omega)]
      exact mv _ _ _ _ (s0 w w0 w1)
  · exact ev.ag mv (fun i a b => by rw [kK, kB, if_neg (by omega), if_neg (by omega)]; exact ⟨rfl, rfl⟩) (fun i a b => by rw [qo 10464 (by decide) (by decide), qo 10529 (by decide) (by decide)]; exact ⟨rfl, rfl⟩)
  · refine CXR.ag (fun _ _ _ _ _ w => w) mv x (fun p a b => ?_) (fun e' m w => ?_) (TRA.of g1 qt) A.1.2.2.2.2.2.2.2.2.1
    · rw [kK, kB, if_neg (by omega), if_neg (by omega)]
      exact ⟨rfl, rfl⟩
    · rw [qo 10720 (by decide) (by decide), qo 10784 (by decide) (by decide)]
      exact ⟨rfl, rfl⟩
/-- a loop is opened -/
theorem VMS.lpo (O : KOK K) (M : VMS K B Br h hr n ((q, x, 1, k) :: l)) (t0 : tK h 0 = 1) {a : Int} (ha : 0 ≤ a ∧ a < 402) (hf : ∀ e ∈ x, e.2.1 = -1 → e.1 ≠ a) (hx : x.length + 1 ≤ 12) (hk : 1 ≤ k2 ∧ k2 ≤ 399) : VMS K B Br (pshH h 1 0) (hset (hset (tpR hr 1) 10720 (402 * (hr 6603 41 - 1) + a) (uB hr 1)) 10784 (402 * (hr 6603 41 - 1) + a) 0) n ((q, (a, -1, 0, 0) :: x, 0, k2) :: l) := by
  have z := M.hs O
  have f := M.fr
  have v0 := M.top0 O (by decide)
  have b0 := v0.e1 t0
  rw [f.2.2.2.2.2.1, psh_rp]
  have V := M.V
  have ar := V.ar
  obtain ⟨C, r2, kK, kB, ho⟩ := rpH_2 (h := h) (n := 0) (k := 1) (b := 0) V (by omega) (by omega)
  have et : cK h (h 1222 2 - 1) = 1 ∧ cB h (h 1222 2 - 1) = tB h 0 := by
    unfold tK kA at t0
    unfold tB bA
    rw [if_pos (by omega)] at t0 ⊢
    rw [Int.sub_zero] at t0 ⊢
    exact ⟨t0, rfl⟩
  generalize rpH h 0 1 0 = h2 at *
  have to : ∀ o, o ≠ 6603 → tpR hr 1 o = hr o := fun o w => hs_ne w
  have ts : ∀ s, s ≠ 36 → tpR hr 1 6603 s = hr 6603 s := fun s w => hcell w
  have t36 : tpR hr 1 6603 36 = hr 6603 36 - 1 := hcel1
  have R : RCG hr (hset (hset (tpR hr 1) 10720 (402 * (l.length : Int) + a) (uB hr 1)) 10784 (402 * (l.length : Int) + a) 0) := (RCG.tr (rg_set (.inr ⟨rfl, .inl rfl⟩) : RCG hr (tpR hr 1)) (rg_set (.inl (by decide)))).tr (rg_set (.inl (by decide)))
  have q20 : ∀ i, hset (hset (tpR hr 1) 10720 (402 * (l.length : Int) + a) (uB hr 1)) 10784 (402 * (l.length : Int) + a) 0 10720 i = if i = 402 * (l.length : Int) + a then uB hr 1 else hr 10720 i := fun i => by
    rw [hs_ne (by decide), hset_v, to _ (by decide)]
    by_cases w : i = 402 * (l.length : Int) + a
    · rw [if_pos ⟨rfl, w⟩, if_pos w]
    · rw [if_neg (fun z => w z.2), if_neg w]
  have q84 : ∀ i, hset (hset (tpR hr 1) 10720 (402 * (l.length : Int) + a) (uB hr 1)) 10784 (402 * (l.length : Int) + a) 0 10784 i = if i = 402 * (l.length : Int) + a then 0 else hr 10784 i := fun i => by
    rw [hset_v, hs_ne (by decide), to _ (by decide)]
    by_cases w : i = 402 * (l.length : Int) + a
    · rw [if_pos ⟨rfl, w⟩, if_pos w]
    · rw [if_neg (fun z => w z.2), if_neg w]
  have qo : ∀ o, o ≠ 6603 → o ≠ 10720 → o ≠ 10784 → hset (hset (tpR hr 1) 10720 (402 * (l.length : Int) + a) (uB hr 1)) 10784 (402 * (l.length : Int) + a) 0 o = hr o := fun o a b c => by rw [hs_ne c, hs_ne b, to o a]
  have qs : ∀ s, s ≠ 36 → hset (hset (tpR hr 1) 10720 (402 * (l.length : Int) + a) (uB hr 1)) 10784 (402 * (l.length : Int) + a) 0 6603 s = hr 6603 s := fun s a => by rw [hs_ne (by decide), hs_ne (by decide), ts s a]
  have q36 : hset (hset (tpR hr 1) 10720 (402 * (l.length : Int) + a) (uB hr 1)) 10784 (402 * (l.length : Int) + a) 0 6603 36 = hr 6603 36 - 1 := by rw [hs_ne (by decide), hs_ne (by decide), t36]
  generalize hset (hset (tpR hr 1) 10720 (402 * (l.length : Int) + a) (uB hr 1)) 10784 (402 * (l.length : Int) + a) 0 = hr2 at *
  obtain ⟨S, s, A⟩ := M
  have c57 : h2 1157 = h 1157 := ho 1157 (by decide) (by omega) (by omega)
  have mv : ∀ k b k' b', VVh h hr k b k' b' → VVh h2 hr2 k b k' b' := fun k b k' b' w => by rw [VVh.cg V C R]; exact w
  refine ⟨S.cg C R, s.up rfl (fun s _ _ => by rw [c57]) (fun s a _ _ => qs s a) ?_ ?_ ?_ ?_, ?_⟩
  · rw [r2, bsF_c]
    show _ = bsF K l + (K 7 q + 2 * lps ((a, -1, 0, 0) :: x) + 0)
    rw [lps_c, if_pos rfl]
    omega
  · rw [q36, ftF_c]
    show _ = ftF l + 0
    omega
  · rw [c57, f.2.2.2.2.2.2.1, ntF_c]
    show _ = ntF l + ntX ((a, -1, 0, 0) :: x)
    rw [ntX_c, if_pos rfl]
    omega
  · rw [qs 44 (by decide), f.2.2.2.2.2.2.2.1, ngF_c]
    show _ = ngF K l + ngX K ((a, -1, 0, 0) :: x)
    rw [ngX_c, if_pos (.inl rfl)]
    omega
  have g1 : ∀ o, 1440 ≤ o → o ≤ 1926 → h2 o = h o := fun o a b => ho o (by omega) (by omega) (by omega)
  have qt : ∀ o, 10848 ≤ o → o ≤ 11487 → hr2 o = hr o := fun o a b => qo o (by omega) (by omega) (by omega)
  have s0 : SLR K h hr q l.length (bsF K l) := A.1.2.2.2.2.2.2.1
  refine ALF.tp O A rfl (AGR.fm mv (by rw [C.2.2.2.1.1]; omega) (fun p a b => ?_) g1 qt (fun i _ _ => by rw [qo 10592 (by decide) (by decide) (by decide), qo 10657 (by decide) (by decide) (by decide)]; exact ⟨rfl, rfl⟩) (fun i a b => ?_) (fun i _ _ => by rw [qo 10464 (by decide) (by decide) (by decide), qo 10529 (by decide) (by decide) (by decide)]; exact ⟨rfl, rfl⟩)) (by rw [g1 1440 (by decide) (by decide)]) (by rw [qo 10912 (by decide) (by decide) (by decide)]) (by rw [g1 1504 (by decide) (by decide)]) (by rw [qo 10848 (by decide) (by decide) (by decide)]) ⟨by decide, by decide⟩ (by rw [List.length_cons]; exact hx) hk (s0.ag O f.2.2.2.2.2.2.2.2.1 mv (fun p a b => ?_) (fun i a b => ?_)) (fun i a b => by omega) ?_
  · rw [kK, kB, if_neg (by omega), if_neg (by omega)]
    exact ⟨rfl, rfl⟩
  · rw [q20, q84, if_neg (by omega), if_neg (by omega)]
    exact ⟨rfl, rfl⟩
  · rw [kK, kB, if_neg (by omega), if_neg (by omega)]
    exact ⟨rfl, rfl⟩
  · rw [qo 10592 (by decide) (by decide) (by decide), qo 10657 (by decide) (by decide) (by decide)]
    exact ⟨rfl, rfl⟩
  · refine ⟨CXR.ag (fun _ _ _ _ _ w => w) mv x (fun p a b => ?_) (fun e' m w => ?_) (TRA.of g1 qt) A.1.2.2.2.2.2.2.2.2.1, fun _ => ?_, fun w => absurd rfl w⟩
    · rw [kK, kB, if_neg (by omega), if_neg (by omega)]
      exact ⟨rfl, rfl⟩
    · have ne := hf e' m w
      rw [q20, q84, if_neg (by omega), if_neg (by omega)]
      exact ⟨rfl, rfl⟩
    · show LOR h2 hr2 a x l.length (bsF K l + K 7 q + 2 * lps x)
      have p0 : bsF K l + K 7 q + 2 * lps x = h 1222 2 - 1 := by omega
      unfold LOR
      rw [p0, kK, kK, kB, kB, q20, q84, if_neg (by omega), if_pos (by omega), if_neg (by omega), if_pos (by omega), if_pos rfl, if_pos (by omega), et.1, et.2]
      exact ⟨ha, hf, ⟨rfl, rfl⟩, ⟨b0.1.symm, rfl⟩, b0.2, by decide, by decide⟩
/-- a loop is left -/
theorem VMS.lpx (O : KOK K) {e : Int × Int × Int × Int} (he : e.2.1 = -1) (M : VMS K B Br h hr n ((q, e :: y, 0, k) :: l)) (hk : 1 ≤ k2 ∧ k2 ≤ 399) : VMS K B Br (cutH h (h 1222 2 - 2)) hr n ((q, y, 0, k2) :: l) := by
  have z := M.hs O
  have f := M.fr
  rw [lps_c, if_pos he] at z
  rw [ntX_c, ngX_c, if_pos he, if_pos (.inl he)] at f
  have V := M.V
  have ar := V.ar
  have ly := lps_0 y
  obtain ⟨C, r2, rK, rB, ro⟩ := cut_3 (m := 2) V (by omega)
  have R : RCG hr hr := RCG.id
  obtain ⟨S, s, A⟩ := M
  have c57 := ro 1157 (by decide)
  refine ⟨S.cg C R, s.up rfl (fun s _ _ => by rw [c57]) (fun s a _ _ => rfl) ?_ ?_ ?_ ?_, ?_⟩
  · rw [r2, bsF_c]
    show _ = bsF K l + (K 7 q + 2 * lps y + 0)
    omega
  · rw [ftF_c]
    show _ = ftF l + 0
    omega
  · rw [c57, ntF_c]
    show _ = ntF l + ntX y
    omega
  · rw [ngF_c]
    show _ = ngF K l + ngX K y
    omega
  · have g1 : ∀ o, 1440 ≤ o → o ≤ 1926 → cutH h (h 1222 2 - 2) o = h o := fun o a b => ro o (by omega)
    have mv : ∀ k b k' b', VVh h hr k b k' b' → VVh (cutH h (h 1222 2 - 2)) hr k b k' b' := fun k b k' b' w => by rw [VVh.cg V C R]; exact w
    have s0 : SLR K h hr q l.length (bsF K l) := A.1.2.2.2.2.2.2.1
    have cx : CXR K (MEM K (VS K q) (CLS K) n) h hr l.length (bsF K l + K 7 q) (ftF l) (ntF l) (ngF K l) y := A.1.2.2.2.2.2.2.2.2.1.1
    have f10 := f.2.2.2.2.2.2.2.2.2.1
    rw [List.length_cons] at f10
    exact ALF.tp O A rfl (AGR.fm mv (by rw [C.2.2.2.1.1]; omega) (fun p a b => ⟨rK _, rB _⟩) g1 (fun o a b => rfl) (fun i _ _ => ⟨rfl, rfl⟩) (fun i _ _ => ⟨rfl, rfl⟩) (fun i _ _ => ⟨rfl, rfl⟩)) (by rw [g1 1440 (by decide) (by decide)]) rfl (by rw [g1 1504 (by decide) (by decide)]) rfl ⟨by decide, by decide⟩ (by omega) hk (s0.ag O f.2.2.2.2.2.2.2.2.1 mv (fun p a b => ⟨rK _, rB _⟩) (fun i a b => ⟨rfl, rfl⟩)) (fun i a b => by omega) (CXR.ag (fun _ _ _ _ _ w => w) mv y (fun p a b => ⟨rK _, rB _⟩) (fun e' m w => ⟨rfl, rfl⟩) (TRA.of g1 (fun o a b => rfl)) cx)
/-- the top loop's numbers -/
theorem VMS.lpv (O : KOK K) {a p2 p3 : Int} (M : VMS K B Br h hr n ((q, (a, -1, p2, p3) :: y, 0, k) :: l)) : (0 ≤ a ∧ a < 402) ∧ tB h 1 = hr 10720 (402 * (hr 6603 41 - 1) + a) ∧ tB h 0 = hr 10784 (402 * (hr 6603 41 - 1) + a) ∧ I32 (tB h 1) ∧ 0 ≤ tB h 0 ∧ tB h 0 ≤ 2147483647 := by
  have z := M.hs O
  have f := M.fr
  rw [lps_c, if_pos rfl] at z
  have ly := lps_0 y
  have L : LOR h hr a y l.length (bsF K l + K 7 q + 2 * lps y) := M.2.2.1.2.2.2.2.2.2.2.2.1.2.1 rfl
  obtain ⟨l1, -, l3, l4, l5, l6, l7⟩ := L
  have e1 : tB h 1 = cB h (bsF K l + K 7 q + 2 * lps y) := by
    unfold tB bA
    rw [if_pos (by omega)]
    show cB h _ = _
    congr 1
    omega
  have e0 : tB h 0 = cB h (bsF K l + K 7 q + 2 * lps y + 1) := by
    unfold tB bA
    rw [if_pos (by omega)]
    show cB h _ = _
    congr 1
    omega
  rw [f.2.2.2.2.2.1, e1, e0]
  exact ⟨l1, l4.1, l4.2, l5, l6, l7⟩
/-- a round more -/
theorem VMS.cnt (O : KOK K) {a p2 p3 : Int} (M : VMS K B Br h hr n ((q, (a, -1, p2, p3) :: y, 0, k) :: l)) (hl : tB h 0 < 2147483647) : VMS K B Br (rpH h 1 1 (tB h 0 + 1)) (hset hr 10784 (402 * (hr 6603 41 - 1) + a) (tB h 0 + 1)) n ((q, (a, -1, p2, p3) :: y, 0, k) :: l) := by
  have lv := M.lpv O
  have z := M.hs O
  have f := M.fr
  have L : LOR h hr a y l.length (bsF K l + K 7 q + 2 * lps y) := M.2.2.1.2.2.2.2.2.2.2.2.1.2.1 rfl
  rw [f.2.2.2.2.2.1]
  rw [lps_c, if_pos rfl] at z
  have ly := lps_0 y
  have V := M.V
  have ar := V.ar
  obtain ⟨C, r2, kK, kB, ho⟩ := rpH_2 (h := h) (n := 1) (k := 1) (b := tB h 0 + 1) V (by omega) (by omega)
  generalize rpH h 1 1 (tB h 0 + 1) = h2 at *
  have R : RCG hr (hset hr 10784 (402 * (l.length : Int) + a) (tB h 0 + 1)) := rg_set (.inl (by decide))
  have q84 : ∀ i, hset hr 10784 (402 * (l.length : Int) + a) (tB h 0 + 1) 10784 i = if i = 402 * (l.length : Int) + a then tB h 0 + 1 else hr 10784 i := fun i => by
    rw [hset_v]
    by_cases w : i = 402 * (l.length : Int) + a
    · rw [if_pos ⟨rfl, w⟩, if_pos w]
    · rw [if_neg (fun z => w z.2), if_neg w]
  have qo : ∀ o, o ≠ 10784 → hset hr 10784 (402 * (l.length : Int) + a) (tB h 0 + 1) o = hr o := fun o c => by rw [hs_ne c]
  generalize hset hr 10784 (402 * (l.length : Int) + a) (tB h 0 + 1) = hr2 at *
  obtain ⟨S, s, A⟩ := M
  have c57 : h2 1157 = h 1157 := ho 1157 (by decide) (by omega) (by omega)
  have mv : ∀ k b k' b', VVh h hr k b k' b' → VVh h2 hr2 k b k' b' := fun k b k' b' w => by rw [VVh.cg V C R]; exact w
  have r66 : hr2 6603 = hr 6603 := qo _ (by decide)
  refine ⟨S.cg C R, s.up rfl (fun s _ _ => by rw [c57]) (fun s a _ _ => by rw [r66]) (by rw [r2, s.2.2.1]; omega) (by rw [r66]; exact s.2.2.2.1) (by rw [c57]; exact s.2.2.2.2.2.1) (by rw [r66]; exact s.2.2.2.2.2.2.1), ?_⟩
  have g1 : ∀ o, 1440 ≤ o → o ≤ 1926 → h2 o = h o := fun o a b => ho o (by omega) (by omega) (by omega)
  have qt : ∀ o, 10848 ≤ o → o ≤ 11487 → hr2 o = hr o := fun o a b => qo o (by omega)
  have s0 : SLR K h hr q l.length (bsF K l) := A.1.2.2.2.2.2.2.1
  have cx : CXR K (MEM K (VS K q) (CLS K) n) h hr l.length (bsF K l + K 7 q) (ftF l) (ntF l) (ngF K l) y := A.1.2.2.2.2.2.2.2.2.1.1
  refine ALF.tp O A rfl (AGR.fm mv (by rw [C.2.2.2.1.1]; omega) (fun p a b => ?_) g1 qt (fun i _ _ => by rw [qo 10592 (by decide), qo 10657 (by decide)]; exact ⟨rfl, rfl⟩) (fun i a b => ?_) (fun i _ _ => by rw [qo 10464 (by decide), qo 10529 (by decide)]; exact ⟨rfl, rfl⟩)) (by rw [g1 1440 (by decide) (by decide)]) (by rw [qo 10912 (by decide)]) (by rw [g1 1504 (by decide) (by decide)]) (by rw [qo 10848 (by decide)]) ⟨by decide, by decide⟩ A.1.2.2.2.1 A.1.2.2.2.2.2.1 (s0.ag O f.2.2.2.2.2.2.2.2.1 mv (fun p a b => ?_) (fun i a b => ?_)) (fun i a b => by omega) ?_
  · rw [kK, kB, if_neg (by omega), if_neg (by omega)]
    exact ⟨rfl, rfl⟩
  · rw [qo 10720 (by decide), q84, if_neg (by omega)]
    exact ⟨rfl, rfl⟩
  · rw [kK, kB, if_neg (by omega), if_neg (by omega)]
    exact ⟨rfl, rfl⟩
  · rw [qo 10592 (by decide), qo 10657 (by decide)]
    exact ⟨rfl, rfl⟩
  · refine ⟨CXR.ag (fun _ _ _ _ _ w => w) mv y (fun p a b => ?_) (fun e' m w => ?_) (TRA.of g1 qt) cx, fun _ => ?_, fun w => absurd rfl w⟩
    · rw [kK, kB, if_neg (by omega), if_neg (by omega)]
      exact ⟨rfl, rfl⟩
    · have ne := L.2.1 e' m w
      rw [qo 10720 (by decide), q84, if_neg (by omega)]
      exact ⟨rfl, rfl⟩
    · show LOR h2 hr2 a y l.length (bsF K l + K 7 q + 2 * lps y)
      obtain ⟨l1, l2, l3, l4, l5, l6, l7⟩ := L
      unfold LOR
      rw [kK, kK, kB, kB, q84, qo 10720 (by decide), if_neg (by omega), if_pos (by omega), if_neg (by omega), if_pos (by omega), if_pos rfl]
      exact ⟨l1, l2, ⟨l3.1, rfl⟩, ⟨l4.1, rfl⟩, l5, by omega, by omega⟩
end VM
