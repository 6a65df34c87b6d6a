/-! THE PURE SIDE, 117: the two machines alike: a failure on its way, to its end: printed by wip/tools/gen89zu.py -/
theorem hset_eq {h : HV} {o i v j : Int} : hset h o i v o j = if j = i then v else h o j := by
  rw [hset_v]
  by_cases w : j = i
  · rw [if_pos ⟨rfl, w⟩, if_pos w]
  · rw [if_neg (fun z => w z.2), if_neg w]
theorem ctH {h : HV} {p j : Int} (V : VOK h) (hp : 0 ≤ p ∧ p ≤ h 1222 2) : CCG h (cutH (hset h 1157 5 j) p) ∧ VOK (cutH (hset h 1157 5 j) p) ∧ cutH (hset h 1157 5 j) p 1222 2 = p ∧ (∀ i, cK (cutH (hset h 1157 5 j) p) i = cK h i ∧ cB (cutH (hset h 1157 5 j) p) i = cB h i) ∧ (∀ s, s ≠ 5 → cutH (hset h 1157 5 j) p 1157 s = h 1157 s) ∧ cutH (hset h 1157 5 j) p 1157 5 = j ∧ ∀ o, o ≠ 1222 → o ≠ 1157 → cutH (hset h 1157 5 j) p o = h o := by
  have a := V.ar
  have C0 : CCG h (hset h 1157 5 j) := cg_set V (by decide) (by decide) (fun _ => by decide)
  have V0 := C0.V V
  have e12 : hset h 1157 5 j 1222 = h 1222 := hs_ne (by decide)
  have z := cut_3 (h := hset h 1157 5 j) (m := h 1222 2 - p) V0 (by rw [e12]; omega)
  rw [e12, show h 1222 2 - (h 1222 2 - p) = p by omega] at z
  obtain ⟨C, r2, rK, rB, ro⟩ := z
  have ck : ∀ i, cK (hset h 1157 5 j) i = cK h i := fun i => by unfold cK; rw [e12, hs_ne (by omega)]
  have cb : ∀ i, cB (hset h 1157 5 j) i = cB h i := fun i => by unfold cB; rw [e12, hs_ne (by omega)]
  have CC := C0.tr C
  exact ⟨CC, CC.V V, r2, fun i => ⟨(rK i).trans (ck i), (rB i).trans (cb i)⟩, fun s w => by rw [ro 1157 (by decide), hcell w], by rw [ro 1157 (by decide), hcel1], fun o a b => by rw [ro o a, hs_ne b]⟩
theorem cK_set {h : HV} {o i v : Int} (V : VOK h) (ho : 1157 ≤ o ∧ o ≤ 1926) (h1 : o ≠ 1222 ∧ o ≠ 1312 ∧ o ≠ 1377) : ∀ p, cK (hset h o i v) p = cK h p ∧ cB (hset h o i v) p = cB h p := by
  have a := V.ar
  intro p
  unfold cK cB
  have e0 : hset h o i v 1222 = h 1222 := hs_ne (by omega)
  rw [e0, hs_ne (by omega), hs_ne (by omega)]
  exact ⟨rfl, rfl⟩
theorem alH_2 {h : HV} {t w b pc p j : Int} (V : VOK h) (hp : 0 ≤ p ∧ p ≤ h 1222 2) : CCG h (alH (cutH (hset h 1157 5 j) p) t w b pc) ∧ alH (cutH (hset h 1157 5 j) p) t w b pc 1157 5 = j ∧ alH (cutH (hset h 1157 5 j) p) t w b pc 1157 4 = pc ∧ (∀ s, s ≠ 4 → s ≠ 5 → alH (cutH (hset h 1157 5 j) p) t w b pc 1157 s = h 1157 s) ∧ alH (cutH (hset h 1157 5 j) p) t w b pc 1222 2 = p ∧ (∀ i, cK (alH (cutH (hset h 1157 5 j) p) t w b pc) i = cK h i ∧ cB (alH (cutH (hset h 1157 5 j) p) t w b pc) i = cB h i) ∧ (∀ o, 1440 ≤ o → o ≤ 1760 → o ≠ 1632 → alH (cutH (hset h 1157 5 j) p) t w b pc o = h o) ∧ (∀ i, i ≠ t → alH (cutH (hset h 1157 5 j) p) t w b pc 1632 i = h 1632 i ∧ alH (cutH (hset h 1157 5 j) p) t w b pc 1824 i = h 1824 i ∧ alH (cutH (hset h 1157 5 j) p) t w b pc 1889 i = h 1889 i) ∧ alH (cutH (hset h 1157 5 j) p) t w b pc 1632 t = 2 ∧ alH (cutH (hset h 1157 5 j) p) t w b pc 1824 t = w ∧ alH (cutH (hset h 1157 5 j) p) t w b pc 1889 t = b := by
  obtain ⟨C, V1, r2, cc, s1, s5, so⟩ := ctH (j := j) V hp
  generalize cutH (hset h 1157 5 j) p = h1 at *
  unfold alH
  have C1 : CCG h1 (hset h1 1632 t 2) := cg_set V1 (by decide) (by decide) (fun w => absurd w (by decide))
  have V2 := C1.V V1
  have k1 := cK_set (i := t) (v := 2) V1 (o := 1632) (by decide) (by decide)
  have C2 : CCG (hset h1 1632 t 2) (hset (hset h1 1632 t 2) 1824 t w) := cg_set V2 (by decide) (by decide) (fun w => absurd w (by decide))
  have V3 := C2.V V2
  have k2 := cK_set (i := t) (v := w) V2 (o := 1824) (by decide) (by decide)
  have C3 : CCG (hset (hset h1 1632 t 2) 1824 t w) (hset (hset (hset h1 1632 t 2) 1824 t w) 1889 t b) := cg_set V3 (by decide) (by decide) (fun w => absurd w (by decide))
  have V4 := C3.V V3
  have k3 := cK_set (i := t) (v := b) V3 (o := 1889) (by decide) (by decide)
  have C4 : CCG (hset (hset (hset h1 1632 t 2) 1824 t w) 1889 t b) (hset (hset (hset (hset h1 1632 t 2) 1824 t w) 1889 t b) 1157 4 pc) := cg_set V4 (by decide) (by decide) (fun _ => by decide)
  have k4 := cK_set (i := 4) (v := pc) V4 (o := 1157) (by decide) (by decide)
  refine ⟨((((C.tr C1).tr C2).tr C3).tr C4), ?_, hcel1, fun s a c => ?_, ?_, fun i => ?_, fun o a c e => ?_, fun i e => ?_, ?_, ?_, ?_⟩
  · rw [hcell (by decide), hs_ne (by decide), hs_ne (by decide), hs_ne (by decide)]; exact s5
  · rw [hcell a, hs_ne (by decide), hs_ne (by decide), hs_ne (by decide)]; exact s1 s c
  · rw [hs_ne (by decide), hs_ne (by decide), hs_ne (by decide), hs_ne (by decide)]; exact r2
  · exact ⟨(((k4 i).1.trans (k3 i).1).trans (k2 i).1).trans ((k1 i).1.trans (cc i).1), (((k4 i).2.trans (k3 i).2).trans (k2 i).2).trans ((k1 i).2.trans (cc i).2)⟩
  · rw [hs_ne (by omega), hs_ne (by omega), hs_ne (by omega), hs_ne e]; exact so o (by omega) (by omega)
  · rw [hs_ne (by decide), hs_ne (by decide), hs_ne (by decide), hcell e, hs_ne (by decide), hs_ne (by decide), hcell e, hs_ne (by decide), hs_ne (by decide), hcell e, hs_ne (by decide), hs_ne (by decide), so 1632 (by decide) (by decide), so 1824 (by decide) (by decide), so 1889 (by decide) (by decide)]
    exact ⟨rfl, rfl, rfl⟩
  · rw [hs_ne (by decide), hs_ne (by decide), hs_ne (by decide), hcel1]
  · rw [hs_ne (by decide), hs_ne (by decide), hcel1]
  · rw [hs_ne (by decide), hcel1]
def onH (h : HV) (j p t b : Int) : HV := hset (hset (cutH (hset h 1157 5 j) p) 1632 t 1) 1157 4 b
theorem onH_2 {h : HV} {t b p j : Int} (V : VOK h) (hp : 0 ≤ p ∧ p ≤ h 1222 2) : CCG h (onH h j p t b) ∧ onH h j p t b 1157 5 = j ∧ onH h j p t b 1157 4 = b ∧ (∀ s, s ≠ 4 → s ≠ 5 → onH h j p t b 1157 s = h 1157 s) ∧ onH h j p t b 1222 2 = p ∧ (∀ i, cK (onH h j p t b) i = cK h i ∧ cB (onH h j p t b) i = cB h i) ∧ (∀ o, 1440 ≤ o → o ≤ 1760 → o ≠ 1632 → onH h j p t b o = h o) ∧ (∀ i, i ≠ t → onH h j p t b 1632 i = h 1632 i ∧ onH h j p t b 1824 i = h 1824 i ∧ onH h j p t b 1889 i = h 1889 i) ∧ onH h j p t b 1632 t = 1 := by
  obtain ⟨C, V1, r2, cc, s1, s5, so⟩ := ctH (j := j) V hp
  unfold onH
  generalize cutH (hset h 1157 5 j) p = h1 at *
  have C1 : CCG h1 (hset h1 1632 t 1) := cg_set V1 (by decide) (by decide) (fun w => absurd w (by decide))
  have V2 := C1.V V1
  have k1 := cK_set (i := t) (v := 1) V1 (o := 1632) (by decide) (by decide)
  have C4 : CCG (hset h1 1632 t 1) (hset (hset h1 1632 t 1) 1157 4 b) := cg_set V2 (by decide) (by decide) (fun _ => by decide)
  have k4 := cK_set (i := 4) (v := b) V2 (o := 1157) (by decide) (by decide)
  refine ⟨(C.tr C1).tr C4, ?_, hcel1, fun s a c => ?_, ?_, fun i => ?_, fun o a c e => ?_, fun i e => ?_, ?_⟩
  · rw [hcell (by decide), hs_ne (by decide)]; exact s5
  · rw [hcell a, hs_ne (by decide)]; exact s1 s c
  · rw [hs_ne (by decide), hs_ne (by decide)]; exact r2
  · exact ⟨(k4 i).1.trans ((k1 i).1.trans (cc i).1), (k4 i).2.trans ((k1 i).2.trans (cc i).2)⟩
  · rw [hs_ne (by omega), hs_ne e]; exact so o (by omega) (by omega)
  · rw [hs_ne (by decide), hcell e, hs_ne (by decide), hs_ne (by decide), hs_ne (by decide), hs_ne (by decide), so 1632 (by decide) (by decide), so 1824 (by decide) (by decide), so 1889 (by decide) (by decide)]
    exact ⟨rfl, rfl, rfl⟩
  · rw [hs_ne (by decide), hcel1]
def onR (h : HV) (tp on g gg : Int) : HV := hset (hset (hset (hset h 6603 36 tp) 6603 52 on) 11168 g 1) 6603 44 gg
theorem onR_2 {h : HV} {tp on g gg : Int} : RCG h (onR h tp on g gg) ∧ onR h tp on g gg 6603 36 = tp ∧ onR h tp on g gg 6603 44 = gg ∧ onR h tp on g gg 6603 52 = on ∧ (∀ s, s ≠ 36 → s ≠ 44 → s ≠ 52 → onR h tp on g gg 6603 s = h 6603 s) ∧ (∀ o, o ≠ 6603 → o ≠ 11168 → onR h tp on g gg o = h o) ∧ (∀ i, i ≠ g → onR h tp on g gg 11168 i = h 11168 i) ∧ onR h tp on g gg 11168 g = 1 := by
  unfold onR
  refine ⟨(((rg_set (.inr ⟨rfl, .inl rfl⟩)).tr (rg_set (.inr ⟨rfl, by decide⟩))).tr (rg_set (.inl (by decide)))).tr (rg_set (.inr ⟨rfl, by decide⟩)), ?_, hcel1, ?_, fun s a b c => ?_, fun o a b => ?_, fun i e => ?_, ?_⟩
  · rw [hcell (by decide), hs_ne (by decide), hcell (by decide), hcel1]
  · rw [hcell (by decide), hs_ne (by decide), hcel1]
  · rw [hcell b, hs_ne (by decide), hcell c, hcell a]
  · rw [hs_ne a, hs_ne b, hs_ne a, hs_ne a]
  · rw [hs_ne (by decide), hcell e, hs_ne (by decide), hs_ne (by decide)]
  · rw [hs_ne (by decide), hcel1]
def alR (h : HV) (tp g nx k b pc : Int) : HV := hset (hset (hset (hset (hset (hset h 6603 36 tp) 11168 g 2) 11232 g nx) 11296 g k) 11361 g b) 6603 52 pc
theorem alR_2 {h : HV} {tp g nx k b pc : Int} : RCG h (alR h tp g nx k b pc) ∧ alR h tp g nx k b pc 6603 36 = tp ∧ alR h tp g nx k b pc 6603 52 = pc ∧ (∀ s, s ≠ 36 → s ≠ 52 → alR h tp g nx k b pc 6603 s = h 6603 s) ∧ (∀ o, o ≠ 6603 → o ≤ 11104 → alR h tp g nx k b pc o = h o) ∧ (∀ i, i ≠ g → alR h tp g nx k b pc 11168 i = h 11168 i ∧ alR h tp g nx k b pc 11232 i = h 11232 i ∧ alR h tp g nx k b pc 11296 i = h 11296 i ∧ alR h tp g nx k b pc 11361 i = h 11361 i) ∧ alR h tp g nx k b pc 11168 g = 2 ∧ alR h tp g nx k b pc 11232 g = nx ∧ alR h tp g nx k b pc 11296 g = k ∧ alR h tp g nx k b pc 11361 g = b := by
  unfold alR
  refine ⟨(((((rg_set (.inr ⟨rfl, .inl rfl⟩)).tr (rg_set (.inl (by decide)))).tr (rg_set (.inl (by decide)))).tr (rg_set (.inl (by decide)))).tr (rg_set (.inl (by decide)))).tr (rg_set (.inr ⟨rfl, by decide⟩)), ?_, hcel1, fun s a b => ?_, fun o a b => ?_, fun i e => ⟨?_, ?_, ?_, ?_⟩, ?_, ?_, ?_, ?_⟩
  · rw [hcell (by decide), hs_ne (by decide), hs_ne (by decide), hs_ne (by decide), hs_ne (by decide), hcel1]
  · rw [hcell b, hs_ne (by decide), hs_ne (by decide), hs_ne (by decide), hs_ne (by decide), hcell a]
  · rw [hs_ne a, hs_ne (by omega), hs_ne (by omega), hs_ne (by omega), hs_ne (by omega), hs_ne a]
  · rw [hs_ne (by decide), hs_ne (by decide), hs_ne (by decide), hs_ne (by decide), hcell e, hs_ne (by decide)]
  · rw [hs_ne (by decide), hs_ne (by decide), hs_ne (by decide), hcell e, hs_ne (by decide), hs_ne (by decide)]
  · rw [hs_ne (by decide), hs_ne (by decide), hcell e, hs_ne (by decide), hs_ne (by decide), hs_ne (by decide)]
  · rw [hs_ne (by decide), hcell e, hs_ne (by decide), hs_ne (by decide), hs_ne (by decide), hs_ne (by decide)]
  · rw [hs_ne (by decide), hs_ne (by decide), hs_ne (by decide), hs_ne (by decide), hcel1]
  · rw [hs_ne (by decide), hs_ne (by decide), hs_ne (by decide), hcel1]
  · rw [hs_ne (by decide), hs_ne (by decide), hcel1]
  · rw [hs_ne (by decide), hcel1]
/-- where both runs stand in their callers -/
abbrev CFG := (Nat × AV × AV × AV × AV × AV × AV × Int) × Nat × Int × Int × Int × Int × Int × Int × AV × AV
def LC (g : CFG) (T : Int) (h : HV) (Q : Int → HV → Prop) : Prop := LPC g.1.1 g.1.2.1 g.1.2.2.1 g.1.2.2.2.1 g.1.2.2.2.2.1 g.1.2.2.2.2.2.1 g.1.2.2.2.2.2.2.1 g.1.2.2.2.2.2.2.2 T h Q
def LRf (g : CFG) (h : HV) (Q : Int → HV → Prop) : Prop := LPR g.2.1 g.2.2.1 g.2.2.2.1 g.2.2.2.2.1 g.2.2.2.2.2.1 g.2.2.2.2.2.2.1 g.2.2.2.2.2.2.2.1 g.2.2.2.2.2.2.2.2.1 g.2.2.2.2.2.2.2.2.2 h Q
def SIM (g : CFG) (K B Br : HV) (n : Nat) : Prop := ∀ m, m ≤ n → ∀ T h hr L, RUNS K B Br m T h hr L → R2 (LC g T h) (LRf g hr) (POST B Br)
def FM (g : CFG) (K B Br : HV) (n0 : Nat) (l : List FRT) (x : CX) : Prop := ∀ (q E k : Int) (n : Nat) (T f : Int) (h hr : HV) (d2 : Nat) (a2 a3 s7 s8 s9 : AV), n ≤ n0 → FST K B Br h hr n ((q, x, E, k) :: l) → (∀ f ∈ ((q, x, E, k) :: l : List FRT), RKx f.2.2.2 f.2.1) → 400 * (h 1157 16 - h 1157 17) + phF ((q, x, E, k) :: l) ≤ n + 2 → 0 ≤ T → T + n ≤ 4000000 → (1 ≤ f ∧ f ≤ 7) →
  R2 (fun P => G fz1 (g.1.1 + 7) 231 1 [(3, 1157), (0, f), a2, a3] [] h (fun _ h1 => LC g T h1 P)) (fun P => G fz1 (d2 + 1) 388 1 [(3, 6603), (0, f), (0, 1), (0, 0), (1, 0), (9, 0), (0, hr 6603 41 - 1), s7, s8, s9] [] hr (fun _ h1 => LRf g h1 P)) (POST B Br)
section VM
variable {K B Br h hr h2 hr2 : HV} {n n2 n0 : Nat} {q E k k2 : Int} {x y : CX} {l L L2 : List FRT} {g : CFG}
theorem cd_pos {i : Int} (hl : h (h 1157 3) 17 ≤ 2400) (w : cdT h i ≠ 0) : 0 ≤ i ∧ i < 2400 := by
  unfold cdT at w
  split at w
  · omega
  · exact absurd rfl w
/-- the try record on top -/
theorem FST.try_ {a ph kx ch : Int} (O : KOK K) (M : FST K B Br h hr n ((q, (a, ph, kx, ch) :: y, E, k) :: l)) (hp : ph ≠ -1) : h 1157 8 = ntF l + ntX y + 1 ∧ (1 ≤ h 1157 8 ∧ h 1157 8 ≤ 96) ∧ ((0 ≤ a ∧ a < 401) ∧ 0 ≤ ph ∧ ph ≤ 2) ∧ (h 1568 (h 1157 8 - 1) = ch ∧ h 1632 (h 1157 8 - 1) = ph ∧ h 1696 (h 1157 8 - 1) = l.length ∧ h 1760 (h 1157 8 - 1) = bsF K l + K 7 q + 2 * lps y) ∧ TRYF K (MEM K (VS K q) (CLS K) n) a ch y kx ∧ (ph = 2 → K 5 a ≠ -9) ∧
    (¬ (ph = 1 ∧ K 5 a = -9) → hr 6603 44 = ngF K l + ngX K y + 1 ∧ (hr 10976 (hr 6603 44 - 1) = a ∧ hr 11040 (hr 6603 44 - 1) = hr 6603 41 - 1 ∧ hr 11104 (hr 6603 44 - 1) = ftF l ∧ hr 11168 (hr 6603 44 - 1) = ph) ∧ (ph = 2 → PND h hr (h 1157 8 - 1) (hr 6603 44 - 1))) ∧ (ph = 1 ∧ K 5 a = -9 → hr 6603 44 = ngF K l + ngX K y) ∧ (0 ≤ hr 6603 44 ∧ hr 6603 44 ≤ 96) ∧ (1 ≤ hr 6603 41 ∧ hr 6603 41 ≤ 8 ∧ hr 6603 41 = l.length + 1) ∧ (0 ≤ bsF K l + K 7 q + 2 * lps y ∧ bsF K l + K 7 q + 2 * lps y ≤ h 1222 2) := by
  obtain ⟨S, ⟨s1, s2, s3, s4, s5, s6, s7, s8, s9, s10, s11⟩, A⟩ := M
  have zz := ALF.sz O l A.2
  have za := ALF.sz O _ A
  have nx := ntX_0 y
  have ly := lps_0 y
  have gx := ngX_0 (K := K) y
  have kq := (O.2 q A.1.2.1.1 A.1.2.1.2).1
  have cx : CXR K (MEM K (VS K q) (CLS K) n) h hr l.length (bsF K l + K 7 q) (ftF l) (ntF l) (ngF K l) ((a, ph, kx, ch) :: y) := A.1.2.2.2.2.2.2.2.2.1
  obtain ⟨t1, t2, t3, t4, t5⟩ := cx.2.2 hp
  have e8 : h 1157 8 = ntF l + ntX y + 1 := by
    rw [s4, ntF_c]
    show ntF l + ntX ((a, ph, kx, ch) :: y) = _
    rw [ntX_c, if_neg hp]
    omega
  have s2 : bsF K l + K 7 q + 2 * lps ((a, ph, kx, ch) :: y) ≤ h 1222 2 := s2
  rw [lps_c, if_neg hp] at s2
  rw [List.length_cons] at s1 s3
  have z8 := za.2.2.1
  have z9 := za.2.2.2
  rw [List.length_cons] at z8
  rw [show h 1157 8 - 1 = ntF l + ntX y by omega]
  refine ⟨e8, by omega, t1, t2, t3, t4, fun w => ?_, fun w => ?_, by omega, by omega, by omega⟩
  · have e44 : hr 6603 44 = ngF K l + ngX K y + 1 := by
      rw [s5, ngF_c]
      show ngF K l + ngX K ((a, ph, kx, ch) :: y) = _
      rw [ngX_c, if_neg (fun v => v.elim hp w)]
      omega
    have t5 := t5 w
    rw [show hr 6603 44 - 1 = ngF K l + ngX K y by omega]
    exact ⟨e44, ⟨t5.1.1, by rw [t5.1.2.1]; omega, t5.1.2.2.1, t5.1.2.2.2⟩, t5.2⟩
  · rw [s5, ngF_c]
    show ngF K l + ngX K ((a, ph, kx, ch) :: y) = _
    rw [ngX_c, if_pos (.inr w)]
    omega
theorem LC_end {T : Int} {Q : Int → HV → Prop} (w : ¬ h 1157 19 = 100) : LC g T h Q = Q (h 1157 19) h := tn_end w
theorem LRf_end {Q : Int → HV → Prop} (w : hr 6603 56 = 0) : LRf g hr Q = Q (hr 6603 57) hr := by
  unfold LRf LPR
  rw [rl382, if_pos w]
end VM
