/-! THE PURE SIDE, 127: the two machines alike: turns of loads, stores, if, for: printed by wip/tools/gen89zze.py -/
theorem psh_57 {h : HV} {kc bc : Int} (V : VOK h) : pshH h kc bc 1157 = h 1157 := by rw [psh_rp, rpH_57 V]
theorem puR_52p {hr : HV} {kr br : Int} : puR hr kr br 6603 52 = hr 6603 52 := by rw [pu_rp, puR_52]
theorem stv_57 {h : HV} {p kc bc : Int} (V : VOK h) : stvH h p kc bc 1157 = h 1157 := by
  have a := V.ar
  unfold stvH
  rw [hs_ne (by omega), hs_ne (by omega)]
theorem ref_sw {hr : HV} {u b p v p2 w s z t : Int} : hset (hset (hset (hset (hset (hset hr 6603 52 u) 6603 53 b) 10592 p v) 10657 p2 w) 10784 s z) 6603 52 t = hset (hset (hset (hset (hset hr 6603 52 t) 6603 53 b) 10592 p v) 10657 p2 w) 10784 s z := by
  rw [hset_swap _ (show ¬ ((10784 : Int) = 6603 ∧ s = 52) by omega), hset_swap _ (show ¬ ((10657 : Int) = 6603 ∧ p2 = 52) by omega), hset_swap _ (show ¬ ((10592 : Int) = 6603 ∧ p = 52) by omega), hset_swap _ (show ¬ ((6603 : Int) = 6603 ∧ (53 : Int) = 52) by omega), hset_2]
section VM
variable {K B Br h hr h1 h2 hr1 hr2 : HV} {n n2 n0 : Nat} {q E k k2 T c r c2 r2 q2 E2 : Int} {x y x2 : CX} {l L L2 l2 : List FRT} {g : CFG} {A Bq : (Int → HV → Prop) → Prop}
theorem bud_k (bud : 400 * (h 1157 16 - h 1157 17) + phF ((q, x, E, k) :: l) ≤ n) (hk : k2 ≤ k - 1) (e16 : h2 1157 16 = h 1157 16) (e17 : h2 1157 17 = h 1157 17) : 400 * (h2 1157 16 - h2 1157 17) + phF ((q2, x2, E2, k2) :: l) + 1 ≤ n := by
  rw [e16, e17, phF_c]
  rw [phF_c] at bud
  have bud : 400 * (h 1157 16 - h 1157 17) + (phF l + k) ≤ n := bud
  show 400 * (h 1157 16 - h 1157 17) + (phF l + k2) + 1 ≤ n
  omega
theorem t_none (hg : g.1.1 = g.2.1) (N : ENV K B Br) (IH : SIM g K B Br n) (R : RUNS K B Br (n + 1) T h hr ((q, x, E, k) :: l)) (w : lNONE K (VS K q) (CLS K) (MEM K (VS K q) (CLS K) n) (h 1157 4) (hr 6603 52) x E k) : R2 (LC g T h) (LRf g hr) (POST B Br) := by
  obtain ⟨a, b, w⟩ := w
  obtain ⟨CT, c18, c56, bb, hS, hfr, op, hK, n1, bud, t1, M, RK⟩ := R.ct N
  have O := N.1
  have cb : 0 ≤ h 1157 4 + 1 ∧ h 1157 4 + 3 ≤ 2990 := by have := bb.1.1; omega
  have kb := mem_b n1 w
  have M' := M.pc O (c := h 1157 4 + 1) (r := hr 6603 52 + 1)
  have eK : ∀ j, uK (hset hr 6603 52 (hr 6603 52 + 1)) j = uK hr j := fun j => by unfold uK; rw [hs_ne (by decide), hcell (by decide)]
  have eB : ∀ j, uB (hset hr 6603 52 (hr 6603 52 + 1)) j = uB hr j := fun j => by unfold uB; rw [hs_ne (by decide), hcell (by decide)]
  have e41 : hset hr 6603 52 (hr 6603 52 + 1) 6603 41 = hr 6603 41 := hcell (by decide)
  have p4 : hset h 1157 4 (h 1157 4 + 1) 1157 4 = h 1157 4 + 1 := hcel1
  have p52 : hset hr 6603 52 (hr 6603 52 + 1) 6603 52 = hr 6603 52 + 1 := hcel1
  have p16 : hset h 1157 4 (h 1157 4 + 1) 1157 16 = h 1157 16 := hcell (by decide)
  have p17 : hset h 1157 4 (h 1157 4 + 1) 1157 17 = h 1157 17 := hcell (by decide)
  have ai := M'.V.ar
  have MM := M'.rp0 O kb.2.2.1.2 kb.2.1 (vv_0 (b := 0))
  have hs := M.hs O
  have T0 := (M.T O (m := 0) (by omega)).1
  unfold TPO at T0
  have l2' : h 1222 2 < h (h 1222 0) (-1) := by
    have u := hs.2.2.2.2.2.2.1
    unfold cK at u
    omega
  exact R2_eq (fun P => tn_2 (d := g.1.1) (l1 := g.1.2.1) (l2 := g.1.2.2.1) (l3 := g.1.2.2.2.1) (l4 := g.1.2.2.2.2.1) (l5 := g.1.2.2.2.2.2.1) (l6 := g.1.2.2.2.2.2.2.1) (l7 := g.1.2.2.2.2.2.2.2) (Q := P) CT c18 (by rw [hK]; exact a) M.V l2') (fun P => (LRf_go c56).trans (go_3 (d := g.2.1 + 1) hS bb.1.2 hfr rfl (op.1.trans b) T0)) (nxt (T := T + 1) (c2 := h 1157 4 + 1) (r2 := hr 6603 52 + 1) N IH (Nat.le_refl n) MM RK w (by rw [psh_57 M'.V]; exact p4) (by rw [puR_52p]; exact p52) (bud_k bud (Int.le_refl _) (by rw [psh_57 M'.V]; exact p16) (by rw [psh_57 M'.V]; exact p17)) t1.1 t1.2)
theorem t_whole (hg : g.1.1 = g.2.1) (N : ENV K B Br) (IH : SIM g K B Br n) (R : RUNS K B Br (n + 1) T h hr ((q, x, E, k) :: l)) (w : lWHOLE K (VS K q) (CLS K) (MEM K (VS K q) (CLS K) n) (h 1157 4) (hr 6603 52) x E k) : R2 (LC g T h) (LRf g hr) (POST B Br) := by
  obtain ⟨a, b, c, d, w⟩ := w
  obtain ⟨CT, c18, c56, bb, hS, hfr, op, hK, n1, bud, t1, M, RK⟩ := R.ct N
  have O := N.1
  have cb : 0 ≤ h 1157 4 + 1 ∧ h 1157 4 + 3 ≤ 2990 := by have := bb.1.1; omega
  have kb := mem_b n1 w
  have M' := M.pc O (c := h 1157 4 + 2) (r := hr 6603 52 + 1)
  have eK : ∀ j, uK (hset hr 6603 52 (hr 6603 52 + 1)) j = uK hr j := fun j => by unfold uK; rw [hs_ne (by decide), hcell (by decide)]
  have eB : ∀ j, uB (hset hr 6603 52 (hr 6603 52 + 1)) j = uB hr j := fun j => by unfold uB; rw [hs_ne (by decide), hcell (by decide)]
  have e41 : hset hr 6603 52 (hr 6603 52 + 1) 6603 41 = hr 6603 41 := hcell (by decide)
  have p4 : hset h 1157 4 (h 1157 4 + 2) 1157 4 = h 1157 4 + 2 := hcel1
  have p52 : hset hr 6603 52 (hr 6603 52 + 1) 6603 52 = hr 6603 52 + 1 := hcel1
  have p16 : hset h 1157 4 (h 1157 4 + 2) 1157 16 = h 1157 16 := hcell (by decide)
  have p17 : hset h 1157 4 (h 1157 4 + 2) 1157 17 = h 1157 17 := hcell (by decide)
  have ai := M'.V.ar
  have MM := M'.rp0 O kb.2.2.1.2 kb.2.1 (vv_1 (b := K 0 (h 1157 4 + 1)) (by unfold I32; omega))
  have hs := M.hs O
  have T0 := (M.T O (m := 0) (by omega)).1
  unfold TPO at T0
  have l2' : h 1222 2 < h (h 1222 0) (-1) := by
    have u := hs.2.2.2.2.2.2.1
    unfold cK at u
    omega
  exact R2_eq (fun P => by
    have t := tn_3 (d := g.1.1) (l1 := g.1.2.1) (l2 := g.1.2.2.1) (l3 := g.1.2.2.2.1) (l4 := g.1.2.2.2.2.1) (l5 := g.1.2.2.2.2.2.1) (l6 := g.1.2.2.2.2.2.2.1) (l7 := g.1.2.2.2.2.2.2.2) (Q := P) CT c18 (by rw [hK]; exact a) M.V l2'
    rw [hK] at t
    exact t) (fun P => (LRf_go c56).trans (go_1 (d := g.2.1 + 1) hS bb.1.2 hfr (op.2.1.trans c) (op.1.trans b) T0)) (nxt (T := T + 1) (c2 := h 1157 4 + 2) (r2 := hr 6603 52 + 1) N IH (Nat.le_refl n) MM RK w (by rw [psh_57 M'.V]; exact p4) (by rw [puR_52p]; exact p52) (bud_k bud (Int.le_refl _) (by rw [psh_57 M'.V]; exact p16) (by rw [psh_57 M'.V]; exact p17)) t1.1 t1.2)
theorem t_real (hg : g.1.1 = g.2.1) (N : ENV K B Br) (IH : SIM g K B Br n) (R : RUNS K B Br (n + 1) T h hr ((q, x, E, k) :: l)) (w : lREAL K (VS K q) (CLS K) (MEM K (VS K q) (CLS K) n) (h 1157 4) (hr 6603 52) x E k) : R2 (LC g T h) (LRf g hr) (POST B Br) := by
  obtain ⟨a, b, c, ⟨d1, d2, d3, d4⟩, w⟩ := w
  obtain ⟨CT, c18, c56, bb, hS, hfr, op, hK, n1, bud, t1, M, RK⟩ := R.ct N
  have O := N.1
  have cb : 0 ≤ h 1157 4 + 1 ∧ h 1157 4 + 3 ≤ 2990 := by have := bb.1.1; omega
  have kb := mem_b n1 w
  have M' := M.pc O (c := h 1157 4 + 3) (r := hr 6603 52 + 1)
  have eK : ∀ j, uK (hset hr 6603 52 (hr 6603 52 + 1)) j = uK hr j := fun j => by unfold uK; rw [hs_ne (by decide), hcell (by decide)]
  have eB : ∀ j, uB (hset hr 6603 52 (hr 6603 52 + 1)) j = uB hr j := fun j => by unfold uB; rw [hs_ne (by decide), hcell (by decide)]
  have e41 : hset hr 6603 52 (hr 6603 52 + 1) 6603 41 = hr 6603 41 := hcell (by decide)
  have p4 : hset h 1157 4 (h 1157 4 + 3) 1157 4 = h 1157 4 + 3 := hcel1
  have p52 : hset hr 6603 52 (hr 6603 52 + 1) 6603 52 = hr 6603 52 + 1 := hcel1
  have p16 : hset h 1157 4 (h 1157 4 + 3) 1157 16 = h 1157 16 := hcell (by decide)
  have p17 : hset h 1157 4 (h 1157 4 + 3) 1157 17 = h 1157 17 := hcell (by decide)
  have ai := M'.V.ar
  have MM := M'.rp0 O kb.2.2.1.2 kb.2.1 (vv_2 d1)
  have hs := M.hs O
  have T0 := (M.T O (m := 0) (by omega)).1
  unfold TPO at T0
  have N' := M.1.env N
  obtain ⟨hT, hl, -⟩ := N'.cd
  have nT : h 1157 3 ≠ 1157 := by rcases hT with u | u <;> omega
  have M1 := M.pc O (c := h 1157 4 + 1) (r := hr 6603 52 + 1)
  have s1 := M1.hs O
  have l2' : hset h 1157 4 (h 1157 4 + 1) 1222 2 < hset h 1157 4 (h 1157 4 + 1) (hset h 1157 4 (h 1157 4 + 1) 1222 0) (-1) := by
    have u := s1.2.2.2.2.2.2.1
    unfold cK at u
    omega
  have q3 : hset h 1157 4 (h 1157 4 + 1) 1157 3 = h 1157 3 := hcell (by decide)
  have q4 : hset h 1157 4 (h 1157 4 + 1) 1157 4 = h 1157 4 + 1 := hcel1
  have e6 : hr (hr 6603 9 + 1174) (K 2 (hr 6603 52)) = K 6 (K 2 (hr 6603 52)) := (N'.2.2.2.2.2.2.2.1 _ c.1 c.2).2
  have ec : ∀ P : Int → HV → Prop, LC g T h P = LC g (T + 1) (pshH (hset h 1157 4 (h 1157 4 + 3)) 2 (K 6 (K 2 (hr 6603 52)))) P := fun P => by
    have t := tn_4 (d := g.1.1) (l1 := g.1.2.1) (l2 := g.1.2.2.1) (l3 := g.1.2.2.2.1) (l4 := g.1.2.2.2.2.1) (l5 := g.1.2.2.2.2.2.1) (l6 := g.1.2.2.2.2.2.2.1) (l7 := g.1.2.2.2.2.2.2.2) (Q := P) CT c18 (by rw [hK]; exact a)
    rw [s176 (d := g.1.1 + 4) M1.V (by rw [q3]; exact hT) (by rw [q3, hs_ne nT]; exact hl) (by rw [q4]; omega) l2', q4, cdT_p hT (by decide), cdT_p hT (by decide), hK, hK, hset_2, show h 1157 4 + 1 + 1 = h 1157 4 + 2 by omega, d3, d4, pkR d2 d1.1, show h 1157 4 + 1 + 2 = h 1157 4 + 3 by omega] at t
    exact t
  exact R2_eq ec (fun P => by
    have t := (LRf_go (g := g) (P := P) c56).trans (go_2 (d := g.2.1 + 1) hS bb.1.2 hfr rfl (op.1.trans b) T0 (by rw [op.2.1]; exact c) (by rw [op.2.1, e6]; exact d1))
    rw [op.2.1, e6] at t
    exact t) (nxt (T := T + 1) (c2 := h 1157 4 + 3) (r2 := hr 6603 52 + 1) N IH (Nat.le_refl n) MM RK w (by rw [psh_57 M'.V]; exact p4) (by rw [puR_52p]; exact p52) (bud_k bud (Int.le_refl _) (by rw [psh_57 M'.V]; exact p16) (by rw [psh_57 M'.V]; exact p17)) t1.1 t1.2)
theorem t_get (hg : g.1.1 = g.2.1) (N : ENV K B Br) (IH : SIM g K B Br n) (R : RUNS K B Br (n + 1) T h hr ((q, x, E, k) :: l)) (w : lGET K (VS K q) (CLS K) (MEM K (VS K q) (CLS K) n) (h 1157 4) (hr 6603 52) x E k) : R2 (LC g T h) (LRf g hr) (POST B Br) := by
  obtain ⟨a, b, ⟨v, -, v2⟩, w⟩ := w
  have v2 := v2 (by omega)
  obtain ⟨CT, c18, c56, bb, hS, hfr, op, hK, n1, bud, t1, M, RK⟩ := R.ct N
  have O := N.1
  have cb : 0 ≤ h 1157 4 + 1 ∧ h 1157 4 + 3 ≤ 2990 := by have := bb.1.1; omega
  have kb := mem_b n1 w
  have M' := M.pc O (c := h 1157 4 + 2) (r := hr 6603 52 + 1)
  have eK : ∀ j, uK (hset hr 6603 52 (hr 6603 52 + 1)) j = uK hr j := fun j => by unfold uK; rw [hs_ne (by decide), hcell (by decide)]
  have eB : ∀ j, uB (hset hr 6603 52 (hr 6603 52 + 1)) j = uB hr j := fun j => by unfold uB; rw [hs_ne (by decide), hcell (by decide)]
  have e41 : hset hr 6603 52 (hr 6603 52 + 1) 6603 41 = hr 6603 41 := hcell (by decide)
  have p4 : hset h 1157 4 (h 1157 4 + 2) 1157 4 = h 1157 4 + 2 := hcel1
  have p52 : hset hr 6603 52 (hr 6603 52 + 1) 6603 52 = hr 6603 52 + 1 := hcel1
  have p16 : hset h 1157 4 (h 1157 4 + 2) 1157 16 = h 1157 16 := hcell (by decide)
  have p17 : hset h 1157 4 (h 1157 4 + 2) 1157 17 = h 1157 17 := hcell (by decide)
  have ai := M'.V.ar
  have s0 := M'.sl0 O v
  have sl := M'.slot O v
  have MM := M'.rp0 O kb.2.2.1.2 kb.2.1 sl
  have T0 := (M.T O (m := 0) (by have := bb.2.2.1; omega)).1
  unfold TPO at T0
  rw [e41, hs_ne (show (10592 : Int) ≠ 6603 by decide), hs_ne (show (10657 : Int) ≠ 6603 by decide)] at MM
  exact R2_eq (fun P => by
    have t := tn_5 (d := g.1.1) (l1 := g.1.2.1) (l2 := g.1.2.2.1) (l3 := g.1.2.2.2.1) (l4 := g.1.2.2.2.2.1) (l5 := g.1.2.2.2.2.2.1) (l6 := g.1.2.2.2.2.2.2.1) (l7 := g.1.2.2.2.2.2.2.2) (Q := P) CT c18 (by rw [hK]; exact a)
    rw [hK] at t
    exact t.trans (s177 (d := g.1.1 + 4) M'.V s0.2.1 s0.2.2.1 s0.2.2.2.1 s0.2.2.2.2.2.1)) (fun P => (LRf_go c56).trans (go_4 (d := g.2.1 + 1) hS bb.1.2 hfr (op.2.1.trans v2) (op.1.trans b) T0 s0.1)) (nxt (T := T + 1) (c2 := h 1157 4 + 2) (r2 := hr 6603 52 + 1) N IH (Nat.le_refl n) MM RK w (by rw [psh_57 M'.V]; exact p4) (by rw [puR_52p]; exact p52) (bud_k bud (Int.le_refl _) (by rw [psh_57 M'.V]; exact p16) (by rw [psh_57 M'.V]; exact p17)) t1.1 t1.2)
theorem t_sto (hg : g.1.1 = g.2.1) (N : ENV K B Br) (IH : SIM g K B Br n) (R : RUNS K B Br (n + 1) T h hr ((q, x, E, k) :: l)) (w : lSET K (VS K q) (CLS K) (MEM K (VS K q) (CLS K) n) (h 1157 4) (hr 6603 52) x E k) : R2 (LC g T h) (LRf g hr) (POST B Br) := by
  obtain ⟨a, b, ⟨v, -, v2⟩, d, w⟩ := w
  subst d
  have v2 := v2 (by omega)
  obtain ⟨CT, c18, c56, bb, hS, hfr, op, hK, n1, bud, t1, M, RK⟩ := R.ct N
  have O := N.1
  have cb : 0 ≤ h 1157 4 + 1 ∧ h 1157 4 + 3 ≤ 2990 := by have := bb.1.1; omega
  have kb := mem_b n1 w
  have M' := M.pc O (c := h 1157 4 + 2) (r := hr 6603 52 + 1)
  have eK : ∀ j, uK (hset hr 6603 52 (hr 6603 52 + 1)) j = uK hr j := fun j => by unfold uK; rw [hs_ne (by decide), hcell (by decide)]
  have eB : ∀ j, uB (hset hr 6603 52 (hr 6603 52 + 1)) j = uB hr j := fun j => by unfold uB; rw [hs_ne (by decide), hcell (by decide)]
  have e41 : hset hr 6603 52 (hr 6603 52 + 1) 6603 41 = hr 6603 41 := hcell (by decide)
  have p4 : hset h 1157 4 (h 1157 4 + 2) 1157 4 = h 1157 4 + 2 := hcel1
  have p52 : hset hr 6603 52 (hr 6603 52 + 1) 6603 52 = hr 6603 52 + 1 := hcel1
  have p16 : hset h 1157 4 (h 1157 4 + 2) 1157 16 = h 1157 16 := hcell (by decide)
  have p17 : hset h 1157 4 (h 1157 4 + 2) 1157 17 = h 1157 17 := hcell (by decide)
  have ai := M'.V.ar
  have s0 := M'.sl0 O v
  have MM := M'.set O v kb.2.1
  have T0 := (M.T O (m := 1) (by omega)).1
  unfold TPO at T0
  rw [e41, eK, eB] at MM
  exact R2_eq (fun P => by
    have t := tn_6 (d := g.1.1) (l1 := g.1.2.1) (l2 := g.1.2.2.1) (l3 := g.1.2.2.2.1) (l4 := g.1.2.2.2.2.1) (l5 := g.1.2.2.2.2.2.1) (l6 := g.1.2.2.2.2.2.2.1) (l7 := g.1.2.2.2.2.2.2.2) (Q := P) CT c18 (by rw [hK]; exact a)
    rw [hK] at t
    exact t.trans (s181 (d := g.1.1 + 4) M'.V s0.2.1 s0.2.2.1 s0.2.2.2.1 s0.2.2.2.2.1)) (fun P => (LRf_go c56).trans (go_5 (d := g.2.1 + 1) hS bb.1.2 hfr (op.2.1.trans v2) (op.1.trans b) T0 s0.1)) (nxt (T := T + 1) (c2 := h 1157 4 + 2) (r2 := hr 6603 52 + 1) N IH (Nat.le_refl n) MM RK w (by rw [cut_ne (by decide), stv_57 M'.V]; exact p4) (by rw [hs_ne (by decide), hs_ne (by decide)]; unfold tpR; rw [hcell (by decide)]; exact p52) (bud_k bud (Int.le_refl _) (by rw [cut_ne (by decide), stv_57 M'.V]; exact p16) (by rw [cut_ne (by decide), stv_57 M'.V]; exact p17)) t1.1 t1.2)
theorem t_jump (hg : g.1.1 = g.2.1) (N : ENV K B Br) (IH : SIM g K B Br n) (R : RUNS K B Br (n + 1) T h hr ((q, x, E, k) :: l)) (w : lJUMP K (VS K q) (CLS K) (MEM K (VS K q) (CLS K) n) (h 1157 4) (hr 6603 52) x E k) : R2 (LC g T h) (LRf g hr) (POST B Br) := by
  obtain ⟨a, b, d, w⟩ := w
  subst d
  obtain ⟨CT, c18, c56, bb, hS, hfr, op, hK, n1, bud, t1, M, RK⟩ := R.ct N
  have O := N.1
  have cb : 0 ≤ h 1157 4 + 1 ∧ h 1157 4 + 3 ≤ 2990 := by have := bb.1.1; omega
  have kb := mem_b n1 w
  have M' := M.pc O (c := K 0 (h 1157 4 + 1)) (r := K 2 (hr 6603 52))
  have MM := M'.rk kb.2.1
  have p16 : hset h 1157 4 (K 0 (h 1157 4 + 1)) 1157 16 = h 1157 16 := hcell (by decide)
  have p17 : hset h 1157 4 (K 0 (h 1157 4 + 1)) 1157 17 = h 1157 17 := hcell (by decide)
  exact R2_eq (fun P => by
    have t := tn_15 (d := g.1.1) (l1 := g.1.2.1) (l2 := g.1.2.2.1) (l3 := g.1.2.2.2.1) (l4 := g.1.2.2.2.2.1) (l5 := g.1.2.2.2.2.2.1) (l6 := g.1.2.2.2.2.2.2.1) (l7 := g.1.2.2.2.2.2.2.2) (Q := P) CT c18 (by rw [hK]; exact a)
    rw [hK] at t
    exact t) (fun P => by
    have t := (LRf_go (g := g) (P := P) c56).trans (go_20 (d := g.2.1 + 1) hS bb.1.2 hfr op.2.1 (op.1.trans b))
    rw [hset_2] at t
    exact t) (nxt (T := T + 1) N IH (Nat.le_refl n) MM RK w hcel1 hcel1 (bud_k bud (Int.le_refl _) p16 p17) t1.1 t1.2)
theorem t_unless (hg : g.1.1 = g.2.1) (N : ENV K B Br) (IH : SIM g K B Br n) (R : RUNS K B Br (n + 1) T h hr ((q, x, E, k) :: l)) (w : lUNLESS K (VS K q) (CLS K) (MEM K (VS K q) (CLS K) n) (h 1157 4) (hr 6603 52) x E k) : R2 (LC g T h) (LRf g hr) (POST B Br) := by
  obtain ⟨a, b, d, w, w2⟩ := w
  subst d
  obtain ⟨CT, c18, c56, bb, hS, hfr, op, hK, n1, bud, t1, M, RK⟩ := R.ct N
  have O := N.1
  have cb : 0 ≤ h 1157 4 + 1 ∧ h 1157 4 + 3 ≤ 2990 := by have := bb.1.1; omega
  have kb := mem_b n1 w
  have M' := M.pc O (c := h 1157 4 + 2) (r := hr 6603 52 + 1)
  have eK : ∀ j, uK (hset hr 6603 52 (hr 6603 52 + 1)) j = uK hr j := fun j => by unfold uK; rw [hs_ne (by decide), hcell (by decide)]
  have eB : ∀ j, uB (hset hr 6603 52 (hr 6603 52 + 1)) j = uB hr j := fun j => by unfold uB; rw [hs_ne (by decide), hcell (by decide)]
  have e41 : hset hr 6603 52 (hr 6603 52 + 1) 6603 41 = hr 6603 41 := hcell (by decide)
  have p4 : hset h 1157 4 (h 1157 4 + 2) 1157 4 = h 1157 4 + 2 := hcel1
  have p52 : hset hr 6603 52 (hr 6603 52 + 1) 6603 52 = hr 6603 52 + 1 := hcel1
  have p16 : hset h 1157 4 (h 1157 4 + 2) 1157 16 = h 1157 16 := hcell (by decide)
  have p17 : hset h 1157 4 (h 1157 4 + 2) 1157 17 = h 1157 17 := hcell (by decide)
  have ai := M'.V.ar
  have v0 := M'.top0 O (by decide)
  have T1 := (M.T O (m := 1) (by omega)).1
  have tt : ∀ P : Int → HV → Prop, LC g T h P = Sp fz1 (g.1.1 + 6) 216 [(3, 1157), (0, K 0 (h 1157 4 + 1))] (hset h 1157 4 (h 1157 4 + 2)) (fun _ h1 => LC g (T + 1) h1 P) := fun P => by
    have t := tn_16 (d := g.1.1) (l1 := g.1.2.1) (l2 := g.1.2.2.1) (l3 := g.1.2.2.2.1) (l4 := g.1.2.2.2.2.1) (l5 := g.1.2.2.2.2.2.1) (l6 := g.1.2.2.2.2.2.2.1) (l7 := g.1.2.2.2.2.2.2.2) (Q := P) CT c18 (by rw [hK]; exact a)
    rw [hK] at t
    exact t
  have lw := v0.lw
  rw [eK] at lw
  by_cases f0 : lwF (tK (hset h 1157 4 (h 1157 4 + 2)) 0) = 0
  · have k1 := lw1 f0
    have k1' := v0.i1.mp k1
    have b1 := v0.e1 k1
    rw [eK] at k1'
    rw [eB] at b1
    have MC := M'.cut O kb.2.1
    by_cases z : tB (hset h 1157 4 (h 1157 4 + 2)) 0 = 0
    · have kb2 := mem_b n1 w2
      have MZ := MC.pc O (c := K 0 (h 1157 4 + 1)) (r := K 2 (hr 6603 52))
      have ez : ∀ m, hset (cutH (hset h 1157 4 (h 1157 4 + 2)) m) 1157 4 (K 0 (h 1157 4 + 1)) = cutH (hset (hset h 1157 4 (h 1157 4 + 2)) 1157 4 (K 0 (h 1157 4 + 1))) m := fun m => by
        have e2 : ∀ s v, hset (hset h 1157 4 (h 1157 4 + 2)) 1157 4 v 1222 s = hset h 1157 4 (h 1157 4 + 2) 1222 s := fun s v => by rw [hs_ne (by decide)]
        unfold cutH
        rw [e2]
        by_cases u : 0 ≤ m ∧ m < hset h 1157 4 (h 1157 4 + 2) 1222 2
        · rw [if_pos u, if_pos u, hset_swap _ (by decide)]
        · rw [if_neg u, if_neg u]
      rw [ez] at MZ
      refine R2_eq (fun P => (tt P).trans (s216z (d := g.1.1 + 2) M'.V k1 z)) (fun P => (LRf_go c56).trans (go_19z (d := g.2.1 + 1) hS bb.1.2 hfr op.2.1 (op.1.trans b) T1 k1' (by rw [b1.1]; exact z))) (nxt (T := T + 1) N IH (Nat.le_refl n) MZ RK w2 (by rw [cut_ne (by decide), hcel1]) hcel1 (bud_k bud (Int.le_refl _) (by rw [cut_ne (by decide), hcell (by decide)]; exact p16) (by rw [cut_ne (by decide), hcell (by decide)]; exact p17)) t1.1 t1.2)
    · refine R2_eq (fun P => (tt P).trans (s216n (d := g.1.1 + 2) M'.V k1 z)) (fun P => ?_) (nxt (T := T + 1) (c2 := h 1157 4 + 2) (r2 := hr 6603 52 + 1) N IH (Nat.le_refl n) MC RK w (by rw [cut_ne (by decide)]; exact p4) (by unfold tpR; rw [hcell (by decide)]; exact p52) (bud_k bud (Int.le_refl _) (by rw [cut_ne (by decide)]; exact p16) (by rw [cut_ne (by decide)]; exact p17)) t1.1 t1.2)
      refine ((LRf_go c56).trans (go_19n (d := g.2.1 + 1) hS bb.1.2 hfr rfl (op.1.trans b) T1 k1' (by rw [b1.1]; exact z))).trans ?_
      rw [hset_as (show tpR (hset hr 6603 52 (hr 6603 52 + 1)) 1 6603 52 = hr 6603 52 + 1 by unfold tpR; rw [hcell (by decide)]; exact p52)]
  · refine R2_eq (fun P => (tt P).trans (s216f (d := g.1.1 + 2) M'.V M'.F f0)) (fun P => ?_) (fail_t (d := g.2.1 + 4) N IH (Nat.le_refl n) M' R.2.1 (by rw [p16, p17]; exact bud) t1.1 t1.2 (by rw [p4]; omega) (lw_r f0))
    rw [lw]
    exact (LRf_go c56).trans (go_19f (d := g.2.1 + 1) hS bb.1.2 hfr rfl (op.1.trans b) T1 (by rw [← lw]; exact f0))
theorem t_loop (hg : g.1.1 = g.2.1) (N : ENV K B Br) (IH : SIM g K B Br n) (R : RUNS K B Br (n + 1) T h hr ((q, x, E, k) :: l)) (w : lLOOP K (VS K q) (CLS K) (MEM K (VS K q) (CLS K) n) (h 1157 4) (hr 6603 52) x E k) : R2 (LC g T h) (LRf g hr) (POST B Br) := by
  obtain ⟨a, b, d, e, f, w⟩ := w
  subst d
  obtain ⟨CT, c18, c56, bb, hS, hfr, op, hK, n1, bud, t1, M, RK⟩ := R.ct N
  have O := N.1
  have cb : 0 ≤ h 1157 4 + 1 ∧ h 1157 4 + 3 ≤ 2990 := by have := bb.1.1; omega
  have kb := mem_b n1 w
  have M' := M.pc O (c := h 1157 4 + 1) (r := hr 6603 52 + 1)
  have eK : ∀ j, uK (hset hr 6603 52 (hr 6603 52 + 1)) j = uK hr j := fun j => by unfold uK; rw [hs_ne (by decide), hcell (by decide)]
  have eB : ∀ j, uB (hset hr 6603 52 (hr 6603 52 + 1)) j = uB hr j := fun j => by unfold uB; rw [hs_ne (by decide), hcell (by decide)]
  have e41 : hset hr 6603 52 (hr 6603 52 + 1) 6603 41 = hr 6603 41 := hcell (by decide)
  have p4 : hset h 1157 4 (h 1157 4 + 1) 1157 4 = h 1157 4 + 1 := hcel1
  have p52 : hset hr 6603 52 (hr 6603 52 + 1) 6603 52 = hr 6603 52 + 1 := hcel1
  have p16 : hset h 1157 4 (h 1157 4 + 1) 1157 16 = h 1157 16 := hcell (by decide)
  have p17 : hset h 1157 4 (h 1157 4 + 1) 1157 17 = h 1157 17 := hcell (by decide)
  have ai := M'.V.ar
  have v0 := M'.top0 O (by decide)
  have T1 := (M.T O (m := 1) (by omega)).1
  have hs := M'.hs O
  have tt : ∀ P : Int → HV → Prop, LC g T h P = Sp fz1 (g.1.1 + 6) 217 [(3, 1157)] (hset h 1157 4 (h 1157 4 + 1)) (fun _ h1 => LC g (T + 1) h1 P) := fun P => tn_17 (d := g.1.1) (l1 := g.1.2.1) (l2 := g.1.2.2.1) (l3 := g.1.2.2.2.1) (l4 := g.1.2.2.2.2.1) (l5 := g.1.2.2.2.2.2.1) (l6 := g.1.2.2.2.2.2.2.1) (l7 := g.1.2.2.2.2.2.2.2) (Q := P) CT c18 (by rw [hK]; exact a)
  have lw := v0.lw
  rw [eK] at lw
  by_cases f0 : lwF (tK (hset h 1157 4 (h 1157 4 + 1)) 0) = 0
  · have k1 := lw1 f0
    have k1' := v0.i1.mp k1
    have b1 := v0.e1 k1
    rw [eK] at k1'
    rw [eB] at b1
    have ln := kb.2.2.2.1
    rw [List.length_cons] at ln
    have MM := M'.lpo O k1 e f (by omega) kb.2.1
    rw [e41, eB] at MM
    have l2' : hset h 1157 4 (h 1157 4 + 1) 1222 2 < hset h 1157 4 (h 1157 4 + 1) (hset h 1157 4 (h 1157 4 + 1) 1222 0) (-1) := by
      have u := hs.2.2.2.2.2.2.1
      unfold cK at u
      omega
    refine R2_eq (fun P => (tt P).trans (s217a (d := g.1.1 + 2) M'.V k1 l2')) (fun P => (LRf_go c56).trans (go_21a (d := g.2.1 + 1) hS bb.1.2 hfr op.2.1 (op.1.trans b) T1 k1' (by rw [b1.1]; exact b1.2) e)) (nxt (T := T + 1) (c2 := h 1157 4 + 1) (r2 := hr 6603 52 + 1) N IH (Nat.le_refl n) MM RK w (by rw [psh_57 M'.V]; exact p4) (by rw [hs_ne (by decide), hs_ne (by decide)]; unfold tpR; rw [hcell (by decide)]; exact p52) (bud_k bud (Int.le_refl _) (by rw [psh_57 M'.V]; exact p16) (by rw [psh_57 M'.V]; exact p17)) t1.1 t1.2)
  · refine R2_eq (fun P => (tt P).trans (s217f (d := g.1.1 + 2) M'.V M'.F f0)) (fun P => ?_) (fail_t (d := g.2.1 + 4) N IH (Nat.le_refl n) M' R.2.1 (by rw [p16, p17]; exact bud) t1.1 t1.2 (by rw [p4]; omega) (lw_r f0))
    rw [lw]
    exact (LRf_go c56).trans (go_21f (d := g.2.1 + 1) hS bb.1.2 hfr rfl (op.1.trans b) T1 (by rw [← lw]; exact f0))
theorem t_step (hg : g.1.1 = g.2.1) (N : ENV K B Br) (IH : SIM g K B Br n) (R : RUNS K B Br (n + 1) T h hr ((q, x, E, k) :: l)) (w : lSTEP K (VS K q) (CLS K) (MEM K (VS K q) (CLS K) n) (h 1157 4) (hr 6603 52) x E k) : R2 (LC g T h) (LRf g hr) (POST B Br) := by
  obtain ⟨a, b, d, j, w⟩ := w
  subst d
  obtain ⟨CT, c18, c56, bb, hS, hfr, op, hK, n1, bud, t1, M, RK⟩ := R.ct N
  have O := N.1
  have cb : 0 ≤ h 1157 4 + 1 ∧ h 1157 4 + 3 ≤ 2990 := by have := bb.1.1; omega
  have kb := mem_b n1 w
  have M' := M.pc O (c := h 1157 4 + 1) (r := hr 6603 52 + 1)
  have eK : ∀ j, uK (hset hr 6603 52 (hr 6603 52 + 1)) j = uK hr j := fun j => by unfold uK; rw [hs_ne (by decide), hcell (by decide)]
  have eB : ∀ j, uB (hset hr 6603 52 (hr 6603 52 + 1)) j = uB hr j := fun j => by unfold uB; rw [hs_ne (by decide), hcell (by decide)]
  have e41 : hset hr 6603 52 (hr 6603 52 + 1) 6603 41 = hr 6603 41 := hcell (by decide)
  have p4 : hset h 1157 4 (h 1157 4 + 1) 1157 4 = h 1157 4 + 1 := hcel1
  have p52 : hset hr 6603 52 (hr 6603 52 + 1) 6603 52 = hr 6603 52 + 1 := hcel1
  have p16 : hset h 1157 4 (h 1157 4 + 1) 1157 16 = h 1157 16 := hcell (by decide)
  have p17 : hset h 1157 4 (h 1157 4 + 1) 1157 17 = h 1157 17 := hcell (by decide)
  have ai := M'.V.ar
  have s8 := M'.2.1.2.2.2.2.2.2.2.1
  have r53 : hset hr 6603 52 (hr 6603 52 + 1) 6603 53 = hr 6603 53 := hcell (by decide)
  have r54 : hset hr 6603 52 (hr 6603 52 + 1) 6603 54 = hr 6603 54 := hcell (by decide)
  rw [p16, p17, r53, r54] at s8
  have tt : ∀ P : Int → HV → Prop, LC g T h P = Sp fz1 (g.1.1 + 6) 174 [(3, 1157)] (hset h 1157 4 (h 1157 4 + 1)) (fun _ h1 => LC g (T + 1) h1 P) := fun P => tn_1 (d := g.1.1) (l1 := g.1.2.1) (l2 := g.1.2.2.1) (l3 := g.1.2.2.2.1) (l4 := g.1.2.2.2.2.1) (l5 := g.1.2.2.2.2.2.1) (l6 := g.1.2.2.2.2.2.2.1) (l7 := g.1.2.2.2.2.2.2.2) (Q := P) CT c18 (by rw [hK]; exact a)
  by_cases s : h 1157 16 ≤ h 1157 17
  · refine R2_eq (fun P => (tt P).trans ((s174 (d := g.1.1 + 5) (by rw [p17]; omega)).trans ?_)) (fun P => (LRf_go c56).trans (go_0s (d := g.2.1 + 1) hS bb.1.2 hfr rfl (op.1.trans b) (by omega))) (stop_t (T := T + 1) M' (by decide))
    rw [p16, p17, if_pos s]
  · have MM := (M'.step O (by rw [p16, p17]; omega)).rk kb.2.1
    refine R2_eq (fun P => (tt P).trans ((s174 (d := g.1.1 + 5) (by rw [p17]; omega)).trans ?_)) (fun P => (LRf_go c56).trans (go_0a (d := g.2.1 + 1) hS bb.1.2 hfr rfl (op.1.trans b) (by omega))) (nxt (T := T + 1) (c2 := h 1157 4 + 1) (r2 := hr 6603 52 + 1) N IH (Nat.le_refl n) (by rw [p17, r53] at MM; exact MM) RK w (by rw [hcell (by decide)]; exact p4) (by rw [hcell (by decide)]; exact p52) ?_ t1.1 t1.2)
    · rw [p16, p17, if_neg s]
    · rw [hcel1, hcell (by decide), p16, phF_c]
      rw [phF_c] at bud
      have bud : 400 * (h 1157 16 - h 1157 17) + (phF l + k) ≤ n := bud
      show 400 * (h 1157 16 - (h 1157 17 + 1)) + (phF l + j) + 1 ≤ n
      have := kb.2.1
      have := bb.2.1
      omega
theorem t_round (hg : g.1.1 = g.2.1) (N : ENV K B Br) (IH : SIM g K B Br n) (R : RUNS K B Br (n + 1) T h hr ((q, x, E, k) :: l)) (w : lROUND K (VS K q) (CLS K) (MEM K (VS K q) (CLS K) n) (h 1157 4) (hr 6603 52) x E k) : R2 (LC g T h) (LRf g hr) (POST B Br) := by
  obtain ⟨a, b, d, b2, ⟨v, v1, -⟩, y, ex, ⟨j, w1⟩, w2⟩ := w
  subst d
  subst ex
  have v1 := v1 b
  obtain ⟨CT, c18, c56, bb, hS, hfr, op, hK, n1, bud, t1, M, RK⟩ := R.ct N
  have O := N.1
  have cb : 0 ≤ h 1157 4 + 1 ∧ h 1157 4 + 3 ≤ 2990 := by have := bb.1.1; omega
  have kb := mem_b n1 w2
  have kb1 := mem_b n1 w1
  have N' := M.1.env N
  obtain ⟨hT, hl, -⟩ := N'.cd
  have nT : h 1157 3 ≠ 1157 := by rcases hT with u | u <;> omega
  have M1 := M.pc O (c := h 1157 4 + 1) (r := hr 6603 52 + 1)
  have q3 : hset h 1157 4 (h 1157 4 + 1) 1157 3 = h 1157 3 := hcell (by decide)
  have q4 : hset h 1157 4 (h 1157 4 + 1) 1157 4 = h 1157 4 + 1 := hcel1
  have q5 : ∀ s, s ≠ 4 → hset h 1157 4 (h 1157 4 + 1) 1157 s = h 1157 s := fun s u => hcell u
  have qo : ∀ o, o ≠ 1157 → hset h 1157 4 (h 1157 4 + 1) o = h o := fun o u => hs_ne u
  have lv := M.lpv O
  have lvi := lv.2.2.2.1
  unfold I32 at lvi
  have s8 := M.2.1.2.2.2.2.2.2.2.1
  have e0 : ∀ j, tB (hset h 1157 4 (h 1157 4 + 1)) j = tB h j := fun j => tB_p M.V
  have hw1 : TC (hset h 1157 4 (h 1157 4 + 1) 1157 3) := by rw [q3]; exact hT
  have hw2 : hset h 1157 4 (h 1157 4 + 1) (hset h 1157 4 (h 1157 4 + 1) 1157 3) 17 ≤ 2400 := by rw [q3, hs_ne nT]; exact hl
  have hw3 : 0 ≤ hset h 1157 4 (h 1157 4 + 1) 1157 4 ∧ hset h 1157 4 (h 1157 4 + 1) 1157 4 ≤ 2999 := by rw [q4]; omega
  have ec : ∀ i, cdT (hset h 1157 4 (h 1157 4 + 1)) i = K 0 i := fun i => by rw [cdT_p hT (by decide), hK]
  have tt : ∀ P : Int → HV → Prop, LC g T h P = Sp fz1 (g.1.1 + 6) 218 [(3, 1157)] (hset h 1157 4 (h 1157 4 + 1)) (fun _ h1 => LC g (T + 1) h1 P) := fun P => tn_18 (d := g.1.1) (l1 := g.1.2.1) (l2 := g.1.2.2.1) (l3 := g.1.2.2.2.1) (l4 := g.1.2.2.2.2.1) (l5 := g.1.2.2.2.2.2.1) (l6 := g.1.2.2.2.2.2.2.1) (l7 := g.1.2.2.2.2.2.2.2) (Q := P) CT c18 (by rw [hK]; exact a)
  by_cases hx : tB h 1 ≤ tB h 0
  · -- done
    have M2 := (M.pc O (c := h 1157 4 + 3) (r := K 2 (hr 6603 52 + 1))).lpx O rfl kb.2.1
    have M3 := M2.pc O (c := K 0 (h 1157 4 + 2)) (r := K 2 (hr 6603 52 + 1))
    rw [hset_2] at M3
    have op1 : hr (hr 6603 9 + 980) (hr 6603 52 + 1) = K 1 (hr 6603 52 + 1) ∧ hr (hr 6603 9 + 1044) (hr 6603 52 + 1) = K 2 (hr 6603 52 + 1) ∧ hr (hr 6603 9 + 1108) (hr 6603 52 + 1) = K 3 (hr 6603 52 + 1) := N'.op (by have := kb1.1.2; have := bb.1.2; omega)
    have nS : hr 6603 9 + 980 ≠ 6603 ∧ hr 6603 9 + 1044 ≠ 6603 := by rcases hS with u | u <;> omega
    have r52 : hset hr 6603 52 (hr 6603 52 + 1) 6603 52 = hr 6603 52 + 1 := hcel1
    have r9 : hset hr 6603 52 (hr 6603 52 + 1) 6603 9 = hr 6603 9 := hcell (by decide)
    refine R2_eq (fun P => (tt P).trans (s218x (d := g.1.1 + 1) M1.V hw1 hw2 hw3 (by rw [e0, e0]; exact hx))) (fun P => ((LRf_go c56).trans (go_22x (d := g.2.1 + 1) hS bb.1.2 hfr op.2.1 (op.1.trans b) lv.1 (by rw [← lv.2.1, ← lv.2.2.1]; exact hx))).trans ((LRf_go (by rw [hcell (by decide)]; exact c56)).trans (go_20 (d := g.2.1 + 1) (a := K 2 (hr 6603 52 + 1)) (by rw [r9]; exact hS) (by rw [r52]; have := kb1.1.2; have := bb.1.2; omega) (by rw [hcell (by decide)]; exact hfr) (by rw [r9, r52, hs_ne nS.2]; exact op1.2.1) (by rw [r9, r52, hs_ne nS.1]; exact op1.1.trans b2)))) ?_
    rw [q4, qo 1222 (by decide), hset_2, hset_2, hset_2, ec, show h 1157 4 + 1 + 2 = h 1157 4 + 3 by omega, show h 1157 4 + 1 + 1 = h 1157 4 + 2 by omega]
    rw [hs_ne (show (1222 : Int) ≠ 1157 by decide)] at M3
    refine nxt (T := T + 1) N IH (Nat.le_refl n) M3 RK w2 hcel1 hcel1 (bud_k bud (Int.le_refl _) ?_ ?_) t1.1 t1.2
    · rw [hcell (by decide), cut_ne (by decide), hcell (by decide)]
    · rw [hcell (by decide), cut_ne (by decide), hcell (by decide)]
  · by_cases s : h 1157 16 ≤ h 1157 17
    · have M2 := M.pc O (c := h 1157 4 + 3) (r := hr 6603 52 + 1)
      refine R2_eq (fun P => (tt P).trans (s218s (d := g.1.1 + 1) M1.V hw1 hw2 hw3 (by rw [e0, e0]; omega) (by rw [q5 17 (by decide)]; omega) (by rw [q5 17 (by decide), q5 16 (by decide)]; exact s))) (fun P => (LRf_go c56).trans (go_22s (d := g.2.1 + 1) hS bb.1.2 hfr op.2.1 (op.1.trans b) lv.1 (by rw [← lv.2.1, ← lv.2.2.1]; omega) (by omega))) ?_
      rw [q4, hset_2, show h 1157 4 + 1 + 2 = h 1157 4 + 3 by omega]
      exact stop_t (T := T + 1) M2 (by decide)
    · have kk := bb.2.1
      have M2 := (M.pc O (c := h 1157 4 + 3) (r := hr 6603 52 + 2)).step O (by rw [hcell (by decide), hcell (by decide)]; omega)
      have eh17 : h 1157 17 + 1 = hset h 1157 4 (h 1157 4 + 3) 1157 17 + 1 := by rw [hcell (by decide)]
      have M3 := M2.sset O v (vv_1 (b := tB h 0) (by unfold I32; omega))
      generalize eh : stvH (hset (hset h 1157 4 (h 1157 4 + 3)) 1157 17 (hset h 1157 4 (h 1157 4 + 3) 1157 17 + 1)) (hset (hset h 1157 4 (h 1157 4 + 3)) 1157 17 (hset h 1157 4 (h 1157 4 + 3) 1157 17 + 1) 1440 (hset (hset h 1157 4 (h 1157 4 + 3)) 1157 17 (hset h 1157 4 (h 1157 4 + 3) 1157 17 + 1) 1157 5) + K 0 (h 1157 4 + 1)) 1 (tB h 0) = h3 at M3
      rw [hs_ne (show (1440 : Int) ≠ 1157 by decide), hs_ne (show (1440 : Int) ≠ 1157 by decide), hcell (show (5 : Int) ≠ 17 by decide), hcell (show (5 : Int) ≠ 4 by decide)] at eh
      have s0 := M.sl0 O v
      have hs := M.hs O
      have hs3 := M3.hs O
      have kq := M.fr
      have tb3 : tB h3 0 = tB h 0 := by
        have z := stv_2 (p := h 1440 (h 1157 5) + K 0 (h 1157 4 + 1)) (k := 1) (b := tB h 0) M2.V (by omega)
        rw [eh] at z
        have c1 := z.2.2.2.1 (h 1222 2 - 1)
        rw [if_neg (by rw [lps_c, if_pos rfl] at hs; have := lps_0 y; omega)] at c1
        have z22 : h3 1222 = h 1222 := by rw [z.2.1, hs_ne (by decide), hs_ne (by decide)]
        have a := M.V.ar
        have cc : cB (hset (hset h 1157 4 (h 1157 4 + 3)) 1157 17 (hset h 1157 4 (h 1157 4 + 3) 1157 17 + 1)) (h 1222 2 - 1) = cB h (h 1222 2 - 1) := by
          unfold cB
          rw [hs_ne (show (1222 : Int) ≠ 1157 by decide), hs_ne (show (1222 : Int) ≠ 1157 by decide), hs_ne (by omega), hs_ne (by omega)]
        rw [cc] at c1
        unfold tB bA
        unfold cB at c1
        rw [z22] at c1 ⊢
        by_cases u : 0 ≤ h 1222 2 - 1 - 0 ∧ h 1222 2 - 1 - 0 < h 1222 2
        · rw [if_pos u, if_pos u, show h 1222 2 - 1 - 0 = h 1222 2 - 1 by omega, c1]
        · rw [if_neg u, if_neg u]
      have M4 := (M3.cnt O (by rw [tb3]; omega)).rk kb1.2.1
      have r41 : hset (hset (hset hr 6603 52 (hr 6603 52 + 2)) 6603 53 (hset hr 6603 52 (hr 6603 52 + 2) 6603 53 + 1)) 10592 (420 * (hset (hset hr 6603 52 (hr 6603 52 + 2)) 6603 53 (hset hr 6603 52 (hr 6603 52 + 2) 6603 53 + 1) 6603 41 - 1) + K 11 (512 * q + K 0 (h 1157 4 + 1))) 1 6603 41 = hr 6603 41 := by rw [hs_ne (by decide), hcell (by decide), hcell (by decide)]
      rw [hs_ne (show (6603 : Int) ≠ 10657 by decide), r41, tb3, hcell (show (41 : Int) ≠ 53 by decide), hcell (show (41 : Int) ≠ 52 by decide), hcell (show (53 : Int) ≠ 52 by decide)] at M4
      refine R2_eq (fun P => (tt P).trans (s218a (d := g.1.1 + 1) M1.V hw1 hw2 hw3 (by rw [e0, e0]; omega) (by rw [q5 17 (by decide)]; omega) (by rw [q5 17 (by decide), q5 16 (by decide)]; omega) (by rw [e0]; omega) (by rw [qo 1222 (by decide)]; rw [lps_c, if_pos rfl] at hs; have := lps_0 y; omega) (by rw [q5 5 (by decide)]; exact s0.2.1) (by rw [ec, q4]; exact s0.2.2.1) (by rw [q5 5 (by decide), qo 1440 (by decide)]; exact s0.2.2.2.1) (by rw [q5 5 (by decide), qo 1440 (by decide), qo 1222 (by decide), ec, q4]; exact s0.2.2.2.2.1))) (fun P => (LRf_go c56).trans (go_22a (d := g.2.1 + 1) hS bb.1.2 hfr op.2.1 (op.1.trans b) lv.1 (op.2.2.trans v1) s0.1 (by rw [← lv.2.1, ← lv.2.2.1]; omega) (by rw [← lv.2.1, ← lv.2.2.1]; have := lv.2.2.2.1; unfold I32 at this; omega) (by omega))) ?_
      rw [q4, hset_2, e0, q5 17 (by decide), q5 5 (by decide), qo 1440 (by decide), ec, show h 1157 4 + 1 + 2 = h 1157 4 + 3 by omega, eh17, eh, ref_sw, ← lv.2.2.1]
      refine nxt (T := T + 1) (c2 := h 1157 4 + 3) (r2 := hr 6603 52 + 2) N IH (Nat.le_refl n) M4 RK w1 ?_ ?_ ?_ t1.1 t1.2
      · rw [rpH_57 M3.V, ← eh, stv_57 M2.V, hcell (by decide), hcel1]
      · rw [hs_ne (by decide), hs_ne (by decide), hs_ne (by decide), hcell (by decide), hcel1]
      · rw [rpH_57 M3.V, ← eh, stv_57 M2.V, hcell (by decide), hcell (by decide), hcel1, hcell (by decide), phF_c]
        rw [phF_c] at bud
        have bud : 400 * (h 1157 16 - h 1157 17) + (phF l + k) ≤ n := bud
        show 400 * (h 1157 16 - (h 1157 17 + 1)) + (phF l + j) + 1 ≤ n
        have := kb1.2.1
        omega
end VM
