/-! THE PURE SIDE, 126: the two machines alike: turns of ops with outcomes: printed by wip/tools/gen89zzd.py -/
section VM
variable {K B Br h hr h1 h2 hr1 hr2 : HV} {n n2 n0 : Nat} {q E k k2 T c r c2 r2 q2 E2 : Int} {x y x2 : CX} {l L L2 l2 : List FRT} {g : CFG} {A Bq : (Int → HV → Prop) → Prop}
theorem hgS {m : Nat} {as : List AV} {Q : Int → HV → Prop} (hg : g.1.1 = g.2.1) : Sp fz1 (g.2.1 + 1 + 4) m as h Q = Sp fz1 (g.1.1 + 5) m as h Q := congrArg (fun d => Sp fz1 d m as h Q) (by omega)
theorem t_work (hg : g.1.1 = g.2.1) (N : ENV K B Br) (IH : SIM g K B Br n) (R : RUNS K B Br (n + 1) T h hr ((q, x, E, k) :: l)) (w : lWORK K (VS K q) (CLS K) (MEM K (VS K q) (CLS K) n) (h 1157 4) (hr 6603 52) x E k) : R2 (LC g T h) (LRf g hr) (POST B Br) := by
  obtain ⟨a, b, c, d, w⟩ := w
  obtain ⟨CT, c18, c56, bb, hS, hfr, op, hK, n1, bud, t1, M, RK⟩ := R.ct N
  have O := N.1
  have cb : 0 ≤ h 1157 4 + 1 ∧ h 1157 4 + 3 ≤ 2990 := by have := bb.1.1; omega
  have kb := (mem_b n1 w).2.1
  have M' := M.pc O (c := h 1157 4 + 2) (r := hr 6603 52 + 1)
  refine out_t (c2 := h 1157 4 + 2) (r2 := hr 6603 52 + 1) N IH R (o_work (d := g.1.1) O M' d c kb) (fun P => ?_) (fun P => ?_) (by omega) w
  · have t := tn_8 (d := g.1.1) (l1 := g.1.2.1) (l2 := g.1.2.2.1) (l3 := g.1.2.2.2.1) (l4 := g.1.2.2.2.2.1) (l5 := g.1.2.2.2.2.2.1) (l6 := g.1.2.2.2.2.2.2.1) (l7 := g.1.2.2.2.2.2.2.2) (Q := P) CT c18 (by rw [hK]; exact a)
    rw [hK] at t
    exact t
  · exact ((LRf_go c56).trans (go_8 (d := g.2.1 + 1) hS bb.1.2 hfr op.2.1 (op.1.trans (b)))).trans (hgS hg)
theorem t_comp (hg : g.1.1 = g.2.1) (N : ENV K B Br) (IH : SIM g K B Br n) (R : RUNS K B Br (n + 1) T h hr ((q, x, E, k) :: l)) (w : lCOMP K (VS K q) (CLS K) (MEM K (VS K q) (CLS K) n) (h 1157 4) (hr 6603 52) x E k) : R2 (LC g T h) (LRf g hr) (POST B Br) := by
  obtain ⟨a, b, c, d, w⟩ := w
  obtain ⟨CT, c18, c56, bb, hS, hfr, op, hK, n1, bud, t1, M, RK⟩ := R.ct N
  have O := N.1
  have cb : 0 ≤ h 1157 4 + 1 ∧ h 1157 4 + 3 ≤ 2990 := by have := bb.1.1; omega
  have kb := (mem_b n1 w).2.1
  have M' := M.pc O (c := h 1157 4 + 2) (r := hr 6603 52 + 1)
  refine out_t (c2 := h 1157 4 + 2) (r2 := hr 6603 52 + 1) N IH R (o_comp (d := g.1.1) O M' d c kb) (fun P => ?_) (fun P => ?_) (by omega) w
  · have t := tn_9 (d := g.1.1) (l1 := g.1.2.1) (l2 := g.1.2.2.1) (l3 := g.1.2.2.2.1) (l4 := g.1.2.2.2.2.1) (l5 := g.1.2.2.2.2.2.1) (l6 := g.1.2.2.2.2.2.2.1) (l7 := g.1.2.2.2.2.2.2.2) (Q := P) CT c18 (by rw [hK]; exact a)
    rw [hK] at t
    exact t
  · exact ((LRf_go c56).trans (go_8 (d := g.2.1 + 1) hS bb.1.2 hfr op.2.1 (op.1.trans (b)))).trans (hgS hg)
theorem t_neg (hg : g.1.1 = g.2.1) (N : ENV K B Br) (IH : SIM g K B Br n) (R : RUNS K B Br (n + 1) T h hr ((q, x, E, k) :: l)) (w : lNEG K (VS K q) (CLS K) (MEM K (VS K q) (CLS K) n) (h 1157 4) (hr 6603 52) x E k) : R2 (LC g T h) (LRf g hr) (POST B Br) := by
  obtain ⟨a, b, d, w⟩ := w
  obtain ⟨CT, c18, c56, bb, hS, hfr, op, hK, n1, bud, t1, M, RK⟩ := R.ct N
  have O := N.1
  have cb : 0 ≤ h 1157 4 + 1 ∧ h 1157 4 + 3 ≤ 2990 := by have := bb.1.1; omega
  have kb := (mem_b n1 w).2.1
  have M' := M.pc O (c := h 1157 4 + 1) (r := hr 6603 52 + 1)
  refine out_t (c2 := h 1157 4 + 1) (r2 := hr 6603 52 + 1) N IH R (o_neg (d := g.1.1) O M' d kb) (fun P => ?_) (fun P => ?_) (by omega) w
  · have t := tn_10 (d := g.1.1) (l1 := g.1.2.1) (l2 := g.1.2.2.1) (l3 := g.1.2.2.2.1) (l4 := g.1.2.2.2.2.1) (l5 := g.1.2.2.2.2.2.1) (l6 := g.1.2.2.2.2.2.2.1) (l7 := g.1.2.2.2.2.2.2.2) (Q := P) CT c18 (by rw [hK]; exact a)
    exact t
  · exact ((LRf_go c56).trans (go_9 (d := g.2.1 + 1) hS bb.1.2 hfr op.2.1 (op.1.trans (b)))).trans (hgS hg)
theorem t_item (hg : g.1.1 = g.2.1) (N : ENV K B Br) (IH : SIM g K B Br n) (R : RUNS K B Br (n + 1) T h hr ((q, x, E, k) :: l)) (w : lITEM K (VS K q) (CLS K) (MEM K (VS K q) (CLS K) n) (h 1157 4) (hr 6603 52) x E k) : R2 (LC g T h) (LRf g hr) (POST B Br) := by
  obtain ⟨a, b, d, w⟩ := w
  obtain ⟨CT, c18, c56, bb, hS, hfr, op, hK, n1, bud, t1, M, RK⟩ := R.ct N
  have O := N.1
  have cb : 0 ≤ h 1157 4 + 1 ∧ h 1157 4 + 3 ≤ 2990 := by have := bb.1.1; omega
  have kb := (mem_b n1 w).2.1
  have M' := M.pc O (c := h 1157 4 + 1) (r := hr 6603 52 + 1)
  refine out_t (c2 := h 1157 4 + 1) (r2 := hr 6603 52 + 1) N IH R (o_item (d := g.1.1) O M' d kb) (fun P => ?_) (fun P => ?_) (by omega) w
  · have t := tn_11 (d := g.1.1) (l1 := g.1.2.1) (l2 := g.1.2.2.1) (l3 := g.1.2.2.2.1) (l4 := g.1.2.2.2.2.1) (l5 := g.1.2.2.2.2.2.1) (l6 := g.1.2.2.2.2.2.2.1) (l7 := g.1.2.2.2.2.2.2.2) (Q := P) CT c18 (by rw [hK]; exact a)
    exact t
  · exact ((LRf_go c56).trans (go_10 (d := g.2.1 + 1) hS bb.1.2 hfr op.2.1 (op.1.trans (b)))).trans (hgS hg)
theorem t_make (hg : g.1.1 = g.2.1) (N : ENV K B Br) (IH : SIM g K B Br n) (R : RUNS K B Br (n + 1) T h hr ((q, x, E, k) :: l)) (w : lMAKE K (VS K q) (CLS K) (MEM K (VS K q) (CLS K) n) (h 1157 4) (hr 6603 52) x E k) : R2 (LC g T h) (LRf g hr) (POST B Br) := by
  obtain ⟨a, b, c, e, d, w⟩ := w
  obtain ⟨CT, c18, c56, bb, hS, hfr, op, hK, n1, bud, t1, M, RK⟩ := R.ct N
  have O := N.1
  have cb : 0 ≤ h 1157 4 + 1 ∧ h 1157 4 + 3 ≤ 2990 := by have := bb.1.1; omega
  have kb := (mem_b n1 w).2.1
  have M' := M.pc O (c := h 1157 4 + 2) (r := hr 6603 52 + 1)
  refine out_t (c2 := h 1157 4 + 2) (r2 := hr 6603 52 + 1) N IH R (o_make (d := g.1.1) O M' d e kb) (fun P => ?_) (fun P => ?_) (by omega) w
  · have t := tn_12 (d := g.1.1) (l1 := g.1.2.1) (l2 := g.1.2.2.1) (l3 := g.1.2.2.2.1) (l4 := g.1.2.2.2.2.1) (l5 := g.1.2.2.2.2.2.1) (l6 := g.1.2.2.2.2.2.2.1) (l7 := g.1.2.2.2.2.2.2.2) (Q := P) CT c18 (by rw [hK]; exact a)
    rw [hK] at t
    exact t
  · exact ((LRf_go c56).trans (go_11 (d := g.2.1 + 1) hS bb.1.2 hfr (op.2.1.trans c) (op.1.trans (b)))).trans (hgS hg)
theorem t_one (hg : g.1.1 = g.2.1) (N : ENV K B Br) (IH : SIM g K B Br n) (R : RUNS K B Br (n + 1) T h hr ((q, x, E, k) :: l)) (w : lONE K (VS K q) (CLS K) (MEM K (VS K q) (CLS K) n) (h 1157 4) (hr 6603 52) x E k) : R2 (LC g T h) (LRf g hr) (POST B Br) := by
  obtain ⟨a, b, d, w⟩ := w
  obtain ⟨CT, c18, c56, bb, hS, hfr, op, hK, n1, bud, t1, M, RK⟩ := R.ct N
  have O := N.1
  have cb : 0 ≤ h 1157 4 + 1 ∧ h 1157 4 + 3 ≤ 2990 := by have := bb.1.1; omega
  have kb := (mem_b n1 w).2.1
  have M' := M.pc O (c := h 1157 4 + 1) (r := hr 6603 52 + 1)
  have NN : ENV K (hset h 1157 4 (h 1157 4 + 1)) (hset hr 6603 52 (hr 6603 52 + 1)) := M'.1.env N
  rcases (show K 0 (h 1157 4) = 25 ∨ K 0 (h 1157 4) = 26 ∨ K 0 (h 1157 4) = 27 ∨ K 0 (h 1157 4) = 28 ∨ K 0 (h 1157 4) = 29 by omega) with e | e | e | e | e
  · refine out_t (c2 := h 1157 4 + 1) (r2 := hr 6603 52 + 1) N IH R (o_size (d := g.1.1) O M' d kb) (fun P => ?_) (fun P => ?_) (by omega) w
    · exact tn_25 (d := g.1.1) (l1 := g.1.2.1) (l2 := g.1.2.2.1) (l3 := g.1.2.2.2.1) (l4 := g.1.2.2.2.2.1) (l5 := g.1.2.2.2.2.2.1) (l6 := g.1.2.2.2.2.2.2.1) (l7 := g.1.2.2.2.2.2.2.2) (Q := P) CT c18 (by rw [hK]; exact e)
    · exact ((LRf_go c56).trans (go_12 (d := g.2.1 + 1) hS bb.1.2 hfr rfl (op.1.trans (by omega)))).trans (hgS hg)
  · refine out_t (c2 := h 1157 4 + 1) (r2 := hr 6603 52 + 1) N IH R (o_whole (d := g.1.1) O M' d kb) (fun P => ?_) (fun P => ?_) (by omega) w
    · exact tn_26 (d := g.1.1) (l1 := g.1.2.1) (l2 := g.1.2.2.1) (l3 := g.1.2.2.2.1) (l4 := g.1.2.2.2.2.1) (l5 := g.1.2.2.2.2.2.1) (l6 := g.1.2.2.2.2.2.2.1) (l7 := g.1.2.2.2.2.2.2.2) (Q := P) CT c18 (by rw [hK]; exact e)
    · exact ((LRf_go c56).trans (go_13 (d := g.2.1 + 1) hS bb.1.2 hfr rfl (op.1.trans (by omega)))).trans (hgS hg)
  · refine out_t (c2 := h 1157 4 + 1) (r2 := hr 6603 52 + 1) N IH R (o_real (d := g.1.1) O M' d kb) (fun P => ?_) (fun P => ?_) (by omega) w
    · exact tn_27 (d := g.1.1) (l1 := g.1.2.1) (l2 := g.1.2.2.1) (l3 := g.1.2.2.2.1) (l4 := g.1.2.2.2.2.1) (l5 := g.1.2.2.2.2.2.1) (l6 := g.1.2.2.2.2.2.2.1) (l7 := g.1.2.2.2.2.2.2.2) (Q := P) CT c18 (by rw [hK]; exact e)
    · exact ((LRf_go c56).trans (go_14 (d := g.2.1 + 1) hS bb.1.2 hfr rfl (op.1.trans (by omega)))).trans (hgS hg)
  · have V := M.V
    have T1 := M'.T O (m := 1) (by omega)
    have v0 := M'.top0 O d
    have z1 : 1 ≤ h 1222 2 := (M.T O (m := 1) (by omega)).2
    have e0 : ∀ j, tK (hset h 1157 4 (h 1157 4 + 1)) j = tK h j := fun j => tK_p V
    have hm : h 1222 2 ≤ 20000 := by
      have z := M.hs O
      omega
    have MM := M'.rp1 O d kb (kc := 1) (bc := if tK h 0 = 0 then 1 else 0) (kr := 1) (br := if tK h 0 = 0 then 1 else 0) (vv_1 (by unfold I32; split <;> omega))
    refine R2_eq (fun P => tn_28 (d := g.1.1) (l1 := g.1.2.1) (l2 := g.1.2.2.1) (l3 := g.1.2.2.2.1) (l4 := g.1.2.2.2.2.1) (l5 := g.1.2.2.2.2.2.1) (l6 := g.1.2.2.2.2.2.2.1) (l7 := g.1.2.2.2.2.2.2.2) (Q := P) CT c18 (by rw [hK]; exact e) V z1) (fun P => ?_) (nxt (T := T + 1) (c2 := h 1157 4 + 1) (r2 := hr 6603 52 + 1) N IH (Nat.le_refl n) MM RK w (by rw [rpH_57 M'.V, hcel1]) (by rw [puR_52, hcel1]) ?_ t1.1 t1.2)
    · refine ((LRf_go c56).trans (go_15 (d := g.2.1 + 1) hS bb.1.2 hfr rfl (op.1.trans (by omega)))).trans ?_
      rw [v415 (d := g.2.1 + 1) T1.1, in_pu]
      rw [e0] at v0
      by_cases z : tK h 0 = 0
      · rw [if_pos z, if_pos (v0.i0.mp z)]
      · rw [if_neg z, if_neg (fun u => z (v0.i0.mpr u))]
    · rw [rpH_57 M'.V, hcell (by decide), hcell (by decide), phF_c]
      rw [phF_c] at bud
      have bud : 400 * (h 1157 16 - h 1157 17) + (phF l + k) ≤ n := bud
      show 400 * (h 1157 16 - h 1157 17) + (phF l + (k - 1)) + 1 ≤ n
      omega
  · refine out_t (c2 := h 1157 4 + 1) (r2 := hr 6603 52 + 1) N IH R (o_person (d := g.1.1) NN M' d kb) (fun P => ?_) (fun P => ?_) (by omega) w
    · exact tn_29 (d := g.1.1) (l1 := g.1.2.1) (l2 := g.1.2.2.1) (l3 := g.1.2.2.2.1) (l4 := g.1.2.2.2.2.1) (l5 := g.1.2.2.2.2.2.1) (l6 := g.1.2.2.2.2.2.2.1) (l7 := g.1.2.2.2.2.2.2.2) (Q := P) CT c18 (by rw [hK]; exact e)
    · exact ((LRf_go c56).trans (go_16 (d := g.2.1 + 1) hS bb.1.2 hfr rfl (op.1.trans (by omega)))).trans (hgS hg)
theorem t_two (hg : g.1.1 = g.2.1) (N : ENV K B Br) (IH : SIM g K B Br n) (R : RUNS K B Br (n + 1) T h hr ((q, x, E, k) :: l)) (w : lTWO2 K (VS K q) (CLS K) (MEM K (VS K q) (CLS K) n) (h 1157 4) (hr 6603 52) x E k) : R2 (LC g T h) (LRf g hr) (POST B Br) := by
  obtain ⟨a, b, d, w⟩ := w
  obtain ⟨CT, c18, c56, bb, hS, hfr, op, hK, n1, bud, t1, M, RK⟩ := R.ct N
  have O := N.1
  have cb : 0 ≤ h 1157 4 + 1 ∧ h 1157 4 + 3 ≤ 2990 := by have := bb.1.1; omega
  have kb := (mem_b n1 w).2.1
  have M' := M.pc O (c := h 1157 4 + 1) (r := hr 6603 52 + 1)
  have NN : ENV K (hset h 1157 4 (h 1157 4 + 1)) (hset hr 6603 52 (hr 6603 52 + 1)) := M'.1.env N
  rcases (show K 0 (h 1157 4) = 30 ∨ K 0 (h 1157 4) = 31 by omega) with e | e
  · refine out_t (c2 := h 1157 4 + 1) (r2 := hr 6603 52 + 1) N IH R (o_level (d := g.1.1) NN M' d kb) (fun P => ?_) (fun P => ?_) (by omega) w
    · exact tn_30 (d := g.1.1) (l1 := g.1.2.1) (l2 := g.1.2.2.1) (l3 := g.1.2.2.2.1) (l4 := g.1.2.2.2.2.1) (l5 := g.1.2.2.2.2.2.1) (l6 := g.1.2.2.2.2.2.2.1) (l7 := g.1.2.2.2.2.2.2.2) (Q := P) CT c18 (by rw [hK]; exact e)
    · exact ((LRf_go c56).trans (go_17 (d := g.2.1 + 1) hS bb.1.2 hfr rfl (op.1.trans (by omega)))).trans (hgS hg)
  · refine out_t (c2 := h 1157 4 + 1) (r2 := hr 6603 52 + 1) N IH R (o_marks (d := g.1.1) NN M' d kb) (fun P => ?_) (fun P => ?_) (by omega) w
    · exact tn_31 (d := g.1.1) (l1 := g.1.2.1) (l2 := g.1.2.2.1) (l3 := g.1.2.2.2.1) (l4 := g.1.2.2.2.2.1) (l5 := g.1.2.2.2.2.2.1) (l6 := g.1.2.2.2.2.2.2.1) (l7 := g.1.2.2.2.2.2.2.2) (Q := P) CT c18 (by rw [hK]; exact e)
    · exact ((LRf_go c56).trans (go_18 (d := g.2.1 + 1) hS bb.1.2 hfr rfl (op.1.trans (by omega)))).trans (hgS hg)
theorem t_copy (hg : g.1.1 = g.2.1) (N : ENV K B Br) (IH : SIM g K B Br n) (R : RUNS K B Br (n + 1) T h hr ((q, x, E, k) :: l)) (w : lCOPY K (VS K q) (CLS K) (MEM K (VS K q) (CLS K) n) (h 1157 4) (hr 6603 52) x E k) : R2 (LC g T h) (LRf g hr) (POST B Br) := by
  obtain ⟨a, b, d, w⟩ := w
  subst d
  obtain ⟨CT, c18, c56, bb, hS, hfr, op, hK, n1, bud, t1, M, RK⟩ := R.ct N
  have O := N.1
  have cb : 0 ≤ h 1157 4 + 1 ∧ h 1157 4 + 3 ≤ 2990 := by have := bb.1.1; omega
  have kb := (mem_b n1 w).2.1
  have M' := M.pc O (c := h 1157 4 + 1) (r := hr 6603 52 + 1)
  have NN : ENV K (hset h 1157 4 (h 1157 4 + 1)) (hset hr 6603 52 (hr 6603 52 + 1)) := M'.1.env N
  refine out_t (c2 := h 1157 4 + 1) (r2 := hr 6603 52 + 1) N IH R (o_copy (d := g.1.1) (d2 := g.2.1 + 1) NN M' kb) (fun P => ?_) (fun P => ?_) (by omega) w
  · exact tn_20 (d := g.1.1) (l1 := g.1.2.1) (l2 := g.1.2.2.1) (l3 := g.1.2.2.2.1) (l4 := g.1.2.2.2.2.1) (l5 := g.1.2.2.2.2.2.1) (l6 := g.1.2.2.2.2.2.2.1) (l7 := g.1.2.2.2.2.2.2.2) (Q := P) CT c18 (by rw [hK]; exact a)
  · exact (LRf_go c56).trans (go_28 (d := g.2.1 + 1) hS bb.1.2 hfr rfl (op.1.trans b))
theorem t_seti (hg : g.1.1 = g.2.1) (N : ENV K B Br) (IH : SIM g K B Br n) (R : RUNS K B Br (n + 1) T h hr ((q, x, E, k) :: l)) (w : lSETITEM K (VS K q) (CLS K) (MEM K (VS K q) (CLS K) n) (h 1157 4) (hr 6603 52) x E k) : R2 (LC g T h) (LRf g hr) (POST B Br) := by
  obtain ⟨a, b, ⟨v, -, v2⟩, d, w⟩ := w
  subst d
  obtain ⟨CT, c18, c56, bb, hS, hfr, op, hK, n1, bud, t1, M, RK⟩ := R.ct N
  have O := N.1
  have cb : 0 ≤ h 1157 4 + 1 ∧ h 1157 4 + 3 ≤ 2990 := by have := bb.1.1; omega
  have kb := (mem_b n1 w).2.1
  have M' := M.pc O (c := h 1157 4 + 2) (r := hr 6603 52 + 1)
  have NN : ENV K (hset h 1157 4 (h 1157 4 + 2)) (hset hr 6603 52 (hr 6603 52 + 1)) := M'.1.env N
  have e0 := M.sl0 O v
  refine out_t (c2 := h 1157 4 + 2) (r2 := hr 6603 52 + 1) N IH R (o_setitem (d := g.1.1) NN M' v kb) (fun P => ?_) (fun P => ?_) (by omega) w
  · have t := tn_7 (d := g.1.1) (l1 := g.1.2.1) (l2 := g.1.2.2.1) (l3 := g.1.2.2.2.1) (l4 := g.1.2.2.2.2.1) (l5 := g.1.2.2.2.2.2.1) (l6 := g.1.2.2.2.2.2.2.1) (l7 := g.1.2.2.2.2.2.2.2) (Q := P) CT c18 (by rw [hK]; exact a) e0.2.1 e0.2.2.2.1 (by rw [hK]; exact e0.2.2.1)
    rw [hK] at t
    have e1 : hset h 1157 4 (h 1157 4 + 2) 1440 (hset h 1157 4 (h 1157 4 + 2) 1157 5) = h 1440 (h 1157 5) := by rw [hs_ne (by decide), hcell (by decide)]
    show _ = Sp fz1 (g.1.1 + 6) 185 [(3, 1157), (0, hset h 1157 4 (h 1157 4 + 2) 1440 (hset h 1157 4 (h 1157 4 + 2) 1157 5) + K 0 (h 1157 4 + 1))] _ _
    rw [e1]
    exact t
  · exact ((LRf_go c56).trans (go_6 (d := g.2.1 + 1) hS bb.1.2 hfr (op.2.1.trans (v2 (by omega))) (op.1.trans b))).trans (hgS hg)
end VM
