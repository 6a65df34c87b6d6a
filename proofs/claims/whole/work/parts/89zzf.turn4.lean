/-! THE PURE SIDE, 128: the two machines alike: turns of try, give, raise, call: printed by wip/tools/gen89zzf.py -/
section VM
variable {K B Br h hr h1 h2 hr1 hr2 : HV} {n n2 n0 : Nat} {q E k k2 T c r c2 r2 q2 E2 : Int} {x y x2 : CX} {l L L2 l2 : List FRT} {g : CFG} {A Bq : (Int → HV → Prop) → Prop}
/-- the reference's stack cut: what is on its way stands -/
theorem FST.tp {m : Int} (O : KOK K) (M : FST K B Br h hr n ((q, x, E, k) :: l)) : FST K B Br h (tpR hr m) n ((q, x, E, k) :: l) := by
  obtain ⟨S, ⟨s1, s2, s3, s4, s5, s6, s7, s8, s9, s10, s11⟩, A⟩ := M
  have V := S.2.2.1
  have R : RCG hr (tpR hr m) := rg_set (.inr ⟨rfl, by decide⟩)
  have rs : ∀ s, s ≠ 36 → tpR hr m 6603 s = hr 6603 s := fun s w => hcell w
  have ro : ∀ o, o ≠ 6603 → tpR hr m o = hr o := fun o w => hs_ne w
  refine ⟨S.cg (CCG.id V) R, ⟨s1, s2, by rw [rs 41 (by decide)]; exact s3, s4, by rw [rs 44 (by decide)]; exact s5, by rw [rs 53 (by decide), rs 54 (by decide)]; exact s6, by rw [rs 55 (by decide)]; exact s7, by rw [rs 56 (by decide), rs 58 (by decide), rs 59 (by decide)]; exact s8, s9, s10, s11⟩, ?_⟩
  refine ALF.ag O (Nat.le_refl n) _ (AGR.stk V (CCG.id V) R (fun _ _ _ => rfl) (fun o p r => ro o (by omega)) (fun _ _ _ => ⟨rfl, rfl⟩) (fun i _ _ => ?_)) A
  rw [ro 10464 (by decide), ro 10529 (by decide)]
  exact ⟨rfl, rfl⟩
/-- what is given, behind the turn -/
theorem give_t {d1 d2 : Nat} {kc bc kr br : Int} (N : ENV K B Br) (IH : SIM g K B Br n) (hn : n2 ≤ n) (M : FST K B Br h hr n2 ((q, x, E, k) :: l)) (h5 : h 1157 5 = l.length) (v : VVh h hr kc bc kr br) (RK : ∀ f ∈ ((q, x, E, k) :: l : List FRT), RKx f.2.2.2 f.2.1) (bud : 400 * (h 1157 16 - h 1157 17) + phF ((q, x, E, k) :: l) ≤ n2) (T0 : 0 ≤ T) (Tn : T + n2 ≤ 4000000) :
    R2 (fun P => Sp fz1 (d1 + 2) 214 [(3, 1157), (0, kc), (1, bc)] h (fun _ h1 => LC g T h1 P)) (fun P => Sp fz1 (d2 + 1) 388 [(3, 6603), (0, 0), (0, 0), (0, kr), (1, br)] hr (fun _ h1 => LRf g h1 P)) (POST B Br) := by
  have z := giveM N IH l x q E k n2 T kc bc kr br h hr d1 d2 (9, 0) (9, 0) (9, 0) (9, 0) hn M v h5 RK bud T0 Tn
  have s8 := M.2.1.2.2.2.2.2.2.2.1
  have s1 := M.2.1.1
  have s3 := M.2.1.2.2.1
  exact R2_eq (fun P => s214) (fun P => uw_in.trans (uw_00 (l6 := (9, 0)) s8.1 (by omega))) z
theorem VMS.dropV {e : Int × Int × Int × Int} (O : KOK K) (M : VMS K B Br h hr n ((q, e :: y, 0, k) :: l)) (he : e.2.1 ≠ -1) (hk : 1 ≤ k2 ∧ k2 ≤ 399) (C : CCG h h2) (R : RCG hr hr2)
    (cs : ∀ s, s ≠ 4 → s ≠ 8 → h2 1157 s = h 1157 s) (c8 : h2 1157 8 = ntF l + ntX y) (c12 : h2 1222 2 = h 1222 2) (cc : ∀ p, cK h2 p = cK h p ∧ cB h2 p = cB h p) (co : ∀ o, 1440 ≤ o → o ≤ 1760 → o ≠ 1632 → h2 o = h o) (c32 : ∀ i, i < ntF l + ntX y → h2 1632 i = h 1632 i ∧ h2 1824 i = h 1824 i ∧ h2 1889 i = h 1889 i)
    (r44 : hr2 6603 44 = ngF K l + ngX K y) (rs : ∀ s, s ≠ 44 → s ≠ 52 → hr2 6603 s = hr 6603 s) (ro : ∀ o, 10464 ≤ o → o ≤ 11487 → hr2 o = hr o) : VMS K B Br h2 hr2 n ((q, y, 0, k2) :: l) := by
  have e3 : h 1222 2 = bsF K l + (K 7 q + 2 * lps (e :: y) + 0) := M.2.1.2.2.1
  have e4 : hr 6603 36 = ftF l + 0 := M.2.1.2.2.2.1
  rw [lps_c, if_neg he] at e3
  have F := (M.f O).drop (h2 := h2) (hr2 := hr2) O hk C R (fun s a _ b => cs s a b) c8 (by omega) cc co c32 r44 (fun s _ a b => rs s a b) ro
  obtain ⟨S, s, A⟩ := M
  refine ⟨F.1, s.up (by rw [List.length_cons, List.length_cons]) cs (fun s _ a b => rs s a b) ?_ ?_ ?_ ?_, F.2.2⟩
  · rw [c12, bsF_c]
    show _ = bsF K l + (K 7 q + 2 * lps y + 0)
    omega
  · rw [rs 36 (by decide) (by decide), ftF_c]
    exact e4
  · rw [c8, ntF_c]
  · rw [r44, ngF_c]
theorem gx_a {P : PT} {j lo ft T G : Int} : ∀ x : CX, CXR K P h hr j lo ft T G x → 1 ≤ ngX K x → ∃ e ∈ x, e.2.1 ≠ -1 ∧ hr 10976 (G + ngX K x - 1) = e.1
  | [], _, w => absurd w (by unfold ngX; decide)
  | e :: y, ⟨C, _, R⟩, w => by
    rw [ngX_c] at w ⊢
    by_cases c : e.2.1 = -1 ∨ e.2.1 = 1 ∧ K 5 e.1 = -9
    · rw [if_pos c] at w ⊢
      rw [Int.zero_add] at w ⊢
      obtain ⟨e', m, u, v⟩ := gx_a y C w
      exact ⟨e', List.mem_cons_of_mem _ m, u, v⟩
    · have z := ((R (fun v => c (.inl v))).2.2.2.2 (fun v => c (.inr v))).1.1
      rw [if_neg c, show G + (1 + ngX K y) - 1 = G + ngX K y by omega]
      exact ⟨e, List.mem_cons_self, fun v => c (.inl v), z⟩
theorem t_raise (hg : g.1.1 = g.2.1) (N : ENV K B Br) (IH : SIM g K B Br n) (R : RUNS K B Br (n + 1) T h hr ((q, x, E, k) :: l)) (w : lRAISE K (VS K q) (CLS K) (MEM K (VS K q) (CLS K) n) (h 1157 4) (hr 6603 52) x E k) : R2 (LC g T h) (LRf g hr) (POST B Br) := by
  obtain ⟨a, b, d, e, f1, f2⟩ := w
  obtain ⟨CT, c18, c56, bb, hS, hfr, op, hK, n1, bud, t1, M, RK⟩ := R.ct N
  have O := N.1
  have cb : 0 ≤ h 1157 4 + 1 ∧ h 1157 4 + 3 ≤ 2990 := by have := bb.1.1; omega
  have M' := M.pc O (c := h 1157 4 + 2) (r := hr 6603 52 + 1)
  have eK : ∀ j, uK (hset hr 6603 52 (hr 6603 52 + 1)) j = uK hr j := fun j => by unfold uK; rw [hs_ne (by decide), hcell (by decide)]
  have eB : ∀ j, uB (hset hr 6603 52 (hr 6603 52 + 1)) j = uB hr j := fun j => by unfold uB; rw [hs_ne (by decide), hcell (by decide)]
  have e41 : hset hr 6603 52 (hr 6603 52 + 1) 6603 41 = hr 6603 41 := hcell (by decide)
  have p4 : hset h 1157 4 (h 1157 4 + 2) 1157 4 = h 1157 4 + 2 := hcel1
  have p52 : hset hr 6603 52 (hr 6603 52 + 1) 6603 52 = hr 6603 52 + 1 := hcel1
  have p16 : hset h 1157 4 (h 1157 4 + 2) 1157 16 = h 1157 16 := hcell (by decide)
  have p17 : hset h 1157 4 (h 1157 4 + 2) 1157 17 = h 1157 17 := hcell (by decide)
  have ai := M'.V.ar
  refine R2_eq (fun P => ?_) (fun P => (LRf_go c56).trans (go_26 (d := g.2.1 + 1) hS bb.1.2 hfr (op.2.1.trans e) (op.1.trans b))) (fail_t (f := K 0 (h 1157 4 + 1)) (d := g.2.1 + 4) N IH (Nat.le_refl n) M' R.2.1 (by rw [p16, p17]; exact bud) t1.1 t1.2 (by rw [p4]; omega) ⟨f1, f2⟩)
  have t := tn_19 (d := g.1.1) (l1 := g.1.2.1) (l2 := g.1.2.2.1) (l3 := g.1.2.2.2.1) (l4 := g.1.2.2.2.2.1) (l5 := g.1.2.2.2.2.2.1) (l6 := g.1.2.2.2.2.2.2.1) (l7 := g.1.2.2.2.2.2.2.2) (Q := P) CT c18 (by rw [hK]; exact a)
  rw [hK] at t
  exact t.trans (s188t (d := g.1.1 + 5) M'.F)
theorem t_give (hg : g.1.1 = g.2.1) (N : ENV K B Br) (IH : SIM g K B Br n) (R : RUNS K B Br (n + 1) T h hr ((q, x, E, k) :: l)) (w : lGIVE K (VS K q) (CLS K) (MEM K (VS K q) (CLS K) n) (h 1157 4) (hr 6603 52) x E k) : R2 (LC g T h) (LRf g hr) (POST B Br) := by
  obtain ⟨a, b, d⟩ := w
  subst d
  obtain ⟨CT, c18, c56, bb, hS, hfr, op, hK, n1, bud, t1, M, RK⟩ := R.ct N
  have O := N.1
  have cb : 0 ≤ h 1157 4 + 1 ∧ h 1157 4 + 3 ≤ 2990 := by have := bb.1.1; omega
  have M' := M.pc O (c := h 1157 4 + 1) (r := hr 6603 52 + 1)
  have eK : ∀ j, uK (hset hr 6603 52 (hr 6603 52 + 1)) j = uK hr j := fun j => by unfold uK; rw [hs_ne (by decide), hcell (by decide)]
  have eB : ∀ j, uB (hset hr 6603 52 (hr 6603 52 + 1)) j = uB hr j := fun j => by unfold uB; rw [hs_ne (by decide), hcell (by decide)]
  have e41 : hset hr 6603 52 (hr 6603 52 + 1) 6603 41 = hr 6603 41 := hcell (by decide)
  have p4 : hset h 1157 4 (h 1157 4 + 1) 1157 4 = h 1157 4 + 1 := hcel1
  have p52 : hset hr 6603 52 (hr 6603 52 + 1) 6603 52 = hr 6603 52 + 1 := hcel1
  have p16 : hset h 1157 4 (h 1157 4 + 1) 1157 16 = h 1157 16 := hcell (by decide)
  have p17 : hset h 1157 4 (h 1157 4 + 1) 1157 17 = h 1157 17 := hcell (by decide)
  have ai := M'.V.ar
  have T1 := (M.T O (m := 1) (by omega)).1
  have v0 := M'.top0 O (by decide)
  rw [eK, eB] at v0
  have e0 : tK (hset h 1157 4 (h 1157 4 + 1)) 0 = tK h 0 := tK_p M.V
  have e1 : tB (hset h 1157 4 (h 1157 4 + 1)) 0 = tB h 0 := tB_p M.V
  rw [e0, e1] at v0
  have C1 : RCG (hset hr 6603 52 (hr 6603 52 + 1)) (tpR (hset hr 6603 52 (hr 6603 52 + 1)) 1) := rg_set (.inr ⟨rfl, by decide⟩)
  rw [← VVh.cg M'.V (CCG.id M'.V) C1] at v0
  have fr := M.fr
  have z := give_t (d1 := g.1.1 + 4) (d2 := g.2.1 + 5) N IH (Nat.le_refl n) ((M'.f O).tp (m := 1) O) (by rw [hcell (by decide)]; exact fr.1) v0 R.2.1 (by rw [p16, p17]; exact bud) t1.1 t1.2
  exact R2_eq (fun P => tn_14 (d := g.1.1) (l1 := g.1.2.1) (l2 := g.1.2.2.1) (l3 := g.1.2.2.2.1) (l4 := g.1.2.2.2.2.1) (l5 := g.1.2.2.2.2.2.1) (l6 := g.1.2.2.2.2.2.2.1) (l7 := g.1.2.2.2.2.2.2.2) (Q := P) CT c18 (by rw [hK]; exact a) M.V) (fun P => (LRf_go c56).trans (go_27 (d := g.2.1 + 1) hS bb.1.2 hfr rfl (op.1.trans b) T1)) z
theorem t_end (hg : g.1.1 = g.2.1) (N : ENV K B Br) (IH : SIM g K B Br n) (R : RUNS K B Br (n + 1) T h hr ((q, x, E, k) :: l)) (w : lEND K (VS K q) (CLS K) (MEM K (VS K q) (CLS K) n) (h 1157 4) (hr 6603 52) x E k) : R2 (LC g T h) (LRf g hr) (POST B Br) := by
  obtain ⟨a, b, d⟩ := w
  obtain ⟨CT, c18, c56, bb, hS, hfr, op, hK, n1, bud, t1, M, RK⟩ := R.ct N
  have O := N.1
  have cb : 0 ≤ h 1157 4 + 1 ∧ h 1157 4 + 3 ≤ 2990 := by have := bb.1.1; omega
  have M' := M.pc O (c := h 1157 4 + 1) (r := hr 6603 52 + 1)
  have eK : ∀ j, uK (hset hr 6603 52 (hr 6603 52 + 1)) j = uK hr j := fun j => by unfold uK; rw [hs_ne (by decide), hcell (by decide)]
  have eB : ∀ j, uB (hset hr 6603 52 (hr 6603 52 + 1)) j = uB hr j := fun j => by unfold uB; rw [hs_ne (by decide), hcell (by decide)]
  have e41 : hset hr 6603 52 (hr 6603 52 + 1) 6603 41 = hr 6603 41 := hcell (by decide)
  have p4 : hset h 1157 4 (h 1157 4 + 1) 1157 4 = h 1157 4 + 1 := hcel1
  have p52 : hset hr 6603 52 (hr 6603 52 + 1) 6603 52 = hr 6603 52 + 1 := hcel1
  have p16 : hset h 1157 4 (h 1157 4 + 1) 1157 16 = h 1157 16 := hcell (by decide)
  have p17 : hset h 1157 4 (h 1157 4 + 1) 1157 17 = h 1157 17 := hcell (by decide)
  have ai := M'.V.ar
  have fr := M.fr
  have z := give_t (kc := 0) (bc := 0) (kr := 0) (br := 0) (d1 := g.1.1 + 4) (d2 := g.2.1 + 5) N IH (Nat.le_refl n) (M'.f O) (by rw [hcell (by decide)]; exact fr.1) vv_0 R.2.1 (by rw [p16, p17]; exact bud) t1.1 t1.2
  exact R2_eq (fun P => tn_0 (d := g.1.1) (l1 := g.1.2.1) (l2 := g.1.2.2.1) (l3 := g.1.2.2.2.1) (l4 := g.1.2.2.2.2.1) (l5 := g.1.2.2.2.2.2.1) (l6 := g.1.2.2.2.2.2.2.1) (l7 := g.1.2.2.2.2.2.2.2) (Q := P) CT c18 (by rw [hK]; exact a)) (fun P => (LRf_go c56).trans (go_29 (d := g.2.1 + 1) hS bb.1.2 hfr rfl (op.1.trans b))) z
theorem t_try (hg : g.1.1 = g.2.1) (N : ENV K B Br) (IH : SIM g K B Br n) (R : RUNS K B Br (n + 1) T h hr ((q, x, E, k) :: l)) (w : lTRY K (VS K q) (CLS K) (MEM K (VS K q) (CLS K) n) (h 1157 4) (hr 6603 52) x E k) : R2 (LC g T h) (LRf g hr) (POST B Br) := by
  obtain ⟨a, b, d, e, f, kx, w, TF⟩ := w
  subst d
  obtain ⟨CT, c18, c56, bb, hS, hfr, op, hK, n1, bud, t1, M, RK⟩ := R.ct N
  have O := N.1
  have cb : 0 ≤ h 1157 4 + 1 ∧ h 1157 4 + 3 ≤ 2990 := by have := bb.1.1; omega
  have M' := M.pc O (c := h 1157 4 + 2) (r := hr 6603 52 + 1)
  have eK : ∀ j, uK (hset hr 6603 52 (hr 6603 52 + 1)) j = uK hr j := fun j => by unfold uK; rw [hs_ne (by decide), hcell (by decide)]
  have eB : ∀ j, uB (hset hr 6603 52 (hr 6603 52 + 1)) j = uB hr j := fun j => by unfold uB; rw [hs_ne (by decide), hcell (by decide)]
  have e41 : hset hr 6603 52 (hr 6603 52 + 1) 6603 41 = hr 6603 41 := hcell (by decide)
  have p4 : hset h 1157 4 (h 1157 4 + 2) 1157 4 = h 1157 4 + 2 := hcel1
  have p52 : hset hr 6603 52 (hr 6603 52 + 1) 6603 52 = hr 6603 52 + 1 := hcel1
  have p16 : hset h 1157 4 (h 1157 4 + 2) 1157 16 = h 1157 16 := hcell (by decide)
  have p17 : hset h 1157 4 (h 1157 4 + 2) 1157 17 = h 1157 17 := hcell (by decide)
  have ai := M'.V.ar
  have kb := mem_b n1 w
  have fr := M.fr
  have za := ALF.sz O l M.2.2.2
  have nx := ntX_0 x
  have gx := ngX_0 (K := K) x
  have ln := kb.2.2.2.1
  rw [List.length_cons] at ln
  have MM := M'.try_ O e TF (by omega) kb.2.1
  have p8 : hset h 1157 4 (h 1157 4 + 2) 1157 8 = h 1157 8 := hcell (by decide)
  have p44 : hset hr 6603 52 (hr 6603 52 + 1) 6603 44 = hr 6603 44 := hcell (by decide)
  have p36 : hset hr 6603 52 (hr 6603 52 + 1) 6603 36 = hr 6603 36 := hcell (by decide)
  refine R2_eq (a' := fun P => LC g (T + 1) (hset (hset (hset (hset (hset (hset h 1157 4 (h 1157 4 + 2)) 1568 (hset h 1157 4 (h 1157 4 + 2) 1157 8) (K 0 (h 1157 4 + 1))) 1632 (hset h 1157 4 (h 1157 4 + 2) 1157 8) 0) 1696 (hset h 1157 4 (h 1157 4 + 2) 1157 8) (hset h 1157 4 (h 1157 4 + 2) 1157 5)) 1760 (hset h 1157 4 (h 1157 4 + 2) 1157 8) (hset h 1157 4 (h 1157 4 + 2) 1222 2)) 1157 8 (hset h 1157 4 (h 1157 4 + 2) 1157 8 + 1)) P) (fun P => ?_) (fun P => (LRf_go c56).trans (go_23 (d := g.2.1 + 1) hS bb.1.2 hfr op.2.1 (op.1.trans b) (by omega))) ?_
  · have t := tn_21 (d := g.1.1) (l1 := g.1.2.1) (l2 := g.1.2.2.1) (l3 := g.1.2.2.2.1) (l4 := g.1.2.2.2.2.1) (l5 := g.1.2.2.2.2.2.1) (l6 := g.1.2.2.2.2.2.2.1) (l7 := g.1.2.2.2.2.2.2.2) (Q := P) CT c18 (by rw [hK]; exact a)
    rw [hK] at t
    exact t.trans (s221 (d := g.1.1 + 5) (by rw [p8]; omega))
  · rw [p44, e41, p36] at MM
    refine nxt (T := T + 1) (c2 := h 1157 4 + 2) (r2 := hr 6603 52 + 1) N IH (Nat.le_refl n) MM RK w ?_ ?_ (bud_k bud (Int.le_refl _) ?_ ?_) t1.1 t1.2
    · rw [hcell (by decide), hs_ne (by decide), hs_ne (by decide), hs_ne (by decide), hs_ne (by decide)]; exact p4
    · rw [hcell (by decide), hs_ne (by decide), hs_ne (by decide), hs_ne (by decide), hs_ne (by decide)]; exact p52
    · rw [hcell (by decide), hs_ne (by decide), hs_ne (by decide), hs_ne (by decide), hs_ne (by decide)]; exact p16
    · rw [hcell (by decide), hs_ne (by decide), hs_ne (by decide), hs_ne (by decide), hs_ne (by decide)]; exact p17
theorem cutN {h : HV} {p : Int} (e : p = h 1222 2) : cutH h p = h := by
  unfold cutH
  rw [if_neg (by omega)]
theorem t_leave (hg : g.1.1 = g.2.1) (N : ENV K B Br) (IH : SIM g K B Br n) (R : RUNS K B Br (n + 1) T h hr ((q, x, E, k) :: l)) (w : lLEAVE K (VS K q) (CLS K) (MEM K (VS K q) (CLS K) n) (h 1157 4) (hr 6603 52) x E k) : R2 (LC g T h) (LRf g hr) (POST B Br) := by
  obtain ⟨a, b, d, ph, kx, ch, y, ex, ph01, wf, wn, wa⟩ := w
  subst d
  subst ex
  obtain ⟨CT, c18, c56, bb, hS, hfr, op, hK, n1, bud, t1, M, RK⟩ := R.ct N
  have O := N.1
  have cb : 0 ≤ h 1157 4 + 1 ∧ h 1157 4 + 3 ≤ 2990 := by have := bb.1.1; omega
  have M' := M.pc O (c := h 1157 4 + 1) (r := hr 6603 52 + 1)
  have eK : ∀ j, uK (hset hr 6603 52 (hr 6603 52 + 1)) j = uK hr j := fun j => by unfold uK; rw [hs_ne (by decide), hcell (by decide)]
  have eB : ∀ j, uB (hset hr 6603 52 (hr 6603 52 + 1)) j = uB hr j := fun j => by unfold uB; rw [hs_ne (by decide), hcell (by decide)]
  have e41 : hset hr 6603 52 (hr 6603 52 + 1) 6603 41 = hr 6603 41 := hcell (by decide)
  have p4 : hset h 1157 4 (h 1157 4 + 1) 1157 4 = h 1157 4 + 1 := hcel1
  have p52 : hset hr 6603 52 (hr 6603 52 + 1) 6603 52 = hr 6603 52 + 1 := hcel1
  have p16 : hset h 1157 4 (h 1157 4 + 1) 1157 16 = h 1157 16 := hcell (by decide)
  have p17 : hset h 1157 4 (h 1157 4 + 1) 1157 17 = h 1157 17 := hcell (by decide)
  have ai := M'.V.ar
  have F := M'.f O
  have V := M'.V
  obtain ⟨e8, t8, ⟨a0, p0, p2⟩, ⟨c1, c2, c3, c4⟩, TF, p5, gg, gn, b44, b41, bt⟩ := F.try_ O (show ph ≠ -1 by omega)
  have rk0 : kx + 12 - 4 * ph ≤ k := bb.2.2.2.2 _ List.mem_cons_self (show ph ≠ -1 by omega)
  obtain ⟨⟨chb, kx0, rky⟩, hd, al⟩ := TF
  have N1 := M'.1.env N
  obtain ⟨hT, hl, hK1⟩ := N1.cd
  have p8 : hset h 1157 4 (h 1157 4 + 1) 1157 8 = h 1157 8 := hcell (by decide)
  have chb' : chB K 7 (hset h 1157 4 (h 1157 4 + 1) 1568 (hset h 1157 4 (h 1157 4 + 1) 1157 8 - 1)) := by rw [c1]; exact chb
  have tt : ∀ P : Int → HV → Prop, LC g T h P = LC g (T + 1) (alH (hset h 1157 4 (h 1157 4 + 1)) (hset h 1157 4 (h 1157 4 + 1) 1157 8 - 1) 0 0 (endF K 7 ch)) P := fun P => by
    have t := tn_23 (d := g.1.1) (l1 := g.1.2.1) (l2 := g.1.2.2.1) (l3 := g.1.2.2.2.1) (l4 := g.1.2.2.2.2.1) (l5 := g.1.2.2.2.2.2.1) (l6 := g.1.2.2.2.2.2.2.1) (l7 := g.1.2.2.2.2.2.2.2) (Q := P) CT c18 (by rw [hK]; exact a)
    rw [s222 (d := g.1.1 + 4) hT hl hK1 t8 chb', c1] at t
    exact t
  have alf := (M.1.env N).al a0
  have za := ALF.sz O l M.2.2.2
  have nx := ntX_0 y
  have gx := ngX_0 (K := K) y
  have fr := M'.fr
  have s36 : hr 6603 36 = ftF l := by
    have u : hr 6603 36 = ftF l + 0 := M.2.1.2.2.2.1
    omega
  have s22 := M'.2.1.2.2.1
  have s22 : hset h 1157 4 (h 1157 4 + 1) 1222 2 = bsF K l + (K 7 q + 2 * lps ((K 2 (hr 6603 52), ph, kx, ch) :: y) + 0) := s22
  rw [lps_c, if_neg (show ¬ ph = -1 by omega)] at s22
  -- the class's heap behind LEAVE
  have ez := alH_2 (h := hset h 1157 4 (h 1157 4 + 1)) (t := hset h 1157 4 (h 1157 4 + 1) 1157 8 - 1) (w := 0) (b := 0) (pc := endF K 7 ch) (p := hset h 1157 4 (h 1157 4 + 1) 1222 2) (j := hset h 1157 4 (h 1157 4 + 1) 1157 5) V (by have := V.2.2.2.1.1; omega)
  rw [hset_id, cutN rfl] at ez
  generalize alH (hset h 1157 4 (h 1157 4 + 1)) (hset h 1157 4 (h 1157 4 + 1) 1157 8 - 1) 0 0 (endF K 7 ch) = h2 at *
  obtain ⟨C, x1, x2, x3, x4, x5, x6, x7, x8, x9, x10⟩ := ez
  have e1 : hset h 1157 4 (h 1157 4 + 1) 1157 8 - 1 = ntF l + ntX y := by omega
  have hb44 : 0 ≤ hr 6603 44 ∧ hr 6603 44 ≤ 200 := by
    have u := M.fr.2.2.2.2.2.2.2.1
    have gx' := ngX_0 (K := K) ((K 2 (hr 6603 52), ph, kx, ch) :: y)
    have nx' := ntX_0 ((K 2 (hr 6603 52), ph, kx, ch) :: y)
    have lx := bb.2.2.2.1
    omega
  by_cases kA : K 5 (K 2 (hr 6603 52)) = -9
  · -- there is no always
    obtain ⟨fin24, w⟩ := wn kA
    have kb : 1 ≤ n - 1 := by have := phF_0 _ M.2.2.2; rw [phF_c] at bud; have s8 := M.2.1.2.2.2.2.2.2.2.1; have bud : 400 * (h 1157 16 - h 1157 17) + (phF l + k) ≤ n := bud; rcases ph01 with u | u <;> omega
    have w' := MEM.le (n := n - 1) (by omega) w
    have kb' := mem_b kb w'
    have s10 := M.2.1.2.2.2.2.2.2.2.2.2
    have S2 : STA B Br h2 hr := (M'.1.cg C (rg_set (.inr ⟨rfl, by decide⟩) : RCG (hset hr 6603 52 (hr 6603 52 + 1)) (hset (hset hr 6603 52 (hr 6603 52 + 1)) 6603 52 (hr 6603 52)))) |> fun u => by rw [hset_2, hset_id] at u; exact u
    have N2 := S2.env N
    obtain ⟨hT2, hl2, hK2⟩ := N2.cd
    have V2 := C.V V
    have ck : cdT h2 (h2 1157 4) = 24 := by rw [hK2, x2]; exact fin24
    have pcr := cd_pos hl2 (by rw [ck]; decide)
    have CT2 : CTN h2 (T + 1) := ⟨⟨t1.1, by omega⟩, by rw [x3 19 (by decide) (by decide), hcell (by decide)]; exact s10.2.2.1, hT2, hl2, pcr.1, by omega⟩
    have f18 : h2 1157 18 = 0 := by rw [x3 18 (by decide) (by decide), hcell (by decide)]; exact s10.2.2.2
    have h28 : h2 1157 8 = hset h 1157 4 (h 1157 4 + 1) 1157 8 := x3 8 (by decide) (by decide)
    generalize e3 : hset (hset (hset h2 1157 4 (h2 1157 4 + 1)) 1157 8 (h2 1157 8 - 1)) 1157 18 0 = h3
    have k3 : ∀ s, s ≠ 4 → s ≠ 8 → h3 1157 s = h2 1157 s := fun s u v => by
      rw [← e3]
      by_cases w18 : s = 18
      · subst w18; rw [hcel1]; exact f18.symm
      · rw [hcell w18, hcell v, hcell u]
    have k38 : h3 1157 8 = h2 1157 8 - 1 := by rw [← e3, hcell (by decide), hcel1]
    have k3o : ∀ o, o ≠ 1157 → h3 o = h2 o := fun o u => by rw [← e3, hs_ne u, hs_ne u, hs_ne u]
    have C3a : CCG h2 (hset h2 1157 4 (h2 1157 4 + 1)) := cg_set V2 (by decide) (by decide) (fun _ => by decide)
    have C3b : CCG h2 (hset (hset h2 1157 4 (h2 1157 4 + 1)) 1157 8 (h2 1157 8 - 1)) := C3a.tr (cg_set (C3a.V V2) (by decide) (by decide) (fun _ => by decide))
    have C3 : CCG h2 h3 := by rw [← e3]; exact C3b.tr (cg_set (C3b.V V2) (by decide) (by decide) (fun _ => by decide))
    have pr : h3 1157 4 = h2 1157 4 + 1 := by rw [← e3, hcell (by decide), hcell (by decide), hcel1]
    have t2 : ∀ P : Int → HV → Prop, LC g (T + 1) h2 P = LC g (T + 2) h3 P := fun P => by
      have t := tn_24 (d := g.1.1) (l1 := g.1.2.1) (l2 := g.1.2.2.1) (l3 := g.1.2.2.2.1) (l4 := g.1.2.2.2.2.1) (l5 := g.1.2.2.2.2.2.1) (l6 := g.1.2.2.2.2.2.2.1) (l7 := g.1.2.2.2.2.2.2.2) (Q := P) CT2 f18 ck
      have e8' : hset h2 1157 4 (h2 1157 4 + 1) 1157 8 = h2 1157 8 := hcell (by decide)
      have e24 : hset h2 1157 4 (h2 1157 4 + 1) 1824 = h2 1824 := hs_ne (by decide)
      rw [s223f (d := g.1.1 + 5) (by rw [e8', h28]; exact t8) (by rw [e8', e24, h28, x9]; decide), e8', e24, show h2 1824 (h2 1157 8 - 1) = 0 by rw [h28, x9], e3, show T + 1 + 1 = T + 2 by omega] at t
      exact t
    have cc3 : ∀ p, cK h3 p = cK (hset h 1157 4 (h 1157 4 + 1)) p ∧ cB h3 p = cB (hset h 1157 4 (h 1157 4 + 1)) p := fun p => by
      have u2 : cK h3 p = cK h2 p ∧ cB h3 p = cB h2 p := by
        have a2 := V2.ar
        unfold cK cB
        rw [k3o 1222 (by decide), k3o _ (by omega), k3o _ (by omega)]
        exact ⟨rfl, rfl⟩
      have u3 := x5 p
      exact ⟨u2.1.trans u3.1, u2.2.trans u3.2⟩
    have fin : ∀ hr2, RCG (hset hr 6603 52 (hr 6603 52 + 1)) hr2 → hr2 6603 44 = ngF K l + ngX K y → hr2 6603 52 = K 3 (hr 6603 52) → (∀ s, s ≠ 44 → s ≠ 52 → hr2 6603 s = hset hr 6603 52 (hr 6603 52 + 1) 6603 s) → (∀ o, 10464 ≤ o → o ≤ 11487 → hr2 o = hset hr 6603 52 (hr 6603 52 + 1) o) → R2 (LC g (T + 2) h3) (LRf g hr2) (POST B Br) := fun hr2 R2' r44 r52 rs ro => by
      have MV := M'.dropV (h2 := h3) (hr2 := hr2) O (show ph ≠ -1 by omega) kb'.2.1 (C.tr C3) R2' (fun s u v => by
        rw [k3 s u v]
        by_cases w5 : s = 5
        · subst w5; rw [x1]
        · exact x3 s u w5) (by rw [k38, h28]; exact e1) (by rw [k3o 1222 (by decide), x4]) cc3 (fun o u v z => by rw [k3o o (by omega)]; exact x6 o u v z) (fun i u => by
        rw [k3o 1632 (by decide), k3o 1824 (by decide), k3o 1889 (by decide)]
        exact x7 i (by omega)) r44 rs ro
      refine nxt (T := T + 2) N IH (by omega) (MV.le (n2 := n - 1) O (by omega)) RK w' (by rw [pr, x2]) r52 ?_ (by omega) (by omega)
      rw [k3 16 (by decide) (by decide), k3 17 (by decide) (by decide), x3 16 (by decide) (by decide), x3 17 (by decide) (by decide), p16, p17, phF_c]
      rw [phF_c] at bud
      have bud : 400 * (h 1157 16 - h 1157 17) + (phF l + k) ≤ n := bud
      show 400 * (h 1157 16 - h 1157 17) + (phF l + kx) + 1 ≤ ((n - 1 : Nat) : Int)
      rcases ph01 with u | u <;> omega
    by_cases p1 : ph = 1
    · have g44 := gn ⟨p1, kA⟩
      rw [hcell (by decide)] at g44
      have gnn : hr 6603 44 = 0 ∨ ¬ (hr 11040 (hr 6603 44 - 1) = hr 6603 41 - 1 ∧ hr 10976 (hr 6603 44 - 1) = K 2 (hr 6603 52)) := by
        by_cases u0 : hr 6603 44 = 0
        · exact .inl u0
        · refine .inr (fun u => ?_)
          by_cases qq : 1 ≤ ngX K y
          · obtain ⟨e, m, u1, u2⟩ := gx_a y M.2.2.1.2.2.2.2.2.2.2.2.1.1 qq
            rw [← g44] at u2
            exact wf e m u1 (u2.symm.trans u.2)
          · have z := (gfr_j O l M.2.2.2).1 (by omega)
            rw [show ngF K l - 1 = hr 6603 44 - 1 by omega, u.1] at z
            have := M.fr.2.1
            omega
      refine R2_eq (fun P => (tt P).trans (t2 P)) (fun P => (LRf_go c56).trans (go_24n (d := g.2.1 + 1) hS bb.1.2 hfr op.2.1 (op.1.trans b) hb44 a0 op.2.2 (by rw [alf]; exact kA) gnn)) (fin _ ?_ ?_ hcel1 ?_ ?_)
      · exact (rg_set (.inr ⟨rfl, by decide⟩)).tr (rg_set (.inr ⟨rfl, by decide⟩))
      · rw [hcell (by decide), hcel1]; exact g44
      · intro s u v; rw [hcell v, hcell u]
      · intro o u v; rw [hs_ne (by omega), hs_ne (by omega)]
    · obtain ⟨g1, ⟨g2, g3, g4, g5⟩, -⟩ := gg (fun v => p1 v.1)
      rw [hcell (show (44 : Int) ≠ 52 by decide)] at g1 g2 g3
      rw [hs_ne (show (10976 : Int) ≠ 6603 by decide)] at g2
      rw [hs_ne (show (11040 : Int) ≠ 6603 by decide), hcell (show (41 : Int) ≠ 52 by decide)] at g3
      refine R2_eq (fun P => (tt P).trans (t2 P)) (fun P => (LRf_go c56).trans (go_24p (d := g.2.1 + 1) hS bb.1.2 hfr op.2.1 (op.1.trans b) (by omega) a0 op.2.2 (by rw [alf]; exact kA) g3 g2)) (fin _ ?_ ?_ hcel1 ?_ ?_)
      · exact (rg_set (.inr ⟨rfl, by decide⟩)).tr (rg_set (.inr ⟨rfl, by decide⟩))
      · rw [hcell (by decide), hcel1]; omega
      · intro s u v; rw [hcell v, hcell u]
      · intro o u v; rw [hs_ne (by omega), hs_ne (by omega)]
  · -- always is done
    have w := wa kA
    have kb := mem_b n1 w
    obtain ⟨g1, ⟨g2, g3, g4, g5⟩, -⟩ := gg (fun v => kA v.2)
    have r36 : hset hr 6603 52 (hr 6603 52 + 1) 6603 36 = ftF l := by rw [hcell (by decide)]; exact s36
    rw [hcell (show (44 : Int) ≠ 52 by decide)] at g1
    have MV := F.rph (h2 := h2) (hr2 := hset (hset (hset (hset hr 6603 52 (hr 6603 52 + 1)) 11168 (hr 6603 44 - 1) 2) 11232 (hr 6603 44 - 1) 0) 6603 52 (hr (hr 6603 9 + 1300) (K 2 (hr 6603 52)))) (ph2 := 2) (k2 := kx + 4) O ph01 (fun v => kA v.2) (.inr ⟨rfl, kA⟩) kb.2.1 C (((rg_set (.inl (by decide))).tr (rg_set (.inl (by decide)))).tr (rg_set (.inr ⟨rfl, by decide⟩))) (by rw [x1]; exact fr.1) x3 (by rw [x4]; omega) x5 x6 (fun i w => x7 i (by omega)) (by rw [← e1]; exact x8) (by rw [hcell (by decide), hs_ne (by decide), hs_ne (by decide)]; exact r36) (by
        rw [hcell (by decide), hs_ne (by decide), hs_ne (by decide), hcell (by decide), ngX_c, if_neg (by show ¬ ((2 : Int) = -1 ∨ (2 : Int) = 1 ∧ K 5 (K 2 (hr 6603 52)) = -9); omega)]
        omega) (fun s _ _ v => by rw [hcell v, hs_ne (by decide), hs_ne (by decide)]) (fun o u v => by rw [hs_ne (by omega), hs_ne (by omega), hs_ne (by omega)]) (fun i u => ⟨by rw [hs_ne (by decide), hs_ne (by decide), hcell (by omega)], by rw [hs_ne (by decide), hcell (by omega), hs_ne (by decide)], by rw [hs_ne (by decide), hs_ne (by decide), hs_ne (by decide)], by rw [hs_ne (by decide), hs_ne (by decide), hs_ne (by decide)]⟩) (by rw [hs_ne (by decide), hs_ne (by decide), show ngF K l + ngX K y = hr 6603 44 - 1 by omega, hcel1]) (fun _ => .inl ⟨by rw [← e1, x9]; decide, by rw [← e1, x9, hs_ne (by decide), show ngF K l + ngX K y = hr 6603 44 - 1 by omega, hcel1]⟩)
    refine R2_eq tt (fun P => (LRf_go c56).trans (go_24a (d := g.2.1 + 1) hS bb.1.2 hfr op.2.1 (op.1.trans b) (by omega) a0 (by rw [alf]; exact kA))) (nxt (T := T + 1) N IH (Nat.le_refl n) MV RK w x2 (by rw [hcel1]; exact alf) ?_ t1.1 t1.2)
    rw [x3 16 (by decide) (by decide), x3 17 (by decide) (by decide), p16, p17, phF_c]
    rw [phF_c] at bud
    have bud : 400 * (h 1157 16 - h 1157 17) + (phF l + k) ≤ n := bud
    show 400 * (h 1157 16 - h 1157 17) + (phF l + (kx + 4)) + 1 ≤ n
    rcases ph01 with u | u <;> omega
end VM
