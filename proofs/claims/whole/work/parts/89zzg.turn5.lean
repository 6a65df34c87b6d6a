/-! THE PURE SIDE, 129: the two machines alike: finish, call, all turns: printed by wip/tools/gen89zzg.py -/
section VM
variable {K B Br h hr h1 h2 hr1 hr2 : HV} {n n2 n0 : Nat} {q E k k2 T c r c2 r2 q2 E2 : Int} {x y x2 : CX} {l L L2 l2 : List FRT} {g : CFG} {A Bq : (Int → HV → Prop) → Prop}
theorem t_finish (hg : g.1.1 = g.2.1) (N : ENV K B Br) (IH : SIM g K B Br n) (R : RUNS K B Br (n + 1) T h hr ((q, x, E, k) :: l)) (w : lFINISH K (VS K q) (CLS K) (MEM K (VS K q) (CLS K) n) (h 1157 4) (hr 6603 52) x E k) : R2 (LC g T h) (LRf g hr) (POST B Br) := by
  obtain ⟨a, b, d, kx, ch, y, ex, w⟩ := w
  subst d
  subst ex
  obtain ⟨CT, c18, c56, bb, hS, hfr, op, hK, n1, bud, t1, M, RK⟩ := R.ct N
  have O := N.1
  have cb : 0 ≤ h 1157 4 + 1 ∧ h 1157 4 + 3 ≤ 2990 := by have := bb.1.1; omega
  have M' := M.pc O (c := h 1157 4 + 1) (r := hr 6603 52 + 1)
  have eK : ∀ j, uK (hset hr 6603 52 (hr 6603 52 + 1)) j = uK hr j := fun j => by unfold uK; rw [hs_ne (by decide), hcell (by decide)]
  have eB : ∀ j, uB (hset hr 6603 52 (hr 6603 52 + 1)) j = uB hr j := fun j => by unfold uB; rw [hs_ne (by decide), hcell (by decide)]
  have e41 : hset hr 6603 52 (hr 6603 52 + 1) 6603 41 = hr 6603 41 := hcell (by decide)
  have p4 : hset h 1157 4 (h 1157 4 + 1) 1157 4 = h 1157 4 + 1 := hcel1
  have p52 : hset hr 6603 52 (hr 6603 52 + 1) 6603 52 = hr 6603 52 + 1 := hcel1
  have p16 : hset h 1157 4 (h 1157 4 + 1) 1157 16 = h 1157 16 := hcell (by decide)
  have p17 : hset h 1157 4 (h 1157 4 + 1) 1157 17 = h 1157 17 := hcell (by decide)
  have ai := M'.V.ar
  have kb := mem_b n1 w
  have F := M'.f O
  have V := M'.V
  obtain ⟨e8, t8, ⟨a0, p0, p2⟩, ⟨c1, c2, c3, c4⟩, TF, p5, gg, gn, b44, b41, bt⟩ := F.try_ O (show (2 : Int) ≠ -1 by decide)
  have rk0 : kx + 12 - 4 * 2 ≤ k := bb.2.2.2.2 _ List.mem_cons_self (show (2 : Int) ≠ -1 by decide)
  obtain ⟨g1, ⟨g2, g3, g4, g5⟩, pn⟩ := gg (fun v => absurd v.1 (by decide))
  have pd := pn rfl
  have p8 : hset h 1157 4 (h 1157 4 + 1) 1157 8 = h 1157 8 := hcell (by decide)
  have p44 : hset hr 6603 52 (hr 6603 52 + 1) 6603 44 = hr 6603 44 := hcell (by decide)
  have e24 : hset h 1157 4 (h 1157 4 + 1) 1824 = h 1824 := hs_ne (by decide)
  have e89 : hset h 1157 4 (h 1157 4 + 1) 1889 = h 1889 := hs_ne (by decide)
  have r32 : hset hr 6603 52 (hr 6603 52 + 1) 11232 = hr 11232 := hs_ne (by decide)
  have r96 : hset hr 6603 52 (hr 6603 52 + 1) 11296 = hr 11296 := hs_ne (by decide)
  have r61 : hset hr 6603 52 (hr 6603 52 + 1) 11361 = hr 11361 := hs_ne (by decide)
  rw [p8] at e8 t8 pd
  rw [p44] at g1 b44 pd
  have hb44 : 1 ≤ hr 6603 44 ∧ hr 6603 44 ≤ 200 := by have := ngX_0 (K := K) y; have := ALF.sz O l M.2.2.2; omega
  generalize eh2 : hset (hset h 1157 4 (h 1157 4 + 1)) 1157 8 (h 1157 8 - 1) = h2
  generalize er2 : hset (hset hr 6603 52 (hr 6603 52 + 1)) 6603 44 (hr 6603 44 - 1) = hr2
  have C : CCG (hset h 1157 4 (h 1157 4 + 1)) h2 := by rw [← eh2]; exact cg_set V (by decide) (by decide) (fun _ => by decide)
  have RR : RCG (hset hr 6603 52 (hr 6603 52 + 1)) hr2 := by rw [← er2]; exact rg_set (.inr ⟨rfl, by decide⟩)
  have k2s : ∀ s, s ≠ 8 → h2 1157 s = hset h 1157 4 (h 1157 4 + 1) 1157 s := fun s u => by rw [← eh2, hcell u]
  have k2o : ∀ o, o ≠ 1157 → h2 o = hset h 1157 4 (h 1157 4 + 1) o := fun o u => by rw [← eh2, hs_ne u]
  have MV := M'.dropV (h2 := h2) (hr2 := hr2) O (show (2 : Int) ≠ -1 by decide) kb.2.1 C RR (fun s _ v => k2s s v) (by rw [← eh2, hcel1]; omega) (by rw [k2o 1222 (by decide)]) (by rw [← eh2]; exact cK_set V (by decide) (by decide)) (fun o u v _ => k2o o (by omega)) (fun i _ => by rw [k2o 1632 (by decide), k2o 1824 (by decide), k2o 1889 (by decide)]; exact ⟨rfl, rfl, rfl⟩) (by rw [← er2, hcel1]; omega) (fun s u _ => by rw [← er2, hcell u]) (fun o u v => by rw [← er2, hs_ne (by omega)])
  have RK2 : ∀ f ∈ ((q, y, 0, kx) :: l : List FRT), RKx f.2.2.2 f.2.1 := fun f m => by
    rcases List.mem_cons.mp m with u | u
    · subst u; exact kb.2.2.2.2
    · exact RK f u
  have s10 := M.2.1.2.2.2.2.2.2.2.2.2
  have f18 : h2 1157 18 = 0 := by rw [k2s 18 (by decide), hcell (by decide)]; exact s10.2.2.2
  have tt : ∀ P : Int → HV → Prop, LC g T h P = Sp fz1 (g.1.1 + 6) 223 [(3, 1157)] (hset h 1157 4 (h 1157 4 + 1)) (fun _ h1 => LC g (T + 1) h1 P) := fun P => tn_24 (d := g.1.1) (l1 := g.1.2.1) (l2 := g.1.2.2.1) (l3 := g.1.2.2.2.1) (l4 := g.1.2.2.2.2.1) (l5 := g.1.2.2.2.2.2.1) (l6 := g.1.2.2.2.2.2.2.1) (l7 := g.1.2.2.2.2.2.2.2) (Q := P) CT c18 (by rw [hK]; exact a)
  have bud2 : 400 * (h2 1157 16 - h2 1157 17) + phF ((q, y, 0, kx) :: l) + 1 ≤ n := by
    rw [k2s 16 (by decide), k2s 17 (by decide), p16, p17, phF_c]
    rw [phF_c] at bud
    have bud : 400 * (h 1157 16 - h 1157 17) + (phF l + k) ≤ n := bud
    show 400 * (h 1157 16 - h 1157 17) + (phF l + kx) + 1 ≤ n
    omega
  have nn := phF_0 _ MV.2.2
  rw [List.length_cons] at nn
  have s8 := MV.2.1.2.2.2.2.2.2.2.1
  rcases pd with ⟨⟨w0, w7⟩, ew⟩ | ⟨⟨w8, w15⟩, em, v⟩
  · rw [e24] at w0 w7 ew
    rw [r32] at ew
    have t3 : ∀ P : Int → HV → Prop, LC g T h P = LC g (T + 1) (hset h2 1157 18 (h 1824 (h 1157 8 - 1))) P := fun P => by
      rw [tt P, s223f (d := g.1.1 + 5) (by rw [p8]; exact t8) (by rw [p8, e24]; omega), p8, e24, eh2]
    by_cases z : h 1824 (h 1157 8 - 1) = 0
    · rw [z] at t3 ew
      rw [hset_as f18] at t3
      refine R2_eq t3 (fun P => ((LRf_go c56).trans (go_25z (d := g.2.1 + 1) hS bb.1.2 hfr rfl (op.1.trans b) hb44 ew)).trans (by rw [er2])) (nxt (T := T + 1) (c2 := h 1157 4 + 1) (r2 := hr 6603 52 + 1) N IH (Nat.le_refl n) MV RK w (by rw [k2s 4 (by decide)]; exact p4) (by rw [← er2, hcell (by decide)]; exact p52) bud2 t1.1 t1.2)
    · have f1 : 1 ≤ h 1824 (h 1157 8 - 1) ∧ h 1824 (h 1157 8 - 1) ≤ 7 := by omega
      generalize h 1824 (h 1157 8 - 1) = f at *
      have N2 := MV.1.env N
      obtain ⟨hT, hl, -⟩ := N2.cd
      have CT2 : CTN (hset h2 1157 18 f) (T + 1) := by
        refine ⟨⟨t1.1, by omega⟩, by rw [hcell (by decide), k2s 19 (by decide), hcell (by decide)]; exact s10.2.2.1, by rw [hcell (by decide)]; exact hT, by rw [hcell (by decide), hs_ne (by rcases hT with u | u <;> omega)]; exact hl, by rw [hcell (by decide), k2s 4 (by decide), p4]; omega⟩
      have z2 := failM N IH l y q 0 kx (n - 1) (T + 2) f h2 hr2 (g.2.1 + 5) (9, 0) (9, 0) (9, 0) (9, 0) (9, 0) (by omega) ((MV.f O).le O (by omega)) RK2 (by omega) (by omega) (by omega) f1
      refine R2_eq (fun P => (t3 P).trans ?_) (fun P => ((LRf_go c56).trans (go_25f (d := g.2.1 + 1) hS bb.1.2 hfr rfl (op.1.trans b) hb44 (by rw [ew]; omega))).trans ?_) z2
      · have t := tn_f (d := g.1.1) (l1 := g.1.2.1) (l2 := g.1.2.2.1) (l3 := g.1.2.2.2.1) (l4 := g.1.2.2.2.2.1) (l5 := g.1.2.2.2.2.2.1) (l6 := g.1.2.2.2.2.2.2.1) (l7 := g.1.2.2.2.2.2.2.2) (Q := P) CT2 (by rw [hcel1]; omega)
        refine Eq.trans (show LC g (T + 1) _ P = _ from t) ?_
        rw [ps_start, hcel1, hset_2, hset_as f18, show T + 1 + 1 = T + 2 by omega]
        rfl
      · rw [er2, ew, uw_in, uw_01 (l6 := (9, 0)) MV.2.1.2.2.2.2.2.2.2.2.2.1.1 (by have := MV.fr; omega)]
  · rw [e24] at w8 w15 v
    rw [r32] at em
    rw [e89, r96, r61, ← VVh.cg V C RR] at v
    have z2 := give_t (T := T + 1) (d1 := g.1.1 + 3) (d2 := g.2.1 + 5) N IH (Nat.le_refl n) (MV.f O) MV.fr.1 v RK2 (by omega) t1.1 t1.2
    refine R2_eq (fun P => (tt P).trans ((s223e (d := g.1.1 + 5) (by rw [p8]; exact t8) (by rw [p8, e24]; omega)).trans ?_)) (fun P => ((LRf_go c56).trans (go_25g (d := g.2.1 + 1) hS bb.1.2 hfr rfl (op.1.trans b) hb44 (by rw [em]; decide))).trans ?_) z2
    · rw [p8, e24, e89, eh2]
    · rw [er2]
theorem t_call (hg : g.1.1 = g.2.1) (N : ENV K B Br) (IH : SIM g K B Br n) (R : RUNS K B Br (n + 1) T h hr ((q, x, E, k) :: l)) (w : lCALL K (VS K q) (CLS K) (MEM K (VS K q) (CLS K) n) (h 1157 4) (hr 6603 52) x E k) : R2 (LC g T h) (LRf g hr) (POST B Br) := by
  obtain ⟨a, b, ⟨cl1, cl2, cl3⟩, d, w⟩ := w
  obtain ⟨CT, c18, c56, bb, hS, hfr, op, hK, n1, bud, t1, M, RK⟩ := R.ct N
  have O := N.1
  have cb : 0 ≤ h 1157 4 + 1 ∧ h 1157 4 + 3 ≤ 2990 := by have := bb.1.1; omega
  have kb := mem_b n1 w
  have N' := M.1.env N
  obtain ⟨hT, hl, -⟩ := N'.cd
  have nT : h 1157 3 ≠ 1157 := by rcases hT with u | u <;> omega
  have q3 : hset h 1157 4 (h 1157 4 + 1) 1157 3 = h 1157 3 := hcell (by decide)
  have q4 : hset h 1157 4 (h 1157 4 + 1) 1157 4 = h 1157 4 + 1 := hcel1
  have q5 : ∀ s, s ≠ 4 → hset h 1157 4 (h 1157 4 + 1) 1157 s = h 1157 s := fun s u => hcell u
  have hw1 : TC (hset h 1157 4 (h 1157 4 + 1) 1157 3) := by rw [q3]; exact hT
  have hw2 : hset h 1157 4 (h 1157 4 + 1) (hset h 1157 4 (h 1157 4 + 1) 1157 3) 17 ≤ 2400 := by rw [q3, hs_ne nT]; exact hl
  have hw3 : 0 ≤ hset h 1157 4 (h 1157 4 + 1) 1157 4 ∧ hset h 1157 4 (h 1157 4 + 1) 1157 4 ≤ 2999 := by rw [q4]; omega
  have ec : ∀ i, cdT (hset h 1157 4 (h 1157 4 + 1)) i = K 0 i := fun i => by rw [cdT_p hT (by decide), hK]
  have M2 := M.pc O (c := h 1157 4 + 3) (r := hr 6603 52 + 1)
  have s8 := M.2.1.2.2.2.2.2.2.2.1
  have fr := M.fr
  have hs := M.hs O
  have q12 : 0 ≤ K 0 (h 1157 4 + 1) ∧ K 0 (h 1157 4 + 1) < 12 := by have := O.1; omega
  have kq := O.2 (K 0 (h 1157 4 + 1)) cl2.1 cl2.2
  have r9 : hset hr 6603 52 (hr 6603 52 + 1) 6603 9 = hr 6603 9 := hcell (by decide)
  have r53 : hset hr 6603 52 (hr 6603 52 + 1) 6603 53 = hr 6603 53 := hcell (by decide)
  have r54 : hset hr 6603 52 (hr 6603 52 + 1) 6603 54 = hr 6603 54 := hcell (by decide)
  have r41 : hset hr 6603 52 (hr 6603 52 + 1) 6603 41 = hr 6603 41 := hcell (by decide)
  have hS1 : TR (hset hr 6603 52 (hr 6603 52 + 1) 6603 9) := by rw [r9]; exact hS
  have tt : ∀ P : Int → HV → Prop, LC g T h P = Sp fz1 (g.1.1 + 6) 213 [(3, 1157)] (hset h 1157 4 (h 1157 4 + 1)) (fun _ h1 => LC g (T + 1) h1 P) := fun P => tn_13 (d := g.1.1) (l1 := g.1.2.1) (l2 := g.1.2.2.1) (l3 := g.1.2.2.2.1) (l4 := g.1.2.2.2.2.1) (l5 := g.1.2.2.2.2.2.1) (l6 := g.1.2.2.2.2.2.2.1) (l7 := g.1.2.2.2.2.2.2.2) (Q := P) CT c18 (by rw [hK]; exact a)
  have go : ∀ P : Int → HV → Prop, LRf g hr P = Sp fz1 (g.2.1 + 5) 402 [(3, 6603), (0, K 0 (h 1157 4 + 1))] (hset hr 6603 52 (hr 6603 52 + 1)) (fun _ h1 => LRf g h1 P |> fun z => z) := fun P => (LRf_go c56).trans (go_7 (d := g.2.1 + 1) (Q := fun _ h1 => LRf g h1 P) hS bb.1.2 hfr (op.2.1.trans cl1) (op.1.trans b))
  by_cases s : h 1157 16 ≤ h 1157 17
  · refine R2_eq (fun P => (tt P).trans (s213s (d := g.1.1 + 2) hw1 hw2 hw3 (by rw [q5 17 (by decide)]; omega) (by rw [q5 17 (by decide), q5 16 (by decide)]; exact s))) (fun P => (go P).trans (v402s (d := g.2.1 + 1) hS1 q12 (by rw [r53, r54]; omega))) ?_
    rw [q4, hset_2, show h 1157 4 + 1 + 2 = h 1157 4 + 3 by omega]
    exact stop_t (T := T + 1) M2 (by decide)
  · have M3 := M2.step O (by rw [hcell (by decide), hcell (by decide)]; omega)
    rw [hcell (show (17 : Int) ≠ 4 by decide)] at M3
    by_cases dd : h 1157 5 = 7
    · refine R2_eq (fun P => (tt P).trans (s213d (d := g.1.1 + 2) hw1 hw2 hw3 (by rw [q5 17 (by decide)]; omega) (by rw [q5 17 (by decide), q5 16 (by decide)]; omega) (by rw [q5 5 (by decide)]; exact dd))) (fun P => (go P).trans (v402d (d := g.2.1 + 1) hS1 q12 (by rw [r53, r54]; omega) (by rw [r41]; omega))) ?_
      rw [q4, hset_2, show h 1157 4 + 1 + 2 = h 1157 4 + 3 by omega, q5 17 (by decide)]
      exact stop_t (T := T + 1) M3 (by decide)
    · have N3 := M3.1.env N
      have V3 := M3.V
      obtain ⟨hT3, -, -⟩ := N3.cd
      have hs3 := M3.hs O
      have RV := M3.1.2.2.2.2.2.2.1
      have cc := N3.2.2.2.1.2 _ cl2.1 cl2.2
      have cr := N3.2.2.2.2.2.2.2.2.1.2 _ cl2.1 cl2.2
      have c6 := N3.2.2.2.1.1
      generalize eH : hset (hset h 1157 4 (h 1157 4 + 3)) 1157 17 (h 1157 17 + 1) = H at *
      generalize eR : hset (hset hr 6603 52 (hr 6603 52 + 1)) 6603 53 (hset hr 6603 52 (hr 6603 52 + 1) 6603 53 + 1) = HR at *
      have H5 : H 1157 5 = h 1157 5 := by rw [← eH, hcell (by decide), hcell (by decide)]
      have H4 : H 1157 4 = h 1157 4 + 3 := by rw [← eH, hcell (by decide), hcel1]
      have R52 : HR 6603 52 = hr 6603 52 + 1 := by rw [← eR, hcell (by decide), hcel1]
      unfold RVl at RV
      rw [mx_c (show ¬ (6603 ≤ (1222 : Int) ∧ (1222 : Int) < 13056) by decide), mx_c (show ¬ (6603 ≤ H 1222 0 ∧ H 1222 0 < 13056) by have := V3.ar; omega)] at RV
      obtain ⟨h1, EN, e1⟩ := Sp_ex (d := g.1.1 + 5) (m := 169) (as := [(3, 1157), (0, K 0 (h 1157 4 + 1)), (0, K 0 (h 1157 4 + 2))]) (h := H) (P := fun h1 => ENT H h1 (H (H 1157 3 + 1238) (K 0 (h 1157 4 + 1))) (H (H 1157 3 + 1366) (K 0 (h 1157 4 + 1)) - K 0 (h 1157 4 + 2)) (K 0 (h 1157 4 + 2))) (s169 (d := g.1.1 + 3) V3 hT3 (by rw [c6]; omega) (by rw [H5]; omega) (by omega) (by rw [cc.2.2]; omega) (by omega) RV.2.2.2.2.1.1 (fun h1 EN => ⟨rfl, EN⟩))
      rw [cc.1, cc.2.2] at EN
      obtain ⟨k2, mk⟩ := kq.2.2.2.2 n
      have kb2 := mem_b n1 mk
      have M4 := M3.call (k2 := k2) (kr := k - 1) N3 cl2 ⟨cl3, d.2⟩ (by rw [H5]; omega) EN kb.2.1 kb2.2.1 (by rw [H4, R52]; exact w)
      refine R2_mono (a' := LC g (T + 1) h1) (b' := LRf g (cldH HR (K 0 (h 1157 4 + 2)) (K 7 (K 0 (h 1157 4 + 1))) (K 10 (K 0 (h 1157 4 + 1))))) (fun P z => ?_) (fun P z => ?_) (nxt (T := T + 1) N IH (Nat.le_refl n) M4.1 (fun f m => ?_) mk M4.2.1 M4.2.2.1 ?_ t1.1 t1.2)
      · rw [tt P]
        refine s213a (d := g.1.1 + 2) hw1 hw2 hw3 (by rw [q5 17 (by decide)]; omega) (by rw [q5 17 (by decide), q5 16 (by decide)]; omega) (by rw [q5 5 (by decide)]; omega) ?_
        rw [q4, ec, ec, hset_2, q5 17 (by decide), show h 1157 4 + 1 + 2 = h 1157 4 + 3 by omega, show h 1157 4 + 1 + 1 = h 1157 4 + 2 by omega, eH]
        exact (e1 _).mpr z
      · rw [go P]
        have R9 : HR 6603 9 = hr 6603 9 := by rw [← eR, hcell (by decide), hcell (by decide)]
        have nS : hr 6603 9 + 788 ≠ 6603 ∧ hr 6603 9 + 852 ≠ 6603 ∧ hr 6603 9 + 916 ≠ 6603 := by rcases hS with u | u <;> omega
        have Ro : ∀ o, o ≠ 6603 → HR o = hset hr 6603 52 (hr 6603 52 + 1) o := fun o u => by rw [← eR, hs_ne u]
        rw [R9] at cr
        refine v402a (d := g.2.1 + 1) hS1 q12 (by rw [r53, r54]; omega) (by rw [r41]; omega) (nm := K 0 (h 1157 4 + 2)) (sl := K 7 (K 0 (h 1157 4 + 1))) (by rw [r9, ← Ro _ nS.1, cr.1, cl3]) (by rw [r9, ← Ro _ nS.2.1, cr.2.1]) (by rw [hcell (by decide)]; omega) (by rw [hcell (by decide)]; have := hs.2.2.2.2.2.2.2; unfold TPO at this; omega) ?_
        rw [r9, ← Ro _ nS.2.2, cr.2.2, eR]
        exact z
      · rcases List.mem_cons.mp m with u | u
        · subst u; exact kb.2.2.2.2
        · exact RK f u
      · rw [M4.2.2.2.1, M4.2.2.2.2, ← eH, hcell (by decide), hcell (by decide), hcel1, phF_c, phF_c]
        rw [phF_c] at bud
        have bud : 400 * (h 1157 16 - h 1157 17) + (phF l + k) ≤ n := bud
        show 400 * (h 1157 16 - (h 1157 17 + 1)) + (phF l + (k - 1) + k2) + 1 ≤ n
        have := kb2.2.1
        omega
/-- any turn -/
theorem turn (hg : g.1.1 = g.2.1) (N : ENV K B Br) (IH : SIM g K B Br n) (R : RUNS K B Br (n + 1) T h hr L) : R2 (LC g T h) (LRf g hr) (POST B Br) := by
  match L, R with
  | [], R => exact absurd R.1.2.1.1.1 (by decide)
  | (q, x, E, k) :: l, R =>
    have w : Loc K (VS K q) (CLS K) (MEM K (VS K q) (CLS K) n) (h 1157 4) (hr 6603 52) x E k := R.2.2.1
    rcases w.2 with w | w | w | w | w | w | w | w | w | w | w | w | w | w | w | w | w | w | w | w | w | w | w | w | w | w
    · exact t_step hg N IH R w
    · exact t_none hg N IH R w
    · exact t_whole hg N IH R w
    · exact t_real hg N IH R w
    · exact t_get hg N IH R w
    · exact t_sto hg N IH R w
    · exact t_seti hg N IH R w
    · exact t_work hg N IH R w
    · exact t_comp hg N IH R w
    · exact t_neg hg N IH R w
    · exact t_item hg N IH R w
    · exact t_make hg N IH R w
    · exact t_one hg N IH R w
    · exact t_two hg N IH R w
    · exact t_call hg N IH R w
    · exact t_give hg N IH R w
    · exact t_jump hg N IH R w
    · exact t_unless hg N IH R w
    · exact t_loop hg N IH R w
    · exact t_round hg N IH R w
    · exact t_raise hg N IH R w
    · exact t_copy hg N IH R w
    · exact t_try hg N IH R w
    · exact t_leave hg N IH R w
    · exact t_finish hg N IH R w
    · exact t_end hg N IH R w
theorem sim_all (hg : g.1.1 = g.2.1) (N : ENV K B Br) : ∀ n, SIM g K B Br n := by
  intro n
  induction n with
  | zero =>
    intro m hm T h hr L R
    obtain ⟨M, RK, w, bud, T0, Tn⟩ := R
    have p := phF_0 _ M.2.2
    have s8 := M.2.1.2.2.2.2.2.2.2.1
    omega
  | succ n ih =>
    intro m hm T h hr L R
    by_cases e : m = n + 1
    · subst e
      exact turn hg N ih R
    · exact ih m (by omega) T h hr L R
end VM
