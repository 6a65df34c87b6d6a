/-! THE PURE SIDE, 125: the two machines alike: a turn and how it may come out: printed by wip/tools/gen89zzc.py -/
theorem R2_mono {a a' b b' : (Int → HV → Prop) → Prop} {Q : Int → HV → Int → HV → Prop} (ea : ∀ P, a' P → a P) (eb : ∀ P, b' P → b P) (w : R2 a' b' Q) : R2 a b Q := by
  obtain ⟨x, h, y, h', u, v, z⟩ := w
  exact ⟨x, h, y, h', fun P p => ea P (u P p), fun P p => eb P (v P p), z⟩
theorem hset_as {h : HV} {o i v : Int} (e : h o i = v) : hset h o i v = h := by
  subst e
  exact hset_id
theorem mem_b {K : HV} {V CL : Int → Int → Prop} {n : Nat} {c r : Int} {x : CX} {E k : Int} (hn : 1 ≤ n) (w : MEM K V CL n c r x E k) : LocB c r x E k := by
  obtain ⟨m, rfl⟩ : ∃ m, n = m + 1 := ⟨n - 1, by omega⟩
  have w : Loc K V CL (MEM K V CL m) c r x E k := w
  exact w.1
section VM
variable {K B Br h hr h1 h2 hr1 hr2 : HV} {n n2 n0 : Nat} {q E k k2 T c r c2 r2 q2 E2 : Int} {x y x2 : CX} {l L L2 l2 : List FRT} {g : CFG} {A Bq : (Int → HV → Prop) → Prop}
theorem VMS.le (O : KOK K) (hn : n2 ≤ n) (M : VMS K B Br h hr n L) : VMS K B Br h hr n2 L := ⟨M.1, M.2.1, ALF.ag O hn _ AGR.id M.2.2⟩
theorem LRf_go {P : Int → HV → Prop} (w : hr 6603 56 = 1) : LRf g hr P = Sp fz1 (g.2.1 + 7) 383 [(3, 6603)] hr (fun _ h1 => LRf g h1 P) := by
  unfold LRf LPR
  rw [rl382, if_neg (by omega)]
  exact propext ⟨fun w => w.2, fun w => ⟨by omega, w⟩⟩
/-- after a turn -/
theorem nxt (N : ENV K B Br) (IH : SIM g K B Br n) (hn : n2 ≤ n) (M : VMS K B Br h2 hr2 n2 ((q2, x2, E2, k2) :: l2)) (RK : ∀ f ∈ l2, RKx f.2.2.2 f.2.1) (w : MEM K (VS K q2) (CLS K) n2 c2 r2 x2 E2 k2) (ec : h2 1157 4 = c2) (er : hr2 6603 52 = r2) (bud : 400 * (h2 1157 16 - h2 1157 17) + phF ((q2, x2, E2, k2) :: l2) + 1 ≤ n2) (t0 : 0 ≤ T) (t1 : T + n2 ≤ 4000000) : R2 (LC g T h2) (LRf g hr2) (POST B Br) := by
  have s8 := M.2.1.2.2.2.2.2.2.2.1
  have p := phF_0 _ M.2.2
  rw [List.length_cons] at p
  have b := mem_b (by omega) w
  refine IH n2 hn T _ _ _ ⟨M, fun f m => ?_, by rw [ec, er]; exact w, bud, t0, t1⟩
  rcases List.mem_cons.mp m with u | u
  · subst u; exact b.2.2.2.2
  · exact RK f u
/-- a run stops -/
theorem stop_t (M : VMS K B Br h hr n L) (hc : c < 0) : R2 (LC g T (hset (hset h 1157 19 c) 1157 20 0)) (LRf g (spR hr c)) (POST B Br) := by
  obtain ⟨S, ⟨s1, s2, s3, s4, s5, s6, s7, s8, s9, s10, s11, s12, s13⟩, A⟩ := M
  have z := fin_n (g := g) (T := T) S ⟨s8.1, by omega⟩ s9 hc s10.2 (hr 6603 41)
  have e58 : spR hr c 6603 58 = 0 := by unfold spR; rw [hcell (by decide), hcell (by decide)]; exact s10.2.1
  have e59 : spR hr c 6603 59 = 0 := by unfold spR; rw [hcell (by decide), hcell (by decide)]; exact s10.2.2
  rw [hset_id, hset_as e58, hset_as e59] at z
  exact z
theorem VMS.f15 {f : Int} (O : KOK K) (M : VMS K B Br h hr n ((q, x, E, k) :: l)) (w : h 1157 15 < 10000) : VMS K B Br (hset (hset (hset h 1157 15 (h 1157 15 + 1)) 1157 18 f) 1157 18 0) (hset hr 6603 55 (hr 6603 55 + 1)) n ((q, x, E, k) :: l) := by
  obtain ⟨S, ⟨s1, s2, s3, s4, s5, s6, s7, s8, s9, s10, s11, s12, s13⟩, A⟩ := M
  have V := S.2.2.1
  have C1 : CCG h (hset h 1157 15 (h 1157 15 + 1)) := cg_set V (by decide) (by decide) (fun _ => by decide)
  have C2 := C1.tr (cg_set (o := 1157) (i := 18) (v := f) (C1.V V) (by decide) (by decide) (fun _ => by decide))
  have C := C2.tr (cg_set (o := 1157) (i := 18) (v := 0) (C2.V V) (by decide) (by decide) (fun _ => by decide))
  have R : RCG hr (hset hr 6603 55 (hr 6603 55 + 1)) := rg_set (.inr ⟨rfl, by decide⟩)
  have k0 : ∀ o, o ≠ 1157 → hset (hset (hset h 1157 15 (h 1157 15 + 1)) 1157 18 f) 1157 18 0 o = h o := fun o w => by rw [hs_ne w, hs_ne w, hs_ne w]
  have ks : ∀ s, s ≠ 15 → s ≠ 18 → hset (hset (hset h 1157 15 (h 1157 15 + 1)) 1157 18 f) 1157 18 0 1157 s = h 1157 s := fun s a b => by rw [hcell b, hcell b, hcell a]
  have k15 : hset (hset (hset h 1157 15 (h 1157 15 + 1)) 1157 18 f) 1157 18 0 1157 15 = h 1157 15 + 1 := by rw [hcell (by decide), hcell (by decide), hcel1]
  have k18 : hset (hset (hset h 1157 15 (h 1157 15 + 1)) 1157 18 f) 1157 18 0 1157 18 = 0 := hcel1
  generalize hset (hset (hset h 1157 15 (h 1157 15 + 1)) 1157 18 f) 1157 18 0 = h3 at *
  have rh : ∀ s, s ≠ 55 → hset hr 6603 55 (hr 6603 55 + 1) 6603 s = hr 6603 s := fun s w => hcell w
  have r55 : hset hr 6603 55 (hr 6603 55 + 1) 6603 55 = hr 6603 55 + 1 := hcel1
  have ro : ∀ o, o ≠ 6603 → hset hr 6603 55 (hr 6603 55 + 1) o = hr o := fun o w => hs_ne w
  generalize hset hr 6603 55 (hr 6603 55 + 1) = hr3 at *
  have a := V.ar
  refine ⟨S.cg C R, ⟨s1, by rw [ks 5 (by decide) (by decide)]; exact s2, by rw [k0 1222 (by decide)]; exact s3, by rw [rh 36 (by decide)]; exact s4, by rw [rh 41 (by decide)]; exact s5, by rw [ks 8 (by decide) (by decide)]; exact s6, by rw [rh 44 (by decide)]; exact s7, by rw [ks 17 (by decide) (by decide), ks 16 (by decide) (by decide), rh 53 (by decide), rh 54 (by decide)]; exact s8, by rw [k15, r55]; omega, by rw [rh 56 (by decide), rh 58 (by decide), rh 59 (by decide)]; exact s10, by rw [ks 20 (by decide) (by decide)]; exact s11, by rw [ks 19 (by decide) (by decide)]; exact s12, k18⟩, ?_⟩
  refine ALF.ag O (Nat.le_refl n) _ (AGR.stk V C R (fun o p r => k0 o (by omega)) (fun o p r => ro o (by omega)) (fun p _ _ => ?_) (fun i _ _ => ?_)) A
  · unfold cK cB
    rw [k0 1222 (by decide), k0 _ (by omega), k0 _ (by omega)]
    exact ⟨rfl, rfl⟩
  · rw [ro 10464 (by decide), ro 10529 (by decide)]
    exact ⟨rfl, rfl⟩
/-- a failure comes: h behind the turn -/
theorem fail_t {f : Int} {d : Nat} (N : ENV K B Br) (IH : SIM g K B Br n) (hn : n2 ≤ n) (M : VMS K B Br h hr n2 ((q, x, E, k) :: l)) (RK : ∀ f ∈ ((q, x, E, k) :: l : List FRT), RKx f.2.2.2 f.2.1) (bud : 400 * (h 1157 16 - h 1157 17) + phF ((q, x, E, k) :: l) ≤ n2) (T0 : 0 ≤ T) (Tn : T + n2 ≤ 4000000) (hc : 0 ≤ h 1157 4 ∧ h 1157 4 ≤ 2990) (hf : 1 ≤ f ∧ f ≤ 7) : R2 (LC g T (flH h f)) (fun P => Sp fz1 (d + 2) 386 [(3, 6603), (0, f)] hr (fun _ h1 => LRf g h1 P)) (POST B Br) := by
  have O := N.1
  have s9 := M.2.1.2.2.2.2.2.2.2.2.1
  have s8 := M.2.1.2.2.2.2.2.2.2.1
  have s10 := M.2.1.2.2.2.2.2.2.2.2.2
  have p := phF_0 _ M.2.2
  rw [List.length_cons] at p
  by_cases w : h 1157 15 = 10000
  · have e : flH h f = hset (hset h 1157 19 (-23)) 1157 20 0 := by unfold flH; rw [if_pos w]
    rw [e]
    exact R2_eq (b' := LRf g (spR hr (-23))) (fun P => rfl) (fun P => v386s (d := d + 1) (by omega)) (stop_t M (by decide))
  · have e : flH h f = hset (hset h 1157 15 (h 1157 15 + 1)) 1157 18 f := by unfold flH; rw [if_neg w]
    rw [e]
    have M2 := M.f15 (f := f) O (by omega)
    have s2 := M2.2.1
    have fr := M2.fr
    have bud2 : 400 * (hset (hset (hset h 1157 15 (h 1157 15 + 1)) 1157 18 f) 1157 18 0 1157 16 - hset (hset (hset h 1157 15 (h 1157 15 + 1)) 1157 18 f) 1157 18 0 1157 17) + phF ((q, x, E, k) :: l) ≤ ((n2 - 1 : Nat) : Int) + 2 := by
      rw [hcell (by decide), hcell (by decide), hcell (by decide), hcell (by decide), hcell (by decide), hcell (by decide)]
      omega
    have z := failM N IH l x q E k (n2 - 1) (T + 1) f _ _ d (9, 0) (9, 0) (9, 0) (9, 0) (9, 0) (by omega) ((M2.f O).le O (by omega)) RK bud2 (by omega) (by omega) hf
    have e57 : ∀ s, s ≠ 15 → s ≠ 18 → hset (hset h 1157 15 (h 1157 15 + 1)) 1157 18 f 1157 s = h 1157 s := fun s a b => by rw [hcell b, hcell a]
    have eo : ∀ o, o ≠ 1157 → hset (hset h 1157 15 (h 1157 15 + 1)) 1157 18 f o = h o := fun o a => by rw [hs_ne a, hs_ne a]
    obtain ⟨hT, hl, -⟩ := (M.1.env N).cd
    have CT : CTN (hset (hset h 1157 15 (h 1157 15 + 1)) 1157 18 f) T := by
      refine ⟨⟨T0, by omega⟩, by rw [e57 19 (by decide) (by decide)]; exact s10.2.2.1, by rw [e57 3 (by decide) (by decide)]; exact hT, by rw [e57 3 (by decide) (by decide), eo _ (by rcases hT with u | u <;> omega)]; exact hl, by rw [e57 4 (by decide) (by decide)]; exact hc⟩
    refine R2_eq (fun P => ?_) (fun P => ?_) z
    · have t := tn_f (d := g.1.1) (l1 := g.1.2.1) (l2 := g.1.2.2.1) (l3 := g.1.2.2.2.1) (l4 := g.1.2.2.2.2.1) (l5 := g.1.2.2.2.2.2.1) (l6 := g.1.2.2.2.2.2.2.1) (l7 := g.1.2.2.2.2.2.2.2) (Q := P) CT (by rw [hcel1]; omega)
      refine Eq.trans (show LC g T _ P = _ from t) ?_
      rw [ps_start, hcel1]
      rfl
    · rw [v386 (d := d + 1) (by omega), uw_in, uw_01 (l6 := (9, 0)) M2.2.1.2.2.2.2.2.2.2.2.2.1.1 (by omega)]
/-- what is known at a turn -/
theorem RUNS.ct (N : ENV K B Br) (R : RUNS K B Br (n + 1) T h hr ((q, x, E, k) :: l)) : CTN h T ∧ h 1157 18 = 0 ∧ hr 6603 56 = 1 ∧ LocB (h 1157 4) (hr 6603 52) x E k ∧ TR (hr 6603 9) ∧ (1 ≤ hr 6603 41 ∧ hr 6603 41 ≤ 8) ∧ (hr (hr 6603 9 + 980) (hr 6603 52) = K 1 (hr 6603 52) ∧ hr (hr 6603 9 + 1044) (hr 6603 52) = K 2 (hr 6603 52) ∧ hr (hr 6603 9 + 1108) (hr 6603 52) = K 3 (hr 6603 52)) ∧ (∀ i, cdT h i = K 0 i) ∧ 1 ≤ n ∧ 400 * (h 1157 16 - h 1157 17) + phF ((q, x, E, k) :: l) ≤ n ∧ (0 ≤ T + 1 ∧ T + 1 + n ≤ 4000000) ∧ VMS K B Br h hr n ((q, x, E, k) :: l) ∧ (∀ f ∈ l, RKx f.2.2.2 f.2.1) := by
  obtain ⟨M, RK, w, bud, T0, Tn⟩ := R
  have w : Loc K (VS K q) (CLS K) (MEM K (VS K q) (CLS K) n) (h 1157 4) (hr 6603 52) x E k := w
  have b := w.1
  have N' := M.1.env N
  obtain ⟨hT, hl, hK⟩ := N'.cd
  have s8 := M.2.1.2.2.2.2.2.2.2.1
  have s10 := M.2.1.2.2.2.2.2.2.2.2.2
  have p := phF_0 _ M.2.2
  rw [List.length_cons] at p
  have fr := M.fr
  exact ⟨⟨⟨T0, by omega⟩, s10.2.2.1, hT, hl, b.1.1.1, by have := b.1.1.2; omega⟩, s10.2.2.2, s10.1.1, b, N'.S, by omega, N'.op b.1.2, hK, by omega, by omega, by omega, M.le N.1 (by omega), fun f m => RK f (List.mem_cons_of_mem _ m)⟩
/-- a turn by its outcome -/
theorem out_t (N : ENV K B Br) (IH : SIM g K B Br n) (R : RUNS K B Br (n + 1) T h hr ((q, x, E, k) :: l)) (O : OUT K B Br (hset h 1157 4 c2) (hset hr 6603 52 r2) n ((q, x, E, k) :: l) ((q, x2, E2, k - 1) :: l) A Bq)
    (ea : ∀ P, LC g T h P = A (fun _ h1 => LC g (T + 1) h1 P)) (eb : ∀ P, LRf g hr P = Bq (fun _ h1 => LRf g h1 P)) (hc : 0 ≤ c2 ∧ c2 ≤ 2990) (w : MEM K (VS K q) (CLS K) n c2 r2 x2 E2 (k - 1)) : R2 (LC g T h) (LRf g hr) (POST B Br) := by
  obtain ⟨CT, c18, c56, b, hS, hfr, op, hK, n1, bud, t1, M, RK⟩ := R.ct N
  rcases O with ⟨h1, hr1, ⟨e1, e2⟩, a, bb, M1⟩ | ⟨f, d, h1, hr1, e1, hf, a, bb, M1⟩ | ⟨c, h1, hr1, hc', a, bb, M1⟩
  · refine R2_mono (a' := LC g (T + 1) h1) (b' := LRf g hr1) (fun P w => by rw [ea]; exact a _ w) (fun P w => by rw [eb]; exact bb _ w) (nxt N IH (Nat.le_refl n) M1 RK w (by rw [e1, hcel1]) (by rw [e2, hcel1]) ?_ t1.1 t1.2)
    rw [e1, hcell (by decide), hcell (by decide), phF_c]
    rw [phF_c] at bud
    have bud : 400 * (h 1157 16 - h 1157 17) + (phF l + k) ≤ n := bud
    show 400 * (h 1157 16 - h 1157 17) + (phF l + (k - 1)) + 1 ≤ n
    omega
  · refine R2_mono (a' := LC g (T + 1) (flH h1 f)) (b' := fun P => Sp fz1 (d + 2) 386 [(3, 6603), (0, f)] hr1 (fun _ h1 => LRf g h1 P)) (fun P w => by rw [ea]; exact a _ w) (fun P w => by rw [eb]; exact bb _ w) (fail_t N IH (Nat.le_refl n) M1 R.2.1 ?_ t1.1 t1.2 (by rw [e1, hcel1]; exact hc) hf)
    rw [e1, hcell (by decide), hcell (by decide)]
    exact bud
  · exact R2_mono (fun P w => by rw [ea]; exact a _ w) (fun P w => by rw [eb]; exact bb _ w) (stop_t (T := T + 1) M1 hc')
end VM
