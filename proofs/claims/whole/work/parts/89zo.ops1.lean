/-! THE PURE SIDE, 111: the two machines alike: ops on the stack: printed by wip/tools/gen89zo.py -/
theorem hset_id {h : HV} {o i : Int} : hset h o i (h o i) = h := by
  funext a b
  rw [hset_v]
  split
  · rename_i w; rw [w.1, w.2]
  · rfl
theorem psh_rp {h : HV} {k b : Int} : pshH h k b = rpH h 0 k b := by
  unfold rpH cutH
  rw [Int.sub_zero, if_neg (by omega)]
theorem pu_rp {h : HV} {k b : Int} : puR h k b = puR (tpR h 0) k b := by
  unfold tpR
  rw [Int.sub_zero, hset_id]
theorem in_val {h : HV} {v : Int} : hset h 10529 (h 6603 36 - 1) v = puR (tpR h 1) (uK h 1) v := by
  rw [← in_pu]
  unfold inR uK
  rw [show h 10464 (h 6603 36 - 1) = hset h 10529 (h 6603 36 - 1) v 10464 (h 6603 36 - 1) by rw [hs_ne (by decide)], hset_id]
theorem in_knd {h : HV} {k : Int} : hset h 10464 (h 6603 36 - 1) k = puR (tpR h 1) k (uB h 1) := by
  rw [← in_pu]
  unfold inR uB
  rw [hset_id]
theorem in_same {h : HV} : puR (tpR h 1) (uK h 1) (uB h 1) = h := by
  rw [← in_knd]
  unfold uK
  rw [hset_id]
theorem VVh.k {h hr : HV} {k b k' b' : Int} (v : VVh h hr k b k' b') : ((0 ≤ k ∧ k ≤ 7) ∧ 0 ≤ k' ∧ k' ≤ 4) ∧ (lwF k = lwF k' ∧ lnF k = lnF k' ∧ lrF k = lrF k' ∧ lpF k = lpF k') ∧ ((k = 0 ↔ k' = 0) ∧ (k = 1 ↔ k' = 1) ∧ (k = 2 ↔ k' = 2) ∧ (k = 3 ↔ k' = 3) ∧ (4 ≤ k ↔ k' = 4)) ∧ (k = 1 → b' = b ∧ I32 b) ∧ (k = 2 → b' = b ∧ CANR b) ∧ (k = 3 → b' = b ∧ 0 ≤ b ∧ b < h 836 4) ∧ (4 ≤ k → b' = b + rb h ∧ (0 ≤ b ∧ b < h 643 2) ∧ hr 10272 (b + rb h) = k) := by
  unfold VVh VV at v
  rcases v with ⟨e, e2, -⟩ | ⟨e, e2, e3, e4⟩ | ⟨e, e2, e3, e4⟩ | ⟨e, e2, e3, e4⟩ | ⟨e, e2, e3, e4, e5⟩
  · subst e; subst e2
    refine ⟨by omega, ⟨rfl, rfl, rfl, rfl⟩, by omega, fun w => by omega, fun w => by omega, fun w => by omega, fun w => by omega⟩
  · subst e; subst e2
    refine ⟨by omega, ⟨rfl, rfl, rfl, rfl⟩, by omega, fun w => ⟨e3, e4⟩, fun w => by omega, fun w => by omega, fun w => by omega⟩
  · subst e; subst e2
    refine ⟨by omega, ⟨rfl, rfl, rfl, rfl⟩, by omega, fun w => by omega, fun w => ⟨e3, e4⟩, fun w => by omega, fun w => by omega⟩
  · subst e; subst e2
    refine ⟨by omega, ⟨rfl, rfl, rfl, rfl⟩, by omega, fun w => by omega, fun w => by omega, fun w => ⟨e3, e4⟩, fun w => by omega⟩
  · subst e2
    refine ⟨by omega, ⟨?_, ?_, ?_, ?_⟩, by omega, fun w => by omega, fun w => by omega, fun w => by omega, fun w => ⟨e3, e4, e5⟩⟩
    · unfold lwF; rw [if_neg (by omega), if_neg (by omega), if_neg (by decide), if_neg (by decide)]
    · unfold lnF; rw [if_neg (by omega), if_neg (by omega), if_neg (by omega), if_neg (by decide), if_neg (by decide), if_neg (by decide)]
    · unfold lrF; rw [if_neg (by omega), if_neg (by omega), if_neg (by decide), if_neg (by decide)]
    · unfold lpF; rw [if_neg (by omega), if_neg (by omega), if_neg (by decide), if_neg (by decide)]
theorem VVh.r {h hr : HV} {k b k' b' : Int} (v : VVh h hr k b k' b') : (0 ≤ k ∧ k ≤ 7) ∧ 0 ≤ k' ∧ k' ≤ 4 := v.k.1
theorem VVh.lw {h hr : HV} {k b k' b' : Int} (v : VVh h hr k b k' b') : lwF k = lwF k' := v.k.2.1.1
theorem VVh.ln {h hr : HV} {k b k' b' : Int} (v : VVh h hr k b k' b') : lnF k = lnF k' := v.k.2.1.2.1
theorem VVh.lr {h hr : HV} {k b k' b' : Int} (v : VVh h hr k b k' b') : lrF k = lrF k' := v.k.2.1.2.2.1
theorem VVh.lp {h hr : HV} {k b k' b' : Int} (v : VVh h hr k b k' b') : lpF k = lpF k' := v.k.2.1.2.2.2
theorem VVh.i0 {h hr : HV} {k b k' b' : Int} (v : VVh h hr k b k' b') : k = 0 ↔ k' = 0 := v.k.2.2.1.1
theorem VVh.i1 {h hr : HV} {k b k' b' : Int} (v : VVh h hr k b k' b') : k = 1 ↔ k' = 1 := v.k.2.2.1.2.1
theorem VVh.i2 {h hr : HV} {k b k' b' : Int} (v : VVh h hr k b k' b') : k = 2 ↔ k' = 2 := v.k.2.2.1.2.2.1
theorem VVh.i3 {h hr : HV} {k b k' b' : Int} (v : VVh h hr k b k' b') : k = 3 ↔ k' = 3 := v.k.2.2.1.2.2.2.1
theorem VVh.i4 {h hr : HV} {k b k' b' : Int} (v : VVh h hr k b k' b') : 4 ≤ k ↔ k' = 4 := v.k.2.2.1.2.2.2.2
theorem VVh.e1 {h hr : HV} {k b k' b' : Int} (v : VVh h hr k b k' b') (e : k = 1) : b' = b ∧ I32 b := v.k.2.2.2.1 e
theorem VVh.e2 {h hr : HV} {k b k' b' : Int} (v : VVh h hr k b k' b') (e : k = 2) : b' = b ∧ CANR b := v.k.2.2.2.2.1 e
theorem VVh.e3 {h hr : HV} {k b k' b' : Int} (v : VVh h hr k b k' b') (e : k = 3) : b' = b ∧ 0 ≤ b ∧ b < h 836 4 := v.k.2.2.2.2.2.1 e
theorem VVh.e4 {h hr : HV} {k b k' b' : Int} (v : VVh h hr k b k' b') (e : 4 ≤ k) : b' = b + rb h ∧ (0 ≤ b ∧ b < h 643 2) ∧ hr 10272 (b + rb h) = k := v.k.2.2.2.2.2.2 e
theorem VVh.n12 {h hr : HV} {k b k' b' : Int} (v : VVh h hr k b k' b') (e : k = 1 ∨ k = 2) : k' = 1 ∨ k' = 2 := e.imp v.i1.mp v.i2.mp
theorem vv_1 {h hr : HV} {b : Int} (i : I32 b) : VVh h hr 1 b 1 b := .inr (.inl ⟨rfl, rfl, rfl, i⟩)
theorem vv_2 {h hr : HV} {b : Int} (i : CANR b) : VVh h hr 2 b 2 b := .inr (.inr (.inl ⟨rfl, rfl, rfl, i⟩))
theorem vv_0 {h hr : HV} {b : Int} : VVh h hr 0 b 0 0 := .inl ⟨rfl, rfl, rfl⟩
theorem VVh.e0 {h hr : HV} {k b k' b' : Int} (v : VVh h hr k b k' b') (e : k = 0) : b' = 0 := by
  unfold VVh VV at v
  omega
theorem vv_3 {h hr : HV} {b : Int} (i : 0 ≤ b ∧ b < h 836 4) : VVh h hr 3 b 3 b := .inr (.inr (.inr (.inl ⟨rfl, rfl, rfl, i⟩)))
theorem lw1 {k : Int} (h : lwF k = 0) : k = 1 := by unfold lwF at h; split at h <;> (try split at h) <;> omega
theorem ln12 {k : Int} (h : lnF k = 0) : k = 1 ∨ k = 2 := by unfold lnF at h; split at h <;> (try split at h) <;> (try split at h) <;> omega
theorem lr4 {k : Int} (h : lrF k = 0) : 4 ≤ k := by unfold lrF at h; split at h <;> (try split at h) <;> omega
theorem lpk3 {k : Int} (h : lpF k = 0) : k = 3 := by unfold lpF at h; split at h <;> (try split at h) <;> omega
theorem lw_r {k : Int} (h : ¬ lwF k = 0) : 1 ≤ lwF k ∧ lwF k ≤ 7 := by unfold lwF at *; split at h <;> (try split at h) <;> omega
theorem ln_r {k : Int} (h : ¬ lnF k = 0) : 1 ≤ lnF k ∧ lnF k ≤ 7 := by unfold lnF at *; split at h <;> (try split at h) <;> (try split at h) <;> omega
theorem lr_r {k : Int} (h : ¬ lrF k = 0) : 1 ≤ lrF k ∧ lrF k ≤ 7 := by unfold lrF at *; split at h <;> (try split at h) <;> omega
theorem lp_r {k : Int} (h : ¬ lpF k = 0) : 1 ≤ lpF k ∧ lpF k ≤ 7 := by unfold lpF at *; split at h <;> (try split at h) <;> omega
theorem w32_r (x : Int) : I32 (w32 x) := by unfold I32 w32; omega
section VM
variable {K B Br h hr : HV} {n : Nat} {q E k k2 : Int} {x : CX} {l : List FRT}
theorem VMS.hs (O : KOK K) (M : VMS K B Br h hr n ((q, x, E, k) :: l)) : (h 1222 2 = bsF K l + K 7 q + 2 * lps x + E ∧ hr 6603 36 = ftF l + E) ∧ (0 ≤ E ∧ E ≤ 36) ∧ (0 ≤ bsF K l ∧ bsF K l ≤ 3360) ∧ (0 ≤ ftF l ∧ ftF l ≤ 252) ∧ (0 ≤ lps x ∧ lps x ≤ 12) ∧ (0 ≤ K 7 q ∧ K 7 q ≤ 420) ∧ h 1222 2 + 4 ≤ cK h (-1) ∧ TPO hr E := by
  obtain ⟨S, ⟨s1, s2, s3, s4, -⟩, A⟩ := M
  have z := ALF.sz O l A.2
  have l0 := lps_0 x
  have kq := (O.2 q A.1.2.1.1 A.1.2.1.2).1
  have le : bsF K l + K 7 q + 64 ≤ cK h (-1) := A.1.2.2.2.2.1
  have lx : x.length ≤ 12 := A.1.2.2.2.1
  have eE : 0 ≤ E ∧ E ≤ 36 := A.1.2.2.1
  have e3 : h 1222 2 = bsF K l + (K 7 q + 2 * lps x + E) := s3
  have e4 : hr 6603 36 = ftF l + E := s4
  rw [List.length_cons] at s1
  unfold TPO
  omega
theorem VMS.V (M : VMS K B Br h hr n ((q, x, E, k) :: l)) : VOK h := M.1.2.2.1
theorem VMS.F (M : VMS K B Br h hr n ((q, x, E, k) :: l)) : FOK h := ⟨M.2.1.2.2.2.2.2.2.2.2.1.2.1, M.2.1.2.2.2.2.2.2.2.2.1.2.2⟩
theorem STA.RW (S : STA B Br h hr) : RW h ∧ (h 1222 0 ≠ h 643 0 ∧ h 1222 1 ≠ h 643 1) ∧ (0 ≤ rb h ∧ h 643 2 + rb h = h 643 3 ∧ h 643 3 ≤ 6000) ∧ hr 6603 30 = h 643 3 ∧ ∀ j, 0 ≤ j → j < h 643 2 → (hr 10336 (j + rb h) = rwZ h j ∧ ∀ i, 0 ≤ i → i < rwZ h j → hr 10401 (64 * (j + rb h) + i) = rwI h j i) ∧ (4 ≤ hr 10272 (j + rb h) ∧ hr 10272 (j + rb h) ≤ 7) ∧ ∀ i, 0 ≤ i → i < rwZ h j → ITK (hr 10272 (j + rb h)) (h 836 4) (h 928) (rwI h j i) := by
  obtain ⟨F, G, V, W, I, M, L, Rm⟩ := S
  have w1 := W.1.1
  have w2 := W.1.2.1
  have m6 : mixH h hr 643 = h 643 := mx_c (by decide)
  have m12 : mixH h hr 1222 = h 1222 := mx_c (by decide)
  unfold NFA at w1 w2
  rw [m6] at w1 w2
  have a1 : mixH h hr (h 643 0) = h (h 643 0) := mx_c (by omega)
  have a2 : mixH h hr (h 643 1) = h (h 643 1) := mx_c (by omega)
  have eb : rb (mixH h hr) = rb h := by unfold rb; rw [m6]
  have ez : rwZ (mixH h hr) = rwZ h := by funext r; unfold rwZ; rw [m6, a1]
  have ei : rwI (mixH h hr) = rwI h := by funext r i; unfold rwI; rw [m6, a1, a2]
  unfold RRw at W
  unfold RIt at I
  rw [m6, eb, ez, ei, mx_r (a := 6603) (by decide) (by decide), mx_r (a := 10336) (by decide) (by decide), mx_r (a := 10401) (by decide) (by decide)] at W
  rw [m6, eb, ez, ei, mx_r (a := 10272) (by decide) (by decide), mx_c (a := 836) (by decide), mx_c (a := 928) (by decide)] at I
  have dd := L
  unfold RVl at dd
  rw [m6, m12] at dd
  have R : _root_.Jvm.Pilot.CSchoolHouseLaw_law_r6785_3789db.RW h := RW_eq W.1 (mx_c (by decide)).symm m6.symm (by rw [m6]; exact a1.symm) (by rw [m6]; exact a2.symm)
  have r3 := R.2.2.1
  refine ⟨R, ⟨dd.2.2.1, dd.2.2.2.1⟩, by unfold rb; omega, W.2.1, fun j a b => ⟨W.2.2 j a b, I j a b⟩⟩
theorem VMS.top (O : KOK K) (M : VMS K B Br h hr n ((q, x, E, k) :: l)) {j : Int} (hj : 0 ≤ j ∧ j < E) : VVh h hr (tK h j) (tB h j) (uK hr (j + 1)) (uB hr (j + 1)) := by
  have z := M.hs O
  have e : EVR h hr (bsF K l + K 7 q + 2 * lps x) (ftF l) E := M.2.2.1.2.2.2.2.2.2.2.1
  have e := e (E - 1 - j) (by omega) (by omega)
  unfold tK tB kA bA uK uB
  rw [if_pos (by omega), if_pos (by omega)]
  rw [show bsF K l + K 7 q + 2 * lps x + (E - 1 - j) = h 1222 2 - 1 - j by omega, show ftF l + (E - 1 - j) = hr 6603 36 - (j + 1) by omega] at e
  exact e
theorem VMS.pc (O : KOK K) (M : VMS K B Br h hr n ((q, x, E, k) :: l)) {c r : Int} : VMS K B Br (hset h 1157 4 c) (hset hr 6603 52 r) n ((q, x, E, k) :: l) := by
  obtain ⟨S, ⟨s1, s2, s3, s4, s5, s6, s7, s8, s9, s10, s11, s12, s13⟩, A⟩ := M
  have V := S.2.2.1
  have a := V.ar
  have C : CCG h (hset h 1157 4 c) := cg_set V (by decide) (by decide) (fun _ => by decide)
  have R : RCG hr (hset hr 6603 52 r) := rg_set (.inr ⟨rfl, by decide⟩)
  have ch : ∀ s, s ≠ 4 → hset h 1157 4 c 1157 s = h 1157 s := fun s w => hcell w
  have rh : ∀ s, s ≠ 52 → hset hr 6603 52 r 6603 s = hr 6603 s := fun s w => hcell w
  refine ⟨S.cg C R, ⟨s1, by rw [ch 5 (by decide)]; exact s2, by rw [hs_ne (by decide)]; exact s3, by rw [rh 36 (by decide)]; exact s4, by rw [rh 41 (by decide)]; exact s5, by rw [ch 8 (by decide)]; exact s6, by rw [rh 44 (by decide)]; exact s7, by rw [ch 17 (by decide), ch 16 (by decide), rh 53 (by decide), rh 54 (by decide)]; exact s8, by rw [ch 15 (by decide), rh 55 (by decide)]; exact s9, by rw [rh 56 (by decide), rh 58 (by decide), rh 59 (by decide)]; exact s10, by rw [ch 20 (by decide)]; exact s11, by rw [ch 19 (by decide)]; exact s12, by rw [ch 18 (by decide)]; exact s13⟩, ?_⟩
  refine ALF.ag O (Nat.le_refl n) _ (AGR.stk V C R (fun o p r => hs_ne (by omega)) (fun o p r => hs_ne (by omega)) (fun p _ _ => ?_) (fun i _ _ => ?_)) A
  · unfold cK cB
    have e12 : hset h 1157 4 c 1222 = h 1222 := hs_ne (by decide)
    rw [e12, hs_ne (by omega), hs_ne (by omega)]
    exact ⟨rfl, rfl⟩
  · rw [hs_ne (by decide), hs_ne (by decide)]
    exact ⟨rfl, rfl⟩
theorem rpH_57 {m kc bc : Int} (V : VOK h) : rpH h m kc bc 1157 = h 1157 := by
  have a := V.ar
  have z0 : cutH h (h 1222 2 - m) 1222 0 = h 1222 0 := cut_s (by decide)
  have z1 : cutH h (h 1222 2 - m) 1222 1 = h 1222 1 := cut_s (by decide)
  unfold rpH pshH
  rw [hs_ne (by decide), z1, hs_ne (by omega), z0, hs_ne (by omega), cut_ne (by decide)]
theorem puR_52 {m kr br : Int} : puR (tpR hr m) kr br 6603 52 = hr 6603 52 := by
  unfold puR tpR
  rw [hcell (by decide), hs_ne (by decide), hs_ne (by decide), hcell (by decide)]
/-- how a class's op and a reference's one may come out -/
def OUT (K B Br h hr : HV) (n : Nat) (L L' : List FRT) (A Bq : (Int → HV → Prop) → Prop) : Prop :=
  (∃ h1 hr1, (h1 1157 = h 1157 ∧ hr1 6603 52 = hr 6603 52) ∧ (∀ Q : Int → HV → Prop, Q 0 h1 → A Q) ∧ (∀ Q : Int → HV → Prop, Q 0 hr1 → Bq Q) ∧ VMS K B Br h1 hr1 n L') ∨
  (∃ (f : Int) (d : Nat) (h1 hr1 : HV), h1 1157 = h 1157 ∧ (1 ≤ f ∧ f ≤ 7) ∧ (∀ Q : Int → HV → Prop, Q 0 (flH h1 f) → A Q) ∧ (∀ Q : Int → HV → Prop, Sp fz1 (d + 2) 386 [(3, 6603), (0, f)] hr1 (fun _ => Q 0) → Bq Q) ∧ VMS K B Br h1 hr1 n L) ∨
  (∃ (c : Int) (h1 hr1 : HV), c < 0 ∧ (∀ Q : Int → HV → Prop, Q 0 (hset (hset h1 1157 19 c) 1157 20 0) → A Q) ∧ (∀ Q : Int → HV → Prop, Q 0 (spR hr1 c) → Bq Q) ∧ VMS K B Br h1 hr1 n L)
theorem OUT.fl {L L' : List FRT} {A Bq : (Int → HV → Prop) → Prop} {f : Int} {d : Nat} {h1 hr1 : HV} (hf : 1 ≤ f ∧ f ≤ 7) (a : ∀ Q, A Q = Q 0 (flH h1 f)) (b : ∀ Q : Int → HV → Prop, Bq Q = Sp fz1 (d + 2) 386 [(3, 6603), (0, f)] hr1 (fun _ => Q 0)) (M : VMS K B Br h1 hr1 n L) (p : h1 1157 = h 1157 := by rfl) : OUT K B Br h hr n L L' A Bq := .inr (.inl ⟨f, d, h1, hr1, p, hf, fun Q w => by rw [a Q]; exact w, fun Q w => by rw [b Q]; exact w, M⟩)
theorem OUT.ok {L L' : List FRT} {A Bq : (Int → HV → Prop) → Prop} {h1 hr1 : HV} (a : ∀ Q, A Q = Q 0 h1) (b : ∀ Q, Bq Q = Q 0 hr1) (M : VMS K B Br h1 hr1 n L') (p : h1 1157 = h 1157 := by first | rfl | exact rpH_57 (by assumption)) (r : hr1 6603 52 = hr 6603 52 := by first | rfl | exact puR_52) : OUT K B Br h hr n L L' A Bq := .inl ⟨h1, hr1, ⟨p, r⟩, fun Q w => by rw [a Q]; exact w, fun Q w => by rw [b Q]; exact w, M⟩
theorem OUT.st {L L' : List FRT} {A Bq : (Int → HV → Prop) → Prop} {c : Int} {h1 hr1 : HV} (hc : c < 0) (a : ∀ Q, A Q = Q 0 (hset (hset h1 1157 19 c) 1157 20 0)) (b : ∀ Q, Bq Q = Q 0 (spR hr1 c)) (M : VMS K B Br h1 hr1 n L) : OUT K B Br h hr n L L' A Bq := .inr (.inr ⟨c, h1, hr1, hc, fun Q w => by rw [a Q]; exact w, fun Q w => by rw [b Q]; exact w, M⟩)
theorem rl_eq {j j' : Int} (v : VVh h hr (tK h j) (tB h j) (uK hr j') (uB hr j')) (hk : tK h j = 1 ∨ tK h j = 2) : rlA h j = rlR hr j' := by
  unfold rlA rlR
  rcases hk with e | e
  · have e' := v.i1.mp e
    rw [if_neg (by rw [e]; decide), if_neg (by rw [e']; decide), (v.e1 e).1]
  · rw [if_pos e, if_pos (v.i2.mp e), (v.e2 e).1]
theorem rl_can {j j' : Int} (v : VVh h hr (tK h j) (tB h j) (uK hr j') (uB hr j')) : CANR (rlA h j) := by
  unfold rlA
  split
  · rename_i e; exact (v.e2 e).2
  · exact CANR_cn _
theorem VVh.c2 {k b k' b' : Int} (v : VVh h hr k b k' b') (e : k' = 2) : CANR b' := by have := v.e2 (v.i2.mpr e); rw [this.1]; exact this.2
theorem VMS.top0 (O : KOK K) (M : VMS K B Br h hr n ((q, x, E, k) :: l)) (hE : 1 ≤ E) : VVh h hr (tK h 0) (tB h 0) (uK hr 1) (uB hr 1) := M.top O (j := 0) ⟨by decide, by omega⟩
theorem VMS.top1 (O : KOK K) (M : VMS K B Br h hr n ((q, x, E, k) :: l)) (hE : 2 ≤ E) : VVh h hr (tK h 1) (tB h 1) (uK hr 2) (uB hr 2) := M.top O (j := 1) ⟨by decide, by omega⟩
theorem VMS.T (O : KOK K) (M : VMS K B Br h hr n ((q, x, E, k) :: l)) {m : Int} (hm : 0 ≤ m ∧ m ≤ E) : TPO hr m ∧ m ≤ h 1222 2 := by
  have z := M.hs O
  have t := z.2.2.2.2.2.2.2
  unfold TPO at *
  omega
theorem o_work {d : Nat} {o c : Int} (O : KOK K) (M : VMS K B Br h hr n ((q, x, E, k) :: l)) (hE : 2 ≤ E) (ho : wkO o c) (hk : 1 ≤ k2 ∧ k2 ≤ 399) : OUT K B Br h hr n ((q, x, E, k) :: l) ((q, x, E - 1, k2) :: l) (fun Q => Sp fz1 (d + 6) 195 [(3, 1157), (0, o)] h Q) (fun Q => Sp fz1 (d + 5) 403 [(3, 6603), (0, c)] hr (fun _ => Q 0)) := by
  have V := M.V
  have F := M.F
  have v1 := M.top1 O hE
  have v0 := M.top0 O (by omega)
  obtain ⟨T, hn⟩ := M.T O (m := 2) ⟨by decide, hE⟩
  have h36 := (M.hs O).2.1
  have RP : ∀ {kc bc kr br : Int}, VVh h hr kc bc kr br → VMS K B Br (rpH h 2 kc bc) (puR (tpR hr 2) kr br) n ((q, x, E - 1, k2) :: l) := fun v => by
    have := VMS.rp (m := 2) (k2 := k2) O M ⟨by decide, hE⟩ (by omega) hk v
    rw [show E - 1 = E - 2 + 1 by omega]
    exact this
  have op : o = 0 ∨ o = 1 ∨ o = 2 ∨ o = 3 ∨ o = 4 := by
    rcases ho with e | e | e | e | e
    · exact .inl e.1
    · exact .inr (.inl e.1)
    · exact .inr (.inr (.inl e.1))
    · exact .inr (.inr (.inr (.inl e.1)))
    · exact .inr (.inr (.inr (.inr e.1)))
  by_cases l1 : lnF (tK h 1) = 0
  · by_cases l0 : lnF (tK h 0) = 0
    · have n1 := ln12 l1
      have n0 := ln12 l0
      have u1 := v0.n12 n0
      have u2 := v1.n12 n1
      by_cases rr : tK h 1 = 2 ∨ tK h 0 = 2
      · have r1 := rl_eq v1 n1
        have r0 := rl_eq v0 n0
        have c1 := rl_can v1
        have c0 := rl_can v0
        have kr : uK hr 2 = 2 ∨ uK hr 1 = 2 := rr.imp v1.i2.mp v0.i2.mp
        have a : ∀ Q, Sp fz1 (d + 6) 195 [(3, 1157), (0, o)] h Q = Q 0 (rpH h 2 2 (wrV o (rlA h 1) (rlA h 0))) := fun Q => s195r (d := d + 1) V op n1 n0 rr (fun e => (v1.e1 e).2) (fun e => (v0.e1 e).2) c1.1 c0.1 hn
        have b : ∀ Q, Sp fz1 (d + 5) 403 [(3, 6603), (0, c)] hr Q = Q 0 (puR (tpR hr 2) 2 (wrV o (rlR hr 2) (rlR hr 1))) := fun Q => by
          rcases ho with ⟨e, e2⟩ | ⟨e, e2⟩ | ⟨e, e2⟩ | ⟨e, e2⟩ | ⟨e, e2⟩
          · rw [e, e2]; exact v403r0 (d := d + 1) T u1 u2 kr v0.c2 v1.c2
          · rw [e, e2]; exact v403r1 (d := d + 1) T u1 u2 kr v0.c2 v1.c2
          · rw [e, e2]; exact v403r2 (d := d + 1) T u1 u2 kr v0.c2 v1.c2
          · rw [e, e2]; exact v403r3 (d := d + 1) T u1 u2 kr v0.c2 v1.c2
          · rw [e, e2]; exact v403r4 (d := d + 1) T u1 u2 kr v0.c2 v1.c2
        refine OUT.ok a (fun Q => b (fun _ => Q 0)) ?_
        have g : CANR (wrV o (rlA h 1) (rlA h 0)) := by
          unfold wrV
          split
          · exact CANR_cn _
          split
          · exact CANR_cn _
          split
          · exact CANR_cn _
          split
          · exact CANR_cn _
          · exact CANR_cn _
        rw [← r1, ← r0]
        exact RP (vv_2 g)
      · have t1 : tK h 1 = 1 := n1.resolve_right (fun w => rr (.inl w))
        have t0 : tK h 0 = 1 := n0.resolve_right (fun w => rr (.inr w))
        have b1 := v1.e1 t1
        have b0 := v0.e1 t0
        have t1' := v1.i1.mp t1
        have t0' := v0.i1.mp t0
        have a : ∀ Q, Sp fz1 (d + 6) 195 [(3, 1157), (0, o)] h Q = Sp fz1 (d + 5) 198 [(3, 1157), (0, o), (1, tB h 1), (1, tB h 0)] h (fun _ => Q 0) := fun Q => s195w (d := d + 2) V t1 t0
        by_cases hz : (o = 3 ∨ o = 4) ∧ tB h 0 = 0
        · refine OUT.fl (f := 1) (d := d + 2) (by decide) (fun Q => ?_) (fun Q => v403z (d := d + 1) T t0' t1' ho hz.1 (by rw [b0.1]; exact hz.2)) M
          show Sp _ _ _ _ _ _ = _
          rw [a, hz.2, s198z (d := d + 3) F hz.1]
        · have hz2 : o = 3 ∨ o = 4 → tB h 0 ≠ 0 := fun w e => hz ⟨w, e⟩
          by_cases hw : wkV o (tB h 1) (tB h 0) = w32 (wkV o (tB h 1) (tB h 0))
          · refine OUT.ok (h1 := rpH h 2 1 (wkV o (tB h 1) (tB h 0))) (hr1 := puR (tpR hr 2) 1 (wkV o (uB hr 2) (uB hr 1))) (fun Q => ?_) (fun Q => v403w (d := d + 1) T t0' t1' ho (by rw [b0.1]; exact hz2) (by rw [b0.1, b1.1]; exact hw)) ?_
            · show Sp _ _ _ _ _ _ = _
              rw [a, s198a (d := d + 2) V op hz2 hw hn]
            · rw [b0.1, b1.1]
              exact RP (vv_1 (by rw [hw]; exact w32_r _))
          · refine OUT.fl (f := 7) (d := d + 2) (by decide) (fun Q => ?_) (fun Q => v403x (d := d + 1) T t0' t1' ho (by rw [b0.1]; exact hz2) (by rw [b0.1, b1.1]; exact hw)) M
            show Sp _ _ _ _ _ _ = _
            rw [a, s198f (d := d + 2) F op hz2 hw]
    · exact OUT.fl (d := d + 2) (ln_r l0) (fun Q => s195f (d := d + 2) V F (by rw [if_pos l1]) l0) (fun Q => v403f (d := d + 1) T v0.r.2.1 v1.r.2.1 (by rw [← v1.ln, if_pos l1, v0.ln]) l0) M
  · exact OUT.fl (d := d + 2) (ln_r l1) (fun Q => s195f (d := d + 2) V F (by rw [if_neg l1]) l1) (fun Q => v403f (d := d + 1) T v0.r.2.1 v1.r.2.1 (by rw [← v1.ln, if_neg l1]) l1) M
end VM
