/-! THE PURE SIDE, 135: stand: printed by wip/tools/gen89zzm.py -/
theorem mg_sml {a : Int} (h0 : 0 ≤ a) (h1 : a < 1000000) : ¬ 9218868437227405312 < mg a := by
  unfold mg U
  omega
/-- the ordered pupils, alike on both sides -/
def SDR (hc hr : HV) (p n : Int) : Prop := hc 64 16 = n ∧ (0 ≤ n ∧ n ≤ p ∧ p ≤ 24) ∧ ∀ k, 0 ≤ k → k < n → hr 11488 k = hc 6432 k ∧ (0 ≤ hc 6432 k ∧ hc 6432 k < p) ∧ hr 11552 (hc 6432 k) = hc 6496 k ∧ (hc 6496 k = 0 → L64 (hc 6561 k) ∧ ¬ 9218868437227405312 < mg (hc 6561 k) ∧ hr 11618 (hc 6432 k) = hc 6561 k)
def SDC (h hc : HV) : Prop := (∀ o, o < 13056 → ¬ (1157 ≤ o ∧ o ≤ 1926) → o ≠ 0 → o ≠ 64 → o ≠ 643 → o ≠ 736 → o ≠ 801 → o ≠ 6432 → o ≠ 6496 → o ≠ 6561 → hc o = h o) ∧ (∀ s, s ≠ 16 → hc 64 s = h 64 s) ∧ (∀ s, s ≤ 3 → hc 1157 s = h 1157 s) ∧ rb hc = rb h ∧ h 643 2 ≤ hc 643 2
def SDF (hr h2 : HV) : Prop := (∀ o, o ≠ 6603 → ¬ (10272 ≤ o ∧ o ≤ 11679) → h2 o = hr o) ∧ ∀ s, s ≠ 30 → s ≠ 36 → s ≠ 41 → s ≠ 44 → ¬ (52 ≤ s ∧ s ≤ 59) → h2 6603 s = hr 6603 s
def SDL (h hr hc h2 : HV) (p n : Int) : Prop := SDC h hc ∧ SDF hr h2 ∧ VOK hc ∧ DATA hc h2 ∧ (hc 1157 15 = h2 6603 55 ∧ 0 ≤ hc 1157 15 ∧ hc 1157 15 ≤ 10000) ∧ SDR hc h2 p n
theorem SDL.env {K h hr hc h2 : HV} {p n : Int} (N : ENV K h hr) (S : SDL h hr hc h2 p n) : ENV K hc h2 := by
  obtain ⟨⟨c1, c2, c3, -⟩, ⟨f1, f2⟩, -⟩ := S
  have hT := N.cd.1
  have hS := N.S
  have P := N.2.1
  refine env_of N ?_ (c3 3 (by decide)) (fun x a b => ?_) (f2 9 (by decide) (by decide) (by decide) (by decide) (by decide)) (fun x a b => ?_)
  · have ec : ∀ o, 836 ≤ o → o ≤ 1156 → mixH hc h2 o = mixH h hr o := fun o a b => by rw [mx_c (by omega), mx_c (by omega)]; exact c1 o (by omega) (by omega) (by omega) (by omega) (by omega) (by omega) (by omega) (by omega) (by omega) (by omega)
    have er : ∀ o, 10000 ≤ o → o ≤ 10271 → mixH hc h2 o = mixH h hr o := fun o a b => by rw [mx_r (by omega) (by omega), mx_r (by omega) (by omega)]; exact f1 o (by omega) (by omega)
    refine f_P ?_ (by rw [ec 836 (by decide) (by decide)]) (er 10016 (by decide) (by decide)) (ec 928 (by decide) (by decide)) (er 10080 (by decide) (by decide)) (ec 992 (by decide) (by decide)) (er 10144 (by decide) (by decide)) (ec 1056 (by decide) (by decide)) P
    rw [mx_r (by decide) (by decide), mx_r (by decide) (by decide)]
    exact f2 25 (by decide) (by decide) (by decide) (by decide) (by decide)
  · rcases hT with w | w <;> exact c1 _ (by omega) (by omega) (by omega) (by omega) (by omega) (by omega) (by omega) (by omega) (by omega) (by omega)
  · rcases hS with w | w <;> exact f1 _ (by omega) (by omega)
theorem SDL.sta {h hr hc h2 : HV} {p n : Int} (S : SDL h hr hc h2 p n) : STA hc h2 hc h2 := ⟨⟨fun _ _ _ _ _ _ _ => rfl, fun _ _ => rfl, rfl, Int.le_refl _⟩, ⟨fun _ _ _ => rfl, fun _ _ _ _ _ _ => rfl⟩, S.2.2.1, S.2.2.2.1⟩
/-- what the data are read from is the same -/
theorem data_of {hc h2 hc' h2' : HV} (D : DATA hc h2) (V : VOK hc) (c : ∀ o, o ≠ 64 → o ≠ 6432 → o ≠ 6496 → o ≠ 6561 → hc' o = hc o) (r : ∀ o, o ≠ 11488 → o ≠ 11552 → o ≠ 11618 → o ≠ 6603 → h2' o = h2 o) (r30 : h2' 6603 30 = h2 6603 30) : DATA hc' h2' := by
  unfold DATA at *
  obtain ⟨w1, w2, w3, w4, w5⟩ := D
  have ar := V.ar
  have mF : ∀ o, o ≠ 64 → o ≠ 6432 → o ≠ 6496 → o ≠ 6561 → o ≠ 11488 → o ≠ 11552 → o ≠ 11618 → o ≠ 6603 → mixH hc' h2' o = mixH hc h2 o := fun o a1 a2 a3 a4 b1 b2 b3 b4 => by
    unfold mixH
    split
    · exact r o b1 b2 b3 b4
    · exact c o a1 a2 a3 a4
  have n1 := w1.1.1
  have n2 := w1.1.2.1
  unfold NFA at n1 n2
  have n3 := w4.1
  have n4 := w4.2.1
  unfold NFA at n3 n4
  have DY : DYF (mixH hc h2) (mixH hc' h2') := by
    refine ⟨mF _ (by decide) (by decide) (by decide) (by decide) (by decide) (by decide) (by decide) (by decide), mF _ (by decide) (by decide) (by decide) (by decide) (by decide) (by decide) (by decide) (by decide), mF _ (by decide) (by decide) (by decide) (by decide) (by decide) (by decide) (by decide) (by decide), mF _ (by omega) (by omega) (by omega) (by omega) (by omega) (by omega) (by omega) (by omega), mF _ (by omega) (by omega) (by omega) (by omega) (by omega) (by omega) (by omega) (by omega), mF _ (by omega) (by omega) (by omega) (by omega) (by omega) (by omega) (by omega) (by omega), mF _ (by omega) (by omega) (by omega) (by omega) (by omega) (by omega) (by omega) (by omega), mF _ (by decide) (by decide) (by decide) (by decide) (by decide) (by decide) (by decide) (by decide), mF _ (by decide) (by decide) (by decide) (by decide) (by decide) (by decide) (by decide) (by decide), mF _ (by decide) (by decide) (by decide) (by decide) (by decide) (by decide) (by decide) (by decide), ?_⟩
    rw [mx_r (by decide) (by decide), mx_r (by decide) (by decide)]
    exact r30
  have e8 := mF 836 (by decide) (by decide) (by decide) (by decide) (by decide) (by decide) (by decide) (by decide)
  have e9 := mF 928 (by decide) (by decide) (by decide) (by decide) (by decide) (by decide) (by decide) (by decide)
  exact ⟨f_Rw DY w1, f_It DY (by rw [e8]) e9 w2, f_Mk DY (by rw [e8]) (mF 1120 (by decide) (by decide) (by decide) (by decide) (by decide) (by decide) (by decide) (by decide)) (mF 10208 (by decide) (by decide) (by decide) (by decide) (by decide) (by decide) (by decide) (by decide)) e9 w3, f_Vl DY w4, f_Rm DY w5⟩
theorem pl_ne {h : HV} {n k p gr re o : Int} (a : o ≠ 64) (b : o ≠ 6432) (c : o ≠ 6496) (e : o ≠ 6561) : plcH h n k p gr re o = h o := by
  unfold plcH
  rw [hs_ne a, hs_ne e, hs_ne c, hs_ne b, sh3_ne (by omega)]
theorem pl_64 {h : HV} {n k p gr re s : Int} (a : s ≠ 16) : plcH h n k p gr re 64 s = h 64 s := by
  unfold plcH
  rw [hcell a, hs_ne (by decide), hs_ne (by decide), hs_ne (by decide), sh3_ne (by decide)]
theorem pl_16 {h : HV} {n k p gr re : Int} : plcH h n k p gr re 64 16 = n + 1 := hcel1
theorem pl_v {h : HV} {n k p gr re i : Int} : (plcH h n k p gr re 6432 i = if i = k then p else if k < i ∧ i ≤ n then h 6432 (i - 1) else h 6432 i) ∧ (plcH h n k p gr re 6496 i = if i = k then gr else if k < i ∧ i ≤ n then h 6496 (i - 1) else h 6496 i) ∧ (plcH h n k p gr re 6561 i = if i = k then re else if k < i ∧ i ≤ n then h 6561 (i - 1) else h 6561 i) := by
  have e : ∀ a, (a = 6432 ∨ a = 6496 ∨ a = 6561) → sh3 h n k a i = if k < i ∧ i ≤ n then h a (i - 1) else h a i := fun a w => by
    unfold sh3
    by_cases u : k < i ∧ i ≤ n
    · rw [if_pos ⟨w, u⟩, if_pos u]
    · rw [if_neg (show ¬ ((a = 6432 ∨ a = 6496 ∨ a = 6561) ∧ k < i ∧ i ≤ n) from fun v => u v.2), if_neg u]
  unfold plcH
  refine ⟨?_, ?_, ?_⟩
  · rw [hs_ne (by decide), hs_ne (by decide), hs_ne (by decide), hset_eq, e 6432 (.inl rfl)]
  · rw [hs_ne (by decide), hs_ne (by decide), hset_eq, hs_ne (by decide), e 6496 (.inr (.inl rfl))]
  · rw [hs_ne (by decide), hset_eq, hs_ne (by decide), hs_ne (by decide), e 6561 (.inr (.inr rfl))]
theorem st_v {H : HV} {n k p i : Int} : hset (shH H 11488 n k) 11488 k p 11488 i = if i = k then p else if k < i ∧ i ≤ n then H 11488 (i - 1) else H 11488 i := by
  rw [hset_eq]
  by_cases e : i = k
  · rw [if_pos e, if_pos e]
  · rw [if_neg e, if_neg e]
    unfold shH
    by_cases u : k < i ∧ i ≤ n
    · rw [if_pos ⟨rfl, u⟩, if_pos u]
    · rw [if_neg (show ¬ ((11488 : Int) = 11488 ∧ k < i ∧ i ≤ n) from fun v => u v.2), if_neg u]
theorem st_ne {H : HV} {n k p o : Int} (w : o ≠ 11488) : hset (shH H 11488 n k) 11488 k p o = H o := by rw [hs_ne w, sh_ne w]
/-- what a run gave, as a pupil's place asks for it -/
theorem put_v {K hc h2 h1 hr1 : HV} {x : Int} (N : ENV K h1 hr1) (e57 : hr1 6603 57 = x) (F : FINR hc h2 h1 hr1 x) : (x = 1 → I32 (h1 1157 20)) ∧ (¬ hr1 6603 58 = 1 → vn_snl2d (Int64.ofInt (hr1 6603 59)) = false) ∧ kdT hr1 = grS h1 x ∧ (grS h1 x = 0 → L64 (rlS h1 x) ∧ ¬ 9218868437227405312 < mg (rlS h1 x) ∧ dvT hr1 = rlS h1 x) := by
  obtain ⟨S, w17, w15, res⟩ := F
  have cn_L : ∀ u, L64 (cn u) := fun u => (CANR_cn u).L
  rcases res with ⟨x0, z20, z58, z59⟩ | ⟨x0, v⟩
  · have e2 : grS h1 x = 2 := by unfold grS; rw [if_neg (by omega)]
    have e3 : kdT hr1 = 2 := by unfold kdT; rw [if_neg (by omega)]
    refine ⟨fun w => by omega, fun _ => ?_, by rw [e2, e3], fun w => by omega⟩
    rw [z59]
    exact snl_of (by unfold L64; omega) (.inr (mg_sml (by decide) (by decide)))
  · have vr := v.r
    by_cases x1 : x = 1
    · have e1 := v.e1 x1
      have k1 := v.i1.mp x1
      have er : rlS h1 x = cn (FP.l2d (Int64.ofInt (h1 1157 20))) := if_pos x1
      have ed : dvT hr1 = rlS h1 x := by
        unfold dvT
        rw [if_pos k1, e1.1, er, cn_l2d]
      have L := cn_L (FP.l2d (Int64.ofInt (h1 1157 20)))
      rw [← er] at L
      refine ⟨fun _ => e1.2, fun w => absurd k1 w, ?_, fun w => ?_⟩
      · have a1 : kdT hr1 = if d_cmp .l (dvT hr1) (dvT hr1) = 0 then 0 else 1 := if_pos ⟨by omega, .inl k1⟩
        have a2 : grS h1 x = if 9218868437227405312 < mg (rlS h1 x) then 1 else 0 := if_pos (.inl x1)
        rw [a1, a2, ed]
        by_cases nn : 9218868437227405312 < mg (rlS h1 x)
        · rw [if_pos nn, if_neg (by rw [(dcN L L (.inl nn)).1]; decide)]
        · rw [if_neg nn, if_pos (by rw [dc_e L L nn nn])]
      · have a2 : grS h1 x = if 9218868437227405312 < mg (rlS h1 x) then 1 else 0 := if_pos (.inl x1)
        rw [a2] at w
        refine ⟨L, fun nn => ?_, ed⟩
        rw [if_pos nn] at w
        omega
    · by_cases x2 : x = 2
      · have e2 := v.e2 x2
        have k2 := v.i2.mp x2
        have er : rlS h1 x = h1 1157 20 := if_neg x1
        have ed : dvT hr1 = rlS h1 x := by
          unfold dvT
          rw [if_neg (by omega), e2.1, er]
        have L := e2.2.L
        rw [← er] at L
        refine ⟨fun w => absurd w x1, fun _ => by rw [e2.1]; exact e2.2.s, ?_, fun w => ?_⟩
        · have a1 : kdT hr1 = if d_cmp .l (dvT hr1) (dvT hr1) = 0 then 0 else 1 := if_pos ⟨by omega, .inr k2⟩
          have a2 : grS h1 x = if 9218868437227405312 < mg (rlS h1 x) then 1 else 0 := if_pos (.inr x2)
          rw [a1, a2, ed]
          by_cases nn : 9218868437227405312 < mg (rlS h1 x)
          · rw [if_pos nn, if_neg (by rw [(dcN L L (.inl nn)).1]; decide)]
          · rw [if_neg nn, if_pos (by rw [dc_e L L nn nn])]
        · have a2 : grS h1 x = if 9218868437227405312 < mg (rlS h1 x) then 1 else 0 := if_pos (.inr x2)
          rw [a2] at w
          refine ⟨L, fun nn => ?_, ed⟩
          rw [if_pos nn] at w
          omega
      · have n1 : ¬ hr1 6603 58 = 1 := fun w => x1 (v.i1.mpr w)
        have n2 : ¬ hr1 6603 58 = 2 := fun w => x2 (v.i2.mpr w)
        have e2 : grS h1 x = 2 := by unfold grS; rw [if_neg (by omega)]
        have e3 : kdT hr1 = 2 := by unfold kdT; rw [if_neg (by omega)]
        refine ⟨fun w => absurd w x1, fun _ => ?_, by rw [e2, e3], fun w => by omega⟩
        by_cases x0' : x = 0
        · rw [v.e0 x0']
          exact snl_of (by unfold L64; omega) (.inr (mg_sml (by decide) (by decide)))
        by_cases x3 : x = 3
        · have e := v.e3 x3
          have P := N.pp.2.1
          rw [e.1]
          exact snl_of (by unfold L64; omega) (.inr (mg_sml e.2.1 (by omega)))
        · have e := v.e4 (by omega)
          obtain ⟨-, -, rr, -⟩ := S.RW
          exact snl_of (by unfold L64; omega) (.inr (mg_sml (by omega) (by omega)))
theorem ahe_eq {h H : HV} {gr re p k : Int} (hp : H 11488 k = h 6432 k ∧ (0 ≤ h 6432 k ∧ h 6432 k < p)) (e1 : H 11552 p = gr) (e2 : H 11552 (h 6432 k) = h 6496 k) (e3 : gr = 0 → L64 re ∧ ¬ 9218868437227405312 < mg re ∧ H 11618 p = re) (e4 : h 6496 k = 0 → L64 (h 6561 k) ∧ ¬ 9218868437227405312 < mg (h 6561 k) ∧ H 11618 (h 6432 k) = h 6561 k) : aheC h gr re k = aheR H p (H 11488 k) := by
  unfold aheC aheR
  rw [hp.1, e1, e2]
  by_cases a : gr = h 6496 k
  · rw [if_pos a, if_pos a]
    by_cases g0 : gr = 0
    · obtain ⟨L, nn, ed⟩ := e3 g0
      obtain ⟨L2, nn2, ed2⟩ := e4 (by omega)
      rw [ed, ed2]
      have q := dc_e (op := .l) L L2 nn nn2
      have q' := dc_h (op := .g) L L2 nn nn2
      by_cases lt : od re < od (h 6561 k)
      · have z1 : ltR re (h 6561 k) = 1 := if_pos ⟨nn, nn2, lt⟩
        have z2 : ¬ d_cmp .l re (h 6561 k) = 0 := by rw [q]; omega
        have z3 : d_cmp .g re (h 6561 k) < 0 := by
          by_cases w : 0 ≤ d_cmp .g re (h 6561 k)
          · rw [q'] at w
            omega
          · omega
        rw [if_pos (show gr = 0 ∧ ltR re (h 6561 k) = 1 from ⟨g0, z1⟩), if_pos (show gr = 0 ∧ ¬ d_cmp .l re (h 6561 k) = 0 from ⟨g0, z2⟩), if_pos z3]
      · have z1 : ltR re (h 6561 k) = 0 := if_neg (fun w => lt w.2.2)
        rw [if_neg (show ¬ (gr = 0 ∧ ltR re (h 6561 k) = 1) from fun w => by omega)]
        by_cases eq : od re = od (h 6561 k)
        · rw [if_neg (show ¬ (gr = 0 ∧ ¬ d_cmp .l re (h 6561 k) = 0) from fun w => w.2 (by rw [q]; exact eq)), if_neg (show ¬ p < h 6432 k by omega)]
        · have z3 : ¬ d_cmp .g re (h 6561 k) < 0 := by
            have : 0 ≤ d_cmp .g re (h 6561 k) := by rw [q']; omega
            omega
          rw [if_pos (show gr = 0 ∧ ¬ d_cmp .l re (h 6561 k) = 0 from ⟨g0, by rw [q]; exact eq⟩), if_neg z3]
    · rw [if_neg (show ¬ (gr = 0 ∧ ltR re (h 6561 k) = 1) from fun w => g0 w.1), if_neg (show ¬ (gr = 0 ∧ ¬ d_cmp .l (H 11618 p) (H 11618 (h 6432 k)) = 0) from fun w => g0 w.1), if_neg (show ¬ p < h 6432 k by omega)]
  · rw [if_neg a, if_neg a]
/-- a pupil is put in its place -/
theorem sdl_put {K h hr hc h2 h1 hr1 : HV} {p n x : Int} (N : ENV K h1 hr1) (S : SDL h hr hc h2 p n) (hp : 0 ≤ p ∧ p < 24) (e57 : hr1 6603 57 = x) (F : FINR hc h2 h1 hr1 x) :
    (h1 64 16 = n ∧ (x = 1 → I32 (h1 1157 20)) ∧ ∀ k, 0 ≤ k → k < n → grS h1 x = 0 → h1 6496 k = 0 → L64 (rlS h1 x) ∧ L64 (h1 6561 k)) ∧ (¬ hr1 6603 58 = 1 → vn_snl2d (Int64.ofInt (hr1 6603 59)) = false) ∧ (∀ k, 0 ≤ k → k < n → 0 ≤ hset (hset hr1 11552 p (kdT hr1)) 11618 p (dvT hr1) 11488 k ∧ hset (hset hr1 11552 p (kdT hr1)) 11618 p (dvT hr1) 11488 k < 24) ∧
    SDL h hr (plcH h1 n (psF (aheC h1 (grS h1 x) (rlS h1 x)) n.toNat) p (grS h1 x) (rlS h1 x)) (hset (shH (hset (hset hr1 11552 p (kdT hr1)) 11618 p (dvT hr1)) 11488 n (psF (fun j => aheR (hset (hset hr1 11552 p (kdT hr1)) 11618 p (dvT hr1)) p (hset (hset hr1 11552 p (kdT hr1)) 11618 p (dvT hr1) 11488 j)) n.toNat)) 11488 (psF (fun j => aheR (hset (hset hr1 11552 p (kdT hr1)) 11618 p (dvT hr1)) p (hset (hset hr1 11552 p (kdT hr1)) 11618 p (dvT hr1) 11488 j)) n.toNat) p) (p + 1) (n + 1) := by
  obtain ⟨i32, snl, ek, eg⟩ := put_v N e57 F
  obtain ⟨⟨c1, c2, c3, c4, c5⟩, ⟨f1, f2⟩, V, D, b15, ⟨s1, s2, s3⟩⟩ := S
  obtain ⟨⟨⟨u1, u2, u3, u4⟩, ⟨v1, v2⟩, V1, D1⟩, w17, w15, -⟩ := F
  have k64 : h1 64 = hc 64 := u1 64 (by decide) (by decide) (by decide) (by decide) (by decide) (by decide)
  have k32 : h1 6432 = hc 6432 := u1 6432 (by decide) (by decide) (by decide) (by decide) (by decide) (by decide)
  have k96 : h1 6496 = hc 6496 := u1 6496 (by decide) (by decide) (by decide) (by decide) (by decide) (by decide)
  have k61 : h1 6561 = hc 6561 := u1 6561 (by decide) (by decide) (by decide) (by decide) (by decide) (by decide)
  have r88 : hr1 11488 = h2 11488 := v1 11488 (by decide) (by decide)
  have r52 : hr1 11552 = h2 11552 := v1 11552 (by decide) (by decide)
  have r18 : hr1 11618 = h2 11618 := v1 11618 (by decide) (by decide)
  have ar := V1.ar
  rw [ek]
  generalize grS h1 x = gr at *
  generalize rlS h1 x = re at *
  generalize dvT hr1 = dv at *
  generalize eH : hset (hset hr1 11552 p gr) 11618 p dv = H
  have H88 : H 11488 = h2 11488 := by rw [← eH, hs_ne (by decide), hs_ne (by decide), r88]
  have H52 : ∀ i, H 11552 i = if i = p then gr else h2 11552 i := fun i => by rw [← eH, hs_ne (by decide), hset_eq, r52]
  have H18 : ∀ i, H 11618 i = if i = p then dv else h2 11618 i := fun i => by rw [← eH, hset_eq, hs_ne (by decide), r18]
  have Ho : ∀ o, o ≠ 11552 → o ≠ 11618 → H o = hr1 o := fun o a b => by rw [← eH, hs_ne b, hs_ne a]
  clear eH
  have s4 : ∀ k, 0 ≤ k → k < n → H 11488 k = h1 6432 k ∧ (0 ≤ h1 6432 k ∧ h1 6432 k < p) ∧ H 11552 (h1 6432 k) = h1 6496 k ∧ (h1 6496 k = 0 → L64 (h1 6561 k) ∧ ¬ 9218868437227405312 < mg (h1 6561 k) ∧ H 11618 (h1 6432 k) = h1 6561 k) := fun k a b => by
    have z := s3 k a b
    rw [k32, k96, k61, H88, H52, H18, if_neg (by omega), if_neg (by omega)]
    exact z
  have eA : ∀ k, 0 ≤ k → k < ((n.toNat : Nat) : Int) → (fun j => aheR H p (H 11488 j)) k = aheC h1 gr re k := fun k a b => by
    have z := s4 k a (by omega)
    exact (ahe_eq ⟨z.1, z.2.1⟩ (by rw [H52, if_pos rfl]) z.2.2.1 (fun w => by rw [H18, if_pos rfl]; exact eg w) z.2.2.2).symm
  rw [psF_eq n.toNat eA]
  have pb := psF_b (aheC h1 gr re) n.toNat
  generalize psF (aheC h1 gr re) n.toNat = pos at *
  refine ⟨⟨by rw [k64]; exact s1, i32, fun k a b g w => ⟨(eg g).1, ((s4 k a b).2.2.2 w).1⟩⟩, snl, fun k a b => ?_, ⟨?_, ?_, ?_, by rw [pl_ne (by decide) (by decide) (by decide) (by decide)]; exact ⟨c4 ▸ u3, by omega⟩⟩, ⟨fun o a b => ?_, fun s a b c e f => ?_⟩, ?_, ?_, ?_, pl_16, by omega, fun k a b => ?_⟩
  · have z := s4 k a b
    omega
  · intro o a b c d e f g i j l
    rw [pl_ne d i j l, u1 o a b c e f g]
    exact c1 o a b c d e f g i j l
  · intro s w
    rw [pl_64 w, k64]
    exact c2 s w
  · intro s w
    rw [pl_ne (by decide) (by decide) (by decide) (by decide), u2 s w]
    exact c3 s w
  · rw [st_ne (by omega), Ho o (by omega) (by omega), v1 o a (by omega)]
    exact f1 o a b
  · rw [st_ne (by decide), Ho 6603 (by decide) (by decide), v2 s a b c e f]
    exact f2 s a b c e f
  · unfold VOK at *
    rw [pl_ne (o := 1222) (by decide) (by decide) (by decide) (by decide), pl_ne (o := 0) (by decide) (by decide) (by decide) (by decide), pl_ne (o := h1 1222 0) (by omega) (by omega) (by omega) (by omega), pl_ne (o := h1 1222 1) (by omega) (by omega) (by omega) (by omega)]
    exact V1
  · exact data_of D1 V1 (fun o a b c e => pl_ne a b c e) (fun o a b c e => by rw [st_ne a, Ho o b c]) (by rw [st_ne (by decide), Ho 6603 (by decide) (by decide)])
  · rw [pl_ne (by decide) (by decide) (by decide) (by decide), st_ne (by decide), Ho 6603 (by decide) (by decide)]
    exact w15
  · rw [pl_v.1, pl_v.2.1, pl_v.2.2, st_v, st_ne (by decide), st_ne (by decide)]
    by_cases e : k = pos
    · rw [if_pos e, if_pos e, if_pos e, if_pos e, H52, if_pos rfl, H18, if_pos rfl]
      exact ⟨rfl, by omega, rfl, eg⟩
    · rw [if_neg e, if_neg e, if_neg e, if_neg e]
      by_cases u : pos < k ∧ k ≤ n
      · rw [if_pos u, if_pos u, if_pos u, if_pos u]
        have z := s4 (k - 1) (by omega) (by omega)
        exact ⟨z.1, by omega, z.2.2⟩
      · rw [if_neg u, if_neg u, if_neg u, if_neg u]
        have z := s4 k a (by omega)
        exact ⟨z.1, by omega, z.2.2⟩
