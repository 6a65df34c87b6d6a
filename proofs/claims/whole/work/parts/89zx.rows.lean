/-! THE PURE SIDE, 120: the two machines alike: rows: printed by wip/tools/gen89zx.py -/
def DT (m : HV) : Prop := RRw m ∧ RIt m ∧ RMk m ∧ RVl m ∧ RRm m
theorem mono_0 {h : HV} (R : RW h) {r : Int} (h0 : 0 ≤ r) (h1 : r < h 643 2) : 0 ≤ h (h 643 0) r := (R.2.2.2.2.2.2 r h0 h1).2.2.2
theorem DT_it {m : HV} {r i v : Int} (D : DT m) (hr : 0 ≤ r ∧ r < m 643 2) (hi : 0 ≤ i ∧ i < rwZ m r) (hv : ITK (m 10272 (r + rb m)) (m 836 4) (m 928) v) : DT (hset (itH m r i v) 10401 (64 * (r + rb m) + i) v) := by
  obtain ⟨W, I, M, L, Rm⟩ := D
  have R := W.1
  have n1 := R.1
  have n2 := R.2.1
  have V1 := L.1
  have V2 := L.2.1
  have V3 := L.2.2.1
  have V4 := L.2.2.2.1
  unfold NFA at n1 n2 V1 V2
  have iz := fun s => itH_z (r := r) (i := i) (v := v) (s := s) R
  have ii := fun s j hs hj => itH_i (r := r) (i := i) (v := v) (s := s) (j := j) R hr hi hs hj
  have q := (R.2.2.2.2.2.2 r hr.1 hr.2)
  have W2 := RRw_it (v := v) W hr hi
  generalize e2 : hset (itH m r i v) 10401 (64 * (r + rb m) + i) v = m2 at *
  have w : ∀ a, a ≠ m 643 1 → a ≠ 10401 → m2 a = m a := fun a p q => by rw [← e2, hs_ne q, itH_ne p]
  have e : ∀ a, a ≠ 801 ∧ a ≠ 10401 ∧ a < 13056 → m2 a = m a := fun a q => w a (by omega) q.2.1
  have d6 : m2 (m 1222 0) = m (m 1222 0) := w _ (by omega) (by omega)
  have d7 : m2 (m 1222 1) = m (m 1222 1) := w _ (by omega) (by omega)
  have s0 : m2 (m 643 0) = m (m 643 0) := w _ (by omega) (by omega)
  have w1 : m2 (m 643 1) (-1) = m (m 643 1) (-1) := by
    rw [← e2, hs_ne (by omega)]
    unfold itH
    rw [hcell (by have := mono_0 R hr.1 hr.2; omega)]
  have e643 := e 643 (by decide)
  have eb : rb m2 = rb m := by unfold rb; rw [e643]
  have ez : ∀ s, rwZ m2 s = rwZ m s := fun s => by unfold rwZ; rw [e643, s0]
  refine ⟨W2, ?_, g_Mk e643 (e _ (by decide)) (congrFun (e 836 (by decide)) 4) (e _ (by decide)) (e _ (by decide)) (e _ (by decide)) M, g_Vl e643 (e _ (by decide)) (e _ (by decide)) d6 d7 L, g_Rm e643 (e _ (by decide)) (e _ (by decide)) (by rw [s0]) w1 d6 d7 Rm⟩
  intro j j0 j1
  rw [e643] at j1
  rw [eb, e 10272 (by decide), e 836 (by decide), e 928 (by decide)]
  refine ⟨(I j j0 j1).1, fun t t0 t1 => ?_⟩
  rw [ez] at t1
  have ev : rwI m2 j t = if j = r ∧ t = i then v else rwI m j t := by
    rw [← ii j t ⟨j0, j1⟩ ⟨t0, t1⟩]
    unfold rwI
    have u : itH m r i v 643 = m 643 := itH_ne (by omega)
    have u0 : itH m r i v (m 643 0) = m (m 643 0) := itH_ne (by omega)
    have u1 : m2 (m 643 1) = itH m r i v (m 643 1) := by rw [← e2, hs_ne (by omega)]
    rw [e643, s0, u, u0, u1]
  rw [ev]
  by_cases c : j = r ∧ t = i
  · rw [if_pos c, c.1]; exact hv
  · rw [if_neg c]; exact (I j j0 j1).2 t t0 t1
theorem DT_mk {m m2 : HV} {n v t : Int} (D : DT m) (T : TWO m m2 n v t) (ht : 4 ≤ t ∧ t ≤ 7) (hv : v = if 5 < t then -9 else 0) : DT m2 := by
  obtain ⟨W, I, M, L, Rm⟩ := D
  have R := W.1
  have n1 := R.1
  have n2 := R.2.1
  have V1 := L.1
  have V2 := L.2.1
  have V3 := L.2.2.1
  have V4 := L.2.2.2.1
  unfold NFA at n1 n2 V1 V2
  obtain ⟨t1, t2, t3, t4, t5, t6, t7, t8, t9, t10, t11, t12, t13, t14, t15, t16⟩ := T
  have r3 := R.2.2.1
  have e : ∀ a, a ≠ 643 ∧ a ≠ 736 ∧ a ≠ 801 ∧ a ≠ 10401 ∧ a ≠ 10336 ∧ a ≠ 10272 ∧ a ≠ 6603 ∧ a ≠ 0 ∧ a < 13056 → m2 a = m a := fun a q => t10 a (by omega) (by omega) (by omega) (by omega) (by omega) (by omega) (by omega) (by omega) (by omega)
  have d6 : m2 (m 1222 0) = m (m 1222 0) := t10 _ (by omega) (by omega) (by omega) (by omega) (by omega) (by omega) (by omega) (by omega) (by omega)
  have d7 : m2 (m 1222 1) = m (m 1222 1) := t10 _ (by omega) (by omega) (by omega) (by omega) (by omega) (by omega) (by omega) (by omega) (by omega)
  have m12 : m2 1222 = m 1222 := e _ (by decide)
  refine ⟨t1, ?_, ?_, ?_, ?_⟩
  · intro j j0 j1
    rw [t2] at j1
    rw [e 836 (by decide), e 928 (by decide), t4]
    by_cases jj : j < m 643 2
    · obtain ⟨ta, tb⟩ := t7 j j0 jj
      rw [t5 (j + rb m) (by unfold rb; omega), ta]
      refine ⟨(I j j0 jj).1, fun i i0 i1 => ?_⟩
      rw [tb i i0 i1]; exact (I j j0 jj).2 i i0 i1
    · have jj : j = m 643 2 := by omega
      rw [jj, show m 643 2 + rb m = m 643 3 by unfold rb; omega, t6, t8]
      refine ⟨ht, fun i i0 i1 => ?_⟩
      rw [t9 i i0 i1, hv]
      refine ⟨fun w => ?_, fun w => ?_, fun w => ?_⟩
      · rw [if_neg (by omega)]; unfold I32; decide
      · rw [if_neg (by omega)]; exact ⟨by decide, .inr (neN (by decide) (by rw [mg_0]; decide))⟩
      · rw [if_pos (by omega)]; exact .inl rfl
  · intro p p0 p1 c c0 c1
    rw [e 836 (by decide)] at p1
    rw [t4, t2, e 1120 (by decide), e 10208 (by decide), e 928 (by decide)]
    rcases M p p0 p1 c c0 c1 with w | ⟨w1, w2, w3, w4⟩
    · exact .inl w
    · refine .inr ⟨w1, by omega, w3, ?_⟩
      rw [t5 _ (by unfold rb; omega)]
      exact w4
  · unfold RVl NFA
    rw [m12, d6, d7]
    obtain ⟨v1, v2, v3, v4, v5, v6⟩ := L
    refine ⟨⟨V1.1, V1.2.1, V1.2.2.1, by omega, by omega⟩, ⟨V2.1, V2.2.1, V2.2.2.1, by omega, by omega⟩, ?_, ?_, v5, v6⟩
    · rcases t15 with u | u
      · rw [u]; exact V3
      · omega
    · rcases t16 with u | u
      · rw [u]; exact V4
      · omega
  · unfold RRm at Rm ⊢
    rw [m12, d6, d7]
    omega
theorem mx_set {h hr : HV} {a p v b q w : Int} (ha : ¬ (6603 ≤ a ∧ a < 13056)) (hb : 6603 ≤ b ∧ b < 13056) : mixH (hset h a p v) (hset hr b q w) = hset (hset (mixH h hr) a p v) b q w := by
  funext o i
  by_cases c : 6603 ≤ o ∧ o < 13056
  · rw [mx_r c.1 c.2, hset_v, hset_v, hset_v, mx_r c.1 c.2]
    by_cases e : o = b ∧ i = q
    · rw [if_pos e, if_pos e]
    · rw [if_neg e, if_neg e, if_neg (by omega)]
  · rw [mx_c c, hset_v, hset_v, hset_v, mx_c c]
    by_cases e : o = a ∧ i = p
    · rw [if_pos e, if_neg (by omega)]
    · rw [if_neg e, if_neg (by omega)]
section VM
variable {K B Br h hr h2 hr2 : HV} {n n2 n0 : Nat} {q E k k2 : Int} {x y : CX} {l L L2 : List FRT} {g : CFG}
theorem STA.it {r i v : Int} (S : STA B Br h hr) (hr0 : 0 ≤ r ∧ r < h 643 2) (hi : 0 ≤ i ∧ i < rwZ h r) (hv : ITK (hr 10272 (r + rb h)) (h 836 4) (h 928) v) : STA B Br (hset h (h 643 1) (h (h 643 0) r + i) v) (hset hr 10401 (64 * (r + rb h) + i) v) := by
  obtain ⟨R, d, rbb, -, -⟩ := S.RW
  obtain ⟨F, G, V, D⟩ := S
  have ar := V.ar
  have md := V.md
  have n1 := R.1
  have n2 := R.2.1
  unfold NFA at n1 n2
  have m6 : mixH h hr 643 = h 643 := mx_c (by decide)
  have a1 : mixH h hr (h 643 0) = h (h 643 0) := mx_c (by omega)
  have eb : rb (mixH h hr) = rb h := by unfold rb; rw [m6]
  have ez : rwZ (mixH h hr) = rwZ h := by funext r; unfold rwZ; rw [m6, a1]
  have mono := mono_0 R hr0.1 hr0.2
  refine ⟨⟨fun o a b c e f t => by rw [hs_ne (by omega)]; exact F.1 o a b c e f t, fun s w => by rw [hs_ne (by omega)]; exact F.2.1 s w, by have w := F.2.2; unfold rb at w ⊢; rw [hs_ne (show 643 ≠ h 643 1 by omega)]; exact w⟩, ⟨fun o a b => by rw [hs_ne (by omega)]; exact G.1 o a b, fun s a b c e f => by rw [hs_ne (by decide)]; exact G.2 s a b c e f⟩, ?_, ?_⟩
  · have e12 : hset h (h 643 1) (h (h 643 0) r + i) v 1222 = h 1222 := hs_ne (by omega)
    have e0 : hset h (h 643 1) (h (h 643 0) r + i) v 0 = h 0 := hs_ne (by omega)
    unfold VOK at *
    rw [e12, e0, hs_ne (o := h 643 1) (by omega), hs_ne (o := h 643 1) (by omega)]
    exact V
  · show DT (mixH (hset h (h 643 1) (h (h 643 0) r + i) v) (hset hr 10401 (64 * (r + rb h) + i) v))
    rw [mx_set (by omega) (by decide)]
    have z := DT_it (m := mixH h hr) (r := r) (i := i) (v := v) D (by rw [m6]; exact hr0) (by rw [ez]; exact hi) (by rw [eb, mx_r (a := 10272) (by decide) (by decide), mx_c (a := 836) (by decide), mx_c (a := 928) (by decide)]; exact hv)
    unfold itH at z
    rw [m6, a1, eb] at z
    exact z
/-- rows have changed, nothing else -/
theorem VMS.dat (O : KOK K) (M : VMS K B Br h hr n L) (S : STA B Br h2 hr2) (mv : ∀ k b k' b', VVh h hr k b k' b' → VVh h2 hr2 k b k' b') (co : ∀ o, 1157 ≤ o → o ≤ 1926 → o ≠ 1312 → o ≠ 1377 → h2 o = h o) (cc : ∀ p, cK h2 p = cK h p ∧ cB h2 p = cB h p) (rs : ∀ s, s ≠ 30 → hr2 6603 s = hr 6603 s) (ro : ∀ o, 10464 ≤ o → o ≤ 11361 → hr2 o = hr o) : VMS K B Br h2 hr2 n L := by
  obtain ⟨-, ⟨s1, s2, s3, s4, s5, s6, s7, s8, s9, s10, s11, s12, s13⟩, A⟩ := M
  have c57 := co 1157 (by decide) (by decide) (by decide) (by decide)
  have c22 := co 1222 (by decide) (by decide) (by decide) (by decide)
  refine ⟨S, ⟨s1, by rw [c57]; exact s2, by rw [c22]; exact s3, by rw [rs 36 (by decide)]; exact s4, by rw [rs 41 (by decide)]; exact s5, by rw [c57]; exact s6, by rw [rs 44 (by decide)]; exact s7, by rw [c57, rs 53 (by decide), rs 54 (by decide)]; exact s8, by rw [c57, rs 55 (by decide)]; exact s9, by rw [rs 56 (by decide), rs 58 (by decide), rs 59 (by decide)]; exact s10, by rw [c57]; exact s11, by rw [c57]; exact s12, by rw [c57]; exact s13⟩, ?_⟩
  have g1 : ∀ o, 1440 ≤ o → o ≤ 1926 → h2 o = h o := fun o a b => co o (by omega) b (by omega) (by omega)
  refine ALF.ag O (Nat.le_refl n) _ ⟨mv, fun p _ _ => cc p, fun j _ _ => by rw [g1 1440 (by decide) (by decide), g1 1504 (by decide) (by decide), ro 10848 (by decide) (by decide), ro 10912 (by decide) (by decide)]; exact ⟨rfl, rfl, rfl, rfl⟩, fun i _ _ => by rw [ro 10592 (by decide) (by decide), ro 10657 (by decide) (by decide)]; exact ⟨rfl, rfl⟩, fun i _ _ => by rw [ro 10720 (by decide) (by decide), ro 10784 (by decide) (by decide)]; exact ⟨rfl, rfl⟩, fun i _ _ => by rw [ro 10464 (by decide) (by decide), ro 10529 (by decide) (by decide)]; exact ⟨rfl, rfl⟩, ⟨fun t _ _ => ?_, fun g _ _ => ?_⟩, by rw [(cc _).1]; omega⟩ A
  · rw [g1 1568 (by decide) (by decide), g1 1632 (by decide) (by decide), g1 1696 (by decide) (by decide), g1 1760 (by decide) (by decide), g1 1824 (by decide) (by decide), g1 1889 (by decide) (by decide)]
    exact ⟨rfl, rfl, rfl, rfl, rfl, rfl⟩
  · rw [ro 10976 (by decide) (by decide), ro 11040 (by decide) (by decide), ro 11104 (by decide) (by decide), ro 11168 (by decide) (by decide), ro 11232 (by decide) (by decide), ro 11296 (by decide) (by decide), ro 11361 (by decide) (by decide)]
    exact ⟨rfl, rfl, rfl, rfl, rfl, rfl, rfl⟩
/-- an item is written on both sides -/
theorem VMS.it {r i v : Int} (O : KOK K) (M : VMS K B Br h hr n L) (hr0 : 0 ≤ r ∧ r < h 643 2) (hi : 0 ≤ i ∧ i < rwZ h r) (hv : ITK (hr 10272 (r + rb h)) (h 836 4) (h 928) v) : VMS K B Br (hset h (h 643 1) (h (h 643 0) r + i) v) (hset hr 10401 (64 * (r + rb h) + i) v) n L := by
  have S := M.1
  obtain ⟨R, d, rbb, -, -⟩ := S.RW
  have V := S.2.2.1
  have ar := V.ar
  have md := V.md
  have n1 := R.1
  have n2 := R.2.1
  unfold NFA at n1 n2
  have e12 : hset h (h 643 1) (h (h 643 0) r + i) v 1222 = h 1222 := hs_ne (by omega)
  refine M.dat O (S.it hr0 hi hv) (fun k b k' b' w => ?_) (fun o a b _ _ => hs_ne (by omega)) (fun p => ?_) (fun s _ => by rw [hs_ne (by decide)]) (fun o a b => hs_ne (by omega))
  · unfold VVh rb at *
    rw [hs_ne (o := h 643 1) (by omega), hs_ne (o := h 643 1) (by omega), hs_ne (by decide)]
    exact w
  · unfold cK cB
    rw [e12, hs_ne (by omega), hs_ne (by omega)]
    exact ⟨rfl, rfl⟩
end VM
