/-! THE PURE SIDE, 146: the two parsers' names told, calls and reals: printed by wip/tools/gen89zzx.py -/
section SM
variable {bX : Int} {tp : Int → Int} {t T S s : Int} {h hr g gr : HV} {d : Nat} {Q : Int → HV → Prop}
theorem tell_f {w : Int} (hv : 0 ≤ h 258 6) : ((0 ≤ useV h w ∧ useV h w < tellH h w 258 6) ∧ (h 258 6 ≤ tellH h w 258 6 ∧ tellH h w 258 6 ≤ h 258 6 + 1)) ∧ (∀ v, 0 ≤ v → v < h 258 6 → tellH h w 353 v = h 353 v) ∧ tellH h w 353 (useV h w) = w ∧ (∀ v, h 258 6 ≤ v → v < tellH h w 258 6 → v = useV h w) ∧ (useV h w < h 258 6 → h 353 (useV h w) = w) ∧ (h 258 6 ≤ useV h w → ∀ v, 0 ≤ v → v < h 258 6 → h 353 v ≠ w) ∧ tellH h w 416 (useV h w) = -1 ∧ (∀ v, v < h 258 6 → v ≠ useV h w → tellH h w 416 v = h 416 v) ∧ (∀ o, o ≠ 258 → o ≠ 353 → o ≠ 416 → tellH h w o = h o) ∧ ∀ i, i ≠ 6 → tellH h w 258 i = h 258 i := by
  unfold tellH useV useH
  rcases fnx_sp (f := h 353) (w := w) (z := -1) (m := h 258 6) (by omega) with ⟨a1, a2, a3⟩ | ⟨a, a3⟩
  · rw [if_neg (by omega), if_neg (by omega)]
    generalize fnx (h 353) w (-1) (h 258 6).toNat 0 = V at *
    refine ⟨⟨?_, ?_⟩, fun v _ _ => by rw [hs_ne (by decide)], by rw [hs_ne (by decide)]; exact a3, fun v x y => ?_, fun _ => a3, fun x => by omega, hcel1, fun v _ x => hcell x, fun o _ _ x => hs_ne x, fun i _ => by rw [hs_ne (by decide)]⟩
    · rw [hs_ne (by decide)]
      omega
    · rw [hs_ne (by decide)]
      omega
    · rw [hs_ne (by decide)] at y
      omega
  · rw [if_pos (by omega), if_pos (by omega)]
    generalize hn : h 258 6 = n at *
    have f6 : hset (hset (hset (hset h 353 n w) 416 n (-1)) 258 6 (n + 1)) 416 n (-1) 258 6 = n + 1 := by rw [hs_ne (by decide), hcel1]
    refine ⟨⟨by rw [f6]; omega, by rw [f6]; omega⟩, fun v _ x => by rw [hs_ne (by decide), hs_ne (by decide), hs_ne (by decide), hcell (by omega)], by rw [hs_ne (by decide), hs_ne (by decide), hs_ne (by decide), hcel1], fun v x y => by rw [f6] at y; omega, fun x => by omega, fun _ => a3, hcel1, fun v x y => by rw [hcell y, hs_ne (by decide), hcell y, hs_ne (by decide)], fun o x y z => by rw [hs_ne z, hs_ne x, hs_ne z, hs_ne y], fun i x => by rw [hs_ne (by decide), hcell x, hs_ne (by decide), hs_ne (by decide)]⟩
theorem slot_f {w : Int} (hv : 0 ≤ h 6603 15) : ((0 ≤ slotV h w ∧ slotV h w < slotH h w 6603 15) ∧ (h 6603 15 ≤ slotH h w 6603 15 ∧ slotH h w 6603 15 ≤ h 6603 15 + 1)) ∧ (∀ v, 0 ≤ v → v < h 6603 15 → slotH h w 9505 v = h 9505 v) ∧ slotH h w 9505 (slotV h w) = w ∧ (∀ v, h 6603 15 ≤ v → v < slotH h w 6603 15 → v = slotV h w) ∧ (h 6603 15 ≤ slotV h w → ∀ v, 0 ≤ v → v < h 6603 15 → h 9505 v ≠ w) ∧ (slotV h w < h 6603 15 → slotH h w = h) ∧ (∀ o, o ≠ 6603 → o ≠ 9505 → slotH h w o = h o) ∧ ∀ i, i ≠ 15 → slotH h w 6603 i = h 6603 i := by
  unfold slotV slotH
  rcases fnx_sp (f := h 9505) (w := w) (z := -9) (m := h 6603 15) (by omega) with ⟨a1, a2, a3⟩ | ⟨a, a3⟩
  · rw [if_neg (by omega), if_neg (by omega)]
    generalize fnx (h 9505) w (-9) (h 6603 15).toNat 0 = V at *
    exact ⟨⟨⟨a1, a2⟩, by omega⟩, fun v _ _ => rfl, a3, fun v x y => by omega, fun x => by omega, fun _ => rfl, fun o _ _ => rfl, fun i _ => rfl⟩
  · rw [if_pos (by omega), if_pos (by omega)]
    generalize hn : h 6603 15 = n at *
    have f6 : hset (hset h 9505 n w) 6603 15 (n + 1) 6603 15 = n + 1 := hcel1
    exact ⟨⟨by rw [f6]; omega, by rw [f6]; omega⟩, fun v _ x => by rw [hs_ne (by decide), hcell (by omega)], by rw [hs_ne (by decide), hcel1], fun v x y => by rw [f6] at y; omega, fun _ => a3, fun x => by omega, fun o x y => by rw [hs_ne x, hs_ne y], fun i x => by rw [hcell x, hs_ne (by decide)]⟩
/-- a name is told on both sides -/
theorem GRS.tell {w : Int} (D : GRS bX T S s h hr) (s0 : 0 ≤ s) (l : h 258 6 + 1 ≤ 4 + h T 15) (l2 : hr 6603 15 + 1 ≤ 4 + h T 15) : GRS bX T S s (tellH h w) (slotH hr w) ∧ (ECP T 0 h (tellH h w) ∧ FXC T h (tellH h w)) ∧ (ERP S 0 0 hr (slotH hr w) ∧ FXR S hr (slotH hr w)) := by
  have D0 := D
  obtain ⟨⟨⟨d1, d2⟩, d3, d4⟩, ⟨s1, s3⟩, N, ⟨M, M2⟩, L, R⟩ := D
  have kT := kTC d1
  have kS := kTR d3
  have N0 := N
  unfold NBR STQ at N0
  obtain ⟨⟨⟨t1, t2⟩, t3, t4⟩, t5, t6, t7, t8, t9, u1, u2, u3, u4⟩ := tell_f (h := h) (w := w) (by omega)
  obtain ⟨⟨⟨r1, r2⟩, r3, r4⟩, r5, r6, r7, r8, r9, q1, q2⟩ := slot_f (h := hr) (w := w) (by omega)
  generalize tellH h w = g at *
  generalize slotH hr w = gr at *
  generalize useV h w = V at *
  generalize slotV hr w = Z at *
  have gT : g T = h T := u3 T (by omega) (by omega) (by omega)
  have rS : gr S = hr S := q1 S (by omega) (by omega)
  refine ⟨⟨⟨⟨d1, by rw [u4 1 (by decide)]; exact d2⟩, d3, by rw [q2 9 (by decide)]; exact d4⟩, ⟨fun o x => by rw [u3 o (by omega) (by omega) (by omega)]; exact s1 o x, fun o x => by rw [q1 o (by omega) (by omega)]; exact s3 o x⟩, ?_, ⟨⟨?_, ?_, ?_, ?_, ?_⟩, ?_⟩, L.fr (u4 10 (by decide)) (u3 _ (by decide) (by decide) (by decide)) (u3 _ (by decide) (by decide) (by decide)) (u3 _ (by decide) (by decide) (by decide)) (by rw [gT]; exact Int.le_refl _) (PRE.of_eq (u3 _ (by omega) (by omega) (by omega))) (q1 _ (by decide) (by decide)) (q1 _ (by decide) (by decide)) (q1 _ (by decide) (by decide)) (q1 _ (by decide) (by decide)) (by rw [rS]; exact Int.le_refl _), R.fr (by rw [rS]) (q1 _ (by omega) (by omega)) (q1 _ (by omega) (by omega)) (by rw [rS]; exact Int.le_refl _) ⟨q2 19 (by decide), q2 24 (by decide)⟩ ⟨q1 _ (by decide) (by decide), q1 _ (by decide) (by decide), q1 _ (by omega) (by omega), q1 _ (by omega) (by omega)⟩⟩, ⟨?_, fun o _ x y z _ _ _ _ _ => u3 o x y z, fun i _ _ => by rw [gT], fun i _ z _ => u4 i z⟩, ?_, fun o x y _ _ _ _ _ _ _ _ _ _ _ _ _ _ => q1 o x y, fun i _ _ _ _ _ => by rw [rS], fun i _ _ _ _ _ _ _ _ z _ _ => q2 i z⟩
  · unfold NBR STQ
    rw [gT, rS, u4 3 (by decide), u4 10 (by decide), q2 13 (by decide), q2 19 (by decide), q2 24 (by decide), q1 (S + 84) (by omega) (by omega)]
    omega
  · intro v v2 x1 x2 x3 x4 x5
    by_cases z1 : v < h 258 6
    · by_cases z2 : v2 < h 258 6
      · rw [t5 v x1 z1, t5 v2 x3 z2] at x5
        exact M.1 v v2 x1 z1 x3 z2 x5
      · have e2 := t7 v2 (by omega) x4
        rw [t5 v x1 z1, e2, t6] at x5
        exact absurd x5 (t9 (by omega) v x1 z1)
    · have e1 := t7 v (by omega) x2
      by_cases z2 : v2 < h 258 6
      · rw [t5 v2 x3 z2, e1, t6] at x5
        exact absurd x5.symm (t9 (by omega) v2 x3 z2)
      · have e2 := t7 v2 (by omega) x4
        omega
  · intro v v2 x1 x2 x3 x4 x5
    by_cases z1 : v < hr 6603 15
    · by_cases z2 : v2 < hr 6603 15
      · rw [r5 v x1 z1, r5 v2 x3 z2] at x5
        exact M.2.1 v v2 x1 z1 x3 z2 x5
      · have e2 := r7 v2 (by omega) x4
        rw [r5 v x1 z1, e2, r6] at x5
        exact absurd x5 (r8 (by omega) v x1 z1)
    · have e1 := r7 v (by omega) x2
      by_cases z2 : v2 < hr 6603 15
      · rw [r5 v2 x3 z2, e1, r6] at x5
        exact absurd x5.symm (r8 (by omega) v2 x3 z2)
      · have e2 := r7 v2 (by omega) x4
        omega
  · intro v x1 x2
    unfold VTL
    by_cases z : v = V
    · rw [z]
      exact .inl ⟨u1, Z, ⟨r1, r2⟩, by rw [r6, t6]⟩
    · have zn : v < h 258 6 := by
        by_cases q : v < h 258 6
        · exact q
        · exact absurd (t7 v (by omega) x2) z
      rw [u2 v zn z, t5 v x1 zn, q2 19 (by decide), q1 9569 (by decide) (by decide), q1 9632 (by decide) (by decide)]
      rcases M.2.2.1 v x1 zn with ⟨y1, j, ⟨y2, y3⟩, y4⟩ | ⟨y1, y2, y3⟩
      · exact .inl ⟨y1, j, ⟨y2, by omega⟩, by rw [r5 j y2 y3]; exact y4⟩
      · refine .inr ⟨y1, fun j j0 j1 => ?_, y3⟩
        by_cases q : j < hr 6603 15
        · rw [r5 j j0 q]
          exact y2 j j0 q
        · rw [r7 j (by omega) j1, r6]
          intro w2
          by_cases k : V < h 258 6
          · exact z (M.1 v V x1 zn t1 k (by rw [t8 k]; exact w2.symm))
          · exact t9 (by omega) v x1 zn w2.symm
  · intro j j0 j1
    by_cases q : j < hr 6603 15
    · obtain ⟨v, ⟨y1, y2⟩, y3⟩ := M.2.2.2.1 j j0 q
      exact ⟨v, ⟨y1, by omega⟩, by rw [t5 v y1 y2, r5 j j0 q]; exact y3⟩
    · rw [r7 j (by omega) j1, r6]
      exact ⟨V, ⟨t1, t2⟩, t6⟩
  · intro k k0 k1
    rw [q2 19 (by decide)] at k1
    rw [q1 9569 (by decide) (by decide)]
    obtain ⟨v, ⟨y1, y2⟩, y3⟩ := M.2.2.2.2 k k0 k1
    exact ⟨v, ⟨y1, by omega⟩, by rw [t5 v y1 y2]; exact y3⟩
  · intro v x1 x2
    by_cases z : v = V
    · rw [z, u1]
      omega
    · have zn : v < h 258 6 := by
        by_cases q : v < h 258 6
        · exact q
        · exact absurd (t7 v (by omega) x2) z
      rw [u2 v zn z]
      exact M2 v x1 zn
  · unfold ECP
    rw [u4 10 (by decide), gT, u3 (T + 1430) (by omega) (by omega) (by omega), u3 481 (by decide) (by decide) (by decide), u3 544 (by decide) (by decide) (by decide), u3 608 (by decide) (by decide) (by decide)]
    have z := (ECP.rfl' (T := T) (c := 0) (h := h))
    refine ⟨z.1, ⟨t3, fun v y _ x => t5 v y x, fun v y x => ?_⟩, z.2.2⟩
    by_cases q : v = V
    · rw [q]
      exact .inr u1
    · exact .inl (u2 v x q)
  · unfold ERP
    rw [rS, q2 19 (by decide), q2 24 (by decide), q1 (S + 980) (by omega) (by omega), q1 (S + 1044) (by omega) (by omega), q1 (S + 1108) (by omega) (by omega), q1 (S + 1174) (by omega) (by omega), q1 (S + 1236) (by omega) (by omega), q1 (S + 1300) (by omega) (by omega), q1 9569 (by decide) (by decide), q1 9632 (by decide) (by decide), q1 9696 (by decide) (by decide), q1 9761 (by decide) (by decide), q1 9824 (by decide) (by decide), q1 9888 (by decide) (by decide), q1 9952 (by decide) (by decide)]
    obtain ⟨z1, z2, z3, z4, z5⟩ := (ERP.rfl' (S := S) (r := 0) (t := 0) (h := hr))
    exact ⟨z1, z2, ⟨r3, fun i x _ y => r5 i x y⟩, z4, z5⟩
/-- a real -/
def rlH (S : Int) (h : HV) (v : Int) : HV := hset (cdR S (hset h (S + 1174) (h S 20) v) 2 (h S 20) 0) S 20 (h S 20 + 1)
theorem GRS.rl {v : Int} (D : GRS bX T S s h hr) (l : hr S 15 + 1 ≤ 11 * h T 15 + hr (S + 84) 6) (l2 : hr S 20 + 1 ≤ h T 15) : GRS bX T S s h (rlH S hr v) ∧ (ERP S 0 0 hr (rlH S hr v) ∧ FXR S hr (rlH S hr v)) ∧ (rlH S hr v S 15 = hr S 15 + 1 ∧ rlH S hr v S 20 = hr S 20 + 1 ∧ rlH S hr v (S + 1174) (hr S 20) = v) ∧ RCO S (rlH S hr v) (hr S 15) 2 (hr S 20) 0 ∧ (∀ o, o ≠ S → o ≠ S + 980 → o ≠ S + 1044 → o ≠ S + 1108 → o ≠ S + 1174 → rlH S hr v o = hr o) ∧ ∀ i, i ≠ 15 → i ≠ 20 → rlH S hr v S i = hr S i := by
  have D0 := D
  obtain ⟨⟨⟨d1, d2⟩, d3, d4⟩, ⟨s1, s3⟩, N, M, L, R⟩ := D
  have kS := kTR d3
  have N0 := N
  unfold NBR STQ at N0
  -- the real is laid behind the reals
  have e1 : ∀ o, o ≠ S + 1174 → hset hr (S + 1174) (hr S 20) v o = hr o := fun o x => hs_ne x
  have eS := e1 S (by omega)
  have e3 := e1 6603 (by omega)
  have A : GRS bX T S s h (hset hr (S + 1174) (hr S 20) v) := D0.ref (by rw [e3]) (fun o x => e1 o (by omega)) (by
      unfold NBR STQ
      rw [eS, e3, e1 (S + 84) (by omega)]
      exact N) (M.fr rfl rfl rfl (by rw [e3]) (e1 _ (by omega)) (by rw [e3]) (e1 _ (by omega)) (e1 _ (by omega))) (L.fr rfl rfl rfl rfl (Int.le_refl _) PRE.rfl' (e1 _ (by omega)) (e1 _ (by omega)) (e1 _ (by omega)) (e1 _ (by omega)) (by rw [eS]; exact Int.le_refl _)) (R.fr (by rw [eS]) (e1 _ (by omega)) (e1 _ (by omega)) (by rw [eS]; exact Int.le_refl _) ⟨by rw [e3], by rw [e3]⟩ ⟨e1 _ (by omega), e1 _ (by omega), e1 _ (by omega), e1 _ (by omega)⟩)
  have AE : ERP S 0 0 hr (hset hr (S + 1174) (hr S 20) v) ∧ FXR S hr (hset hr (S + 1174) (hr S 20) v) := by
    refine ⟨?_, fun o _ _ _ _ _ _ _ _ _ _ _ _ _ x _ _ => e1 o x, fun i _ _ _ _ _ => by rw [eS], fun i _ _ _ _ _ _ _ _ _ _ _ => by rw [e3]⟩
    unfold ERP
    rw [eS, e3, e1 (S + 980) (by omega), e1 (S + 1044) (by omega), e1 (S + 1108) (by omega), e1 (S + 1236) (by omega), e1 (S + 1300) (by omega), e1 9505 (by omega), e1 9569 (by omega), e1 9632 (by omega), e1 9696 (by omega), e1 9761 (by omega), e1 9824 (by omega), e1 9888 (by omega), e1 9952 (by omega)]
    obtain ⟨z1, z2, z3, z4, z5⟩ := (ERP.rfl' (S := S) (r := 0) (t := 0) (h := hr))
    exact ⟨z1, ⟨Int.le_refl _, fun i _ _ y => by rw [hcell (by omega)]⟩, z3, z4, z5⟩
  have eV : hset hr (S + 1174) (hr S 20) v (S + 1174) (hr S 20) = v := hcel1
  unfold rlH
  generalize hset hr (S + 1174) (hr S 20) v = k1 at *
  rw [← eS] at l l2 ⊢
  rw [← e1 (S + 84) (by omega)] at l
  obtain ⟨B, B2, B3, B4, B5, B6, B7⟩ := A.cd (p := 2) (a := k1 S 20) (b := 0) l (fun w => absurd w (by decide))
  have B20 := B7 20 (by decide)
  generalize cdR S k1 2 (k1 S 20) 0 = k2 at *
  obtain ⟨⟨⟨b1, b2⟩, b3, b4⟩, ⟨b5, b6⟩, b7, b8, b9, b0⟩ := B
  have B0 : GRS bX T S s h k2 := ⟨⟨⟨b1, b2⟩, b3, b4⟩, ⟨b5, b6⟩, b7, b8, b9, b0⟩
  have o1 : ∀ o, o ≠ S → hset k2 S 20 (k1 S 20 + 1) o = k2 o := fun o x => hs_ne x
  have o2 : ∀ i, i ≠ 20 → hset k2 S 20 (k1 S 20 + 1) S i = k2 S i := fun i x => hcell x
  have o3 : hset k2 S 20 (k1 S 20 + 1) S 20 = k1 S 20 + 1 := hcel1
  generalize hset k2 S 20 (k1 S 20 + 1) = k3 at *
  have q3 := o1 6603 (by omega)
  refine ⟨B0.ref (by rw [q3]) (fun o x => o1 o (by omega)) ?_ (b8.fr rfl rfl rfl (by rw [q3]) (o1 _ (by omega)) (by rw [q3]) (o1 _ (by omega)) (o1 _ (by omega))) (b9.fr rfl rfl rfl rfl (Int.le_refl _) PRE.rfl' (o1 _ (by omega)) (o1 _ (by omega)) (o1 _ (by omega)) (o1 _ (by omega)) (by rw [o2 15 (by decide)]; exact Int.le_refl _)) (b0.fr (o2 15 (by decide)) (o1 _ (by omega)) (o1 _ (by omega)) (by rw [o2 22 (by decide)]; exact Int.le_refl _) ⟨by rw [q3], by rw [q3]⟩ ⟨o1 _ (by omega), o1 _ (by omega), o1 _ (by omega), o1 _ (by omega)⟩), ?_, ⟨by rw [o2 15 (by decide), B4], o3, by rw [o1 _ (by omega), B6 _ (by omega) (by omega) (by omega) (by omega), eS]; exact eV⟩, ?_, fun o x1 x2 x3 x4 x5 => by rw [o1 o x1, B6 o x1 x2 x3 x4, e1 o x5], fun i x1 x2 => by rw [o2 i x2, B7 i x1]⟩
  · unfold NBR STQ at *
    rw [q3, o2 14 (by decide), o2 15 (by decide), o2 21 (by decide), o2 22 (by decide), o1 (S + 84) (by omega), o3]
    omega
  · have E2 : ERP S 0 0 k2 k3 := by
      unfold ERP
      rw [o2 15 (by decide), o2 21 (by decide), o2 22 (by decide), q3, o3, o1 (S + 980) (by omega), o1 (S + 1044) (by omega), o1 (S + 1108) (by omega), o1 (S + 1174) (by omega), o1 (S + 1236) (by omega), o1 (S + 1300) (by omega), o1 9505 (by omega), o1 9569 (by omega), o1 9632 (by omega), o1 9696 (by omega), o1 9761 (by omega), o1 9824 (by omega), o1 9888 (by omega), o1 9952 (by omega)]
      obtain ⟨z1, z2, z3, z4, z5⟩ := (ERP.rfl' (S := S) (r := 0) (t := 0) (h := k2))
      exact ⟨z1, ⟨by omega, PRE.rfl'⟩, z3, z4, z5⟩
    have F2 : FXR S k2 k3 := ⟨fun o _ _ _ _ _ _ _ _ _ x _ _ _ _ _ _ => o1 o x, fun i _ _ x _ _ => o2 i x, fun i _ _ _ _ _ _ _ _ _ _ _ => by rw [q3]⟩
    exact ⟨(AE.1.trans B2).trans E2, (AE.2.trans B3).trans F2⟩
  · obtain ⟨⟨c1, c2⟩, c3, c4, c5⟩ := B5
    exact ⟨⟨c1, by rw [o2 15 (by decide)]; exact c2⟩, by rw [o1 _ (by omega)]; exact c3, by rw [o1 _ (by omega)]; exact c4, by rw [o1 _ (by omega)]; exact c5⟩
end SM
