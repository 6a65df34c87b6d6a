/-! THE PURE SIDE, 147: the two parsers' calls: printed by wip/tools/gen89zzy.py -/
def csH (T : Int) (h : HV) (w p : Int) : HV := hset (hset (hset (hset h 481 (h 258 10) w) 544 (h 258 10) p) 608 (h 258 10) (h T 17)) 258 10 (h 258 10 + 1)
def clH (T : Int) (h : HV) (w p n : Int) : HV := emH T (emH T (csH T (emH T h 13) w p) (-1)) n
def clR (S : Int) (h : HV) (w p n : Int) : HV := hset (hset (cdR S (hset (hset (hset h 9761 (h 6603 24) w) 9824 (h 6603 24) p) 9952 (h 6603 24) n) 7 0 0) 9888 (h 6603 24) (h S 15)) 6603 24 (h 6603 24 + 1)
section SM
variable {bX : Int} {tp : Int → Int} {t T S s : Int} {h hr g gr : HV} {d : Nat} {Q : Int → HV → Prop}
theorem upd_c {h : HV} {o k x : Int} : ∀ i, hset h o k x o i = if i = k then x else h o i := fun i => by
  by_cases z : i = k
  · rw [if_pos z, z, hcel1]
  · rw [if_neg z, hcell z]
theorem GRS.call {w p n : Int} (D : GRS bX T S s h hr) (hs : s ≤ 2400) (n0 : 0 ≤ n) (p0 : 0 ≤ p) (l1 : 2 * (h T 17 + 3) ≤ 6 * h T 15 + s) (l2 : hr S 15 + 1 ≤ 11 * h T 15 + hr (S + 84) 6) (l3 : h 258 10 + 1 ≤ h T 15) : GRS bX T S s (clH T h w p n) (clR S hr w p n) ∧ (ECP T 0 h (clH T h w p n) ∧ FXC T h (clH T h w p n)) ∧ (ERP S 0 0 hr (clR S hr w p n) ∧ FXR S hr (clR S hr w p n)) ∧ (clH T h w p n T 17 = h T 17 + 3 ∧ clR S hr w p n S 15 = hr S 15 + 1 ∧ clH T h w p n 258 10 = h 258 10 + 1) ∧ (CEL T (clH T h w p n) (h T 17) 13 ∧ CEL T (clH T h w p n) (h T 17 + 2) n) ∧ (clH T h w p n 608 (h 258 10) = h T 17 + 1 ∧ clR S hr w p n 9888 (h 258 10) = hr S 15) ∧ RCO S (clR S hr w p n) (hr S 15) 7 0 0 ∧ ((∀ o, o ≠ 258 → o ≠ 481 → o ≠ 544 → o ≠ 608 → o ≠ T → o ≠ T + 1430 → clH T h w p n o = h o) ∧ (∀ i, i ≠ 10 → clH T h w p n 258 i = h 258 i) ∧ ∀ i, i ≠ 17 → clH T h w p n T i = h T i) ∧ (∀ o, o ≠ S → o ≠ S + 980 → o ≠ S + 1044 → o ≠ S + 1108 → o ≠ 6603 → o ≠ 9761 → o ≠ 9824 → o ≠ 9952 → o ≠ 9888 → clR S hr w p n o = hr o) ∧ (∀ i, i ≠ 15 → clR S hr w p n S i = hr S i) ∧ ∀ i, i ≠ 24 → clR S hr w p n 6603 i = hr 6603 i := by
  have D0 := D
  obtain ⟨⟨⟨d1, d2⟩, d3, d4⟩, ⟨s1, s3⟩, N, M, L, R⟩ := D
  have kT := kTC d1
  have kS := kTR d3
  have N0 := N
  unfold NBR STQ at N0
  have f0 : emH T h 13 T 17 = h T 17 + 1 := em_17 (by omega)
  have g0 : ∀ o, o ≠ T → o ≠ T + 1430 → emH T h 13 o = h o := fun o a b => em_ne a b
  have i0 : ∀ i, i ≠ 17 → emH T h 13 T i = h T i := fun i a => em_s a
  have x0 : ∀ i, emH T h 13 (T + 1430) i = if i = h T 17 then 13 else h (T + 1430) i := fun i => em_c (by omega)
  generalize hk1 : emH T h 13 = k1 at *
  have e8 := g0 258 (by omega) (by omega)
  have f1 : ∀ o, o ≠ 258 → o ≠ 481 → o ≠ 544 → o ≠ 608 → csH T k1 w p o = k1 o := fun o a b c d => by
    unfold csH
    rw [hs_ne a, hs_ne d, hs_ne c, hs_ne b]
  have f2 : ∀ i, i ≠ 10 → csH T k1 w p 258 i = k1 258 i := fun i a => by
    unfold csH
    rw [hcell a, hs_ne (by decide), hs_ne (by decide), hs_ne (by decide)]
  have f3 : csH T k1 w p 258 10 = k1 258 10 + 1 := by
    unfold csH
    rw [hcel1]
  have f4 : ∀ i, csH T k1 w p 481 i = if i = k1 258 10 then w else k1 481 i := fun i => by
    unfold csH
    rw [hs_ne (by decide), hs_ne (by decide), hs_ne (by decide)]
    exact upd_c i
  have f5 : ∀ i, csH T k1 w p 544 i = if i = k1 258 10 then p else k1 544 i := fun i => by
    unfold csH
    rw [hs_ne (by decide), hs_ne (by decide), upd_c, hs_ne (by decide)]
  have f6 : ∀ i, csH T k1 w p 608 i = if i = k1 258 10 then k1 T 17 else k1 608 i := fun i => by
    unfold csH
    rw [hs_ne (by decide), upd_c, hs_ne (by decide), hs_ne (by decide)]
  have f7 := f1 T (by omega) (by omega) (by omega) (by omega)
  have f9 := f1 (T + 1430) (by omega) (by omega) (by omega) (by omega)
  generalize hk2 : csH T k1 w p = k2 at *
  have a0 : emH T k2 (-1) T 17 = k2 T 17 + 1 := em_17 (by rw [f7]; omega)
  have a1 : ∀ o, o ≠ T → o ≠ T + 1430 → emH T k2 (-1) o = k2 o := fun o a b => em_ne a b
  have a2 : ∀ i, i ≠ 17 → emH T k2 (-1) T i = k2 T i := fun i a => em_s a
  have a3 : ∀ i, emH T k2 (-1) (T + 1430) i = if i = k2 T 17 then -1 else k2 (T + 1430) i := fun i => em_c (by rw [f7]; omega)
  generalize hk3 : emH T k2 (-1) = k3 at *
  have b0 : emH T k3 n T 17 = k3 T 17 + 1 := em_17 (by rw [a0, f7]; omega)
  have b1 : ∀ o, o ≠ T → o ≠ T + 1430 → emH T k3 n o = k3 o := fun o a b => em_ne a b
  have b2 : ∀ i, i ≠ 17 → emH T k3 n T i = k3 T i := fun i a => em_s a
  have b3 : ∀ i, emH T k3 n (T + 1430) i = if i = k3 T 17 then n else k3 (T + 1430) i := fun i => em_c (by rw [a0, f7]; omega)
  have hg : clH T h w p n = emH T k3 n := by
    unfold clH
    rw [hk1, hk2, hk3]
  rw [hg]
  generalize emH T k3 n = g at *
  clear hg hk1 hk2 hk3
  rw [a0, f7, f0] at b0 b3
  simp only [a3, f9, x0, f7, f0] at b3
  have G1 : ∀ o, o ≠ 258 → o ≠ 481 → o ≠ 544 → o ≠ 608 → o ≠ T → o ≠ T + 1430 → g o = h o := fun o c1 c2 c3 c4 c5 c6 => by rw [b1 o c5 c6, a1 o c5 c6, f1 o c1 c2 c3 c4, g0 o c5 c6]
  have G2 : ∀ i, i ≠ 10 → g 258 i = h 258 i := fun i c => by rw [b1 258 (by omega) (by omega), a1 258 (by omega) (by omega), f2 i c, e8]
  have G3 : g 258 10 = h 258 10 + 1 := by rw [b1 258 (by omega) (by omega), a1 258 (by omega) (by omega), f3, e8]
  have G4 : ∀ i, g 481 i = if i = h 258 10 then w else h 481 i := fun i => by rw [b1 481 (by omega) (by omega), a1 481 (by omega) (by omega), f4, e8, g0 481 (by omega) (by omega)]
  have G5 : ∀ i, g 544 i = if i = h 258 10 then p else h 544 i := fun i => by rw [b1 544 (by omega) (by omega), a1 544 (by omega) (by omega), f5, e8, g0 544 (by omega) (by omega)]
  have G6 : ∀ i, g 608 i = if i = h 258 10 then h T 17 + 1 else h 608 i := fun i => by rw [b1 608 (by omega) (by omega), a1 608 (by omega) (by omega), f6, e8, f0, g0 608 (by omega) (by omega)]
  have G7 : ∀ i, i ≠ 17 → g T i = h T i := fun i c => by rw [b2 i c, a2 i c, f7, i0 i c]
  have G8 : g T 17 = h T 17 + 3 := by omega
  have G9 : ∀ i, i < h T 17 → g (T + 1430) i = h (T + 1430) i := fun i c => by rw [b3, if_neg (by omega), if_neg (by omega), if_neg (by omega)]
  have Ga : g (T + 1430) (h T 17) = 13 := by rw [b3, if_neg (by omega), if_neg (by omega), if_pos rfl]
  have Gb : g (T + 1430) (h T 17 + 2) = n := by rw [b3, if_pos (by omega)]
  clear b0 b1 b2 b3 a0 a1 a2 a3 f0 f1 f2 f3 f4 f5 f6 f7 f9 g0 i0 x0 e8
  -- the reference
  have r1 : ∀ o, o ≠ S → o ≠ S + 980 → o ≠ S + 1044 → o ≠ S + 1108 → o ≠ 6603 → o ≠ 9761 → o ≠ 9824 → o ≠ 9952 → o ≠ 9888 → clR S hr w p n o = hr o := fun o c1 c2 c3 c4 c5 c6 c7 c8 c9 => by
    unfold clR cdR
    rw [hs_ne c5, hs_ne c9, hs_ne c4, hs_ne c3, hs_ne c2, hs_ne c1, hs_ne c8, hs_ne c7, hs_ne c6]
  have r2 : ∀ i, i ≠ 15 → clR S hr w p n S i = hr S i := fun i c => by
    unfold clR cdR
    rw [hs_ne (by omega), hs_ne (by omega), hs_ne (by omega), hs_ne (by omega), hs_ne (by omega), hcell c, hs_ne (by omega), hs_ne (by omega), hs_ne (by omega)]
  have r3 : clR S hr w p n S 15 = hr S 15 + 1 := by
    unfold clR cdR
    rw [hs_ne (by omega), hs_ne (by omega), hs_ne (by omega), hs_ne (by omega), hs_ne (by omega), hcel1, hs_ne (by omega), hs_ne (by omega), hs_ne (by omega)]
  have r4 : ∀ i, i ≠ 24 → clR S hr w p n 6603 i = hr 6603 i := fun i c => by
    unfold clR cdR
    rw [hcell c, hs_ne (by omega), hs_ne (by omega), hs_ne (by omega), hs_ne (by omega), hs_ne (by omega), hs_ne (by omega), hs_ne (by omega), hs_ne (by omega)]
  have r5 : clR S hr w p n 6603 24 = hr 6603 24 + 1 := by
    unfold clR
    rw [hcel1]
  have r6 : ∀ i, clR S hr w p n 9761 i = if i = hr 6603 24 then w else hr 9761 i := fun i => by
    unfold clR cdR
    rw [hs_ne (by omega), hs_ne (by omega), hs_ne (by omega), hs_ne (by omega), hs_ne (by omega), hs_ne (by omega), hs_ne (by omega), hs_ne (by omega)]
    exact upd_c i
  have r7 : ∀ i, clR S hr w p n 9824 i = if i = hr 6603 24 then p else hr 9824 i := fun i => by
    unfold clR cdR
    rw [hs_ne (by omega), hs_ne (by omega), hs_ne (by omega), hs_ne (by omega), hs_ne (by omega), hs_ne (by omega), hs_ne (by omega), upd_c, hs_ne (by omega)]
  have r8 : ∀ i, clR S hr w p n 9952 i = if i = hr 6603 24 then n else hr 9952 i := fun i => by
    unfold clR cdR
    rw [hs_ne (by omega), hs_ne (by omega), hs_ne (by omega), hs_ne (by omega), hs_ne (by omega), hs_ne (by omega), upd_c, hs_ne (by omega), hs_ne (by omega)]
  have r9 : ∀ i, clR S hr w p n 9888 i = if i = hr 6603 24 then hr S 15 else hr 9888 i := fun i => by
    unfold clR cdR
    rw [hs_ne (by omega), upd_c, hs_ne (by omega), hs_ne (by omega), hs_ne (by omega), hs_ne (by omega), hs_ne (by omega), hs_ne (by omega), hs_ne (by omega)]
  have ea : hset (hset (hset hr 9761 (hr 6603 24) w) 9824 (hr 6603 24) p) 9952 (hr 6603 24) n S 15 = hr S 15 := by rw [hs_ne (by omega), hs_ne (by omega), hs_ne (by omega)]
  have fp : ∀ i, clR S hr w p n (S + 980) i = if i = hr S 15 then 7 else hr (S + 980) i := fun i => by
    unfold clR cdR
    rw [hs_ne (by omega), hs_ne (by omega), hs_ne (by omega), hs_ne (by omega), upd_c, ea, hs_ne (by omega), hs_ne (by omega), hs_ne (by omega), hs_ne (by omega)]
  have fa : ∀ i, clR S hr w p n (S + 1044) i = if i = hr S 15 then 0 else hr (S + 1044) i := fun i => by
    unfold clR cdR
    rw [hs_ne (by omega), hs_ne (by omega), hs_ne (by omega), upd_c, ea, hs_ne (by omega), hs_ne (by omega), hs_ne (by omega), hs_ne (by omega), hs_ne (by omega)]
  have fb : ∀ i, clR S hr w p n (S + 1108) i = if i = hr S 15 then 0 else hr (S + 1108) i := fun i => by
    unfold clR cdR
    rw [hs_ne (by omega), hs_ne (by omega), upd_c, ea, hs_ne (by omega), hs_ne (by omega), hs_ne (by omega), hs_ne (by omega), hs_ne (by omega), hs_ne (by omega)]
  generalize clR S hr w p n = gr at *
  have ro : ∀ o, o ≠ S → o ≠ S + 980 → o ≠ S + 1044 → o ≠ S + 1108 → o ≠ 6603 → o ≠ 9761 → o ≠ 9824 → o ≠ 9952 → o ≠ 9888 → gr o = hr o := r1
  have k24 : hr 6603 24 = h 258 10 := by omega
  rw [k24] at r5 r6 r7 r8 r9
  have P : ∀ j, 0 ≤ j → j < g 258 10 → g 608 j ≠ h T 17 ∧ g 608 j ≠ h T 17 + 2 := fun j j0 j1 => by
    rw [G6]
    by_cases z : j = h 258 10
    · rw [if_pos z]
      omega
    · rw [if_neg z]
      have := (L j j0 (by omega)).2.1.1
      omega
  refine ⟨⟨⟨⟨d1, by rw [G2 1 (by decide)]; exact d2⟩, d3, by rw [r4 9 (by decide)]; exact d4⟩, ⟨fun o x => by rw [G1 o (by omega) (by omega) (by omega) (by omega) (by omega) (by omega)]; exact s1 o x, fun o x => by rw [ro o (by omega) (by omega) (by omega) (by omega) (by omega) (by omega) (by omega) (by omega) (by omega)]; exact s3 o x⟩, ?_, M.fr (G2 6 (by decide)) (G1 _ (by omega) (by omega) (by omega) (by omega) (by omega) (by omega)) (G1 _ (by omega) (by omega) (by omega) (by omega) (by omega) (by omega)) (r4 15 (by decide)) (ro _ (by omega) (by omega) (by omega) (by omega) (by omega) (by omega) (by omega) (by omega) (by omega)) (r4 19 (by decide)) (ro _ (by omega) (by omega) (by omega) (by omega) (by omega) (by omega) (by omega) (by omega) (by omega)) (ro _ (by omega) (by omega) (by omega) (by omega) (by omega) (by omega) (by omega) (by omega) (by omega)), ?_, ?_⟩, ⟨?_, fun o _ x _ _ y z u a b => G1 o x y z u a b, fun i _ x => G7 i x, fun i _ _ x => G2 i x⟩, ⟨?_, fun o x _ _ _ _ y z u v a b c e _ _ _ => ro o a b c e x y z v u, fun i _ x _ _ _ => r2 i x, fun i _ _ _ _ _ _ _ _ _ _ x => r4 i x⟩, ⟨G8, r3, G3⟩, ⟨⟨⟨by omega, fun j j0 j1 => (P j j0 j1).1⟩, Ga⟩, ⟨by omega, fun j j0 j1 => (P j j0 j1).2⟩, Gb⟩, ⟨by rw [G6, if_pos rfl], by rw [r9, if_pos rfl]⟩, ⟨by omega, by rw [fp, if_pos rfl], by rw [fa, if_pos rfl], by rw [fb, if_pos rfl]⟩, ⟨G1, G2, G7⟩, ro, r2, r4⟩
  · unfold NBR STQ
    rw [G8, G3, G7 15 (by decide), G2 3 (by decide), G2 6 (by decide), r3, r5, r2 14 (by decide), r2 20 (by decide), r2 21 (by decide), r2 22 (by decide), r4 13 (by decide), r4 15 (by decide), r4 19 (by decide), ro (S + 84) (by omega) (by omega) (by omega) (by omega) (by omega) (by omega) (by omega) (by omega) (by omega)]
    omega
  · intro k k0 k1
    rw [G3] at k1
    rw [G4, G5, G6, G8, r3, r6, r7, r8, r9]
    by_cases z : k = h 258 10
    · rw [if_pos z, if_pos z, if_pos z, if_pos z, if_pos z, if_pos z, if_pos z]
      refine ⟨⟨rfl, rfl, p0⟩, ⟨by omega, ?_, n0⟩, by omega, fun j j0 j1 => ?_⟩
      · rw [show h T 17 + 1 + 1 = h T 17 + 2 by omega]
        exact Gb
      · rw [G6, r9, if_neg (by omega), if_neg (by omega)]
        have := L j j0 (by omega)
        omega
    · rw [if_neg z, if_neg z, if_neg z, if_neg z, if_neg z, if_neg z, if_neg z]
      obtain ⟨c1, ⟨c2, c3, c4⟩, c5, c6⟩ := L k k0 (by omega)
      refine ⟨c1, ⟨by omega, by rw [G9 _ (by omega)]; exact c3, c4⟩, by omega, fun j j0 j1 => ?_⟩
      rw [G6, r9, if_neg (by omega), if_neg (by omega)]
      exact c6 j j0 j1
  · refine ⟨fun i i0 i1 i2 => ?_, R.2.1.gr (by omega) (fun i _ x => by rw [fp, if_neg (by omega)]) (r4 19 (by decide)) (ro _ (by omega) (by omega) (by omega) (by omega) (by omega) (by omega) (by omega) (by omega) (by omega)) (ro _ (by omega) (by omega) (by omega) (by omega) (by omega) (by omega) (by omega) (by omega) (by omega)) (ro _ (by omega) (by omega) (by omega) (by omega) (by omega) (by omega) (by omega) (by omega) (by omega)), fun k k0 k1 => ?_⟩
    · rw [r2 22 (by decide), fa]
      rw [fp] at i2
      by_cases z : i = hr S 15
      · rw [if_pos z] at i2
        exact absurd i2 (by decide)
      · rw [if_neg z] at i2 ⊢
        exact R.1 i i0 (by omega) i2
    · rw [r5] at k1
      rw [r9, r3]
      by_cases z : k = h 258 10
      · rw [if_pos z, fp, if_pos rfl]
        exact ⟨by omega, rfl⟩
      · rw [if_neg z]
        obtain ⟨y1, y2⟩ := R.2.2 k k0 (by omega)
        exact ⟨by omega, by rw [fp, if_neg (by omega)]; exact y2⟩
  · refine ⟨⟨by omega, fun i _ _ x => G9 i x⟩, ⟨by rw [G2 6 (by decide)]; exact Int.le_refl _, PRE.of_eq (G1 _ (by omega) (by omega) (by omega) (by omega) (by omega) (by omega)), fun v _ _ => .inl (by rw [G1 416 (by omega) (by omega) (by omega) (by omega) (by omega) (by omega)])⟩, by omega, ⟨fun i _ _ x => by rw [G4, if_neg (by omega)], fun i _ _ x => by rw [G5, if_neg (by omega)], fun i _ _ x => by rw [G6, if_neg (by omega)]⟩, fun k k0 k1 k2 => ?_⟩
    rw [G3] at k2
    rw [G6, if_pos (by omega)]
    omega
  · unfold ERP
    rw [r3, r5, r2 20 (by decide), r2 21 (by decide), r2 22 (by decide), r4 15 (by decide), r4 19 (by decide), ro (S + 1174) (by omega) (by omega) (by omega) (by omega) (by omega) (by omega) (by omega) (by omega) (by omega), ro (S + 1236) (by omega) (by omega) (by omega) (by omega) (by omega) (by omega) (by omega) (by omega) (by omega), ro (S + 1300) (by omega) (by omega) (by omega) (by omega) (by omega) (by omega) (by omega) (by omega) (by omega), ro 9505 (by omega) (by omega) (by omega) (by omega) (by omega) (by omega) (by omega) (by omega) (by omega), ro 9569 (by omega) (by omega) (by omega) (by omega) (by omega) (by omega) (by omega) (by omega) (by omega), ro 9632 (by omega) (by omega) (by omega) (by omega) (by omega) (by omega) (by omega) (by omega) (by omega), ro 9696 (by omega) (by omega) (by omega) (by omega) (by omega) (by omega) (by omega) (by omega) (by omega)]
    obtain ⟨z1, z2, z3, z4, -, z6⟩ := (ERP.rfl' (S := S) (r := 0) (t := 0) (h := hr))
    exact ⟨⟨by omega, fun i _ _ x => by rw [fp, if_neg (by omega)], fun i _ _ x => by rw [fa, if_neg (by omega)], fun i _ _ x => by rw [fb, if_neg (by omega)]⟩, z2, z3, z4, ⟨by omega, fun i _ _ x => by rw [r6, if_neg (by omega)], fun i _ _ x => by rw [r7, if_neg (by omega)], fun i _ _ x => by rw [r9, if_neg (by omega)], fun i _ _ x => by rw [r8, if_neg (by omega)]⟩, z6⟩
end SM
