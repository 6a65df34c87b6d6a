/-! THE PURE SIDE, 145: the two parsers' variables, calls and reals: printed by wip/tools/gen89zzw.py -/
def useV (h : HV) (w : Int) : Int := if fnx (h 353) w (-1) (h 258 6).toNat 0 < 0 then h 258 6 else fnx (h 353) w (-1) (h 258 6).toNat 0
def useH (h : HV) (w p : Int) : HV := if fnx (h 353) w (-1) (h 258 6).toNat 0 < 0 then hset (hset (hset h 353 (h 258 6) w) 416 (h 258 6) p) 258 6 (h 258 6 + 1) else h
def tellH (h : HV) (w : Int) : HV := hset (useH h w (-1)) 416 (useV h w) (-1)
def slotV (h : HV) (w : Int) : Int := if fnx (h 9505) w (-9) (h 6603 15).toNat 0 < 0 then h 6603 15 else fnx (h 9505) w (-9) (h 6603 15).toNat 0
def slotH (h : HV) (w : Int) : HV := if fnx (h 9505) w (-9) (h 6603 15).toNat 0 < 0 then hset (hset h 9505 (h 6603 15) w) 6603 15 (h 6603 15 + 1) else h
def refH (h : HV) (w p c : Int) : HV := hset (hset (hset (hset h 9569 (h 6603 19) w) 9632 (h 6603 19) p) 9696 (h 6603 19) c) 6603 19 (h 6603 19 + 1)
section SM
variable {bX : Int} {tp : Int → Int} {t T S s : Int} {h hr g gr : HV} {d : Nat} {Q : Int → HV → Prop}
theorem c76 {w p : Int} (hv : 0 ≤ h 258 6 ∧ h 258 6 < 404) : Sp fz1 (d + 1) 76 [(3, 258), (1, w), (0, p)] h Q = Q (useV h w) (useH h w p) := by
  unfold useV useH
  rcases fnx_sp (f := h 353) (w := w) (z := -1) hv.1 with a | a
  · rw [if_neg (by omega), if_neg (by omega)]
    exact q76f (by omega) a.1
  · rw [if_pos (by omega), if_pos (by omega)]
    exact q76a (by omega) a.1 hv.2
theorem useV_b {w : Int} (hv : 0 ≤ h 258 6) : 0 ≤ useV h w ∧ useV h w ≤ h 258 6 := by
  unfold useV
  rcases fnx_sp (f := h 353) (w := w) (z := -1) hv with a | a
  · rw [if_neg (by omega)]
    omega
  · rw [if_pos (by omega)]
    omega
theorem c75 {w : Int} (hv : 0 ≤ h 258 6 ∧ h 258 6 < 404) : Sp fz1 (d + 2) 75 [(3, 258), (1, w)] h Q = Q (useV h w) (tellH h w) := by
  have b := useV_b (w := w) hv.1
  have b1 := b.1
  have b2 : useV h w < 404 := by omega
  have tl : hset (useH h w (-1)) 416 (useV h w) (-1) = tellH h w := rfl
  simp (implicitDefEqProofs := false) (disch := omega) only [sp75, b75_0, b75_1, q75_1, x_aload0, y_call76, x_gc_2091, x_goto_1, x_iastore, x_iconst, x_ifCond_lt_1, x_iload3, x_ireturn, x_istore3, x_lload1, klp_0, klp_1, klp_2, klp_3, klp_9, KC_0, KC_1, KC_2, KC_3, KC_4, ne_eq, not_false_eq_true, not_true_eq_false, true_and, and_true, and_self, implies_true, eq_self, true_imp_iff, false_implies, Int.reduceEq, Int.reduceNe, Int.reduceMod, Int.reduceMul, Int.reduceAdd, Int.reduceSub, Int.reduceLT, Int.reduceLE, Nat.reduceAdd, Nat.reduceLeDiff, Nat.reduceLT, Nat.reduceSub, reduceIte, wds_n, wds_0, wds_1, wds_2, wds_3, or_true, true_or, or_false, false_or, or_self, false_and, and_false, d_pos, d_s1, d_s2, d_s3, d_s4, d_s5, d_s6, d_s7, d_s8, Classical.not_not, z258_5, z416_l, c76 hv, b1, b2, tl, hs_ne, hcell, hcel1, le_sub1, le_T, le_F, lt_T, lt_F, eq_F, w32_T, bz0, bz1, lc_le, lc_ge, lc_lt, lc_gt, lc_eq]
theorem r342 {w : Int} (hv : 0 ≤ h 6603 15 ∧ h 6603 15 < 420) : Sp fz1 (d + 1) 342 [(3, 6603), (1, w)] h Q = Q (slotV h w) (slotH h w) := by
  unfold slotV slotH
  rcases fnx_sp (f := h 9505) (w := w) (z := -9) hv.1 with a | a
  · rw [if_neg (by omega), if_neg (by omega)]
    exact v342f (by omega) a.1
  · rw [if_pos (by omega), if_pos (by omega)]
    exact v342a (by omega) a.1 hv.2
/-- a variable is used -/
theorem GRS.use {w p : Int} (D : GRS bX T S s h hr) (l : h 258 6 + 1 ≤ 4 + h T 15) (p0 : 0 ≤ p) (ps : p ≤ s) (hp : ∀ v, 0 ≤ v → v < h 258 6 → h 416 v ≤ p) : GRS bX T S s (useH h w p) hr ∧ (ECP T 0 h (useH h w p) ∧ FXC T h (useH h w p)) ∧ ((0 ≤ useV h w ∧ useV h w < useH h w p 258 6) ∧ useH h w p 353 (useV h w) = w ∧ useH h w p 416 (useV h w) ≤ p) ∧ (h 258 6 ≤ useH h w p 258 6 ∧ useH h w p 258 6 ≤ h 258 6 + 1) ∧ (∀ v, h 258 6 ≤ v → v < useH h w p 258 6 → v = useV h w ∧ useH h w p 416 v = p) ∧ (∀ o, o ≠ 258 → o ≠ 353 → o ≠ 416 → useH h w p o = h o) ∧ ∀ i, i ≠ 6 → useH h w p 258 i = h 258 i := by
  have D0 := D
  obtain ⟨⟨⟨d1, d2⟩, d3, d4⟩, ⟨s1, s3⟩, N, ⟨M, M2⟩, L, R⟩ := D
  have kT := kTC d1
  have N0 := N
  unfold NBR STQ at N0
  unfold useV useH
  rcases fnx_sp (f := h 353) (w := w) (z := -1) (m := h 258 6) (by omega) with ⟨a1, a2, a3⟩ | ⟨a, a3⟩
  · rw [if_neg (by omega), if_neg (by omega)]
    exact ⟨D0, ⟨ECP.rfl', FXC.rfl'⟩, ⟨⟨a1, a2⟩, a3, hp _ a1 a2⟩, by omega, fun v x y => by omega, fun _ _ _ _ => rfl, fun _ _ => rfl⟩
  · rw [if_pos (by omega), if_pos (by omega)]
    generalize hn : h 258 6 = n at *
    have f6 : hset (hset (hset h 353 n w) 416 n p) 258 6 (n + 1) 258 6 = n + 1 := hcel1
    have f8 : ∀ i, i ≠ 6 → hset (hset (hset h 353 n w) 416 n p) 258 6 (n + 1) 258 i = h 258 i := fun i z => by rw [hcell z, hs_ne (by decide), hs_ne (by decide)]
    have fo : ∀ o, o ≠ 258 → o ≠ 353 → o ≠ 416 → hset (hset (hset h 353 n w) 416 n p) 258 6 (n + 1) o = h o := fun o x y z => by rw [hs_ne x, hs_ne z, hs_ne y]
    have fv : ∀ v, hset (hset (hset h 353 n w) 416 n p) 258 6 (n + 1) 353 v = if v = n then w else h 353 v := fun v => by
      rw [hs_ne (by decide), hs_ne (by decide)]
      by_cases z : v = n
      · rw [if_pos z, z, hcel1]
      · rw [if_neg z, hcell z]
    have fu : ∀ v, hset (hset (hset h 353 n w) 416 n p) 258 6 (n + 1) 416 v = if v = n then p else h 416 v := fun v => by
      rw [hs_ne (by decide)]
      by_cases z : v = n
      · rw [if_pos z, z, hcel1]
      · rw [if_neg z, hcell z, hs_ne (by decide)]
    generalize hset (hset (hset h 353 n w) 416 n p) 258 6 (n + 1) = g at *
    refine ⟨D0.cls (f8 1 (by decide)) (fun o z => fo o (by omega) (by omega) (by omega)) ?_ ⟨⟨?_, M.2.1, ?_, ?_, ?_⟩, ?_⟩ (L.fr (f8 10 (by decide)) (fo _ (by decide) (by decide) (by decide)) (fo _ (by decide) (by decide) (by decide)) (fo _ (by decide) (by decide) (by decide)) (by rw [fo T (by omega) (by omega) (by omega)]; exact Int.le_refl _) (PRE.of_eq (fo _ (by omega) (by omega) (by omega))) rfl rfl rfl rfl (Int.le_refl _)), ⟨?_, fun o _ x y z _ _ _ _ _ => fo o x y z, fun i _ _ => by rw [fo T (by omega) (by omega) (by omega)], fun i _ z _ => f8 i z⟩, ⟨by omega, by rw [fv, if_pos rfl], by rw [fu, if_pos rfl]; exact Int.le_refl _⟩, by omega, fun v x y => ⟨by omega, by rw [fu, if_pos (by omega)]⟩, fo, f8⟩
    · unfold NBR STQ
      rw [f6, f8 3 (by decide), f8 10 (by decide), fo T (by omega) (by omega) (by omega)]
      omega
    · intro v v2 x1 x2 x3 x4 x5
      rw [f6] at x2 x4
      rw [fv, fv] at x5
      by_cases z1 : v = n
      · by_cases z2 : v2 = n
        · omega
        · rw [if_pos z1, if_neg z2] at x5
          exact absurd x5.symm (a3 v2 x3 (by omega))
      · by_cases z2 : v2 = n
        · rw [if_neg z1, if_pos z2] at x5
          exact absurd x5 (a3 v x1 (by omega))
        · rw [if_neg z1, if_neg z2] at x5
          exact M.1 v v2 x1 (by omega) x3 (by omega) x5
    · intro v x1 x2
      rw [f6] at x2
      unfold VTL
      rw [fv, fu]
      by_cases z1 : v = n
      · rw [if_pos z1, if_pos z1]
        refine .inr ⟨p0, fun j j0 j1 q => ?_, fun k k0 k1 q => ?_⟩
        · obtain ⟨v', ⟨y1, y2⟩, y3⟩ := M.2.2.2.1 j j0 j1
          exact a3 v' y1 (by omega) (y3.trans q)
        · obtain ⟨v', ⟨y1, y2⟩, y3⟩ := M.2.2.2.2 k k0 k1
          exact absurd (y3.trans q) (a3 v' y1 (by omega))
      · rw [if_neg z1, if_neg z1]
        exact M.2.2.1 v x1 (by omega)
    · intro j j0 j1
      obtain ⟨v', ⟨y1, y2⟩, y3⟩ := M.2.2.2.1 j j0 j1
      exact ⟨v', ⟨y1, by omega⟩, by rw [fv, if_neg (by omega)]; exact y3⟩
    · intro j j0 j1
      obtain ⟨v', ⟨y1, y2⟩, y3⟩ := M.2.2.2.2 j j0 j1
      exact ⟨v', ⟨y1, by omega⟩, by rw [fv, if_neg (by omega)]; exact y3⟩
    · intro v x1 x2
      rw [f6] at x2
      rw [fu]
      by_cases z1 : v = n
      · rw [if_pos z1]; exact ps
      · rw [if_neg z1]; exact M2 v x1 (by omega)
    · unfold ECP
      rw [f6, f8 10 (by decide), fo T (by omega) (by omega) (by omega), fo (T + 1430) (by omega) (by omega) (by omega), fo 481 (by decide) (by decide) (by decide), fo 544 (by decide) (by decide) (by decide), fo 608 (by decide) (by decide) (by decide), hn]
      have z := (ECP.rfl' (T := T) (c := 0) (h := h))
      exact ⟨z.1, ⟨by omega, fun v _ _ y => by rw [fv, if_neg (by omega)], fun v _ y => .inl (by rw [fu, if_neg (by omega)])⟩, z.2.2⟩
/-- a name is noted where it is used -/
theorem GRS.rf {w p c : Int} (D : GRS bX T S s h hr) (l : hr 6603 19 + 1 ≤ h T 15) (hv : ∃ v, (0 ≤ v ∧ v < h 258 6) ∧ h 353 v = w ∧ h 416 v ≤ p) (hc : (hr (S + 916) (hr (S + 84) 6 - 1) ≤ c ∧ 0 ≤ c ∧ c < hr S 15) ∧ (hr (S + 980) c = 4 ∨ hr (S + 980) c = 6) ∧ ∀ j, 0 ≤ j → j < hr 6603 19 → hr 9696 j < c) : GRS bX T S s h (refH hr w p c) ∧ (ERP S 0 0 hr (refH hr w p c) ∧ FXR S hr (refH hr w p c)) ∧ (refH hr w p c 6603 19 = hr 6603 19 + 1 ∧ refH hr w p c 9569 (hr 6603 19) = w ∧ refH hr w p c 9632 (hr 6603 19) = p ∧ refH hr w p c 9696 (hr 6603 19) = c) ∧ (∀ o, o ≠ 6603 → o ≠ 9569 → o ≠ 9632 → o ≠ 9696 → refH hr w p c o = hr o) ∧ ∀ i, i ≠ 19 → refH hr w p c 6603 i = hr 6603 i := by
  have D0 := D
  obtain ⟨⟨⟨d1, d2⟩, d3, d4⟩, ⟨s1, s3⟩, N, ⟨M, M2⟩, L, R⟩ := D
  have kS := kTR d3
  have N0 := N
  unfold NBR STQ at N0
  unfold refH
  generalize hn : hr 6603 19 = n at *
  have f6 : hset (hset (hset (hset hr 9569 n w) 9632 n p) 9696 n c) 6603 19 (n + 1) 6603 19 = n + 1 := hcel1
  have f8 : ∀ i, i ≠ 19 → hset (hset (hset (hset hr 9569 n w) 9632 n p) 9696 n c) 6603 19 (n + 1) 6603 i = hr 6603 i := fun i z => by rw [hcell z, hs_ne (by decide), hs_ne (by decide), hs_ne (by decide)]
  have fo : ∀ o, o ≠ 6603 → o ≠ 9569 → o ≠ 9632 → o ≠ 9696 → hset (hset (hset (hset hr 9569 n w) 9632 n p) 9696 n c) 6603 19 (n + 1) o = hr o := fun o x y z u => by rw [hs_ne x, hs_ne u, hs_ne z, hs_ne y]
  have fv : ∀ v, hset (hset (hset (hset hr 9569 n w) 9632 n p) 9696 n c) 6603 19 (n + 1) 9569 v = if v = n then w else hr 9569 v := fun v => by
    rw [hs_ne (by decide), hs_ne (by decide), hs_ne (by decide)]
    by_cases z : v = n
    · rw [if_pos z, z, hcel1]
    · rw [if_neg z, hcell z]
  have fu : ∀ v, hset (hset (hset (hset hr 9569 n w) 9632 n p) 9696 n c) 6603 19 (n + 1) 9632 v = if v = n then p else hr 9632 v := fun v => by
    rw [hs_ne (by decide), hs_ne (by decide)]
    by_cases z : v = n
    · rw [if_pos z, z, hcel1]
    · rw [if_neg z, hcell z, hs_ne (by decide)]
  have fc : ∀ v, hset (hset (hset (hset hr 9569 n w) 9632 n p) 9696 n c) 6603 19 (n + 1) 9696 v = if v = n then c else hr 9696 v := fun v => by
    rw [hs_ne (by decide)]
    by_cases z : v = n
    · rw [if_pos z, z, hcel1]
    · rw [if_neg z, hcell z, hs_ne (by decide), hs_ne (by decide)]
  generalize hset (hset (hset (hset hr 9569 n w) 9632 n p) 9696 n c) 6603 19 (n + 1) = g at *
  obtain ⟨v0, ⟨v1, v2⟩, v3, v4⟩ := hv
  have eSS := fo S (by omega) (by omega) (by omega) (by omega)
  have e980 := fo (S + 980) (by omega) (by omega) (by omega) (by omega)
  have RR : TRI S g := by
    refine ⟨?_, ?_, R.2.2.gr (by rw [eSS]; exact Int.le_refl _) (fun i _ _ => by rw [e980]) (f8 24 (by decide)) (fo _ (by decide) (by decide) (by decide) (by decide))⟩
    · unfold TRI0
      rw [eSS, e980, fo (S + 1044) (by omega) (by omega) (by omega) (by omega)]
      exact R.1
    · unfold RFI
      rw [eSS, e980, f6, fo (S + 916) (by omega) (by omega) (by omega) (by omega), fo (S + 84) (by omega) (by omega) (by omega) (by omega)]
      refine ⟨R.2.1.1, fun k k0 k1 => ?_⟩
      rw [fc]
      by_cases z : k = n
      · rw [if_pos z]
        refine ⟨hc.1, hc.2.1, fun j j0 j1 => ?_⟩
        rw [fc, if_neg (by omega)]
        exact hc.2.2 j j0 (by omega)
      · rw [if_neg z]
        obtain ⟨y1, y2, y3⟩ := R.2.1.2 k k0 (by omega)
        refine ⟨y1, y2, fun j j0 j1 => ?_⟩
        rw [fc, if_neg (by omega)]
        exact y3 j j0 j1
  refine ⟨D0.ref (f8 9 (by decide)) (fun o z => fo o (by omega) (by omega) (by omega) (by omega)) ?_ ⟨⟨M.1, ?_, ?_, ?_, ?_⟩, M2⟩ (L.fr rfl rfl rfl rfl (Int.le_refl _) PRE.rfl' (fo _ (by decide) (by decide) (by decide) (by decide)) (fo _ (by decide) (by decide) (by decide) (by decide)) (fo _ (by decide) (by decide) (by decide) (by decide)) (fo _ (by decide) (by decide) (by decide) (by decide)) (by rw [fo S (by omega) (by omega) (by omega) (by omega)]; exact Int.le_refl _)) RR, ⟨?_, fun o x _ y z u _ _ _ _ _ _ _ _ _ _ _ => fo o x y z u, fun i _ _ _ _ _ => by rw [fo S (by omega) (by omega) (by omega) (by omega)], fun i _ _ _ _ _ _ _ _ _ z _ => f8 i z⟩, ⟨f6, by rw [fv, if_pos rfl], by rw [fu, if_pos rfl], by rw [fc, if_pos rfl]⟩, fo, f8⟩
  · unfold NBR STQ
    rw [f6, f8 13 (by decide), f8 15 (by decide), f8 24 (by decide), fo S (by omega) (by omega) (by omega) (by omega), fo (S + 84) (by omega) (by omega) (by omega) (by omega)]
    omega
  · rw [f8 15 (by decide), fo 9505 (by decide) (by decide) (by decide) (by decide)]
    exact M.2.1
  · intro v x1 x2
    have y := M.2.2.1 v x1 x2
    unfold VTL at y ⊢
    rw [f8 15 (by decide), fo 9505 (by decide) (by decide) (by decide) (by decide), f6]
    rcases y with y | ⟨y1, y2, y3⟩
    · exact .inl y
    · refine .inr ⟨y1, y2, fun k k0 k1 q => ?_⟩
      rw [fv] at q
      rw [fu]
      by_cases z : k = n
      · rw [if_pos z] at q ⊢
        have := M.1 v v0 x1 x2 v1 v2 (by omega)
        rw [this]
        exact v4
      · rw [if_neg z] at q ⊢
        exact y3 k k0 (by omega) q
  · rw [f8 15 (by decide), fo 9505 (by decide) (by decide) (by decide) (by decide)]
    exact M.2.2.2.1
  · intro k k0 k1
    rw [f6] at k1
    rw [fv]
    by_cases z : k = n
    · rw [if_pos z]
      exact ⟨v0, ⟨v1, v2⟩, v3⟩
    · rw [if_neg z]
      exact M.2.2.2.2 k k0 (by omega)
  · unfold ERP
    rw [f6, f8 15 (by decide), f8 24 (by decide), fo S (by omega) (by omega) (by omega) (by omega), fo (S + 980) (by omega) (by omega) (by omega) (by omega), fo (S + 1044) (by omega) (by omega) (by omega) (by omega), fo (S + 1108) (by omega) (by omega) (by omega) (by omega), fo (S + 1174) (by omega) (by omega) (by omega) (by omega), fo (S + 1236) (by omega) (by omega) (by omega) (by omega), fo (S + 1300) (by omega) (by omega) (by omega) (by omega), fo 9505 (by decide) (by decide) (by decide) (by decide), fo 9761 (by decide) (by decide) (by decide) (by decide), fo 9824 (by decide) (by decide) (by decide) (by decide), fo 9888 (by decide) (by decide) (by decide) (by decide), fo 9952 (by decide) (by decide) (by decide) (by decide), hn]
    obtain ⟨z1, z2, z3, z4, z5⟩ := (ERP.rfl' (S := S) (r := 0) (t := 0) (h := hr))
    exact ⟨z1, z2, z3, ⟨by omega, fun i _ _ y => by rw [fv, if_neg (by omega)], fun i _ _ y => by rw [fu, if_neg (by omega)], fun i _ _ y => by rw [fc, if_neg (by omega)]⟩, z5⟩
end SM
