/-! THE PURE SIDE, 85: pupil, wish, week, mark, marks keep the relation: printed by wip/tools/gen89o.py -/
theorem st_pupil {d : Nat} {h : HV} {g w : Int} (R : RB h) : Sp fz1 (d + 4) 135 [(3, 64), (0, g), (0, w)] h (fun x h1 => h1 50 = h 50 ∧ Sp fz1 (d + 4) 368 [(3, 6603), (0, g), (0, w)] h1 (fun y h2 => x = y ∧ RB h2 ∧ UF h h2 ∧ h2 50 = h 50)) := by
  have RR := R
  obtain ⟨RX, RG, RU, RL, RM, RTP, RP, RB, RW, RA, RT, RI, RV, RAB, RSD, RCH, RPC, RRW, RMK, RGV, RMI, RVL, RRM, RIT⟩ := R
  refine (op_pupil RX RG RP).imp fun x h1 ⟨s, H⟩ => ⟨s, H.imp fun y h2 ⟨q, c1, w1⟩ => ?_⟩
  subst q
  rcases w1 with w1 | ⟨hc, w1⟩
  · subst w1
    exact ⟨rfl, RR, uf_rfl _, rfl⟩
  rw [pupH_is] at w1
  obtain ⟨H0, hH0⟩ : ∃ H0, H0 = hset h 64 16 0 := ⟨_, rfl⟩
  rw [← hH0] at w1
  have e0 : ∀ a, a ≠ 64 → H0 a = h a := fun a q => by rw [hH0, hs_ne q]
  have s0 : ∀ s, s ≠ 16 → H0 64 s = h 64 s := fun s q => by rw [hH0, hset_v, if_neg (fun w => q w.2)]
  have T1 : ∀ a, a ≠ 836 ∧ a ≠ 1120 ∧ a ≠ 1056 ∧ a ≠ 992 ∧ a ≠ 928 ∧ a ≠ 12576 ∧ a ≠ 12512 ∧ a ≠ 12384 ∧ a ≠ 10208 ∧ a ≠ 10144 ∧ a ≠ 10080 ∧ a ≠ 10016 ∧ a ≠ 6603 → bothH H0 0 w g a = H0 a := fun a q => by
    unfold bothH
    rw [entH_ne q.2.2.2.2.2.1 q.2.2.2.2.2.2.1 q.2.2.2.2.2.2.2.1 q.2.2.2.2.2.2.2.2.1 q.2.2.2.2.2.2.2.2.2.1 q.2.2.2.2.2.2.2.2.2.2.1 q.2.2.2.2.2.2.2.2.2.2.2.1 q.2.2.2.2.2.2.2.2.2.2.2.2, addH_ne q.1 q.2.1 q.2.2.1 q.2.2.2.1 q.2.2.2.2.1]
  have U0 : UF h H0 := uf_of RVL (fun a q => e0 a (by unfold DN at q; omega)) (s0 8 (by decide)) (s0 9 (by decide)) (by rw [e0 _ (by decide)]) (by rw [e0 _ (by decide)])
  have F0 := uf_tx RX U0
  have X0 := f_X F0 RX
  have P0 : RPp H0 := f_P (congrFun (e0 6603 (by decide)) 25) (congrFun (e0 836 (by decide)) 4) (e0 _ (by decide)) (e0 _ (by decide)) (e0 _ (by decide)) (e0 _ (by decide)) (e0 _ (by decide)) (e0 _ (by decide)) RP
  have C0 : RCh H0 := f_Ch F0 (congrFun (e0 836 (by decide)) 4) (e0 _ (by decide)) (e0 _ (by decide)) (e0 _ (by decide)) (e0 _ (by decide)) (e0 _ (by decide)) (e0 _ (by decide)) (e0 _ (by decide)) (e0 _ (by decide)) (e0 _ (by decide)) (congrFun (e0 6603 (by decide)) 86) (congrFun (e0 2953 (by decide)) 6) RCH
  have PC0 : RPc H0 := f_Pc F0 (congrFun (e0 836 (by decide)) 4) (congrFun (e0 2953 (by decide)) 1) (e0 _ (by decide)) RPC
  have D0 : DYF h H0 := dyf_of RRW RVL (fun a q => e0 a (by unfold DN at q; omega)) (congrFun (e0 6603 (by decide)) 30)
  have W0 := f_Rw D0 RRW
  have M0 : RMk H0 := f_Mk D0 (congrFun (e0 836 (by decide)) 4) (e0 _ (by decide)) (e0 _ (by decide)) (e0 _ (by decide)) RMK
  have hc0 : H0 836 4 < 24 := by rw [e0 _ (by decide)]; exact hc
  have CHb := ch_both (k := 0) (w := w) (g := g) P0 C0 X0 hc0
  have MKb := mk_both (k := 0) (w := w) (g := g) P0 W0 M0 hc0
  have PCb := pc_both (k := 0) (w := w) (g := g) P0 C0 X0 PC0 hc0
  have k1 : ∀ a, a ≠ 6603 → h2 a = bothH H0 0 w g a := fun a q => by rw [w1, hs_ne q]
  have k2 : ∀ s, s ≠ 61 → h2 6603 s = bothH H0 0 w g 6603 s := fun s q => by rw [w1, hset_v, if_neg (fun w => q w.2)]
  have b6 : ∀ s, s ≠ 25 → bothH H0 0 w g 6603 s = h 6603 s := fun s hs => by
    unfold bothH
    rw [entH_v, addH_ne (by decide) (by decide) (by decide) (by decide) (by decide)]
    simp (implicitDefEqProofs := false) only [Int.reduceEq, false_and, true_and, if_false]
    rw [if_neg hs, e0 _ (by decide)]
  have e : ∀ a, (a ≠ 836 ∧ a ≠ 1120 ∧ a ≠ 1056 ∧ a ≠ 992 ∧ a ≠ 928 ∧ a ≠ 12576 ∧ a ≠ 12512 ∧ a ≠ 12384 ∧ a ≠ 10208 ∧ a ≠ 10144 ∧ a ≠ 10080 ∧ a ≠ 10016 ∧ a ≠ 6603) ∧ a ≠ 64 → h2 a = h a := fun a q => by rw [k1 a q.1.2.2.2.2.2.2.2.2.2.2.2.2, T1 a q.1, e0 a q.2]
  have s64 : ∀ s, s ≠ 16 → h2 64 s = h 64 s := fun s hs => by rw [k1 _ (by decide), T1 _ (by decide)]; exact s0 s hs
  have s6603 : ∀ s, s ≠ 25 ∧ s ≠ 61 → h2 6603 s = h 6603 s := fun s q => by rw [k2 s q.2, b6 s q.1]
  have Fb : TXF (bothH H0 0 w g) h2 := by
    have z64 : bothH H0 0 w g 64 8 = h 64 8 := by rw [T1 _ (by decide)]; exact s0 8 (by decide)
    have z66 : bothH H0 0 w g 6603 9 = h 6603 9 := b6 9 (by decide)
    refine ⟨by rw [k1 _ (by decide)], k2 9 (by decide), fun x a b => ?_, fun x a b => ?_⟩
    · rw [z64]; exact k1 _ (by rcases RX.1 with t | t <;> omega)
    · rw [z66]; exact k1 _ (by rcases RX.2.1 with t | t <;> omega)
  have CH2 : RCh h2 := f_Ch Fb (congrFun (k1 836 (by decide)) 4) (k1 _ (by decide)) (k1 _ (by decide)) (k1 _ (by decide)) (k1 _ (by decide)) (k1 _ (by decide)) (k1 _ (by decide)) (k1 _ (by decide)) (k1 _ (by decide)) (k1 _ (by decide)) (k2 86 (by decide)) (congrFun (k1 2953 (by decide)) 6) CHb
  have PC2 : RPc h2 := f_Pc Fb (congrFun (k1 836 (by decide)) 4) (congrFun (k1 2953 (by decide)) 1) (k1 _ (by decide)) PCb
  have MK2 : RMk h2 := g_Mk (k1 643 (by decide)) (k1 _ (by decide)) (congrFun (k1 836 (by decide)) 4) (k1 _ (by decide)) (k1 _ (by decide)) (k1 _ (by decide)) MKb
  have b9 : ∀ p, 0 ≤ p → p < h 836 4 → h2 928 p = h 928 p := fun p p0 p1 => by
    rw [k1 _ (by decide)]
    unfold bothH
    rw [entH_ne (by decide) (by decide) (by decide) (by decide) (by decide) (by decide) (by decide) (by decide), addH_v]
    simp (implicitDefEqProofs := false) only [Int.reduceEq, false_and, true_and, if_false]
    rw [if_neg (by rw [e0 836 (by decide)]; omega), e0 928 (by decide)]
  have b4 : h2 836 4 = h 836 4 + 1 := by
    rw [k1 _ (by decide)]
    have b4 : bothH H0 0 w g 836 4 = H0 836 4 + 1 := by unfold bothH; rw [entH_ne (by decide) (by decide) (by decide) (by decide) (by decide) (by decide) (by decide) (by decide), addH_v]; simp (implicitDefEqProofs := false) only [true_and, if_true]
    rw [b4, e0 _ (by decide)]
  have z16 : h2 64 16 = 0 := by rw [k1 _ (by decide), T1 _ (by decide), hH0, hset_v, if_pos ⟨rfl, rfl⟩]
  have SD2 : RSd h2 := ⟨by rw [z16]; decide, .inr ⟨by rw [w1, hset_v, if_pos ⟨rfl, rfl⟩], z16⟩, fun k a b => by rw [z16] at b; omega⟩
  have DNe : ∀ a, DN a → h2 a = h a := fun a q => e a (by unfold DN at q; omega)
  have D := dyf_of RRW RVL DNe (s6603 30 (by decide))
  have UU := uf_of RVL DNe (s64 8 (by decide)) (s64 9 (by decide)) (s6603 9 (by decide)) (s6603 10 (by decide))
  have F := uf_tx RX UU
  exact ⟨rfl, ⟨(f_X F RX), (f_G F RG), (f_U F RU), (f_L F RL), (f_M F RM), (f_TP (congrFun (e 129 (by decide)) 1) (s6603 1 (by decide)) (e 6691 (by decide)) (e 227 (by decide)) RTP), c1, (f_B (s6603 65 (by decide)) (congrFun (e 1927 (by decide)) 1) (e 11680 (by decide)) (e 2016 (by decide)) (e 11808 (by decide)) (e 2080 (by decide)) RB), (f_W (e 2080 (by decide)) RW), (f_A (fun s a b => congrFun (e 1927 (by decide)) s) (fun s a b c => s6603 s (by omega)) RA), (f_T F (congrFun (e 1927 (by decide)) 0) (congrFun (e 1927 (by decide)) 13) (e 11872 (by decide)) (e 11936 (by decide)) (e 2528 (by decide)) RT), (f_I F (congrFun (e 1927 (by decide)) 13) (e 2528 (by decide)) RI), (f_V F (congrFun (e 2568 (by decide)) 4) (congrFun (e 1927 (by decide)) 13) (s6603 71 (by decide)) (e 12896 (by decide)) (e 2720 (by decide)) RV), (f_Ab (e 11744 (by decide)) (e 2656 (by decide)) RAB), SD2, CH2, PC2, (f_Rw D RRW), MK2, (f_Gv D (s64 10 (by decide)) (s64 11 (by decide)) (s6603 58 (by decide)) (s6603 59 (by decide)) RGV), (f_Mi F (s6603 55 (by decide)) (congrFun (e 1157 (by decide)) 15) (s64 12 (by decide)) (s6603 53 (by decide)) (congrFun (e 2568 (by decide)) 1) RMI), (f_Vl D RVL), (f_Rm D RRM), (f_Itm D (by omega) b9 RIT)⟩, UU, (e 50 (by decide))⟩
theorem st_wish {d : Nat} {h : HV} {l p w : Int} (R : RB h) : Sp fz1 (d + 3) 249 [(3, 64), (0, l), (0, p), (0, w)] h (fun x h1 => h1 50 = h 50 ∧ Sp fz1 (d + 3) 420 [(3, 6603), (0, l), (0, p), (0, w)] h1 (fun y h2 => x = y ∧ RB h2 ∧ UF h h2 ∧ h2 50 = h 50)) := by
  have RR := R
  obtain ⟨RX, RG, RU, RL, RM, RTP, RP, RB, RW, RA, RT, RI, RV, RAB, RSD, RCH, RPC, RRW, RMK, RGV, RMI, RVL, RRM, RIT⟩ := R
  refine (op_wishW RX RB).imp fun x h1 ⟨s, H⟩ => ⟨s, H.imp fun y h2 ⟨q, c1, w, w1, w2⟩ => ?_⟩
  subst q
  have W2 : RTw h2 := fun i a b => by
    rcases w2 i with t | t
    · rw [t]; exact RW i a b
    · exact t
  rcases w1 with w1 | ⟨n1, n2, n3, n4, n5, n6, n7⟩
  · subst w1
    exact ⟨rfl, RR, uf_rfl _, rfl⟩
  have e : ∀ a, a ≠ 1927 ∧ a ≠ 2080 ∧ a ≠ 11808 ∧ a ≠ 6603 → h2 a = h a := fun a q => w a q.1 q.2.1 q.2.2.1 q.2.2.2
  have TA : RTa h2 := by
    unfold RTa
    rw [n1, n2, n3, n4]
    exact ⟨by decide, by decide, rfl, rfl, fun w => by omega, fun w => by omega⟩
  have TI : RTi h2 := fun w => by rw [n1] at w; omega
  have TV : RCv h2 := by
    unfold RCv
    rw [n1, n5, e 2568 (by decide)]
    exact ⟨RV.1, ⟨fun w => absurd rfl w, fun w => by omega⟩, fun w => absurd rfl w⟩
  have s1927 : ∀ s, s ≠ 13 ∧ s ≠ 14 → h2 1927 s = h 1927 s := fun s q => n6 s q.1 q.2
  have s6603 : ∀ s, s ≠ 69 ∧ s ≠ 70 ∧ s ≠ 71 → h2 6603 s = h 6603 s := fun s q => n7 s q.1 q.2.1 q.2.2
  have TT : RTt h2 := ⟨by rw [s1927 0 (by decide), e 64 (by decide)]; exact RT.1, fun w => by rw [n1] at w; omega⟩
  have DNe : ∀ a, DN a → h2 a = h a := fun a q => e a (by unfold DN at q; omega)
  have D := dyf_of RRW RVL DNe (s6603 30 (by decide))
  have UU := uf_of RVL DNe (congrFun (e 64 (by decide)) 8) (congrFun (e 64 (by decide)) 9) (s6603 9 (by decide)) (s6603 10 (by decide))
  have F := uf_tx RX UU
  exact ⟨rfl, ⟨(f_X F RX), (f_G F RG), (f_U F RU), (f_L F RL), (f_M F RM), (f_TP (congrFun (e 129 (by decide)) 1) (s6603 1 (by decide)) (e 6691 (by decide)) (e 227 (by decide)) RTP), (f_P (s6603 25 (by decide)) (congrFun (e 836 (by decide)) 4) (e 10016 (by decide)) (e 928 (by decide)) (e 10080 (by decide)) (e 992 (by decide)) (e 10144 (by decide)) (e 1056 (by decide)) RP), c1, W2, TA, TT, TI, TV, (f_Ab (e 11744 (by decide)) (e 2656 (by decide)) RAB), (f_Sd (congrFun (e 64 (by decide)) 16) (s6603 61 (by decide)) (e 11488 (by decide)) (e 6432 (by decide)) RSD), (f_Ch F (congrFun (e 836 (by decide)) 4) (e 12384 (by decide)) (e 3104 (by decide)) (e 12448 (by decide)) (e 3040 (by decide)) (e 12512 (by decide)) (e 3168 (by decide)) (e 928 (by decide)) (e 12576 (by decide)) (e 3232 (by decide)) (s6603 86 (by decide)) (congrFun (e 2953 (by decide)) 6) RCH), (f_Pc F (congrFun (e 836 (by decide)) 4) (congrFun (e 2953 (by decide)) 1) (e 3232 (by decide)) RPC), (f_Rw D RRW), (f_Mk D (congrFun (e 836 (by decide)) 4) (e 1120 (by decide)) (e 10208 (by decide)) (e 928 (by decide)) RMK), (f_Gv D (congrFun (e 64 (by decide)) 10) (congrFun (e 64 (by decide)) 11) (s6603 58 (by decide)) (s6603 59 (by decide)) RGV), (f_Mi F (s6603 55 (by decide)) (congrFun (e 1157 (by decide)) 15) (congrFun (e 64 (by decide)) 12) (s6603 53 (by decide)) (congrFun (e 2568 (by decide)) 1) RMI), (f_Vl D RVL), (f_Rm D RRM), (f_It D (congrFun (e 836 (by decide)) 4) (e 928 (by decide)) RIT)⟩, UU, (e 50 (by decide))⟩
theorem st_week {d : Nat} {h : HV} {w : Int} (R : RB h) : Sp fz1 (d + 3) 241 [(3, 64), (0, w)] h (fun x h1 => h1 50 = h 50 ∧ Sp fz1 (d + 3) 416 [(3, 6603), (0, w)] h1 (fun y h2 => x = y ∧ RB h2 ∧ UF h h2 ∧ h2 50 = h 50)) := by
  have RR := R
  obtain ⟨RX, RG, RU, RL, RM, RTP, RP, RB, RW, RA, RT, RI, RV, RAB, RSD, RCH, RPC, RRW, RMK, RGV, RMI, RVL, RRM, RIT⟩ := R
  refine (op_week RB).imp fun x h1 ⟨s, H⟩ => ⟨s, H.imp fun y h2 ⟨q, c1, w1⟩ => ?_⟩
  subst q
  rcases w1 with w1 | ⟨hw, w1⟩
  · subst w1
    exact ⟨rfl, RR, uf_rfl _, rfl⟩
  have g : ∀ (M : HV) (o x y r : Int), hset M o x y o r = if r = x then y else M o r := fun M o x y r => by
    rw [hset_v]
    by_cases q : r = x
    · rw [if_pos ⟨rfl, q⟩, if_pos q]
    · rw [if_neg (fun w => q w.2), if_neg q]
  have e : ∀ a, a ≠ 1927 ∧ a ≠ 2016 ∧ a ≠ 2080 ∧ a ≠ 2656 ∧ a ≠ 2568 ∧ a ≠ 6603 ∧ a ≠ 11680 ∧ a ≠ 11744 ∧ a ≠ 11808 → h2 a = h a := fun a q => by
    rw [w1]
    unfold wkR wkC
    rw [fillH_ne q.2.2.2.2.2.2.2.2, fillH_ne q.2.2.2.2.2.2.2.1, fillH_ne q.2.2.2.2.2.2.1, hs_ne q.2.2.2.2.2.1, hs_ne q.2.2.2.2.2.1, hs_ne q.2.2.2.2.2.1, hs_ne q.2.2.2.2.2.1, hs_ne q.2.2.2.2.1, fillH_ne q.2.2.2.1, hs_ne q.1, hs_ne q.1, fillH_ne q.2.2.1, fillH_ne q.2.1, hs_ne q.1]
  have v1927 : ∀ s, h2 1927 s = if s = 14 then 0 else if s = 13 then 0 else if s = 1 then w else h 1927 s := fun s => by
    rw [w1]
    unfold wkR wkC
    rw [fillH_ne (by decide), fillH_ne (by decide), fillH_ne (by decide), hs_ne (by decide), hs_ne (by decide), hs_ne (by decide), hs_ne (by decide), hs_ne (by decide), fillH_ne (by decide), g, g, fillH_ne (by decide), fillH_ne (by decide), g]
  have v2568 : ∀ s, h2 2568 s = if s = 4 then 0 else h 2568 s := fun s => by
    rw [w1]
    unfold wkR wkC
    rw [fillH_ne (by decide), fillH_ne (by decide), fillH_ne (by decide), hs_ne (by decide), hs_ne (by decide), hs_ne (by decide), hs_ne (by decide), g, fillH_ne (by decide), hs_ne (by decide), hs_ne (by decide), fillH_ne (by decide), fillH_ne (by decide), hs_ne (by decide)]
  have v6603 : ∀ s, h2 6603 s = if s = 71 then 0 else if s = 70 then 0 else if s = 69 then 0 else if s = 65 then w else h 6603 s := fun s => by
    rw [w1]
    unfold wkR wkC
    rw [fillH_ne (by decide), fillH_ne (by decide), fillH_ne (by decide), g, g, g, g, hs_ne (by decide), fillH_ne (by decide), hs_ne (by decide), hs_ne (by decide), fillH_ne (by decide), fillH_ne (by decide), hs_ne (by decide)]
  have v2080 : ∀ i, 0 ≤ i → i < 240 → h2 2080 i = 0 := fun i a b => by
    rw [w1]
    unfold wkR wkC
    rw [fillH_ne (by decide), fillH_ne (by decide), fillH_ne (by decide), hs_ne (by decide), hs_ne (by decide), hs_ne (by decide), hs_ne (by decide), hs_ne (by decide), fillH_ne (by decide), hs_ne (by decide), hs_ne (by decide), fillH_v, if_pos ⟨rfl, a, b⟩]
  have v2656 : ∀ i, 0 ≤ i → i < 10 → h2 2656 i = 0 := fun i a b => by
    rw [w1]
    unfold wkR wkC
    rw [fillH_ne (by decide), fillH_ne (by decide), fillH_ne (by decide), hs_ne (by decide), hs_ne (by decide), hs_ne (by decide), hs_ne (by decide), hs_ne (by decide), fillH_v, if_pos ⟨rfl, a, b⟩]
  have v11744 : ∀ i, 0 ≤ i → i < 10 → h2 11744 i = 0 := fun i a b => by
    rw [w1]
    unfold wkR
    rw [fillH_ne (by decide), fillH_v, if_pos ⟨rfl, a, b⟩]
  have n1 : h2 1927 13 = 0 := by rw [v1927]; rfl
  have n2 : h2 1927 14 = 0 := by rw [v1927]; rfl
  have n3 : h2 6603 69 = 0 := by rw [v6603]; rfl
  have n4 : h2 6603 70 = 0 := by rw [v6603]; rfl
  have n5 : h2 6603 71 = 0 := by rw [v6603]; rfl
  have TA : RTa h2 := by
    unfold RTa
    rw [n1, n2, n3, n4]
    exact ⟨by decide, by decide, rfl, rfl, fun w => by omega, fun w => by omega⟩
  have TI : RTi h2 := fun w => by rw [n1] at w; omega
  have TV : RCv h2 := by
    unfold RCv
    rw [n1, n5, v2568, if_pos rfl]
    exact ⟨by decide, ⟨fun w => absurd rfl w, fun w => by omega⟩, fun w => absurd rfl w⟩
  have s1927 : ∀ s, s ≠ 1 ∧ s ≠ 13 ∧ s ≠ 14 → h2 1927 s = h 1927 s := fun s q => by rw [v1927, if_neg q.2.2, if_neg q.2.1, if_neg q.1]
  have s2568 : ∀ s, s ≠ 4 → h2 2568 s = h 2568 s := fun s q => by rw [v2568, if_neg q]
  have s6603 : ∀ s, s ≠ 65 ∧ s ≠ 69 ∧ s ≠ 70 ∧ s ≠ 71 → h2 6603 s = h 6603 s := fun s q => by rw [v6603, if_neg q.2.2.2, if_neg q.2.2.1, if_neg q.2.1, if_neg q.1]
  have TT : RTt h2 := ⟨by rw [s1927 0 (by decide), e 64 (by decide)]; exact RT.1, fun w => by rw [n1] at w; omega⟩
  have W2 : RTw h2 := fun i a b => by rw [v2080 i a b]; decide
  have AB2 : RAb h2 := fun s a b => by rw [v11744 s a b, v2656 s a b]
  have DNe : ∀ a, DN a → h2 a = h a := fun a q => e a (by unfold DN at q; omega)
  have D := dyf_of RRW RVL DNe (s6603 30 (by decide))
  have UU := uf_of RVL DNe (congrFun (e 64 (by decide)) 8) (congrFun (e 64 (by decide)) 9) (s6603 9 (by decide)) (s6603 10 (by decide))
  have F := uf_tx RX UU
  exact ⟨rfl, ⟨(f_X F RX), (f_G F RG), (f_U F RU), (f_L F RL), (f_M F RM), (f_TP (congrFun (e 129 (by decide)) 1) (s6603 1 (by decide)) (e 6691 (by decide)) (e 227 (by decide)) RTP), (f_P (s6603 25 (by decide)) (congrFun (e 836 (by decide)) 4) (e 10016 (by decide)) (e 928 (by decide)) (e 10080 (by decide)) (e 992 (by decide)) (e 10144 (by decide)) (e 1056 (by decide)) RP), c1, W2, TA, TT, TI, TV, AB2, (f_Sd (congrFun (e 64 (by decide)) 16) (s6603 61 (by decide)) (e 11488 (by decide)) (e 6432 (by decide)) RSD), (f_Ch F (congrFun (e 836 (by decide)) 4) (e 12384 (by decide)) (e 3104 (by decide)) (e 12448 (by decide)) (e 3040 (by decide)) (e 12512 (by decide)) (e 3168 (by decide)) (e 928 (by decide)) (e 12576 (by decide)) (e 3232 (by decide)) (s6603 86 (by decide)) (congrFun (e 2953 (by decide)) 6) RCH), (f_Pc F (congrFun (e 836 (by decide)) 4) (congrFun (e 2953 (by decide)) 1) (e 3232 (by decide)) RPC), (f_Rw D RRW), (f_Mk D (congrFun (e 836 (by decide)) 4) (e 1120 (by decide)) (e 10208 (by decide)) (e 928 (by decide)) RMK), (f_Gv D (congrFun (e 64 (by decide)) 10) (congrFun (e 64 (by decide)) 11) (s6603 58 (by decide)) (s6603 59 (by decide)) RGV), (f_Mi F (s6603 55 (by decide)) (congrFun (e 1157 (by decide)) 15) (congrFun (e 64 (by decide)) 12) (s6603 53 (by decide)) (s2568 1 (by decide)) RMI), (f_Vl D RVL), (f_Rm D RRM), (f_It D (congrFun (e 836 (by decide)) 4) (e 928 (by decide)) RIT)⟩, UU, (e 50 (by decide))⟩
theorem st_mark {d : Nat} {h : HV} {p c k v : Int} (R : RB h) (hv : I32 v) : Sp fz1 (d + 3) 157 [(3, 64), (0, p), (0, c), (0, k), (0, v)] h (fun x h1 => h1 50 = h 50 ∧ Sp fz1 (d + 3) 378 [(3, 6603), (0, p), (0, c), (0, k), (0, v)] h1 (fun y h2 => x = y ∧ RB h2 ∧ UF h h2 ∧ h2 50 = h 50)) := by
  have RR := R
  obtain ⟨RX, RG, RU, RL, RM, RTP, RP, RB, RW, RA, RT, RI, RV, RAB, RSD, RCH, RPC, RRW, RMK, RGV, RMI, RVL, RRM, RIT⟩ := R
  refine (op_markW RX RP RRW RMK).imp fun x h1 ⟨s, H⟩ => ⟨s, H.imp fun y h2 ⟨q, c1, w, w1, w2⟩ => ?_⟩
  subst q
  have N := RRW.1
  have n1 := N.1
  have n2 := N.2.1
  have V1 := RVL.1
  have V2 := RVL.2.1
  unfold NFA at n1 n2 V1 V2
  have e : ∀ a, a ≠ 801 ∧ a ≠ 10401 ∧ a < 13056 → h2 a = h a := fun a q => w a (by omega) q.2.1
  have d6 : h2 (h 1222 0) = h (h 1222 0) := w _ (by omega) (by omega)
  have d7 : h2 (h 1222 1) = h (h 1222 1) := w _ (by have := RVL.2.2.2.1; omega) (by omega)
  have UU : UF h h2 := ⟨fun a q => e a (by unfold KO at q; omega), by rw [e 64 (by decide)], by rw [e 64 (by decide)], by rw [e 6603 (by decide)], by rw [e 6603 (by decide)], d6, d7, e 50 (by decide)⟩
  have MK2 : RMk h2 := g_Mk (e _ (by decide)) (e _ (by decide)) (congrFun (e 836 (by decide)) 4) (e _ (by decide)) (e _ (by decide)) (e _ (by decide)) RMK
  have GV2 : RGv h2 := g_Gv (e _ (by decide)) (congrFun (e 64 (by decide)) 10) (congrFun (e 64 (by decide)) 11) (congrFun (e 6603 (by decide)) 58) (congrFun (e 6603 (by decide)) 59) RGV
  have VL2 : RVl h2 := g_Vl (e _ (by decide)) (e _ (by decide)) (e _ (by decide)) d6 d7 RVL
  have RM2 : RRm h2 := g_Rm (e _ (by decide)) (e _ (by decide)) (e _ (by decide)) (by rw [w (h 643 0) (by omega) (by omega)]) w1 d6 d7 RRM
  have IT2 : RIt h2 := by
    have b1 : rb h2 = rb h := by unfold rb; rw [e 643 (by decide)]
    intro j j0 j1
    rw [e 643 (by decide)] at j1
    rw [b1, e 10272 (by decide), e 836 (by decide), e 928 (by decide)]
    refine ⟨(RIT j j0 j1).1, fun i i0 i1 => ?_⟩
    have zz : rwZ h2 j = rwZ h j := by
      unfold rwZ
      rw [e 643 (by decide), w (h 643 0) (by omega) (by omega)]
    rw [zz] at i1
    rcases (w2 j i j0 j1 i0 i1).2 with t | ⟨t, s⟩
    · rw [t]; exact (RIT j j0 j1).2 i i0 i1
    · rw [t, s]; exact ⟨fun _ => hv, fun w => by omega, fun w => by omega⟩
  have F := uf_tx RX UU
  exact ⟨rfl, ⟨(f_X F RX), (f_G F RG), (f_U F RU), (f_L F RL), (f_M F RM), (f_TP (congrFun (e 129 (by decide)) 1) (congrFun (e 6603 (by decide)) 1) (e 6691 (by decide)) (e 227 (by decide)) RTP), (f_P (congrFun (e 6603 (by decide)) 25) (congrFun (e 836 (by decide)) 4) (e 10016 (by decide)) (e 928 (by decide)) (e 10080 (by decide)) (e 992 (by decide)) (e 10144 (by decide)) (e 1056 (by decide)) RP), (f_B (congrFun (e 6603 (by decide)) 65) (congrFun (e 1927 (by decide)) 1) (e 11680 (by decide)) (e 2016 (by decide)) (e 11808 (by decide)) (e 2080 (by decide)) RB), (f_W (e 2080 (by decide)) RW), (f_A (fun s a b => congrFun (e 1927 (by decide)) s) (fun s a b c => congrFun (e 6603 (by decide)) s) RA), (f_T F (congrFun (e 1927 (by decide)) 0) (congrFun (e 1927 (by decide)) 13) (e 11872 (by decide)) (e 11936 (by decide)) (e 2528 (by decide)) RT), (f_I F (congrFun (e 1927 (by decide)) 13) (e 2528 (by decide)) RI), (f_V F (congrFun (e 2568 (by decide)) 4) (congrFun (e 1927 (by decide)) 13) (congrFun (e 6603 (by decide)) 71) (e 12896 (by decide)) (e 2720 (by decide)) RV), (f_Ab (e 11744 (by decide)) (e 2656 (by decide)) RAB), (f_Sd (congrFun (e 64 (by decide)) 16) (congrFun (e 6603 (by decide)) 61) (e 11488 (by decide)) (e 6432 (by decide)) RSD), (f_Ch F (congrFun (e 836 (by decide)) 4) (e 12384 (by decide)) (e 3104 (by decide)) (e 12448 (by decide)) (e 3040 (by decide)) (e 12512 (by decide)) (e 3168 (by decide)) (e 928 (by decide)) (e 12576 (by decide)) (e 3232 (by decide)) (congrFun (e 6603 (by decide)) 86) (congrFun (e 2953 (by decide)) 6) RCH), (f_Pc F (congrFun (e 836 (by decide)) 4) (congrFun (e 2953 (by decide)) 1) (e 3232 (by decide)) RPC), c1, MK2, GV2, (f_Mi F (congrFun (e 6603 (by decide)) 55) (congrFun (e 1157 (by decide)) 15) (congrFun (e 64 (by decide)) 12) (congrFun (e 6603 (by decide)) 53) (congrFun (e 2568 (by decide)) 1) RMI), VL2, RM2, IT2⟩, UU, (e 50 (by decide))⟩
theorem st_marks {d : Nat} {h : HV} {p c n : Int} (R : RB h) : Sp fz1 (d + 3) 151 [(3, 64), (0, p), (0, c), (0, n)] h (fun x h1 => h1 50 = h 50 ∧ Sp fz1 (d + 3) 375 [(3, 6603), (0, p), (0, c), (0, n)] h1 (fun y h2 => x = y ∧ RB h2 ∧ UF h h2 ∧ h2 50 = h 50)) := by
  have RR := R
  obtain ⟨RX, RG, RU, RL, RM, RTP, RP, RB, RW, RA, RT, RI, RV, RAB, RSD, RCH, RPC, RRW, RMK, RGV, RMI, RVL, RRM, RIT⟩ := R
  refine (op_marks RX RP RRW RMK).imp fun x h1 ⟨s, H⟩ => ⟨s, H.imp fun y h2 ⟨q, c1, c2, w1⟩ => ?_⟩
  subst q
  have N := RRW.1
  have n1 := N.1
  have n2 := N.2.1
  have V1 := RVL.1
  have V2 := RVL.2.1
  have V3 := RVL.2.2.1
  have V4 := RVL.2.2.2.1
  unfold NFA at n1 n2 V1 V2
  rcases w1 with w1 | w1 | ⟨hm, T, w1⟩
  · subst w1
    exact ⟨rfl, RR, uf_rfl _, rfl⟩
  · have e : ∀ a, a ≠ 1120 ∧ a ≠ 10208 → h2 a = h a := fun a q => by rw [w1, hs_ne q.2, hs_ne q.1]
    have DNe : ∀ a, DN a → h2 a = h a := fun a q => e a (by unfold DN at q; omega)
    have D := dyf_of RRW RVL DNe (congrFun (e 6603 (by decide)) 30)
    have UU := uf_of RVL DNe (congrFun (e 64 (by decide)) 8) (congrFun (e 64 (by decide)) 9) (congrFun (e 6603 (by decide)) 9) (congrFun (e 6603 (by decide)) 10)
    have F := uf_tx RX UU
    exact ⟨rfl, ⟨(f_X F RX), (f_G F RG), (f_U F RU), (f_L F RL), (f_M F RM), (f_TP (congrFun (e 129 (by decide)) 1) (congrFun (e 6603 (by decide)) 1) (e 6691 (by decide)) (e 227 (by decide)) RTP), (f_P (congrFun (e 6603 (by decide)) 25) (congrFun (e 836 (by decide)) 4) (e 10016 (by decide)) (e 928 (by decide)) (e 10080 (by decide)) (e 992 (by decide)) (e 10144 (by decide)) (e 1056 (by decide)) RP), (f_B (congrFun (e 6603 (by decide)) 65) (congrFun (e 1927 (by decide)) 1) (e 11680 (by decide)) (e 2016 (by decide)) (e 11808 (by decide)) (e 2080 (by decide)) RB), (f_W (e 2080 (by decide)) RW), (f_A (fun s a b => congrFun (e 1927 (by decide)) s) (fun s a b c => congrFun (e 6603 (by decide)) s) RA), (f_T F (congrFun (e 1927 (by decide)) 0) (congrFun (e 1927 (by decide)) 13) (e 11872 (by decide)) (e 11936 (by decide)) (e 2528 (by decide)) RT), (f_I F (congrFun (e 1927 (by decide)) 13) (e 2528 (by decide)) RI), (f_V F (congrFun (e 2568 (by decide)) 4) (congrFun (e 1927 (by decide)) 13) (congrFun (e 6603 (by decide)) 71) (e 12896 (by decide)) (e 2720 (by decide)) RV), (f_Ab (e 11744 (by decide)) (e 2656 (by decide)) RAB), (f_Sd (congrFun (e 64 (by decide)) 16) (congrFun (e 6603 (by decide)) 61) (e 11488 (by decide)) (e 6432 (by decide)) RSD), (f_Ch F (congrFun (e 836 (by decide)) 4) (e 12384 (by decide)) (e 3104 (by decide)) (e 12448 (by decide)) (e 3040 (by decide)) (e 12512 (by decide)) (e 3168 (by decide)) (e 928 (by decide)) (e 12576 (by decide)) (e 3232 (by decide)) (congrFun (e 6603 (by decide)) 86) (congrFun (e 2953 (by decide)) 6) RCH), (f_Pc F (congrFun (e 836 (by decide)) 4) (congrFun (e 2953 (by decide)) 1) (e 3232 (by decide)) RPC), c1, c2, (f_Gv D (congrFun (e 64 (by decide)) 10) (congrFun (e 64 (by decide)) 11) (congrFun (e 6603 (by decide)) 58) (congrFun (e 6603 (by decide)) 59) RGV), (f_Mi F (congrFun (e 6603 (by decide)) 55) (congrFun (e 1157 (by decide)) 15) (congrFun (e 64 (by decide)) 12) (congrFun (e 6603 (by decide)) 53) (congrFun (e 2568 (by decide)) 1) RMI), (f_Vl D RVL), (f_Rm D RRM), (f_It D (congrFun (e 836 (by decide)) 4) (e 928 (by decide)) RIT)⟩, UU, (e 50 (by decide))⟩
  · obtain ⟨t1, t2, t3, t4, t5, t6, t7, t8, t9, t10, t11, t12, t13, t14, t15, t16⟩ := T
    have k : ∀ a, a ≠ 1120 → a ≠ 10208 → h2 a = hm a := fun a a1 a2 => by rw [w1, hs_ne a2, hs_ne a1]
    have e : ∀ a, a ≠ 1120 ∧ a ≠ 10208 ∧ a ≠ 643 ∧ a ≠ 736 ∧ a ≠ 801 ∧ a ≠ 10401 ∧ a ≠ 10336 ∧ a ≠ 10272 ∧ a ≠ 6603 ∧ a ≠ 0 ∧ a < 13056 → h2 a = h a := fun a q => by
      rw [k a q.1 q.2.1]
      exact t10 a (by omega) (by omega) (by omega) (by omega) (by omega) (by omega) (by omega) (by omega) (by omega)
    have s6603 : ∀ s, s ≠ 30 → h2 6603 s = h 6603 s := fun s q => by rw [k _ (by decide) (by decide)]; exact t11 s q
    have d6 : h2 (h 1222 0) = h (h 1222 0) := by
      rw [k _ (by omega) (by omega)]
      exact t10 _ (by omega) (by omega) (by omega) (by omega) (by omega) (by omega) (by omega) (by omega) (by omega)
    have d7 : h2 (h 1222 1) = h (h 1222 1) := by
      rw [k _ (by omega) (by omega)]
      exact t10 _ (by omega) (by omega) (by omega) (by omega) (by omega) (by omega) (by omega) (by omega) (by omega)
    have UU : UF h h2 := ⟨fun a q => e a (by unfold KO at q; omega), by rw [e 64 (by decide)], by rw [e 64 (by decide)], s6603 9 (by decide), s6603 10 (by decide), d6, d7, e 50 (by decide)⟩
    have m3 : h2 643 = hm 643 := k _ (by decide) (by decide)
    have m0 : h2 0 = hm 0 := k _ (by decide) (by decide)
    have m12 : h2 1222 = h 1222 := e _ (by decide)
    have nb := t1.1.1
    have nb2 := t1.1.2.1
    unfold NFA at nb nb2
    have ma : h2 (hm 643 0) = hm (hm 643 0) := k _ (by omega) (by omega)
    have mb : h2 (hm 643 1) = hm (hm 643 1) := k _ (by omega) (by omega)
    have GV2 : RGv h2 := by
      have b1 : rb h2 = rb h := by unfold rb at t4 ⊢; rw [m3]; exact t4
      unfold RGv
      rw [b1, m3, t2, congrFun (e 64 (by decide)) 10, congrFun (e 64 (by decide)) 11, s6603 58 (by decide), s6603 59 (by decide)]
      refine ⟨RGV.1, fun z => ?_⟩
      obtain ⟨g1, g2, g3⟩ := RGV.2 z
      exact ⟨g1, by omega, g3⟩
    have VL2 : RVl h2 := by
      unfold RVl NFA
      rw [m12, m0, m3, d6, d7]
      obtain ⟨v1, v2, v3, v4, v5, v6⟩ := RVL
      refine ⟨⟨V1.1, V1.2.1, V1.2.2.1, by omega, by omega⟩, ⟨V2.1, V2.2.1, V2.2.2.1, by omega, by omega⟩, ?_, ?_, v5, v6⟩
      · rcases t15 with t | t
        · rw [t]; exact V3
        · omega
      · rcases t16 with t | t
        · rw [t]; exact V4
        · omega
    have RM2 : RRm h2 := by
      have b1 : rm h2 = rm hm := by unfold rm; rw [m3, ma, mb]
      unfold RRm at RRM ⊢
      rw [b1, m0, m12, d6, d7]
      omega
    have IT2 : RIt h2 := by
      have b1 : rb h2 = rb hm := by unfold rb; rw [m3]
      have z2 : rwZ h2 = rwZ hm := by funext r; unfold rwZ; rw [m3, ma]
      have i2 : rwI h2 = rwI hm := by funext r i; unfold rwI; rw [m3, mb, ma]
      intro j j0 j1
      rw [m3, t2] at j1
      rw [b1, z2, i2, k 10272 (by decide) (by decide), e 836 (by decide), e 928 (by decide), t4]
      by_cases jj : j < h 643 2
      · obtain ⟨ta, tb⟩ := t7 j j0 jj
        rw [t5 (j + rb h) (by unfold rb; omega), ta]
        refine ⟨(RIT j j0 jj).1, fun i i0 i1 => ?_⟩
        rw [tb i i0 i1]; exact (RIT j j0 jj).2 i i0 i1
      · have jj : j = h 643 2 := by omega
        rw [jj, show h 643 2 + rb h = h 643 3 by unfold rb; omega, t6, t8]
        refine ⟨by decide, fun i i0 i1 => ?_⟩
        rw [t9 i i0 i1]
        exact ⟨fun _ => by unfold I32; decide, fun w => by omega, fun w => by omega⟩
    have F := uf_tx RX UU
    exact ⟨rfl, ⟨(f_X F RX), (f_G F RG), (f_U F RU), (f_L F RL), (f_M F RM), (f_TP (congrFun (e 129 (by decide)) 1) (s6603 1 (by decide)) (e 6691 (by decide)) (e 227 (by decide)) RTP), (f_P (s6603 25 (by decide)) (congrFun (e 836 (by decide)) 4) (e 10016 (by decide)) (e 928 (by decide)) (e 10080 (by decide)) (e 992 (by decide)) (e 10144 (by decide)) (e 1056 (by decide)) RP), (f_B (s6603 65 (by decide)) (congrFun (e 1927 (by decide)) 1) (e 11680 (by decide)) (e 2016 (by decide)) (e 11808 (by decide)) (e 2080 (by decide)) RB), (f_W (e 2080 (by decide)) RW), (f_A (fun s a b => congrFun (e 1927 (by decide)) s) (fun s a b c => s6603 s (by omega)) RA), (f_T F (congrFun (e 1927 (by decide)) 0) (congrFun (e 1927 (by decide)) 13) (e 11872 (by decide)) (e 11936 (by decide)) (e 2528 (by decide)) RT), (f_I F (congrFun (e 1927 (by decide)) 13) (e 2528 (by decide)) RI), (f_V F (congrFun (e 2568 (by decide)) 4) (congrFun (e 1927 (by decide)) 13) (s6603 71 (by decide)) (e 12896 (by decide)) (e 2720 (by decide)) RV), (f_Ab (e 11744 (by decide)) (e 2656 (by decide)) RAB), (f_Sd (congrFun (e 64 (by decide)) 16) (s6603 61 (by decide)) (e 11488 (by decide)) (e 6432 (by decide)) RSD), (f_Ch F (congrFun (e 836 (by decide)) 4) (e 12384 (by decide)) (e 3104 (by decide)) (e 12448 (by decide)) (e 3040 (by decide)) (e 12512 (by decide)) (e 3168 (by decide)) (e 928 (by decide)) (e 12576 (by decide)) (e 3232 (by decide)) (s6603 86 (by decide)) (congrFun (e 2953 (by decide)) 6) RCH), (f_Pc F (congrFun (e 836 (by decide)) 4) (congrFun (e 2953 (by decide)) 1) (e 3232 (by decide)) RPC), c1, c2, GV2, (f_Mi F (s6603 55 (by decide)) (congrFun (e 1157 (by decide)) 15) (congrFun (e 64 (by decide)) 12) (s6603 53 (by decide)) (congrFun (e 2568 (by decide)) 1) RMI), VL2, RM2, IT2⟩, UU, (e 50 (by decide))⟩
