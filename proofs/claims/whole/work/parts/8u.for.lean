/-! THE PURE SIDE, 168: acts on both sides: for: printed by wip/tools/gen8u.py -/
section SM
variable {bX : Int} {tp : Int → Int} {t T S s s1 s2 f : Int} {h hr g gr k kr m mr : HV} {Q : Int → HV → Prop} {d : Nat}
set_option maxHeartbeats 4000000 in
theorem tell_sac {w : Int} (a : SAC h g) : SAC (tellH h w) (tellH g w) ∧ useV g w = useV h w := by
  have e1 := a 353 (by decide)
  have e2 := a 258 (by decide)
  have e3 := a 416 (by decide)
  have eV : useV g w = useV h w := by
    unfold useV
    rw [e1, e2]
  refine ⟨fun o ho => ?_, eV⟩
  unfold tellH
  rw [eV]
  unfold useH
  rw [e1, e2]
  have e0 := a o ho
  split <;> (funext i; simp only [hset_v, e0])
set_option maxHeartbeats 4000000 in
/-- the name of a for on both sides: the class goes on first -/
theorem GD.fn {w : Int} (D : GD bX tp t T S s h hr) (l : h 258 6 + 1 ≤ 4 + h T 15) (l2 : hr 6603 15 + 1 ≤ 4 + h T 15) (d e : Nat) : ∃ g1 g rs gr u y, ((∀ Q, Sp fz1 (d + 8) 28 [(3, 129), (0, 1)] h Q = Q 0 g1) ∧ ∀ Q, Sp fz1 (d + 8) 75 [(3, 258), (1, w)] g1 Q = Q u g) ∧ ((∀ Q, Sp fz1 (e + 2) 342 [(3, 6603), (1, w)] hr Q = Q y rs) ∧ (∀ (d : Nat) Q, Sp fz1 d 325 [(3, 6603)] rs Q = Q 1 rs) ∧ ∀ Q, Sp fz1 (e + 2) 321 [(3, 6603)] rs Q = Q 0 gr) ∧ GOM bX tp t T S s h hr (nxS tp t s) g gr ∧ (s < t → s + 1 ≤ nxS tp t s) ∧ (∃ a b, (0 ≤ a ∧ a ≤ 1) ∧ (0 ≤ b ∧ b ≤ 1) ∧ NC T h g 0 0 0 a 0 ∧ NR S hr gr 0 0 0 0 0 b 0) ∧ ((0 ≤ u ∧ u < g 258 6) ∧ g 353 u = w) ∧ ((0 ≤ y ∧ y < gr 6603 15) ∧ gr 9505 y = w) ∧ ∀ v, h 258 6 ≤ v → v < g 258 6 → g 416 v = -1 := by
  have N := D.nb
  have S0 := D.sb
  have hT := D.2.1.1.1
  have hS := D.2.1.2.1
  have kT := kTC hT
  have kS := kTR hS
  unfold NBR at N
  obtain ⟨g1, gr0, D1, b1, b2, c1, c2, e1, -⟩ := D.next d e
  obtain ⟨A1, ⟨a, b, ab, bb, A2, A3⟩, ⟨A4, A5⟩, ⟨A6, A7⟩, A8⟩ := D.tl (w := w) l l2
  obtain ⟨g3, gr, D3, -, -, c3, c4, -, f3⟩ := A1.2.1.next d e
  obtain ⟨t1, t2⟩ := tell_sac (w := w) c1
  obtain ⟨-, -, -, -, -, -, -, -, t6, -⟩ := tell_f (h := g1) (w := w) (by rw [c1 258 (by decide)]; omega)
  have k1 : TKh tp t (nxS tp t s) (tellH g1 w) := D1.1.2.1.fr (t6 129 (by decide) (by decide) (by decide)) (t6 227 (by decide) (by decide) (by decide))
  have D4 := A1.2.1.tok t1 c4 (by omega) D1.1.1 k1 D3.1.2.2
  have EC := t1.ec (c := 0) hT
  have ER := c4.er (r := 0) (t2 := 0) hS
  have z := t1
  refine ⟨g1, tellH g1 w, slotH hr w, gr, useV h w, slotV hr w, ⟨e1, fun Q => ?_⟩, ⟨fun Q => r342 (d := e + 1) (by omega), fun d Q => v325g A1.2.1, f3⟩, ⟨by omega, D4, ⟨A1.2.2.1.1.trans EC.1, A1.2.2.1.2.trans EC.2⟩, A1.2.2.2.1.trans ER.1, A1.2.2.2.2.trans ER.2⟩, fun w => ?_, ⟨a, b, ab, bb, ?_, ?_⟩, ?_, ?_, ?_⟩
  · have q := c75 (d := d + 6) (h := g1) (Q := Q) (w := w) (by rw [c1 258 (by decide)]; omega)
    rw [t2] at q
    exact q
  · have := tkE_gt (tp := tp) (s := s) S0.1 w S0.2.2
    omega
  · unfold NC at *
    rw [t1 T (by omega), t1 258 (by decide)]
    exact A2
  · unfold NR at *
    rw [c4.1 S (by omega), c4.1 (S + 84) (by omega), c4.2 12 (by decide) (by decide) (by decide) (by decide) (by decide), c4.2 15 (by decide) (by decide) (by decide) (by decide) (by decide), c4.2 19 (by decide) (by decide) (by decide) (by decide) (by decide)]
    exact A3
  · rw [t1 258 (by decide), t1 353 (by decide)]
    exact ⟨A4, A5⟩
  · rw [c4.2 15 (by decide) (by decide) (by decide) (by decide) (by decide), c4.1 9505 (by decide)]
    exact ⟨A6, A7⟩
  · rw [t1 258 (by decide), t1 416 (by decide)]
    exact A8
set_option maxHeartbeats 4000000 in
/-- 'to' -/
theorem GD.to (D : GD bX tp t T S s h hr) (d e : Nat) : (∃ g gr, (∀ Q, Sp fz1 (d + 8) 45 [(3, 129), (3, NV_1587)] h Q = Q 0 h) ∧ (∀ Q, Sp fz1 (d + 8) 28 [(3, 129), (0, 1)] h Q = Q 0 g) ∧ (∀ Q, Sp fz1 (e + 6) 361 [(3, 6603), (3, NV_1587)] hr Q = Q 0 gr) ∧ ∃ s1, s + 2 ≤ s1 ∧ GOM bX tp t T S s h hr s1 g gr ∧ NC T h g 0 0 0 0 0 ∧ NR S hr gr 0 0 0 0 0 0 0) ∨ ((∀ Q, Sp fz1 (d + 8) 45 [(3, 129), (3, NV_1587)] h Q = Q (-1) h) ∧ (∀ Q, Sp fz1 (d + 8) 28 [(3, 129), (0, 0)] h Q = Q 0 (bdH h)) ∧ (∀ Q, Sp fz1 (e + 6) 361 [(3, 6603), (3, NV_1587)] hr Q = Q 0 (bdR hr)) ∧ BAD0 T S s h hr (bdH h) (bdR hr)) := by
  have F := D.f
  have fz7 : hr 6603 7 < 0 := by omega
  have q1 : ∀ (d : Nat) Q, Sp fz1 d 325 [(3, 6603)] hr Q = Q 1 hr := fun d Q => v325g D
  by_cases w : tkK tp t s = 1 ∧ wdT tp t s = 29807
  · obtain ⟨g, gr, X1, X2, X3, X4, X5, X6, -, -, e1, f1⟩ := D.nx d (e + 3)
    have wl := wlen D w.1 w.2 (l := [116, 111]) (by decide) (by decide)
    simp (implicitDefEqProofs := false) only [List.length_cons, List.length_nil] at wl
    have ji : ∀ (d : Nat) Q, Sp fz1 (d + 5) 327 [(3, 6603), (3, NV_1587)] hr Q = Q 1 hr := fun d Q => by rw [NV_1587_e, iw_to D.1.2.2 D.1.1 D.2.2.1.2]; exact congrArg (fun x => Q x hr) (if_pos w)
    refine .inl ⟨g, gr, fun Q => ?_, e1, fun Q => ?_, _, by omega, X1, X5, X6⟩
    · rw [NV_1587_e, D.fw (d := d + 3) (str_12 D.2.2.1.1) (by decide) w1_12, if_pos w]
    · simp (implicitDefEqProofs := false) (disch := omega) only [sp361, b361_0, b361_1, b361_2, q361_1, q361_2, x_aload0, x_aload1, y_call321, y_call325, y_call327, y_call332, x_goto_2, x_ifCond_eq_1, x_return, klp_0, klp_1, klp_2, klp_3, klp_9, KC_0, KC_1, KC_2, KC_3, KC_4, ne_eq, not_false_eq_true, not_true_eq_false, true_and, and_true, and_self, implies_true, eq_self, true_imp_iff, false_implies, Int.reduceEq, Int.reduceNe, Int.reduceMod, Int.reduceMul, Int.reduceAdd, Int.reduceSub, Int.reduceLT, Int.reduceLE, Nat.reduceAdd, Nat.reduceLeDiff, Nat.reduceLT, Nat.reduceSub, reduceIte, wds_n, wds_0, wds_1, wds_2, wds_3, or_true, true_or, or_false, false_or, or_self, false_and, and_false, d_pos, d_s1, d_s2, d_s3, d_s4, d_s5, d_s6, d_s7, d_s8, Classical.not_not, q1, ji, f1, d_s9, d_s10, d_s11, d_s12, d_s13, d_s14, d_s15, d_s16, d_s17, d_s18, d_s19, d_s20, d_s21, d_s22, d_s23, d_s24, d_s25, d_s26, d_s27, d_s28, d_s29, d_s30, hs_ne, hcell, hcel1, le_sub1, le_T, le_F, lt_T, lt_F, eq_F, w32_T, bz0, bz1, lc_le, lc_ge, lc_lt, lc_gt, lc_eq]
  · have ji : ∀ (d : Nat) Q, Sp fz1 (d + 5) 327 [(3, 6603), (3, NV_1587)] hr Q = Q 0 hr := fun d Q => by rw [NV_1587_e, iw_to D.1.2.2 D.1.1 D.2.2.1.2]; exact congrArg (fun x => Q x hr) (if_neg w)
    refine .inr ⟨fun Q => ?_, fun Q => p28f (by omega), fun Q => ?_, D.bad0⟩
    · rw [NV_1587_e, D.fw (d := d + 3) (str_12 D.2.2.1.1) (by decide) w1_12, if_neg w]
    · simp (implicitDefEqProofs := false) (disch := omega) only [sp361, b361_0, b361_1, b361_2, q361_1, q361_2, x_aload0, x_aload1, y_call321, y_call325, y_call327, y_call332, x_goto_2, x_ifCond_eq_1, x_return, klp_0, klp_1, klp_2, klp_3, klp_9, KC_0, KC_1, KC_2, KC_3, KC_4, ne_eq, not_false_eq_true, not_true_eq_false, true_and, and_true, and_self, implies_true, eq_self, true_imp_iff, false_implies, Int.reduceEq, Int.reduceNe, Int.reduceMod, Int.reduceMul, Int.reduceAdd, Int.reduceSub, Int.reduceLT, Int.reduceLE, Nat.reduceAdd, Nat.reduceLeDiff, Nat.reduceLT, Nat.reduceSub, reduceIte, wds_n, wds_0, wds_1, wds_2, wds_3, or_true, true_or, or_false, false_or, or_self, false_and, and_false, d_pos, d_s1, d_s2, d_s3, d_s4, d_s5, d_s6, d_s7, d_s8, Classical.not_not, q1, ji, v332g fz7, d_s9, d_s10, d_s11, d_s12, d_s13, d_s14, d_s15, d_s16, d_s17, d_s18, d_s19, d_s20, d_s21, d_s22, d_s23, d_s24, d_s25, d_s26, d_s27, d_s28, d_s29, d_s30, hs_ne, hcell, hcel1, le_sub1, le_T, le_F, lt_T, lt_F, eq_F, w32_T, bz0, bz1, lc_le, lc_ge, lc_lt, lc_gt, lc_eq]
set_option maxHeartbeats 4000000 in
/-- a for's number -/
theorem GD.f21 (D : GD bX tp t T S s h hr) (l : hr S 21 + 1 ≤ h T 15) : GOM bX tp t T S s h hr s h (hset hr S 21 (hr S 21 + 1)) ∧ NR S hr (hset hr S 21 (hr S 21 + 1)) 0 0 1 0 0 0 0 := by
  have D0 := D
  obtain ⟨⟨K, k1, k2⟩, ⟨⟨d1, d2⟩, d3, d4⟩, ⟨s1, s3⟩, N, M, L, R⟩ := D
  have kS := kTR d3
  have fo : ∀ o, o ≠ S → hset hr S 21 (hr S 21 + 1) o = hr o := fun o a => hs_ne a
  have fi : ∀ i, i ≠ 21 → hset hr S 21 (hr S 21 + 1) S i = hr S i := fun i a => hcell a
  have f21 : hset hr S 21 (hr S 21 + 1) S 21 = hr S 21 + 1 := hcel1
  have e3 := fo 6603 (by omega)
  refine ⟨⟨Int.le_refl _, D0.ref (D0.2.ref (by rw [e3]) (fun o w => fo o (by omega)) ?_ (M.fr rfl rfl rfl (by rw [e3]) (fo _ (by omega)) (by rw [e3]) (fo _ (by omega)) (fo _ (by omega))) (L.fr rfl rfl rfl rfl (Int.le_refl _) PRE.rfl' (fo _ (by omega)) (fo _ (by omega)) (fo _ (by omega)) (fo _ (by omega)) (by rw [fi 15 (by decide)]; exact Int.le_refl _)) (R.fr (fi 15 (by decide)) (fo _ (by omega)) (fo _ (by omega)) (by rw [fi 22 (by decide)]; exact Int.le_refl _) ⟨by rw [e3], by rw [e3]⟩ ⟨fo _ (by omega), fo _ (by omega), fo _ (by omega), fo _ (by omega)⟩)) (fun i _ _ => by rw [e3]) (fo _ (by omega)), ⟨ECP.rfl', FXC.rfl'⟩, ?_, fun o _ _ _ _ _ _ _ _ _ a _ _ _ _ _ _ => fo o a, fun i _ _ _ a _ => fi i a, fun i _ _ _ _ _ _ _ _ _ _ _ => by rw [e3]⟩, ?_⟩
  · unfold NBR STQ at *
    rw [f21, e3, fi 14 (by decide), fi 15 (by decide), fi 20 (by decide), fi 22 (by decide), fo (S + 84) (by omega)]
    omega
  · unfold ERP
    rw [f21, e3, fi 15 (by decide), fi 20 (by decide), fi 22 (by decide), fo (S + 980) (by omega), fo (S + 1044) (by omega), fo (S + 1108) (by omega), fo (S + 1174) (by omega), fo (S + 1236) (by omega), fo (S + 1300) (by omega), fo 9505 (by omega), fo 9569 (by omega), fo 9632 (by omega), fo 9696 (by omega), fo 9761 (by omega), fo 9824 (by omega), fo 9888 (by omega), fo 9952 (by omega)]
    have z := ERP.rfl' (S := S) (r := 0) (t := 0) (h := hr)
    unfold ERP at z
    obtain ⟨z1, z2, z3, z4, z5, z6, z7⟩ := z
    exact ⟨z1, z2, z3, z4, z5, by omega, z7⟩
  · unfold NR
    rw [f21, e3, fi 15 (by decide), fi 20 (by decide), fi 22 (by decide), fo (S + 84) (by omega)]
    omega
set_option maxHeartbeats 4000000 in
/-- for -/
theorem for_pair {dep : Int} {B e e2 : Nat} (hB : 110 ≤ B) (he : B ≤ e + 13) (he2 : B ≤ e2 + 13) (hdp : 1 ≤ dep ∧ dep ≤ 12) (OB : BLKP bX tp t T S dep B) (D : GD bX tp t T S s h hr) (PR : PRA T S s h hr) (hd : hr 6603 12 = dep ∧ h 258 11 = 0) (w0 : tkK tp t s = 1 ∧ wdT tp t s = 6713202) : ∃ h1 g gr, (∀ Q, Sp fz1 (e + 14) 28 [(3, 129), (0, 1)] h Q = Q 0 h1) ∧ (∀ Q, Sp fz1 (e + 14) 117 [(3, 258), (0, dep)] h1 Q = Q 0 g) ∧ (∀ Q, Sp fz1 (e2 + 14) 360 [(3, 6603)] hr Q = Q 0 gr) ∧ OUTA bX tp t T S s h hr g gr (dep - 1) := by
  have F := D.f
  have N := D.nb
  have S0 := D.sb
  have hT := D.2.1.1.1
  have hS := D.2.1.2.1
  have kT := kTC D.2.1.1.1
  have kS := kTR D.2.1.2.1
  unfold NBR at N
  unfold PRA at PR
  have wl := wlen D w0.1 w0.2 (l := [102, 111, 114]) (by decide) (by decide)
  simp (implicitDefEqProofs := false) only [List.length_cons, List.length_nil] at wl
  have cl77 : ∀ (d : Nat) (b : HV) Q, Sp fz1 d 77 [(3, T)] b Q = Q (b T 17) b := fun d b Q => q77 hT
  obtain ⟨g1, r1, X1, X1a, X1b, X1c, N1, M1, -, -, ec1, er1⟩ := D.nx (e + 6) (e2 + 11)
  obtain ⟨p1, hp1p⟩ : ∃ p, p = nxS tp t s := ⟨_, rfl⟩
  rw [← hp1p] at X1 X1a X1c
  have N1' := N1
  have M1' := M1
  unfold NC at N1'
  unfold NR at M1'
  have D1 := X1.2.1
  have Z1 := (GOM.rfl' D).trans X1
  have pq1 := X1.1
  have hp1 : g1 258 1 = T := D1.2.1.1.2
  have h91 : r1 6603 9 = S := D1.2.1.2.2
  have sb1 := D1.sb
  have lm1 := D1.lim
  obtain ⟨w, hw⟩ : ∃ w, w = g1 129 6 := ⟨_, rfl⟩
  have cw : ∀ Q, Sp fz1 (e + 13) 53 [(3, 129)] g1 Q = Q w g1 := fun Q => by rw [q53, hw]
  by_cases hn : nmP tp t p1
  rotate_left
  · obtain ⟨B0, E00, F0, H0, b14, b15, -⟩ := D1.bad0
    have z19 := E00.2.1
    have E0 := E00.q
    have rw_ : True := trivial
    have ci : ∀ Q, Sp fz1 (e + 13) 52 [(3, 258)] g1 Q = Q 0 g1 := fun Q => nm_c52n (d := e + 7) D1 hn
    have pz : ∀ Q, Sp fz1 (e + 13) 28 [(3, 129), (0, 0)] g1 Q = Q 0 (bdH g1) := fun Q => p28f (by have := D1.f; omega)
    have ri : ∀ Q, Sp fz1 (e2 + 13) 329 [(3, 6603)] r1 Q = Q 0 r1 := fun Q => nm_329n (d := e2 + 7) D1 hn
    have wz : ∀ Q, Sp fz1 (e2 + 13) 332 [(3, 6603)] r1 Q = Q 0 (bdR r1) := fun Q => v332g (by have := D1.f; omega)
    have hp_0 := B0.1.2
    have h9_0 := E0.1.2
    have y0 := E0.2.2.2
    obtain ⟨w1, k1, ⟨B1, F1⟩, x1⟩ := B0.telx (w := w)
    have hp_1 := B1.1.2
    have x2 : ∀ Q, Sp fz1 (e + 13) 45 [(3, 129), (3, NV_1587)] k1 Q = Q (-1) k1 := fun Q => by rw [NV_1587_e]; exact B1.fd (str_12 B1.2.2.1) (by decide)
    have x3 : ∀ a Q, Sp fz1 (e + 13) 28 [(3, 129), (0, a)] k1 Q = Q 0 k1 := fun a Q => p28b B1.k.2.1 B1.k.2.2
    obtain ⟨k4, ⟨B4, F4⟩, x4⟩ := B1.wh (e := dep) (e + 0)
    have hp_4 := B4.1.2
    obtain ⟨k5, ⟨B5, F5⟩, x5⟩ := B4.e1 (x := 17)
    have hp_5 := B5.1.2
    obtain ⟨k7, ⟨B7, F7⟩, x7⟩ := B5.e2 (p := 18) (x := w1)
    have hp_7 := B7.1.2
    obtain ⟨w8, k8, ⟨B8, F8⟩, x8⟩ := B7.h1
    have hp_8 := B8.1.2
    have x9 : ∀ Q, Sp fz1 (e + 13) 78 [(3, 258), (0, dep)] k8 Q = Q 0 k8 := fun Q => b78 B8
    obtain ⟨k10, ⟨B10, F10⟩, x10⟩ := B8.e2 (p := 15) (x := k5 T 17)
    have hp_10 := B10.1.2
    obtain ⟨k11, ⟨B11, F11⟩, x11⟩ := B10.fi (i := w8)
    have hp_11 := B11.1.2
    have x12 : ∀ Q, Sp fz1 (e2 + 13) 325 [(3, 6603)] (bdR r1) Q = Q 0 (bdR r1) := fun Q => E0.g325
    have x13 : ∀ c Q, Sp fz1 (e2 + 13) 361 [(3, 6603), (3, c)] (bdR r1) Q = Q 0 (bdR r1) := fun c Q => v361b (by have := E0.2.1; omega)
    obtain ⟨m14, ⟨E14, H14, y14a, y14b, y14c⟩, x14⟩ := E0.w0
    have h9_14 := E14.1.2
    have y14 := E14.2.2.2
    have U16 := E14.s5 (x := w32 (m14 S 21 + 1)) 21 (by decide)
    obtain ⟨m16, hm16⟩ : ∃ a, a = hset m14 S 21 (w32 (m14 S 21 + 1)) := ⟨_, rfl⟩
    rw [← hm16] at U16
    obtain ⟨E16, H16, y16a, y16b, y16c⟩ := U16
    have h9_16 := E16.1.2
    have y16 := E16.2.2.2
    obtain ⟨m17, ⟨E17, H17, y17a, y17b, y17c⟩, x17⟩ := E16.cx (p := 21) (a := m14 S 21) (b := 0) (by omega)
    have h9_17 := E17.1.2
    have y17 := E17.2.2.2
    obtain ⟨m18, ⟨E18, H18, y18a, y18b, y18c⟩, x18⟩ := E17.cx (p := 22) (a := m14 S 21) (b := 0) (by omega)
    have h9_18 := E18.1.2
    have y18 := E18.2.2.2
    obtain ⟨m19, ⟨E19, H19, y19a, y19b, y19c⟩, x19⟩ := E18.cx (p := 20) (a := 0) (b := 0) (by omega)
    have h9_19 := E19.1.2
    have y19 := E19.2.2.2
    obtain ⟨m20, ⟨E20, H20, y20a, y20b, y20c⟩, x20⟩ := E19.bl
    have h9_20 := E20.1.2
    have y20 := E20.2.2.2
    obtain ⟨m21, ⟨E21, H21, y21a, y21b, y21c⟩, x21⟩ := E20.cx (p := 20) (a := m17 S 15) (b := 0) (by omega)
    have h9_21 := E21.1.2
    have y21 := E21.2.2.2
    have U22 := E21.pr (j := m17 S 15 + 1) (x := m21 S 15)
    obtain ⟨m22, hm22⟩ : ∃ a, a = hset m21 (S + 1044) (m17 S 15 + 1) (m21 S 15) := ⟨_, rfl⟩
    rw [← hm22] at U22
    obtain ⟨E22, H22, y22a, y22b, y22c⟩ := U22
    have h9_22 := E22.1.2
    have y22 := E22.2.2.2
    refine ⟨g1, k11, m22, ec1, fun Q => ?_, fun Q => ?_, .inr ⟨⟨_, B11, E22⟩, (Z1.2.2.1.2.trans (F0.trans (F1.trans (F4.trans (F5.trans (F7.trans (F8.trans (F10.trans F11)))))))), (Z1.2.2.2.2.trans (H0.trans (H14.trans (H16.trans (H17.trans (H18.trans (H19.trans (H20.trans (H21.trans H22))))))))), by omega, by omega, by omega⟩⟩
    · simp (implicitDefEqProofs := false) (disch := omega) only [sp117, n117_0, b117_1, b117_2, q117_1, q117_2, x_aload0, y_call114, y_call115, y_call28, y_call45, y_call52, y_call53, y_call75, y_call77, y_call78, y_call82, y_call86, y_call93, x_gc_2051, x_gf_2059, x_goto_2, x_iconst, x_ifCond_ne_1, x_iload1, x_iload4, x_iload5, x_iload6, x_istore4, x_istore5, x_istore6, x_jsr, x_lload2, x_lstore2, x_return, klp_0, klp_1, klp_2, klp_3, klp_9, KC_0, KC_1, KC_2, KC_3, KC_4, ne_eq, not_false_eq_true, not_true_eq_false, true_and, and_true, and_self, implies_true, eq_self, true_imp_iff, false_implies, Int.reduceEq, Int.reduceNe, Int.reduceMod, Int.reduceMul, Int.reduceAdd, Int.reduceSub, Int.reduceLT, Int.reduceLE, Nat.reduceAdd, Nat.reduceLeDiff, Nat.reduceLT, Nat.reduceSub, reduceIte, wds_n, wds_0, wds_1, wds_2, wds_3, or_true, true_or, or_false, false_or, or_self, false_and, and_false, d_pos, d_s1, d_s2, d_s3, d_s4, d_s5, d_s6, d_s7, d_s8, Classical.not_not, z258_0, TC_0 hT, TC_k hT, cw, cl77, hp1, ci, pz, hp_0, x1, hp_1, x2, x3, x4, hp_4, x5, hp_5, x7, hp_7, x8, hp_8, x9, x10, hp_10, x11, hp_11, d_s9, d_s10, d_s11, d_s12, d_s13, d_s14, d_s15, d_s16, d_s17, d_s18, d_s19, d_s20, d_s21, d_s22, d_s23, d_s24, d_s25, d_s26, d_s27, d_s28, d_s29, d_s30, hs_ne, hcell, hcel1, le_sub1, le_T, le_F, lt_T, lt_F, eq_F, w32_T, bz0, bz1, lc_le, lc_ge, lc_lt, lc_gt, lc_eq]
    · simp (implicitDefEqProofs := false) (disch := omega) only [sp360, b360_0, b360_1, b360_2, b360_3, n360_4, q360_1, q360_2, q360_3, q360_4, x_aload0, y_call321, y_call325, y_call329, y_call330, y_call332, y_call342, y_call343, y_call347, y_call349, y_call361, x_dup0, x_dup3, x_gc_12427, x_gf_11339, x_gf_12408, x_gf_12456, x_goto_1, x_goto_3, x_goto_4, x_iadd, x_iastore, x_iconst, x_ifCond_eq_2, x_ifCond_eq_4, x_ifCond_ne_1, x_iload1, x_iload2, x_iload3, x_istore1, x_istore2, x_istore3, x_jsr, x_pf_12456, x_pop0, x_pop3, x_return, klp_0, klp_1, klp_2, klp_3, klp_9, KC_0, KC_1, KC_2, KC_3, KC_4, ne_eq, not_false_eq_true, not_true_eq_false, true_and, and_true, and_self, implies_true, eq_self, true_imp_iff, false_implies, Int.reduceEq, Int.reduceNe, Int.reduceMod, Int.reduceMul, Int.reduceAdd, Int.reduceSub, Int.reduceLT, Int.reduceLE, Nat.reduceAdd, Nat.reduceLeDiff, Nat.reduceLT, Nat.reduceSub, reduceIte, wds_n, wds_0, wds_1, wds_2, wds_3, or_true, true_or, or_false, false_or, or_self, false_and, and_false, d_pos, d_s1, d_s2, d_s3, d_s4, d_s5, d_s6, d_s7, d_s8, Classical.not_not, r17 hS, r17l hS, r17k hS, TR_0 hS, TR_k hS, rw_, er1, h91, ri, wz, h9_0, x12, x13, x14, h9_14, h9_16, x17, h9_17, x18, h9_18, x19, h9_19, x20, h9_20, x21, h9_21, h9_22, ← hm16, ← hm22, d_s9, d_s10, d_s11, d_s12, d_s13, d_s14, d_s15, d_s16, d_s17, d_s18, d_s19, d_s20, d_s21, d_s22, d_s23, d_s24, d_s25, d_s26, d_s27, d_s28, d_s29, d_s30, hs_ne, hcell, hcel1, le_sub1, le_T, le_F, lt_T, lt_F, eq_F, w32_T, bz0, bz1, lc_le, lc_ge, lc_lt, lc_gt, lc_eq]
  have hwd : g1 129 6 = wdT tp t p1 := D1.wd hn.1
  have ci : ∀ Q, Sp fz1 (e + 13) 52 [(3, 258)] g1 Q = Q 1 g1 := fun Q => nm_c52 (d := e + 7) D1 hn
  have ri : ∀ Q, Sp fz1 (e2 + 13) 329 [(3, 6603)] r1 Q = Q 1 r1 := fun Q => nm_329 (d := e2 + 7) D1 hn
  have rw_ : ∀ Q, Sp fz1 (e2 + 13) 330 [(3, 6603)] r1 Q = Q w r1 := fun Q => by rw [hw, hwd]; exact v330 D1.1.2.2 D1.1.1
  have gd1 : ∀ (d : Nat) Q, Sp fz1 d 325 [(3, 6603)] r1 Q = Q 1 r1 := fun d Q => v325g D1
  have ts1 := ts_k D1 (by have := hn.1; omega)
  obtain ⟨g2a, g2, r2a, r2, u2, y2, ⟨ec2a, ec2⟩, ⟨er2a, er2b, er2⟩, X2, X2t, ⟨na2, nb2, na20, nb20, N2, M2⟩, ⟨tv2, tw2⟩, ⟨sv2, sw2⟩, tn2⟩ := D1.fn (w := w) (by omega) (by omega) (e + 5) (e2 + 11)
  obtain ⟨p2, hp2p⟩ : ∃ p, p = nxS tp t p1 := ⟨_, rfl⟩
  rw [← hp2p] at X2 X2t
  have N2' := N2
  have M2' := M2
  unfold NC at N2'
  unfold NR at M2'
  have D2 := X2.2.1
  have Z2 := Z1.trans X2
  have pq2 := X2.1
  have hp2 : g2 258 1 = T := D2.2.1.1.2
  have h92 : r2 6603 9 = S := D2.2.1.2.2
  have sb2 := D2.sb
  have lm2 := D2.lim
  have X2q := X2t ts1
  rcases D2.to (e + 5) (e2 + 7) with W3 | W3
  rotate_left
  · obtain ⟨fd3, pz3, rz3, B0, E00, F0, H0, b14, b15, -⟩ := W3
    have z19 := E00.2.1
    have E0 := E00.q
    have hp_0 := B0.1.2
    have h9_0 := E0.1.2
    have y0 := E0.2.2.2
    obtain ⟨k1, ⟨B1, F1⟩, x1⟩ := B0.wh (e := dep) (e + 0)
    have hp_1 := B1.1.2
    obtain ⟨k2, ⟨B2, F2⟩, x2⟩ := B1.e1 (x := 17)
    have hp_2 := B2.1.2
    obtain ⟨k4, ⟨B4, F4⟩, x4⟩ := B2.e2 (p := 18) (x := u2)
    have hp_4 := B4.1.2
    obtain ⟨w5, k5, ⟨B5, F5⟩, x5⟩ := B4.h1
    have hp_5 := B5.1.2
    have x6 : ∀ Q, Sp fz1 (e + 13) 78 [(3, 258), (0, dep)] k5 Q = Q 0 k5 := fun Q => b78 B5
    obtain ⟨k7, ⟨B7, F7⟩, x7⟩ := B5.e2 (p := 15) (x := k2 T 17)
    have hp_7 := B7.1.2
    obtain ⟨k8, ⟨B8, F8⟩, x8⟩ := B7.fi (i := w5)
    have hp_8 := B8.1.2
    obtain ⟨m9, ⟨E9, H9, y9a, y9b, y9c⟩, x9⟩ := E0.w0
    have h9_9 := E9.1.2
    have y9 := E9.2.2.2
    have U11 := E9.s5 (x := w32 (m9 S 21 + 1)) 21 (by decide)
    obtain ⟨m11, hm11⟩ : ∃ a, a = hset m9 S 21 (w32 (m9 S 21 + 1)) := ⟨_, rfl⟩
    rw [← hm11] at U11
    obtain ⟨E11, H11, y11a, y11b, y11c⟩ := U11
    have h9_11 := E11.1.2
    have y11 := E11.2.2.2
    obtain ⟨m12, ⟨E12, H12, y12a, y12b, y12c⟩, x12⟩ := E11.cx (p := 21) (a := m9 S 21) (b := 0) (by omega)
    have h9_12 := E12.1.2
    have y12 := E12.2.2.2
    obtain ⟨m13, ⟨E13, H13, y13a, y13b, y13c⟩, x13⟩ := E12.cx (p := 22) (a := m9 S 21) (b := y2) (by omega)
    have h9_13 := E13.1.2
    have y13 := E13.2.2.2
    obtain ⟨m14, ⟨E14, H14, y14a, y14b, y14c⟩, x14⟩ := E13.cx (p := 20) (a := 0) (b := 0) (by omega)
    have h9_14 := E14.1.2
    have y14 := E14.2.2.2
    obtain ⟨m15, ⟨E15, H15, y15a, y15b, y15c⟩, x15⟩ := E14.bl
    have h9_15 := E15.1.2
    have y15 := E15.2.2.2
    obtain ⟨m16, ⟨E16, H16, y16a, y16b, y16c⟩, x16⟩ := E15.cx (p := 20) (a := m12 S 15) (b := 0) (by omega)
    have h9_16 := E16.1.2
    have y16 := E16.2.2.2
    have U17 := E16.pr (j := m12 S 15 + 1) (x := m16 S 15)
    obtain ⟨m17, hm17⟩ : ∃ a, a = hset m16 (S + 1044) (m12 S 15 + 1) (m16 S 15) := ⟨_, rfl⟩
    rw [← hm17] at U17
    obtain ⟨E17, H17, y17a, y17b, y17c⟩ := U17
    have h9_17 := E17.1.2
    have y17 := E17.2.2.2
    refine ⟨g1, k8, m17, ec1, fun Q => ?_, fun Q => ?_, .inr ⟨⟨_, B8, E17⟩, (Z2.2.2.1.2.trans (F0.trans (F1.trans (F2.trans (F4.trans (F5.trans (F7.trans F8))))))), (Z2.2.2.2.2.trans (H0.trans (H9.trans (H11.trans (H12.trans (H13.trans (H14.trans (H15.trans (H16.trans H17))))))))), by omega, by omega, by omega⟩⟩
    · simp (implicitDefEqProofs := false) (disch := omega) only [sp117, n117_0, b117_1, b117_2, q117_1, q117_2, x_aload0, y_call114, y_call115, y_call28, y_call45, y_call52, y_call53, y_call75, y_call77, y_call78, y_call82, y_call86, y_call93, x_gc_2051, x_gf_2059, x_goto_2, x_iconst, x_ifCond_ne_1, x_iload1, x_iload4, x_iload5, x_iload6, x_istore4, x_istore5, x_istore6, x_jsr, x_lload2, x_lstore2, x_return, klp_0, klp_1, klp_2, klp_3, klp_9, KC_0, KC_1, KC_2, KC_3, KC_4, ne_eq, not_false_eq_true, not_true_eq_false, true_and, and_true, and_self, implies_true, eq_self, true_imp_iff, false_implies, Int.reduceEq, Int.reduceNe, Int.reduceMod, Int.reduceMul, Int.reduceAdd, Int.reduceSub, Int.reduceLT, Int.reduceLE, Nat.reduceAdd, Nat.reduceLeDiff, Nat.reduceLT, Nat.reduceSub, reduceIte, wds_n, wds_0, wds_1, wds_2, wds_3, or_true, true_or, or_false, false_or, or_self, false_and, and_false, d_pos, d_s1, d_s2, d_s3, d_s4, d_s5, d_s6, d_s7, d_s8, Classical.not_not, z258_0, TC_0 hT, TC_k hT, cw, cl77, hp1, ci, ec2a, ec2, hp2, fd3, pz3, hp_0, x1, hp_1, x2, hp_2, x4, hp_4, x5, hp_5, x6, x7, hp_7, x8, hp_8, d_s9, d_s10, d_s11, d_s12, d_s13, d_s14, d_s15, d_s16, d_s17, d_s18, d_s19, d_s20, d_s21, d_s22, d_s23, d_s24, d_s25, d_s26, d_s27, d_s28, d_s29, d_s30, hs_ne, hcell, hcel1, le_sub1, le_T, le_F, lt_T, lt_F, eq_F, w32_T, bz0, bz1, lc_le, lc_ge, lc_lt, lc_gt, lc_eq]
    · simp (implicitDefEqProofs := false) (disch := omega) only [sp360, b360_0, b360_1, b360_2, b360_3, n360_4, q360_1, q360_2, q360_3, q360_4, x_aload0, y_call321, y_call325, y_call329, y_call330, y_call332, y_call342, y_call343, y_call347, y_call349, y_call361, x_dup0, x_dup3, x_gc_12427, x_gf_11339, x_gf_12408, x_gf_12456, x_goto_1, x_goto_3, x_goto_4, x_iadd, x_iastore, x_iconst, x_ifCond_eq_2, x_ifCond_eq_4, x_ifCond_ne_1, x_iload1, x_iload2, x_iload3, x_istore1, x_istore2, x_istore3, x_jsr, x_pf_12456, x_pop0, x_pop3, x_return, klp_0, klp_1, klp_2, klp_3, klp_9, KC_0, KC_1, KC_2, KC_3, KC_4, ne_eq, not_false_eq_true, not_true_eq_false, true_and, and_true, and_self, implies_true, eq_self, true_imp_iff, false_implies, Int.reduceEq, Int.reduceNe, Int.reduceMod, Int.reduceMul, Int.reduceAdd, Int.reduceSub, Int.reduceLT, Int.reduceLE, Nat.reduceAdd, Nat.reduceLeDiff, Nat.reduceLT, Nat.reduceSub, reduceIte, wds_n, wds_0, wds_1, wds_2, wds_3, or_true, true_or, or_false, false_or, or_self, false_and, and_false, d_pos, d_s1, d_s2, d_s3, d_s4, d_s5, d_s6, d_s7, d_s8, Classical.not_not, r17 hS, r17l hS, r17k hS, TR_0 hS, TR_k hS, rw_, er1, h91, ri, gd1, er2a, er2b, er2, h92, rz3, h9_0, x9, h9_9, h9_11, x12, h9_12, x13, h9_13, x14, h9_14, x15, h9_15, x16, h9_16, h9_17, ← hm11, ← hm17, d_s9, d_s10, d_s11, d_s12, d_s13, d_s14, d_s15, d_s16, d_s17, d_s18, d_s19, d_s20, d_s21, d_s22, d_s23, d_s24, d_s25, d_s26, d_s27, d_s28, d_s29, d_s30, hs_ne, hcell, hcel1, le_sub1, le_T, le_F, lt_T, lt_F, eq_F, w32_T, bz0, bz1, lc_le, lc_ge, lc_lt, lc_gt, lc_eq]
  obtain ⟨g3, r3, fd3, ec3, er3, p3, q3, X3, N3, M3⟩ := W3
  have N3' := N3
  have M3' := M3
  unfold NC at N3'
  unfold NR at M3'
  have D3 := X3.2.1
  have Z3 := Z2.trans X3
  have pq3 := X3.1
  have hp3 : g3 258 1 = T := D3.2.1.1.2
  have h93 : r3 6603 9 = S := D3.2.1.2.2
  have sb3 := D3.sb
  have lm3 := D3.lim
  obtain ⟨g4, r4, ec4, er4, W4⟩ := whole_any (dep := dep) (by omega) (e + 13) (e2 + 13) (by omega) (by omega) D3 (by omega)
  rcases W4 with W4 | W4
  rotate_left
  · obtain ⟨⟨f0, B0, E00⟩, F0, H0, b14, b15, b16⟩ := W4
    have z19 := E00.2.1
    have E0 := E00.q
    have hp_0 := B0.1.2
    have h9_0 := E0.1.2
    have y0 := E0.2.2.2
    obtain ⟨k1, ⟨B1, F1⟩, x1⟩ := B0.e1 (x := 17)
    have hp_1 := B1.1.2
    obtain ⟨k3, ⟨B3, F3⟩, x3⟩ := B1.e2 (p := 18) (x := u2)
    have hp_3 := B3.1.2
    obtain ⟨w4, k4, ⟨B4, F4⟩, x4⟩ := B3.h1
    have hp_4 := B4.1.2
    have x5 : ∀ Q, Sp fz1 (e + 13) 78 [(3, 258), (0, dep)] k4 Q = Q 0 k4 := fun Q => b78 B4
    obtain ⟨k6, ⟨B6, F6⟩, x6⟩ := B4.e2 (p := 15) (x := k1 T 17)
    have hp_6 := B6.1.2
    obtain ⟨k7, ⟨B7, F7⟩, x7⟩ := B6.fi (i := w4)
    have hp_7 := B7.1.2
    have U9 := E0.s5 (x := w32 (r4 S 21 + 1)) 21 (by decide)
    obtain ⟨m9, hm9⟩ : ∃ a, a = hset r4 S 21 (w32 (r4 S 21 + 1)) := ⟨_, rfl⟩
    rw [← hm9] at U9
    obtain ⟨E9, H9, y9a, y9b, y9c⟩ := U9
    have h9_9 := E9.1.2
    have y9 := E9.2.2.2
    obtain ⟨m10, ⟨E10, H10, y10a, y10b, y10c⟩, x10⟩ := E9.cx (p := 21) (a := r4 S 21) (b := 0) (by omega)
    have h9_10 := E10.1.2
    have y10 := E10.2.2.2
    obtain ⟨m11, ⟨E11, H11, y11a, y11b, y11c⟩, x11⟩ := E10.cx (p := 22) (a := r4 S 21) (b := y2) (by omega)
    have h9_11 := E11.1.2
    have y11 := E11.2.2.2
    obtain ⟨m12, ⟨E12, H12, y12a, y12b, y12c⟩, x12⟩ := E11.cx (p := 20) (a := 0) (b := 0) (by omega)
    have h9_12 := E12.1.2
    have y12 := E12.2.2.2
    obtain ⟨m13, ⟨E13, H13, y13a, y13b, y13c⟩, x13⟩ := E12.bl
    have h9_13 := E13.1.2
    have y13 := E13.2.2.2
    obtain ⟨m14, ⟨E14, H14, y14a, y14b, y14c⟩, x14⟩ := E13.cx (p := 20) (a := m10 S 15) (b := 0) (by omega)
    have h9_14 := E14.1.2
    have y14 := E14.2.2.2
    have U15 := E14.pr (j := m10 S 15 + 1) (x := m14 S 15)
    obtain ⟨m15, hm15⟩ : ∃ a, a = hset m14 (S + 1044) (m10 S 15 + 1) (m14 S 15) := ⟨_, rfl⟩
    rw [← hm15] at U15
    obtain ⟨E15, H15, y15a, y15b, y15c⟩ := U15
    have h9_15 := E15.1.2
    have y15 := E15.2.2.2
    refine ⟨g1, k7, m15, ec1, fun Q => ?_, fun Q => ?_, .inr ⟨⟨_, B7, E15⟩, (Z3.2.2.1.2.trans (F0.trans (F1.trans (F3.trans (F4.trans (F6.trans F7)))))), (Z3.2.2.2.2.trans (H0.trans (H9.trans (H10.trans (H11.trans (H12.trans (H13.trans (H14.trans H15)))))))), by omega, by omega, by omega⟩⟩
    · simp (implicitDefEqProofs := false) (disch := omega) only [sp117, n117_0, b117_1, b117_2, q117_1, q117_2, x_aload0, y_call114, y_call115, y_call28, y_call45, y_call52, y_call53, y_call75, y_call77, y_call78, y_call82, y_call86, y_call93, x_gc_2051, x_gf_2059, x_goto_2, x_iconst, x_ifCond_ne_1, x_iload1, x_iload4, x_iload5, x_iload6, x_istore4, x_istore5, x_istore6, x_jsr, x_lload2, x_lstore2, x_return, klp_0, klp_1, klp_2, klp_3, klp_9, KC_0, KC_1, KC_2, KC_3, KC_4, ne_eq, not_false_eq_true, not_true_eq_false, true_and, and_true, and_self, implies_true, eq_self, true_imp_iff, false_implies, Int.reduceEq, Int.reduceNe, Int.reduceMod, Int.reduceMul, Int.reduceAdd, Int.reduceSub, Int.reduceLT, Int.reduceLE, Nat.reduceAdd, Nat.reduceLeDiff, Nat.reduceLT, Nat.reduceSub, reduceIte, wds_n, wds_0, wds_1, wds_2, wds_3, or_true, true_or, or_false, false_or, or_self, false_and, and_false, d_pos, d_s1, d_s2, d_s3, d_s4, d_s5, d_s6, d_s7, d_s8, Classical.not_not, z258_0, TC_0 hT, TC_k hT, cw, cl77, hp1, ci, ec2a, ec2, hp2, fd3, ec3, hp3, ec4, hp_0, x1, hp_1, x3, hp_3, x4, hp_4, x5, x6, hp_6, x7, hp_7, d_s9, d_s10, d_s11, d_s12, d_s13, d_s14, d_s15, d_s16, d_s17, d_s18, d_s19, d_s20, d_s21, d_s22, d_s23, d_s24, d_s25, d_s26, d_s27, d_s28, d_s29, d_s30, hs_ne, hcell, hcel1, le_sub1, le_T, le_F, lt_T, lt_F, eq_F, w32_T, bz0, bz1, lc_le, lc_ge, lc_lt, lc_gt, lc_eq]
    · simp (implicitDefEqProofs := false) (disch := omega) only [sp360, b360_0, b360_1, b360_2, b360_3, n360_4, q360_1, q360_2, q360_3, q360_4, x_aload0, y_call321, y_call325, y_call329, y_call330, y_call332, y_call342, y_call343, y_call347, y_call349, y_call361, x_dup0, x_dup3, x_gc_12427, x_gf_11339, x_gf_12408, x_gf_12456, x_goto_1, x_goto_3, x_goto_4, x_iadd, x_iastore, x_iconst, x_ifCond_eq_2, x_ifCond_eq_4, x_ifCond_ne_1, x_iload1, x_iload2, x_iload3, x_istore1, x_istore2, x_istore3, x_jsr, x_pf_12456, x_pop0, x_pop3, x_return, klp_0, klp_1, klp_2, klp_3, klp_9, KC_0, KC_1, KC_2, KC_3, KC_4, ne_eq, not_false_eq_true, not_true_eq_false, true_and, and_true, and_self, implies_true, eq_self, true_imp_iff, false_implies, Int.reduceEq, Int.reduceNe, Int.reduceMod, Int.reduceMul, Int.reduceAdd, Int.reduceSub, Int.reduceLT, Int.reduceLE, Nat.reduceAdd, Nat.reduceLeDiff, Nat.reduceLT, Nat.reduceSub, reduceIte, wds_n, wds_0, wds_1, wds_2, wds_3, or_true, true_or, or_false, false_or, or_self, false_and, and_false, d_pos, d_s1, d_s2, d_s3, d_s4, d_s5, d_s6, d_s7, d_s8, Classical.not_not, r17 hS, r17l hS, r17k hS, TR_0 hS, TR_k hS, rw_, er1, h91, ri, gd1, er2a, er2b, er2, h92, er3, h93, er4, h9_0, h9_9, x10, h9_10, x11, h9_11, x12, h9_12, x13, h9_13, x14, h9_14, h9_15, ← hm9, ← hm15, d_s9, d_s10, d_s11, d_s12, d_s13, d_s14, d_s15, d_s16, d_s17, d_s18, d_s19, d_s20, d_s21, d_s22, d_s23, d_s24, d_s25, d_s26, d_s27, d_s28, d_s29, d_s30, hs_ne, hcell, hcel1, le_sub1, le_T, le_F, lt_T, lt_F, eq_F, w32_T, bz0, bz1, lc_le, lc_ge, lc_lt, lc_gt, lc_eq]
  obtain ⟨p4, X4, V4, DX4, PX4⟩ := W4
  have DX4' := DX4
  unfold DXW at DX4'
  have mc4 := X4.2.2.1.1.2.1.1
  have md4 := X4.2.2.2.1.2.1.1
  have me4 := X4.2.2.2.1.2.2.2.1.1
  have D4 := X4.2.1
  have Z4 := Z3.trans X4
  have pq4 := X4.1
  have hp4 : g4 258 1 = T := D4.2.1.1.2
  have h94 : r4 6603 9 = S := D4.2.1.2.2
  have sb4 := D4.sb
  have lm4 := D4.lim
  obtain ⟨X5, N5, C5⟩ := D4.em (x := 17) (by omega)
  have ec5 : ∀ Q, Sp fz1 (e + 13) 82 [(3, T), (0, 17)] g4 Q = Q 0 (emH T g4 17) := fun Q => q82 hT (by omega)
  have HO5 := D4.hol (x := 17) (by omega)
  generalize emH T g4 17 = g5 at X5 N5 C5 ec5 HO5
  have N5' := N5
  unfold NC at N5'
  have D5 := X5.2.1
  have Z5 := Z4.trans X5
  have pq5 := X5.1
  have hp5 : g5 258 1 = T := D5.2.1.1.2
  have h95 : r4 6603 9 = S := D5.2.1.2.2
  have sb5 := D5.sb
  have lm5 := D5.lim
  obtain ⟨X6, M6⟩ := D5.f21 (by omega)
  obtain ⟨fn, hfn⟩ : ∃ x, x = r4 S 21 := ⟨_, rfl⟩
  rw [← hfn] at X6 M6
  obtain ⟨r6, hr6⟩ : ∃ a, a = hset r4 S 21 (fn + 1) := ⟨_, rfl⟩
  rw [← hr6] at X6 M6
  have M6' := M6
  unfold NR at M6'
  have D6 := X6.2.1
  have Z6 := Z5.trans X6
  have pq6 := X6.1
  have hp6 : g5 258 1 = T := D6.2.1.1.2
  have h96 : r6 6603 9 = S := D6.2.1.2.2
  have sb6 := D6.sb
  have lm6 := D6.lim
  obtain ⟨X7, M7, R7⟩ := D6.cd (p := 21) (a := fn) (b := 0) (by omega) (fun w => absurd w (by decide))
  have er7 : ∀ Q, Sp fz1 (e2 + 13) 347 [(3, 6603), (0, 21), (0, fn), (0, 0)] r6 Q = Q (r6 S 15) (cdR S r6 21 fn 0) := fun Q => v347 D6.2.1.2.1 D6.2.1.2.2 (by omega)
  generalize cdR S r6 21 fn 0 = r7 at X7 M7 R7 er7
  have M7' := M7
  unfold NR at M7'
  have D7 := X7.2.1
  have Z7 := Z6.trans X7
  have pq7 := X7.1
  have hp7 : g5 258 1 = T := D7.2.1.1.2
  have h97 : r7 6603 9 = S := D7.2.1.2.2
  have sb7 := D7.sb
  have lm7 := D7.lim
  obtain ⟨X8, N8, C8⟩ := D7.em (x := 18) (by omega)
  have N8' := N8
  unfold NC at N8'
  obtain ⟨X9, N9, C9⟩ := X8.2.1.em (x := u2) (by omega)
  have N9' := N9
  unfold NC at N9'
  have sb8 := X8.2.1.sb
  have ec9 : ∀ Q, Sp fz1 (e + 13) 93 [(3, 258), (0, 18), (0, u2)] g5 Q = Q 0 (emH T (emH T g5 18) u2) := fun Q => q93 hT D7.2.1.1.2 (by omega)
  have HO9 := X8.2.1.hol (x := u2) (by omega)
  have XC9 := X8.trans X9
  generalize emH T (emH T g5 18) u2 = g9 at *
  generalize emH T g5 18 = g8 at *
  have D9 := XC9.2.1
  have Z9 := Z7.trans XC9
  have pq9 := XC9.1
  have hp9 : g9 258 1 = T := D9.2.1.1.2
  have h99 : r7 6603 9 = S := D9.2.1.2.2
  have sb9 := D9.sb
  have lm9 := D9.lim
  obtain ⟨X10, N10, C10⟩ := D9.em (x := 0) (by omega)
  have N10' := N10
  unfold NC at N10'
  have ec10 : ∀ Q, Sp fz1 (e + 13) 114 [(3, 258)] g9 Q = Q (g9 T 17) (emH T g9 0) := fun Q => by rw [q114 hT D9.2.1.1.2 (by omega), show emH T g9 0 T 17 - 1 = g9 T 17 by omega]
  have HO10 := D9.hol (x := 0) (by omega)
  generalize emH T g9 0 = g10 at *
  have D10 := X10.2.1
  have Z10 := Z9.trans X10
  have pq10 := X10.1
  have hp10 : g10 258 1 = T := D10.2.1.1.2
  have h910 : r7 6603 9 = S := D10.2.1.2.2
  have sb10 := D10.sb
  have lm10 := D10.lim
  obtain ⟨X11, M11, R11⟩ := D10.cd (p := 22) (a := fn) (b := y2) (by omega) (fun w => absurd w (by decide))
  have er11 : ∀ Q, Sp fz1 (e2 + 13) 347 [(3, 6603), (0, 22), (0, fn), (0, y2)] r7 Q = Q (r7 S 15) (cdR S r7 22 fn y2) := fun Q => v347 D10.2.1.2.1 D10.2.1.2.2 (by omega)
  generalize cdR S r7 22 fn y2 = r11 at X11 M11 R11 er11
  have M11' := M11
  unfold NR at M11'
  have D11 := X11.2.1
  have Z11 := Z10.trans X11
  have pq11 := X11.1
  have hp11 : g10 258 1 = T := D11.2.1.1.2
  have h911 : r11 6603 9 = S := D11.2.1.2.2
  have sb11 := D11.sb
  have lm11 := D11.lim
  obtain ⟨X12, M12, R12⟩ := D11.cd (p := 20) (a := 0) (b := 0) (by omega) (fun w => absurd w (by decide))
  have er12 : ∀ Q, Sp fz1 (e2 + 13) 347 [(3, 6603), (0, 20), (0, 0), (0, 0)] r11 Q = Q (r11 S 15) (cdR S r11 20 0 0) := fun Q => v347 D11.2.1.2.1 D11.2.1.2.2 (by omega)
  generalize cdR S r11 20 0 0 = r12 at X12 M12 R12 er12
  have M12' := M12
  unfold NR at M12'
  have D12 := X12.2.1
  have Z12 := Z11.trans X12
  have pq12 := X12.1
  have hp12 : g10 258 1 = T := D12.2.1.1.2
  have h912 : r12 6603 9 = S := D12.2.1.2.2
  have sb12 := D12.sb
  have lm12 := D12.lim
  obtain ⟨g13, r13, ec13, er13, W13⟩ := OB (e + 13) (e2 + 13) _ _ _ (by omega) (by omega) D12 (by omega)
  rcases W13 with W13 | W13
  rotate_left
  · obtain ⟨⟨f0, B0, E0⟩, F0, H0, b14, b15, b16⟩ := W13
    have hp_0 := B0.1.2
    have h9_0 := E0.1.2
    have y0 := E0.2.2.2
    obtain ⟨k1, ⟨B1, F1⟩, x1⟩ := B0.e2 (p := 15) (x := g5 T 17)
    have hp_1 := B1.1.2
    obtain ⟨k2, ⟨B2, F2⟩, x2⟩ := B1.fi (i := g9 T 17)
    have hp_2 := B2.1.2
    obtain ⟨m3, ⟨E3, H3, y3a, y3b, y3c⟩, x3⟩ := E0.cx (p := 20) (a := r7 S 15) (b := 0) (by omega)
    have h9_3 := E3.1.2
    have y3 := E3.2.2.2
    have U4 := E3.pr (j := r7 S 15 + 1) (x := m3 S 15)
    obtain ⟨m4, hm4⟩ : ∃ a, a = hset m3 (S + 1044) (r7 S 15 + 1) (m3 S 15) := ⟨_, rfl⟩
    rw [← hm4] at U4
    obtain ⟨E4, H4, y4a, y4b, y4c⟩ := U4
    have h9_4 := E4.1.2
    have y4 := E4.2.2.2
    refine ⟨g1, k2, m4, ec1, fun Q => ?_, fun Q => ?_, .inr ⟨⟨_, B2, E4⟩, (Z12.2.2.1.2.trans (F0.trans (F1.trans F2))), (Z12.2.2.2.2.trans (H0.trans (H3.trans H4))), by omega, by omega, by omega⟩⟩
    · simp (implicitDefEqProofs := false) (disch := omega) only [sp117, n117_0, b117_1, b117_2, q117_1, q117_2, x_aload0, y_call114, y_call115, y_call28, y_call45, y_call52, y_call53, y_call75, y_call77, y_call78, y_call82, y_call86, y_call93, x_gc_2051, x_gf_2059, x_goto_2, x_iconst, x_ifCond_ne_1, x_iload1, x_iload4, x_iload5, x_iload6, x_istore4, x_istore5, x_istore6, x_jsr, x_lload2, x_lstore2, x_return, klp_0, klp_1, klp_2, klp_3, klp_9, KC_0, KC_1, KC_2, KC_3, KC_4, ne_eq, not_false_eq_true, not_true_eq_false, true_and, and_true, and_self, implies_true, eq_self, true_imp_iff, false_implies, Int.reduceEq, Int.reduceNe, Int.reduceMod, Int.reduceMul, Int.reduceAdd, Int.reduceSub, Int.reduceLT, Int.reduceLE, Nat.reduceAdd, Nat.reduceLeDiff, Nat.reduceLT, Nat.reduceSub, reduceIte, wds_n, wds_0, wds_1, wds_2, wds_3, or_true, true_or, or_false, false_or, or_self, false_and, and_false, d_pos, d_s1, d_s2, d_s3, d_s4, d_s5, d_s6, d_s7, d_s8, Classical.not_not, z258_0, TC_0 hT, TC_k hT, cw, cl77, hp1, ci, ec2a, ec2, hp2, fd3, ec3, hp3, ec4, hp4, ec5, hp5, hp6, hp7, ec9, hp9, ec10, hp10, hp11, hp12, ec13, hp_0, x1, hp_1, x2, hp_2, d_s9, d_s10, d_s11, d_s12, d_s13, d_s14, d_s15, d_s16, d_s17, d_s18, d_s19, d_s20, d_s21, d_s22, d_s23, d_s24, d_s25, d_s26, d_s27, d_s28, d_s29, d_s30, hs_ne, hcell, hcel1, le_sub1, le_T, le_F, lt_T, lt_F, eq_F, w32_T, bz0, bz1, lc_le, lc_ge, lc_lt, lc_gt, lc_eq]
    · simp (implicitDefEqProofs := false) (disch := omega) only [sp360, b360_0, b360_1, b360_2, b360_3, n360_4, q360_1, q360_2, q360_3, q360_4, x_aload0, y_call321, y_call325, y_call329, y_call330, y_call332, y_call342, y_call343, y_call347, y_call349, y_call361, x_dup0, x_dup3, x_gc_12427, x_gf_11339, x_gf_12408, x_gf_12456, x_goto_1, x_goto_3, x_goto_4, x_iadd, x_iastore, x_iconst, x_ifCond_eq_2, x_ifCond_eq_4, x_ifCond_ne_1, x_iload1, x_iload2, x_iload3, x_istore1, x_istore2, x_istore3, x_jsr, x_pf_12456, x_pop0, x_pop3, x_return, klp_0, klp_1, klp_2, klp_3, klp_9, KC_0, KC_1, KC_2, KC_3, KC_4, ne_eq, not_false_eq_true, not_true_eq_false, true_and, and_true, and_self, implies_true, eq_self, true_imp_iff, false_implies, Int.reduceEq, Int.reduceNe, Int.reduceMod, Int.reduceMul, Int.reduceAdd, Int.reduceSub, Int.reduceLT, Int.reduceLE, Nat.reduceAdd, Nat.reduceLeDiff, Nat.reduceLT, Nat.reduceSub, reduceIte, wds_n, wds_0, wds_1, wds_2, wds_3, or_true, true_or, or_false, false_or, or_self, false_and, and_false, d_pos, d_s1, d_s2, d_s3, d_s4, d_s5, d_s6, d_s7, d_s8, Classical.not_not, r17 hS, r17l hS, r17k hS, TR_0 hS, TR_k hS, rw_, er1, h91, ri, gd1, er2a, er2b, er2, h92, er3, h93, er4, h94, h95, ← hr6, ← hfn, h96, er7, h97, h99, h910, er11, h911, er12, h912, er13, h9_0, x3, h9_3, h9_4, ← hm4, d_s9, d_s10, d_s11, d_s12, d_s13, d_s14, d_s15, d_s16, d_s17, d_s18, d_s19, d_s20, d_s21, d_s22, d_s23, d_s24, d_s25, d_s26, d_s27, d_s28, d_s29, d_s30, hs_ne, hcell, hcel1, le_sub1, le_T, le_F, lt_T, lt_F, eq_F, w32_T, bz0, bz1, lc_le, lc_ge, lc_lt, lc_gt, lc_eq]
  obtain ⟨p13, q13, fst13, X13, V13, DX13, PX13⟩ := W13
  have DX13' := DX13
  unfold DXB at DX13'
  have D13 := X13.2.1
  have Z13 := Z12.trans X13
  have pq13 := X13.1
  have hp13 : g13 258 1 = T := D13.2.1.1.2
  have h913 : r13 6603 9 = S := D13.2.1.2.2
  have sb13 := D13.sb
  have lm13 := D13.lim
  obtain ⟨X14, N14, C14⟩ := D13.em (x := 15) (by omega)
  have N14' := N14
  unfold NC at N14'
  obtain ⟨X15, N15, C15⟩ := X14.2.1.em (x := (g5 T 17)) (by omega)
  have N15' := N15
  unfold NC at N15'
  have sb14 := X14.2.1.sb
  have ec15 : ∀ Q, Sp fz1 (e + 13) 93 [(3, 258), (0, 15), (0, (g5 T 17))] g13 Q = Q 0 (emH T (emH T g13 15) (g5 T 17)) := fun Q => q93 hT D13.2.1.1.2 (by omega)
  have HO15 := X14.2.1.hol (x := (g5 T 17)) (by omega)
  have XC15 := X14.trans X15
  generalize emH T (emH T g13 15) (g5 T 17) = g15 at *
  generalize emH T g13 15 = g14 at *
  have D15 := XC15.2.1
  have Z15 := Z13.trans XC15
  have pq15 := XC15.1
  have hp15 : g15 258 1 = T := D15.2.1.1.2
  have h915 : r13 6603 9 = S := D15.2.1.2.2
  have sb15 := D15.sb
  have lm15 := D15.lim
  obtain ⟨X16, M16, R16⟩ := D15.cd (p := 20) (a := (r7 S 15)) (b := 0) (by omega) (fun w => absurd w (by decide))
  have er16 : ∀ Q, Sp fz1 (e2 + 13) 347 [(3, 6603), (0, 20), (0, (r7 S 15)), (0, 0)] r13 Q = Q (r13 S 15) (cdR S r13 20 ((r7 S 15)) 0) := fun Q => v347 D15.2.1.2.1 D15.2.1.2.2 (by omega)
  generalize cdR S r13 20 ((r7 S 15)) 0 = r16 at X16 M16 R16 er16
  have M16' := M16
  unfold NR at M16'
  have D16 := X16.2.1
  have Z16 := Z15.trans X16
  have pq16 := X16.1
  have hp16 : g15 258 1 = T := D16.2.1.1.2
  have h916 : r16 6603 9 = S := D16.2.1.2.2
  have sb16 := D16.sb
  have lm16 := D16.lim
  obtain ⟨Z17, N17, EP17, C17⟩ := Z16.pa (i := g9 T 17) (x := g15 T 17) (HO10.ec ((((ECP.rfl' (T := T) (c := 2400) (h := g10)).trans (X13.2.2.1.1.lo (by omega))).trans (X14.2.2.1.1.lo (by omega))).trans (X15.2.2.1.1.lo (by omega)))) (by omega)
  have ec17 : ∀ Q, Sp fz1 (e + 13) 115 [(3, 258), (0, g9 T 17)] g15 Q = Q 0 (hset g15 (T + 1430) (g9 T 17) (g15 T 17)) := fun Q => by rw [q115 hT D16.2.1.1.2 (by omega)]; unfold paH; rw [if_pos (by omega)]
  obtain ⟨g17, hg17⟩ : ∃ a, a = hset g15 (T + 1430) (g9 T 17) (g15 T 17) := ⟨_, rfl⟩
  rw [← hg17] at Z17 N17 EP17 C17 ec17
  have N17' := N17
  unfold NC at N17'
  have D17 := Z17.2.1
  have hp17 : g17 258 1 = T := D17.2.1.1.2
  have h917 : r16 6603 9 = S := D17.2.1.2.2
  have sb17 := D17.sb
  have lm17 := D17.lim
  obtain ⟨Z18, M18, EQ18, R18⟩ := Z17.pr (x := r16 S 15) (show RCO S r16 (r7 S 15 + 1) 20 0 0 by rw [show r7 S 15 + 1 = r11 S 15 by omega]; exact (RCO.er (r := 0) (t := 0) (RCO.er (r := 0) (t := 0) R12 X13.2.2.2.1 (by omega)) X16.2.2.2.1 (by omega))) (by decide) (by omega)
  obtain ⟨r18, hr18⟩ : ∃ a, a = hset r16 (S + 1044) (r7 S 15 + 1) (r16 S 15) := ⟨_, rfl⟩
  rw [← hr18] at Z18 M18 EQ18 R18
  have M18' := M18
  unfold NR at M18'
  have D18 := Z18.2.1
  have hp18 : g17 258 1 = T := D18.2.1.1.2
  have h918 : r18 6603 9 = S := D18.2.1.2.2
  have sb18 := D18.sb
  have lm18 := D18.lim
  refine ⟨g1, g17, r18, ec1, fun Q => ?_, fun Q => ?_, .inl ⟨p13, Z18, NVR.trans (g := g1) (gr := r1) (NVR.same (by omega)) ((((((((((((ECP.rfl' (T := T) (c := 2400) (h := g1)).trans (X2.2.2.1.1.lo (by omega))).trans (X3.2.2.1.1.lo (by omega))).trans (X4.2.2.1.1.lo (by omega))).trans (X5.2.2.1.1.lo (by omega))).trans (X8.2.2.1.1.lo (by omega))).trans (X9.2.2.1.1.lo (by omega))).trans (X10.2.2.1.1.lo (by omega))).trans (X13.2.2.1.1.lo (by omega))).trans (X14.2.2.1.1.lo (by omega))).trans (X15.2.2.1.1.lo (by omega))).trans (EP17.lo (by omega))) (((((((((((ERP.rfl' (S := S) (r := 6000) (t := 500) (h := r1)).trans (X2.2.2.2.1.lo (by omega) (by omega))).trans (X3.2.2.2.1.lo (by omega) (by omega))).trans (X4.2.2.2.1.lo (by omega) (by omega))).trans (X6.2.2.2.1.lo (by omega) (by omega))).trans (X7.2.2.2.1.lo (by omega) (by omega))).trans (X11.2.2.2.1.lo (by omega) (by omega))).trans (X12.2.2.2.1.lo (by omega) (by omega))).trans (X13.2.2.2.1.lo (by omega) (by omega))).trans (X16.2.2.2.1.lo (by omega) (by omega))).trans (EQ18.lo (by omega) (by omega))) (NVR.tl (h := g1) (g := g2) (T := T) (c := 2400) tn2 (((((((((((ECP.rfl' (T := T) (c := 2400) (h := g2)).trans (X3.2.2.1.1.lo (by omega))).trans (X4.2.2.1.1.lo (by omega))).trans (X5.2.2.1.1.lo (by omega))).trans (X8.2.2.1.1.lo (by omega))).trans (X9.2.2.1.1.lo (by omega))).trans (X10.2.2.1.1.lo (by omega))).trans (X13.2.2.1.1.lo (by omega))).trans (X14.2.2.1.1.lo (by omega))).trans (X15.2.2.1.1.lo (by omega))).trans (EP17.lo (by omega))) (((((NVR.same (h := g2) (g := g3) (gr := r3) (by omega)).trans ((ECP.rfl' (T := T) (c := 2400) (h := g3)).trans (X4.2.2.1.1.lo (by omega))) ((ERP.rfl' (S := S) (r := 6000) (t := 500) (h := r3)).trans (X4.2.2.2.1.lo (by omega) (by omega))) V4).trans (((((ECP.rfl' (T := T) (c := 2400) (h := g4)).trans (X5.2.2.1.1.lo (by omega))).trans (X8.2.2.1.1.lo (by omega))).trans (X9.2.2.1.1.lo (by omega))).trans (X10.2.2.1.1.lo (by omega))) (((((ERP.rfl' (S := S) (r := 6000) (t := 500) (h := r4)).trans (X6.2.2.2.1.lo (by omega) (by omega))).trans (X7.2.2.2.1.lo (by omega) (by omega))).trans (X11.2.2.2.1.lo (by omega) (by omega))).trans (X12.2.2.2.1.lo (by omega) (by omega))) (NVR.same (h := g4) (g := g10) (gr := r12) (by omega))).trans ((ECP.rfl' (T := T) (c := 2400) (h := g10)).trans (X13.2.2.1.1.lo (by omega))) ((ERP.rfl' (S := S) (r := 6000) (t := 500) (h := r12)).trans (X13.2.2.2.1.lo (by omega) (by omega))) V13).trans ((((ECP.rfl' (T := T) (c := 2400) (h := g13)).trans (X14.2.2.1.1.lo (by omega))).trans (X15.2.2.1.1.lo (by omega))).trans (EP17.lo (by omega))) (((ERP.rfl' (S := S) (r := 6000) (t := 500) (h := r13)).trans (X16.2.2.2.1.lo (by omega) (by omega))).trans (EQ18.lo (by omega) (by omega))) (NVR.same (by omega)))), by unfold DXB; omega, fun K V CL A s1 s2 => ?_⟩⟩
  · simp (implicitDefEqProofs := false) (disch := omega) only [sp117, n117_0, b117_1, b117_2, q117_1, q117_2, x_aload0, y_call114, y_call115, y_call28, y_call45, y_call52, y_call53, y_call75, y_call77, y_call78, y_call82, y_call86, y_call93, x_gc_2051, x_gf_2059, x_goto_2, x_iconst, x_ifCond_ne_1, x_iload1, x_iload4, x_iload5, x_iload6, x_istore4, x_istore5, x_istore6, x_jsr, x_lload2, x_lstore2, x_return, klp_0, klp_1, klp_2, klp_3, klp_9, KC_0, KC_1, KC_2, KC_3, KC_4, ne_eq, not_false_eq_true, not_true_eq_false, true_and, and_true, and_self, implies_true, eq_self, true_imp_iff, false_implies, Int.reduceEq, Int.reduceNe, Int.reduceMod, Int.reduceMul, Int.reduceAdd, Int.reduceSub, Int.reduceLT, Int.reduceLE, Nat.reduceAdd, Nat.reduceLeDiff, Nat.reduceLT, Nat.reduceSub, reduceIte, wds_n, wds_0, wds_1, wds_2, wds_3, or_true, true_or, or_false, false_or, or_self, false_and, and_false, d_pos, d_s1, d_s2, d_s3, d_s4, d_s5, d_s6, d_s7, d_s8, Classical.not_not, z258_0, TC_0 hT, TC_k hT, cw, cl77, hp1, ci, ec2a, ec2, hp2, fd3, ec3, hp3, ec4, hp4, ec5, hp5, hp6, hp7, ec9, hp9, ec10, hp10, hp11, hp12, ec13, hp13, ec15, hp15, hp16, ec17, hp17, hp18, d_s9, d_s10, d_s11, d_s12, d_s13, d_s14, d_s15, d_s16, d_s17, d_s18, d_s19, d_s20, d_s21, d_s22, d_s23, d_s24, d_s25, d_s26, d_s27, d_s28, d_s29, d_s30, hs_ne, hcell, hcel1, le_sub1, le_T, le_F, lt_T, lt_F, eq_F, w32_T, bz0, bz1, lc_le, lc_ge, lc_lt, lc_gt, lc_eq]
  · simp (implicitDefEqProofs := false) (disch := omega) only [sp360, b360_0, b360_1, b360_2, b360_3, n360_4, q360_1, q360_2, q360_3, q360_4, x_aload0, y_call321, y_call325, y_call329, y_call330, y_call332, y_call342, y_call343, y_call347, y_call349, y_call361, x_dup0, x_dup3, x_gc_12427, x_gf_11339, x_gf_12408, x_gf_12456, x_goto_1, x_goto_3, x_goto_4, x_iadd, x_iastore, x_iconst, x_ifCond_eq_2, x_ifCond_eq_4, x_ifCond_ne_1, x_iload1, x_iload2, x_iload3, x_istore1, x_istore2, x_istore3, x_jsr, x_pf_12456, x_pop0, x_pop3, x_return, klp_0, klp_1, klp_2, klp_3, klp_9, KC_0, KC_1, KC_2, KC_3, KC_4, ne_eq, not_false_eq_true, not_true_eq_false, true_and, and_true, and_self, implies_true, eq_self, true_imp_iff, false_implies, Int.reduceEq, Int.reduceNe, Int.reduceMod, Int.reduceMul, Int.reduceAdd, Int.reduceSub, Int.reduceLT, Int.reduceLE, Nat.reduceAdd, Nat.reduceLeDiff, Nat.reduceLT, Nat.reduceSub, reduceIte, wds_n, wds_0, wds_1, wds_2, wds_3, or_true, true_or, or_false, false_or, or_self, false_and, and_false, d_pos, d_s1, d_s2, d_s3, d_s4, d_s5, d_s6, d_s7, d_s8, Classical.not_not, r17 hS, r17l hS, r17k hS, TR_0 hS, TR_k hS, rw_, er1, h91, ri, gd1, er2a, er2b, er2, h92, er3, h93, er4, h94, h95, ← hr6, ← hfn, h96, er7, h97, h99, h910, er11, h911, er12, h912, er13, h913, h915, er16, h916, h917, ← hr18, h918, d_s9, d_s10, d_s11, d_s12, d_s13, d_s14, d_s15, d_s16, d_s17, d_s18, d_s19, d_s20, d_s21, d_s22, d_s23, d_s24, d_s25, d_s26, d_s27, d_s28, d_s29, d_s30, hs_ne, hcell, hcel1, le_sub1, le_T, le_F, lt_T, lt_F, eq_F, w32_T, bz0, bz1, lc_le, lc_ge, lc_lt, lc_gt, lc_eq]
  · have EP1j : ECP T (g3 T 17) g4 g17 := (ECP.paE ((((((((ECP.rfl' (T := T) (c := g3 T 17) (h := g4)).trans (X5.2.2.1.1.lo (by omega))).trans (X8.2.2.1.1.lo (by omega))).trans (X9.2.2.1.1.lo (by omega))).trans (X10.2.2.1.1.lo (by omega))).trans (X13.2.2.1.1.lo (by omega))).trans (X14.2.2.1.1.lo (by omega))).trans (X15.2.2.1.1.lo (by omega))) hg17 hT (by omega))
    have FP1j : ERP S (r3 S 15) (r3 S 22) r4 r18 := (ERP.prE (((((((ERP.rfl' (S := S) (r := r3 S 15) (t := r3 S 22) (h := r4)).trans (X6.2.2.2.1.lo (by omega) (by omega))).trans (X7.2.2.2.1.lo (by omega) (by omega))).trans (X11.2.2.2.1.lo (by omega) (by omega))).trans (X12.2.2.2.1.lo (by omega) (by omega))).trans (X13.2.2.2.1.lo (by omega) (by omega))).trans (X16.2.2.2.1.lo (by omega) (by omega))) hr18 hS (by omega))
    have AP1j := A.sub (h := g4) (hr := r4) (c2 := g3 T 17) (r2 := r3 S 15) (t2 := r3 S 22) (by have := D4.nb; unfold NBR at this; omega) EP1j FP1j (by omega) (by omega) (by omega)
    have P1 := PX4 K V CL AP1j
    have EP2j : ECP T (g10 T 17) g13 g17 := ((((ECP.rfl' (T := T) (c := g10 T 17) (h := g13)).trans (X14.2.2.1.1.lo (by omega))).trans (X15.2.2.1.1.lo (by omega))).trans (EP17.lo (by omega)))
    have FP2j : ERP S (r12 S 15) (r12 S 22) r13 r18 := (((ERP.rfl' (S := S) (r := r12 S 15) (t := r12 S 22) (h := r13)).trans (X16.2.2.2.1.lo (by omega) (by omega))).trans (EQ18.lo (by omega) (by omega)))
    have AP2j := A.sub (h := g13) (hr := r13) (c2 := g10 T 17) (r2 := r12 S 15) (t2 := r12 S 22) (by have := D13.nb; unfold NBR at this; omega) EP2j FP2j (by omega) (by omega) (by omega)
    have P2 := PX13 K V CL AP2j
    have u1 := A.cel (by omega) (CEL.paE (CEL.ec (c := 0) (CEL.ec (c := 0) (CEL.ec (c := 0) (CEL.ec (c := 0) (CEL.ec (c := 0) (CEL.ec (c := 0) C5 X8.2.2.1.1 (by omega)) X9.2.2.1.1 (by omega)) X10.2.2.1.1 (by omega)) X13.2.2.1.1 (by omega)) X14.2.2.1.1 (by omega)) X15.2.2.1.1 (by omega)) hg17 (by omega) hT)
    have u3 := A.cel (by omega) (CEL.paE (CEL.ec (c := 0) (CEL.ec (c := 0) (CEL.ec (c := 0) (CEL.ec (c := 0) (CEL.ec (c := 0) C8 X9.2.2.1.1 (by omega)) X10.2.2.1.1 (by omega)) X13.2.2.1.1 (by omega)) X14.2.2.1.1 (by omega)) X15.2.2.1.1 (by omega)) hg17 (by omega) hT)
    have u4 := A.cel (by omega) (CEL.paE (CEL.ec (c := 0) (CEL.ec (c := 0) (CEL.ec (c := 0) (CEL.ec (c := 0) C9 X10.2.2.1.1 (by omega)) X13.2.2.1.1 (by omega)) X14.2.2.1.1 (by omega)) X15.2.2.1.1 (by omega)) hg17 (by omega) hT)
    have u5 := A.cel (by omega) C17
    have u6 := A.cel (by omega) (CEL.paE (CEL.ec (c := 0) C14 X15.2.2.1.1 (by omega)) hg17 (by omega) hT)
    have u7 := A.cel (by omega) (CEL.paE C15 hg17 (by omega) hT)
    have v1 := A.rco (by omega) (RCO.prE (RCO.er (r := 0) (t := 0) (RCO.er (r := 0) (t := 0) (RCO.er (r := 0) (t := 0) (RCO.er (r := 0) (t := 0) R7 X11.2.2.2.1 (by omega)) X12.2.2.2.1 (by omega)) X13.2.2.2.1 (by omega)) X16.2.2.2.1 (by omega)) hr18 (by omega) hS)
    have v2 := A.rco (by omega) (RCO.prE (RCO.er (r := 0) (t := 0) (RCO.er (r := 0) (t := 0) (RCO.er (r := 0) (t := 0) R11 X12.2.2.2.1 (by omega)) X13.2.2.2.1 (by omega)) X16.2.2.2.1 (by omega)) hr18 (by omega) hS)
    have v3 := A.rco (by omega) R18
    have v4 := A.rco (by omega) (RCO.prE R16 hr18 (by omega) hS)
    have EV : ECP T 2400 g2 g17 := (((((((((((ECP.rfl' (T := T) (c := 2400) (h := g2)).trans (X3.2.2.1.1.lo (by omega))).trans (X4.2.2.1.1.lo (by omega))).trans (X5.2.2.1.1.lo (by omega))).trans (X8.2.2.1.1.lo (by omega))).trans (X9.2.2.1.1.lo (by omega))).trans (X10.2.2.1.1.lo (by omega))).trans (X13.2.2.1.1.lo (by omega))).trans (X14.2.2.1.1.lo (by omega))).trans (X15.2.2.1.1.lo (by omega))).trans (EP17.lo (by omega)))
    have FV : ERP S 6000 500 r2 r18 := ((((((((((ERP.rfl' (S := S) (r := 6000) (t := 500) (h := r2)).trans (X3.2.2.2.1.lo (by omega) (by omega))).trans (X4.2.2.2.1.lo (by omega) (by omega))).trans (X6.2.2.2.1.lo (by omega) (by omega))).trans (X7.2.2.2.1.lo (by omega) (by omega))).trans (X11.2.2.2.1.lo (by omega) (by omega))).trans (X12.2.2.2.1.lo (by omega) (by omega))).trans (X13.2.2.2.1.lo (by omega) (by omega))).trans (X16.2.2.2.1.lo (by omega) (by omega))).trans (EQ18.lo (by omega) (by omega)))
    have RC : RCO S r18 (r7 S 15) 22 fn y2 := (RCO.prE (RCO.er (r := 0) (t := 0) (RCO.er (r := 0) (t := 0) (RCO.er (r := 0) (t := 0) R11 X12.2.2.2.1 (by omega)) X13.2.2.2.1 (by omega)) X16.2.2.2.1 (by omega)) hr18 (by omega) hS)
    have VV : V u2 (r7 S 15) := by
      have c1 := EV.2.1.2.1 u2 tv2.1 tv2.1 tv2.2
      have c2 := FV.2.2.1.2 y2 sv2.1 sv2.1 sv2.2
      have c3 := EV.2.1.1
      have c4 := FV.2.2.1.1
      refine A.2.2.2.2.2.2.1 (r7 S 15) u2 (by omega) RC.1.1 RC.1.2 tv2.1 (by omega) RC.2.1 (by rw [RC.2.2.2]; exact sv2.1) (by rw [RC.2.2.2]; omega) ?_
      rw [RC.2.2.2, c1, c2, tw2, sw2]
    have P1z : EXK K V CL (h T 17 - 1 + 1) (hr S 15 - 1 + 1) (g4 T 17) (r4 S 15) (r4 S 15 - r3 S 15) 1 (r4 S 15 - r3 S 15) 0 := by rw [show h T 17 - 1 + 1 = g3 T 17 by omega, show hr S 15 - 1 + 1 = r3 S 15 by omega]; exact P1
    have R := a_FOR (K := K) (V := V) (CL := CL) (c0 := h T 17 - 1) (r0 := hr S 15 - 1) (c1 := g4 T 17) (r1 := r4 S 15) (cL := g13 T 17) (rL := r13 S 15) (fn := fn) (t := hr S 22) (dp := dep - 1) (m := r4 S 15 - r3 S 15) (w := r4 S 15 - r3 S 15) (by omega) (by omega) (by omega) s1 s2 P1z (by omega) (by omega) u1 (by rw [show r4 S 15 = r6 S 15 by omega]; exact v1.1) (by rw [show r4 S 15 = r6 S 15 by omega]; exact v1.2.1 (by decide) (by decide) (by decide)) (by omega) (by rw [show g4 T 17 + 1 = g5 T 17 by omega]; exact u3) (by rw [show r4 S 15 + 1 = r7 S 15 by omega]; exact v2.1) (by rw [show r4 S 15 + 1 = r7 S 15 by omega]; exact v2.2.1 (by decide) (by decide) (by decide)) (by rw [show r4 S 15 + 2 = r7 S 15 + 1 by omega]; exact v3.1) (by rw [show g4 T 17 + 2 = g8 T 17 by omega, u4, show r4 S 15 + 1 = r7 S 15 by omega]; exact VV) (by rw [show g4 T 17 + 3 = g9 T 17 by omega, u5]; omega) (by rw [show r4 S 15 + 2 = r7 S 15 + 1 by omega, v3.2.1 (by decide) (by decide) (by decide)]; omega) (by rw [show g4 T 17 + 4 = g10 T 17 by omega, show r4 S 15 + 3 = r12 S 15 by omega, show dep - 1 + 1 = dep by omega, show fn + 1 = r12 S 21 by omega, show hr S 22 = r12 S 22 by omega]; exact P2) u6 (by exact v4.1) (by rw [show g13 T 17 + 1 = g14 T 17 by omega, u7]; omega) (by rw [v4.2.1 (by decide) (by decide) (by decide)]; omega)
    rw [show g13 T 17 + 2 = g17 T 17 by omega, show r13 S 15 + 1 = r18 S 15 by omega, show fn = hr S 21 by omega] at R
    exact R
end SM
