/-! THE PURE SIDE, 166: acts on both sides: names told; set: printed by wip/tools/gen8s.py -/
section SM
variable {bX : Int} {tp : Int → Int} {t T S s s1 s2 f : Int} {h hr g gr k kr m mr : HV} {Q : Int → HV → Prop} {d : Nat}
/-- a name is told on both sides -/
theorem GD.tl {w : Int} (D : GD bX tp t T S s h hr) (l : h 258 6 + 1 ≤ 4 + h T 15) (l2 : hr 6603 15 + 1 ≤ 4 + h T 15) : GOM bX tp t T S s h hr s (tellH h w) (slotH hr w) ∧ (∃ a b, (0 ≤ a ∧ a ≤ 1) ∧ (0 ≤ b ∧ b ≤ 1) ∧ NC T h (tellH h w) 0 0 0 a 0 ∧ NR S hr (slotH hr w) 0 0 0 0 0 b 0) ∧ ((0 ≤ useV h w ∧ useV h w < tellH h w 258 6) ∧ tellH h w 353 (useV h w) = w) ∧ ((0 ≤ slotV hr w ∧ slotV hr w < slotH hr w 6603 15) ∧ slotH hr w 9505 (slotV hr w) = w) ∧ ∀ v, h 258 6 ≤ v → v < tellH h w 258 6 → tellH h w 416 v = -1 := by
  have kT := kTC D.2.1.1.1
  have kS := kTR D.2.1.2.1
  have N := D.nb
  have S0 := D.sb
  unfold NBR at N
  obtain ⟨G1, ⟨E1, E2⟩, R1, R2⟩ := D.2.tell (w := w) S0.1 l l2
  obtain ⟨⟨t1, t2⟩, -, t3, t4, -, -, t5, -, t6, t7⟩ := tell_f (h := h) (w := w) (by omega)
  obtain ⟨⟨q1, q2⟩, -, q3, -, -, -, q6, q7⟩ := slot_f (h := hr) (w := w) (by omega)
  refine ⟨⟨Int.le_refl _, ⟨⟨D.1.1, D.1.2.1.fr (t6 129 (by decide) (by decide) (by decide)) (t6 227 (by decide) (by decide) (by decide)), D.1.2.2.fr (fun i a b => q7 i (by omega)) (q6 6691 (by decide) (by decide))⟩, G1⟩, ⟨E1, E2⟩, R1, R2⟩, ⟨tellH h w 258 6 - h 258 6, slotH hr w 6603 15 - hr 6603 15, by omega, by omega, ?_, ?_⟩, ⟨t1, t3⟩, ⟨q1, q3⟩, fun v v0 v1 => by rw [t4 v v0 v1]; exact t5⟩
  · unfold NC
    rw [t6 T (by omega) (by omega) (by omega), t7 3 (by decide), t7 10 (by decide), t7 11 (by decide)]
    omega
  · unfold NR
    rw [q6 S (by omega) (by omega), q6 (S + 84) (by omega) (by omega), q7 12 (by decide), q7 19 (by decide)]
    omega
theorem NVR.tl {T c : Int} (E0 : ∀ v, h 258 6 ≤ v → v < g 258 6 → g 416 v = -1) (E : ECP T c g k) (B : NVR g k kr) : NVR h k kr := by
  intro v v0 v1 v2 v3
  by_cases u : v < g 258 6
  · have z := E0 v v1 u
    obtain ⟨-, ⟨-, -, e⟩, -⟩ := E
    have := e v v0 u
    omega
  · exact B v v0 (by omega) v2 v3
theorem NVR.us {T c u w p : Int} (E0 : ∀ v, h 258 6 ≤ v → v < g 258 6 → v = u ∧ g 416 v = p) (hw : g 353 u = w) (p0 : 0 ≤ p) (E : ECP T c g k) (R : ∃ j, (0 ≤ j ∧ j < kr 6603 19) ∧ kr 9569 j = w ∧ kr 9632 j = p) (B : NVR g k kr) : NVR h k kr := by
  intro v v0 v1 v2 v3
  by_cases z : v < g 258 6
  · obtain ⟨z1, z2⟩ := E0 v v1 z
    obtain ⟨-, ⟨-, e1, e⟩, -⟩ := E
    obtain ⟨j, j0, j1, j2⟩ := R
    have e2 := e v v0 z
    have e3 : k 353 v = g 353 v := e1 v v0 v0 z
    refine ⟨j, j0, ?_, ?_⟩
    · rw [j1, e3, z1, hw]
    · rw [j2]; omega
  · exact B v v0 (by omega) v2 v3
/-- the token after a fault goes on all the same where the reference does not ask -/
theorem BDQ.nx {fu : Int} (B : BDQ S f hr) (T1 : TOK tp t s) (K : TKf tp t s fu hr) (d : Nat) : ∃ gr, KPR S f hr gr 0 ∧ ∀ Q, Sp fz1 (d + 2) 321 [(3, 6603)] hr Q = Q 0 gr := by
  have b := tkE_b (tp := tp) T1.1.2.1
  have T2 := T1.1
  obtain ⟨⟨k1, k2, k3, k4, k5⟩, -, -, k6⟩ := K
  obtain ⟨h1, ⟨c1, c2⟩, e⟩ := Sp_ex2 (fz := fz1) (d := d + 2) (m := 321) (as := [(3, 6603)]) (h := hr) (v := 0) (P := fun h1 => (∀ o, o ≠ 6603 → h1 o = hr o) ∧ ∀ i, i ≠ 2 → i ≠ 3 → i ≠ 4 → i ≠ 5 → i ≠ 6 → h1 6603 i = hr 6603 i) (s321 (t := t) (by omega) k1 T1.1.2.2 (by omega) (by omega) (fun h' C => ⟨rfl, C.1, C.2.1⟩))
  have kS := kTR B.1.1
  have eS := c1 S (by omega)
  have F : FXR S hr h1 := ⟨fun o a _ _ _ _ _ _ _ _ _ _ _ _ _ _ _ => c1 o a, fun i _ _ _ _ _ => by rw [eS], fun i a b c d e _ _ _ _ _ _ => c2 i a b c d e⟩
  exact ⟨h1, ⟨B.fr F (c2 7 (by decide) (by decide) (by decide) (by decide) (by decide)) (by rw [eS]) (by rw [eS]; exact B.2.2.2.2), F, by rw [eS], by rw [eS]; omega, c2 19 (by decide) (by decide) (by decide) (by decide) (by decide)⟩, e⟩
/-- a name noted behind a fault -/
theorem BDQ.rf {w p c : Int} (B : BDQ S f hr) : BDQ S f (refH hr w p c) ∧ FXR S hr (refH hr w p c) ∧ refH hr w p c S 14 = hr S 14 ∧ refH hr w p c S 15 = hr S 15 := by
  have kS := kTR B.1.1
  have fo : ∀ o, o ≠ 6603 → o ≠ 9569 → o ≠ 9632 → o ≠ 9696 → refH hr w p c o = hr o := fun o a b x y => by
    unfold refH
    rw [hs_ne a, hs_ne y, hs_ne x, hs_ne b]
  have fi : ∀ j, j ≠ 19 → refH hr w p c 6603 j = hr 6603 j := fun j a => by
    unfold refH
    rw [hcell a, hs_ne (by decide), hs_ne (by decide), hs_ne (by decide)]
  have eS := fo S (by omega) (by omega) (by omega) (by omega)
  have F : FXR S hr (refH hr w p c) := ⟨fun o a _ b x y _ _ _ _ _ _ _ _ _ _ _ => fo o a b x y, fun j _ _ _ _ _ => by rw [eS], fun j _ _ _ _ _ _ _ _ _ a _ => fi j a⟩
  exact ⟨B.fr F (fi 7 (by decide)) (by rw [eS]) (by rw [eS]; exact B.2.2.2.2), F, by rw [eS], by rw [eS]⟩
theorem nm_c52 (D : GD bX tp t T S s h hr) (w : nmP tp t s) : Sp fz1 (d + 6) 52 [(3, 258)] h Q = Q 1 h := by
  rw [c52 D.1.2.1 D.2.2.1.1]
  exact congrArg (fun x => Q x h) (if_pos w)
theorem nm_c52n (D : GD bX tp t T S s h hr) (w : ¬ nmP tp t s) : Sp fz1 (d + 6) 52 [(3, 258)] h Q = Q 0 h := by
  rw [c52 D.1.2.1 D.2.2.1.1]
  exact congrArg (fun x => Q x h) (if_neg w)
theorem nm_329 (D : GD bX tp t T S s h hr) (w : nmP tp t s) : Sp fz1 (d + 6) 329 [(3, 6603)] hr Q = Q 1 hr := by
  rw [v329 D.1.2.2 D.1.1 D.2.2.1.2]
  exact congrArg (fun x => Q x hr) (if_pos w)
theorem nm_329n (D : GD bX tp t T S s h hr) (w : ¬ nmP tp t s) : Sp fz1 (d + 6) 329 [(3, 6603)] hr Q = Q 0 hr := by
  rw [v329 D.1.2.2 D.1.1 D.2.2.1.2]
  exact congrArg (fun x => Q x hr) (if_neg w)
theorem GD.wd (D : GD bX tp t T S s h hr) (w : tkK tp t s = 1) : h 129 6 = wdT tp t s := D.1.2.1.2.1 w
/-- a name set -/
theorem set_pair {dep : Int} {B e e2 : Nat} (hB : 110 ≤ B) (he : B ≤ e + 13) (he2 : B ≤ e2 + 13) (hdp : 1 ≤ dep ∧ dep ≤ 12) (D : GD bX tp t T S s h hr) (PR : PRA T S s h hr) (hd : hr 6603 12 = dep ∧ h 258 11 = 0) (hn : nmP tp t s) (hq : ¬ sgP tp t (nxS tp t s) 91) : ∃ g gr, (∀ Q, Sp fz1 (e + 14) 83 [(3, 258), (0, dep)] h Q = Q 0 g) ∧ (∀ Q, Sp fz1 (e2 + 14) 364 [(3, 6603)] hr Q = Q 0 gr) ∧ OUTA bX tp t T S s h hr g gr (dep - 1) := by
  have F := D.f
  have N := D.nb
  have S0 := D.sb
  have hT := D.2.1.1.1
  have hS := D.2.1.2.1
  have kT := kTC D.2.1.1.1
  have kS := kTR D.2.1.2.1
  unfold NBR at N
  unfold PRA at PR
  have cw : ∀ Q, Sp fz1 (e + 13) 53 [(3, 129)] h Q = Q (wdT tp t s) h := fun Q => by rw [q53, D.wd hn.1]
  have cs : ∀ Q, Sp fz1 (e + 13) 84 [(3, 129)] h Q = Q s h := fun Q => by rw [q84, F.2.2.2]
  have ci : ∀ Q, Sp fz1 (e + 13) 52 [(3, 258)] h Q = Q 1 h := fun Q => nm_c52 (d := e + 7) D hn
  have rw_ : ∀ Q, Sp fz1 (e2 + 13) 330 [(3, 6603)] hr Q = Q (wdT tp t s) hr := fun Q => v330 D.1.2.2 D.1.1
  have hr3p : hr 6603 3 = s := F.2.2.1
  obtain ⟨w, hw⟩ : ∃ w, w = wdT tp t s := ⟨_, rfl⟩
  rw [← hw] at cw rw_
  obtain ⟨g1, r1, X1, X1a, X1b, X1c, N1, M1, -, -, ec1, er1⟩ := D.nx (e + 5) (e2 + 11)
  obtain ⟨p1, hp1p⟩ : ∃ p, p = nxS tp t s := ⟨_, rfl⟩
  rw [← hp1p] at X1 X1a X1c
  have N1' := N1
  have M1' := M1
  unfold NC at N1'
  unfold NR at M1'
  have D1 := X1.2.1
  have Z1 := (GOM.rfl' D).trans X1
  have pq1 := X1.1
  have hp1 : g1 258 1 = T := D1.2.1.1.2
  have h91 : r1 6603 9 = S := D1.2.1.2.2
  have sb1 := D1.sb
  have lm1 := D1.lim
  have sq : ∀ Q, Sp fz1 (e + 13) 59 [(3, 129), (0, 91)] g1 Q = Q 0 g1 := fun Q => c59n D1 (by decide) (by rw [hp1p]; exact hq)
  have sqr : ∀ Q, Sp fz1 (e2 + 13) 334 [(3, 6603), (0, 91)] r1 Q = Q 0 r1 := fun Q => v334n D1 (by rw [hp1p]; exact hq)
  obtain ⟨g2, r2, ec2, er2, W2⟩ := D1.sign (c := 61) (by decide) (e + 4) (e2 + 10)
  rcases W2 with W2 | W2
  rotate_left
  · obtain ⟨-, B0, E00, F0, H0, b14, b15, -⟩ := W2
    have z19 := E00.2.1
    have E0 := E00.q
    have hp_0 := B0.1.2
    have h9_0 := E0.1.2
    have y0 := E0.2.2.2
    obtain ⟨w1, k1, ⟨B1, F1⟩, x1⟩ := B0.telx (w := w)
    have hp_1 := B1.1.2
    obtain ⟨k2, ⟨B2, F2⟩, x2⟩ := B1.wh (e := dep) (e + 0)
    have hp_2 := B2.1.2
    obtain ⟨k3, ⟨B3, F3⟩, x3⟩ := B2.e2 (p := 6) (x := w1)
    have hp_3 := B3.1.2
    have x4 : ∀ Q, Sp fz1 (e + 13) 58 [(3, 258), (0, 59)] k3 Q = Q 0 k3 := fun Q => b58 B3
    have x5 : ∀ Q, Sp fz1 (e2 + 13) 325 [(3, 6603)] r2 Q = Q 0 r2 := fun Q => E0.g325
    obtain ⟨m6, ⟨E6, H6, y6a, y6b, y6c⟩, x6⟩ := E0.w0
    have h9_6 := E6.1.2
    have y6 := E6.2.2.2
    have x7 : ∀ Q, Sp fz1 (e2 + 13) 333 [(3, 6603), (0, 59)] m6 Q = Q 0 m6 := fun Q => E6.sg
    obtain ⟨m8, ⟨E8, H8, y8a, y8b, y8c⟩, x8⟩ := E6.cx (p := 5) (a := 0) (b := 0) (by omega)
    have h9_8 := E8.1.2
    have y8 := E8.2.2.2
    refine ⟨k3, m8, fun Q => ?_, fun Q => ?_, .inr ⟨⟨_, B3, E8⟩, (Z1.2.2.1.2.trans (F0.trans (F1.trans (F2.trans F3)))), (Z1.2.2.2.2.trans (H0.trans (H6.trans H8))), by omega, by omega, by omega⟩⟩
    · simp (implicitDefEqProofs := false) (disch := omega) only [sp83, b83_0, b83_1, b83_2, q83_1, q83_2, x_aload0, y_call28, y_call52, y_call53, y_call58, y_call59, y_call75, y_call76, y_call79, y_call84, y_call86, y_call93, x_gc_2051, x_goto_2, x_iadd, x_iconst, x_ifCond_eq_1, x_iload1, x_iload4, x_iload5, x_istore4, x_istore5, x_lload2, x_lstore2, x_return, klp_0, klp_1, klp_2, klp_3, klp_9, KC_0, KC_1, KC_2, KC_3, KC_4, ne_eq, not_false_eq_true, not_true_eq_false, true_and, and_true, and_self, implies_true, eq_self, true_imp_iff, false_implies, Int.reduceEq, Int.reduceNe, Int.reduceMod, Int.reduceMul, Int.reduceAdd, Int.reduceSub, Int.reduceLT, Int.reduceLE, Nat.reduceAdd, Nat.reduceLeDiff, Nat.reduceLT, Nat.reduceSub, reduceIte, wds_n, wds_0, wds_1, wds_2, wds_3, or_true, true_or, or_false, false_or, or_self, false_and, and_false, d_pos, d_s1, d_s2, d_s3, d_s4, d_s5, d_s6, d_s7, d_s8, Classical.not_not, z258_0, TC_0 hT, TC_k hT, cw, cs, ci, sq, ec1, hp1, ec2, hp_0, x1, hp_1, x2, hp_2, x3, hp_3, x4, d_s9, d_s10, d_s11, d_s12, d_s13, d_s14, d_s15, d_s16, d_s17, d_s18, d_s19, d_s20, d_s21, d_s22, d_s23, d_s24, d_s25, d_s26, d_s27, d_s28, d_s29, d_s30, hs_ne, hcell, hcel1, le_sub1, le_T, le_F, lt_T, lt_F, eq_F, w32_T, bz0, bz1, lc_le, lc_ge, lc_lt, lc_gt, lc_eq]
    · simp (implicitDefEqProofs := false) (disch := omega) only [sp364, b364_0, b364_1, b364_2, b364_3, q364_1, q364_2, q364_3, x_aload0, y_call321, y_call325, y_call330, y_call333, y_call334, y_call342, y_call344, y_call347, y_call349, y_call358, x_dup0, x_dup3, x_gf_11288, x_gf_11360, x_goto_3, x_iconst, x_ifCond_eq_1, x_ifCond_eq_2, x_iload3, x_iload4, x_istore3, x_istore4, x_isub, x_lload1, x_lstore1, x_pf_11360, x_pop0, x_pop3, x_return, klp_0, klp_1, klp_2, klp_3, klp_9, KC_0, KC_1, KC_2, KC_3, KC_4, ne_eq, not_false_eq_true, not_true_eq_false, true_and, and_true, and_self, implies_true, eq_self, true_imp_iff, false_implies, Int.reduceEq, Int.reduceNe, Int.reduceMod, Int.reduceMul, Int.reduceAdd, Int.reduceSub, Int.reduceLT, Int.reduceLE, Nat.reduceAdd, Nat.reduceLeDiff, Nat.reduceLT, Nat.reduceSub, reduceIte, wds_n, wds_0, wds_1, wds_2, wds_3, or_true, true_or, or_false, false_or, or_self, false_and, and_false, d_pos, d_s1, d_s2, d_s3, d_s4, d_s5, d_s6, d_s7, d_s8, Classical.not_not, TR_0 hS, TR_k hS, rw_, hr3p, sqr, er1, h91, er2, h9_0, x5, x6, h9_6, x7, x8, h9_8, d_s9, d_s10, d_s11, d_s12, d_s13, d_s14, d_s15, d_s16, d_s17, d_s18, d_s19, d_s20, d_s21, d_s22, d_s23, d_s24, d_s25, d_s26, d_s27, d_s28, d_s29, d_s30, hs_ne, hcell, hcel1, le_sub1, le_T, le_F, lt_T, lt_F, eq_F, w32_T, bz0, bz1, lc_le, lc_ge, lc_lt, lc_gt, lc_eq]
  obtain ⟨-, p2, q2, X2, N2, M2⟩ := W2
  have N2' := N2
  have M2' := M2
  unfold NC at N2'
  unfold NR at M2'
  have D2 := X2.2.1
  have Z2 := Z1.trans X2
  have pq2 := X2.1
  have hp2 : g2 258 1 = T := D2.2.1.1.2
  have h92 : r2 6603 9 = S := D2.2.1.2.2
  have sb2 := D2.sb
  have lm2 := D2.lim
  have gd2 : ∀ (d : Nat) Q, Sp fz1 d 325 [(3, 6603)] r2 Q = Q 1 r2 := fun d Q => v325g D2
  obtain ⟨X3, ⟨na3, nb3, na30, nb30, N3, M3⟩, ⟨tv3, tw3⟩, ⟨sv3, sw3⟩, tn3⟩ := D2.tl (w := w) (by omega) (by omega)
  have ec3 : ∀ Q, Sp fz1 (e + 13) 75 [(3, 258), (1, w)] g2 Q = Q (useV g2 w) (tellH g2 w) := fun Q => c75 (d := e + 11) (by omega)
  have er3 : ∀ Q, Sp fz1 (e2 + 13) 342 [(3, 6603), (1, w)] r2 Q = Q (slotV r2 w) (slotH r2 w) := fun Q => r342 (d := e2 + 12) (by omega)
  generalize tellH g2 w = g3 at *
  generalize useV g2 w = u3 at *
  generalize slotH r2 w = r3 at *
  generalize slotV r2 w = y3 at *
  have N3' := N3
  have M3' := M3
  unfold NC at N3'
  unfold NR at M3'
  have D3 := X3.2.1
  have Z3 := Z2.trans X3
  have pq3 := X3.1
  have hp3 : g3 258 1 = T := D3.2.1.1.2
  have h93 : r3 6603 9 = S := D3.2.1.2.2
  have sb3 := D3.sb
  have lm3 := D3.lim
  obtain ⟨g4, r4, ec4, er4, W4⟩ := whole_any (dep := dep) (by omega) (e + 13) (e2 + 13) (by omega) (by omega) D3 (by omega)
  rcases W4 with W4 | W4
  rotate_left
  · obtain ⟨⟨f0, B0, E00⟩, F0, H0, b14, b15, b16⟩ := W4
    have z19 := E00.2.1
    have E0 := E00.q
    have hp_0 := B0.1.2
    have h9_0 := E0.1.2
    have y0 := E0.2.2.2
    obtain ⟨k1, ⟨B1, F1⟩, x1⟩ := B0.e2 (p := 6) (x := u3)
    have hp_1 := B1.1.2
    have x2 : ∀ Q, Sp fz1 (e + 13) 58 [(3, 258), (0, 59)] k1 Q = Q 0 k1 := fun Q => b58 B1
    have x3 : ∀ Q, Sp fz1 (e2 + 13) 333 [(3, 6603), (0, 59)] r4 Q = Q 0 r4 := fun Q => E0.sg
    obtain ⟨m4, ⟨E4, H4, y4a, y4b, y4c⟩, x4⟩ := E0.cx (p := 5) (a := y3) (b := 0) (by omega)
    have h9_4 := E4.1.2
    have y4 := E4.2.2.2
    refine ⟨k1, m4, fun Q => ?_, fun Q => ?_, .inr ⟨⟨_, B1, E4⟩, (Z3.2.2.1.2.trans (F0.trans F1)), (Z3.2.2.2.2.trans (H0.trans H4)), by omega, by omega, by omega⟩⟩
    · simp (implicitDefEqProofs := false) (disch := omega) only [sp83, b83_0, b83_1, b83_2, q83_1, q83_2, x_aload0, y_call28, y_call52, y_call53, y_call58, y_call59, y_call75, y_call76, y_call79, y_call84, y_call86, y_call93, x_gc_2051, x_goto_2, x_iadd, x_iconst, x_ifCond_eq_1, x_iload1, x_iload4, x_iload5, x_istore4, x_istore5, x_lload2, x_lstore2, x_return, klp_0, klp_1, klp_2, klp_3, klp_9, KC_0, KC_1, KC_2, KC_3, KC_4, ne_eq, not_false_eq_true, not_true_eq_false, true_and, and_true, and_self, implies_true, eq_self, true_imp_iff, false_implies, Int.reduceEq, Int.reduceNe, Int.reduceMod, Int.reduceMul, Int.reduceAdd, Int.reduceSub, Int.reduceLT, Int.reduceLE, Nat.reduceAdd, Nat.reduceLeDiff, Nat.reduceLT, Nat.reduceSub, reduceIte, wds_n, wds_0, wds_1, wds_2, wds_3, or_true, true_or, or_false, false_or, or_self, false_and, and_false, d_pos, d_s1, d_s2, d_s3, d_s4, d_s5, d_s6, d_s7, d_s8, Classical.not_not, z258_0, TC_0 hT, TC_k hT, cw, cs, ci, sq, ec1, hp1, ec2, hp2, ec3, hp3, ec4, hp_0, x1, hp_1, x2, d_s9, d_s10, d_s11, d_s12, d_s13, d_s14, d_s15, d_s16, d_s17, d_s18, d_s19, d_s20, d_s21, d_s22, d_s23, d_s24, d_s25, d_s26, d_s27, d_s28, d_s29, d_s30, hs_ne, hcell, hcel1, le_sub1, le_T, le_F, lt_T, lt_F, eq_F, w32_T, bz0, bz1, lc_le, lc_ge, lc_lt, lc_gt, lc_eq]
    · simp (implicitDefEqProofs := false) (disch := omega) only [sp364, b364_0, b364_1, b364_2, b364_3, q364_1, q364_2, q364_3, x_aload0, y_call321, y_call325, y_call330, y_call333, y_call334, y_call342, y_call344, y_call347, y_call349, y_call358, x_dup0, x_dup3, x_gf_11288, x_gf_11360, x_goto_3, x_iconst, x_ifCond_eq_1, x_ifCond_eq_2, x_iload3, x_iload4, x_istore3, x_istore4, x_isub, x_lload1, x_lstore1, x_pf_11360, x_pop0, x_pop3, x_return, klp_0, klp_1, klp_2, klp_3, klp_9, KC_0, KC_1, KC_2, KC_3, KC_4, ne_eq, not_false_eq_true, not_true_eq_false, true_and, and_true, and_self, implies_true, eq_self, true_imp_iff, false_implies, Int.reduceEq, Int.reduceNe, Int.reduceMod, Int.reduceMul, Int.reduceAdd, Int.reduceSub, Int.reduceLT, Int.reduceLE, Nat.reduceAdd, Nat.reduceLeDiff, Nat.reduceLT, Nat.reduceSub, reduceIte, wds_n, wds_0, wds_1, wds_2, wds_3, or_true, true_or, or_false, false_or, or_self, false_and, and_false, d_pos, d_s1, d_s2, d_s3, d_s4, d_s5, d_s6, d_s7, d_s8, Classical.not_not, TR_0 hS, TR_k hS, rw_, hr3p, sqr, er1, h91, er2, h92, gd2, er3, h93, er4, h9_0, x3, x4, h9_4, d_s9, d_s10, d_s11, d_s12, d_s13, d_s14, d_s15, d_s16, d_s17, d_s18, d_s19, d_s20, d_s21, d_s22, d_s23, d_s24, d_s25, d_s26, d_s27, d_s28, d_s29, d_s30, hs_ne, hcell, hcel1, le_sub1, le_T, le_F, lt_T, lt_F, eq_F, w32_T, bz0, bz1, lc_le, lc_ge, lc_lt, lc_gt, lc_eq]
  obtain ⟨p4, X4, V4, DX4, PX4⟩ := W4
  have DX4' := DX4
  unfold DXW at DX4'
  have mc4 := X4.2.2.1.1.2.1.1
  have md4 := X4.2.2.2.1.2.1.1
  have me4 := X4.2.2.2.1.2.2.2.1.1
  have D4 := X4.2.1
  have Z4 := Z3.trans X4
  have pq4 := X4.1
  have hp4 : g4 258 1 = T := D4.2.1.1.2
  have h94 : r4 6603 9 = S := D4.2.1.2.2
  have sb4 := D4.sb
  have lm4 := D4.lim
  obtain ⟨X5, N5, C5⟩ := D4.em (x := 6) (by omega)
  have N5' := N5
  unfold NC at N5'
  obtain ⟨X6, N6, C6⟩ := X5.2.1.em (x := u3) (by omega)
  have N6' := N6
  unfold NC at N6'
  have sb5 := X5.2.1.sb
  have ec6 : ∀ Q, Sp fz1 (e + 13) 93 [(3, 258), (0, 6), (0, u3)] g4 Q = Q 0 (emH T (emH T g4 6) u3) := fun Q => q93 hT D4.2.1.1.2 (by omega)
  have HO6 := X5.2.1.hol (x := u3) (by omega)
  have XC6 := X5.trans X6
  generalize emH T (emH T g4 6) u3 = g6 at *
  generalize emH T g4 6 = g5 at *
  have D6 := XC6.2.1
  have Z6 := Z4.trans XC6
  have pq6 := XC6.1
  have hp6 : g6 258 1 = T := D6.2.1.1.2
  have h96 : r4 6603 9 = S := D6.2.1.2.2
  have sb6 := D6.sb
  have lm6 := D6.lim
  obtain ⟨g7, r7, ec7, er7, W7⟩ := D6.sign (c := 59) (by decide) (e + 4) (e2 + 10)
  rcases W7 with W7 | W7
  rotate_left
  · obtain ⟨-, B0, E00, F0, H0, b14, b15, -⟩ := W7
    have z19 := E00.2.1
    have E0 := E00.q
    have hp_0 := B0.1.2
    have h9_0 := E0.1.2
    have y0 := E0.2.2.2
    obtain ⟨m1, ⟨E1, H1, y1a, y1b, y1c⟩, x1⟩ := E0.cx (p := 5) (a := y3) (b := 0) (by omega)
    have h9_1 := E1.1.2
    have y1 := E1.2.2.2
    refine ⟨g7, m1, fun Q => ?_, fun Q => ?_, .inr ⟨⟨_, B0, E1⟩, (Z6.2.2.1.2.trans F0), (Z6.2.2.2.2.trans (H0.trans H1)), by omega, by omega, by omega⟩⟩
    · simp (implicitDefEqProofs := false) (disch := omega) only [sp83, b83_0, b83_1, b83_2, q83_1, q83_2, x_aload0, y_call28, y_call52, y_call53, y_call58, y_call59, y_call75, y_call76, y_call79, y_call84, y_call86, y_call93, x_gc_2051, x_goto_2, x_iadd, x_iconst, x_ifCond_eq_1, x_iload1, x_iload4, x_iload5, x_istore4, x_istore5, x_lload2, x_lstore2, x_return, klp_0, klp_1, klp_2, klp_3, klp_9, KC_0, KC_1, KC_2, KC_3, KC_4, ne_eq, not_false_eq_true, not_true_eq_false, true_and, and_true, and_self, implies_true, eq_self, true_imp_iff, false_implies, Int.reduceEq, Int.reduceNe, Int.reduceMod, Int.reduceMul, Int.reduceAdd, Int.reduceSub, Int.reduceLT, Int.reduceLE, Nat.reduceAdd, Nat.reduceLeDiff, Nat.reduceLT, Nat.reduceSub, reduceIte, wds_n, wds_0, wds_1, wds_2, wds_3, or_true, true_or, or_false, false_or, or_self, false_and, and_false, d_pos, d_s1, d_s2, d_s3, d_s4, d_s5, d_s6, d_s7, d_s8, Classical.not_not, z258_0, TC_0 hT, TC_k hT, cw, cs, ci, sq, ec1, hp1, ec2, hp2, ec3, hp3, ec4, hp4, ec6, hp6, ec7, hp_0, d_s9, d_s10, d_s11, d_s12, d_s13, d_s14, d_s15, d_s16, d_s17, d_s18, d_s19, d_s20, d_s21, d_s22, d_s23, d_s24, d_s25, d_s26, d_s27, d_s28, d_s29, d_s30, hs_ne, hcell, hcel1, le_sub1, le_T, le_F, lt_T, lt_F, eq_F, w32_T, bz0, bz1, lc_le, lc_ge, lc_lt, lc_gt, lc_eq]
    · simp (implicitDefEqProofs := false) (disch := omega) only [sp364, b364_0, b364_1, b364_2, b364_3, q364_1, q364_2, q364_3, x_aload0, y_call321, y_call325, y_call330, y_call333, y_call334, y_call342, y_call344, y_call347, y_call349, y_call358, x_dup0, x_dup3, x_gf_11288, x_gf_11360, x_goto_3, x_iconst, x_ifCond_eq_1, x_ifCond_eq_2, x_iload3, x_iload4, x_istore3, x_istore4, x_isub, x_lload1, x_lstore1, x_pf_11360, x_pop0, x_pop3, x_return, klp_0, klp_1, klp_2, klp_3, klp_9, KC_0, KC_1, KC_2, KC_3, KC_4, ne_eq, not_false_eq_true, not_true_eq_false, true_and, and_true, and_self, implies_true, eq_self, true_imp_iff, false_implies, Int.reduceEq, Int.reduceNe, Int.reduceMod, Int.reduceMul, Int.reduceAdd, Int.reduceSub, Int.reduceLT, Int.reduceLE, Nat.reduceAdd, Nat.reduceLeDiff, Nat.reduceLT, Nat.reduceSub, reduceIte, wds_n, wds_0, wds_1, wds_2, wds_3, or_true, true_or, or_false, false_or, or_self, false_and, and_false, d_pos, d_s1, d_s2, d_s3, d_s4, d_s5, d_s6, d_s7, d_s8, Classical.not_not, TR_0 hS, TR_k hS, rw_, hr3p, sqr, er1, h91, er2, h92, gd2, er3, h93, er4, h94, h96, er7, h9_0, x1, h9_1, d_s9, d_s10, d_s11, d_s12, d_s13, d_s14, d_s15, d_s16, d_s17, d_s18, d_s19, d_s20, d_s21, d_s22, d_s23, d_s24, d_s25, d_s26, d_s27, d_s28, d_s29, d_s30, hs_ne, hcell, hcel1, le_sub1, le_T, le_F, lt_T, lt_F, eq_F, w32_T, bz0, bz1, lc_le, lc_ge, lc_lt, lc_gt, lc_eq]
  obtain ⟨-, p7, q7, X7, N7, M7⟩ := W7
  have N7' := N7
  have M7' := M7
  unfold NC at N7'
  unfold NR at M7'
  have D7 := X7.2.1
  have Z7 := Z6.trans X7
  have pq7 := X7.1
  have hp7 : g7 258 1 = T := D7.2.1.1.2
  have h97 : r7 6603 9 = S := D7.2.1.2.2
  have sb7 := D7.sb
  have lm7 := D7.lim
  obtain ⟨X8, M8, R8⟩ := D7.cd (p := 5) (a := y3) (b := 0) (by omega) (fun w => absurd w (by decide))
  have er8 : ∀ Q, Sp fz1 (e2 + 13) 347 [(3, 6603), (0, 5), (0, y3), (0, 0)] r7 Q = Q (r7 S 15) (cdR S r7 5 y3 0) := fun Q => v347 D7.2.1.2.1 D7.2.1.2.2 (by omega)
  generalize cdR S r7 5 y3 0 = r8 at X8 M8 R8 er8
  have M8' := M8
  unfold NR at M8'
  have D8 := X8.2.1
  have Z8 := Z7.trans X8
  have pq8 := X8.1
  have hp8 : g7 258 1 = T := D8.2.1.1.2
  have h98 : r8 6603 9 = S := D8.2.1.2.2
  have sb8 := D8.sb
  have lm8 := D8.lim
  refine ⟨g7, r8, fun Q => ?_, fun Q => ?_, .inl ⟨p7, Z8, NVR.tl (h := h) (g := g3) (T := T) (c := 2400) (fun v v0 v1 => tn3 v (by omega) v1) (((((ECP.rfl' (T := T) (c := 2400) (h := g3)).trans (X4.2.2.1.1.lo (by omega))).trans (X5.2.2.1.1.lo (by omega))).trans (X6.2.2.1.1.lo (by omega))).trans (X7.2.2.1.1.lo (by omega))) ((V4.trans ((((ECP.rfl' (T := T) (c := 2400) (h := g4)).trans (X5.2.2.1.1.lo (by omega))).trans (X6.2.2.1.1.lo (by omega))).trans (X7.2.2.1.1.lo (by omega))) (((ERP.rfl' (S := S) (r := 6000) (t := 500) (h := r4)).trans (X7.2.2.2.1.lo (by omega) (by omega))).trans (X8.2.2.2.1.lo (by omega) (by omega))) (NVR.same (by omega)))), by unfold DXB; omega, fun K V CL A s1 s2 => ?_⟩⟩
  · simp (implicitDefEqProofs := false) (disch := omega) only [sp83, b83_0, b83_1, b83_2, q83_1, q83_2, x_aload0, y_call28, y_call52, y_call53, y_call58, y_call59, y_call75, y_call76, y_call79, y_call84, y_call86, y_call93, x_gc_2051, x_goto_2, x_iadd, x_iconst, x_ifCond_eq_1, x_iload1, x_iload4, x_iload5, x_istore4, x_istore5, x_lload2, x_lstore2, x_return, klp_0, klp_1, klp_2, klp_3, klp_9, KC_0, KC_1, KC_2, KC_3, KC_4, ne_eq, not_false_eq_true, not_true_eq_false, true_and, and_true, and_self, implies_true, eq_self, true_imp_iff, false_implies, Int.reduceEq, Int.reduceNe, Int.reduceMod, Int.reduceMul, Int.reduceAdd, Int.reduceSub, Int.reduceLT, Int.reduceLE, Nat.reduceAdd, Nat.reduceLeDiff, Nat.reduceLT, Nat.reduceSub, reduceIte, wds_n, wds_0, wds_1, wds_2, wds_3, or_true, true_or, or_false, false_or, or_self, false_and, and_false, d_pos, d_s1, d_s2, d_s3, d_s4, d_s5, d_s6, d_s7, d_s8, Classical.not_not, z258_0, TC_0 hT, TC_k hT, cw, cs, ci, sq, ec1, hp1, ec2, hp2, ec3, hp3, ec4, hp4, ec6, hp6, ec7, hp7, hp8, d_s9, d_s10, d_s11, d_s12, d_s13, d_s14, d_s15, d_s16, d_s17, d_s18, d_s19, d_s20, d_s21, d_s22, d_s23, d_s24, d_s25, d_s26, d_s27, d_s28, d_s29, d_s30, hs_ne, hcell, hcel1, le_sub1, le_T, le_F, lt_T, lt_F, eq_F, w32_T, bz0, bz1, lc_le, lc_ge, lc_lt, lc_gt, lc_eq]
  · simp (implicitDefEqProofs := false) (disch := omega) only [sp364, b364_0, b364_1, b364_2, b364_3, q364_1, q364_2, q364_3, x_aload0, y_call321, y_call325, y_call330, y_call333, y_call334, y_call342, y_call344, y_call347, y_call349, y_call358, x_dup0, x_dup3, x_gf_11288, x_gf_11360, x_goto_3, x_iconst, x_ifCond_eq_1, x_ifCond_eq_2, x_iload3, x_iload4, x_istore3, x_istore4, x_isub, x_lload1, x_lstore1, x_pf_11360, x_pop0, x_pop3, x_return, klp_0, klp_1, klp_2, klp_3, klp_9, KC_0, KC_1, KC_2, KC_3, KC_4, ne_eq, not_false_eq_true, not_true_eq_false, true_and, and_true, and_self, implies_true, eq_self, true_imp_iff, false_implies, Int.reduceEq, Int.reduceNe, Int.reduceMod, Int.reduceMul, Int.reduceAdd, Int.reduceSub, Int.reduceLT, Int.reduceLE, Nat.reduceAdd, Nat.reduceLeDiff, Nat.reduceLT, Nat.reduceSub, reduceIte, wds_n, wds_0, wds_1, wds_2, wds_3, or_true, true_or, or_false, false_or, or_self, false_and, and_false, d_pos, d_s1, d_s2, d_s3, d_s4, d_s5, d_s6, d_s7, d_s8, Classical.not_not, TR_0 hS, TR_k hS, rw_, hr3p, sqr, er1, h91, er2, h92, gd2, er3, h93, er4, h94, h96, er7, h97, er8, h98, d_s9, d_s10, d_s11, d_s12, d_s13, d_s14, d_s15, d_s16, d_s17, d_s18, d_s19, d_s20, d_s21, d_s22, d_s23, d_s24, d_s25, d_s26, d_s27, d_s28, d_s29, d_s30, hs_ne, hcell, hcel1, le_sub1, le_T, le_F, lt_T, lt_F, eq_F, w32_T, bz0, bz1, lc_le, lc_ge, lc_lt, lc_gt, lc_eq]
  · have EP1j : ECP T (g3 T 17) g4 g7 := ((((ECP.rfl' (T := T) (c := g3 T 17) (h := g4)).trans (X5.2.2.1.1.lo (by omega))).trans (X6.2.2.1.1.lo (by omega))).trans (X7.2.2.1.1.lo (by omega)))
    have FP1j : ERP S (r3 S 15) (r3 S 22) r4 r8 := (((ERP.rfl' (S := S) (r := r3 S 15) (t := r3 S 22) (h := r4)).trans (X7.2.2.2.1.lo (by omega) (by omega))).trans (X8.2.2.2.1.lo (by omega) (by omega)))
    have AP1j := A.sub (h := g4) (hr := r4) (c2 := g3 T 17) (r2 := r3 S 15) (t2 := r3 S 22) (by have := D4.nb; unfold NBR at this; omega) EP1j FP1j (by omega) (by omega) (by omega)
    have P1 := PX4 K V CL AP1j
    have u1 := A.cel (by omega) (CEL.ec (c := 0) (CEL.ec (c := 0) C5 X6.2.2.1.1 (by omega)) X7.2.2.1.1 (by omega))
    have u2 := A.cel (by omega) (CEL.ec (c := 0) C6 X7.2.2.1.1 (by omega))
    have v1 := A.rco (by omega) R8
    have P1z : EXK K V CL (h T 17 - 1 + 1) (hr S 15 - 1 + 1) (g4 T 17) (r4 S 15) (r4 S 15 - r3 S 15) 1 (r4 S 15 - r3 S 15) 0 := by rw [show h T 17 - 1 + 1 = g3 T 17 by omega, show hr S 15 - 1 + 1 = r3 S 15 by omega]; exact P1
    have EV : ECP T 2400 g3 g7 := (((((ECP.rfl' (T := T) (c := 2400) (h := g3)).trans (X4.2.2.1.1.lo (by omega))).trans (X5.2.2.1.1.lo (by omega))).trans (X6.2.2.1.1.lo (by omega))).trans (X7.2.2.1.1.lo (by omega)))
    have FV : ERP S 6000 500 r3 r8 := ((((ERP.rfl' (S := S) (r := 6000) (t := 500) (h := r3)).trans (X4.2.2.2.1.lo (by omega) (by omega))).trans (X7.2.2.2.1.lo (by omega) (by omega))).trans (X8.2.2.2.1.lo (by omega) (by omega)))
    have RC : RCO S r8 (r7 S 15) 5 y3 0 := R8
    have VV : V u3 (r7 S 15) := by
      have c1 := EV.2.1.2.1 u3 tv3.1 tv3.1 tv3.2
      have c2 := FV.2.2.1.2 y3 sv3.1 sv3.1 sv3.2
      have c3 := EV.2.1.1
      have c4 := FV.2.2.1.1
      refine A.2.2.2.2.2.1 (r7 S 15) u3 (by omega) RC.1.1 RC.1.2 tv3.1 (by omega) RC.2.1 (by rw [RC.2.2.1]; exact sv3.1) (by rw [RC.2.2.1]; omega) ?_
      rw [RC.2.2.1, c1, c2, tw3, sw3]
    have R := a_SET (K := K) (V := V) (CL := CL) (c0 := h T 17 - 1) (r0 := hr S 15 - 1) (c1 := g4 T 17) (r1 := r4 S 15) (f := hr S 21) (t := hr S 22) (dp := dep - 1) (m := r4 S 15 - r3 S 15) (w := r4 S 15 - r3 S 15) (by omega) (by omega) (by omega) s1 s2 P1z (by omega) (by omega) u1 (by rw [show r4 S 15 = r7 S 15 by omega]; exact v1.1) (by rw [show g4 T 17 + 1 = g5 T 17 by omega, u2, show r4 S 15 = r7 S 15 by omega]; exact VV)
    rw [show g4 T 17 + 2 = g7 T 17 by omega, show r4 S 15 + 1 = r8 S 15 by omega] at R
    exact R
end SM
