/-! THE PURE SIDE, 167: acts on both sides: an item set: printed by wip/tools/gen8t.py -/
section SM
variable {bX : Int} {tp : Int → Int} {t T S s s1 s2 f : Int} {h hr g gr k kr m mr : HV} {Q : Int → HV → Prop} {d : Nat}
/-- an item set -/
theorem item_pair {dep : Int} {B e e2 : Nat} (hB : 110 ≤ B) (he : B ≤ e + 13) (he2 : B ≤ e2 + 13) (hdp : 1 ≤ dep ∧ dep ≤ 12) (D : GD bX tp t T S s h hr) (PR : PRA T S s h hr) (hd : hr 6603 12 = dep ∧ h 258 11 = 0) (hn : nmP tp t s) (hq : sgP tp t (nxS tp t s) 91) : ∃ g gr, (∀ Q, Sp fz1 (e + 14) 83 [(3, 258), (0, dep)] h Q = Q 0 g) ∧ (∀ Q, Sp fz1 (e2 + 14) 364 [(3, 6603)] hr Q = Q 0 gr) ∧ OUTA bX tp t T S s h hr g gr (dep - 1) := by
  have F := D.f
  have N := D.nb
  have S0 := D.sb
  have hT := D.2.1.1.1
  have hS := D.2.1.2.1
  have kT := kTC D.2.1.1.1
  have kS := kTR D.2.1.2.1
  unfold NBR at N
  unfold PRA at PR
  have cw : ∀ Q, Sp fz1 (e + 13) 53 [(3, 129)] h Q = Q (wdT tp t s) h := fun Q => by rw [q53, D.wd hn.1]
  have cs : ∀ Q, Sp fz1 (e + 13) 84 [(3, 129)] h Q = Q s h := fun Q => by rw [q84, F.2.2.2]
  have ci : ∀ Q, Sp fz1 (e + 13) 52 [(3, 258)] h Q = Q 1 h := fun Q => nm_c52 (d := e + 7) D hn
  have rw_ : ∀ Q, Sp fz1 (e2 + 13) 330 [(3, 6603)] hr Q = Q (wdT tp t s) hr := fun Q => v330 D.1.2.2 D.1.1
  have hr3p : hr 6603 3 = s := F.2.2.1
  obtain ⟨w, hw⟩ : ∃ w, w = wdT tp t s := ⟨_, rfl⟩
  rw [← hw] at cw rw_
  obtain ⟨g1, r1, X1, X1a, X1b, X1c, N1, M1, -, -, ec1, er1⟩ := D.nx (e + 5) (e2 + 11)
  obtain ⟨p1, hp1p⟩ : ∃ p, p = nxS tp t s := ⟨_, rfl⟩
  rw [← hp1p] at X1 X1a X1c
  have N1' := N1
  have M1' := M1
  unfold NC at N1'
  unfold NR at M1'
  have D1 := X1.2.1
  have Z1 := (GOM.rfl' D).trans X1
  have pq1 := X1.1
  have hp1 : g1 258 1 = T := D1.2.1.1.2
  have h91 : r1 6603 9 = S := D1.2.1.2.2
  have sb1 := D1.sb
  have lm1 := D1.lim
  have hq1 : sgP tp t p1 91 := by rw [hp1p]; exact hq
  have sq : ∀ Q, Sp fz1 (e + 13) 59 [(3, 129), (0, 91)] g1 Q = Q 1 g1 := fun Q => c59y D1 (by decide) hq1
  have sqr : ∀ Q, Sp fz1 (e2 + 13) 334 [(3, 6603), (0, 91)] r1 Q = Q 1 r1 := fun Q => v334y D1 hq1
  obtain ⟨X2, ⟨na2, na20, N2⟩, ⟨uv2, uw2, up2⟩, un2⟩ := D1.use (w := w) (p := s) (by omega) S0.1 (by omega) (fun v v0 v1 => by have a := D.up v v0 (by omega); rcases X1.2.2.1.1.2.1.2.2 v v0 (by omega) with b | b <;> rw [b] <;> omega)
  have ec2 : ∀ Q, Sp fz1 (e + 13) 76 [(3, 258), (1, w), (0, s)] g1 Q = Q (useV g1 w) (useH g1 w s) := fun Q => c76 (d := e + 12) (by omega)
  generalize useH g1 w s = g2 at *
  generalize useV g1 w = u2 at *
  have N2' := N2
  unfold NC at N2'
  have D2 := X2.2.1
  have Z2 := Z1.trans X2
  have pq2 := X2.1
  have hp2 : g2 258 1 = T := D2.2.1.1.2
  have h92 : r1 6603 9 = S := D2.2.1.2.2
  have sb2 := D2.sb
  have lm2 := D2.lim
  have hq2 : sgP tp t p1 91 := hq1
  by_cases zd3 : dep < 12
  rotate_left
  · obtain ⟨B0, E00, F0, H00, b14, b15, -⟩ := D2.bad0
    obtain ⟨E01, H01, e01, -⟩ := E00.d12 (x := 13)
    have z19 := E01.2.1
    have TKz := (D2.1.2.2.bad).fr (gr := hset (bdR r1) 6603 12 13) (fun i _ _ => hcell (by omega)) (hs_ne (by decide))
    obtain ⟨rz, ⟨E0, H0z, z14, z15, z19b⟩, xz⟩ := E01.q.nx D2.1.1 TKz (e2 + 11)
    rw [e01] at z14 z15
    have opz : ∀ Q, Sp fz1 (e + 13) 79 [(3, 258), (0, 91), (0, dep)] g2 Q = Q 0 (bdH g2) := fun Q => c79f D2 (by decide) (fun u => zd3 u.1)
    have dpz : ∀ Q, Sp fz1 (e2 + 13) 344 [(3, 6603)] r1 Q = Q 0 (hset (bdR r1) 6603 12 13) := fun Q => v344x (by have := D2.f; omega) (by omega)
    have hp_0 := B0.1.2
    have h9_0 := E0.1.2
    have y0 := E0.2.2.2
    obtain ⟨k1, ⟨B1, F1⟩, x1⟩ := B0.wh (e := (dep + 1)) (e + 0)
    have hp_1 := B1.1.2
    have x2 : ∀ Q, Sp fz1 (e + 13) 58 [(3, 258), (0, 93)] k1 Q = Q 0 k1 := fun Q => b58 B1
    have x3 : ∀ Q, Sp fz1 (e + 13) 58 [(3, 258), (0, 61)] k1 Q = Q 0 k1 := fun Q => b58 B1
    obtain ⟨k4, ⟨B4, F4⟩, x4⟩ := B1.wh (e := dep) (e + 0)
    have hp_4 := B4.1.2
    obtain ⟨k5, ⟨B5, F5⟩, x5⟩ := B4.e2 (p := 7) (x := u2)
    have hp_5 := B5.1.2
    have x6 : ∀ Q, Sp fz1 (e + 13) 58 [(3, 258), (0, 59)] k5 Q = Q 0 k5 := fun Q => b58 B5
    obtain ⟨m7, ⟨E7, H7, y7a, y7b, y7c⟩, x7⟩ := E0.w0
    have h9_7 := E7.1.2
    have y7 := E7.2.2.2
    have x8 : ∀ Q, Sp fz1 (e2 + 13) 333 [(3, 6603), (0, 93)] m7 Q = Q 0 m7 := fun Q => E7.sg
    have U9 := E7.k12 (x := w32 (m7 6603 12 - 1))
    obtain ⟨m9, hm9⟩ : ∃ a, a = hset m7 6603 12 (w32 (m7 6603 12 - 1)) := ⟨_, rfl⟩
    rw [← hm9] at U9
    obtain ⟨E9, H9, y9a, y9b, y9c⟩ := U9
    have h9_9 := E9.1.2
    have y9 := E9.2.2.2
    have x10 : ∀ Q, Sp fz1 (e2 + 13) 333 [(3, 6603), (0, 61)] m9 Q = Q 0 m9 := fun Q => E9.sg
    obtain ⟨m11, ⟨E11, H11, y11a, y11b, y11c⟩, x11⟩ := E9.w0
    have h9_11 := E11.1.2
    have y11 := E11.2.2.2
    have x12 : ∀ Q, Sp fz1 (e2 + 13) 333 [(3, 6603), (0, 59)] m11 Q = Q 0 m11 := fun Q => E11.sg
    obtain ⟨m13, ⟨E13, H13, y13a, y13b, y13c⟩, x13⟩ := E11.cx (p := 6) (a := 0) (b := 0) (by omega)
    have h9_13 := E13.1.2
    have y13 := E13.2.2.2
    have y14 : ∀ Q, Sp fz1 (e2 + 13) 358 [(3, 6603), (1, w), (0, s), (0, m11 S 15)] m13 Q = Q 0 (refH m13 w s (m11 S 15)) := fun Q => v358 (by omega)
    obtain ⟨E14, H14, y14a, y14b⟩ := E13.rf (w := w) (p := s) (c := m11 S 15)
    refine ⟨k5, (refH m13 w s (m11 S 15)), fun Q => ?_, fun Q => ?_, .inr ⟨⟨_, B5, E14⟩, (Z2.2.2.1.2.trans (F0.trans (F1.trans (F4.trans F5)))), (Z2.2.2.2.2.trans ((H00.trans (H01.trans H0z)).trans (H7.trans (H9.trans (H11.trans (H13.trans H14)))))), by omega, by omega, by omega⟩⟩
    · simp (implicitDefEqProofs := false) (disch := omega) only [sp83, b83_0, b83_1, b83_2, q83_1, q83_2, x_aload0, y_call28, y_call52, y_call53, y_call58, y_call59, y_call75, y_call76, y_call79, y_call84, y_call86, y_call93, x_gc_2051, x_goto_2, x_iadd, x_iconst, x_ifCond_eq_1, x_iload1, x_iload4, x_iload5, x_istore4, x_istore5, x_lload2, x_lstore2, x_return, klp_0, klp_1, klp_2, klp_3, klp_9, KC_0, KC_1, KC_2, KC_3, KC_4, ne_eq, not_false_eq_true, not_true_eq_false, true_and, and_true, and_self, implies_true, eq_self, true_imp_iff, false_implies, Int.reduceEq, Int.reduceNe, Int.reduceMod, Int.reduceMul, Int.reduceAdd, Int.reduceSub, Int.reduceLT, Int.reduceLE, Nat.reduceAdd, Nat.reduceLeDiff, Nat.reduceLT, Nat.reduceSub, reduceIte, wds_n, wds_0, wds_1, wds_2, wds_3, or_true, true_or, or_false, false_or, or_self, false_and, and_false, d_pos, d_s1, d_s2, d_s3, d_s4, d_s5, d_s6, d_s7, d_s8, Classical.not_not, z258_0, TC_0 hT, TC_k hT, cw, cs, ci, sq, ec1, hp1, ec2, hp2, opz, hp_0, x1, hp_1, x2, x3, x4, hp_4, x5, hp_5, x6, d_s9, d_s10, d_s11, d_s12, d_s13, d_s14, d_s15, d_s16, d_s17, d_s18, d_s19, d_s20, d_s21, d_s22, d_s23, d_s24, d_s25, d_s26, d_s27, d_s28, d_s29, d_s30, hs_ne, hcell, hcel1, le_sub1, le_T, le_F, lt_T, lt_F, eq_F, w32_T, bz0, bz1, lc_le, lc_ge, lc_lt, lc_gt, lc_eq]
    · simp (implicitDefEqProofs := false) (disch := omega) only [sp364, b364_0, b364_1, b364_2, b364_3, q364_1, q364_2, q364_3, x_aload0, y_call321, y_call325, y_call330, y_call333, y_call334, y_call342, y_call344, y_call347, y_call349, y_call358, x_dup0, x_dup3, x_gf_11288, x_gf_11360, x_goto_3, x_iconst, x_ifCond_eq_1, x_ifCond_eq_2, x_iload3, x_iload4, x_istore3, x_istore4, x_isub, x_lload1, x_lstore1, x_pf_11360, x_pop0, x_pop3, x_return, klp_0, klp_1, klp_2, klp_3, klp_9, KC_0, KC_1, KC_2, KC_3, KC_4, ne_eq, not_false_eq_true, not_true_eq_false, true_and, and_true, and_self, implies_true, eq_self, true_imp_iff, false_implies, Int.reduceEq, Int.reduceNe, Int.reduceMod, Int.reduceMul, Int.reduceAdd, Int.reduceSub, Int.reduceLT, Int.reduceLE, Nat.reduceAdd, Nat.reduceLeDiff, Nat.reduceLT, Nat.reduceSub, reduceIte, wds_n, wds_0, wds_1, wds_2, wds_3, or_true, true_or, or_false, false_or, or_self, false_and, and_false, d_pos, d_s1, d_s2, d_s3, d_s4, d_s5, d_s6, d_s7, d_s8, Classical.not_not, TR_0 hS, TR_k hS, rw_, hr3p, sqr, er1, h91, h92, dpz, xz, h9_0, x7, h9_7, x8, h9_9, x10, x11, h9_11, x12, x13, h9_13, y14, ← hm9, d_s9, d_s10, d_s11, d_s12, d_s13, d_s14, d_s15, d_s16, d_s17, d_s18, d_s19, d_s20, d_s21, d_s22, d_s23, d_s24, d_s25, d_s26, d_s27, d_s28, d_s29, d_s30, hs_ne, hcell, hcel1, le_sub1, le_T, le_F, lt_T, lt_F, eq_F, w32_T, bz0, bz1, lc_le, lc_ge, lc_lt, lc_gt, lc_eq]
  obtain ⟨V3, Vn3, Vx3⟩ := D2.d12 (x := dep + 1)
  unfold NR at Vn3
  have dp3 : ∀ Q, Sp fz1 (e2 + 13) 344 [(3, 6603)] r1 Q = Q 0 (hset r1 6603 12 (dep + 1)) := fun Q => by rw [v344g (by have := D2.f; omega) (by omega), show r1 6603 12 = dep by omega]
  obtain ⟨g3, r3, X3, X3a, X3b, X3c, N3, M3, -, -, en3, er3⟩ := V3.2.1.nx (e + 4) (e2 + 11)
  obtain ⟨p3, hp3p⟩ : ∃ p, p = nxS tp t p1 := ⟨_, rfl⟩
  rw [← hp3p] at X3 X3a X3c
  have N3' := N3
  have M3' := M3
  unfold NC at N3'
  unfold NR at M3'
  have ec3 : ∀ Q, Sp fz1 (e + 13) 79 [(3, 258), (0, 91), (0, dep)] g2 Q = Q 0 g3 := fun Q => c79g D2 (by decide) hq2 zd3 en3
  have X3 := V3.trans X3
  have D3 := X3.2.1
  have Z3 := Z2.trans X3
  have pq3 := X3.1
  have hp3 : g3 258 1 = T := D3.2.1.1.2
  have h93 : r3 6603 9 = S := D3.2.1.2.2
  have sb3 := D3.sb
  have lm3 := D3.lim
  obtain ⟨g4, r4, ec4, er4, W4⟩ := whole_any (dep := (dep + 1)) (by omega) (e + 13) (e2 + 13) (by omega) (by omega) D3 (by omega)
  rcases W4 with W4 | W4
  rotate_left
  · obtain ⟨⟨f0, B0, E00⟩, F0, H0, b14, b15, b16⟩ := W4
    have z19 := E00.2.1
    have E0 := E00.q
    have hp_0 := B0.1.2
    have h9_0 := E0.1.2
    have y0 := E0.2.2.2
    have x1 : ∀ Q, Sp fz1 (e + 13) 58 [(3, 258), (0, 93)] g4 Q = Q 0 g4 := fun Q => b58 B0
    have x2 : ∀ Q, Sp fz1 (e + 13) 58 [(3, 258), (0, 61)] g4 Q = Q 0 g4 := fun Q => b58 B0
    obtain ⟨k3, ⟨B3, F3⟩, x3⟩ := B0.wh (e := dep) (e + 0)
    have hp_3 := B3.1.2
    obtain ⟨k4, ⟨B4, F4⟩, x4⟩ := B3.e2 (p := 7) (x := u2)
    have hp_4 := B4.1.2
    have x5 : ∀ Q, Sp fz1 (e + 13) 58 [(3, 258), (0, 59)] k4 Q = Q 0 k4 := fun Q => b58 B4
    have x6 : ∀ Q, Sp fz1 (e2 + 13) 333 [(3, 6603), (0, 93)] r4 Q = Q 0 r4 := fun Q => E0.sg
    have U7 := E0.k12 (x := w32 (r4 6603 12 - 1))
    obtain ⟨m7, hm7⟩ : ∃ a, a = hset r4 6603 12 (w32 (r4 6603 12 - 1)) := ⟨_, rfl⟩
    rw [← hm7] at U7
    obtain ⟨E7, H7, y7a, y7b, y7c⟩ := U7
    have h9_7 := E7.1.2
    have y7 := E7.2.2.2
    have x8 : ∀ Q, Sp fz1 (e2 + 13) 333 [(3, 6603), (0, 61)] m7 Q = Q 0 m7 := fun Q => E7.sg
    obtain ⟨m9, ⟨E9, H9, y9a, y9b, y9c⟩, x9⟩ := E7.w0
    have h9_9 := E9.1.2
    have y9 := E9.2.2.2
    have x10 : ∀ Q, Sp fz1 (e2 + 13) 333 [(3, 6603), (0, 59)] m9 Q = Q 0 m9 := fun Q => E9.sg
    obtain ⟨m11, ⟨E11, H11, y11a, y11b, y11c⟩, x11⟩ := E9.cx (p := 6) (a := 0) (b := 0) (by omega)
    have h9_11 := E11.1.2
    have y11 := E11.2.2.2
    have y12 : ∀ Q, Sp fz1 (e2 + 13) 358 [(3, 6603), (1, w), (0, s), (0, m9 S 15)] m11 Q = Q 0 (refH m11 w s (m9 S 15)) := fun Q => v358 (by omega)
    obtain ⟨E12, H12, y12a, y12b⟩ := E11.rf (w := w) (p := s) (c := m9 S 15)
    refine ⟨k4, (refH m11 w s (m9 S 15)), fun Q => ?_, fun Q => ?_, .inr ⟨⟨_, B4, E12⟩, (Z3.2.2.1.2.trans (F0.trans (F3.trans F4))), (Z3.2.2.2.2.trans (H0.trans (H7.trans (H9.trans (H11.trans H12))))), by omega, by omega, by omega⟩⟩
    · simp (implicitDefEqProofs := false) (disch := omega) only [sp83, b83_0, b83_1, b83_2, q83_1, q83_2, x_aload0, y_call28, y_call52, y_call53, y_call58, y_call59, y_call75, y_call76, y_call79, y_call84, y_call86, y_call93, x_gc_2051, x_goto_2, x_iadd, x_iconst, x_ifCond_eq_1, x_iload1, x_iload4, x_iload5, x_istore4, x_istore5, x_lload2, x_lstore2, x_return, klp_0, klp_1, klp_2, klp_3, klp_9, KC_0, KC_1, KC_2, KC_3, KC_4, ne_eq, not_false_eq_true, not_true_eq_false, true_and, and_true, and_self, implies_true, eq_self, true_imp_iff, false_implies, Int.reduceEq, Int.reduceNe, Int.reduceMod, Int.reduceMul, Int.reduceAdd, Int.reduceSub, Int.reduceLT, Int.reduceLE, Nat.reduceAdd, Nat.reduceLeDiff, Nat.reduceLT, Nat.reduceSub, reduceIte, wds_n, wds_0, wds_1, wds_2, wds_3, or_true, true_or, or_false, false_or, or_self, false_and, and_false, d_pos, d_s1, d_s2, d_s3, d_s4, d_s5, d_s6, d_s7, d_s8, Classical.not_not, z258_0, TC_0 hT, TC_k hT, cw, cs, ci, sq, ec1, hp1, ec2, hp2, ec3, hp3, ec4, hp_0, x1, x2, x3, hp_3, x4, hp_4, x5, d_s9, d_s10, d_s11, d_s12, d_s13, d_s14, d_s15, d_s16, d_s17, d_s18, d_s19, d_s20, d_s21, d_s22, d_s23, d_s24, d_s25, d_s26, d_s27, d_s28, d_s29, d_s30, hs_ne, hcell, hcel1, le_sub1, le_T, le_F, lt_T, lt_F, eq_F, w32_T, bz0, bz1, lc_le, lc_ge, lc_lt, lc_gt, lc_eq]
    · simp (implicitDefEqProofs := false) (disch := omega) only [sp364, b364_0, b364_1, b364_2, b364_3, q364_1, q364_2, q364_3, x_aload0, y_call321, y_call325, y_call330, y_call333, y_call334, y_call342, y_call344, y_call347, y_call349, y_call358, x_dup0, x_dup3, x_gf_11288, x_gf_11360, x_goto_3, x_iconst, x_ifCond_eq_1, x_ifCond_eq_2, x_iload3, x_iload4, x_istore3, x_istore4, x_isub, x_lload1, x_lstore1, x_pf_11360, x_pop0, x_pop3, x_return, klp_0, klp_1, klp_2, klp_3, klp_9, KC_0, KC_1, KC_2, KC_3, KC_4, ne_eq, not_false_eq_true, not_true_eq_false, true_and, and_true, and_self, implies_true, eq_self, true_imp_iff, false_implies, Int.reduceEq, Int.reduceNe, Int.reduceMod, Int.reduceMul, Int.reduceAdd, Int.reduceSub, Int.reduceLT, Int.reduceLE, Nat.reduceAdd, Nat.reduceLeDiff, Nat.reduceLT, Nat.reduceSub, reduceIte, wds_n, wds_0, wds_1, wds_2, wds_3, or_true, true_or, or_false, false_or, or_self, false_and, and_false, d_pos, d_s1, d_s2, d_s3, d_s4, d_s5, d_s6, d_s7, d_s8, Classical.not_not, TR_0 hS, TR_k hS, rw_, hr3p, sqr, er1, h91, h92, dp3, er3, h93, er4, h9_0, x6, h9_7, x8, x9, h9_9, x10, x11, h9_11, y12, ← hm7, d_s9, d_s10, d_s11, d_s12, d_s13, d_s14, d_s15, d_s16, d_s17, d_s18, d_s19, d_s20, d_s21, d_s22, d_s23, d_s24, d_s25, d_s26, d_s27, d_s28, d_s29, d_s30, hs_ne, hcell, hcel1, le_sub1, le_T, le_F, lt_T, lt_F, eq_F, w32_T, bz0, bz1, lc_le, lc_ge, lc_lt, lc_gt, lc_eq]
  obtain ⟨p4, X4, V4, DX4, PX4⟩ := W4
  have DX4' := DX4
  unfold DXW at DX4'
  have mc4 := X4.2.2.1.1.2.1.1
  have md4 := X4.2.2.2.1.2.1.1
  have me4 := X4.2.2.2.1.2.2.2.1.1
  have D4 := X4.2.1
  have Z4 := Z3.trans X4
  have pq4 := X4.1
  have hp4 : g4 258 1 = T := D4.2.1.1.2
  have h94 : r4 6603 9 = S := D4.2.1.2.2
  have sb4 := D4.sb
  have lm4 := D4.lim
  obtain ⟨g5, r5, ec5, er5, W5⟩ := D4.sign (c := 93) (by decide) (e + 4) (e2 + 10)
  rcases W5 with W5 | W5
  rotate_left
  · obtain ⟨-, B0, E00, F0, H0, b14, b15, -⟩ := W5
    have z19 := E00.2.1
    have E0 := E00.q
    have hp_0 := B0.1.2
    have h9_0 := E0.1.2
    have y0 := E0.2.2.2
    have x1 : ∀ Q, Sp fz1 (e + 13) 58 [(3, 258), (0, 61)] g5 Q = Q 0 g5 := fun Q => b58 B0
    obtain ⟨k2, ⟨B2, F2⟩, x2⟩ := B0.wh (e := dep) (e + 0)
    have hp_2 := B2.1.2
    obtain ⟨k3, ⟨B3, F3⟩, x3⟩ := B2.e2 (p := 7) (x := u2)
    have hp_3 := B3.1.2
    have x4 : ∀ Q, Sp fz1 (e + 13) 58 [(3, 258), (0, 59)] k3 Q = Q 0 k3 := fun Q => b58 B3
    have U5 := E0.k12 (x := w32 (r5 6603 12 - 1))
    obtain ⟨m5, hm5⟩ : ∃ a, a = hset r5 6603 12 (w32 (r5 6603 12 - 1)) := ⟨_, rfl⟩
    rw [← hm5] at U5
    obtain ⟨E5, H5, y5a, y5b, y5c⟩ := U5
    have h9_5 := E5.1.2
    have y5 := E5.2.2.2
    have x6 : ∀ Q, Sp fz1 (e2 + 13) 333 [(3, 6603), (0, 61)] m5 Q = Q 0 m5 := fun Q => E5.sg
    obtain ⟨m7, ⟨E7, H7, y7a, y7b, y7c⟩, x7⟩ := E5.w0
    have h9_7 := E7.1.2
    have y7 := E7.2.2.2
    have x8 : ∀ Q, Sp fz1 (e2 + 13) 333 [(3, 6603), (0, 59)] m7 Q = Q 0 m7 := fun Q => E7.sg
    obtain ⟨m9, ⟨E9, H9, y9a, y9b, y9c⟩, x9⟩ := E7.cx (p := 6) (a := 0) (b := 0) (by omega)
    have h9_9 := E9.1.2
    have y9 := E9.2.2.2
    have y10 : ∀ Q, Sp fz1 (e2 + 13) 358 [(3, 6603), (1, w), (0, s), (0, m7 S 15)] m9 Q = Q 0 (refH m9 w s (m7 S 15)) := fun Q => v358 (by omega)
    obtain ⟨E10, H10, y10a, y10b⟩ := E9.rf (w := w) (p := s) (c := m7 S 15)
    refine ⟨k3, (refH m9 w s (m7 S 15)), fun Q => ?_, fun Q => ?_, .inr ⟨⟨_, B3, E10⟩, (Z4.2.2.1.2.trans (F0.trans (F2.trans F3))), (Z4.2.2.2.2.trans (H0.trans (H5.trans (H7.trans (H9.trans H10))))), by omega, by omega, by omega⟩⟩
    · simp (implicitDefEqProofs := false) (disch := omega) only [sp83, b83_0, b83_1, b83_2, q83_1, q83_2, x_aload0, y_call28, y_call52, y_call53, y_call58, y_call59, y_call75, y_call76, y_call79, y_call84, y_call86, y_call93, x_gc_2051, x_goto_2, x_iadd, x_iconst, x_ifCond_eq_1, x_iload1, x_iload4, x_iload5, x_istore4, x_istore5, x_lload2, x_lstore2, x_return, klp_0, klp_1, klp_2, klp_3, klp_9, KC_0, KC_1, KC_2, KC_3, KC_4, ne_eq, not_false_eq_true, not_true_eq_false, true_and, and_true, and_self, implies_true, eq_self, true_imp_iff, false_implies, Int.reduceEq, Int.reduceNe, Int.reduceMod, Int.reduceMul, Int.reduceAdd, Int.reduceSub, Int.reduceLT, Int.reduceLE, Nat.reduceAdd, Nat.reduceLeDiff, Nat.reduceLT, Nat.reduceSub, reduceIte, wds_n, wds_0, wds_1, wds_2, wds_3, or_true, true_or, or_false, false_or, or_self, false_and, and_false, d_pos, d_s1, d_s2, d_s3, d_s4, d_s5, d_s6, d_s7, d_s8, Classical.not_not, z258_0, TC_0 hT, TC_k hT, cw, cs, ci, sq, ec1, hp1, ec2, hp2, ec3, hp3, ec4, hp4, ec5, hp_0, x1, x2, hp_2, x3, hp_3, x4, d_s9, d_s10, d_s11, d_s12, d_s13, d_s14, d_s15, d_s16, d_s17, d_s18, d_s19, d_s20, d_s21, d_s22, d_s23, d_s24, d_s25, d_s26, d_s27, d_s28, d_s29, d_s30, hs_ne, hcell, hcel1, le_sub1, le_T, le_F, lt_T, lt_F, eq_F, w32_T, bz0, bz1, lc_le, lc_ge, lc_lt, lc_gt, lc_eq]
    · simp (implicitDefEqProofs := false) (disch := omega) only [sp364, b364_0, b364_1, b364_2, b364_3, q364_1, q364_2, q364_3, x_aload0, y_call321, y_call325, y_call330, y_call333, y_call334, y_call342, y_call344, y_call347, y_call349, y_call358, x_dup0, x_dup3, x_gf_11288, x_gf_11360, x_goto_3, x_iconst, x_ifCond_eq_1, x_ifCond_eq_2, x_iload3, x_iload4, x_istore3, x_istore4, x_isub, x_lload1, x_lstore1, x_pf_11360, x_pop0, x_pop3, x_return, klp_0, klp_1, klp_2, klp_3, klp_9, KC_0, KC_1, KC_2, KC_3, KC_4, ne_eq, not_false_eq_true, not_true_eq_false, true_and, and_true, and_self, implies_true, eq_self, true_imp_iff, false_implies, Int.reduceEq, Int.reduceNe, Int.reduceMod, Int.reduceMul, Int.reduceAdd, Int.reduceSub, Int.reduceLT, Int.reduceLE, Nat.reduceAdd, Nat.reduceLeDiff, Nat.reduceLT, Nat.reduceSub, reduceIte, wds_n, wds_0, wds_1, wds_2, wds_3, or_true, true_or, or_false, false_or, or_self, false_and, and_false, d_pos, d_s1, d_s2, d_s3, d_s4, d_s5, d_s6, d_s7, d_s8, Classical.not_not, TR_0 hS, TR_k hS, rw_, hr3p, sqr, er1, h91, h92, dp3, er3, h93, er4, h94, er5, h9_0, h9_5, x6, x7, h9_7, x8, x9, h9_9, y10, ← hm5, d_s9, d_s10, d_s11, d_s12, d_s13, d_s14, d_s15, d_s16, d_s17, d_s18, d_s19, d_s20, d_s21, d_s22, d_s23, d_s24, d_s25, d_s26, d_s27, d_s28, d_s29, d_s30, hs_ne, hcell, hcel1, le_sub1, le_T, le_F, lt_T, lt_F, eq_F, w32_T, bz0, bz1, lc_le, lc_ge, lc_lt, lc_gt, lc_eq]
  obtain ⟨-, p5, q5, X5, N5, M5⟩ := W5
  have N5' := N5
  have M5' := M5
  unfold NC at N5'
  unfold NR at M5'
  have D5 := X5.2.1
  have Z5 := Z4.trans X5
  have pq5 := X5.1
  have hp5 : g5 258 1 = T := D5.2.1.1.2
  have h95 : r5 6603 9 = S := D5.2.1.2.2
  have sb5 := D5.sb
  have lm5 := D5.lim
  obtain ⟨X6, M6, Mx6⟩ := D5.d12 (x := dep)
  have dm6 : r5 6603 12 - 1 = dep := by omega
  obtain ⟨r6, hr6⟩ : ∃ a, a = hset r5 6603 12 (dep) := ⟨_, rfl⟩
  rw [← hr6] at X6 M6 Mx6
  have M6' := M6
  unfold NR at M6'
  have D6 := X6.2.1
  have Z6 := Z5.trans X6
  have pq6 := X6.1
  have hp6 : g5 258 1 = T := D6.2.1.1.2
  have h96 : r6 6603 9 = S := D6.2.1.2.2
  have sb6 := D6.sb
  have lm6 := D6.lim
  obtain ⟨g7, r7, ec7, er7, W7⟩ := D6.sign (c := 61) (by decide) (e + 4) (e2 + 10)
  rcases W7 with W7 | W7
  rotate_left
  · obtain ⟨-, B0, E00, F0, H0, b14, b15, -⟩ := W7
    have z19 := E00.2.1
    have E0 := E00.q
    have hp_0 := B0.1.2
    have h9_0 := E0.1.2
    have y0 := E0.2.2.2
    obtain ⟨k1, ⟨B1, F1⟩, x1⟩ := B0.wh (e := dep) (e + 0)
    have hp_1 := B1.1.2
    obtain ⟨k2, ⟨B2, F2⟩, x2⟩ := B1.e2 (p := 7) (x := u2)
    have hp_2 := B2.1.2
    have x3 : ∀ Q, Sp fz1 (e + 13) 58 [(3, 258), (0, 59)] k2 Q = Q 0 k2 := fun Q => b58 B2
    obtain ⟨m4, ⟨E4, H4, y4a, y4b, y4c⟩, x4⟩ := E0.w0
    have h9_4 := E4.1.2
    have y4 := E4.2.2.2
    have x5 : ∀ Q, Sp fz1 (e2 + 13) 333 [(3, 6603), (0, 59)] m4 Q = Q 0 m4 := fun Q => E4.sg
    obtain ⟨m6, ⟨E6, H6, y6a, y6b, y6c⟩, x6⟩ := E4.cx (p := 6) (a := 0) (b := 0) (by omega)
    have h9_6 := E6.1.2
    have y6 := E6.2.2.2
    have y7 : ∀ Q, Sp fz1 (e2 + 13) 358 [(3, 6603), (1, w), (0, s), (0, m4 S 15)] m6 Q = Q 0 (refH m6 w s (m4 S 15)) := fun Q => v358 (by omega)
    obtain ⟨E7, H7, y7a, y7b⟩ := E6.rf (w := w) (p := s) (c := m4 S 15)
    refine ⟨k2, (refH m6 w s (m4 S 15)), fun Q => ?_, fun Q => ?_, .inr ⟨⟨_, B2, E7⟩, (Z6.2.2.1.2.trans (F0.trans (F1.trans F2))), (Z6.2.2.2.2.trans (H0.trans (H4.trans (H6.trans H7)))), by omega, by omega, by omega⟩⟩
    · simp (implicitDefEqProofs := false) (disch := omega) only [sp83, b83_0, b83_1, b83_2, q83_1, q83_2, x_aload0, y_call28, y_call52, y_call53, y_call58, y_call59, y_call75, y_call76, y_call79, y_call84, y_call86, y_call93, x_gc_2051, x_goto_2, x_iadd, x_iconst, x_ifCond_eq_1, x_iload1, x_iload4, x_iload5, x_istore4, x_istore5, x_lload2, x_lstore2, x_return, klp_0, klp_1, klp_2, klp_3, klp_9, KC_0, KC_1, KC_2, KC_3, KC_4, ne_eq, not_false_eq_true, not_true_eq_false, true_and, and_true, and_self, implies_true, eq_self, true_imp_iff, false_implies, Int.reduceEq, Int.reduceNe, Int.reduceMod, Int.reduceMul, Int.reduceAdd, Int.reduceSub, Int.reduceLT, Int.reduceLE, Nat.reduceAdd, Nat.reduceLeDiff, Nat.reduceLT, Nat.reduceSub, reduceIte, wds_n, wds_0, wds_1, wds_2, wds_3, or_true, true_or, or_false, false_or, or_self, false_and, and_false, d_pos, d_s1, d_s2, d_s3, d_s4, d_s5, d_s6, d_s7, d_s8, Classical.not_not, z258_0, TC_0 hT, TC_k hT, cw, cs, ci, sq, ec1, hp1, ec2, hp2, ec3, hp3, ec4, hp4, ec5, hp5, hp6, ec7, hp_0, x1, hp_1, x2, hp_2, x3, d_s9, d_s10, d_s11, d_s12, d_s13, d_s14, d_s15, d_s16, d_s17, d_s18, d_s19, d_s20, d_s21, d_s22, d_s23, d_s24, d_s25, d_s26, d_s27, d_s28, d_s29, d_s30, hs_ne, hcell, hcel1, le_sub1, le_T, le_F, lt_T, lt_F, eq_F, w32_T, bz0, bz1, lc_le, lc_ge, lc_lt, lc_gt, lc_eq]
    · simp (implicitDefEqProofs := false) (disch := omega) only [sp364, b364_0, b364_1, b364_2, b364_3, q364_1, q364_2, q364_3, x_aload0, y_call321, y_call325, y_call330, y_call333, y_call334, y_call342, y_call344, y_call347, y_call349, y_call358, x_dup0, x_dup3, x_gf_11288, x_gf_11360, x_goto_3, x_iconst, x_ifCond_eq_1, x_ifCond_eq_2, x_iload3, x_iload4, x_istore3, x_istore4, x_isub, x_lload1, x_lstore1, x_pf_11360, x_pop0, x_pop3, x_return, klp_0, klp_1, klp_2, klp_3, klp_9, KC_0, KC_1, KC_2, KC_3, KC_4, ne_eq, not_false_eq_true, not_true_eq_false, true_and, and_true, and_self, implies_true, eq_self, true_imp_iff, false_implies, Int.reduceEq, Int.reduceNe, Int.reduceMod, Int.reduceMul, Int.reduceAdd, Int.reduceSub, Int.reduceLT, Int.reduceLE, Nat.reduceAdd, Nat.reduceLeDiff, Nat.reduceLT, Nat.reduceSub, reduceIte, wds_n, wds_0, wds_1, wds_2, wds_3, or_true, true_or, or_false, false_or, or_self, false_and, and_false, d_pos, d_s1, d_s2, d_s3, d_s4, d_s5, d_s6, d_s7, d_s8, Classical.not_not, TR_0 hS, TR_k hS, rw_, hr3p, sqr, er1, h91, h92, dp3, er3, h93, er4, h94, er5, h95, dm6, ← hr6, h96, er7, h9_0, x4, h9_4, x5, x6, h9_6, y7, d_s9, d_s10, d_s11, d_s12, d_s13, d_s14, d_s15, d_s16, d_s17, d_s18, d_s19, d_s20, d_s21, d_s22, d_s23, d_s24, d_s25, d_s26, d_s27, d_s28, d_s29, d_s30, hs_ne, hcell, hcel1, le_sub1, le_T, le_F, lt_T, lt_F, eq_F, w32_T, bz0, bz1, lc_le, lc_ge, lc_lt, lc_gt, lc_eq]
  obtain ⟨-, p7, q7, X7, N7, M7⟩ := W7
  have N7' := N7
  have M7' := M7
  unfold NC at N7'
  unfold NR at M7'
  have D7 := X7.2.1
  have Z7 := Z6.trans X7
  have pq7 := X7.1
  have hp7 : g7 258 1 = T := D7.2.1.1.2
  have h97 : r7 6603 9 = S := D7.2.1.2.2
  have sb7 := D7.sb
  have lm7 := D7.lim
  obtain ⟨g8, r8, ec8, er8, W8⟩ := whole_any (dep := dep) (by omega) (e + 13) (e2 + 13) (by omega) (by omega) D7 (by omega)
  rcases W8 with W8 | W8
  rotate_left
  · obtain ⟨⟨f0, B0, E00⟩, F0, H0, b14, b15, b16⟩ := W8
    have z19 := E00.2.1
    have E0 := E00.q
    have hp_0 := B0.1.2
    have h9_0 := E0.1.2
    have y0 := E0.2.2.2
    obtain ⟨k1, ⟨B1, F1⟩, x1⟩ := B0.e2 (p := 7) (x := u2)
    have hp_1 := B1.1.2
    have x2 : ∀ Q, Sp fz1 (e + 13) 58 [(3, 258), (0, 59)] k1 Q = Q 0 k1 := fun Q => b58 B1
    have x3 : ∀ Q, Sp fz1 (e2 + 13) 333 [(3, 6603), (0, 59)] r8 Q = Q 0 r8 := fun Q => E0.sg
    obtain ⟨m4, ⟨E4, H4, y4a, y4b, y4c⟩, x4⟩ := E0.cx (p := 6) (a := 0) (b := 0) (by omega)
    have h9_4 := E4.1.2
    have y4 := E4.2.2.2
    have y5 : ∀ Q, Sp fz1 (e2 + 13) 358 [(3, 6603), (1, w), (0, s), (0, r8 S 15)] m4 Q = Q 0 (refH m4 w s (r8 S 15)) := fun Q => v358 (by omega)
    obtain ⟨E5, H5, y5a, y5b⟩ := E4.rf (w := w) (p := s) (c := r8 S 15)
    refine ⟨k1, (refH m4 w s (r8 S 15)), fun Q => ?_, fun Q => ?_, .inr ⟨⟨_, B1, E5⟩, (Z7.2.2.1.2.trans (F0.trans F1)), (Z7.2.2.2.2.trans (H0.trans (H4.trans H5))), by omega, by omega, by omega⟩⟩
    · simp (implicitDefEqProofs := false) (disch := omega) only [sp83, b83_0, b83_1, b83_2, q83_1, q83_2, x_aload0, y_call28, y_call52, y_call53, y_call58, y_call59, y_call75, y_call76, y_call79, y_call84, y_call86, y_call93, x_gc_2051, x_goto_2, x_iadd, x_iconst, x_ifCond_eq_1, x_iload1, x_iload4, x_iload5, x_istore4, x_istore5, x_lload2, x_lstore2, x_return, klp_0, klp_1, klp_2, klp_3, klp_9, KC_0, KC_1, KC_2, KC_3, KC_4, ne_eq, not_false_eq_true, not_true_eq_false, true_and, and_true, and_self, implies_true, eq_self, true_imp_iff, false_implies, Int.reduceEq, Int.reduceNe, Int.reduceMod, Int.reduceMul, Int.reduceAdd, Int.reduceSub, Int.reduceLT, Int.reduceLE, Nat.reduceAdd, Nat.reduceLeDiff, Nat.reduceLT, Nat.reduceSub, reduceIte, wds_n, wds_0, wds_1, wds_2, wds_3, or_true, true_or, or_false, false_or, or_self, false_and, and_false, d_pos, d_s1, d_s2, d_s3, d_s4, d_s5, d_s6, d_s7, d_s8, Classical.not_not, z258_0, TC_0 hT, TC_k hT, cw, cs, ci, sq, ec1, hp1, ec2, hp2, ec3, hp3, ec4, hp4, ec5, hp5, hp6, ec7, hp7, ec8, hp_0, x1, hp_1, x2, d_s9, d_s10, d_s11, d_s12, d_s13, d_s14, d_s15, d_s16, d_s17, d_s18, d_s19, d_s20, d_s21, d_s22, d_s23, d_s24, d_s25, d_s26, d_s27, d_s28, d_s29, d_s30, hs_ne, hcell, hcel1, le_sub1, le_T, le_F, lt_T, lt_F, eq_F, w32_T, bz0, bz1, lc_le, lc_ge, lc_lt, lc_gt, lc_eq]
    · simp (implicitDefEqProofs := false) (disch := omega) only [sp364, b364_0, b364_1, b364_2, b364_3, q364_1, q364_2, q364_3, x_aload0, y_call321, y_call325, y_call330, y_call333, y_call334, y_call342, y_call344, y_call347, y_call349, y_call358, x_dup0, x_dup3, x_gf_11288, x_gf_11360, x_goto_3, x_iconst, x_ifCond_eq_1, x_ifCond_eq_2, x_iload3, x_iload4, x_istore3, x_istore4, x_isub, x_lload1, x_lstore1, x_pf_11360, x_pop0, x_pop3, x_return, klp_0, klp_1, klp_2, klp_3, klp_9, KC_0, KC_1, KC_2, KC_3, KC_4, ne_eq, not_false_eq_true, not_true_eq_false, true_and, and_true, and_self, implies_true, eq_self, true_imp_iff, false_implies, Int.reduceEq, Int.reduceNe, Int.reduceMod, Int.reduceMul, Int.reduceAdd, Int.reduceSub, Int.reduceLT, Int.reduceLE, Nat.reduceAdd, Nat.reduceLeDiff, Nat.reduceLT, Nat.reduceSub, reduceIte, wds_n, wds_0, wds_1, wds_2, wds_3, or_true, true_or, or_false, false_or, or_self, false_and, and_false, d_pos, d_s1, d_s2, d_s3, d_s4, d_s5, d_s6, d_s7, d_s8, Classical.not_not, TR_0 hS, TR_k hS, rw_, hr3p, sqr, er1, h91, h92, dp3, er3, h93, er4, h94, er5, h95, dm6, ← hr6, h96, er7, h97, er8, h9_0, x3, x4, h9_4, y5, d_s9, d_s10, d_s11, d_s12, d_s13, d_s14, d_s15, d_s16, d_s17, d_s18, d_s19, d_s20, d_s21, d_s22, d_s23, d_s24, d_s25, d_s26, d_s27, d_s28, d_s29, d_s30, hs_ne, hcell, hcel1, le_sub1, le_T, le_F, lt_T, lt_F, eq_F, w32_T, bz0, bz1, lc_le, lc_ge, lc_lt, lc_gt, lc_eq]
  obtain ⟨p8, X8, V8, DX8, PX8⟩ := W8
  have DX8' := DX8
  unfold DXW at DX8'
  have mc8 := X8.2.2.1.1.2.1.1
  have md8 := X8.2.2.2.1.2.1.1
  have me8 := X8.2.2.2.1.2.2.2.1.1
  have D8 := X8.2.1
  have Z8 := Z7.trans X8
  have pq8 := X8.1
  have hp8 : g8 258 1 = T := D8.2.1.1.2
  have h98 : r8 6603 9 = S := D8.2.1.2.2
  have sb8 := D8.sb
  have lm8 := D8.lim
  obtain ⟨X9, N9, C9⟩ := D8.em (x := 7) (by omega)
  have N9' := N9
  unfold NC at N9'
  obtain ⟨X10, N10, C10⟩ := X9.2.1.em (x := u2) (by omega)
  have N10' := N10
  unfold NC at N10'
  have sb9 := X9.2.1.sb
  have ec10 : ∀ Q, Sp fz1 (e + 13) 93 [(3, 258), (0, 7), (0, u2)] g8 Q = Q 0 (emH T (emH T g8 7) u2) := fun Q => q93 hT D8.2.1.1.2 (by omega)
  have HO10 := X9.2.1.hol (x := u2) (by omega)
  have XC10 := X9.trans X10
  generalize emH T (emH T g8 7) u2 = g10 at *
  generalize emH T g8 7 = g9 at *
  have D10 := XC10.2.1
  have Z10 := Z8.trans XC10
  have pq10 := XC10.1
  have hp10 : g10 258 1 = T := D10.2.1.1.2
  have h910 : r8 6603 9 = S := D10.2.1.2.2
  have sb10 := D10.sb
  have lm10 := D10.lim
  obtain ⟨g11, r11, ec11, er11, W11⟩ := D10.sign (c := 59) (by decide) (e + 4) (e2 + 10)
  rcases W11 with W11 | W11
  rotate_left
  · obtain ⟨-, B0, E00, F0, H0, b14, b15, -⟩ := W11
    have z19 := E00.2.1
    have E0 := E00.q
    have hp_0 := B0.1.2
    have h9_0 := E0.1.2
    have y0 := E0.2.2.2
    obtain ⟨m1, ⟨E1, H1, y1a, y1b, y1c⟩, x1⟩ := E0.cx (p := 6) (a := 0) (b := 0) (by omega)
    have h9_1 := E1.1.2
    have y1 := E1.2.2.2
    have y2 : ∀ Q, Sp fz1 (e2 + 13) 358 [(3, 6603), (1, w), (0, s), (0, r11 S 15)] m1 Q = Q 0 (refH m1 w s (r11 S 15)) := fun Q => v358 (by omega)
    obtain ⟨E2, H2, y2a, y2b⟩ := E1.rf (w := w) (p := s) (c := r11 S 15)
    refine ⟨g11, (refH m1 w s (r11 S 15)), fun Q => ?_, fun Q => ?_, .inr ⟨⟨_, B0, E2⟩, (Z10.2.2.1.2.trans F0), (Z10.2.2.2.2.trans (H0.trans (H1.trans H2))), by omega, by omega, by omega⟩⟩
    · simp (implicitDefEqProofs := false) (disch := omega) only [sp83, b83_0, b83_1, b83_2, q83_1, q83_2, x_aload0, y_call28, y_call52, y_call53, y_call58, y_call59, y_call75, y_call76, y_call79, y_call84, y_call86, y_call93, x_gc_2051, x_goto_2, x_iadd, x_iconst, x_ifCond_eq_1, x_iload1, x_iload4, x_iload5, x_istore4, x_istore5, x_lload2, x_lstore2, x_return, klp_0, klp_1, klp_2, klp_3, klp_9, KC_0, KC_1, KC_2, KC_3, KC_4, ne_eq, not_false_eq_true, not_true_eq_false, true_and, and_true, and_self, implies_true, eq_self, true_imp_iff, false_implies, Int.reduceEq, Int.reduceNe, Int.reduceMod, Int.reduceMul, Int.reduceAdd, Int.reduceSub, Int.reduceLT, Int.reduceLE, Nat.reduceAdd, Nat.reduceLeDiff, Nat.reduceLT, Nat.reduceSub, reduceIte, wds_n, wds_0, wds_1, wds_2, wds_3, or_true, true_or, or_false, false_or, or_self, false_and, and_false, d_pos, d_s1, d_s2, d_s3, d_s4, d_s5, d_s6, d_s7, d_s8, Classical.not_not, z258_0, TC_0 hT, TC_k hT, cw, cs, ci, sq, ec1, hp1, ec2, hp2, ec3, hp3, ec4, hp4, ec5, hp5, hp6, ec7, hp7, ec8, hp8, ec10, hp10, ec11, hp_0, d_s9, d_s10, d_s11, d_s12, d_s13, d_s14, d_s15, d_s16, d_s17, d_s18, d_s19, d_s20, d_s21, d_s22, d_s23, d_s24, d_s25, d_s26, d_s27, d_s28, d_s29, d_s30, hs_ne, hcell, hcel1, le_sub1, le_T, le_F, lt_T, lt_F, eq_F, w32_T, bz0, bz1, lc_le, lc_ge, lc_lt, lc_gt, lc_eq]
    · simp (implicitDefEqProofs := false) (disch := omega) only [sp364, b364_0, b364_1, b364_2, b364_3, q364_1, q364_2, q364_3, x_aload0, y_call321, y_call325, y_call330, y_call333, y_call334, y_call342, y_call344, y_call347, y_call349, y_call358, x_dup0, x_dup3, x_gf_11288, x_gf_11360, x_goto_3, x_iconst, x_ifCond_eq_1, x_ifCond_eq_2, x_iload3, x_iload4, x_istore3, x_istore4, x_isub, x_lload1, x_lstore1, x_pf_11360, x_pop0, x_pop3, x_return, klp_0, klp_1, klp_2, klp_3, klp_9, KC_0, KC_1, KC_2, KC_3, KC_4, ne_eq, not_false_eq_true, not_true_eq_false, true_and, and_true, and_self, implies_true, eq_self, true_imp_iff, false_implies, Int.reduceEq, Int.reduceNe, Int.reduceMod, Int.reduceMul, Int.reduceAdd, Int.reduceSub, Int.reduceLT, Int.reduceLE, Nat.reduceAdd, Nat.reduceLeDiff, Nat.reduceLT, Nat.reduceSub, reduceIte, wds_n, wds_0, wds_1, wds_2, wds_3, or_true, true_or, or_false, false_or, or_self, false_and, and_false, d_pos, d_s1, d_s2, d_s3, d_s4, d_s5, d_s6, d_s7, d_s8, Classical.not_not, TR_0 hS, TR_k hS, rw_, hr3p, sqr, er1, h91, h92, dp3, er3, h93, er4, h94, er5, h95, dm6, ← hr6, h96, er7, h97, er8, h98, h910, er11, h9_0, x1, h9_1, y2, d_s9, d_s10, d_s11, d_s12, d_s13, d_s14, d_s15, d_s16, d_s17, d_s18, d_s19, d_s20, d_s21, d_s22, d_s23, d_s24, d_s25, d_s26, d_s27, d_s28, d_s29, d_s30, hs_ne, hcell, hcel1, le_sub1, le_T, le_F, lt_T, lt_F, eq_F, w32_T, bz0, bz1, lc_le, lc_ge, lc_lt, lc_gt, lc_eq]
  obtain ⟨-, p11, q11, X11, N11, M11⟩ := W11
  have N11' := N11
  have M11' := M11
  unfold NC at N11'
  unfold NR at M11'
  have D11 := X11.2.1
  have Z11 := Z10.trans X11
  have pq11 := X11.1
  have hp11 : g11 258 1 = T := D11.2.1.1.2
  have h911 : r11 6603 9 = S := D11.2.1.2.2
  have sb11 := D11.sb
  have lm11 := D11.lim
  obtain ⟨X12, M12, R12⟩ := D11.cd (p := 6) (a := 0) (b := 0) (by omega) (fun w => absurd w (by decide))
  have er12 : ∀ Q, Sp fz1 (e2 + 13) 347 [(3, 6603), (0, 6), (0, 0), (0, 0)] r11 Q = Q (r11 S 15) (cdR S r11 6 0 0) := fun Q => v347 D11.2.1.2.1 D11.2.1.2.2 (by omega)
  generalize cdR S r11 6 0 0 = r12 at X12 M12 R12 er12
  have M12' := M12
  unfold NR at M12'
  have D12 := X12.2.1
  have Z12 := Z11.trans X12
  have pq12 := X12.1
  have hp12 : g11 258 1 = T := D12.2.1.1.2
  have h912 : r12 6603 9 = S := D12.2.1.2.2
  have sb12 := D12.sb
  have lm12 := D12.lim
  have EV : ECP T 2400 g2 g11 := (((((((((ECP.rfl' (T := T) (c := 2400) (h := g2)).trans (X3.2.2.1.1.lo (by omega))).trans (X4.2.2.1.1.lo (by omega))).trans (X5.2.2.1.1.lo (by omega))).trans (X7.2.2.1.1.lo (by omega))).trans (X8.2.2.1.1.lo (by omega))).trans (X9.2.2.1.1.lo (by omega))).trans (X10.2.2.1.1.lo (by omega))).trans (X11.2.2.1.1.lo (by omega)))
  have wv : g11 353 u2 = w := (EV.2.1.2.1 u2 uv2.1 uv2.1 uv2.2).trans uw2
  have lv := EV.2.1.1
  have hc13 := RFI.nx D11.2.2.2.2.2.2.2.1 hS X12.2.2.2.1 X12.2.2.2.2 (by omega) R12 (.inr rfl)
  obtain ⟨X13, M13, rn13, rp13, rc13⟩ := D12.rf (w := w) (p := s) (c := r11 S 15) (by omega) ⟨u2, ⟨uv2.1, by omega⟩, wv, by rcases EV.2.1.2.2 u2 uv2.1 uv2.2 with b | b <;> rw [b] <;> omega⟩ hc13
  have er13 : ∀ Q, Sp fz1 (e2 + 13) 358 [(3, 6603), (1, w), (0, s), (0, r11 S 15)] r12 Q = Q 0 (refH r12 w s (r11 S 15)) := fun Q => v358 (by omega)
  generalize refH r12 w s (r11 S 15) = r13 at *
  have M13' := M13
  unfold NR at M13'
  have D13 := X13.2.1
  have Z13 := Z12.trans X13
  have pq13 := X13.1
  have hp13 : g11 258 1 = T := D13.2.1.1.2
  have h913 : r13 6603 9 = S := D13.2.1.2.2
  have sb13 := D13.sb
  have lm13 := D13.lim
  refine ⟨g11, r13, fun Q => ?_, fun Q => ?_, .inl ⟨p11, Z13, NVR.us (h := h) (g := g2) (T := T) (c := 2400) (fun v v0 v1 => un2 v (by omega) v1) uw2 S0.1 (((((((((ECP.rfl' (T := T) (c := 2400) (h := g2)).trans (X3.2.2.1.1.lo (by omega))).trans (X4.2.2.1.1.lo (by omega))).trans (X5.2.2.1.1.lo (by omega))).trans (X7.2.2.1.1.lo (by omega))).trans (X8.2.2.1.1.lo (by omega))).trans (X9.2.2.1.1.lo (by omega))).trans (X10.2.2.1.1.lo (by omega))).trans (X11.2.2.1.1.lo (by omega))) ⟨r12 6603 19, by omega, rn13, rp13⟩ (((((NVR.same (h := g2) (g := g3) (gr := r3) (by omega)).trans ((ECP.rfl' (T := T) (c := 2400) (h := g3)).trans (X4.2.2.1.1.lo (by omega))) ((ERP.rfl' (S := S) (r := 6000) (t := 500) (h := r3)).trans (X4.2.2.2.1.lo (by omega) (by omega))) V4).trans (((ECP.rfl' (T := T) (c := 2400) (h := g4)).trans (X5.2.2.1.1.lo (by omega))).trans (X7.2.2.1.1.lo (by omega))) ((((ERP.rfl' (S := S) (r := 6000) (t := 500) (h := r4)).trans (X5.2.2.2.1.lo (by omega) (by omega))).trans (X6.2.2.2.1.lo (by omega) (by omega))).trans (X7.2.2.2.1.lo (by omega) (by omega))) (NVR.same (h := g4) (g := g7) (gr := r7) (by omega))).trans ((ECP.rfl' (T := T) (c := 2400) (h := g7)).trans (X8.2.2.1.1.lo (by omega))) ((ERP.rfl' (S := S) (r := 6000) (t := 500) (h := r7)).trans (X8.2.2.2.1.lo (by omega) (by omega))) V8).trans ((((ECP.rfl' (T := T) (c := 2400) (h := g8)).trans (X9.2.2.1.1.lo (by omega))).trans (X10.2.2.1.1.lo (by omega))).trans (X11.2.2.1.1.lo (by omega))) ((((ERP.rfl' (S := S) (r := 6000) (t := 500) (h := r8)).trans (X11.2.2.2.1.lo (by omega) (by omega))).trans (X12.2.2.2.1.lo (by omega) (by omega))).trans (X13.2.2.2.1.lo (by omega) (by omega))) (NVR.same (by omega))), by unfold DXB; omega, fun K V CL A s1 s2 => ?_⟩⟩
  · simp (implicitDefEqProofs := false) (disch := omega) only [sp83, b83_0, b83_1, b83_2, q83_1, q83_2, x_aload0, y_call28, y_call52, y_call53, y_call58, y_call59, y_call75, y_call76, y_call79, y_call84, y_call86, y_call93, x_gc_2051, x_goto_2, x_iadd, x_iconst, x_ifCond_eq_1, x_iload1, x_iload4, x_iload5, x_istore4, x_istore5, x_lload2, x_lstore2, x_return, klp_0, klp_1, klp_2, klp_3, klp_9, KC_0, KC_1, KC_2, KC_3, KC_4, ne_eq, not_false_eq_true, not_true_eq_false, true_and, and_true, and_self, implies_true, eq_self, true_imp_iff, false_implies, Int.reduceEq, Int.reduceNe, Int.reduceMod, Int.reduceMul, Int.reduceAdd, Int.reduceSub, Int.reduceLT, Int.reduceLE, Nat.reduceAdd, Nat.reduceLeDiff, Nat.reduceLT, Nat.reduceSub, reduceIte, wds_n, wds_0, wds_1, wds_2, wds_3, or_true, true_or, or_false, false_or, or_self, false_and, and_false, d_pos, d_s1, d_s2, d_s3, d_s4, d_s5, d_s6, d_s7, d_s8, Classical.not_not, z258_0, TC_0 hT, TC_k hT, cw, cs, ci, sq, ec1, hp1, ec2, hp2, ec3, hp3, ec4, hp4, ec5, hp5, hp6, ec7, hp7, ec8, hp8, ec10, hp10, ec11, hp11, hp12, hp13, d_s9, d_s10, d_s11, d_s12, d_s13, d_s14, d_s15, d_s16, d_s17, d_s18, d_s19, d_s20, d_s21, d_s22, d_s23, d_s24, d_s25, d_s26, d_s27, d_s28, d_s29, d_s30, hs_ne, hcell, hcel1, le_sub1, le_T, le_F, lt_T, lt_F, eq_F, w32_T, bz0, bz1, lc_le, lc_ge, lc_lt, lc_gt, lc_eq]
  · simp (implicitDefEqProofs := false) (disch := omega) only [sp364, b364_0, b364_1, b364_2, b364_3, q364_1, q364_2, q364_3, x_aload0, y_call321, y_call325, y_call330, y_call333, y_call334, y_call342, y_call344, y_call347, y_call349, y_call358, x_dup0, x_dup3, x_gf_11288, x_gf_11360, x_goto_3, x_iconst, x_ifCond_eq_1, x_ifCond_eq_2, x_iload3, x_iload4, x_istore3, x_istore4, x_isub, x_lload1, x_lstore1, x_pf_11360, x_pop0, x_pop3, x_return, klp_0, klp_1, klp_2, klp_3, klp_9, KC_0, KC_1, KC_2, KC_3, KC_4, ne_eq, not_false_eq_true, not_true_eq_false, true_and, and_true, and_self, implies_true, eq_self, true_imp_iff, false_implies, Int.reduceEq, Int.reduceNe, Int.reduceMod, Int.reduceMul, Int.reduceAdd, Int.reduceSub, Int.reduceLT, Int.reduceLE, Nat.reduceAdd, Nat.reduceLeDiff, Nat.reduceLT, Nat.reduceSub, reduceIte, wds_n, wds_0, wds_1, wds_2, wds_3, or_true, true_or, or_false, false_or, or_self, false_and, and_false, d_pos, d_s1, d_s2, d_s3, d_s4, d_s5, d_s6, d_s7, d_s8, Classical.not_not, TR_0 hS, TR_k hS, rw_, hr3p, sqr, er1, h91, h92, dp3, er3, h93, er4, h94, er5, h95, dm6, ← hr6, h96, er7, h97, er8, h98, h910, er11, h911, er12, h912, er13, h913, d_s9, d_s10, d_s11, d_s12, d_s13, d_s14, d_s15, d_s16, d_s17, d_s18, d_s19, d_s20, d_s21, d_s22, d_s23, d_s24, d_s25, d_s26, d_s27, d_s28, d_s29, d_s30, hs_ne, hcell, hcel1, le_sub1, le_T, le_F, lt_T, lt_F, eq_F, w32_T, bz0, bz1, lc_le, lc_ge, lc_lt, lc_gt, lc_eq]
  · have EP1j : ECP T (g3 T 17) g4 g11 := (((((((ECP.rfl' (T := T) (c := g3 T 17) (h := g4)).trans (X5.2.2.1.1.lo (by omega))).trans (X7.2.2.1.1.lo (by omega))).trans (X8.2.2.1.1.lo (by omega))).trans (X9.2.2.1.1.lo (by omega))).trans (X10.2.2.1.1.lo (by omega))).trans (X11.2.2.1.1.lo (by omega)))
    have FP1j : ERP S (r3 S 15) (r3 S 22) r4 r13 := ((((((((ERP.rfl' (S := S) (r := r3 S 15) (t := r3 S 22) (h := r4)).trans (X5.2.2.2.1.lo (by omega) (by omega))).trans (X6.2.2.2.1.lo (by omega) (by omega))).trans (X7.2.2.2.1.lo (by omega) (by omega))).trans (X8.2.2.2.1.lo (by omega) (by omega))).trans (X11.2.2.2.1.lo (by omega) (by omega))).trans (X12.2.2.2.1.lo (by omega) (by omega))).trans (X13.2.2.2.1.lo (by omega) (by omega)))
    have AP1j := A.sub (h := g4) (hr := r4) (c2 := g3 T 17) (r2 := r3 S 15) (t2 := r3 S 22) (by have := D4.nb; unfold NBR at this; omega) EP1j FP1j (by omega) (by omega) (by omega)
    have P1 := PX4 K V CL AP1j
    have EP2j : ECP T (g7 T 17) g8 g11 := ((((ECP.rfl' (T := T) (c := g7 T 17) (h := g8)).trans (X9.2.2.1.1.lo (by omega))).trans (X10.2.2.1.1.lo (by omega))).trans (X11.2.2.1.1.lo (by omega)))
    have FP2j : ERP S (r7 S 15) (r7 S 22) r8 r13 := ((((ERP.rfl' (S := S) (r := r7 S 15) (t := r7 S 22) (h := r8)).trans (X11.2.2.2.1.lo (by omega) (by omega))).trans (X12.2.2.2.1.lo (by omega) (by omega))).trans (X13.2.2.2.1.lo (by omega) (by omega)))
    have AP2j := A.sub (h := g8) (hr := r8) (c2 := g7 T 17) (r2 := r7 S 15) (t2 := r7 S 22) (by have := D8.nb; unfold NBR at this; omega) EP2j FP2j (by omega) (by omega) (by omega)
    have P2 := PX8 K V CL AP2j
    have u1 := A.cel (by omega) (CEL.ec (c := 0) (CEL.ec (c := 0) C9 X10.2.2.1.1 (by omega)) X11.2.2.1.1 (by omega))
    have u3 := A.cel (by omega) (CEL.ec (c := 0) C10 X11.2.2.1.1 (by omega))
    have v1 := A.rco (by omega) (RCO.er (r := 0) (t := 0) R12 X13.2.2.2.1 (by omega))
    have P1z : EXK K V CL (h T 17 - 1 + 1) (hr S 15 - 1 + 1) (g7 T 17) (r7 S 15) (r4 S 15 - r3 S 15) 1 (r4 S 15 - r3 S 15) 0 := by rw [show h T 17 - 1 + 1 = g3 T 17 by omega, show hr S 15 - 1 + 1 = r3 S 15 by omega, show g7 T 17 = g4 T 17 by omega, show r7 S 15 = r4 S 15 by omega]; exact P1
    have P3 := P1z.seq (lo := 0) (g := 2) (m := (r4 S 15 - r3 S 15) + (r8 S 15 - r7 S 15)) (w := 31) P2 (by omega) (by omega) (by omega) (by omega) (by omega) (by omega) (by omega) rfl (by omega)
    have VV : V u2 (r11 S 15) := by
      have z := A.2.2.2.2.2.2.2.1 (r12 6603 19) u2 (by omega) (by omega) uv2.1 (by omega) (by rw [rn13]; exact wv)
      rw [rc13] at z
      exact z
    have R := a_SETITEM (K := K) (V := V) (CL := CL) (c0 := h T 17 - 1) (r0 := hr S 15 - 1) (c1 := g8 T 17) (r1 := r8 S 15) (f := hr S 21) (t := hr S 22) (dp := dep - 1) (m := (r4 S 15 - r3 S 15) + (r8 S 15 - r7 S 15)) (w := 31) (by omega) (by omega) (by omega) s1 s2 P3 (by omega) (by omega) u1 (by rw [show r8 S 15 = r11 S 15 by omega]; exact v1.1) (by rw [show g8 T 17 + 1 = g9 T 17 by omega, u3, show r8 S 15 = r11 S 15 by omega]; exact VV)
    rw [show g8 T 17 + 2 = g11 T 17 by omega, show r8 S 15 + 1 = r13 S 15 by omega] at R
    exact R
end SM
