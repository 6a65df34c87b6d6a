/-! THE PURE SIDE, 169: acts on both sides: raise; the small steps of try: printed by wip/tools/gen8v.py -/
section SM
variable {bX : Int} {tp : Int → Int} {t T S s s1 s2 f : Int} {h hr g gr k kr m mr : HV} {Q : Int → HV → Prop} {d : Nat}
set_option maxHeartbeats 4000000 in
/-- a failure that was not named yet -/
theorem GD.f119 {m : Nat} (D : GD bX tp t T S s h hr) (hm : m < 1024) (d e : Nat) : (∃ f g gr, (1 ≤ f ∧ f ≤ 7) ∧ m.testBit f.toNat = false ∧ (∀ Q, Sp fz1 (d + 9) 119 [(3, 258), (0, (m : Int))] h Q = Q f g) ∧ (∀ Q, Sp fz1 (e + 6) 363 [(3, 6603)] hr Q = Q f hr) ∧ (∀ Q, Sp fz1 (e + 6) 321 [(3, 6603)] hr Q = Q 0 gr) ∧ ∃ s1, s + 4 ≤ s1 ∧ GOM bX tp t T S s h hr s1 g gr ∧ NC T h g 0 0 0 0 0 ∧ NR S hr gr 0 0 0 0 0 0 0) ∨
    (∃ f, (0 ≤ f ∧ f ≤ 7) ∧ (f = 0 ∨ m.testBit f.toNat = true) ∧ (∀ Q, Sp fz1 (d + 9) 119 [(3, 258), (0, (m : Int))] h Q = Q f (bdH h)) ∧ (∀ Q, Sp fz1 (e + 6) 363 [(3, 6603)] hr Q = Q (if f = 0 then -9 else f) hr) ∧ BAD0 T S s h hr (bdH h) (bdR hr)) := by
  have F := D.f
  obtain ⟨f, hf, fd0, fl, f4⟩ := D.fail
  have fd : ∀ Q, Sp fz1 (d + 8) 45 [(3, 129), (3, NV_563)] h Q = Q (f - 1) h := fun Q => fd0 (d + 3) Q
  have m0 : (0 : Int) ≤ m := by omega
  by_cases z : f = 0
  · subst z
    have pp : ∀ Q, Sp fz1 (d + 8) 28 [(3, 129), (0, 0)] h Q = Q 0 (bdH h) := fun Q => p28f (by omega)
    have bt : True := trivial
    refine .inr ⟨0, by decide, .inl rfl, fun Q => ?_, fun Q => fl e Q, D.bad0⟩
    simp (implicitDefEqProofs := false) (disch := omega) only [sp119, n119_0, b119_1, b119_2, q119_1, q119_2, x_aload0, y_call28, y_call45, x_gc_2051, x_goto_2, x_iadd, x_iand, x_iconst, x_ifCond_le_1, x_ifCond_ne_1, x_iload1, x_iload2, x_ireturn, x_ishr, x_istore2, x_jsr, klp_0, klp_1, klp_2, klp_3, klp_9, KC_0, KC_1, KC_2, KC_3, KC_4, ne_eq, not_false_eq_true, not_true_eq_false, true_and, and_true, and_self, implies_true, eq_self, true_imp_iff, false_implies, Int.reduceEq, Int.reduceNe, Int.reduceMod, Int.reduceMul, Int.reduceAdd, Int.reduceSub, Int.reduceLT, Int.reduceLE, Nat.reduceAdd, Nat.reduceLeDiff, Nat.reduceLT, Nat.reduceSub, reduceIte, wds_n, wds_0, wds_1, wds_2, wds_3, or_true, true_or, or_false, false_or, or_self, false_and, and_false, d_pos, d_s1, d_s2, d_s3, d_s4, d_s5, d_s6, d_s7, d_s8, Classical.not_not, z258_0, fd, pp, bt, Int.sub_add_cancel, d_s9, d_s10, d_s11, d_s12, d_s13, d_s14, d_s15, d_s16, d_s17, d_s18, d_s19, d_s20, d_s21, d_s22, d_s23, d_s24, d_s25, d_s26, d_s27, d_s28, d_s29, d_s30, hs_ne, hcell, hcel1, le_sub1, le_T, le_F, lt_T, lt_F, eq_F, w32_T, bz0, bz1, lc_le, lc_ge, lc_lt, lc_gt, lc_eq]
  · have b := bit_t (m := m) (s := f.toNat) (by omega) (by omega)
    rw [show ((f.toNat : Nat) : Int) = f by omega] at b
    by_cases w : m.testBit f.toNat = true
    · rw [if_pos w] at b
      have pp : ∀ Q, Sp fz1 (d + 8) 28 [(3, 129), (0, 0)] h Q = Q 0 (bdH h) := fun Q => p28f (by omega)
      have bt := b
      refine .inr ⟨f, hf, .inr w, fun Q => ?_, fun Q => fl e Q, D.bad0⟩
      simp (implicitDefEqProofs := false) (disch := omega) only [sp119, n119_0, b119_1, b119_2, q119_1, q119_2, x_aload0, y_call28, y_call45, x_gc_2051, x_goto_2, x_iadd, x_iand, x_iconst, x_ifCond_le_1, x_ifCond_ne_1, x_iload1, x_iload2, x_ireturn, x_ishr, x_istore2, x_jsr, klp_0, klp_1, klp_2, klp_3, klp_9, KC_0, KC_1, KC_2, KC_3, KC_4, ne_eq, not_false_eq_true, not_true_eq_false, true_and, and_true, and_self, implies_true, eq_self, true_imp_iff, false_implies, Int.reduceEq, Int.reduceNe, Int.reduceMod, Int.reduceMul, Int.reduceAdd, Int.reduceSub, Int.reduceLT, Int.reduceLE, Nat.reduceAdd, Nat.reduceLeDiff, Nat.reduceLT, Nat.reduceSub, reduceIte, wds_n, wds_0, wds_1, wds_2, wds_3, or_true, true_or, or_false, false_or, or_self, false_and, and_false, d_pos, d_s1, d_s2, d_s3, d_s4, d_s5, d_s6, d_s7, d_s8, Classical.not_not, z258_0, fd, pp, bt, Int.sub_add_cancel, d_s9, d_s10, d_s11, d_s12, d_s13, d_s14, d_s15, d_s16, d_s17, d_s18, d_s19, d_s20, d_s21, d_s22, d_s23, d_s24, d_s25, d_s26, d_s27, d_s28, d_s29, d_s30, hs_ne, hcell, hcel1, le_sub1, le_T, le_F, lt_T, lt_F, eq_F, w32_T, bz0, bz1, lc_le, lc_ge, lc_lt, lc_gt, lc_eq]
    · rw [if_neg w] at b
      obtain ⟨ts, tl⟩ := f4 (by omega)
      obtain ⟨g, gr, X1, X2, X3, X4, X5, X6, -, -, e1, f1⟩ := D.nx d (e + 4)
      have pp := e1
      have bt := b
      refine .inl ⟨f, g, gr, by omega, by simpa using w, fun Q => ?_, fun Q => by rw [fl e, if_neg z], f1, _, by omega, X1, X5, X6⟩
      simp (implicitDefEqProofs := false) (disch := omega) only [sp119, n119_0, b119_1, b119_2, q119_1, q119_2, x_aload0, y_call28, y_call45, x_gc_2051, x_goto_2, x_iadd, x_iand, x_iconst, x_ifCond_le_1, x_ifCond_ne_1, x_iload1, x_iload2, x_ireturn, x_ishr, x_istore2, x_jsr, klp_0, klp_1, klp_2, klp_3, klp_9, KC_0, KC_1, KC_2, KC_3, KC_4, ne_eq, not_false_eq_true, not_true_eq_false, true_and, and_true, and_self, implies_true, eq_self, true_imp_iff, false_implies, Int.reduceEq, Int.reduceNe, Int.reduceMod, Int.reduceMul, Int.reduceAdd, Int.reduceSub, Int.reduceLT, Int.reduceLE, Nat.reduceAdd, Nat.reduceLeDiff, Nat.reduceLT, Nat.reduceSub, reduceIte, wds_n, wds_0, wds_1, wds_2, wds_3, or_true, true_or, or_false, false_or, or_self, false_and, and_false, d_pos, d_s1, d_s2, d_s3, d_s4, d_s5, d_s6, d_s7, d_s8, Classical.not_not, z258_0, fd, pp, bt, Int.sub_add_cancel, d_s9, d_s10, d_s11, d_s12, d_s13, d_s14, d_s15, d_s16, d_s17, d_s18, d_s19, d_s20, d_s21, d_s22, d_s23, d_s24, d_s25, d_s26, d_s27, d_s28, d_s29, d_s30, hs_ne, hcell, hcel1, le_sub1, le_T, le_F, lt_T, lt_F, eq_F, w32_T, bz0, bz1, lc_le, lc_ge, lc_lt, lc_gt, lc_eq]
set_option maxHeartbeats 4000000 in
/-- raise -/
theorem raise_pair {dep : Int} {B e e2 : Nat} (hB : 110 ≤ B) (he : B ≤ e + 13) (he2 : B ≤ e2 + 13) (hdp : 1 ≤ dep ∧ dep ≤ 12) (OB : BLKP bX tp t T S dep B) (D : GD bX tp t T S s h hr) (PR : PRA T S s h hr) (hd : hr 6603 12 = dep ∧ h 258 11 = 0) (w : tkK tp t s = 1 ∧ wdT tp t s = 491260572517) : ∃ h1 g gr, (∀ Q, Sp fz1 (e + 14) 28 [(3, 129), (0, 1)] h Q = Q 0 h1) ∧ (∀ Q, Sp fz1 (e + 14) 120 [(3, 258)] h1 Q = Q 0 g) ∧ (∀ Q, G fz1 (e2 + 15) 345 5 [(3, 6603), (9, 0)] [] hr Q = Q 0 gr) ∧ OUTA bX tp t T S s h hr g gr (dep - 1) := by
  have F := D.f
  have N := D.nb
  have S0 := D.sb
  have hT := D.2.1.1.1
  have hS := D.2.1.2.1
  have kT := kTC D.2.1.1.1
  have kS := kTR D.2.1.2.1
  unfold NBR at N
  unfold PRA at PR
  have jraise : ∀ (d : Nat) Q, Sp fz1 (d + 5) 327 [(3, 6603), (3, NV_3635)] hr Q = Q 1 hr := fun d Q => by rw [NV_3635_e, iw_raise D.1.2.2 D.1.1 D.2.2.1.2]; exact congrArg (fun x => Q x hr) (if_pos w)
  obtain ⟨g1, r1, X1, X1a, X1b, X1c, N1, M1, -, -, ec1, er1⟩ := D.nx (e + 6) (e2 + 12)
  obtain ⟨p1, hp1p⟩ : ∃ p, p = nxS tp t s := ⟨_, rfl⟩
  rw [← hp1p] at X1 X1a X1c
  have N1' := N1
  have M1' := M1
  unfold NC at N1'
  unfold NR at M1'
  have D1 := X1.2.1
  have Z1 := (GOM.rfl' D).trans X1
  have pq1 := X1.1
  have hp1 : g1 258 1 = T := D1.2.1.1.2
  have h91 : r1 6603 9 = S := D1.2.1.2.2
  have sb1 := D1.sb
  have lm1 := D1.lim
  rcases D1.f119 (m := 0) (by decide) (e + 4) (e2 + 8) with W2 | W2
  rotate_left
  · obtain ⟨f2, fr2, ft2, ec2, er2, B0, E00, F0, H0, b14, b15, -⟩ := W2
    have z19 := E00.2.1
    have E0 := E00.q
    have z2 : f2 = 0 := ft2.resolve_right (by simp)
    rw [if_pos z2] at er2
    have ec2z : ∀ Q, Sp fz1 (e + 13) 119 [(3, 258), (0, 0)] g1 Q = Q f2 (bdH g1) := ec2
    have wz : ∀ Q, Sp fz1 (e2 + 14) 332 [(3, 6603)] r1 Q = Q 0 (bdR r1) := fun Q => v332g (by have := D1.f; omega)
    have hp_0 := B0.1.2
    have h9_0 := E0.1.2
    have y0 := E0.2.2.2
    obtain ⟨k1, ⟨B1, F1⟩, x1⟩ := B0.e2 (p := 19) (x := f2)
    have hp_1 := B1.1.2
    have x2 : ∀ Q, Sp fz1 (e + 13) 58 [(3, 258), (0, 59)] k1 Q = Q 0 k1 := fun Q => b58 B1
    have x3 : ∀ Q, Sp fz1 (e2 + 14) 333 [(3, 6603), (0, 59)] (bdR r1) Q = Q 0 (bdR r1) := fun Q => E0.sg
    obtain ⟨m4, ⟨E4, H4, y4a, y4b, y4c⟩, x4⟩ := E0.cx (p := 26) (a := (-9)) (b := 0) (by omega)
    have h9_4 := E4.1.2
    have y4 := E4.2.2.2
    refine ⟨g1, k1, m4, ec1, fun Q => ?_, fun Q => ?_, .inr ⟨⟨_, B1, E4⟩, (Z1.2.2.1.2.trans (F0.trans F1)), (Z1.2.2.2.2.trans (H0.trans H4)), by omega, by omega, by omega⟩⟩
    · simp (implicitDefEqProofs := false) (disch := omega) only [sp120, b120_0, x_aload0, y_call119, y_call58, y_call93, x_iconst, x_return, klp_0, klp_1, klp_2, klp_3, klp_9, KC_0, KC_1, KC_2, KC_3, KC_4, ne_eq, not_false_eq_true, not_true_eq_false, true_and, and_true, and_self, implies_true, eq_self, true_imp_iff, false_implies, Int.reduceEq, Int.reduceNe, Int.reduceMod, Int.reduceMul, Int.reduceAdd, Int.reduceSub, Int.reduceLT, Int.reduceLE, Nat.reduceAdd, Nat.reduceLeDiff, Nat.reduceLT, Nat.reduceSub, reduceIte, wds_n, wds_0, wds_1, wds_2, wds_3, or_true, true_or, or_false, false_or, or_self, false_and, and_false, d_pos, d_s1, d_s2, d_s3, d_s4, d_s5, d_s6, d_s7, d_s8, Classical.not_not, TC_0 hT, TC_k hT, hp1, ec2z, hp_0, x1, hp_1, x2, d_s9, d_s10, d_s11, d_s12, d_s13, d_s14, d_s15, d_s16, d_s17, d_s18, d_s19, d_s20, d_s21, d_s22, d_s23, d_s24, d_s25, d_s26, d_s27, d_s28, d_s29, d_s30, hs_ne, hcell, hcel1, le_sub1, le_T, le_F, lt_T, lt_F, eq_F, w32_T, bz0, bz1, lc_le, lc_ge, lc_lt, lc_gt, lc_eq]
    · rw [q345_5]
      simp (implicitDefEqProofs := false) (disch := omega) only [n345_5, b345_6, b345_7, b345_13, q345_6, q345_7, q345_13, x_aload0, y_call321, y_call327, y_call332, y_call333, y_call347, y_call363, x_goto_13, x_goto_7, x_iconst, x_ifCond_eq_8, x_if_icmp_ne_6, x_iload1, x_istore1, x_jsr, x_pop0, x_pop3, x_return, klp_0, klp_1, klp_2, klp_3, klp_9, KC_0, KC_1, KC_2, KC_3, KC_4, ne_eq, not_false_eq_true, not_true_eq_false, true_and, and_true, and_self, implies_true, eq_self, true_imp_iff, false_implies, Int.reduceEq, Int.reduceNe, Int.reduceMod, Int.reduceMul, Int.reduceAdd, Int.reduceSub, Int.reduceLT, Int.reduceLE, Nat.reduceAdd, Nat.reduceLeDiff, Nat.reduceLT, Nat.reduceSub, reduceIte, wds_n, wds_0, wds_1, wds_2, wds_3, or_true, true_or, or_false, false_or, or_self, false_and, and_false, d_pos, d_s1, d_s2, d_s3, d_s4, d_s5, d_s6, d_s7, d_s8, Classical.not_not, TR_0 hS, TR_k hS, jraise, er1, h91, er2, wz, h9_0, x3, x4, h9_4, d_s9, d_s10, d_s11, d_s12, d_s13, d_s14, d_s15, d_s16, d_s17, d_s18, d_s19, d_s20, d_s21, d_s22, d_s23, d_s24, d_s25, d_s26, d_s27, d_s28, d_s29, d_s30, hs_ne, hcell, hcel1, le_sub1, le_T, le_F, lt_T, lt_F, eq_F, w32_T, bz0, bz1, lc_le, lc_ge, lc_lt, lc_gt, lc_eq]
  obtain ⟨f2, g2, r2, fr2, ft2, ec2, er2a, er2, p2, q2, X2, N2, M2⟩ := W2
  have N2' := N2
  have M2' := M2
  unfold NC at N2'
  unfold NR at M2'
  have ec2z : ∀ Q, Sp fz1 (e + 13) 119 [(3, 258), (0, 0)] g1 Q = Q f2 g2 := ec2
  have D2 := X2.2.1
  have Z2 := Z1.trans X2
  have pq2 := X2.1
  have hp2 : g2 258 1 = T := D2.2.1.1.2
  have h92 : r2 6603 9 = S := D2.2.1.2.2
  have sb2 := D2.sb
  have lm2 := D2.lim
  obtain ⟨X3, N3, C3⟩ := D2.em (x := 19) (by omega)
  have N3' := N3
  unfold NC at N3'
  obtain ⟨X4, N4, C4⟩ := X3.2.1.em (x := f2) (by omega)
  have N4' := N4
  unfold NC at N4'
  have sb3 := X3.2.1.sb
  have ec4 : ∀ Q, Sp fz1 (e + 13) 93 [(3, 258), (0, 19), (0, f2)] g2 Q = Q 0 (emH T (emH T g2 19) f2) := fun Q => q93 hT D2.2.1.1.2 (by omega)
  have HO4 := X3.2.1.hol (x := f2) (by omega)
  have XC4 := X3.trans X4
  generalize emH T (emH T g2 19) f2 = g4 at *
  generalize emH T g2 19 = g3 at *
  have D4 := XC4.2.1
  have Z4 := Z2.trans XC4
  have pq4 := XC4.1
  have hp4 : g4 258 1 = T := D4.2.1.1.2
  have h94 : r2 6603 9 = S := D4.2.1.2.2
  have sb4 := D4.sb
  have lm4 := D4.lim
  obtain ⟨g5, r5, ec5, er5, W5⟩ := D4.sign (c := 59) (by decide) (e + 4) (e2 + 11)
  rcases W5 with W5 | W5
  rotate_left
  · obtain ⟨-, B0, E00, F0, H0, b14, b15, -⟩ := W5
    have z19 := E00.2.1
    have E0 := E00.q
    have hp_0 := B0.1.2
    have h9_0 := E0.1.2
    have y0 := E0.2.2.2
    obtain ⟨m1, ⟨E1, H1, y1a, y1b, y1c⟩, x1⟩ := E0.cx (p := 26) (a := f2) (b := 0) (by omega)
    have h9_1 := E1.1.2
    have y1 := E1.2.2.2
    refine ⟨g1, g5, m1, ec1, fun Q => ?_, fun Q => ?_, .inr ⟨⟨_, B0, E1⟩, (Z4.2.2.1.2.trans F0), (Z4.2.2.2.2.trans (H0.trans H1)), by omega, by omega, by omega⟩⟩
    · simp (implicitDefEqProofs := false) (disch := omega) only [sp120, b120_0, x_aload0, y_call119, y_call58, y_call93, x_iconst, x_return, klp_0, klp_1, klp_2, klp_3, klp_9, KC_0, KC_1, KC_2, KC_3, KC_4, ne_eq, not_false_eq_true, not_true_eq_false, true_and, and_true, and_self, implies_true, eq_self, true_imp_iff, false_implies, Int.reduceEq, Int.reduceNe, Int.reduceMod, Int.reduceMul, Int.reduceAdd, Int.reduceSub, Int.reduceLT, Int.reduceLE, Nat.reduceAdd, Nat.reduceLeDiff, Nat.reduceLT, Nat.reduceSub, reduceIte, wds_n, wds_0, wds_1, wds_2, wds_3, or_true, true_or, or_false, false_or, or_self, false_and, and_false, d_pos, d_s1, d_s2, d_s3, d_s4, d_s5, d_s6, d_s7, d_s8, Classical.not_not, TC_0 hT, TC_k hT, hp1, ec2z, hp2, ec4, hp4, ec5, hp_0, d_s9, d_s10, d_s11, d_s12, d_s13, d_s14, d_s15, d_s16, d_s17, d_s18, d_s19, d_s20, d_s21, d_s22, d_s23, d_s24, d_s25, d_s26, d_s27, d_s28, d_s29, d_s30, hs_ne, hcell, hcel1, le_sub1, le_T, le_F, lt_T, lt_F, eq_F, w32_T, bz0, bz1, lc_le, lc_ge, lc_lt, lc_gt, lc_eq]
    · rw [q345_5]
      simp (implicitDefEqProofs := false) (disch := omega) only [n345_5, b345_6, b345_7, b345_13, q345_6, q345_7, q345_13, x_aload0, y_call321, y_call327, y_call332, y_call333, y_call347, y_call363, x_goto_13, x_goto_7, x_iconst, x_ifCond_eq_8, x_if_icmp_ne_6, x_iload1, x_istore1, x_jsr, x_pop0, x_pop3, x_return, klp_0, klp_1, klp_2, klp_3, klp_9, KC_0, KC_1, KC_2, KC_3, KC_4, ne_eq, not_false_eq_true, not_true_eq_false, true_and, and_true, and_self, implies_true, eq_self, true_imp_iff, false_implies, Int.reduceEq, Int.reduceNe, Int.reduceMod, Int.reduceMul, Int.reduceAdd, Int.reduceSub, Int.reduceLT, Int.reduceLE, Nat.reduceAdd, Nat.reduceLeDiff, Nat.reduceLT, Nat.reduceSub, reduceIte, wds_n, wds_0, wds_1, wds_2, wds_3, or_true, true_or, or_false, false_or, or_self, false_and, and_false, d_pos, d_s1, d_s2, d_s3, d_s4, d_s5, d_s6, d_s7, d_s8, Classical.not_not, TR_0 hS, TR_k hS, jraise, er1, h91, er2a, er2, h92, h94, er5, h9_0, x1, h9_1, d_s9, d_s10, d_s11, d_s12, d_s13, d_s14, d_s15, d_s16, d_s17, d_s18, d_s19, d_s20, d_s21, d_s22, d_s23, d_s24, d_s25, d_s26, d_s27, d_s28, d_s29, d_s30, hs_ne, hcell, hcel1, le_sub1, le_T, le_F, lt_T, lt_F, eq_F, w32_T, bz0, bz1, lc_le, lc_ge, lc_lt, lc_gt, lc_eq]
  obtain ⟨-, p5, q5, X5, N5, M5⟩ := W5
  have N5' := N5
  have M5' := M5
  unfold NC at N5'
  unfold NR at M5'
  have D5 := X5.2.1
  have Z5 := Z4.trans X5
  have pq5 := X5.1
  have hp5 : g5 258 1 = T := D5.2.1.1.2
  have h95 : r5 6603 9 = S := D5.2.1.2.2
  have sb5 := D5.sb
  have lm5 := D5.lim
  obtain ⟨X6, M6, R6⟩ := D5.cd (p := 26) (a := f2) (b := 0) (by omega) (fun w => absurd w (by decide))
  have er6 : ∀ Q, Sp fz1 (e2 + 14) 347 [(3, 6603), (0, 26), (0, f2), (0, 0)] r5 Q = Q (r5 S 15) (cdR S r5 26 f2 0) := fun Q => v347 D5.2.1.2.1 D5.2.1.2.2 (by omega)
  generalize cdR S r5 26 f2 0 = r6 at X6 M6 R6 er6
  have M6' := M6
  unfold NR at M6'
  have D6 := X6.2.1
  have Z6 := Z5.trans X6
  have pq6 := X6.1
  have hp6 : g5 258 1 = T := D6.2.1.1.2
  have h96 : r6 6603 9 = S := D6.2.1.2.2
  have sb6 := D6.sb
  have lm6 := D6.lim
  refine ⟨g1, g5, r6, ec1, fun Q => ?_, fun Q => ?_, .inl ⟨p5, Z6, (NVR.same (by omega)), by unfold DXB; omega, fun K V CL A s1 s2 => ?_⟩⟩
  · simp (implicitDefEqProofs := false) (disch := omega) only [sp120, b120_0, x_aload0, y_call119, y_call58, y_call93, x_iconst, x_return, klp_0, klp_1, klp_2, klp_3, klp_9, KC_0, KC_1, KC_2, KC_3, KC_4, ne_eq, not_false_eq_true, not_true_eq_false, true_and, and_true, and_self, implies_true, eq_self, true_imp_iff, false_implies, Int.reduceEq, Int.reduceNe, Int.reduceMod, Int.reduceMul, Int.reduceAdd, Int.reduceSub, Int.reduceLT, Int.reduceLE, Nat.reduceAdd, Nat.reduceLeDiff, Nat.reduceLT, Nat.reduceSub, reduceIte, wds_n, wds_0, wds_1, wds_2, wds_3, or_true, true_or, or_false, false_or, or_self, false_and, and_false, d_pos, d_s1, d_s2, d_s3, d_s4, d_s5, d_s6, d_s7, d_s8, Classical.not_not, TC_0 hT, TC_k hT, hp1, ec2z, hp2, ec4, hp4, ec5, hp5, hp6, d_s9, d_s10, d_s11, d_s12, d_s13, d_s14, d_s15, d_s16, d_s17, d_s18, d_s19, d_s20, d_s21, d_s22, d_s23, d_s24, d_s25, d_s26, d_s27, d_s28, d_s29, d_s30, hs_ne, hcell, hcel1, le_sub1, le_T, le_F, lt_T, lt_F, eq_F, w32_T, bz0, bz1, lc_le, lc_ge, lc_lt, lc_gt, lc_eq]
  · rw [q345_5]
    simp (implicitDefEqProofs := false) (disch := omega) only [n345_5, b345_6, b345_7, b345_13, q345_6, q345_7, q345_13, x_aload0, y_call321, y_call327, y_call332, y_call333, y_call347, y_call363, x_goto_13, x_goto_7, x_iconst, x_ifCond_eq_8, x_if_icmp_ne_6, x_iload1, x_istore1, x_jsr, x_pop0, x_pop3, x_return, klp_0, klp_1, klp_2, klp_3, klp_9, KC_0, KC_1, KC_2, KC_3, KC_4, ne_eq, not_false_eq_true, not_true_eq_false, true_and, and_true, and_self, implies_true, eq_self, true_imp_iff, false_implies, Int.reduceEq, Int.reduceNe, Int.reduceMod, Int.reduceMul, Int.reduceAdd, Int.reduceSub, Int.reduceLT, Int.reduceLE, Nat.reduceAdd, Nat.reduceLeDiff, Nat.reduceLT, Nat.reduceSub, reduceIte, wds_n, wds_0, wds_1, wds_2, wds_3, or_true, true_or, or_false, false_or, or_self, false_and, and_false, d_pos, d_s1, d_s2, d_s3, d_s4, d_s5, d_s6, d_s7, d_s8, Classical.not_not, TR_0 hS, TR_k hS, jraise, er1, h91, er2a, er2, h92, h94, er5, h95, er6, h96, d_s9, d_s10, d_s11, d_s12, d_s13, d_s14, d_s15, d_s16, d_s17, d_s18, d_s19, d_s20, d_s21, d_s22, d_s23, d_s24, d_s25, d_s26, d_s27, d_s28, d_s29, d_s30, hs_ne, hcell, hcel1, le_sub1, le_T, le_F, lt_T, lt_F, eq_F, w32_T, bz0, bz1, lc_le, lc_ge, lc_lt, lc_gt, lc_eq]
  · have u1 := A.cel (by omega) (CEL.ec (c := 0) (CEL.ec (c := 0) C3 X4.2.2.1.1 (by omega)) X5.2.2.1.1 (by omega))
    have u2 := A.cel (by omega) (CEL.ec (c := 0) C4 X5.2.2.1.1 (by omega))
    have v1 := A.rco (by omega) R6
    have R := a_RAISE (K := K) (V := V) (CL := CL) (c0 := h T 17 - 1) (r0 := hr S 15 - 1) (c2 := g5 T 17) (r2 := r6 S 15) (f := hr S 21) (t := hr S 22) (dp := dep - 1) (by omega) (by omega) (by omega) s1 s2 (by rw [show h T 17 - 1 + 1 = g2 T 17 by omega]; exact u1) (by rw [show hr S 15 - 1 + 1 = r5 S 15 by omega]; exact v1.1) (by rw [show hr S 15 - 1 + 1 = r5 S 15 by omega, show h T 17 - 1 + 2 = g3 T 17 by omega, u2]; exact v1.2.1 (by decide) (by decide) (by decide)) (by rw [show h T 17 - 1 + 2 = g3 T 17 by omega, u2]; exact fr2)
    exact R
/-- a try's number, and its places -/
def t0H (S : Int) (h : HV) : HV := hset (hset (hset (hset (hset (hset (hset (hset (hset (hset h S 22 (h S 22 + 1)) (S + 1236) (8 * h S 22 + 0) (-9)) (S + 1236) (8 * h S 22 + 1) (-9)) (S + 1236) (8 * h S 22 + 2) (-9)) (S + 1236) (8 * h S 22 + 3) (-9)) (S + 1236) (8 * h S 22 + 4) (-9)) (S + 1236) (8 * h S 22 + 5) (-9)) (S + 1236) (8 * h S 22 + 6) (-9)) (S + 1236) (8 * h S 22 + 7) (-9)) (S + 1300) (h S 22) (-9)
set_option maxHeartbeats 4000000 in
theorem t0_f {h : HV} (hS : TR S) : (∀ o, o ≠ S → o ≠ S + 1236 → o ≠ S + 1300 → t0H S h o = h o) ∧ (∀ i, i ≠ 22 → t0H S h S i = h S i) ∧ t0H S h S 22 = h S 22 + 1 ∧ (∀ i, t0H S h (S + 1236) i = if 8 * h S 22 ≤ i ∧ i < 8 * h S 22 + 8 then -9 else h (S + 1236) i) ∧ ∀ i, t0H S h (S + 1300) i = if i = h S 22 then -9 else h (S + 1300) i := by
  have kS := kTR hS
  unfold t0H
  refine ⟨fun o a b c => ?_, fun i a => ?_, ?_, fun i => ?_, fun i => ?_⟩
  · rw [hs_ne c, hs_ne b, hs_ne b, hs_ne b, hs_ne b, hs_ne b, hs_ne b, hs_ne b, hs_ne b, hs_ne a]
  · rw [hs_ne (by omega), hs_ne (by omega), hs_ne (by omega), hs_ne (by omega), hs_ne (by omega), hs_ne (by omega), hs_ne (by omega), hs_ne (by omega), hs_ne (by omega), hcell a]
  · rw [hs_ne (by omega), hs_ne (by omega), hs_ne (by omega), hs_ne (by omega), hs_ne (by omega), hs_ne (by omega), hs_ne (by omega), hs_ne (by omega), hs_ne (by omega), hcel1]
  · rw [hs_ne (by omega)]
    simp (implicitDefEqProofs := false) only [hset_v, eq_self, true_and]
    repeat' split
    all_goals first
      | rfl
      | (exfalso; omega)
  · rw [hset_v]
    by_cases w : i = h S 22
    · rw [if_pos ⟨rfl, w⟩, if_pos w]
    · rw [if_neg (fun u => w u.2), if_neg w, hs_ne (by omega), hs_ne (by omega), hs_ne (by omega), hs_ne (by omega), hs_ne (by omega), hs_ne (by omega), hs_ne (by omega), hs_ne (by omega), hs_ne (by omega)]
set_option maxHeartbeats 4000000 in
theorem GD.t0 (D : GD bX tp t T S s h hr) (l : hr S 22 + 1 ≤ h T 15) : GOM bX tp t T S s h hr s h (t0H S hr) ∧ NR S hr (t0H S hr) 0 0 0 1 0 0 0 := by
  have D0 := D
  obtain ⟨⟨K, k1, k2⟩, ⟨⟨d1, d2⟩, d3, d4⟩, ⟨s1, s3⟩, N, M, L, R⟩ := D
  have kS := kTR d3
  obtain ⟨fo, fi, f22, fn, fa⟩ := t0_f (h := hr) d3
  have e3 := fo 6603 (by omega) (by omega) (by omega)
  have N0 := N
  unfold NBR at N0
  refine ⟨⟨Int.le_refl _, D0.ref (D0.2.ref (by rw [e3]) (fun o w => fo o (by omega) (by omega) (by omega)) ?_ (M.fr rfl rfl rfl (by rw [e3]) (fo _ (by omega) (by omega) (by omega)) (by rw [e3]) (fo _ (by omega) (by omega) (by omega)) (fo _ (by omega) (by omega) (by omega))) (L.fr rfl rfl rfl rfl (Int.le_refl _) PRE.rfl' (fo _ (by omega) (by omega) (by omega)) (fo _ (by omega) (by omega) (by omega)) (fo _ (by omega) (by omega) (by omega)) (fo _ (by omega) (by omega) (by omega)) (by rw [fi 15 (by decide)]; exact Int.le_refl _)) (R.fr (fi 15 (by decide)) (fo _ (by omega) (by omega) (by omega)) (fo _ (by omega) (by omega) (by omega)) (by omega) ⟨by rw [e3], by rw [e3]⟩ ⟨fo _ (by omega) (by omega) (by omega), fo _ (by omega) (by omega) (by omega), fo _ (by omega) (by omega) (by omega), fo _ (by omega) (by omega) (by omega)⟩)) (fun i _ _ => by rw [e3]) (fo _ (by omega) (by omega) (by omega)), ⟨ECP.rfl', FXC.rfl'⟩, ?_, fun o _ _ _ _ _ _ _ _ _ a _ _ _ _ b c => fo o a b c, fun i _ _ _ _ a => fi i a, fun i _ _ _ _ _ _ _ _ _ _ _ => by rw [e3]⟩, ?_⟩
  · unfold NBR STQ at *
    rw [f22, e3, fi 14 (by decide), fi 15 (by decide), fi 20 (by decide), fi 21 (by decide), fo (S + 84) (by omega) (by omega) (by omega)]
    omega
  · unfold ERP
    rw [f22, e3, fi 15 (by decide), fi 20 (by decide), fi 21 (by decide), fo (S + 980) (by omega) (by omega) (by omega), fo (S + 1044) (by omega) (by omega) (by omega), fo (S + 1108) (by omega) (by omega) (by omega), fo (S + 1174) (by omega) (by omega) (by omega), fo 9505 (by omega) (by omega) (by omega), fo 9569 (by omega) (by omega) (by omega), fo 9632 (by omega) (by omega) (by omega), fo 9696 (by omega) (by omega) (by omega), fo 9761 (by omega) (by omega) (by omega), fo 9824 (by omega) (by omega) (by omega), fo 9888 (by omega) (by omega) (by omega), fo 9952 (by omega) (by omega) (by omega)]
    have z := ERP.rfl' (S := S) (r := 0) (t := 0) (h := hr)
    unfold ERP at z
    obtain ⟨z1, z2, z3, z4, z5, z6, z7⟩ := z
    exact ⟨z1, z2, z3, z4, z5, z6, by omega, fun i _ _ w => by rw [fn, if_neg (by omega)], fun i _ _ w => by rw [fa, if_neg (by omega)]⟩
  · unfold NR
    rw [f22, e3, fi 15 (by decide), fi 20 (by decide), fi 21 (by decide), fo (S + 84) (by omega) (by omega) (by omega)]
    omega
set_option maxHeartbeats 4000000 in
/-- where a try's failures lead to, told -/
theorem GOM.on {i v : Int} {a : Int} (Z : GOM bX tp t T S s h hr s1 g gr) (ha : a = S + 1236 ∧ 8 * hr S 22 ≤ i ∨ a = S + 1300 ∧ hr S 22 ≤ i) : GOM bX tp t T S s h hr s1 g (hset gr a i v) ∧ NR S gr (hset gr a i v) 0 0 0 0 0 0 0 := by
  obtain ⟨z1, D, z2, z3, z4⟩ := Z
  have hS := D.2.1.2.1
  have kS := kTR hS
  have fo : ∀ o, o ≠ a → hset gr a i v o = gr o := fun o w => hs_ne w
  have eS := fo S (by omega)
  have e3 := fo 6603 (by omega)
  have F : FXR S gr (hset gr a i v) := ⟨fun o _ _ _ _ _ _ _ _ _ _ _ _ _ _ b c => fo o (by omega), fun i _ _ _ _ _ => by rw [eS], fun i _ _ _ _ _ _ _ _ _ _ _ => by rw [e3]⟩
  have D0 := D
  obtain ⟨K, -, -, N, M, L, R⟩ := D
  refine ⟨⟨z1, D0.ref (D0.2.ref (by rw [e3]) (fun o w => fo o (by omega)) ?_ (M.fr rfl rfl rfl (by rw [e3]) (fo _ (by omega)) (by rw [e3]) (fo _ (by omega)) (fo _ (by omega))) (L.fr rfl rfl rfl rfl (Int.le_refl _) PRE.rfl' (fo _ (by omega)) (fo _ (by omega)) (fo _ (by omega)) (fo _ (by omega)) (by rw [eS]; exact Int.le_refl _)) (R.fr (by rw [eS]) (fo _ (by omega)) (fo _ (by omega)) (by rw [eS]; exact Int.le_refl _) ⟨by rw [e3], by rw [e3]⟩ ⟨fo _ (by omega), fo _ (by omega), fo _ (by omega), fo _ (by omega)⟩)) (fun i _ _ => by rw [e3]) (fo _ (by omega)), z2, ?_, z4.trans F⟩, ?_⟩
  · unfold NBR STQ at *
    rw [eS, e3, fo (S + 84) (by omega)]
    exact N
  · unfold ERP at *
    rw [eS, e3, fo (S + 980) (by omega), fo (S + 1044) (by omega), fo (S + 1108) (by omega), fo (S + 1174) (by omega), fo 9505 (by omega), fo 9569 (by omega), fo 9632 (by omega), fo 9696 (by omega), fo 9761 (by omega), fo 9824 (by omega), fo 9888 (by omega), fo 9952 (by omega)]
    obtain ⟨y1, y2, y3, y4, y5, y6, y7, y8, y9⟩ := z3
    refine ⟨y1, y2, y3, y4, y5, y6, y7, fun j b c x => ?_, fun j b c x => ?_⟩
    · rw [← y8 j b c x]
      rcases ha with ⟨w1, w2⟩ | ⟨w1, w2⟩
      · rw [w1, hcell (by omega)]
      · rw [fo _ (by omega)]
    · rw [← y9 j b c x]
      rcases ha with ⟨w1, w2⟩ | ⟨w1, w2⟩
      · rw [fo _ (by omega)]
      · rw [w1, hcell (by omega)]
  · unfold NR
    rw [eS, e3, fo (S + 84) (by omega)]
    omega
set_option maxHeartbeats 4000000 in
theorem ERP.on1 {i v a r t2 : Int} (hS : TR S) (ha : a = S + 1236 ∧ i < 8 * t2 ∨ a = S + 1300 ∧ i < t2) : ERP S r t2 g (hset g a i v) := by
  have kS := kTR hS
  have fo : ∀ o, o ≠ a → hset g a i v o = g o := fun o w => hs_ne w
  unfold ERP
  rw [fo S (by omega), fo 6603 (by omega), fo (S + 980) (by omega), fo (S + 1044) (by omega), fo (S + 1108) (by omega), fo (S + 1174) (by omega), fo 9505 (by omega), fo 9569 (by omega), fo 9632 (by omega), fo 9696 (by omega), fo 9761 (by omega), fo 9824 (by omega), fo 9888 (by omega), fo 9952 (by omega)]
  have z := ERP.rfl' (S := S) (r := r) (t := t2) (h := g)
  unfold ERP at z
  obtain ⟨y1, y2, y3, y4, y5, y6, y7, y8, y9⟩ := z
  refine ⟨y1, y2, y3, y4, y5, y6, y7, fun j b c x => ?_, fun j b c x => ?_⟩
  · rcases ha with ⟨w1, w2⟩ | ⟨w1, w2⟩
    · rw [w1, hcell (by omega)]
    · rw [fo _ (by omega)]
  · rcases ha with ⟨w1, w2⟩ | ⟨w1, w2⟩
    · rw [fo _ (by omega)]
    · rw [w1, hcell (by omega)]
/-- where a try is left to, told at its end for all that leaves it -/
def ptG (S : Int) (r : HV) (tn n : Int) : HV := fun o i => if o = S + 1108 ∧ (0 ≤ i ∧ i < n) ∧ r (S + 980) i = 24 ∧ r (S + 1044) i = tn then r S 15 else r o i
set_option maxHeartbeats 4000000 in
theorem pt_ne {r : HV} {tn n o : Int} (w : o ≠ S + 1108) : ptG S r tn n o = r o := by
  funext i
  exact if_neg (fun u => w u.1)
set_option maxHeartbeats 4000000 in
theorem pt_0 {r : HV} {tn : Int} : ptG S r tn 0 = r := by
  funext o i
  exact if_neg (fun u => by omega)
set_option maxHeartbeats 4000000 in
theorem pt_s {r : HV} {tn n : Int} (hn : 0 ≤ n) (a : r (S + 980) n = 24) (b : r (S + 1044) n = tn) : hset (ptG S r tn n) (S + 1108) n (r S 15) = ptG S r tn (n + 1) := by
  funext o i
  rw [hset_v]
  unfold ptG
  by_cases w : o = S + 1108 ∧ i = n
  · rw [if_pos w, if_pos ⟨w.1, by omega, by rw [w.2]; exact a, by rw [w.2]; exact b⟩]
  · rw [if_neg w]
    by_cases u : o = S + 1108 ∧ (0 ≤ i ∧ i < n) ∧ r (S + 980) i = 24 ∧ r (S + 1044) i = tn
    · rw [if_pos u, if_pos ⟨u.1, by omega, u.2.2⟩]
    · rw [if_neg u, if_neg (fun v => u ⟨v.1, by have : i ≠ n := fun q => w ⟨v.1, q⟩; omega, v.2.2⟩)]
set_option maxHeartbeats 4000000 in
theorem pt_k {r : HV} {tn n : Int} (a : ¬ (r (S + 980) n = 24 ∧ r (S + 1044) n = tn)) : ptG S r tn (n + 1) = ptG S r tn n := by
  funext o i
  unfold ptG
  by_cases u : o = S + 1108 ∧ (0 ≤ i ∧ i < n) ∧ r (S + 980) i = 24 ∧ r (S + 1044) i = tn
  · rw [if_pos u, if_pos ⟨u.1, by omega, u.2.2⟩]
  · rw [if_neg u, if_neg (fun v => u ⟨v.1, by have : i ≠ n := fun q => a (by rw [← q]; exact v.2.2); omega, v.2.2⟩)]
set_option maxHeartbeats 4000000 in
theorem lp362 {r : HV} {tn : Int} {e2 : Nat} (hS : TR S) (h9 : r 6603 9 = S) (hz : 0 ≤ r S 15 ∧ r S 15 < 6000) : ∀ (m : Nat) (n : Int), 0 ≤ n → n + m = r S 15 → G fz1 (e2 + 14) 362 9 [(3, 6603), (0, tn), (0, n)] [] (ptG S r tn n) Q = Q 0 (ptG S r tn (r S 15))
  | 0, n, h0, hn => by
    have kS := kTR hS
    have e : n = r S 15 := by omega
    subst e
    have p9 : ∀ n, ptG S r tn n 6603 = r 6603 := fun n => pt_ne (by omega)
    have pS : ∀ n, ptG S r tn n S = r S := fun n => pt_ne (by omega)
    rw [q362_9]
    simp (implicitDefEqProofs := false) (disch := omega) only [b362_9, b362_10, b362_11, q362_10, q362_11, x_aload0, x_gc_12419, x_gc_12427, x_gc_12435, x_gf_11339, x_gf_12408, x_goto_10, x_goto_9, x_iaload, x_iastore, x_iconst, x_if_icmp_ge_11, x_if_icmp_ne_10, x_iinc2, x_iload1, x_iload2, x_return, klp_0, klp_1, klp_2, klp_3, klp_9, KC_0, KC_1, KC_2, KC_3, KC_4, ne_eq, not_false_eq_true, not_true_eq_false, true_and, and_true, and_self, implies_true, eq_self, true_imp_iff, false_implies, Int.reduceEq, Int.reduceNe, Int.reduceMod, Int.reduceMul, Int.reduceAdd, Int.reduceSub, Int.reduceLT, Int.reduceLE, Nat.reduceAdd, Nat.reduceLeDiff, Nat.reduceLT, Nat.reduceSub, reduceIte, wds_n, wds_0, wds_1, wds_2, wds_3, or_true, true_or, or_false, false_or, or_self, false_and, and_false, d_pos, d_s1, d_s2, d_s3, d_s4, d_s5, d_s6, d_s7, d_s8, Classical.not_not, r16 hS, r16l hS, r16k hS, r17 hS, r17l hS, r17k hS, r18 hS, r18l hS, r18k hS, r23 hS, r23l hS, r23k hS, r24 hS, r24l hS, r24k hS, TR_0 hS, TR_k hS, p9, pS, h9, d_s9, d_s10, d_s11, d_s12, d_s13, d_s14, d_s15, d_s16, d_s17, d_s18, d_s19, d_s20, d_s21, d_s22, d_s23, d_s24, d_s25, d_s26, d_s27, d_s28, d_s29, d_s30, hs_ne, hcell, hcel1, le_sub1, le_T, le_F, lt_T, lt_F, eq_F, w32_T, bz0, bz1, lc_le, lc_ge, lc_lt, lc_gt, lc_eq]
  | m + 1, n, h0, hn => by
    have kS := kTR hS
    have p9 : ∀ n, ptG S r tn n 6603 = r 6603 := fun n => pt_ne (by omega)
    have pS : ∀ n, ptG S r tn n S = r S := fun n => pt_ne (by omega)
    have p1 : ∀ n, ptG S r tn n (S + 980) = r (S + 980) := fun n => pt_ne (by omega)
    have p2 : ∀ n, ptG S r tn n (S + 1044) = r (S + 1044) := fun n => pt_ne (by omega)
    have i : G fz1 (e2 + 14) 362 9 [(3, 6603), (0, tn), (0, n + 1)] [] (ptG S r tn (n + 1)) Q = Q 0 (ptG S r tn (r S 15)) := lp362 hS h9 hz m (n + 1) (by omega) (by omega)
    by_cases a1 : r (S + 980) n = 24
    · by_cases a2 : r (S + 1044) n = tn
      · have st := pt_s h0 a1 a2
        rw [q362_9]
        simp (implicitDefEqProofs := false) (disch := omega) only [b362_9, b362_10, b362_11, q362_10, q362_11, x_aload0, x_gc_12419, x_gc_12427, x_gc_12435, x_gf_11339, x_gf_12408, x_goto_10, x_goto_9, x_iaload, x_iastore, x_iconst, x_if_icmp_ge_11, x_if_icmp_ne_10, x_iinc2, x_iload1, x_iload2, x_return, klp_0, klp_1, klp_2, klp_3, klp_9, KC_0, KC_1, KC_2, KC_3, KC_4, ne_eq, not_false_eq_true, not_true_eq_false, true_and, and_true, and_self, implies_true, eq_self, true_imp_iff, false_implies, Int.reduceEq, Int.reduceNe, Int.reduceMod, Int.reduceMul, Int.reduceAdd, Int.reduceSub, Int.reduceLT, Int.reduceLE, Nat.reduceAdd, Nat.reduceLeDiff, Nat.reduceLT, Nat.reduceSub, reduceIte, wds_n, wds_0, wds_1, wds_2, wds_3, or_true, true_or, or_false, false_or, or_self, false_and, and_false, d_pos, d_s1, d_s2, d_s3, d_s4, d_s5, d_s6, d_s7, d_s8, Classical.not_not, r16 hS, r16l hS, r16k hS, r17 hS, r17l hS, r17k hS, r18 hS, r18l hS, r18k hS, r23 hS, r23l hS, r23k hS, r24 hS, r24l hS, r24k hS, TR_0 hS, TR_k hS, p9, pS, h9, p1, p2, a1, a2, st, i, d_s9, d_s10, d_s11, d_s12, d_s13, d_s14, d_s15, d_s16, d_s17, d_s18, d_s19, d_s20, d_s21, d_s22, d_s23, d_s24, d_s25, d_s26, d_s27, d_s28, d_s29, d_s30, hs_ne, hcell, hcel1, le_sub1, le_T, le_F, lt_T, lt_F, eq_F, w32_T, bz0, bz1, lc_le, lc_ge, lc_lt, lc_gt, lc_eq]
      · rw [pt_k (fun u => a2 u.2)] at i
        rw [q362_9]
        simp (implicitDefEqProofs := false) (disch := omega) only [b362_9, b362_10, b362_11, q362_10, q362_11, x_aload0, x_gc_12419, x_gc_12427, x_gc_12435, x_gf_11339, x_gf_12408, x_goto_10, x_goto_9, x_iaload, x_iastore, x_iconst, x_if_icmp_ge_11, x_if_icmp_ne_10, x_iinc2, x_iload1, x_iload2, x_return, klp_0, klp_1, klp_2, klp_3, klp_9, KC_0, KC_1, KC_2, KC_3, KC_4, ne_eq, not_false_eq_true, not_true_eq_false, true_and, and_true, and_self, implies_true, eq_self, true_imp_iff, false_implies, Int.reduceEq, Int.reduceNe, Int.reduceMod, Int.reduceMul, Int.reduceAdd, Int.reduceSub, Int.reduceLT, Int.reduceLE, Nat.reduceAdd, Nat.reduceLeDiff, Nat.reduceLT, Nat.reduceSub, reduceIte, wds_n, wds_0, wds_1, wds_2, wds_3, or_true, true_or, or_false, false_or, or_self, false_and, and_false, d_pos, d_s1, d_s2, d_s3, d_s4, d_s5, d_s6, d_s7, d_s8, Classical.not_not, r16 hS, r16l hS, r16k hS, r17 hS, r17l hS, r17k hS, r18 hS, r18l hS, r18k hS, r23 hS, r23l hS, r23k hS, r24 hS, r24l hS, r24k hS, TR_0 hS, TR_k hS, p9, pS, h9, p1, p2, a1, a2, i, d_s9, d_s10, d_s11, d_s12, d_s13, d_s14, d_s15, d_s16, d_s17, d_s18, d_s19, d_s20, d_s21, d_s22, d_s23, d_s24, d_s25, d_s26, d_s27, d_s28, d_s29, d_s30, hs_ne, hcell, hcel1, le_sub1, le_T, le_F, lt_T, lt_F, eq_F, w32_T, bz0, bz1, lc_le, lc_ge, lc_lt, lc_gt, lc_eq]
    · rw [pt_k (fun u => a1 u.1)] at i
      rw [q362_9]
      simp (implicitDefEqProofs := false) (disch := omega) only [b362_9, b362_10, b362_11, q362_10, q362_11, x_aload0, x_gc_12419, x_gc_12427, x_gc_12435, x_gf_11339, x_gf_12408, x_goto_10, x_goto_9, x_iaload, x_iastore, x_iconst, x_if_icmp_ge_11, x_if_icmp_ne_10, x_iinc2, x_iload1, x_iload2, x_return, klp_0, klp_1, klp_2, klp_3, klp_9, KC_0, KC_1, KC_2, KC_3, KC_4, ne_eq, not_false_eq_true, not_true_eq_false, true_and, and_true, and_self, implies_true, eq_self, true_imp_iff, false_implies, Int.reduceEq, Int.reduceNe, Int.reduceMod, Int.reduceMul, Int.reduceAdd, Int.reduceSub, Int.reduceLT, Int.reduceLE, Nat.reduceAdd, Nat.reduceLeDiff, Nat.reduceLT, Nat.reduceSub, reduceIte, wds_n, wds_0, wds_1, wds_2, wds_3, or_true, true_or, or_false, false_or, or_self, false_and, and_false, d_pos, d_s1, d_s2, d_s3, d_s4, d_s5, d_s6, d_s7, d_s8, Classical.not_not, r16 hS, r16l hS, r16k hS, r17 hS, r17l hS, r17k hS, r18 hS, r18l hS, r18k hS, r23 hS, r23l hS, r23k hS, r24 hS, r24l hS, r24k hS, TR_0 hS, TR_k hS, p9, pS, h9, p1, p2, a1, i, d_s9, d_s10, d_s11, d_s12, d_s13, d_s14, d_s15, d_s16, d_s17, d_s18, d_s19, d_s20, d_s21, d_s22, d_s23, d_s24, d_s25, d_s26, d_s27, d_s28, d_s29, d_s30, hs_ne, hcell, hcel1, le_sub1, le_T, le_F, lt_T, lt_F, eq_F, w32_T, bz0, bz1, lc_le, lc_ge, lc_lt, lc_gt, lc_eq]
set_option maxHeartbeats 4000000 in
theorem BDQ.pt {tn n : Int} (B : BDQ S f hr) : KPR S f hr (ptG S hr tn n) 0 := by
  have kS := kTR B.1.1
  have eS : ptG S hr tn n S = hr S := pt_ne (by omega)
  have e3 : ptG S hr tn n 6603 = hr 6603 := pt_ne (by omega)
  have F : FXR S hr (ptG S hr tn n) := ⟨fun o _ _ _ _ _ _ _ _ _ _ _ _ a _ _ _ => pt_ne a, fun i _ _ _ _ _ => by rw [eS], fun i _ _ _ _ _ _ _ _ _ _ _ => by rw [e3]⟩
  exact ⟨B.fr F (by rw [e3]) (by rw [eS]) (by rw [eS]; exact B.2.2.2.2), F, by rw [eS], by rw [eS]; omega, by rw [e3]⟩
set_option maxHeartbeats 4000000 in
theorem GOM.pt {tn n : Int} (Z : GOM bX tp t T S s h hr s1 g gr) (R0 : TRI S hr) (ht : hr S 22 ≤ tn) : GOM bX tp t T S s h hr s1 g (ptG S gr tn n) ∧ NR S gr (ptG S gr tn n) 0 0 0 0 0 0 0 := by
  obtain ⟨z1, D, z2, z3, z4⟩ := Z
  have hS := D.2.1.2.1
  have kS := kTR hS
  have fo : ∀ o, o ≠ S + 1108 → ptG S gr tn n o = gr o := fun o w => pt_ne w
  have eS := fo S (by omega)
  have e3 := fo 6603 (by omega)
  have F : FXR S gr (ptG S gr tn n) := ⟨fun o _ _ _ _ _ _ _ _ _ _ _ _ a _ _ _ => fo o a, fun i _ _ _ _ _ => by rw [eS], fun i _ _ _ _ _ _ _ _ _ _ _ => by rw [e3]⟩
  have D0 := D
  obtain ⟨K, -, -, N, M, L, R⟩ := D
  refine ⟨⟨z1, D0.ref (D0.2.ref (by rw [e3]) (fun o w => fo o (by omega)) ?_ (M.fr rfl rfl rfl (by rw [e3]) (fo _ (by omega)) (by rw [e3]) (fo _ (by omega)) (fo _ (by omega))) (L.fr rfl rfl rfl rfl (Int.le_refl _) PRE.rfl' (fo _ (by omega)) (fo _ (by omega)) (fo _ (by omega)) (fo _ (by omega)) (by rw [eS]; exact Int.le_refl _)) (R.fr (by rw [eS]) (fo _ (by omega)) (fo _ (by omega)) (by rw [eS]; exact Int.le_refl _) ⟨by rw [e3], by rw [e3]⟩ ⟨fo _ (by omega), fo _ (by omega), fo _ (by omega), fo _ (by omega)⟩)) (fun i _ _ => by rw [e3]) (fo _ (by omega)), z2, ?_, z4.trans F⟩, ?_⟩
  · unfold NBR STQ at *
    rw [eS, e3, fo (S + 84) (by omega)]
    exact N
  · unfold ERP at *
    rw [eS, e3, fo (S + 980) (by omega), fo (S + 1044) (by omega), fo (S + 1236) (by omega), fo (S + 1300) (by omega), fo (S + 1174) (by omega), fo 9505 (by omega), fo 9569 (by omega), fo 9632 (by omega), fo 9696 (by omega), fo 9761 (by omega), fo 9824 (by omega), fo 9888 (by omega), fo 9952 (by omega)]
    obtain ⟨⟨y1, y2, y3, y4⟩, y5⟩ := z3
    refine ⟨⟨y1, y2, y3, fun i a b c => ?_⟩, y5⟩
    rw [← y4 i a b c]
    unfold ptG
    refine if_neg (fun u => ?_)
    have u1 := y2 i a b c
    have u2 := y3 i a b c
    have u3 := R0.1 i b c (by rw [← u1]; exact u.2.2.1)
    have u4 := u.2.2.2
    rw [u2] at u4
    omega
  · unfold NR
    rw [eS, e3, fo (S + 84) (by omega)]
    omega
set_option maxHeartbeats 4000000 in
theorem ERQ.pt {tn n r : Int} (hS : TR S) : ERQ S r (tn + 1) g (ptG S g tn n) := by
  have kS := kTR hS
  have fo : ∀ o, o ≠ S + 1108 → ptG S g tn n o = g o := fun o w => pt_ne w
  have z := (ERP.rfl' (S := S) (r := r) (t := tn + 1) (h := g)).q
  unfold ERQ at *
  rw [fo S (by omega), fo 6603 (by omega), fo (S + 980) (by omega), fo (S + 1044) (by omega), fo (S + 1236) (by omega), fo (S + 1300) (by omega), fo (S + 1174) (by omega), fo 9505 (by omega), fo 9569 (by omega), fo 9632 (by omega), fo 9696 (by omega), fo 9761 (by omega), fo 9824 (by omega), fo 9888 (by omega), fo 9952 (by omega)]
  refine ⟨⟨z.1.1, z.1.2.1, z.1.2.2.1, fun i a b c w => if_neg (fun u => ?_)⟩, z.2⟩
  have := w u.2.2.1
  have := u.2.2.2
  omega
set_option maxHeartbeats 4000000 in
theorem ERQ.of {r t2 : Int} (A : ERP S r t2 h g) (B : ERQ S r t2 g k) : ERQ S r t2 h k := by
  obtain ⟨⟨a1, a2, a3, a4⟩, ⟨a5, a6⟩, ⟨a7, a8⟩, ⟨a9, b1, b2, b3⟩, ⟨b4, b5, b6, b7, b8⟩, b9, c1, c2, c3⟩ := A
  obtain ⟨⟨x1, x2, x3, x4⟩, ⟨x5, x6⟩, ⟨x7, x8⟩, ⟨x9, y1, y2, y3⟩, ⟨y4, y5, y6, y7, y8⟩, y9, z1, z2, z3⟩ := B
  refine ⟨⟨by omega, a2.trans x2 a1, a3.trans x3 a1, fun i i0 i1 i2 w => ?_⟩, ⟨by omega, a6.trans x6 a5⟩, ⟨by omega, a8.trans x8 a7⟩, ⟨by omega, b1.trans y1 a9, b2.trans y2 a9, b3.trans y3 a9⟩, ⟨by omega, b5.trans y5 b4, b6.trans y6 b4, b7.trans y7 b4, b8.trans y8 b4⟩, by omega, by omega, c2.trans z2 (by omega), c3.trans z3 c1⟩
  have u1 := a2 i i0 i1 i2
  have u2 := a3 i i0 i1 i2
  rw [x4 i i0 i1 (by omega) (fun q => by rw [u2]; exact w (by rw [← u1]; exact q))]
  exact a4 i i0 i1 i2
end SM
