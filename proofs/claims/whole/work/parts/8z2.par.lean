/-! THE PURE SIDE, 175: rules on both sides: their names: printed by wip/tools/gen8z2.py -/
/-- the names of a rule that are told so far -/
def PARI (h hr : HV) : Prop := h 258 6 = hr 6603 15 ∧ (0 ≤ h 258 6 ∧ h 258 6 ≤ 4) ∧ (∀ v, 0 ≤ v → v < h 258 6 → h 353 v = hr 9505 v ∧ h 416 v = -1) ∧ hr 6603 19 = 0
section SM
variable {bX : Int} {tp : Int → Int} {t T S s s1 s2 f : Int} {h hr g gr k kr m mr : HV} {Q : Int → HV → Prop} {d : Nat}
theorem PARI.fr (P : PARI h hr) (e1 : g 258 6 = h 258 6) (e2 : g 353 = h 353) (e3 : g 416 = h 416) (e4 : gr 6603 15 = hr 6603 15) (e5 : gr 9505 = hr 9505) (e6 : gr 6603 19 = hr 6603 19) : PARI g gr := by
  unfold PARI at *
  rw [e1, e2, e3, e4, e5, e6]
  exact P
/-- a name of a rule -/
theorem par_pair1 (D : GD bX tp t T S s h hr) (P : PARI h hr) (d e : Nat) : ∃ g gr, (∀ Q, Sp fz1 (d + 9) 73 [(3, 258)] h Q = Q 0 g) ∧ (∀ Q, Sp fz1 (e + 7) 340 [(3, 6603)] hr Q = Q 0 gr) ∧ ((∃ s1, s + 1 ≤ s1 ∧ GOM bX tp t T S s h hr s1 g gr ∧ PARI g gr ∧ g 258 6 = h 258 6 + 1 ∧ g T = h T ∧ gr S = hr S ∧ gr 6603 12 = hr 6603 12 ∧ g 258 11 = h 258 11) ∨ (g = bdH h ∧ gr = bdR hr)) := by
  have F := D.f
  have fz7 : hr 6603 7 < 0 := by omega
  have N := D.nb
  have hT := D.2.1.1.1
  have hS := D.2.1.2.1
  have kT := kTC hT
  have kS := kTR hS
  unfold NBR at N
  obtain ⟨p1, p2, p3, p4⟩ := P
  have q1 : ∀ Q, Sp fz1 (e + 6) 325 [(3, 6603)] hr Q = Q 1 hr := fun Q => v325g D
  by_cases w : nmP tp t s
  · have ci : ∀ Q, Sp fz1 (d + 8) 52 [(3, 258)] h Q = Q 1 h := fun Q => nm_c52 (d := d + 2) D w
    have cw : ∀ Q, Sp fz1 (d + 8) 53 [(3, 129)] h Q = Q (wdT tp t s) h := fun Q => by rw [q53, D.wd w.1]
    have ri : ∀ Q, Sp fz1 (e + 6) 329 [(3, 6603)] hr Q = Q 1 hr := fun Q => nm_329 (d := e) D w
    have wt : ∀ Q, Sp fz1 (e + 6) 330 [(3, 6603)] hr Q = Q (wdT tp t s) hr := fun Q => v330 D.1.2.2 D.1.1
    have fe := fnx_2 (f1 := h 353) (f2 := hr 9505) (w := wdT tp t s) (h 258 6).toNat 0 (Int.le_refl _) (fun i a b => (p3 i a (by omega)).1.symm)
    have cf : ∀ Q, Sp fz1 (d + 8) 74 [(3, 258), (1, wdT tp t s)] h Q = Q (fnx (h 353) (wdT tp t s) (-1) (h 258 6).toNat 0) h := fun Q => q74 (by omega)
    have rf : ∀ Q, Sp fz1 (e + 6) 341 [(3, 6603), (1, wdT tp t s)] hr Q = Q (fnx (hr 9505) (wdT tp t s) (-9) (h 258 6).toNat 0) hr := fun Q => by rw [v341 (by omega), ← p1]
    by_cases z : h 258 6 < 4 ∧ fnx (h 353) (wdT tp t s) (-1) (h 258 6).toNat 0 < 0
    · have uv : useV h (wdT tp t s) = h 258 6 := by unfold useV; rw [if_pos z.2]
      have sv : slotV hr (wdT tp t s) = hr 6603 15 := by
        unfold slotV
        rw [← p1, if_pos (by omega)]
      obtain ⟨⟨t1, t2⟩, t3, t4, t5, -, -, t6, t7, t8, t9⟩ := tell_f (h := h) (w := wdT tp t s) (by omega)
      obtain ⟨⟨r1, r2⟩, r3, r4, r5, -, -, r6, r7⟩ := slot_f (h := hr) (w := wdT tp t s) (by omega)
      have ct : ∀ Q, Sp fz1 (d + 8) 75 [(3, 258), (1, wdT tp t s)] h Q = Q (useV h (wdT tp t s)) (tellH h (wdT tp t s)) := fun Q => c75 (d := d + 6) (by omega)
      have rs : ∀ Q, Sp fz1 (e + 6) 342 [(3, 6603), (1, wdT tp t s)] hr Q = Q (slotV hr (wdT tp t s)) (slotH hr (wdT tp t s)) := fun Q => r342 (d := e + 5) (by omega)
      obtain ⟨A1, -⟩ := D.tl (w := wdT tp t s) (by omega) (by omega)
      have D1 := A1.2.1
      obtain ⟨g, gr, X1, X1a, -, -, -, -, c1, c2, e1, f1⟩ := D1.nx d (e + 4)
      have ts := ts_k D (by have := w.1; omega)
      have P1 : PARI (tellH h (wdT tp t s)) (slotH hr (wdT tp t s)) := by
        refine ⟨by omega, by omega, fun v v0 v1 => ?_, by rw [r7 19 (by decide)]; exact p4⟩
        by_cases u : v < h 258 6
        · rw [t3 v v0 u, r3 v v0 (by omega), t7 v u (by omega)]
          exact p3 v v0 u
        · have ev : v = h 258 6 := by omega
          have e1 := t4
          have e2 := r4
          rw [uv] at e1 t6
          rw [sv, ← p1] at e2
          rw [ev]
          exact ⟨e1.trans e2.symm, t6⟩
      have x6 : g 258 6 = h 258 6 + 1 := by rw [c1 258 (by decide)]; omega
      have xT : g T = h T := by rw [c1 T (by omega), t8 T (by omega) (by omega) (by omega)]
      have xS : gr S = hr S := by rw [c2.1 S (by omega), r6 S (by omega) (by omega)]
      have xd : gr 6603 12 = hr 6603 12 := by rw [c2.2 12 (by decide) (by decide) (by decide) (by decide) (by decide), r7 12 (by decide)]
      have x11 : g 258 11 = h 258 11 := by rw [c1 258 (by decide), t9 11 (by decide)]
      generalize tellH h (wdT tp t s) = a at *
      generalize slotH hr (wdT tp t s) = ar at *
      refine ⟨g, gr, fun Q => ?_, fun Q => ?_, .inl ⟨_, X1a ts, A1.trans X1, P1.fr (by rw [c1 258 (by decide)]) (c1 _ (by decide)) (c1 _ (by decide)) (c2.2 15 (by decide) (by decide) (by decide) (by decide) (by decide)) (c2.1 _ (by decide)) (c2.2 19 (by decide) (by decide) (by decide) (by decide) (by decide)), x6, xT, xS, xd, x11⟩⟩
      · have z1 := z.1
        have z2 := z.2
        simp (implicitDefEqProofs := false) (disch := omega) only [sp73, b73_0, b73_1, b73_2, b73_3, q73_1, q73_2, q73_3, x_aload0, y_call28, y_call52, y_call53, y_call74, y_call75, x_gc_2051, x_gf_2096, x_goto_2, x_goto_3, x_iconst, x_ifCond_eq_1, x_ifCond_eq_3, x_ifCond_ge_1, x_if_icmp_ge_1, x_iload1, x_istore1, x_pop0, x_pop3, x_return, klp_0, klp_1, klp_2, klp_3, klp_9, KC_0, KC_1, KC_2, KC_3, KC_4, ne_eq, not_false_eq_true, not_true_eq_false, true_and, and_true, and_self, implies_true, eq_self, true_imp_iff, false_implies, Int.reduceEq, Int.reduceNe, Int.reduceMod, Int.reduceMul, Int.reduceAdd, Int.reduceSub, Int.reduceLT, Int.reduceLE, Nat.reduceAdd, Nat.reduceLeDiff, Nat.reduceLT, Nat.reduceSub, reduceIte, wds_n, wds_0, wds_1, wds_2, wds_3, or_true, true_or, or_false, false_or, or_self, false_and, and_false, d_pos, d_s1, d_s2, d_s3, d_s4, d_s5, d_s6, d_s7, d_s8, Classical.not_not, z258_0, TC_0 hT, TC_k hT, ci, cw, cf, z2, ct, e1, d_s9, d_s10, d_s11, d_s12, d_s13, d_s14, d_s15, d_s16, d_s17, d_s18, d_s19, d_s20, d_s21, d_s22, d_s23, d_s24, d_s25, d_s26, d_s27, d_s28, d_s29, d_s30, hs_ne, hcell, hcel1, le_sub1, le_T, le_F, lt_T, lt_F, eq_F, w32_T, bz0, bz1, lc_le, lc_ge, lc_lt, lc_gt, lc_eq]
      · have z2 : fnx (hr 9505) (wdT tp t s) (-9) (h 258 6).toNat 0 = -9 := by omega
        simp (implicitDefEqProofs := false) (disch := omega) only [sp340, b340_0, b340_1, b340_2, q340_1, q340_2, x_aload0, y_call321, y_call325, y_call329, y_call330, y_call332, y_call341, y_call342, x_gf_11384, x_goto_1, x_iconst, x_ifCond_eq_1, x_if_icmp_eq_1, x_if_icmp_eq_2, x_pop0, x_pop3, x_return, klp_0, klp_1, klp_2, klp_3, klp_9, KC_0, KC_1, KC_2, KC_3, KC_4, ne_eq, not_false_eq_true, not_true_eq_false, true_and, and_true, and_self, implies_true, eq_self, true_imp_iff, false_implies, Int.reduceEq, Int.reduceNe, Int.reduceMod, Int.reduceMul, Int.reduceAdd, Int.reduceSub, Int.reduceLT, Int.reduceLE, Nat.reduceAdd, Nat.reduceLeDiff, Nat.reduceLT, Nat.reduceSub, reduceIte, wds_n, wds_0, wds_1, wds_2, wds_3, or_true, true_or, or_false, false_or, or_self, false_and, and_false, d_pos, d_s1, d_s2, d_s3, d_s4, d_s5, d_s6, d_s7, d_s8, Classical.not_not, q1, ri, wt, rf, z2, rs, f1, d_s9, d_s10, d_s11, d_s12, d_s13, d_s14, d_s15, d_s16, d_s17, d_s18, d_s19, d_s20, d_s21, d_s22, d_s23, d_s24, d_s25, d_s26, d_s27, d_s28, d_s29, d_s30, hs_ne, hcell, hcel1, le_sub1, le_T, le_F, lt_T, lt_F, eq_F, w32_T, bz0, bz1, lc_le, lc_ge, lc_lt, lc_gt, lc_eq]
    · have pp : ∀ Q, Sp fz1 (d + 8) 28 [(3, 129), (0, 0)] h Q = Q 0 (bdH h) := fun Q => p28f (by omega)
      refine ⟨bdH h, bdR hr, fun Q => ?_, fun Q => ?_, .inr ⟨rfl, rfl⟩⟩
      · by_cases z1 : h 258 6 < 4
        · have z2 : ¬ fnx (h 353) (wdT tp t s) (-1) (h 258 6).toNat 0 < 0 := fun u => z ⟨z1, u⟩
          simp (implicitDefEqProofs := false) (disch := omega) only [sp73, b73_0, b73_1, b73_2, b73_3, q73_1, q73_2, q73_3, x_aload0, y_call28, y_call52, y_call53, y_call74, y_call75, x_gc_2051, x_gf_2096, x_goto_2, x_goto_3, x_iconst, x_ifCond_eq_1, x_ifCond_eq_3, x_ifCond_ge_1, x_if_icmp_ge_1, x_iload1, x_istore1, x_pop0, x_pop3, x_return, klp_0, klp_1, klp_2, klp_3, klp_9, KC_0, KC_1, KC_2, KC_3, KC_4, ne_eq, not_false_eq_true, not_true_eq_false, true_and, and_true, and_self, implies_true, eq_self, true_imp_iff, false_implies, Int.reduceEq, Int.reduceNe, Int.reduceMod, Int.reduceMul, Int.reduceAdd, Int.reduceSub, Int.reduceLT, Int.reduceLE, Nat.reduceAdd, Nat.reduceLeDiff, Nat.reduceLT, Nat.reduceSub, reduceIte, wds_n, wds_0, wds_1, wds_2, wds_3, or_true, true_or, or_false, false_or, or_self, false_and, and_false, d_pos, d_s1, d_s2, d_s3, d_s4, d_s5, d_s6, d_s7, d_s8, Classical.not_not, z258_0, TC_0 hT, TC_k hT, ci, cw, cf, z2, pp, d_s9, d_s10, d_s11, d_s12, d_s13, d_s14, d_s15, d_s16, d_s17, d_s18, d_s19, d_s20, d_s21, d_s22, d_s23, d_s24, d_s25, d_s26, d_s27, d_s28, d_s29, d_s30, hs_ne, hcell, hcel1, le_sub1, le_T, le_F, lt_T, lt_F, eq_F, w32_T, bz0, bz1, lc_le, lc_ge, lc_lt, lc_gt, lc_eq]
        · simp (implicitDefEqProofs := false) (disch := omega) only [sp73, b73_0, b73_1, b73_2, b73_3, q73_1, q73_2, q73_3, x_aload0, y_call28, y_call52, y_call53, y_call74, y_call75, x_gc_2051, x_gf_2096, x_goto_2, x_goto_3, x_iconst, x_ifCond_eq_1, x_ifCond_eq_3, x_ifCond_ge_1, x_if_icmp_ge_1, x_iload1, x_istore1, x_pop0, x_pop3, x_return, klp_0, klp_1, klp_2, klp_3, klp_9, KC_0, KC_1, KC_2, KC_3, KC_4, ne_eq, not_false_eq_true, not_true_eq_false, true_and, and_true, and_self, implies_true, eq_self, true_imp_iff, false_implies, Int.reduceEq, Int.reduceNe, Int.reduceMod, Int.reduceMul, Int.reduceAdd, Int.reduceSub, Int.reduceLT, Int.reduceLE, Nat.reduceAdd, Nat.reduceLeDiff, Nat.reduceLT, Nat.reduceSub, reduceIte, wds_n, wds_0, wds_1, wds_2, wds_3, or_true, true_or, or_false, false_or, or_self, false_and, and_false, d_pos, d_s1, d_s2, d_s3, d_s4, d_s5, d_s6, d_s7, d_s8, Classical.not_not, z258_0, TC_0 hT, TC_k hT, ci, cw, cf, pp, d_s9, d_s10, d_s11, d_s12, d_s13, d_s14, d_s15, d_s16, d_s17, d_s18, d_s19, d_s20, d_s21, d_s22, d_s23, d_s24, d_s25, d_s26, d_s27, d_s28, d_s29, d_s30, hs_ne, hcell, hcel1, le_sub1, le_T, le_F, lt_T, lt_F, eq_F, w32_T, bz0, bz1, lc_le, lc_ge, lc_lt, lc_gt, lc_eq]
      · by_cases z1 : hr 6603 15 = 4
        · simp (implicitDefEqProofs := false) (disch := omega) only [sp340, b340_0, b340_1, b340_2, q340_1, q340_2, x_aload0, y_call321, y_call325, y_call329, y_call330, y_call332, y_call341, y_call342, x_gf_11384, x_goto_1, x_iconst, x_ifCond_eq_1, x_if_icmp_eq_1, x_if_icmp_eq_2, x_pop0, x_pop3, x_return, klp_0, klp_1, klp_2, klp_3, klp_9, KC_0, KC_1, KC_2, KC_3, KC_4, ne_eq, not_false_eq_true, not_true_eq_false, true_and, and_true, and_self, implies_true, eq_self, true_imp_iff, false_implies, Int.reduceEq, Int.reduceNe, Int.reduceMod, Int.reduceMul, Int.reduceAdd, Int.reduceSub, Int.reduceLT, Int.reduceLE, Nat.reduceAdd, Nat.reduceLeDiff, Nat.reduceLT, Nat.reduceSub, reduceIte, wds_n, wds_0, wds_1, wds_2, wds_3, or_true, true_or, or_false, false_or, or_self, false_and, and_false, d_pos, d_s1, d_s2, d_s3, d_s4, d_s5, d_s6, d_s7, d_s8, Classical.not_not, q1, ri, wt, rf, z1, v332g fz7, d_s9, d_s10, d_s11, d_s12, d_s13, d_s14, d_s15, d_s16, d_s17, d_s18, d_s19, d_s20, d_s21, d_s22, d_s23, d_s24, d_s25, d_s26, d_s27, d_s28, d_s29, d_s30, hs_ne, hcell, hcel1, le_sub1, le_T, le_F, lt_T, lt_F, eq_F, w32_T, bz0, bz1, lc_le, lc_ge, lc_lt, lc_gt, lc_eq]
        · have z2 : fnx (hr 9505) (wdT tp t s) (-9) (h 258 6).toNat 0 ≠ -9 := by omega
          simp (implicitDefEqProofs := false) (disch := omega) only [sp340, b340_0, b340_1, b340_2, q340_1, q340_2, x_aload0, y_call321, y_call325, y_call329, y_call330, y_call332, y_call341, y_call342, x_gf_11384, x_goto_1, x_iconst, x_ifCond_eq_1, x_if_icmp_eq_1, x_if_icmp_eq_2, x_pop0, x_pop3, x_return, klp_0, klp_1, klp_2, klp_3, klp_9, KC_0, KC_1, KC_2, KC_3, KC_4, ne_eq, not_false_eq_true, not_true_eq_false, true_and, and_true, and_self, implies_true, eq_self, true_imp_iff, false_implies, Int.reduceEq, Int.reduceNe, Int.reduceMod, Int.reduceMul, Int.reduceAdd, Int.reduceSub, Int.reduceLT, Int.reduceLE, Nat.reduceAdd, Nat.reduceLeDiff, Nat.reduceLT, Nat.reduceSub, reduceIte, wds_n, wds_0, wds_1, wds_2, wds_3, or_true, true_or, or_false, false_or, or_self, false_and, and_false, d_pos, d_s1, d_s2, d_s3, d_s4, d_s5, d_s6, d_s7, d_s8, Classical.not_not, q1, ri, wt, rf, z1, z2, v332g fz7, d_s9, d_s10, d_s11, d_s12, d_s13, d_s14, d_s15, d_s16, d_s17, d_s18, d_s19, d_s20, d_s21, d_s22, d_s23, d_s24, d_s25, d_s26, d_s27, d_s28, d_s29, d_s30, hs_ne, hcell, hcel1, le_sub1, le_T, le_F, lt_T, lt_F, eq_F, w32_T, bz0, bz1, lc_le, lc_ge, lc_lt, lc_gt, lc_eq]
  · have pp : ∀ Q, Sp fz1 (d + 8) 28 [(3, 129), (0, 0)] h Q = Q 0 (bdH h) := fun Q => p28f (by omega)
    have ci : ∀ Q, Sp fz1 (d + 8) 52 [(3, 258)] h Q = Q 0 h := fun Q => nm_c52n (d := d + 2) D w
    have ri : ∀ Q, Sp fz1 (e + 6) 329 [(3, 6603)] hr Q = Q 0 hr := fun Q => nm_329n (d := e) D w
    refine ⟨bdH h, bdR hr, fun Q => ?_, fun Q => ?_, .inr ⟨rfl, rfl⟩⟩
    · simp (implicitDefEqProofs := false) (disch := omega) only [sp73, b73_0, b73_1, b73_2, b73_3, q73_1, q73_2, q73_3, x_aload0, y_call28, y_call52, y_call53, y_call74, y_call75, x_gc_2051, x_gf_2096, x_goto_2, x_goto_3, x_iconst, x_ifCond_eq_1, x_ifCond_eq_3, x_ifCond_ge_1, x_if_icmp_ge_1, x_iload1, x_istore1, x_pop0, x_pop3, x_return, klp_0, klp_1, klp_2, klp_3, klp_9, KC_0, KC_1, KC_2, KC_3, KC_4, ne_eq, not_false_eq_true, not_true_eq_false, true_and, and_true, and_self, implies_true, eq_self, true_imp_iff, false_implies, Int.reduceEq, Int.reduceNe, Int.reduceMod, Int.reduceMul, Int.reduceAdd, Int.reduceSub, Int.reduceLT, Int.reduceLE, Nat.reduceAdd, Nat.reduceLeDiff, Nat.reduceLT, Nat.reduceSub, reduceIte, wds_n, wds_0, wds_1, wds_2, wds_3, or_true, true_or, or_false, false_or, or_self, false_and, and_false, d_pos, d_s1, d_s2, d_s3, d_s4, d_s5, d_s6, d_s7, d_s8, Classical.not_not, z258_0, TC_0 hT, TC_k hT, ci, pp, d_s9, d_s10, d_s11, d_s12, d_s13, d_s14, d_s15, d_s16, d_s17, d_s18, d_s19, d_s20, d_s21, d_s22, d_s23, d_s24, d_s25, d_s26, d_s27, d_s28, d_s29, d_s30, hs_ne, hcell, hcel1, le_sub1, le_T, le_F, lt_T, lt_F, eq_F, w32_T, bz0, bz1, lc_le, lc_ge, lc_lt, lc_gt, lc_eq]
    · simp (implicitDefEqProofs := false) (disch := omega) only [sp340, b340_0, b340_1, b340_2, q340_1, q340_2, x_aload0, y_call321, y_call325, y_call329, y_call330, y_call332, y_call341, y_call342, x_gf_11384, x_goto_1, x_iconst, x_ifCond_eq_1, x_if_icmp_eq_1, x_if_icmp_eq_2, x_pop0, x_pop3, x_return, klp_0, klp_1, klp_2, klp_3, klp_9, KC_0, KC_1, KC_2, KC_3, KC_4, ne_eq, not_false_eq_true, not_true_eq_false, true_and, and_true, and_self, implies_true, eq_self, true_imp_iff, false_implies, Int.reduceEq, Int.reduceNe, Int.reduceMod, Int.reduceMul, Int.reduceAdd, Int.reduceSub, Int.reduceLT, Int.reduceLE, Nat.reduceAdd, Nat.reduceLeDiff, Nat.reduceLT, Nat.reduceSub, reduceIte, wds_n, wds_0, wds_1, wds_2, wds_3, or_true, true_or, or_false, false_or, or_self, false_and, and_false, d_pos, d_s1, d_s2, d_s3, d_s4, d_s5, d_s6, d_s7, d_s8, Classical.not_not, q1, ri, v332g fz7, d_s9, d_s10, d_s11, d_s12, d_s13, d_s14, d_s15, d_s16, d_s17, d_s18, d_s19, d_s20, d_s21, d_s22, d_s23, d_s24, d_s25, d_s26, d_s27, d_s28, d_s29, d_s30, hs_ne, hcell, hcel1, le_sub1, le_T, le_F, lt_T, lt_F, eq_F, w32_T, bz0, bz1, lc_le, lc_ge, lc_lt, lc_gt, lc_eq]
/-- a name of a rule, behind a fault -/
theorem BXC.par (B : BXC T f h) : Sp fz1 (d + 7) 73 [(3, 258)] h Q = Q 0 h := by
  have b2 := B.2.1.2.2
  have b3 : 0 ≤ h 129 3 := by have := B.2.1; omega
  have hT := B.1.1
  have ci : ∀ Q, Sp fz1 (d + 6) 52 [(3, 258)] h Q = Q 0 h := fun Q => c52b b2
  have pp : ∀ Q, Sp fz1 (d + 6) 28 [(3, 129), (0, 0)] h Q = Q 0 h := fun Q => p28b b3 b2
  simp (implicitDefEqProofs := false) (disch := omega) only [sp73, b73_0, b73_1, b73_2, b73_3, q73_1, q73_2, q73_3, x_aload0, y_call28, y_call52, y_call53, y_call74, y_call75, x_gc_2051, x_gf_2096, x_goto_2, x_goto_3, x_iconst, x_ifCond_eq_1, x_ifCond_eq_3, x_ifCond_ge_1, x_if_icmp_ge_1, x_iload1, x_istore1, x_pop0, x_pop3, x_return, klp_0, klp_1, klp_2, klp_3, klp_9, KC_0, KC_1, KC_2, KC_3, KC_4, ne_eq, not_false_eq_true, not_true_eq_false, true_and, and_true, and_self, implies_true, eq_self, true_imp_iff, false_implies, Int.reduceEq, Int.reduceNe, Int.reduceMod, Int.reduceMul, Int.reduceAdd, Int.reduceSub, Int.reduceLT, Int.reduceLE, Nat.reduceAdd, Nat.reduceLeDiff, Nat.reduceLT, Nat.reduceSub, reduceIte, wds_n, wds_0, wds_1, wds_2, wds_3, or_true, true_or, or_false, false_or, or_self, false_and, and_false, d_pos, d_s1, d_s2, d_s3, d_s4, d_s5, d_s6, d_s7, d_s8, Classical.not_not, z258_0, TC_0 hT, TC_k hT, ci, pp, d_s9, d_s10, d_s11, d_s12, d_s13, d_s14, d_s15, d_s16, d_s17, d_s18, d_s19, d_s20, d_s21, d_s22, d_s23, d_s24, d_s25, d_s26, d_s27, d_s28, d_s29, d_s30, hs_ne, hcell, hcel1, le_sub1, le_T, le_F, lt_T, lt_F, eq_F, w32_T, bz0, bz1, lc_le, lc_ge, lc_lt, lc_gt, lc_eq]
/-- the names of a rule behind its first -/
theorem lpPar {x y : Int} {e e2 : Nat} (l2 l3 : AV) : ∀ (j : Nat) (n s : Int) (h hr : HV), n + j = 4 → 0 ≤ n → GD bX tp t T S s h hr → PARI h hr → h 258 6 = n + 1 → ∃ g gr n2, (∀ Q, G fz1 (e + 10) 72 1 [(3, 258), (0, x), (0, n)] [] h Q = G fz1 (e + 10) 72 2 [(3, 258), (0, x), (0, n2)] [] g Q) ∧ (∀ Q, G fz1 (e2 + 10) 339 1 [(3, 6603), (0, y), l2, l3] [] hr Q = G fz1 (e2 + 10) 339 2 [(3, 6603), (0, y), l2, l3] [] gr Q) ∧ ((∃ s1, GOM bX tp t T S s h hr s1 g gr ∧ PARI g gr) ∨ (∃ f, BDC T f g ∧ BDQ S f gr) ∧ FXC T h g ∧ FXR S hr gr ∧ gr 6603 19 = 0) ∧ g T 15 = h T 15 ∧ g T 17 = h T 17 ∧ gr S = hr S ∧ gr 6603 12 = hr 6603 12 ∧ g 258 11 = h 258 11
  | 0, n, s, h, hr, h1, h0, D, P, h6 => by
    have := P.2.1
    omega
  | j + 1, n, s, h, hr, h1, h0, D, P, h6 => by
    have F := D.f
    have lm := D.lim
    have gd : ∀ Q, Sp fz1 (e2 + 9) 325 [(3, 6603)] hr Q = Q 1 hr := fun Q => v325g D
    by_cases w : sgP tp t s 44
    · have i1 : ∀ Q, Sp fz1 (e2 + 9) 334 [(3, 6603), (0, 44)] hr Q = Q 1 hr := fun Q => v334y D w
      have i2 : ∀ Q, Sp fz1 (e + 9) 59 [(3, 129), (0, 44)] h Q = Q 1 h := fun Q => c59y D (by decide) w
      obtain ⟨g1, r1, X1, -, -, -, -, -, c1, c2, e1, f1⟩ := D.nx (e + 1) (e2 + 7)
      have D1 := X1.2.1
      have P1 : PARI g1 r1 := P.fr (by rw [c1 258 (by decide)]) (c1 _ (by decide)) (c1 _ (by decide)) (c2.2 15 (by decide) (by decide) (by decide) (by decide) (by decide)) (c2.1 _ (by decide)) (c2.2 19 (by decide) (by decide) (by decide) (by decide) (by decide))
      obtain ⟨g2, r2, e3, f3, W⟩ := par_pair1 D1 P1 e (e2 + 2)
      have kT := kTC D.2.1.1.1
      have kS := kTR D.2.1.2.1
      have xT1 : g1 T = h T := c1 T (by omega)
      have xS1 : r1 S = hr S := c2.1 S (by omega)
      have xd1 : r1 6603 12 = hr 6603 12 := c2.2 12 (by decide) (by decide) (by decide) (by decide) (by decide)
      have x11a : g1 258 11 = h 258 11 := by rw [c1 258 (by decide)]
      rcases W with ⟨s2, q2, X2, P2, x6, xT2, xS2, xd2, x11b⟩ | ⟨w1, w2⟩
      · have y6 : g1 258 6 = h 258 6 := by rw [c1 258 (by decide)]
        obtain ⟨g3, r3, n2, e4, f4, W, w15, w17, wS, wd, w11⟩ := lpPar (x := x) (y := y) (e := e) (e2 := e2) l2 l3 j (n + 1) s2 g2 r2 (by omega) (by omega) X2.2.1 P2 (by omega)
        refine ⟨g3, r3, n2, fun Q => ?_, fun Q => ?_, ?_, by rw [w15, xT2, xT1], by rw [w17, xT2, xT1], by rw [wS, xS2, xS1], by rw [wd, xd2, xd1], by rw [w11, x11b, x11a]⟩
        · rw [← e4 Q, q72_1]
          simp (implicitDefEqProofs := false) (disch := omega) only [b72_1, x_aload0, y_call28, y_call59, y_call73, x_gc_2051, x_goto_1, x_iconst, x_ifCond_eq_2, x_if_icmp_ge_2, x_iinc2, x_iload2, klp_0, klp_1, klp_2, klp_3, klp_9, KC_0, KC_1, KC_2, KC_3, KC_4, ne_eq, not_false_eq_true, not_true_eq_false, true_and, and_true, and_self, implies_true, eq_self, true_imp_iff, false_implies, Int.reduceEq, Int.reduceNe, Int.reduceMod, Int.reduceMul, Int.reduceAdd, Int.reduceSub, Int.reduceLT, Int.reduceLE, Nat.reduceAdd, Nat.reduceLeDiff, Nat.reduceLT, Nat.reduceSub, reduceIte, wds_n, wds_0, wds_1, wds_2, wds_3, or_true, true_or, or_false, false_or, or_self, false_and, and_false, d_pos, d_s1, d_s2, d_s3, d_s4, d_s5, d_s6, d_s7, d_s8, Classical.not_not, z258_0, z258_5, z416_l, i2, e1, e3, d_s9, d_s10, d_s11, d_s12, d_s13, d_s14, d_s15, d_s16, d_s17, d_s18, d_s19, d_s20, d_s21, d_s22, d_s23, d_s24, d_s25, d_s26, d_s27, d_s28, d_s29, d_s30, hs_ne, hcell, hcel1, le_sub1, le_T, le_F, lt_T, lt_F, eq_F, w32_T, bz0, bz1, lc_le, lc_ge, lc_lt, lc_gt, lc_eq]
        · rw [← f4 Q, q339_1]
          simp (implicitDefEqProofs := false) (disch := omega) only [b339_1, x_aload0, y_call321, y_call325, y_call334, y_call340, x_goto_1, x_iconst, x_ifCond_eq_2, klp_0, klp_1, klp_2, klp_3, klp_9, KC_0, KC_1, KC_2, KC_3, KC_4, ne_eq, not_false_eq_true, not_true_eq_false, true_and, and_true, and_self, implies_true, eq_self, true_imp_iff, false_implies, Int.reduceEq, Int.reduceNe, Int.reduceMod, Int.reduceMul, Int.reduceAdd, Int.reduceSub, Int.reduceLT, Int.reduceLE, Nat.reduceAdd, Nat.reduceLeDiff, Nat.reduceLT, Nat.reduceSub, reduceIte, wds_n, wds_0, wds_1, wds_2, wds_3, or_true, true_or, or_false, false_or, or_self, false_and, and_false, d_pos, d_s1, d_s2, d_s3, d_s4, d_s5, d_s6, d_s7, d_s8, Classical.not_not, z6603_16, z9569_l, z6603_17, z9632_l, z6603_18, z9696_l, gd, i1, f1, f3, d_s9, d_s10, d_s11, d_s12, d_s13, d_s14, d_s15, d_s16, d_s17, d_s18, d_s19, d_s20, d_s21, d_s22, d_s23, d_s24, d_s25, d_s26, d_s27, d_s28, d_s29, d_s30, hs_ne, hcell, hcel1, le_sub1, le_T, le_F, lt_T, lt_F, eq_F, w32_T, bz0, bz1, lc_le, lc_ge, lc_lt, lc_gt, lc_eq]
        · have Z := X1.trans X2
          rcases W with ⟨s3, X3, P3⟩ | ⟨b1, b2, b3, b7⟩
          · exact .inl ⟨s3, Z.trans X3, P3⟩
          · exact .inr ⟨b1, Z.2.2.1.2.trans b2, Z.2.2.2.2.trans b3, b7⟩
      · obtain ⟨B1, B2, B3, B4, B5, B6, B7⟩ := D1.bad0
        have i3 : ∀ Q, Sp fz1 (e + 9) 59 [(3, 129), (0, 44)] (bdH g1) Q = Q 0 (bdH g1) := fun Q => c59b B1.k.2.2
        have gd1 : ∀ Q, Sp fz1 (e2 + 9) 325 [(3, 6603)] (bdR r1) Q = Q 0 (bdR r1) := fun Q => v325x B2
        have b19 : bdR r1 6603 19 = 0 := by unfold bdR; rw [hcell (by decide)]; exact P1.2.2.2
        subst w1
        subst w2
        refine ⟨bdH g1, bdR r1, n + 1, fun Q => ?_, fun Q => ?_, .inr ⟨⟨_, B1, B2.q⟩, X1.2.2.1.2.trans B3, X1.2.2.2.2.trans B4, b19⟩, by unfold bdH; rw [hs_ne (by omega), hs_ne (by omega), xT1], by unfold bdH; rw [hs_ne (by omega), hs_ne (by omega), xT1], by unfold bdR; rw [hs_ne (by omega), xS1], by unfold bdR; rw [hcell (by decide), xd1], by unfold bdH; rw [hs_ne (by decide), hs_ne (by decide), x11a]⟩
        · rw [q72_1]
          simp (implicitDefEqProofs := false) (disch := omega) only [b72_1, x_aload0, y_call28, y_call59, y_call73, x_gc_2051, x_goto_1, x_iconst, x_ifCond_eq_2, x_if_icmp_ge_2, x_iinc2, x_iload2, klp_0, klp_1, klp_2, klp_3, klp_9, KC_0, KC_1, KC_2, KC_3, KC_4, ne_eq, not_false_eq_true, not_true_eq_false, true_and, and_true, and_self, implies_true, eq_self, true_imp_iff, false_implies, Int.reduceEq, Int.reduceNe, Int.reduceMod, Int.reduceMul, Int.reduceAdd, Int.reduceSub, Int.reduceLT, Int.reduceLE, Nat.reduceAdd, Nat.reduceLeDiff, Nat.reduceLT, Nat.reduceSub, reduceIte, wds_n, wds_0, wds_1, wds_2, wds_3, or_true, true_or, or_false, false_or, or_self, false_and, and_false, d_pos, d_s1, d_s2, d_s3, d_s4, d_s5, d_s6, d_s7, d_s8, Classical.not_not, z258_0, z258_5, z416_l, i2, e1, e3, d_s9, d_s10, d_s11, d_s12, d_s13, d_s14, d_s15, d_s16, d_s17, d_s18, d_s19, d_s20, d_s21, d_s22, d_s23, d_s24, d_s25, d_s26, d_s27, d_s28, d_s29, d_s30, hs_ne, hcell, hcel1, le_sub1, le_T, le_F, lt_T, lt_F, eq_F, w32_T, bz0, bz1, lc_le, lc_ge, lc_lt, lc_gt, lc_eq]
          by_cases z : n + 1 < 4
          · rw [q72_1]
            simp (implicitDefEqProofs := false) (disch := omega) only [b72_1, x_aload0, y_call28, y_call59, y_call73, x_gc_2051, x_goto_1, x_iconst, x_ifCond_eq_2, x_if_icmp_ge_2, x_iinc2, x_iload2, klp_0, klp_1, klp_2, klp_3, klp_9, KC_0, KC_1, KC_2, KC_3, KC_4, ne_eq, not_false_eq_true, not_true_eq_false, true_and, and_true, and_self, implies_true, eq_self, true_imp_iff, false_implies, Int.reduceEq, Int.reduceNe, Int.reduceMod, Int.reduceMul, Int.reduceAdd, Int.reduceSub, Int.reduceLT, Int.reduceLE, Nat.reduceAdd, Nat.reduceLeDiff, Nat.reduceLT, Nat.reduceSub, reduceIte, wds_n, wds_0, wds_1, wds_2, wds_3, or_true, true_or, or_false, false_or, or_self, false_and, and_false, d_pos, d_s1, d_s2, d_s3, d_s4, d_s5, d_s6, d_s7, d_s8, Classical.not_not, z258_0, z258_5, z416_l, i3, d_s9, d_s10, d_s11, d_s12, d_s13, d_s14, d_s15, d_s16, d_s17, d_s18, d_s19, d_s20, d_s21, d_s22, d_s23, d_s24, d_s25, d_s26, d_s27, d_s28, d_s29, d_s30, hs_ne, hcell, hcel1, le_sub1, le_T, le_F, lt_T, lt_F, eq_F, w32_T, bz0, bz1, lc_le, lc_ge, lc_lt, lc_gt, lc_eq]
          · rw [q72_1]
            simp (implicitDefEqProofs := false) (disch := omega) only [b72_1, x_aload0, y_call28, y_call59, y_call73, x_gc_2051, x_goto_1, x_iconst, x_ifCond_eq_2, x_if_icmp_ge_2, x_iinc2, x_iload2, klp_0, klp_1, klp_2, klp_3, klp_9, KC_0, KC_1, KC_2, KC_3, KC_4, ne_eq, not_false_eq_true, not_true_eq_false, true_and, and_true, and_self, implies_true, eq_self, true_imp_iff, false_implies, Int.reduceEq, Int.reduceNe, Int.reduceMod, Int.reduceMul, Int.reduceAdd, Int.reduceSub, Int.reduceLT, Int.reduceLE, Nat.reduceAdd, Nat.reduceLeDiff, Nat.reduceLT, Nat.reduceSub, reduceIte, wds_n, wds_0, wds_1, wds_2, wds_3, or_true, true_or, or_false, false_or, or_self, false_and, and_false, d_pos, d_s1, d_s2, d_s3, d_s4, d_s5, d_s6, d_s7, d_s8, Classical.not_not, z258_0, z258_5, z416_l, i3, d_s9, d_s10, d_s11, d_s12, d_s13, d_s14, d_s15, d_s16, d_s17, d_s18, d_s19, d_s20, d_s21, d_s22, d_s23, d_s24, d_s25, d_s26, d_s27, d_s28, d_s29, d_s30, hs_ne, hcell, hcel1, le_sub1, le_T, le_F, lt_T, lt_F, eq_F, w32_T, bz0, bz1, lc_le, lc_ge, lc_lt, lc_gt, lc_eq]
        · rw [q339_1]
          simp (implicitDefEqProofs := false) (disch := omega) only [b339_1, x_aload0, y_call321, y_call325, y_call334, y_call340, x_goto_1, x_iconst, x_ifCond_eq_2, klp_0, klp_1, klp_2, klp_3, klp_9, KC_0, KC_1, KC_2, KC_3, KC_4, ne_eq, not_false_eq_true, not_true_eq_false, true_and, and_true, and_self, implies_true, eq_self, true_imp_iff, false_implies, Int.reduceEq, Int.reduceNe, Int.reduceMod, Int.reduceMul, Int.reduceAdd, Int.reduceSub, Int.reduceLT, Int.reduceLE, Nat.reduceAdd, Nat.reduceLeDiff, Nat.reduceLT, Nat.reduceSub, reduceIte, wds_n, wds_0, wds_1, wds_2, wds_3, or_true, true_or, or_false, false_or, or_self, false_and, and_false, d_pos, d_s1, d_s2, d_s3, d_s4, d_s5, d_s6, d_s7, d_s8, Classical.not_not, z6603_16, z9569_l, z6603_17, z9632_l, z6603_18, z9696_l, gd, i1, f1, f3, d_s9, d_s10, d_s11, d_s12, d_s13, d_s14, d_s15, d_s16, d_s17, d_s18, d_s19, d_s20, d_s21, d_s22, d_s23, d_s24, d_s25, d_s26, d_s27, d_s28, d_s29, d_s30, hs_ne, hcell, hcel1, le_sub1, le_T, le_F, lt_T, lt_F, eq_F, w32_T, bz0, bz1, lc_le, lc_ge, lc_lt, lc_gt, lc_eq]
          rw [q339_1]
          simp (implicitDefEqProofs := false) (disch := omega) only [b339_1, x_aload0, y_call321, y_call325, y_call334, y_call340, x_goto_1, x_iconst, x_ifCond_eq_2, klp_0, klp_1, klp_2, klp_3, klp_9, KC_0, KC_1, KC_2, KC_3, KC_4, ne_eq, not_false_eq_true, not_true_eq_false, true_and, and_true, and_self, implies_true, eq_self, true_imp_iff, false_implies, Int.reduceEq, Int.reduceNe, Int.reduceMod, Int.reduceMul, Int.reduceAdd, Int.reduceSub, Int.reduceLT, Int.reduceLE, Nat.reduceAdd, Nat.reduceLeDiff, Nat.reduceLT, Nat.reduceSub, reduceIte, wds_n, wds_0, wds_1, wds_2, wds_3, or_true, true_or, or_false, false_or, or_self, false_and, and_false, d_pos, d_s1, d_s2, d_s3, d_s4, d_s5, d_s6, d_s7, d_s8, Classical.not_not, z6603_16, z9569_l, z6603_17, z9632_l, z6603_18, z9696_l, gd1, d_s9, d_s10, d_s11, d_s12, d_s13, d_s14, d_s15, d_s16, d_s17, d_s18, d_s19, d_s20, d_s21, d_s22, d_s23, d_s24, d_s25, d_s26, d_s27, d_s28, d_s29, d_s30, hs_ne, hcell, hcel1, le_sub1, le_T, le_F, lt_T, lt_F, eq_F, w32_T, bz0, bz1, lc_le, lc_ge, lc_lt, lc_gt, lc_eq]
    · have i1 : ∀ Q, Sp fz1 (e2 + 9) 334 [(3, 6603), (0, 44)] hr Q = Q 0 hr := fun Q => v334n D w
      have i2 : ∀ Q, Sp fz1 (e + 9) 59 [(3, 129), (0, 44)] h Q = Q 0 h := fun Q => c59n D (by decide) w
      refine ⟨h, hr, n, fun Q => ?_, fun Q => ?_, .inl ⟨s, GOM.rfl' D, P⟩, rfl, rfl, rfl, rfl, rfl⟩
      · rw [q72_1]
        simp (implicitDefEqProofs := false) (disch := omega) only [b72_1, x_aload0, y_call28, y_call59, y_call73, x_gc_2051, x_goto_1, x_iconst, x_ifCond_eq_2, x_if_icmp_ge_2, x_iinc2, x_iload2, klp_0, klp_1, klp_2, klp_3, klp_9, KC_0, KC_1, KC_2, KC_3, KC_4, ne_eq, not_false_eq_true, not_true_eq_false, true_and, and_true, and_self, implies_true, eq_self, true_imp_iff, false_implies, Int.reduceEq, Int.reduceNe, Int.reduceMod, Int.reduceMul, Int.reduceAdd, Int.reduceSub, Int.reduceLT, Int.reduceLE, Nat.reduceAdd, Nat.reduceLeDiff, Nat.reduceLT, Nat.reduceSub, reduceIte, wds_n, wds_0, wds_1, wds_2, wds_3, or_true, true_or, or_false, false_or, or_self, false_and, and_false, d_pos, d_s1, d_s2, d_s3, d_s4, d_s5, d_s6, d_s7, d_s8, Classical.not_not, z258_0, z258_5, z416_l, i2, d_s9, d_s10, d_s11, d_s12, d_s13, d_s14, d_s15, d_s16, d_s17, d_s18, d_s19, d_s20, d_s21, d_s22, d_s23, d_s24, d_s25, d_s26, d_s27, d_s28, d_s29, d_s30, hs_ne, hcell, hcel1, le_sub1, le_T, le_F, lt_T, lt_F, eq_F, w32_T, bz0, bz1, lc_le, lc_ge, lc_lt, lc_gt, lc_eq]
      · rw [q339_1]
        simp (implicitDefEqProofs := false) (disch := omega) only [b339_1, x_aload0, y_call321, y_call325, y_call334, y_call340, x_goto_1, x_iconst, x_ifCond_eq_2, klp_0, klp_1, klp_2, klp_3, klp_9, KC_0, KC_1, KC_2, KC_3, KC_4, ne_eq, not_false_eq_true, not_true_eq_false, true_and, and_true, and_self, implies_true, eq_self, true_imp_iff, false_implies, Int.reduceEq, Int.reduceNe, Int.reduceMod, Int.reduceMul, Int.reduceAdd, Int.reduceSub, Int.reduceLT, Int.reduceLE, Nat.reduceAdd, Nat.reduceLeDiff, Nat.reduceLT, Nat.reduceSub, reduceIte, wds_n, wds_0, wds_1, wds_2, wds_3, or_true, true_or, or_false, false_or, or_self, false_and, and_false, d_pos, d_s1, d_s2, d_s3, d_s4, d_s5, d_s6, d_s7, d_s8, Classical.not_not, z6603_16, z9569_l, z6603_17, z9632_l, z6603_18, z9696_l, gd, i1, d_s9, d_s10, d_s11, d_s12, d_s13, d_s14, d_s15, d_s16, d_s17, d_s18, d_s19, d_s20, d_s21, d_s22, d_s23, d_s24, d_s25, d_s26, d_s27, d_s28, d_s29, d_s30, hs_ne, hcell, hcel1, le_sub1, le_T, le_F, lt_T, lt_F, eq_F, w32_T, bz0, bz1, lc_le, lc_ge, lc_lt, lc_gt, lc_eq]
end SM
