/-! THE PURE SIDE, 156: numbers and none in exps on both sides: printed by wip/tools/gen8i.py -/
section SM
variable {bX : Int} {tp : Int → Int} {t T S s s1 s2 f : Int} {h hr g gr k kr m mr : HV} {Q : Int → HV → Prop} {d : Nat}
theorem fdW_n {l : List Int} (hk : tkK tp t s ≠ 1) : fdW l tp t s = -1 := if_neg hk
theorem fdW_y {l : List Int} (hk : tkK tp t s = 1) : fdW l tp t s = ix (wdT tp t s) l 0 := if_pos hk
/-- words looked for, where both stand -/
theorem GD.fd5 (D : GD 1 tp t T S s h hr) : ∀ (d : Nat) Q, Sp fz1 (d + 5) 45 [(3, 129), (3, NV_691)] h Q = Q (fdW wBASES tp t s) h := fun d Q => by
  rw [NV_691_e]
  exact c45 D.1.2.1 (str_5 D.2.2.1.1) (by decide) wBASES_e
theorem GD.fd10 (D : GD 1 tp t T S s h hr) : ∀ (d : Nat) Q, Sp fz1 (d + 5) 45 [(3, 129), (3, NV_1331)] h Q = Q (fdW [1852796517] tp t s) h := fun d Q => by
  rw [NV_1331_e]
  exact c45 D.1.2.1 (str_10 D.2.2.1.1) (by decide) w1_10
theorem BDC.fd5 (B : BDC T f h) : ∀ (d : Nat) Q, Sp fz1 (d + 5) 45 [(3, 129), (3, NV_691)] h Q = Q (-1) h := fun d Q => by
  rw [NV_691_e]
  exact c45b B.k.2.2 (str_5 B.2.2.1) (by decide)
theorem BDC.fd10 (B : BDC T f h) : ∀ (d : Nat) Q, Sp fz1 (d + 5) 45 [(3, 129), (3, NV_1331)] h Q = Q (-1) h := fun d Q => by
  rw [NV_1331_e]
  exact c45b B.k.2.2 (str_10 B.2.2.1) (by decide)
/-- class: what is left of a base behind a fault at its node -/
theorem b91n {dep : Int} {e : Nat} {k0 : HV} (D : GD 1 tp t T S s h hr) (np : ¬ sgP tp t s 40) (B : BDC T f g) (nd : ∀ Q, Sp fz1 (e + 12) 90 [(3, 258)] h Q = Q 0 k0) (ndp : ∀ (d : Nat) Q, Sp fz1 d 28 [(3, 129), (0, 0)] k0 Q = Q 0 g) : ∃ g9, BDC T f g9 ∧ FXC T g g9 ∧ ∀ Q, Sp fz1 (e + 13) 91 [(3, 258), (0, dep)] h Q = Q 0 g9 := by
  obtain ⟨g9, G1, G2, G3⟩ := b108 (d := e + 5) (e := dep) B
  have sg : ∀ (d : Nat) Q, Sp fz1 d 59 [(3, 129), (0, 40)] h Q = Q 0 h := fun d Q => c59n D (by decide) np
  have kd := B.k.2.2
  have f5 : ∀ Q, Sp fz1 (e + 12) 45 [(3, 129), (3, NV_691)] g Q = Q (-1) g := fun Q => B.fd5 (e + 7) Q
  have f10 : ∀ Q, Sp fz1 (e + 12) 45 [(3, 129), (3, NV_1331)] g Q = Q (-1) g := fun Q => B.fd10 (e + 7) Q
  refine ⟨g9, G1, G2, fun Q => ?_⟩
  simp (disch := omega) only [sp91, b91_0, b91_1, n91_2, b91_3, n91_4, b91_5, b91_6, b91_7, q91_1, q91_2, q91_3, q91_4, q91_5, q91_6, q91_7, x_aload0, y_call107, y_call108, y_call110, y_call28, y_call43, y_call45, y_call59, y_call62, y_call82, y_call90, y_call92, y_call93, y_call94, y_call95, y_call96, x_gc_2051, x_gf_2059, x_goto_2, x_goto_6, x_goto_7, x_iconst, x_ifCond_eq_1, x_ifCond_ge_6, x_ifCond_lt_7, x_ifCond_ne_2, x_ifCond_ne_5, x_if_icmp_ne_3, x_if_icmp_ne_4, x_iload1, x_iload2, x_iload3, x_istore2, x_istore3, x_jsr, x_return, klp_0, klp_1, klp_2, klp_3, klp_9, KC_0, KC_1, KC_2, KC_3, KC_4, ne_eq, not_false_eq_true, not_true_eq_false, true_and, and_true, and_self, implies_true, eq_self, true_imp_iff, false_implies, Int.reduceEq, Int.reduceNe, Int.reduceMod, Int.reduceMul, Int.reduceAdd, Int.reduceSub, Int.reduceLT, Int.reduceLE, Nat.reduceAdd, Nat.reduceLeDiff, Nat.reduceLT, Nat.reduceSub, reduceIte, wds_n, wds_0, wds_1, wds_2, wds_3, or_true, true_or, or_false, false_or, or_self, false_and, and_false, d_pos, d_s1, d_s2, d_s3, d_s4, d_s5, d_s6, d_s7, d_s8, Classical.not_not, z258_0, TC_0 B.1.1, TC_k B.1.1, sg, nd, ndp, c43, kd, f5, f10, G3, d_s9, d_s10, d_s11, d_s12, d_s13, d_s14, d_s15, d_s16, d_s17, d_s18, d_s19, d_s20, d_s21, d_s22, d_s23, d_s24, d_s25, d_s26, d_s27, d_s28, d_s29, d_s30, le_sub1, le_T, le_F, lt_T, lt_F, eq_F, w32_T, bz0, bz1, lc_le, lc_ge, lc_lt, lc_gt, lc_eq]
theorem num_pair {dep : Int} {e e2 : Nat} (D : GD 1 tp t T S s h hr) (hk : tkK tp t s = 2) : ∃ g gr, (∀ Q, Sp fz1 (e + 13) 91 [(3, 258), (0, dep)] h Q = Q 0 g) ∧ (∀ Q, Sp fz1 (e2 + 14) 354 [(3, 6603)] hr Q = Q 0 gr) ∧ OUTC 1 tp t T S s h hr g gr 1 0 := by
  have F := D.f
  have N := D.nb
  have S0 := D.sb
  have hT := D.2.1.1.1
  have kT := kTC D.2.1.1.1
  have kS := kTR D.2.1.2.1
  have KF := D.1.2.2.1
  unfold NBR STQ at N
  have np : ¬ sgP tp t s 40 := fun w => by have := w.1; omega
  have v5 : fdW wBASES tp t s = -1 := fdW_n (by omega)
  have nb := nuV_n (tp := tp) S0.2.1 hk
  have k5 : hr 6603 2 = 2 := by have := KF.2.2.2.2; omega
  have nr : hr 6603 5 = nuV tp t s := D.1.2.2.2.1 hk
  obtain ⟨g1, gr1, f1, X⟩ := D.node (e + 10) (e2 + 12)
  rcases X with ⟨e1, X1, X2, X3, X4, X5⟩ | ⟨⟨k0, e1, e1p⟩, X1, X2, X3, X4, X5⟩
  · have X2' := X2
    have X3' := X3
    unfold NC at X2'
    unfold NR at X3'
    have D1 := X1.2.1
    have F1 := D1.f
    have n1 := D1.nb
    unfold NBR STQ at n1
    have kd : g1 129 4 = tkK tp t s := D1.1.2.1.1.2.2.2.2
    have sg : ∀ (d : Nat) Q, Sp fz1 d 59 [(3, 129), (0, 40)] h Q = Q 0 h := fun d Q => c59n D (by decide) np
    have f5 : ∀ Q, Sp fz1 (e + 12) 45 [(3, 129), (3, NV_691)] g1 Q = Q (-1) g1 := fun Q => by rw [D1.fd5 (e + 7) Q, v5]
    have f10 : ∀ Q, Sp fz1 (e + 12) 45 [(3, 129), (3, NV_1331)] g1 Q = Q (fdW [1852796517] tp t s) g1 := fun Q => D1.fd10 (e + 7) Q
    obtain ⟨E0, M0, L0⟩ := X1.2.1.em (x := 3) (by omega)
    have M0' := M0
    unfold NC at M0'
    obtain ⟨E1, M1, L1⟩ := E0.2.1.em (x := nuV tp t s) (by omega)
    have M1' := M1
    unfold NC at M1'
    obtain ⟨C1, C2, C3⟩ := E1.2.1.cd (p := 1) (a := (nuV tp t s)) (b := 0) (by omega) (fun z => absurd z (by decide))
    have C2' := C2
    unfold NR at C2'
    have cd : ∀ Q, Sp fz1 (e2 + 13) 347 [(3, 6603), (0, 1), (0, (nuV tp t s)), (0, 0)] gr1 Q = Q (gr1 S 15) (cdR S gr1 1 (nuV tp t s) 0) := fun Q => v347 D1.2.1.2.1 D1.2.1.2.2 (by omega)
    obtain ⟨g2, gr2, Y1, Y2, -, -, Y3, Y4, Y5, Y6, e3, f3⟩ := C1.2.1.nx (e + 4) (e2 + 10)
    have Y3' := Y3
    have Y4' := Y4
    unfold NC at Y3'
    unfold NR at Y4'
    have st : ∀ Q, Sp fz1 (e2 + 13) 355 [(3, 6603)] (cdR S gr1 1 (nuV tp t s) 0) Q = Q 0 gr2 := fun Q => by
      have q2 : ∀ (d : Nat) Q, Sp fz1 d 325 [(3, 6603)] (cdR S gr1 1 (nuV tp t s) 0) Q = Q 1 (cdR S gr1 1 (nuV tp t s) 0) := fun d Q => v325g C1.2.1
      simp (implicitDefEqProofs := false) (disch := omega) only [sp355, b355_0, b355_1, q355_1, x_aload0, y_call321, y_call325, x_goto_1, x_ifCond_eq_1, x_return, klp_0, klp_1, klp_2, klp_3, klp_9, KC_0, KC_1, KC_2, KC_3, KC_4, ne_eq, not_false_eq_true, not_true_eq_false, true_and, and_true, and_self, implies_true, eq_self, true_imp_iff, false_implies, Int.reduceEq, Int.reduceNe, Int.reduceMod, Int.reduceMul, Int.reduceAdd, Int.reduceSub, Int.reduceLT, Int.reduceLE, Nat.reduceAdd, Nat.reduceLeDiff, Nat.reduceLT, Nat.reduceSub, reduceIte, wds_n, wds_0, wds_1, wds_2, wds_3, or_true, true_or, or_false, false_or, or_self, false_and, and_false, d_pos, d_s1, d_s2, d_s3, d_s4, d_s5, d_s6, d_s7, d_s8, Classical.not_not, q2, f3, d_s9, d_s10, d_s11, d_s12, d_s13, d_s14, d_s15, d_s16, d_s17, d_s18, d_s19, d_s20, d_s21, d_s22, d_s23, d_s24, d_s25, d_s26, d_s27, d_s28, d_s29, d_s30, le_sub1, le_T, le_F, lt_T, lt_F, eq_F, w32_T, bz0, bz1, lc_le, lc_ge, lc_lt, lc_gt, lc_eq]
    have GA := ((((X1).trans E0).trans E1).trans C1).trans Y1
    have nr1 : gr1 6603 5 = nuV tp t s := D1.1.2.2.2.1 hk
    have nc1 : g1 129 7 = nuV tp t s := D1.1.2.1.2.2.1 hk
    have em : ∀ Q, Sp fz1 (e + 12) 93 [(3, 258), (0, 3), (0, nuV tp t s)] g1 Q = Q 0 (emH T (emH T g1 3) (nuV tp t s)) := fun Q => q93 D1.2.1.1.1 D1.2.1.1.2 (by omega)
    refine ⟨g2, gr2, fun Q => ?_, fun Q => ?_, one_out D GA (NVR.same (by omega)) (by unfold DXP; omega) (by omega) (fun K V CL A => ?_)⟩
    · simp (implicitDefEqProofs := false) (disch := omega) only [sp91, b91_0, b91_1, n91_2, b91_3, n91_4, b91_5, b91_6, b91_7, q91_1, q91_2, q91_3, q91_4, q91_5, q91_6, q91_7, x_aload0, y_call107, y_call108, y_call110, y_call28, y_call43, y_call45, y_call59, y_call62, y_call82, y_call90, y_call92, y_call93, y_call94, y_call95, y_call96, x_gc_2051, x_gf_2059, x_goto_2, x_goto_6, x_goto_7, x_iconst, x_ifCond_eq_1, x_ifCond_ge_6, x_ifCond_lt_7, x_ifCond_ne_2, x_ifCond_ne_5, x_if_icmp_ne_3, x_if_icmp_ne_4, x_iload1, x_iload2, x_iload3, x_istore2, x_istore3, x_jsr, x_return, klp_0, klp_1, klp_2, klp_3, klp_9, KC_0, KC_1, KC_2, KC_3, KC_4, ne_eq, not_false_eq_true, not_true_eq_false, true_and, and_true, and_self, implies_true, eq_self, true_imp_iff, false_implies, Int.reduceEq, Int.reduceNe, Int.reduceMod, Int.reduceMul, Int.reduceAdd, Int.reduceSub, Int.reduceLT, Int.reduceLE, Nat.reduceAdd, Nat.reduceLeDiff, Nat.reduceLT, Nat.reduceSub, reduceIte, wds_n, wds_0, wds_1, wds_2, wds_3, or_true, true_or, or_false, false_or, or_self, false_and, and_false, d_pos, d_s1, d_s2, d_s3, d_s4, d_s5, d_s6, d_s7, d_s8, Classical.not_not, z258_0, TC_0 hT, TC_k hT, sg, e1, c43, kd, hk, f5, q62, nc1, em, e3, d_s9, d_s10, d_s11, d_s12, d_s13, d_s14, d_s15, d_s16, d_s17, d_s18, d_s19, d_s20, d_s21, d_s22, d_s23, d_s24, d_s25, d_s26, d_s27, d_s28, d_s29, d_s30, le_sub1, le_T, le_F, lt_T, lt_F, eq_F, w32_T, bz0, bz1, lc_le, lc_ge, lc_lt, lc_gt, lc_eq]
    · simp (implicitDefEqProofs := false) (disch := omega) only [sp354, b354_0, b354_1, b354_2, n354_3, b354_4, b354_5, b354_6, b354_7, q354_1, q354_2, q354_3, q354_4, q354_5, q354_6, q354_7, x_aload0, y_call325, y_call327, y_call329, y_call334, y_call346, y_call347, y_call355, y_call356, y_call357, y_call359, x_dastore, x_dup0, x_dup3, x_gc_12443, x_gf_11280, x_gf_11304, x_gf_11314, x_gf_11339, x_gf_12448, x_goto_2, x_goto_7, x_iadd, x_iconst, x_ifCond_eq_2, x_ifCond_eq_4, x_ifCond_eq_5, x_ifCond_eq_6, x_if_icmp_ne_1, x_if_icmp_ne_3, x_jsr, x_pf_12448, x_pop0, x_pop3, x_return, klp_0, klp_1, klp_2, klp_3, klp_9, KC_0, KC_1, KC_2, KC_3, KC_4, ne_eq, not_false_eq_true, not_true_eq_false, true_and, and_true, and_self, implies_true, eq_self, true_imp_iff, false_implies, Int.reduceEq, Int.reduceNe, Int.reduceMod, Int.reduceMul, Int.reduceAdd, Int.reduceSub, Int.reduceLT, Int.reduceLE, Nat.reduceAdd, Nat.reduceLeDiff, Nat.reduceLT, Nat.reduceSub, reduceIte, wds_n, wds_0, wds_1, wds_2, wds_3, or_true, true_or, or_false, false_or, or_self, false_and, and_false, d_pos, d_s1, d_s2, d_s3, d_s4, d_s5, d_s6, d_s7, d_s8, Classical.not_not, k5, f1, nr1, cd, st, d_s9, d_s10, d_s11, d_s12, d_s13, d_s14, d_s15, d_s16, d_s17, d_s18, d_s19, d_s20, d_s21, d_s22, d_s23, d_s24, d_s25, d_s26, d_s27, d_s28, d_s29, d_s30, le_sub1, le_T, le_F, lt_T, lt_F, eq_F, w32_T, bz0, bz1, lc_le, lc_ge, lc_lt, lc_gt, lc_eq]
    · have z0 := A.cel (by omega) ((L0.ec E1.2.2.1.1 (by omega)).ec Y1.2.2.1.1 (by omega))
      have z1 := A.cel (by omega) (L1.ec Y1.2.2.1.1 (by omega))
      have y := A.rco (by omega) (C3.er Y1.2.2.2.1 (by omega))
      rw [M0'.2.2.1] at z1
      have P := e_WHOLE (K := K) (V := V) (CL := CL) (c := h T 17) (r := hr S 15) (by omega) (by omega) (by rw [show h T 17 = g1 T 17 by omega]; exact z0) (by rw [show hr S 15 = gr1 S 15 by omega]; exact y.1) (by rw [show h T 17 + 1 = g1 T 17 + 1 by omega, z1, show hr S 15 = gr1 S 15 by omega]; exact y.2.1 (by decide) (by decide) (by decide)) (by rw [show h T 17 + 1 = g1 T 17 + 1 by omega, z1]; omega)
      rw [show g2 T 17 = h T 17 + 2 by omega]
      exact P
  · obtain ⟨g9, G1, G2, G3⟩ := b91n (dep := dep) D np X1 e1 e1p
    have r14 : gr1 S 14 = hr S 14 := by rw [X5]; unfold bdR; rw [hs_ne (by omega)]
    have r15 : gr1 S 15 = hr S 15 := by rw [X5]; unfold bdR; rw [hs_ne (by omega)]
    have ri : ∀ i, i ≠ 7 → gr1 6603 i = hr 6603 i := fun i w => by rw [X5]; exact hcell w
    have rb5 := X2.2.2.2.1
    have rb6 := X2.2.2.2.2
    obtain ⟨C1, C2, C3, C4, C5⟩ := X2.cd (p := 1) (a := (nuV tp t s)) (b := 0) (by omega)
    have cd : ∀ Q, Sp fz1 (e2 + 13) 347 [(3, 6603), (0, 1), (0, (nuV tp t s)), (0, 0)] gr1 Q = Q (gr1 S 15) (cdR S gr1 1 (nuV tp t s) 0) := fun Q => v347 X2.1.1 X2.1.2 (by omega)
    have st : ∀ Q, Sp fz1 (e2 + 13) 355 [(3, 6603)] (cdR S gr1 1 (nuV tp t s) 0) Q = Q 0 (cdR S gr1 1 (nuV tp t s) 0) := fun Q => v355b (by rw [C5]; have := X2.2.1; omega)
    have nr1 : gr1 6603 5 = nuV tp t s := (ri 5 (by decide)).trans nr
    refine ⟨g9, cdR S gr1 1 (nuV tp t s) 0, G3, fun Q => ?_, .inr ⟨⟨s, G1, C1⟩, X3.trans G2, X4.trans C2, by omega, by omega, by omega⟩⟩
    simp (implicitDefEqProofs := false) (disch := omega) only [sp354, b354_0, b354_1, b354_2, n354_3, b354_4, b354_5, b354_6, b354_7, q354_1, q354_2, q354_3, q354_4, q354_5, q354_6, q354_7, x_aload0, y_call325, y_call327, y_call329, y_call334, y_call346, y_call347, y_call355, y_call356, y_call357, y_call359, x_dastore, x_dup0, x_dup3, x_gc_12443, x_gf_11280, x_gf_11304, x_gf_11314, x_gf_11339, x_gf_12448, x_goto_2, x_goto_7, x_iadd, x_iconst, x_ifCond_eq_2, x_ifCond_eq_4, x_ifCond_eq_5, x_ifCond_eq_6, x_if_icmp_ne_1, x_if_icmp_ne_3, x_jsr, x_pf_12448, x_pop0, x_pop3, x_return, klp_0, klp_1, klp_2, klp_3, klp_9, KC_0, KC_1, KC_2, KC_3, KC_4, ne_eq, not_false_eq_true, not_true_eq_false, true_and, and_true, and_self, implies_true, eq_self, true_imp_iff, false_implies, Int.reduceEq, Int.reduceNe, Int.reduceMod, Int.reduceMul, Int.reduceAdd, Int.reduceSub, Int.reduceLT, Int.reduceLE, Nat.reduceAdd, Nat.reduceLeDiff, Nat.reduceLT, Nat.reduceSub, reduceIte, wds_n, wds_0, wds_1, wds_2, wds_3, or_true, true_or, or_false, false_or, or_self, false_and, and_false, d_pos, d_s1, d_s2, d_s3, d_s4, d_s5, d_s6, d_s7, d_s8, Classical.not_not, k5, f1, nr1, cd, st, d_s9, d_s10, d_s11, d_s12, d_s13, d_s14, d_s15, d_s16, d_s17, d_s18, d_s19, d_s20, d_s21, d_s22, d_s23, d_s24, d_s25, d_s26, d_s27, d_s28, d_s29, d_s30, le_sub1, le_T, le_F, lt_T, lt_F, eq_F, w32_T, bz0, bz1, lc_le, lc_ge, lc_lt, lc_gt, lc_eq]
theorem none_pair {dep : Int} {e e2 : Nat} (D : GD 1 tp t T S s h hr) (hk : tkK tp t s = 1) (hw : wdT tp t s = 1852796517) : ∃ g gr, (∀ Q, Sp fz1 (e + 13) 91 [(3, 258), (0, dep)] h Q = Q 0 g) ∧ (∀ Q, Sp fz1 (e2 + 14) 354 [(3, 6603)] hr Q = Q 0 gr) ∧ OUTC 1 tp t T S s h hr g gr 1 0 := by
  have F := D.f
  have N := D.nb
  have S0 := D.sb
  have hT := D.2.1.1.1
  have kT := kTC D.2.1.1.1
  have kS := kTR D.2.1.2.1
  have KF := D.1.2.2.1
  unfold NBR STQ at N
  have np : ¬ sgP tp t s 40 := fun w => by have := w.1; omega
  have v5 : fdW wBASES tp t s = -1 := by rw [fdW_y hk, hw]; decide
  have k5 : hr 6603 2 = 1 := by have := KF.2.2.2.2; omega
  have iw : ∀ Q, Sp fz1 (e2 + 13) 327 [(3, 6603), (3, NV_1331)] hr Q = Q 1 hr := fun Q => by rw [NV_1331_e, iw_none (d := e2 + 8) D.1.2.2 D.1.1 D.2.2.1.2]; exact congrArg (fun x => Q x hr) (if_pos ⟨hk, hw⟩)
  obtain ⟨g1, gr1, f1, X⟩ := D.node (e + 10) (e2 + 12)
  rcases X with ⟨e1, X1, X2, X3, X4, X5⟩ | ⟨⟨k0, e1, e1p⟩, X1, X2, X3, X4, X5⟩
  · have X2' := X2
    have X3' := X3
    unfold NC at X2'
    unfold NR at X3'
    have D1 := X1.2.1
    have F1 := D1.f
    have n1 := D1.nb
    unfold NBR STQ at n1
    have kd : g1 129 4 = tkK tp t s := D1.1.2.1.1.2.2.2.2
    have sg : ∀ (d : Nat) Q, Sp fz1 d 59 [(3, 129), (0, 40)] h Q = Q 0 h := fun d Q => c59n D (by decide) np
    have f5 : ∀ Q, Sp fz1 (e + 12) 45 [(3, 129), (3, NV_691)] g1 Q = Q (-1) g1 := fun Q => by rw [D1.fd5 (e + 7) Q, v5]
    have f10 : ∀ Q, Sp fz1 (e + 12) 45 [(3, 129), (3, NV_1331)] g1 Q = Q (fdW [1852796517] tp t s) g1 := fun Q => D1.fd10 (e + 7) Q
    obtain ⟨E0, M0, L0⟩ := X1.2.1.em (x := 2) (by omega)
    have M0' := M0
    unfold NC at M0'
    obtain ⟨C1, C2, C3⟩ := E0.2.1.cd (p := 3) (a := 0) (b := 0) (by omega) (fun z => absurd z (by decide))
    have C2' := C2
    unfold NR at C2'
    have cd : ∀ Q, Sp fz1 (e2 + 13) 347 [(3, 6603), (0, 3), (0, 0), (0, 0)] gr1 Q = Q (gr1 S 15) (cdR S gr1 3 0 0) := fun Q => v347 D1.2.1.2.1 D1.2.1.2.2 (by omega)
    obtain ⟨g2, gr2, Y1, Y2, -, -, Y3, Y4, Y5, Y6, e3, f3⟩ := C1.2.1.nx (e + 4) (e2 + 10)
    have Y3' := Y3
    have Y4' := Y4
    unfold NC at Y3'
    unfold NR at Y4'
    have st : ∀ Q, Sp fz1 (e2 + 13) 355 [(3, 6603)] (cdR S gr1 3 0 0) Q = Q 0 gr2 := fun Q => by
      have q2 : ∀ (d : Nat) Q, Sp fz1 d 325 [(3, 6603)] (cdR S gr1 3 0 0) Q = Q 1 (cdR S gr1 3 0 0) := fun d Q => v325g C1.2.1
      simp (implicitDefEqProofs := false) (disch := omega) only [sp355, b355_0, b355_1, q355_1, x_aload0, y_call321, y_call325, x_goto_1, x_ifCond_eq_1, x_return, klp_0, klp_1, klp_2, klp_3, klp_9, KC_0, KC_1, KC_2, KC_3, KC_4, ne_eq, not_false_eq_true, not_true_eq_false, true_and, and_true, and_self, implies_true, eq_self, true_imp_iff, false_implies, Int.reduceEq, Int.reduceNe, Int.reduceMod, Int.reduceMul, Int.reduceAdd, Int.reduceSub, Int.reduceLT, Int.reduceLE, Nat.reduceAdd, Nat.reduceLeDiff, Nat.reduceLT, Nat.reduceSub, reduceIte, wds_n, wds_0, wds_1, wds_2, wds_3, or_true, true_or, or_false, false_or, or_self, false_and, and_false, d_pos, d_s1, d_s2, d_s3, d_s4, d_s5, d_s6, d_s7, d_s8, Classical.not_not, q2, f3, d_s9, d_s10, d_s11, d_s12, d_s13, d_s14, d_s15, d_s16, d_s17, d_s18, d_s19, d_s20, d_s21, d_s22, d_s23, d_s24, d_s25, d_s26, d_s27, d_s28, d_s29, d_s30, le_sub1, le_T, le_F, lt_T, lt_F, eq_F, w32_T, bz0, bz1, lc_le, lc_ge, lc_lt, lc_gt, lc_eq]
    have GA := (((X1).trans E0).trans C1).trans Y1
    have v10 : fdW [1852796517] tp t s = 0 := by rw [fdW_y hk, hw]; decide
    have em : ∀ Q, Sp fz1 (e + 12) 82 [(3, T), (0, 2)] g1 Q = Q 0 (emH T g1 2) := fun Q => q82 hT (by omega)
    have hp := D1.2.1.1.2
    refine ⟨g2, gr2, fun Q => ?_, fun Q => ?_, one_out D GA (NVR.same (by omega)) (by unfold DXP; omega) (by omega) (fun K V CL A => ?_)⟩
    · simp (implicitDefEqProofs := false) (disch := omega) only [sp91, b91_0, b91_1, n91_2, b91_3, n91_4, b91_5, b91_6, b91_7, q91_1, q91_2, q91_3, q91_4, q91_5, q91_6, q91_7, x_aload0, y_call107, y_call108, y_call110, y_call28, y_call43, y_call45, y_call59, y_call62, y_call82, y_call90, y_call92, y_call93, y_call94, y_call95, y_call96, x_gc_2051, x_gf_2059, x_goto_2, x_goto_6, x_goto_7, x_iconst, x_ifCond_eq_1, x_ifCond_ge_6, x_ifCond_lt_7, x_ifCond_ne_2, x_ifCond_ne_5, x_if_icmp_ne_3, x_if_icmp_ne_4, x_iload1, x_iload2, x_iload3, x_istore2, x_istore3, x_jsr, x_return, klp_0, klp_1, klp_2, klp_3, klp_9, KC_0, KC_1, KC_2, KC_3, KC_4, ne_eq, not_false_eq_true, not_true_eq_false, true_and, and_true, and_self, implies_true, eq_self, true_imp_iff, false_implies, Int.reduceEq, Int.reduceNe, Int.reduceMod, Int.reduceMul, Int.reduceAdd, Int.reduceSub, Int.reduceLT, Int.reduceLE, Nat.reduceAdd, Nat.reduceLeDiff, Nat.reduceLT, Nat.reduceSub, reduceIte, wds_n, wds_0, wds_1, wds_2, wds_3, or_true, true_or, or_false, false_or, or_self, false_and, and_false, d_pos, d_s1, d_s2, d_s3, d_s4, d_s5, d_s6, d_s7, d_s8, Classical.not_not, z258_0, TC_0 hT, TC_k hT, sg, e1, c43, kd, hk, f5, f10, v10, hp, em, e3, d_s9, d_s10, d_s11, d_s12, d_s13, d_s14, d_s15, d_s16, d_s17, d_s18, d_s19, d_s20, d_s21, d_s22, d_s23, d_s24, d_s25, d_s26, d_s27, d_s28, d_s29, d_s30, le_sub1, le_T, le_F, lt_T, lt_F, eq_F, w32_T, bz0, bz1, lc_le, lc_ge, lc_lt, lc_gt, lc_eq]
    · simp (implicitDefEqProofs := false) (disch := omega) only [sp354, b354_0, b354_1, b354_2, n354_3, b354_4, b354_5, b354_6, b354_7, q354_1, q354_2, q354_3, q354_4, q354_5, q354_6, q354_7, x_aload0, y_call325, y_call327, y_call329, y_call334, y_call346, y_call347, y_call355, y_call356, y_call357, y_call359, x_dastore, x_dup0, x_dup3, x_gc_12443, x_gf_11280, x_gf_11304, x_gf_11314, x_gf_11339, x_gf_12448, x_goto_2, x_goto_7, x_iadd, x_iconst, x_ifCond_eq_2, x_ifCond_eq_4, x_ifCond_eq_5, x_ifCond_eq_6, x_if_icmp_ne_1, x_if_icmp_ne_3, x_jsr, x_pf_12448, x_pop0, x_pop3, x_return, klp_0, klp_1, klp_2, klp_3, klp_9, KC_0, KC_1, KC_2, KC_3, KC_4, ne_eq, not_false_eq_true, not_true_eq_false, true_and, and_true, and_self, implies_true, eq_self, true_imp_iff, false_implies, Int.reduceEq, Int.reduceNe, Int.reduceMod, Int.reduceMul, Int.reduceAdd, Int.reduceSub, Int.reduceLT, Int.reduceLE, Nat.reduceAdd, Nat.reduceLeDiff, Nat.reduceLT, Nat.reduceSub, reduceIte, wds_n, wds_0, wds_1, wds_2, wds_3, or_true, true_or, or_false, false_or, or_self, false_and, and_false, d_pos, d_s1, d_s2, d_s3, d_s4, d_s5, d_s6, d_s7, d_s8, Classical.not_not, k5, iw, f1, cd, st, d_s9, d_s10, d_s11, d_s12, d_s13, d_s14, d_s15, d_s16, d_s17, d_s18, d_s19, d_s20, d_s21, d_s22, d_s23, d_s24, d_s25, d_s26, d_s27, d_s28, d_s29, d_s30, le_sub1, le_T, le_F, lt_T, lt_F, eq_F, w32_T, bz0, bz1, lc_le, lc_ge, lc_lt, lc_gt, lc_eq]
    · have z0 := A.cel (by omega) (L0.ec Y1.2.2.1.1 (by omega))
      have y := A.rco (by omega) (C3.er Y1.2.2.2.1 (by omega))
      have P := e_NONE (K := K) (V := V) (CL := CL) (c := h T 17) (r := hr S 15) (by omega) (by omega) (by rw [show h T 17 = g1 T 17 by omega]; exact z0) (by rw [show hr S 15 = gr1 S 15 by omega]; exact y.1)
      rw [show g2 T 17 = h T 17 + 1 by omega]
      exact P
  · obtain ⟨g9, G1, G2, G3⟩ := b91n (dep := dep) D np X1 e1 e1p
    have r14 : gr1 S 14 = hr S 14 := by rw [X5]; unfold bdR; rw [hs_ne (by omega)]
    have r15 : gr1 S 15 = hr S 15 := by rw [X5]; unfold bdR; rw [hs_ne (by omega)]
    have ri : ∀ i, i ≠ 7 → gr1 6603 i = hr 6603 i := fun i w => by rw [X5]; exact hcell w
    have rb5 := X2.2.2.2.1
    have rb6 := X2.2.2.2.2
    obtain ⟨C1, C2, C3, C4, C5⟩ := X2.cd (p := 3) (a := 0) (b := 0) (by omega)
    have cd : ∀ Q, Sp fz1 (e2 + 13) 347 [(3, 6603), (0, 3), (0, 0), (0, 0)] gr1 Q = Q (gr1 S 15) (cdR S gr1 3 0 0) := fun Q => v347 X2.1.1 X2.1.2 (by omega)
    have st : ∀ Q, Sp fz1 (e2 + 13) 355 [(3, 6603)] (cdR S gr1 3 0 0) Q = Q 0 (cdR S gr1 3 0 0) := fun Q => v355b (by rw [C5]; have := X2.2.1; omega)
    refine ⟨g9, cdR S gr1 3 0 0, G3, fun Q => ?_, .inr ⟨⟨s, G1, C1⟩, X3.trans G2, X4.trans C2, by omega, by omega, by omega⟩⟩
    simp (implicitDefEqProofs := false) (disch := omega) only [sp354, b354_0, b354_1, b354_2, n354_3, b354_4, b354_5, b354_6, b354_7, q354_1, q354_2, q354_3, q354_4, q354_5, q354_6, q354_7, x_aload0, y_call325, y_call327, y_call329, y_call334, y_call346, y_call347, y_call355, y_call356, y_call357, y_call359, x_dastore, x_dup0, x_dup3, x_gc_12443, x_gf_11280, x_gf_11304, x_gf_11314, x_gf_11339, x_gf_12448, x_goto_2, x_goto_7, x_iadd, x_iconst, x_ifCond_eq_2, x_ifCond_eq_4, x_ifCond_eq_5, x_ifCond_eq_6, x_if_icmp_ne_1, x_if_icmp_ne_3, x_jsr, x_pf_12448, x_pop0, x_pop3, x_return, klp_0, klp_1, klp_2, klp_3, klp_9, KC_0, KC_1, KC_2, KC_3, KC_4, ne_eq, not_false_eq_true, not_true_eq_false, true_and, and_true, and_self, implies_true, eq_self, true_imp_iff, false_implies, Int.reduceEq, Int.reduceNe, Int.reduceMod, Int.reduceMul, Int.reduceAdd, Int.reduceSub, Int.reduceLT, Int.reduceLE, Nat.reduceAdd, Nat.reduceLeDiff, Nat.reduceLT, Nat.reduceSub, reduceIte, wds_n, wds_0, wds_1, wds_2, wds_3, or_true, true_or, or_false, false_or, or_self, false_and, and_false, d_pos, d_s1, d_s2, d_s3, d_s4, d_s5, d_s6, d_s7, d_s8, Classical.not_not, k5, iw, f1, cd, st, d_s9, d_s10, d_s11, d_s12, d_s13, d_s14, d_s15, d_s16, d_s17, d_s18, d_s19, d_s20, d_s21, d_s22, d_s23, d_s24, d_s25, d_s26, d_s27, d_s28, d_s29, d_s30, le_sub1, le_T, le_F, lt_T, lt_F, eq_F, w32_T, bz0, bz1, lc_le, lc_ge, lc_lt, lc_gt, lc_eq]
end SM
