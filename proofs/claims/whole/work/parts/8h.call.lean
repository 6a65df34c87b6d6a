/-! THE PURE SIDE, 155: a call in an exp on both sides: printed by wip/tools/gen8h.py -/
section SM
variable {bX : Int} {tp : Int → Int} {t T S s s1 s2 f : Int} {h hr g gr k kr m mr : HV} {Q : Int → HV → Prop} {d : Nat}
theorem y357 {w p n : Int} {e2 : Nat} (B : BDR S f hr) : ∃ gr, BDR S f gr ∧ FXR S hr gr ∧ gr S 14 = hr S 14 ∧ gr S 15 = hr S 15 ∧ ∀ Q, G fz1 (e2 + 13) 357 4 [(3, 6603), (1, w), (9, 0), (0, p), (0, n)] [] hr Q = Q 0 gr := by
  obtain ⟨U1, U2, U3, U4⟩ := B.d12 (x := w32 (hr 6603 12 - 1))
  have r7 : 0 ≤ hr 6603 7 := by have := B.2.1; omega
  obtain ⟨k2, hk2⟩ : ∃ k2, k2 = hr := ⟨_, rfl⟩
  have sb7 : ∀ Q, Sp fz1 (e2 + 12) 333 [(3, 6603), (0, 41)] hr Q = Q 0 k2 := fun Q => by rw [hk2]; exact v333b r7
  have q2 : ∀ (d : Nat) Q, Sp fz1 d 325 [(3, 6603)] (hset k2 6603 12 (w32 (k2 6603 12 - 1))) Q = Q 0 (hset k2 6603 12 (w32 (k2 6603 12 - 1))) := fun d Q => by rw [hk2]; exact v325x U1
  refine ⟨_, U1, U2, by rw [U3], by rw [U3], fun Q => ?_⟩
  rw [q357_4, ← hk2]
  rw [← hk2] at sb7
  simp (implicitDefEqProofs := false) (disch := omega) only [b357_4, b357_5, q357_5, x_aload0, y_call325, y_call333, y_call347, x_dup0, x_dup3, x_gc_11427, x_gc_11435, x_gc_11443, x_gc_11451, x_gf_11360, x_gf_11456, x_goto_5, x_iadd, x_iastore, x_iconst, x_ifCond_eq_5, x_iload3, x_iload4, x_isub, x_lastore, x_lload1, x_pf_11360, x_pf_11456, x_return, klp_0, klp_1, klp_2, klp_3, klp_9, KC_0, KC_1, KC_2, KC_3, KC_4, ne_eq, not_false_eq_true, not_true_eq_false, true_and, and_true, and_self, implies_true, eq_self, true_imp_iff, false_implies, Int.reduceEq, Int.reduceNe, Int.reduceMod, Int.reduceMul, Int.reduceAdd, Int.reduceSub, Int.reduceLT, Int.reduceLE, Nat.reduceAdd, Nat.reduceLeDiff, Nat.reduceLT, Nat.reduceSub, reduceIte, wds_n, wds_0, wds_1, wds_2, wds_3, or_true, true_or, or_false, false_or, or_self, false_and, and_false, d_pos, d_s1, d_s2, d_s3, d_s4, d_s5, d_s6, d_s7, d_s8, Classical.not_not, z6603_20, z9761_l, z6603_21, z9824_l, z6603_22, z9888_l, z6603_23, z9952_l, sb7, q2, d_s9, d_s10, d_s11, d_s12, d_s13, d_s14, d_s15, d_s16, d_s17, d_s18, d_s19, d_s20, d_s21, d_s22, d_s23, d_s24, d_s25, d_s26, d_s27, d_s28, d_s29, d_s30, le_sub1, le_T, le_F, lt_T, lt_F, eq_F, w32_T, bz0, bz1, lc_le, lc_ge, lc_lt, lc_gt, lc_eq]
set_option maxHeartbeats 1000000 in
/-- a call -/
theorem call_pair {dep : Int} {B e e2 : Nat} (he : B ≤ e + 10) (he2 : B ≤ e2 + 12) (O : dep < 12 → EXPQ tp t T S (dep + 1) B) (D : GD 1 tp t T S s h hr) (hn : nmP tp t s) (n1 : h T 15 < 400) (n2 : h 258 3 < 30) (hd : hr 6603 12 = dep ∧ 1 ≤ h 258 11 ∧ h 258 11 ≤ dep + 1) (hd2 : 0 ≤ dep ∧ dep ≤ 12) (np : sgP tp t (nxS tp t s) 40) : ∃ g gr, (∀ Q, Sp fz1 (e + 12) 108 [(3, 258), (0, dep)] (ndH T h) Q = Q 0 g) ∧ (∀ Q, Sp fz1 (e2 + 13) 357 [(3, 6603)] hr Q = Q 0 gr) ∧ OUTC 1 tp t T S s h hr g gr 1 0 := by
  have F := D.f
  have N := D.nb
  have S0 := D.sb
  have hT := D.2.1.1.1
  have kT := kTC D.2.1.1.1
  have kS := kTR D.2.1.2.1
  unfold NBR STQ at N
  obtain ⟨X1, X2, X3, X4⟩ := D.nd n1 n2
  have X2' := X2
  have X3' := X3
  unfold NC at X2'
  unfold NR at X3'
  have D1 := X1.2.1
  have wd : ndH T h 129 6 = wdT tp t s := D1.1.2.1.2.1 hn.1
  have wd5 : ndH T h 129 5 = s := D1.1.2.1.1.2.2.1
  have F1 := D1.f
  obtain ⟨g2, gr2, Y1, Y2, -, -, Y3, Y4, Y5, Y6, e3, f3⟩ := D1.nx (e + 3) (e2 + 9)
  have Y3' := Y3
  have Y4' := Y4
  unfold NC at Y3'
  unfold NR at Y4'
  have D2 := Y1.2.1
  have F2 := D2.f
  have nN := D2.nb
  unfold NBR STQ at nN
  have k43 : tkK tp t s = 1 ∧ ¬ wdT tp t s ∈ wRES := hn
  have nm : ∀ Q, Sp fz1 (e + 11) 52 [(3, 258)] (ndH T h) Q = Q 1 (ndH T h) := fun Q => by rw [c52 D1.1.2.1 D1.2.2.1.1]; exact congrArg (fun x => Q x _) (if_pos k43)
  have sg : ∀ (d : Nat) Q, Sp fz1 d 59 [(3, 129), (0, 40)] g2 Q = Q 1 g2 := fun d Q => c59y D2 (by decide) np
  have CC : ∀ g, (∀ Q, Sp fz1 (e + 11) 109 [(3, 258), (1, wdT tp t s), (0, s), (0, dep)] g2 Q = Q 0 g) → ∀ Q, Sp fz1 (e + 12) 108 [(3, 258), (0, dep)] (ndH T h) Q = Q 0 g := fun g e9 Q => by
    simp (implicitDefEqProofs := false) (disch := omega) only [sp108, b108_0, b108_1, b108_2, q108_1, q108_2, x_aload0, y_call109, y_call28, y_call52, y_call53, y_call59, y_call76, y_call84, y_call93, x_gc_2051, x_goto_2, x_iconst, x_ifCond_eq_1, x_iload1, x_iload4, x_istore4, x_lload2, x_lstore2, x_return, klp_0, klp_1, klp_2, klp_3, klp_9, KC_0, KC_1, KC_2, KC_3, KC_4, ne_eq, not_false_eq_true, not_true_eq_false, true_and, and_true, and_self, implies_true, eq_self, true_imp_iff, false_implies, Int.reduceEq, Int.reduceNe, Int.reduceMod, Int.reduceMul, Int.reduceAdd, Int.reduceSub, Int.reduceLT, Int.reduceLE, Nat.reduceAdd, Nat.reduceLeDiff, Nat.reduceLT, Nat.reduceSub, reduceIte, wds_n, wds_0, wds_1, wds_2, wds_3, or_true, true_or, or_false, false_or, or_self, false_and, and_false, d_pos, d_s1, d_s2, d_s3, d_s4, d_s5, d_s6, d_s7, d_s8, Classical.not_not, z258_0, q53, q84, wd, wd5, nm, e3, sg, e9, d_s9, d_s10, d_s11, d_s12, d_s13, d_s14, d_s15, d_s16, d_s17, d_s18, d_s19, d_s20, d_s21, d_s22, d_s23, d_s24, d_s25, d_s26, d_s27, d_s28, d_s29, d_s30, le_sub1, le_T, le_F, lt_T, lt_F, eq_F, w32_T, bz0, bz1, lc_le, lc_ge, lc_lt, lc_gt, lc_eq]
  have q1 : ∀ (d : Nat) Q, Sp fz1 d 325 [(3, 6603)] gr2 Q = Q 1 gr2 := fun d Q => v325g D2
  have sgr : ∀ (d : Nat) Q, Sp fz1 d 334 [(3, 6603), (0, 40)] gr2 Q = Q 1 gr2 := fun d Q => v334y D2 np
  have nd : ∀ Q, Sp fz1 (e2 + 12) 346 [(3, 6603), (0, 1)] hr Q = Q 0 (ndR S hr) := fun Q => v346p D.2.1.2.1 D.2.1.2.2 (by omega) (by omega) (by omega)
  have nmw : ∀ (d : Nat) Q, Sp fz1 d 330 [(3, 6603)] (ndR S hr) Q = Q (wdT tp t s) (ndR S hr) := fun d Q => v330 D1.1.2.2 D1.1.1
  have t3 : ndR S hr 6603 3 = s := F1.2.2.1
  have st : ∀ Q, Sp fz1 (e2 + 12) 355 [(3, 6603)] (ndR S hr) Q = Q 0 gr2 := fun Q => by
    have q2 : ∀ (d : Nat) Q, Sp fz1 d 325 [(3, 6603)] (ndR S hr) Q = Q 1 (ndR S hr) := fun d Q => v325g D1
    simp (implicitDefEqProofs := false) (disch := omega) only [sp355, b355_0, b355_1, q355_1, x_aload0, y_call321, y_call325, x_goto_1, x_ifCond_eq_1, x_return, klp_0, klp_1, klp_2, klp_3, klp_9, KC_0, KC_1, KC_2, KC_3, KC_4, ne_eq, not_false_eq_true, not_true_eq_false, true_and, and_true, and_self, implies_true, eq_self, true_imp_iff, false_implies, Int.reduceEq, Int.reduceNe, Int.reduceMod, Int.reduceMul, Int.reduceAdd, Int.reduceSub, Int.reduceLT, Int.reduceLE, Nat.reduceAdd, Nat.reduceLeDiff, Nat.reduceLT, Nat.reduceSub, reduceIte, wds_n, wds_0, wds_1, wds_2, wds_3, or_true, true_or, or_false, false_or, or_self, false_and, and_false, d_pos, d_s1, d_s2, d_s3, d_s4, d_s5, d_s6, d_s7, d_s8, Classical.not_not, q2, f3, d_s9, d_s10, d_s11, d_s12, d_s13, d_s14, d_s15, d_s16, d_s17, d_s18, d_s19, d_s20, d_s21, d_s22, d_s23, d_s24, d_s25, d_s26, d_s27, d_s28, d_s29, d_s30, le_sub1, le_T, le_F, lt_T, lt_F, eq_F, w32_T, bz0, bz1, lc_le, lc_ge, lc_lt, lc_gt, lc_eq]
  have Z0 := X1.trans Y1
  by_cases z : dep < 12
  · obtain ⟨V1, V2, V3⟩ := D2.d12 (x := dep + 1)
    have V2' := V2
    unfold NR at V2'
    have dp : ∀ Q, Sp fz1 (e2 + 12) 344 [(3, 6603)] gr2 Q = Q 0 (hset gr2 6603 12 (dep + 1)) := fun Q => by rw [v344g (by omega) (by omega), show gr2 6603 12 = dep by omega]
    obtain ⟨g3, gr3, W1, W2, -, -, W3, W4, -, -, e5, f5⟩ := V1.2.1.nx (e + 1) (e2 + 9)
    have W3' := W3
    have W4' := W4
    unfold NC at W3'
    unfold NR at W4'
    have op : ∀ Q, Sp fz1 (e + 10) 79 [(3, 258), (0, 40), (0, dep)] g2 Q = Q 0 g3 := fun Q => c79g D2 (by decide) np z e5
    have s3 : ∀ Q, Sp fz1 (e2 + 12) 333 [(3, 6603), (0, 40)] (hset gr2 6603 12 (dep + 1)) Q = Q 0 gr3 := fun Q => by
      have q1 : ∀ (d : Nat) Q, Sp fz1 d 325 [(3, 6603)] (hset gr2 6603 12 (dep + 1)) Q = Q 1 (hset gr2 6603 12 (dep + 1)) := fun d Q => v325g V1.2.1
      have cs : ∀ (d : Nat) Q, Sp fz1 d 334 [(3, 6603), (0, 40)] (hset gr2 6603 12 (dep + 1)) Q = Q 1 (hset gr2 6603 12 (dep + 1)) := fun d Q => v334y V1.2.1 np
      have pp := f5
      simp (implicitDefEqProofs := false) (disch := omega) only [sp333, b333_0, b333_1, b333_2, q333_1, q333_2, x_aload0, y_call321, y_call325, y_call332, y_call334, x_goto_2, x_ifCond_eq_1, x_iload1, x_return, klp_0, klp_1, klp_2, klp_3, klp_9, KC_0, KC_1, KC_2, KC_3, KC_4, ne_eq, not_false_eq_true, not_true_eq_false, true_and, and_true, and_self, implies_true, eq_self, true_imp_iff, false_implies, Int.reduceEq, Int.reduceNe, Int.reduceMod, Int.reduceMul, Int.reduceAdd, Int.reduceSub, Int.reduceLT, Int.reduceLE, Nat.reduceAdd, Nat.reduceLeDiff, Nat.reduceLT, Nat.reduceSub, reduceIte, wds_n, wds_0, wds_1, wds_2, wds_3, or_true, true_or, or_false, false_or, or_self, false_and, and_false, d_pos, d_s1, d_s2, d_s3, d_s4, d_s5, d_s6, d_s7, d_s8, Classical.not_not, q1, cs, pp, d_s9, d_s10, d_s11, d_s12, d_s13, d_s14, d_s15, d_s16, d_s17, d_s18, d_s19, d_s20, d_s21, d_s22, d_s23, d_s24, d_s25, d_s26, d_s27, d_s28, d_s29, d_s30, le_sub1, le_T, le_F, lt_T, lt_F, eq_F, w32_T, bz0, bz1, lc_le, lc_ge, lc_lt, lc_gt, lc_eq]
    have D3 := W1.2.1
    have Z := Z0.trans (V1.trans W1)
    have st41 : ∀ Q, Sp fz1 (e + 10) 41 [(3, 258)] g3 Q = Q 1 g3 := fun Q => c41g D3
    have q3 : ∀ (d : Nat) Q, Sp fz1 d 325 [(3, 6603)] gr3 Q = Q 1 gr3 := fun d Q => v325g D3
    -- what is left once the exps are read
    have END : ∀ (x : Int) (lx : AV) (m mr : HV) (sm : Int), GOM 1 tp t T S (nxS tp t (nxS tp t s)) g3 gr3 sm m mr → NVR g3 m mr → DXP T S g3 gr3 m mr → 0 ≤ x ∧ x ≤ 30 → x ≤ mr S 15 - gr3 S 15 → (∀ K V CL, AGK K V CL T S (g3 T 17) (gr3 S 15) (gr3 S 22) m mr → EXK K V CL (g3 T 17) (gr3 S 15) (m T 17) (mr S 15) (mr S 15 - gr3 S 15) x (mr S 15 - gr3 S 15) 0) → (∀ Q, Sp fz1 (e + 11) 109 [(3, 258), (1, wdT tp t s), (0, s), (0, dep)] g2 Q = G fz1 (e + 11) 109 2 [(3, 258), (1, wdT tp t s), (9, 0), (0, s), (0, dep), (0, x), lx] [] m Q) → (∀ Q, Sp fz1 (e2 + 13) 357 [(3, 6603)] hr Q = G fz1 (e2 + 13) 357 4 [(3, 6603), (1, wdT tp t s), (9, 0), (0, s), (0, x)] [] mr Q) → ∃ g gr, (∀ Q, Sp fz1 (e + 12) 108 [(3, 258), (0, dep)] (ndH T h) Q = Q 0 g) ∧ (∀ Q, Sp fz1 (e2 + 13) 357 [(3, 6603)] hr Q = Q 0 gr) ∧ OUTC 1 tp t T S s h hr g gr 1 0 := by
      intro x lx m mr sm A1 A2 A3 A4 A5 A6 A7 A8
      have A3' := A3
      unfold DXP at A3'
      have mN := A1.2.1.nb
      unfold NBR STQ at mN
      have q0 := A1.1
      have q9 := Z.1
      obtain ⟨g, gr, h1, h2, R⟩ := fin_call (w := wdT tp t s) (p := s) (x := x) (lx := lx) (e := e) (e2 := e2) A1.2.1 (by omega) ⟨hd2.1, z⟩ (by omega) (by have := D.sb; omega) (by omega) (by omega) (by omega)
      refine ⟨g, gr, CC g (fun Q => by rw [A7]; exact h1 Q), fun Q => by rw [A8]; exact h2 Q, ?_⟩
      rcases R with ⟨s9, R1, R2, R3, ⟨R4, R5⟩, ⟨R6, R7⟩, R8⟩ | ⟨b1, b2, b3, b4, b5, b6⟩
      · have R2' := R2
        have R3' := R3
        unfold NC at R2'
        unfold NR at R3'
        refine .inl ⟨s9, (Z.trans A1).trans R1, ((NVR.same (gr := gr3) (show g3 258 6 = h 258 6 by omega)).trans A1.2.2.1.1 A1.2.2.2.1 A2).trans R1.2.2.1.1 R1.2.2.2.1 (NVR.same (by omega)), by unfold DXP; omega, by omega, fun K V CL A => ?_⟩
        have B1 := A.sub (h := m) (hr := mr) (by omega) (R1.2.2.1.1.lo (c2 := h T 17) (by omega)) (R1.2.2.2.1.lo (r2 := hr S 15) (t2 := hr S 22) (by omega) (by omega)) (Int.le_refl _) (Int.le_refl _) (Int.le_refl _)
        have P1 := A6 K V CL (B1.lo (by omega) (by omega) (by omega))
        have z1 := A.cel (by omega) R4
        have z2 := A.cel (by omega) R5
        have z3 := A.rco (by omega) R8
        have z4 := A.2.2.2.2.2.2.2.2 (m 258 10) (by omega) (by omega)
        rw [R6, R7, Int.add_sub_cancel] at z4
        have P2 := e_CALL (K := K) (V := V) (CL := CL) (c := m T 17) (r := mr S 15) (by omega) (by omega) z1 z3.1 z4 (by omega)
        rw [z2] at P2
        rw [show g3 T 17 = h T 17 by omega, show gr3 S 15 = hr S 15 by omega] at P1
        rw [show m T 17 + 3 = g T 17 by omega, show mr S 15 + 1 = gr S 15 by omega] at P2
        exact P1.seq P2 (by omega) (by omega) (by omega) (by omega) (by omega) (by omega) (by omega) (by omega) (by omega)
      · exact .inr ⟨b1, (Z.trans A1).2.2.1.2.trans b2, (Z.trans A1).2.2.2.2.trans b3, by omega, by omega, by omega⟩
    by_cases y : sgP tp t (nxS tp t (nxS tp t s)) 41
    · have sy : ∀ (d : Nat) Q, Sp fz1 d 59 [(3, 129), (0, 41)] g3 Q = Q 1 g3 := fun d Q => c59y D3 (by decide) y
      have ry : ∀ (d : Nat) Q, Sp fz1 d 334 [(3, 6603), (0, 41)] gr3 Q = Q 1 gr3 := fun d Q => v334y D3 y
      refine END 0 (9, 0) g3 gr3 _ (GOM.rfl' D3) (NVR.same rfl) ⟨by omega, by omega, by omega, by omega, rfl, rfl⟩ (by omega) (by omega) (fun K V CL _ => EXK.nil (by omega)) (fun Q => ?_) (fun Q => ?_)
      · simp (implicitDefEqProofs := false) (disch := omega) only [sp109, b109_0, x_aload0, y_call41, y_call59, y_call79, y_call86, x_gc_2051, x_goto_1, x_iadd, x_iconst, x_ifCond_eq_2, x_ifCond_ne_2, x_iinc5, x_iload4, x_istore5, x_istore6, klp_0, klp_1, klp_2, klp_3, klp_9, KC_0, KC_1, KC_2, KC_3, KC_4, ne_eq, not_false_eq_true, not_true_eq_false, true_and, and_true, and_self, implies_true, eq_self, true_imp_iff, false_implies, Int.reduceEq, Int.reduceNe, Int.reduceMod, Int.reduceMul, Int.reduceAdd, Int.reduceSub, Int.reduceLT, Int.reduceLE, Nat.reduceAdd, Nat.reduceLeDiff, Nat.reduceLT, Nat.reduceSub, reduceIte, wds_n, wds_0, wds_1, wds_2, wds_3, or_true, true_or, or_false, false_or, or_self, false_and, and_false, d_pos, d_s1, d_s2, d_s3, d_s4, d_s5, d_s6, d_s7, d_s8, Classical.not_not, z258_0, z258_7, z481_l, z258_8, z544_l, z258_9, z608_l, TC_0 hT, TC_k hT, op, st41, sy, d_s9, d_s10, d_s11, d_s12, d_s13, d_s14, d_s15, d_s16, d_s17, d_s18, d_s19, d_s20, d_s21, d_s22, d_s23, d_s24, d_s25, d_s26, d_s27, d_s28, d_s29, d_s30, le_sub1, le_T, le_F, lt_T, lt_F, eq_F, w32_T, bz0, bz1, lc_le, lc_ge, lc_lt, lc_gt, lc_eq]
      · simp (implicitDefEqProofs := false) (disch := omega) only [sp357, b357_0, b357_1, b357_2, q357_1, q357_2, x_aload0, y_call325, y_call330, y_call333, y_call334, y_call344, y_call346, y_call347, y_call350, y_call355, y_call358, x_gf_11288, x_goto_3, x_iconst, x_ifCond_eq_4, x_ifCond_ne_1, x_ifCond_ne_2, x_ifCond_ne_4, x_iload3, x_istore3, x_istore4, x_lload1, x_lstore1, x_return, klp_0, klp_1, klp_2, klp_3, klp_9, KC_0, KC_1, KC_2, KC_3, KC_4, ne_eq, not_false_eq_true, not_true_eq_false, true_and, and_true, and_self, implies_true, eq_self, true_imp_iff, false_implies, Int.reduceEq, Int.reduceNe, Int.reduceMod, Int.reduceMul, Int.reduceAdd, Int.reduceSub, Int.reduceLT, Int.reduceLE, Nat.reduceAdd, Nat.reduceLeDiff, Nat.reduceLT, Nat.reduceSub, reduceIte, wds_n, wds_0, wds_1, wds_2, wds_3, or_true, true_or, or_false, false_or, or_self, false_and, and_false, d_pos, d_s1, d_s2, d_s3, d_s4, d_s5, d_s6, d_s7, d_s8, Classical.not_not, z6603_20, z9761_l, z6603_21, z9824_l, z6603_22, z9888_l, z6603_23, z9952_l, nd, nmw, t3, st, q1, sgr, dp, s3, q3, ry, d_s9, d_s10, d_s11, d_s12, d_s13, d_s14, d_s15, d_s16, d_s17, d_s18, d_s19, d_s20, d_s21, d_s22, d_s23, d_s24, d_s25, d_s26, d_s27, d_s28, d_s29, d_s30, le_sub1, le_T, le_F, lt_T, lt_F, eq_F, w32_T, bz0, bz1, lc_le, lc_ge, lc_lt, lc_gt, lc_eq]
    · have sy : ∀ (d : Nat) Q, Sp fz1 d 59 [(3, 129), (0, 41)] g3 Q = Q 0 g3 := fun d Q => c59n D3 (by decide) y
      have ry : ∀ (d : Nat) Q, Sp fz1 d 334 [(3, 6603), (0, 41)] gr3 Q = Q 0 gr3 := fun d Q => v334n D3 y
      obtain ⟨k, kr, e6, f6, V⟩ := O z (e + 10) (e2 + 12) _ g3 gr3 he he2 D3 (by omega)
      have C1 : ∀ Q, Sp fz1 (e + 11) 109 [(3, 258), (1, wdT tp t s), (0, s), (0, dep)] g2 Q = G fz1 (e + 11) 109 1 [(3, 258), (1, wdT tp t s), (9, 0), (0, s), (0, dep), (0, 1), (0, 0)] [] k Q := fun Q => by
        simp (implicitDefEqProofs := false) (disch := omega) only [sp109, b109_0, x_aload0, y_call41, y_call59, y_call79, y_call86, x_gc_2051, x_goto_1, x_iadd, x_iconst, x_ifCond_eq_2, x_ifCond_ne_2, x_iinc5, x_iload4, x_istore5, x_istore6, klp_0, klp_1, klp_2, klp_3, klp_9, KC_0, KC_1, KC_2, KC_3, KC_4, ne_eq, not_false_eq_true, not_true_eq_false, true_and, and_true, and_self, implies_true, eq_self, true_imp_iff, false_implies, Int.reduceEq, Int.reduceNe, Int.reduceMod, Int.reduceMul, Int.reduceAdd, Int.reduceSub, Int.reduceLT, Int.reduceLE, Nat.reduceAdd, Nat.reduceLeDiff, Nat.reduceLT, Nat.reduceSub, reduceIte, wds_n, wds_0, wds_1, wds_2, wds_3, or_true, true_or, or_false, false_or, or_self, false_and, and_false, d_pos, d_s1, d_s2, d_s3, d_s4, d_s5, d_s6, d_s7, d_s8, Classical.not_not, z258_0, z258_7, z481_l, z258_8, z544_l, z258_9, z608_l, TC_0 hT, TC_k hT, op, st41, sy, e6, d_s9, d_s10, d_s11, d_s12, d_s13, d_s14, d_s15, d_s16, d_s17, d_s18, d_s19, d_s20, d_s21, d_s22, d_s23, d_s24, d_s25, d_s26, d_s27, d_s28, d_s29, d_s30, le_sub1, le_T, le_F, lt_T, lt_F, eq_F, w32_T, bz0, bz1, lc_le, lc_ge, lc_lt, lc_gt, lc_eq]
      have R1 : ∀ Q, Sp fz1 (e2 + 13) 357 [(3, 6603)] hr Q = G fz1 (e2 + 13) 357 3 [(3, 6603), (1, wdT tp t s), (9, 0), (0, s), (0, 1)] [] kr Q := fun Q => by
        simp (implicitDefEqProofs := false) (disch := omega) only [sp357, b357_0, b357_1, b357_2, q357_1, q357_2, x_aload0, y_call325, y_call330, y_call333, y_call334, y_call344, y_call346, y_call347, y_call350, y_call355, y_call358, x_gf_11288, x_goto_3, x_iconst, x_ifCond_eq_4, x_ifCond_ne_1, x_ifCond_ne_2, x_ifCond_ne_4, x_iload3, x_istore3, x_istore4, x_lload1, x_lstore1, x_return, klp_0, klp_1, klp_2, klp_3, klp_9, KC_0, KC_1, KC_2, KC_3, KC_4, ne_eq, not_false_eq_true, not_true_eq_false, true_and, and_true, and_self, implies_true, eq_self, true_imp_iff, false_implies, Int.reduceEq, Int.reduceNe, Int.reduceMod, Int.reduceMul, Int.reduceAdd, Int.reduceSub, Int.reduceLT, Int.reduceLE, Nat.reduceAdd, Nat.reduceLeDiff, Nat.reduceLT, Nat.reduceSub, reduceIte, wds_n, wds_0, wds_1, wds_2, wds_3, or_true, true_or, or_false, false_or, or_self, false_and, and_false, d_pos, d_s1, d_s2, d_s3, d_s4, d_s5, d_s6, d_s7, d_s8, Classical.not_not, z6603_20, z9761_l, z6603_21, z9824_l, z6603_22, z9888_l, z6603_23, z9952_l, nd, nmw, t3, st, q1, sgr, dp, s3, q3, ry, f6, d_s9, d_s10, d_s11, d_s12, d_s13, d_s14, d_s15, d_s16, d_s17, d_s18, d_s19, d_s20, d_s21, d_s22, d_s23, d_s24, d_s25, d_s26, d_s27, d_s28, d_s29, d_s30, le_sub1, le_T, le_F, lt_T, lt_F, eq_F, w32_T, bz0, bz1, lc_le, lc_ge, lc_lt, lc_gt, lc_eq]
      have gN := D3.nb
      unfold NBR STQ at gN
      rcases V with ⟨s3', V1, V2, V3, V4, V5⟩ | V
      · have V3' := V3
        unfold DXP at V3'
        obtain ⟨x, y', n', g, gr, e7, f7, R⟩ := lpArg (w := wdT tp t s) (p := s) (e := e) (e2 := e2) he he2 (O z) ⟨hd2.1, z⟩ 30 1 s3' k kr (by decide) (by decide) (by omega) V1.2.1 (by omega)
        rcases R with ⟨rfl, r2, s4, U1, U2, U3, U4, U5⟩ | R
        · have U3' := U3
          unfold DXP at U3'
          refine END x (0, n') g gr s4 (V1.trans U1) (V2.trans U1.2.2.1.1 U1.2.2.2.1 U2) (by unfold DXP; omega) (by omega) (by omega) (fun K V CL A => ?_) (fun Q => by rw [C1]; exact e7 Q) (fun Q => by rw [R1]; exact f7 Q)
          have P2 := U5 K V CL (A.lo (by omega) (by omega) (by omega))
          have A1 := A.sub (h := k) (hr := kr) (by have := V1.2.1.nb; unfold NBR STQ at this; omega) (U1.2.2.1.1.lo (c2 := g3 T 17) (by omega)) (U1.2.2.2.1.lo (r2 := gr3 S 15) (t2 := gr3 S 22) (by omega) (by omega)) (Int.le_refl _) (Int.le_refl _) (Int.le_refl _)
          have P1 := V5 K V CL (A1.lo (by omega) (by omega) (by omega))
          exact P1.seq P2 (by omega) (by omega) (by omega) (by omega) (by omega) (by omega) (by omega) (by omega) (by omega)
        · have kN := V1.2.1.nb
          unfold NBR STQ at kN
          obtain ⟨⟨f, b0, b1⟩, b2, b3, b4, b5, b6⟩ := R
          obtain ⟨g9, G1, G2, G3⟩ := x109 (dep := dep) (w := wdT tp t s) (p := s) (x := x) (lx := (0, n')) (e := e) b0
          obtain ⟨r9, H1, H2, H3, H4, H5⟩ := y357 (w := wdT tp t s) (p := s) (n := y') (e2 := e2) b1
          exact ⟨g9, r9, CC g9 (fun Q => by rw [C1]; exact (e7 Q).trans (G3 Q)), fun Q => by rw [R1]; exact (f7 Q).trans (H5 Q), .inr ⟨⟨f, G1, H1⟩, (Z.trans V1).2.2.1.2.trans (b2.trans G2), (Z.trans V1).2.2.2.2.trans (b3.trans H2), by omega, by omega, by omega⟩⟩
      · obtain ⟨⟨f, B1, B2⟩, F1', F2', b3, b4, b5⟩ := V
        have k2 := B1.k.2.2
        have i3 : ∀ (d : Nat) Q, Sp fz1 d 59 [(3, 129), (0, 44)] k Q = Q 0 k := fun d Q => c59b k2
        have q2 : ∀ (d : Nat) Q, Sp fz1 d 325 [(3, 6603)] kr Q = Q 0 kr := fun d Q => v325x B2
        obtain ⟨g9, G1, G2, G3⟩ := x109 (dep := dep) (w := wdT tp t s) (p := s) (x := 1) (lx := (0, 0)) (e := e) B1
        obtain ⟨r9, H1, H2, H3, H4, H5⟩ := y357 (w := wdT tp t s) (p := s) (n := 1) (e2 := e2) B2
        refine ⟨g9, r9, CC g9 (fun Q => ?_), fun Q => ?_, .inr ⟨⟨f, G1, H1⟩, Z.2.2.1.2.trans (F1'.trans G2), Z.2.2.2.2.trans (F2'.trans H2), by omega, by omega, by omega⟩⟩
        · rw [C1, ← G3 Q, q109_1]
          simp (implicitDefEqProofs := false) (disch := omega) only [b109_1, x_aload0, y_call28, y_call59, y_call86, x_gc_2051, x_goto_1, x_iadd, x_iconst, x_ifCond_eq_2, x_if_icmp_ge_2, x_iinc5, x_iinc6, x_iload4, x_iload6, klp_0, klp_1, klp_2, klp_3, klp_9, KC_0, KC_1, KC_2, KC_3, KC_4, ne_eq, not_false_eq_true, not_true_eq_false, true_and, and_true, and_self, implies_true, eq_self, true_imp_iff, false_implies, Int.reduceEq, Int.reduceNe, Int.reduceMod, Int.reduceMul, Int.reduceAdd, Int.reduceSub, Int.reduceLT, Int.reduceLE, Nat.reduceAdd, Nat.reduceLeDiff, Nat.reduceLT, Nat.reduceSub, reduceIte, wds_n, wds_0, wds_1, wds_2, wds_3, or_true, true_or, or_false, false_or, or_self, false_and, and_false, d_pos, d_s1, d_s2, d_s3, d_s4, d_s5, d_s6, d_s7, d_s8, Classical.not_not, z258_0, z258_7, z481_l, z258_8, z544_l, z258_9, z608_l, TC_0 hT, TC_k hT, i3, d_s9, d_s10, d_s11, d_s12, d_s13, d_s14, d_s15, d_s16, d_s17, d_s18, d_s19, d_s20, d_s21, d_s22, d_s23, d_s24, d_s25, d_s26, d_s27, d_s28, d_s29, d_s30, le_sub1, le_T, le_F, lt_T, lt_F, eq_F, w32_T, bz0, bz1, lc_le, lc_ge, lc_lt, lc_gt, lc_eq]
        · rw [R1, ← H5 Q, q357_3]
          simp (implicitDefEqProofs := false) (disch := omega) only [b357_3, x_aload0, y_call321, y_call325, y_call334, y_call350, x_goto_3, x_iconst, x_ifCond_eq_4, x_iinc4, klp_0, klp_1, klp_2, klp_3, klp_9, KC_0, KC_1, KC_2, KC_3, KC_4, ne_eq, not_false_eq_true, not_true_eq_false, true_and, and_true, and_self, implies_true, eq_self, true_imp_iff, false_implies, Int.reduceEq, Int.reduceNe, Int.reduceMod, Int.reduceMul, Int.reduceAdd, Int.reduceSub, Int.reduceLT, Int.reduceLE, Nat.reduceAdd, Nat.reduceLeDiff, Nat.reduceLT, Nat.reduceSub, reduceIte, wds_n, wds_0, wds_1, wds_2, wds_3, or_true, true_or, or_false, false_or, or_self, false_and, and_false, d_pos, d_s1, d_s2, d_s3, d_s4, d_s5, d_s6, d_s7, d_s8, Classical.not_not, z6603_20, z9761_l, z6603_21, z9824_l, z6603_22, z9888_l, z6603_23, z9952_l, q2, d_s9, d_s10, d_s11, d_s12, d_s13, d_s14, d_s15, d_s16, d_s17, d_s18, d_s19, d_s20, d_s21, d_s22, d_s23, d_s24, d_s25, d_s26, d_s27, d_s28, d_s29, d_s30, le_sub1, le_T, le_F, lt_T, lt_F, eq_F, w32_T, bz0, bz1, lc_le, lc_ge, lc_lt, lc_gt, lc_eq]
  · have B0 := D2.bad0
    obtain ⟨B1, B2, B3, B4, B5, B6, B7⟩ := B0
    obtain ⟨U1, U2, U3, U4⟩ := B2.d12 (x := 13)
    obtain ⟨g9, G1, G2, G3⟩ := x109 (dep := dep) (w := wdT tp t s) (p := s) (x := 0) (lx := (9, 0)) (e := e) B1
    obtain ⟨r9, H1, H2, H3, H4, H5⟩ := y357 (w := wdT tp t s) (p := s) (n := 0) (e2 := e2) U1
    have dp : ∀ Q, Sp fz1 (e2 + 12) 344 [(3, 6603)] gr2 Q = Q 0 (hset (bdR gr2) 6603 12 13) := fun Q => v344x (by omega) (by omega)
    have op : ∀ Q, Sp fz1 (e + 10) 79 [(3, 258), (0, 40), (0, dep)] g2 Q = Q 0 (bdH g2) := fun Q => c79f D2 (by decide) (fun u => z u.1)
    have st41 : ∀ Q, Sp fz1 (e + 10) 41 [(3, 258)] (bdH g2) Q = Q 0 (bdH g2) := fun Q => b41 B1
    have s14 : r9 S 14 = gr2 S 14 := by rw [H3, U3]; exact B5
    have s15 : r9 S 15 = gr2 S 15 := by rw [H4, U3]; exact B6
    have fr := B4.trans (U2.trans H2)
    generalize hset (bdR gr2) 6603 12 13 = k1 at *
    have r7 : 0 ≤ k1 6603 7 := by have := U1.2.1; omega
    obtain ⟨k2, hk2⟩ : ∃ k2, k2 = k1 := ⟨_, rfl⟩
    have sb7 : ∀ Q, Sp fz1 (e2 + 12) 333 [(3, 6603), (0, 40)] k1 Q = Q 0 k2 := fun Q => by rw [hk2]; exact v333b r7
    have q2 : ∀ (d : Nat) Q, Sp fz1 d 325 [(3, 6603)] k2 Q = Q 0 k2 := fun d Q => by rw [hk2]; exact v325x U1
    rw [← hk2] at H5
    have n15 : gr2 S 14 = g2 T 15 := by omega
    refine ⟨g9, r9, CC g9 (fun Q => ?_), fun Q => ?_, .inr ⟨⟨_, G1, H1⟩, Z0.2.2.1.2.trans (B3.trans G2), Z0.2.2.2.2.trans fr, by omega, by omega, by omega⟩⟩
    · rw [← G3 Q]
      simp (implicitDefEqProofs := false) (disch := omega) only [sp109, b109_0, x_aload0, y_call41, y_call59, y_call79, y_call86, x_gc_2051, x_goto_1, x_iadd, x_iconst, x_ifCond_eq_2, x_ifCond_ne_2, x_iinc5, x_iload4, x_istore5, x_istore6, klp_0, klp_1, klp_2, klp_3, klp_9, KC_0, KC_1, KC_2, KC_3, KC_4, ne_eq, not_false_eq_true, not_true_eq_false, true_and, and_true, and_self, implies_true, eq_self, true_imp_iff, false_implies, Int.reduceEq, Int.reduceNe, Int.reduceMod, Int.reduceMul, Int.reduceAdd, Int.reduceSub, Int.reduceLT, Int.reduceLE, Nat.reduceAdd, Nat.reduceLeDiff, Nat.reduceLT, Nat.reduceSub, reduceIte, wds_n, wds_0, wds_1, wds_2, wds_3, or_true, true_or, or_false, false_or, or_self, false_and, and_false, d_pos, d_s1, d_s2, d_s3, d_s4, d_s5, d_s6, d_s7, d_s8, Classical.not_not, z258_0, z258_7, z481_l, z258_8, z544_l, z258_9, z608_l, TC_0 hT, TC_k hT, op, st41, d_s9, d_s10, d_s11, d_s12, d_s13, d_s14, d_s15, d_s16, d_s17, d_s18, d_s19, d_s20, d_s21, d_s22, d_s23, d_s24, d_s25, d_s26, d_s27, d_s28, d_s29, d_s30, le_sub1, le_T, le_F, lt_T, lt_F, eq_F, w32_T, bz0, bz1, lc_le, lc_ge, lc_lt, lc_gt, lc_eq]
    · rw [← H5 Q]
      simp (implicitDefEqProofs := false) (disch := omega) only [sp357, b357_0, b357_1, b357_2, q357_1, q357_2, x_aload0, y_call325, y_call330, y_call333, y_call334, y_call344, y_call346, y_call347, y_call350, y_call355, y_call358, x_gf_11288, x_goto_3, x_iconst, x_ifCond_eq_4, x_ifCond_ne_1, x_ifCond_ne_2, x_ifCond_ne_4, x_iload3, x_istore3, x_istore4, x_lload1, x_lstore1, x_return, klp_0, klp_1, klp_2, klp_3, klp_9, KC_0, KC_1, KC_2, KC_3, KC_4, ne_eq, not_false_eq_true, not_true_eq_false, true_and, and_true, and_self, implies_true, eq_self, true_imp_iff, false_implies, Int.reduceEq, Int.reduceNe, Int.reduceMod, Int.reduceMul, Int.reduceAdd, Int.reduceSub, Int.reduceLT, Int.reduceLE, Nat.reduceAdd, Nat.reduceLeDiff, Nat.reduceLT, Nat.reduceSub, reduceIte, wds_n, wds_0, wds_1, wds_2, wds_3, or_true, true_or, or_false, false_or, or_self, false_and, and_false, d_pos, d_s1, d_s2, d_s3, d_s4, d_s5, d_s6, d_s7, d_s8, Classical.not_not, z6603_20, z9761_l, z6603_21, z9824_l, z6603_22, z9888_l, z6603_23, z9952_l, nd, nmw, t3, st, q1, sgr, dp, sb7, q2, d_s9, d_s10, d_s11, d_s12, d_s13, d_s14, d_s15, d_s16, d_s17, d_s18, d_s19, d_s20, d_s21, d_s22, d_s23, d_s24, d_s25, d_s26, d_s27, d_s28, d_s29, d_s30, le_sub1, le_T, le_F, lt_T, lt_F, eq_F, w32_T, bz0, bz1, lc_le, lc_ge, lc_lt, lc_gt, lc_eq]
end SM
