/-! THE PURE SIDE, 160: reals in exps on both sides: printed by wip/tools/gen8m.py -/
theorem uF_pow : ∀ n : Nat, uF n = ((10 ^ n : Nat) : Int)
  | 0 => rfl
  | n + 1 => by
    rw [uF, uF_pow n, Nat.pow_succ]
    omega
section SM
variable {bX : Int} {tp : Int → Int} {t T S s s1 s2 f : Int} {h hr g gr k kr m mr : HV} {Q : Int → HV → Prop} {d : Nat}
theorem rl_ok (hk : tkK tp t s = 3) (h0 : 0 ≤ s ∧ s ≤ t ∧ t ≤ 2400) : CANR (rlV tp t s) ∧ 0 ≤ rlV tp t s ∧ ∀ (d : Nat) (h : HV) Q, Sp fz1 (d + 3) 96 [(1, nuW tp t s), (0, nuF tp t s - (nuE tp t s + 1))] h Q = Q (rlV tp t s) h := by
  obtain ⟨-, -, n1, n2, n3⟩ := nuW_n (tp := tp) h0.1 h0.2.1 h0.2.2 hk
  obtain ⟨k, hk2⟩ : ∃ k : Nat, nuF tp t s - (nuE tp t s + 1) = k := ⟨(nuF tp t s - (nuE tp t s + 1)).toNat, by omega⟩
  have e : rlV tp t s = d_I (FP.ddiv (FP.l2d (Int64.ofInt (nuW tp t s))) (FP.l2d (Int64.ofInt ((10 ^ k : Nat) : Int)))) := by
    unfold rlV
    rw [hk2, uF_pow, show ((k : Int)).toNat = k by omega]
  obtain ⟨a, b, c⟩ := div_real (D := nuW tp t s) (k := k) n2 (by omega) (by omega)
  rw [e]
  refine ⟨b, c, fun d h Q => ?_⟩
  rw [hk2, s96 n2 (by omega) (by omega), a]
theorem q107 {v : Int} (hT : TC T) (hp : h 258 1 = T) (hl : 0 ≤ h T 17 ∧ h T 17 ≤ 2400) (hv : 0 ≤ v ∧ v < 9223372036854775808) : Sp fz1 (d + 2) 107 [(3, 258), (1, v)] h Q = Q 0 (emH T (emH T (emH T h 4) (v / 4294967296)) (w32 v)) := by
  have kT := kTC hT
  have sh : l_shr v 32 = v / 4294967296 := l_shr_eq (x := v) (n := 32) (by omega) (by decide)
  have i1 : w32 (v / 4294967296) = v / 4294967296 := w32_id (by omega)
  have W1 : ∀ Q, Sp fz1 (d + 1) 93 [(3, 258), (0, 4), (0, v / 4294967296)] h Q = Q 0 (emH T (emH T h 4) (v / 4294967296)) := fun Q => q93 hT hp hl
  have b1 := em_b (T := T) (h := h) (x := 4) hl
  have b2 := em_b (T := T) (h := emH T h 4) (x := v / 4294967296) b1
  have i2 : emH T (emH T h 4) (v / 4294967296) 258 1 = T := by rw [em_ne (by omega) (by omega), em_ne (by omega) (by omega)]; exact hp
  have W2 : ∀ Q, Sp fz1 (d + 1) 82 [(3, T), (0, w32 v)] (emH T (emH T h 4) (v / 4294967296)) Q = Q 0 (emH T (emH T (emH T h 4) (v / 4294967296)) (w32 v)) := fun Q => q82 hT b2.1
  simp (implicitDefEqProofs := false) (disch := omega) only [sp107, b107_0, x_aload0, y_call82, y_call93, x_gf_2059, x_iconst, x_l2i, x_lload1, x_lshr, x_return, klp_0, klp_1, klp_2, klp_3, klp_9, KC_0, KC_1, KC_2, KC_3, KC_4, ne_eq, not_false_eq_true, not_true_eq_false, true_and, and_true, and_self, implies_true, eq_self, true_imp_iff, false_implies, Int.reduceEq, Int.reduceNe, Int.reduceMod, Int.reduceMul, Int.reduceAdd, Int.reduceSub, Int.reduceLT, Int.reduceLE, Nat.reduceAdd, Nat.reduceLeDiff, Nat.reduceLT, Nat.reduceSub, reduceIte, wds_n, wds_0, wds_1, wds_2, wds_3, or_true, true_or, or_false, false_or, or_self, false_and, and_false, d_pos, d_s1, d_s2, d_s3, d_s4, d_s5, d_s6, d_s7, d_s8, Classical.not_not, TC_0 hT, TC_k hT, hp, W1, W2, sh, i1, i2, d_s9, d_s10, d_s11, d_s12, d_s13, d_s14, d_s15, d_s16, d_s17, d_s18, d_s19, d_s20, d_s21, d_s22, d_s23, d_s24, d_s25, d_s26, d_s27, d_s28, d_s29, d_s30, le_sub1, le_T, le_F, lt_T, lt_F, eq_F, w32_T, bz0, bz1, lc_le, lc_ge, lc_lt, lc_gt, lc_eq]
theorem real_pair {dep : Int} {e e2 : Nat} (D : GD 1 tp t T S s h hr) (hk : tkK tp t s = 3) : ∃ g gr, (∀ Q, Sp fz1 (e + 13) 91 [(3, 258), (0, dep)] h Q = Q 0 g) ∧ (∀ Q, Sp fz1 (e2 + 14) 354 [(3, 6603)] hr Q = Q 0 gr) ∧ OUTC 1 tp t T S s h hr g gr 1 0 := by
  have F := D.f
  have N := D.nb
  have S0 := D.sb
  have hT := D.2.1.1.1
  have hS := D.2.1.2.1
  have kT := kTC D.2.1.1.1
  have kS := kTR D.2.1.2.1
  have KF := D.1.2.2.1
  unfold NBR STQ at N
  obtain ⟨r1, r2, r3⟩ := rl_ok hk S0
  have r4 : rlV tp t s < 9223372036854775808 := by have := r1.1; omega
  have np : ¬ sgP tp t s 40 := fun w => by have := w.1; omega
  have v5 : fdW wBASES tp t s = -1 := fdW_n (by omega)
  have k5 : hr 6603 2 = 3 := by have := KF.2.2.2.2; omega
  obtain ⟨g1, gr1, f1, X⟩ := D.node (e + 10) (e2 + 12)
  rcases X with ⟨e1, X1, X2, X3, X4, X5⟩ | ⟨⟨k0, e1, e1p⟩, X1, X2, X3, X4, X5⟩
  · have X2' := X2
    have X3' := X3
    unfold NC at X2'
    unfold NR at X3'
    have D1 := X1.2.1
    have F1 := D1.f
    have n1 := D1.nb
    unfold NBR STQ at n1
    have kd : g1 129 4 = tkK tp t s := D1.1.2.1.1.2.2.2.2
    have sg : ∀ (d : Nat) Q, Sp fz1 d 59 [(3, 129), (0, 40)] h Q = Q 0 h := fun d Q => c59n D (by decide) np
    have f5 : ∀ Q, Sp fz1 (e + 12) 45 [(3, 129), (3, NV_691)] g1 Q = Q (-1) g1 := fun Q => by rw [D1.fd5 (e + 7) Q, v5]
    have dg := (D1.1.2.1.2.2.2.1 hk).1
    have pl := (D1.1.2.1.2.2.2.1 hk).2
    have c96 : ∀ Q, Sp fz1 (e + 12) 96 [(1, nuW tp t s), (0, nuF tp t s - (nuE tp t s + 1))] g1 Q = Q (rlV tp t s) g1 := fun Q => r3 (e + 9) g1 Q
    have c107 : ∀ Q, Sp fz1 (e + 12) 107 [(3, 258), (1, rlV tp t s)] g1 Q = Q 0 (emH T (emH T (emH T g1 4) (rlV tp t s / 4294967296)) (w32 (rlV tp t s))) := fun Q => q107 hT D1.2.1.1.2 (by omega) ⟨r2, r4⟩
    obtain ⟨E0, M0, L0⟩ := D1.em (x := 4) (by omega)
    have M0' := M0
    unfold NC at M0'
    obtain ⟨E1, M1, L1⟩ := E0.2.1.em (x := rlV tp t s / 4294967296) (by omega)
    have M1' := M1
    unfold NC at M1'
    obtain ⟨E2, M2, L2⟩ := E1.2.1.em (x := w32 (rlV tp t s)) (by omega)
    have M2' := M2
    unfold NC at M2'
    obtain ⟨C1, C2, C3, C4⟩ := E2.2.1.rl (v := rlV tp t s) (by omega) (by omega)
    have C2' := C2
    unfold NR at C2'
    have hre : gr1 6603 6 = rlV tp t s := D1.1.2.2.2.2.1 hk
    have q1 : ∀ (d : Nat) Q, Sp fz1 d 325 [(3, 6603)] gr1 Q = Q 1 gr1 := fun d Q => v325g D1
    have h9 : gr1 6603 9 = S := D1.2.1.2.2
    have b20 : 0 ≤ gr1 S 20 ∧ gr1 S 20 < 401 := by omega
    have cd : ∀ Q, Sp fz1 (e2 + 13) 347 [(3, 6603), (0, 2), (0, gr1 S 20), (0, 0)] (hset gr1 (S + 1174) (gr1 S 20) (rlV tp t s)) Q = Q (gr1 S 15) (cdR S (hset gr1 (S + 1174) (gr1 S 20) (rlV tp t s)) 2 (gr1 S 20) 0) := fun Q => by
      have eq : hset gr1 (S + 1174) (gr1 S 20) (rlV tp t s) S 15 = gr1 S 15 := by rw [hs_ne (by omega)]
      rw [v347 (S := S) hS (by rw [hs_ne (by omega)]; exact h9) (by rw [eq]; omega), eq]
    have rle : rlH S gr1 (rlV tp t s) = hset (cdR S (hset gr1 (S + 1174) (gr1 S 20) (rlV tp t s)) 2 (gr1 S 20) 0) S 20 (gr1 S 20 + 1) := rfl
    have cs : ∀ (b : HV) (x : Int), cdR S b 2 (gr1 S 20) 0 6603 x = b 6603 x := fun b x => by
      unfold cdR
      rw [hs_ne (by omega), hs_ne (by omega), hs_ne (by omega), hs_ne (by omega)]
    have c20 : cdR S (hset gr1 (S + 1174) (gr1 S 20) (rlV tp t s)) 2 (gr1 S 20) 0 S 20 = gr1 S 20 := by
      unfold cdR
      rw [hs_ne (by omega), hs_ne (by omega), hs_ne (by omega), hcell (by decide), hs_ne (by omega)]
    obtain ⟨g2, gr2, Y1, Y2, -, -, Y3, Y4, Y5, Y6, e3, f3⟩ := C1.2.1.nx (e + 4) (e2 + 10)
    have Y3' := Y3
    have Y4' := Y4
    unfold NC at Y3'
    unfold NR at Y4'
    have st : ∀ Q, Sp fz1 (e2 + 13) 355 [(3, 6603)] (rlH S gr1 (rlV tp t s)) Q = Q 0 gr2 := fun Q => by
      have q2 : ∀ (d : Nat) Q, Sp fz1 d 325 [(3, 6603)] (rlH S gr1 (rlV tp t s)) Q = Q 1 (rlH S gr1 (rlV tp t s)) := fun d Q => v325g C1.2.1
      simp (implicitDefEqProofs := false) (disch := omega) only [sp355, b355_0, b355_1, q355_1, x_aload0, y_call321, y_call325, x_goto_1, x_ifCond_eq_1, x_return, klp_0, klp_1, klp_2, klp_3, klp_9, KC_0, KC_1, KC_2, KC_3, KC_4, ne_eq, not_false_eq_true, not_true_eq_false, true_and, and_true, and_self, implies_true, eq_self, true_imp_iff, false_implies, Int.reduceEq, Int.reduceNe, Int.reduceMod, Int.reduceMul, Int.reduceAdd, Int.reduceSub, Int.reduceLT, Int.reduceLE, Nat.reduceAdd, Nat.reduceLeDiff, Nat.reduceLT, Nat.reduceSub, reduceIte, wds_n, wds_0, wds_1, wds_2, wds_3, or_true, true_or, or_false, false_or, or_self, false_and, and_false, d_pos, d_s1, d_s2, d_s3, d_s4, d_s5, d_s6, d_s7, d_s8, Classical.not_not, q2, f3, d_s9, d_s10, d_s11, d_s12, d_s13, d_s14, d_s15, d_s16, d_s17, d_s18, d_s19, d_s20, d_s21, d_s22, d_s23, d_s24, d_s25, d_s26, d_s27, d_s28, d_s29, d_s30, le_sub1, le_T, le_F, lt_T, lt_F, eq_F, w32_T, bz0, bz1, lc_le, lc_ge, lc_lt, lc_gt, lc_eq]
    rw [rle] at st
    have GA := ((((X1.trans E0).trans E1).trans E2).trans C1).trans Y1
    refine ⟨g2, gr2, fun Q => ?_, fun Q => ?_, one_out D GA (NVR.same (by omega)) (by unfold DXP; omega) (by omega) (fun K V CL A => ?_)⟩
    · simp (implicitDefEqProofs := false) (disch := omega) only [sp91, b91_0, b91_1, n91_2, b91_3, n91_4, b91_5, b91_6, b91_7, q91_1, q91_2, q91_3, q91_4, q91_5, q91_6, q91_7, x_aload0, y_call107, y_call108, y_call110, y_call28, y_call43, y_call45, y_call59, y_call62, y_call82, y_call90, y_call92, y_call93, y_call94, y_call95, y_call96, x_gc_2051, x_gf_2059, x_goto_2, x_goto_6, x_goto_7, x_iconst, x_ifCond_eq_1, x_ifCond_ge_6, x_ifCond_lt_7, x_ifCond_ne_2, x_ifCond_ne_5, x_if_icmp_ne_3, x_if_icmp_ne_4, x_iload1, x_iload2, x_iload3, x_istore2, x_istore3, x_jsr, x_return, klp_0, klp_1, klp_2, klp_3, klp_9, KC_0, KC_1, KC_2, KC_3, KC_4, ne_eq, not_false_eq_true, not_true_eq_false, true_and, and_true, and_self, implies_true, eq_self, true_imp_iff, false_implies, Int.reduceEq, Int.reduceNe, Int.reduceMod, Int.reduceMul, Int.reduceAdd, Int.reduceSub, Int.reduceLT, Int.reduceLE, Nat.reduceAdd, Nat.reduceLeDiff, Nat.reduceLT, Nat.reduceSub, reduceIte, wds_n, wds_0, wds_1, wds_2, wds_3, or_true, true_or, or_false, false_or, or_self, false_and, and_false, d_pos, d_s1, d_s2, d_s3, d_s4, d_s5, d_s6, d_s7, d_s8, Classical.not_not, z258_0, TC_0 hT, TC_k hT, sg, e1, c43, kd, hk, f5, q94, q95, dg, pl, c96, c107, e3, d_s9, d_s10, d_s11, d_s12, d_s13, d_s14, d_s15, d_s16, d_s17, d_s18, d_s19, d_s20, d_s21, d_s22, d_s23, d_s24, d_s25, d_s26, d_s27, d_s28, d_s29, d_s30, le_sub1, le_T, le_F, lt_T, lt_F, eq_F, w32_T, bz0, bz1, lc_le, lc_ge, lc_lt, lc_gt, lc_eq]
    · simp (implicitDefEqProofs := false) (disch := omega) only [sp354, b354_0, b354_1, b354_2, n354_3, b354_4, b354_5, b354_6, b354_7, q354_1, q354_2, q354_3, q354_4, q354_5, q354_6, q354_7, x_aload0, y_call325, y_call327, y_call329, y_call334, y_call346, y_call347, y_call355, y_call356, y_call357, y_call359, x_dastore, x_dup0, x_dup3, x_gc_12443, x_gf_11280, x_gf_11304, x_gf_11314, x_gf_11339, x_gf_12448, x_goto_2, x_goto_7, x_iadd, x_iconst, x_ifCond_eq_2, x_ifCond_eq_4, x_ifCond_eq_5, x_ifCond_eq_6, x_if_icmp_ne_1, x_if_icmp_ne_3, x_jsr, x_pf_12448, x_pop0, x_pop3, x_return, klp_0, klp_1, klp_2, klp_3, klp_9, KC_0, KC_1, KC_2, KC_3, KC_4, ne_eq, not_false_eq_true, not_true_eq_false, true_and, and_true, and_self, implies_true, eq_self, true_imp_iff, false_implies, Int.reduceEq, Int.reduceNe, Int.reduceMod, Int.reduceMul, Int.reduceAdd, Int.reduceSub, Int.reduceLT, Int.reduceLE, Nat.reduceAdd, Nat.reduceLeDiff, Nat.reduceLT, Nat.reduceSub, reduceIte, wds_n, wds_0, wds_1, wds_2, wds_3, or_true, true_or, or_false, false_or, or_self, false_and, and_false, d_pos, d_s1, d_s2, d_s3, d_s4, d_s5, d_s6, d_s7, d_s8, Classical.not_not, r19 hS, r19l hS, r19k hS, TR_0 hS, TR_k hS, k5, f1, q1, h9, hre, cd, cs, c20, st, hs_ne, hcell, hcel1, d_s9, d_s10, d_s11, d_s12, d_s13, d_s14, d_s15, d_s16, d_s17, d_s18, d_s19, d_s20, d_s21, d_s22, d_s23, d_s24, d_s25, d_s26, d_s27, d_s28, d_s29, d_s30, le_sub1, le_T, le_F, lt_T, lt_F, eq_F, w32_T, bz0, bz1, lc_le, lc_ge, lc_lt, lc_gt, lc_eq]
    · have z0 := A.cel (by omega) (((L0.ec E1.2.2.1.1 (by omega)).ec E2.2.2.1.1 (by omega)).ec Y1.2.2.1.1 (by omega))
      have z1 := A.cel (by omega) ((L1.ec E2.2.2.1.1 (by omega)).ec Y1.2.2.1.1 (by omega))
      have z2 := A.cel (by omega) (L2.ec Y1.2.2.1.1 (by omega))
      have y := A.rco (by omega) (C4.er Y1.2.2.2.1 (by omega))
      have w := A.2.2.1 (gr1 S 20) b20.1 (by omega)
      rw [Y1.2.2.2.1.2.1.2 (gr1 S 20) b20.1 b20.1 (by omega), C3] at w
      have y2 := y.2.1 (by decide) (by decide) (by decide)
      have P := e_REAL (K := K) (V := V) (CL := CL) (c := h T 17) (r := hr S 15) (by omega) (by omega) (by rw [show h T 17 = g1 T 17 by omega]; exact z0) (by rw [show hr S 15 = gr1 S 15 by omega]; exact y.1) (by rw [show hr S 15 = gr1 S 15 by omega, y2]; omega) (by rw [show hr S 15 = gr1 S 15 by omega, y2, w, show h T 17 + 1 = emH T g1 4 T 17 by omega, show h T 17 + 2 = emH T (emH T g1 4) (rlV tp t s / 4294967296) T 17 by omega]; exact ⟨r1, r2, z1, z2⟩)
      rw [show g2 T 17 = h T 17 + 3 by omega]
      exact P
  · obtain ⟨g9, G1, G2, G3⟩ := b91n (dep := dep) D np X1 e1 e1p
    have r14 : gr1 S 14 = hr S 14 := by rw [X5]; unfold bdR; rw [hs_ne (by omega)]
    have r15 : gr1 S 15 = hr S 15 := by rw [X5]; unfold bdR; rw [hs_ne (by omega)]
    have q1 : ∀ (d : Nat) Q, Sp fz1 d 325 [(3, 6603)] gr1 Q = Q 0 gr1 := fun d Q => v325x X2
    have st : ∀ Q, Sp fz1 (e2 + 13) 355 [(3, 6603)] gr1 Q = Q 0 gr1 := fun Q => v355b (by have := X2.2.1; omega)
    refine ⟨g9, gr1, G3, fun Q => ?_, .inr ⟨⟨s, G1, X2⟩, X3.trans G2, X4, by omega, by omega, by omega⟩⟩
    simp (implicitDefEqProofs := false) (disch := omega) only [sp354, b354_0, b354_1, b354_2, n354_3, b354_4, b354_5, b354_6, b354_7, q354_1, q354_2, q354_3, q354_4, q354_5, q354_6, q354_7, x_aload0, y_call325, y_call327, y_call329, y_call334, y_call346, y_call347, y_call355, y_call356, y_call357, y_call359, x_dastore, x_dup0, x_dup3, x_gc_12443, x_gf_11280, x_gf_11304, x_gf_11314, x_gf_11339, x_gf_12448, x_goto_2, x_goto_7, x_iadd, x_iconst, x_ifCond_eq_2, x_ifCond_eq_4, x_ifCond_eq_5, x_ifCond_eq_6, x_if_icmp_ne_1, x_if_icmp_ne_3, x_jsr, x_pf_12448, x_pop0, x_pop3, x_return, klp_0, klp_1, klp_2, klp_3, klp_9, KC_0, KC_1, KC_2, KC_3, KC_4, ne_eq, not_false_eq_true, not_true_eq_false, true_and, and_true, and_self, implies_true, eq_self, true_imp_iff, false_implies, Int.reduceEq, Int.reduceNe, Int.reduceMod, Int.reduceMul, Int.reduceAdd, Int.reduceSub, Int.reduceLT, Int.reduceLE, Nat.reduceAdd, Nat.reduceLeDiff, Nat.reduceLT, Nat.reduceSub, reduceIte, wds_n, wds_0, wds_1, wds_2, wds_3, or_true, true_or, or_false, false_or, or_self, false_and, and_false, d_pos, d_s1, d_s2, d_s3, d_s4, d_s5, d_s6, d_s7, d_s8, Classical.not_not, r19 hS, r19l hS, r19k hS, TR_0 hS, TR_k hS, k5, f1, q1, st, hs_ne, hcell, hcel1, d_s9, d_s10, d_s11, d_s12, d_s13, d_s14, d_s15, d_s16, d_s17, d_s18, d_s19, d_s20, d_s21, d_s22, d_s23, d_s24, d_s25, d_s26, d_s27, d_s28, d_s29, d_s30, le_sub1, le_T, le_F, lt_T, lt_F, eq_F, w32_T, bz0, bz1, lc_le, lc_ge, lc_lt, lc_gt, lc_eq]
end SM
