/-! THE PURE SIDE, 161: bases on both sides: printed by wip/tools/gen8n.py -/
section SM
variable {bX : Int} {tp : Int → Int} {t T S s s1 s2 f : Int} {h hr g gr k kr m mr : HV} {Q : Int → HV → Prop} {d : Nat}
theorem TKf.bad {fu : Int} (K : TKf tp t s fu hr) : TKf tp t s s (bdR hr) := by
  obtain ⟨⟨a1, a2, a3, a4, a5⟩, r1, r2, r3⟩ := K
  have e : ∀ i, i ≠ 7 → bdR hr 6603 i = hr 6603 i := fun i w => hcell w
  have e0 : bdR hr 6691 = hr 6691 := hs_ne (by decide)
  unfold TKf
  rw [e 1 (by decide), e 3 (by decide), e 4 (by decide), e 2 (by decide), e 5 (by decide), e 6 (by decide), e0]
  exact ⟨⟨a1, by unfold bdR; rw [hcel1]; exact a3, a3, a4, a5⟩, r1, r2, r3⟩
/-- a name as a base -/
theorem name_pair {dep : Int} {B e e2 : Nat} (he : B ≤ e + 10) (he2 : B ≤ e2 + 12) (O : dep < 12 → EXPQ tp t T S (dep + 1) B) (D : GD 1 tp t T S s h hr) (hn : nmP tp t s) (hd : hr 6603 12 = dep ∧ 1 ≤ h 258 11 ∧ h 258 11 ≤ dep + 1) (hd2 : 0 ≤ dep ∧ dep ≤ 12) : ∃ g gr, (∀ Q, Sp fz1 (e + 13) 91 [(3, 258), (0, dep)] h Q = Q 0 g) ∧ (∀ Q, Sp fz1 (e2 + 14) 354 [(3, 6603)] hr Q = Q 0 gr) ∧ OUTC 1 tp t T S s h hr g gr 1 0 := by
  have F := D.f
  have N := D.nb
  have S0 := D.sb
  have hT := D.2.1.1.1
  have kT := kTC D.2.1.1.1
  have kS := kTR D.2.1.2.1
  have KF := D.1.2.2.1
  have hk := hn.1
  unfold NBR STQ at N
  have np : ¬ sgP tp t s 40 := fun w => by have := w.1; omega
  have w0 : wdT tp t s ≠ 1852796517 := fun w => hn.2 (by rw [w]; decide +kernel)
  have wb : ¬ wdT tp t s ∈ wBASES := fun w => hn.2 ((wRES_m _).mpr (by simp (implicitDefEqProofs := false) only [List.mem_append]; exact .inl (.inr w)))
  have k5 : hr 6603 2 = 1 := by have := KF.2.2.2.2; omega
  have ino : ∀ Q, Sp fz1 (e2 + 13) 327 [(3, 6603), (3, NV_1331)] hr Q = Q 0 hr := fun Q => by rw [NV_1331_e, iw_none (d := e2 + 8) D.1.2.2 D.1.1 D.2.2.1.2]; exact congrArg (fun x => Q x hr) (if_neg (fun u => w0 u.2))
  have sgr : ∀ (d : Nat) Q, Sp fz1 d 334 [(3, 6603), (0, 40)] hr Q = Q 0 hr := fun d Q => v334n D np
  have nmr : ∀ Q, Sp fz1 (e2 + 13) 329 [(3, 6603)] hr Q = Q 1 hr := fun Q => by
    have z : tkK tp t s = 1 ∧ ¬ wdT tp t s ∈ wRES := hn
    rw [v329 (d := e2 + 7) D.1.2.2 D.1.1 D.2.2.1.2]
    exact congrArg (fun x => Q x hr) (if_pos z)
  have RR : ∀ gr, (∀ Q, Sp fz1 (e2 + 13) 357 [(3, 6603)] hr Q = Q 0 gr) → ∀ Q, Sp fz1 (e2 + 14) 354 [(3, 6603)] hr Q = Q 0 gr := fun gr e9 Q => by
    simp (implicitDefEqProofs := false) (disch := omega) only [sp354, b354_0, b354_1, b354_2, n354_3, b354_4, b354_5, b354_6, b354_7, q354_1, q354_2, q354_3, q354_4, q354_5, q354_6, q354_7, x_aload0, y_call325, y_call327, y_call329, y_call334, y_call346, y_call347, y_call355, y_call356, y_call357, y_call359, x_dastore, x_dup0, x_dup3, x_gc_12443, x_gf_11280, x_gf_11304, x_gf_11314, x_gf_11339, x_gf_12448, x_goto_2, x_goto_7, x_iadd, x_iconst, x_ifCond_eq_2, x_ifCond_eq_4, x_ifCond_eq_5, x_ifCond_eq_6, x_if_icmp_ne_1, x_if_icmp_ne_3, x_jsr, x_pf_12448, x_pop0, x_pop3, x_return, klp_0, klp_1, klp_2, klp_3, klp_9, KC_0, KC_1, KC_2, KC_3, KC_4, ne_eq, not_false_eq_true, not_true_eq_false, true_and, and_true, and_self, implies_true, eq_self, true_imp_iff, false_implies, Int.reduceEq, Int.reduceNe, Int.reduceMod, Int.reduceMul, Int.reduceAdd, Int.reduceSub, Int.reduceLT, Int.reduceLE, Nat.reduceAdd, Nat.reduceLeDiff, Nat.reduceLT, Nat.reduceSub, reduceIte, wds_n, wds_0, wds_1, wds_2, wds_3, or_true, true_or, or_false, false_or, or_self, false_and, and_false, d_pos, d_s1, d_s2, d_s3, d_s4, d_s5, d_s6, d_s7, d_s8, Classical.not_not, k5, ino, sgr, nmr, e9, d_s9, d_s10, d_s11, d_s12, d_s13, d_s14, d_s15, d_s16, d_s17, d_s18, d_s19, d_s20, d_s21, d_s22, d_s23, d_s24, d_s25, d_s26, d_s27, d_s28, d_s29, d_s30, le_sub1, le_T, le_F, lt_T, lt_F, eq_F, w32_T, bz0, bz1, lc_le, lc_ge, lc_lt, lc_gt, lc_eq]
  by_cases n1 : h T 15 < 400 ∧ h 258 3 < 30
  · obtain ⟨X1, X2, X3, X4⟩ := D.nd n1.1 n1.2
    have D1 := X1.2.1
    have e1 : ∀ Q, Sp fz1 (e + 12) 90 [(3, 258)] h Q = Q 1 (ndH T h) := fun Q => q90g hT D.2.1.1.2 (by omega) (by omega)
    have kd : ndH T h 129 4 = 1 := by have := D1.1.2.1.1.2.2.2.2; omega
    have sg : ∀ (d : Nat) Q, Sp fz1 d 59 [(3, 129), (0, 40)] h Q = Q 0 h := fun d Q => c59n D (by decide) np
    have v5 : fdW wBASES tp t s < 0 := by
      rw [fdW_y hk]
      exact (ix_mem wBASES 0 (by decide)).mpr wb
    have v10 : fdW [1852796517] tp t s = -1 := by
      rw [fdW_y hk]
      unfold ix
      rw [if_neg (fun q => w0 q.symm)]
      rfl
    have f5 : ∀ Q, Sp fz1 (e + 12) 45 [(3, 129), (3, NV_691)] (ndH T h) Q = Q (fdW wBASES tp t s) (ndH T h) := fun Q => D1.fd5 (e + 7) Q
    have f10 : ∀ Q, Sp fz1 (e + 12) 45 [(3, 129), (3, NV_1331)] (ndH T h) Q = Q (-1) (ndH T h) := fun Q => by rw [D1.fd10 (e + 7) Q, v10]
    have CC : ∀ g, (∀ Q, Sp fz1 (e + 12) 108 [(3, 258), (0, dep)] (ndH T h) Q = Q 0 g) → ∀ Q, Sp fz1 (e + 13) 91 [(3, 258), (0, dep)] h Q = Q 0 g := fun g e9 Q => by
      simp (implicitDefEqProofs := false) (disch := omega) only [sp91, b91_0, b91_1, n91_2, b91_3, n91_4, b91_5, b91_6, b91_7, q91_1, q91_2, q91_3, q91_4, q91_5, q91_6, q91_7, x_aload0, y_call107, y_call108, y_call110, y_call28, y_call43, y_call45, y_call59, y_call62, y_call82, y_call90, y_call92, y_call93, y_call94, y_call95, y_call96, x_gc_2051, x_gf_2059, x_goto_2, x_goto_6, x_goto_7, x_iconst, x_ifCond_eq_1, x_ifCond_ge_6, x_ifCond_lt_7, x_ifCond_ne_2, x_ifCond_ne_5, x_if_icmp_ne_3, x_if_icmp_ne_4, x_iload1, x_iload2, x_iload3, x_istore2, x_istore3, x_jsr, x_return, klp_0, klp_1, klp_2, klp_3, klp_9, KC_0, KC_1, KC_2, KC_3, KC_4, ne_eq, not_false_eq_true, not_true_eq_false, true_and, and_true, and_self, implies_true, eq_self, true_imp_iff, false_implies, Int.reduceEq, Int.reduceNe, Int.reduceMod, Int.reduceMul, Int.reduceAdd, Int.reduceSub, Int.reduceLT, Int.reduceLE, Nat.reduceAdd, Nat.reduceLeDiff, Nat.reduceLT, Nat.reduceSub, reduceIte, wds_n, wds_0, wds_1, wds_2, wds_3, or_true, true_or, or_false, false_or, or_self, false_and, and_false, d_pos, d_s1, d_s2, d_s3, d_s4, d_s5, d_s6, d_s7, d_s8, Classical.not_not, z258_0, TC_0 hT, TC_k hT, sg, e1, c43, kd, f5, f10, e9, d_s9, d_s10, d_s11, d_s12, d_s13, d_s14, d_s15, d_s16, d_s17, d_s18, d_s19, d_s20, d_s21, d_s22, d_s23, d_s24, d_s25, d_s26, d_s27, d_s28, d_s29, d_s30, le_sub1, le_T, le_F, lt_T, lt_F, eq_F, w32_T, bz0, bz1, lc_le, lc_ge, lc_lt, lc_gt, lc_eq]
    by_cases z : sgP tp t (nxS tp t s) 40
    · obtain ⟨g, gr, a1, a2, a3⟩ := call_pair (e := e) (e2 := e2) he he2 O D hn n1.1 n1.2 hd hd2 z
      exact ⟨g, gr, CC g a1, RR gr a2, a3⟩
    · obtain ⟨g, gr, a1, a2, a3⟩ := get_pair (dep := dep) (e := e) (e2 := e2) D hn n1.1 n1.2 z
      exact ⟨g, gr, CC g a1, RR gr a2, a3⟩
  · obtain ⟨g1, gr1, f1, X⟩ := D.node (e + 10) (e2 + 11)
    rcases X with ⟨e1, X1, X2, X3, X4, X5⟩ | ⟨⟨k0, e1, e1p⟩, X1, X2, X3, X4, X5⟩
    · have q := X1.2.1.nb
      unfold NC at X2
      unfold NBR STQ at q
      exact absurd ⟨by omega, by omega⟩ n1
    · obtain ⟨g9, G1, G2, G3⟩ := b91n (dep := dep) D np X1 e1 e1p
      have r14 : gr1 S 14 = hr S 14 := by rw [X5]; unfold bdR; rw [hs_ne (by omega)]
      have r15 : gr1 S 15 = hr S 15 := by rw [X5]; unfold bdR; rw [hs_ne (by omega)]
      have TB : TKf tp t s s gr1 := by rw [X5]; exact D.1.2.2.bad
      have q1 : ∀ (d : Nat) Q, Sp fz1 d 325 [(3, 6603)] gr1 Q = Q 0 gr1 := fun d Q => v325x X2
      obtain ⟨k2, hk2⟩ : ∃ k2, k2 = gr1 := ⟨_, rfl⟩
      have nmw : ∀ (d : Nat) Q, Sp fz1 d 330 [(3, 6603)] gr1 Q = Q (wdT tp t s) gr1 := fun d Q => v330 TB D.1.1
      have t3 : gr1 6603 3 = s := TB.1.2.2.1
      have st : ∀ Q, Sp fz1 (e2 + 12) 355 [(3, 6603)] gr1 Q = Q 0 gr1 := fun Q => v355b (by have := X2.2.1; omega)
      refine ⟨g9, gr1, G3, RR gr1 (fun Q => ?_), .inr ⟨⟨s, G1, X2⟩, X3.trans G2, X4, by omega, by omega, by omega⟩⟩
      simp (implicitDefEqProofs := false) (disch := omega) only [sp357, b357_0, b357_1, b357_2, b357_3, b357_4, b357_5, q357_1, q357_2, q357_3, q357_4, q357_5, x_aload0, y_call321, y_call325, y_call330, y_call333, y_call334, y_call344, y_call346, y_call347, y_call350, y_call355, y_call358, x_dup0, x_dup3, x_gc_11427, x_gc_11435, x_gc_11443, x_gc_11451, x_gf_11288, x_gf_11360, x_gf_11456, x_goto_3, x_goto_5, x_iadd, x_iastore, x_iconst, x_ifCond_eq_4, x_ifCond_eq_5, x_ifCond_ne_1, x_ifCond_ne_2, x_ifCond_ne_4, x_iinc4, x_iload3, x_iload4, x_istore3, x_istore4, x_isub, x_lastore, x_lload1, x_lstore1, x_pf_11360, x_pf_11456, x_return, klp_0, klp_1, klp_2, klp_3, klp_9, KC_0, KC_1, KC_2, KC_3, KC_4, ne_eq, not_false_eq_true, not_true_eq_false, true_and, and_true, and_self, implies_true, eq_self, true_imp_iff, false_implies, Int.reduceEq, Int.reduceNe, Int.reduceMod, Int.reduceMul, Int.reduceAdd, Int.reduceSub, Int.reduceLT, Int.reduceLE, Nat.reduceAdd, Nat.reduceLeDiff, Nat.reduceLT, Nat.reduceSub, reduceIte, wds_n, wds_0, wds_1, wds_2, wds_3, or_true, true_or, or_false, false_or, or_self, false_and, and_false, d_pos, d_s1, d_s2, d_s3, d_s4, d_s5, d_s6, d_s7, d_s8, Classical.not_not, z6603_20, z9761_l, z6603_21, z9824_l, z6603_22, z9888_l, z6603_23, z9952_l, f1, nmw, t3, st, q1, d_s9, d_s10, d_s11, d_s12, d_s13, d_s14, d_s15, d_s16, d_s17, d_s18, d_s19, d_s20, d_s21, d_s22, d_s23, d_s24, d_s25, d_s26, d_s27, d_s28, d_s29, d_s30, le_sub1, le_T, le_F, lt_T, lt_F, eq_F, w32_T, bz0, bz1, lc_le, lc_ge, lc_lt, lc_gt, lc_eq]
/-- bases -/
theorem ex91 {dep : Int} {B : Nat} (hB : 12 ≤ B) (hd2 : 0 ≤ dep ∧ dep ≤ 12) (O : dep < 12 → EXPQ tp t T S (dep + 1) B) : EXPP tp t T S 91 354 dep (B + 3) := by
  intro dc dr s h hr h1 h2 D hd
  obtain ⟨e, rfl⟩ : ∃ e, dc = e + 13 := ⟨dc - 13, by omega⟩
  obtain ⟨e2, rfl⟩ : ∃ e, dr = e + 14 := ⟨dr - 14, by omega⟩
  by_cases z1 : sgP tp t s 40
  · exact par_pair (by omega) (by omega) O D z1 hd hd2
  by_cases z2 : tkK tp t s = 2
  · exact num_pair D z2
  by_cases z3 : tkK tp t s = 3
  · exact real_pair D z3
  by_cases z4 : nmP tp t s
  · exact name_pair (by omega) (by omega) O D z4 hd hd2
  by_cases z5 : tkK tp t s = 1 ∧ wdT tp t s = 1852796517
  · exact none_pair D z5.1 z5.2
  by_cases y0 : tkK tp t s = 1 ∧ wdT tp t s = 7499639
  · exact w_row (by omega) (by omega) O D y0.1 y0.2 hd hd2
  by_cases y1 : tkK tp t s = 1 ∧ wdT tp t s = 491327155315
  · exact w_reals (by omega) (by omega) O D y1.1 y1.2 hd hd2
  by_cases y2 : tkK tp t s = 1 ∧ wdT tp t s = 123580963646565
  · exact w_people (by omega) (by omega) O D y2.1 y2.2 hd hd2
  by_cases y3 : tkK tp t s = 1 ∧ wdT tp t s = 8387216960628552307
  · exact w_teachers (by omega) (by omega) O D y3.1 y3.2 hd hd2
  by_cases y4 : tkK tp t s = 1 ∧ wdT tp t s = 1936292453
  · exact w_size (by omega) (by omega) O D y4.1 y4.2 hd hd2
  by_cases y5 : tkK tp t s = 1 ∧ wdT tp t s = 512853240933
  · exact w_whole (by omega) (by omega) O D y5.1 y5.2 hd hd2
  by_cases y6 : tkK tp t s = 1 ∧ wdT tp t s = 1919246700
  · exact w_real (by omega) (by omega) O D y6.1 y6.2 hd hd2
  by_cases y7 : tkK tp t s = 1 ∧ wdT tp t s = 465490373491
  · exact w_lacks (by omega) (by omega) O D y7.1 y7.2 hd hd2
  by_cases y8 : tkK tp t s = 1 ∧ wdT tp t s = 123581014175598
  · exact w_person (by omega) (by omega) O D y8.1 y8.2 hd hd2
  by_cases y9 : tkK tp t s = 1 ∧ wdT tp t s = 465558725996
  · exact w_level (by omega) (by omega) O D y9.1 y9.2 hd hd2
  by_cases y10 : tkK tp t s = 1 ∧ wdT tp t s = 469786323827
  · exact w_marks (by omega) (by omega) O D y10.1 y10.2 hd hd2
  refine no_pair D z1 z2 z3 z4 (fun hk hm => ?_) (fun hk hw => z5 ⟨hk, hw⟩)
  simp (implicitDefEqProofs := false) only [wBASES, List.mem_cons, List.not_mem_nil, or_false] at hm
  rcases hm with hm | hm | hm | hm | hm | hm | hm | hm | hm | hm | hm
  · exact y0 ⟨hk, hm⟩
  · exact y1 ⟨hk, hm⟩
  · exact y2 ⟨hk, hm⟩
  · exact y3 ⟨hk, hm⟩
  · exact y4 ⟨hk, hm⟩
  · exact y5 ⟨hk, hm⟩
  · exact y6 ⟨hk, hm⟩
  · exact y7 ⟨hk, hm⟩
  · exact y8 ⟨hk, hm⟩
  · exact y9 ⟨hk, hm⟩
  · exact y10 ⟨hk, hm⟩
end SM
