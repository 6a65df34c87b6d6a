/-! THE PURE SIDE, 182: items on both sides: numbers; what items keep: printed by wip/tools/gen8z9.py -/
section SM
variable {bX : Int} {tp : Int → Int} {t T S s s1 s2 f : Int} {h hr g gr k kr m mr : HV} {Q : Int → HV → Prop} {d : Nat}
/-- what items other than rules keep -/
theorem IT.fr (I : IT tp t T S s h hr) (hs : s ≤ s1) (hT : TC T) (hS : TR S) (a1 : g 258 = h 258) (a2 : ∀ i, i ≠ 11 → g T i = h T i) (a3 : ∀ o, o ≠ 129 → ¬ (T ≤ o ∧ o ≤ T + 1174) → g o = h o) (a4 : g (T + 598) 6 = h (T + 598) 6) (b1 : ∀ i, i ≠ 2 → i ≠ 3 → i ≠ 4 → i ≠ 5 → i ≠ 6 → gr 6603 i = hr 6603 i) (b2 : gr (S + 84) 6 = hr (S + 84) 6) (b3 : ∀ o, o ≠ 6603 → ¬ (S + 84 ≤ o ∧ o ≤ S + 724) → gr o = hr o) : ITB T S s1 g gr ∧ RNM T S g gr ∧ RLS T S g gr := by
  obtain ⟨-, ⟨N, LT, L, T0, C0⟩, -, -, RN, RL⟩ := I
  have kT := kTC hT
  have kS := kTR hS
  have eS := b3 S (by omega) (by omega)
  have e24 := b1 24 (by decide) (by decide) (by decide) (by decide) (by decide)
  refine ⟨⟨?_, by rw [a1, b1 8 (by decide) (by decide) (by decide) (by decide) (by decide)]; exact LT, L.fr (by rw [a1]) (a3 _ (by decide) (by omega)) (a3 _ (by decide) (by omega)) (a3 _ (by decide) (by omega)) (by rw [a2 17 (by decide)]; exact Int.le_refl _) (PRE.of_eq (a3 _ (by omega) (by omega))) (b3 _ (by omega) (by omega)) (b3 _ (by omega) (by omega)) (b3 _ (by omega) (by omega)) (b3 _ (by omega) (by omega)) (by rw [eS]; exact Int.le_refl _), ?_, C0.gr (by rw [eS]; exact Int.le_refl _) (fun i _ _ => by rw [b3 (S + 980) (by omega) (by omega)]) e24 (b3 _ (by omega) (by omega))⟩, ?_, ?_⟩
  · unfold NBI at *
    rw [a2 15 (by decide), a2 17 (by decide), a1, eS, b2, e24, b1 13 (by decide) (by decide) (by decide) (by decide) (by decide), b1 12 (by decide) (by decide) (by decide) (by decide) (by decide)]
    omega
  · unfold TRI0
    rw [eS, b3 (S + 980) (by omega) (by omega), b3 (S + 1044) (by omega) (by omega)]
    exact T0
  · unfold RNM
    rw [a4, a3 (T + 1302) (by omega) (by omega), b3 (S + 788) (by omega) (by omega)]
    exact RN
  · intro late q q0 q1
    rw [a1] at late
    rw [a4] at q1
    unfold NBI at N
    exact (RL late q q0 q1).fr (CEP.of (a2 17 (by decide)) (a3 _ (by omega) (by omega)) (by rw [a1]) (a3 _ (by omega) (by omega))) (REP.of ⟨by rw [eS], by rw [eS], by rw [eS]⟩ ⟨b3 _ (by omega) (by omega), b3 _ (by omega) (by omega), b3 _ (by omega) (by omega)⟩ ⟨b3 _ (by omega) (by omega), b3 _ (by omega) (by omega), b3 _ (by omega) (by omega)⟩ ⟨e24, b3 _ (by omega) (by omega)⟩) N.2.2.2.2.1.1 ⟨by rw [a3 (T + 1238) (by omega) (by omega)], by rw [a3 (T + 1302) (by omega) (by omega)], by rw [a3 (T + 1366) (by omega) (by omega)]⟩ ⟨by rw [b3 (S + 916) (by omega) (by omega)], by rw [b3 (S + 852) (by omega) (by omega)]⟩
theorem BXR.st {o i v : Int} (B : BXR S f hr) (w : S ≤ o ∧ o ≤ S + 1341) : BXR S f (hset hr o i v) := by
  have kS := kTR B.1.1
  have e3 : hset hr o i v 6603 = hr 6603 := hs_ne (by omega)
  exact ⟨⟨B.1.1, by rw [e3]; exact B.1.2⟩, by rw [e3]; exact B.2.1, fun a x => by rw [hs_ne (by omega)]; exact B.2.2 a x⟩
theorem TKX.stR {o i v : Int} (D : TKX tp t T S s h hr) (w : S ≤ o ∧ o ≤ S + 1341) : TKX tp t T S s h (hset hr o i v) := by
  have kS := kTR D.2.1.2.1
  exact D.fr ⟨rfl, rfl, rfl⟩ (fun o _ => rfl) (fun i _ _ => by rw [hs_ne (by omega)]) ⟨hs_ne (by omega), by rw [hs_ne (by omega)]⟩ (fun o w => hs_ne (by omega))
theorem TKX.stC {o i v : Int} (D : TKX tp t T S s h hr) (w : T ≤ o ∧ o ≤ T + 1462) : TKX tp t T S s (hset h o i v) hr := by
  have kT := kTC D.2.1.1.1
  exact D.fr ⟨hs_ne (by omega), hs_ne (by omega), by rw [hs_ne (by omega)]⟩ (fun o w => hs_ne (by omega)) (fun i _ _ => rfl) ⟨rfl, rfl⟩ (fun o w => rfl)
/-- a number on both sides -/
theorem nu_pair {M : Int} (D : TKX tp t T S s h hr) (hM : 1 ≤ M ∧ M ≤ 99) (d e : Nat) : ∃ g gr x y, (∀ Q, Sp fz1 (d + 9) 61 [(3, 258), (0, M)] h Q = Q x g) ∧ (∀ Q, Sp fz1 (e + 3) 335 [(3, 6603), (0, 1), (0, M)] hr Q = Q y gr) ∧ ((y = x ∧ 1 ≤ x ∧ x ≤ M ∧ ∃ s1, s + 1 ≤ s1 ∧ TKX tp t T S s1 g gr ∧ SAC h g ∧ SAR hr gr) ∨ (y = 1 ∧ g = bdH h ∧ gr = bdR hr)) := by
  have F := D.fz
  have fz7 : hr 6603 7 < 0 := by omega
  have S0 := D.sb
  have q1 : ∀ Q, Sp fz1 (e + 2) 325 [(3, 6603)] hr Q = Q 1 hr := fun Q => D.g325
  have k4 : h 129 4 = tkK tp t s := D.1.2.1.1.2.2.2.2
  have k2 : hr 6603 2 = tkK tp t s := D.1.2.2.1.2.2.2.2
  have p0 : ∀ Q, Sp fz1 (d + 8) 28 [(3, 129), (0, 0)] h Q = Q 0 (bdH h) := fun Q => p28f (by omega)
  by_cases w : tkK tp t s = 2
  · have nb := nuV_n (tp := tp) S0.2.1 w
    have dg : h 129 7 = nuV tp t s := D.1.2.1.2.2.1 w
    have nr : hr 6603 5 = nuV tp t s := D.1.2.2.2.1 w
    have kd : h 129 4 = 2 := by omega
    have kr : hr 6603 2 = 2 := by omega
    generalize nuV tp t s = v at *
    by_cases c : 1 ≤ v ∧ v ≤ M
    · obtain ⟨g, gr, X1, X2, -, -, X3, X4, e1, f1⟩ := D.nx d e
      have ts := D.ts (by omega)
      have c1 : ¬ v < 1 := by omega
      have c2 : ¬ M < v := by omega
      have c3 : True := trivial
      refine ⟨g, gr, v, v, fun Q => ?_, fun Q => ?_, .inl ⟨rfl, c.1, c.2, _, X2 ts, X1, X3, X4⟩⟩
      · have pp := e1
        simp (implicitDefEqProofs := false) (disch := omega) only [sp61, b61_0, b61_1, b61_2, q61_1, q61_2, x_aload0, y_call28, y_call43, y_call62, x_gc_2051, x_goto_2, x_iconst, x_if_icmp_gt_1, x_if_icmp_lt_1, x_if_icmp_ne_1, x_iload1, x_iload2, x_ireturn, x_istore2, sp62, b62_0, x_gf_1081, x_l2i, sp43, b43_0, x_gf_1056, klp_0, klp_1, klp_2, klp_3, klp_9, KC_0, KC_1, KC_2, KC_3, KC_4, ne_eq, not_false_eq_true, not_true_eq_false, true_and, and_true, and_self, implies_true, eq_self, true_imp_iff, false_implies, Int.reduceEq, Int.reduceNe, Int.reduceMod, Int.reduceMul, Int.reduceAdd, Int.reduceSub, Int.reduceLT, Int.reduceLE, Nat.reduceAdd, Nat.reduceLeDiff, Nat.reduceLT, Nat.reduceSub, reduceIte, wds_n, wds_0, wds_1, wds_2, wds_3, or_true, true_or, or_false, false_or, or_self, false_and, and_false, d_pos, d_s1, d_s2, d_s3, d_s4, d_s5, d_s6, d_s7, d_s8, Classical.not_not, z258_0, kd, dg, pp, c1, c2, c3, d_s9, d_s10, d_s11, d_s12, d_s13, d_s14, d_s15, d_s16, d_s17, d_s18, d_s19, d_s20, d_s21, d_s22, d_s23, d_s24, d_s25, d_s26, d_s27, d_s28, d_s29, d_s30, hs_ne, hcell, hcel1, le_sub1, le_T, le_F, lt_T, lt_F, eq_F, w32_T, bz0, bz1, lc_le, lc_ge, lc_lt, lc_gt, lc_eq]
      · have pp := f1
        simp (implicitDefEqProofs := false) (disch := omega) only [sp335, b335_0, b335_1, q335_1, x_aload0, y_call321, y_call325, y_call332, x_gf_11280, x_gf_11304, x_iconst, x_ifCond_eq_1, x_if_icmp_gt_1, x_if_icmp_lt_1, x_if_icmp_ne_1, x_iload1, x_iload2, x_iload3, x_ireturn, x_istore3, klp_0, klp_1, klp_2, klp_3, klp_9, KC_0, KC_1, KC_2, KC_3, KC_4, ne_eq, not_false_eq_true, not_true_eq_false, true_and, and_true, and_self, implies_true, eq_self, true_imp_iff, false_implies, Int.reduceEq, Int.reduceNe, Int.reduceMod, Int.reduceMul, Int.reduceAdd, Int.reduceSub, Int.reduceLT, Int.reduceLE, Nat.reduceAdd, Nat.reduceLeDiff, Nat.reduceLT, Nat.reduceSub, reduceIte, wds_n, wds_0, wds_1, wds_2, wds_3, or_true, true_or, or_false, false_or, or_self, false_and, and_false, d_pos, d_s1, d_s2, d_s3, d_s4, d_s5, d_s6, d_s7, d_s8, Classical.not_not, q1, kr, nr, pp, c1, c2, c3, v332g fz7, d_s9, d_s10, d_s11, d_s12, d_s13, d_s14, d_s15, d_s16, d_s17, d_s18, d_s19, d_s20, d_s21, d_s22, d_s23, d_s24, d_s25, d_s26, d_s27, d_s28, d_s29, d_s30, hs_ne, hcell, hcel1, le_sub1, le_T, le_F, lt_T, lt_F, eq_F, w32_T, bz0, bz1, lc_le, lc_ge, lc_lt, lc_gt, lc_eq]
    · refine ⟨bdH h, bdR hr, v, 1, fun Q => ?_, fun Q => ?_, .inr ⟨rfl, rfl, rfl⟩⟩
      · have pp := p0
        by_cases z : v < 1
        · have c1 := z
          have c2 : True := trivial
          have c3 : True := trivial
          simp (implicitDefEqProofs := false) (disch := omega) only [sp61, b61_0, b61_1, b61_2, q61_1, q61_2, x_aload0, y_call28, y_call43, y_call62, x_gc_2051, x_goto_2, x_iconst, x_if_icmp_gt_1, x_if_icmp_lt_1, x_if_icmp_ne_1, x_iload1, x_iload2, x_ireturn, x_istore2, sp62, b62_0, x_gf_1081, x_l2i, sp43, b43_0, x_gf_1056, klp_0, klp_1, klp_2, klp_3, klp_9, KC_0, KC_1, KC_2, KC_3, KC_4, ne_eq, not_false_eq_true, not_true_eq_false, true_and, and_true, and_self, implies_true, eq_self, true_imp_iff, false_implies, Int.reduceEq, Int.reduceNe, Int.reduceMod, Int.reduceMul, Int.reduceAdd, Int.reduceSub, Int.reduceLT, Int.reduceLE, Nat.reduceAdd, Nat.reduceLeDiff, Nat.reduceLT, Nat.reduceSub, reduceIte, wds_n, wds_0, wds_1, wds_2, wds_3, or_true, true_or, or_false, false_or, or_self, false_and, and_false, d_pos, d_s1, d_s2, d_s3, d_s4, d_s5, d_s6, d_s7, d_s8, Classical.not_not, z258_0, kd, dg, pp, c1, c2, c3, d_s9, d_s10, d_s11, d_s12, d_s13, d_s14, d_s15, d_s16, d_s17, d_s18, d_s19, d_s20, d_s21, d_s22, d_s23, d_s24, d_s25, d_s26, d_s27, d_s28, d_s29, d_s30, hs_ne, hcell, hcel1, le_sub1, le_T, le_F, lt_T, lt_F, eq_F, w32_T, bz0, bz1, lc_le, lc_ge, lc_lt, lc_gt, lc_eq]
        · have c1 := z
          have c2 : M < v := by omega
          have c3 : True := trivial
          simp (implicitDefEqProofs := false) (disch := omega) only [sp61, b61_0, b61_1, b61_2, q61_1, q61_2, x_aload0, y_call28, y_call43, y_call62, x_gc_2051, x_goto_2, x_iconst, x_if_icmp_gt_1, x_if_icmp_lt_1, x_if_icmp_ne_1, x_iload1, x_iload2, x_ireturn, x_istore2, sp62, b62_0, x_gf_1081, x_l2i, sp43, b43_0, x_gf_1056, klp_0, klp_1, klp_2, klp_3, klp_9, KC_0, KC_1, KC_2, KC_3, KC_4, ne_eq, not_false_eq_true, not_true_eq_false, true_and, and_true, and_self, implies_true, eq_self, true_imp_iff, false_implies, Int.reduceEq, Int.reduceNe, Int.reduceMod, Int.reduceMul, Int.reduceAdd, Int.reduceSub, Int.reduceLT, Int.reduceLE, Nat.reduceAdd, Nat.reduceLeDiff, Nat.reduceLT, Nat.reduceSub, reduceIte, wds_n, wds_0, wds_1, wds_2, wds_3, or_true, true_or, or_false, false_or, or_self, false_and, and_false, d_pos, d_s1, d_s2, d_s3, d_s4, d_s5, d_s6, d_s7, d_s8, Classical.not_not, z258_0, kd, dg, pp, c1, c2, c3, d_s9, d_s10, d_s11, d_s12, d_s13, d_s14, d_s15, d_s16, d_s17, d_s18, d_s19, d_s20, d_s21, d_s22, d_s23, d_s24, d_s25, d_s26, d_s27, d_s28, d_s29, d_s30, hs_ne, hcell, hcel1, le_sub1, le_T, le_F, lt_T, lt_F, eq_F, w32_T, bz0, bz1, lc_le, lc_ge, lc_lt, lc_gt, lc_eq]
      · have pp : True := trivial
        by_cases z : v < 1
        · have c1 := z
          have c2 : True := trivial
          have c3 : True := trivial
          simp (implicitDefEqProofs := false) (disch := omega) only [sp335, b335_0, b335_1, q335_1, x_aload0, y_call321, y_call325, y_call332, x_gf_11280, x_gf_11304, x_iconst, x_ifCond_eq_1, x_if_icmp_gt_1, x_if_icmp_lt_1, x_if_icmp_ne_1, x_iload1, x_iload2, x_iload3, x_ireturn, x_istore3, klp_0, klp_1, klp_2, klp_3, klp_9, KC_0, KC_1, KC_2, KC_3, KC_4, ne_eq, not_false_eq_true, not_true_eq_false, true_and, and_true, and_self, implies_true, eq_self, true_imp_iff, false_implies, Int.reduceEq, Int.reduceNe, Int.reduceMod, Int.reduceMul, Int.reduceAdd, Int.reduceSub, Int.reduceLT, Int.reduceLE, Nat.reduceAdd, Nat.reduceLeDiff, Nat.reduceLT, Nat.reduceSub, reduceIte, wds_n, wds_0, wds_1, wds_2, wds_3, or_true, true_or, or_false, false_or, or_self, false_and, and_false, d_pos, d_s1, d_s2, d_s3, d_s4, d_s5, d_s6, d_s7, d_s8, Classical.not_not, q1, kr, nr, pp, c1, c2, c3, v332g fz7, d_s9, d_s10, d_s11, d_s12, d_s13, d_s14, d_s15, d_s16, d_s17, d_s18, d_s19, d_s20, d_s21, d_s22, d_s23, d_s24, d_s25, d_s26, d_s27, d_s28, d_s29, d_s30, hs_ne, hcell, hcel1, le_sub1, le_T, le_F, lt_T, lt_F, eq_F, w32_T, bz0, bz1, lc_le, lc_ge, lc_lt, lc_gt, lc_eq]
        · have c1 := z
          have c2 : M < v := by omega
          have c3 : True := trivial
          simp (implicitDefEqProofs := false) (disch := omega) only [sp335, b335_0, b335_1, q335_1, x_aload0, y_call321, y_call325, y_call332, x_gf_11280, x_gf_11304, x_iconst, x_ifCond_eq_1, x_if_icmp_gt_1, x_if_icmp_lt_1, x_if_icmp_ne_1, x_iload1, x_iload2, x_iload3, x_ireturn, x_istore3, klp_0, klp_1, klp_2, klp_3, klp_9, KC_0, KC_1, KC_2, KC_3, KC_4, ne_eq, not_false_eq_true, not_true_eq_false, true_and, and_true, and_self, implies_true, eq_self, true_imp_iff, false_implies, Int.reduceEq, Int.reduceNe, Int.reduceMod, Int.reduceMul, Int.reduceAdd, Int.reduceSub, Int.reduceLT, Int.reduceLE, Nat.reduceAdd, Nat.reduceLeDiff, Nat.reduceLT, Nat.reduceSub, reduceIte, wds_n, wds_0, wds_1, wds_2, wds_3, or_true, true_or, or_false, false_or, or_self, false_and, and_false, d_pos, d_s1, d_s2, d_s3, d_s4, d_s5, d_s6, d_s7, d_s8, Classical.not_not, q1, kr, nr, pp, c1, c2, c3, v332g fz7, d_s9, d_s10, d_s11, d_s12, d_s13, d_s14, d_s15, d_s16, d_s17, d_s18, d_s19, d_s20, d_s21, d_s22, d_s23, d_s24, d_s25, d_s26, d_s27, d_s28, d_s29, d_s30, hs_ne, hcell, hcel1, le_sub1, le_T, le_F, lt_T, lt_F, eq_F, w32_T, bz0, bz1, lc_le, lc_ge, lc_lt, lc_gt, lc_eq]
  · have kd : h 129 4 ≠ 2 := by omega
    have kr : hr 6603 2 ≠ 2 := by omega
    refine ⟨bdH h, bdR hr, w32 (h 129 7), 1, fun Q => ?_, fun Q => ?_, .inr ⟨rfl, rfl, rfl⟩⟩
    · have pp := p0
      simp (implicitDefEqProofs := false) (disch := omega) only [sp61, b61_0, b61_1, b61_2, q61_1, q61_2, x_aload0, y_call28, y_call43, y_call62, x_gc_2051, x_goto_2, x_iconst, x_if_icmp_gt_1, x_if_icmp_lt_1, x_if_icmp_ne_1, x_iload1, x_iload2, x_ireturn, x_istore2, sp62, b62_0, x_gf_1081, x_l2i, sp43, b43_0, x_gf_1056, klp_0, klp_1, klp_2, klp_3, klp_9, KC_0, KC_1, KC_2, KC_3, KC_4, ne_eq, not_false_eq_true, not_true_eq_false, true_and, and_true, and_self, implies_true, eq_self, true_imp_iff, false_implies, Int.reduceEq, Int.reduceNe, Int.reduceMod, Int.reduceMul, Int.reduceAdd, Int.reduceSub, Int.reduceLT, Int.reduceLE, Nat.reduceAdd, Nat.reduceLeDiff, Nat.reduceLT, Nat.reduceSub, reduceIte, wds_n, wds_0, wds_1, wds_2, wds_3, or_true, true_or, or_false, false_or, or_self, false_and, and_false, d_pos, d_s1, d_s2, d_s3, d_s4, d_s5, d_s6, d_s7, d_s8, Classical.not_not, z258_0, kd, pp, d_s9, d_s10, d_s11, d_s12, d_s13, d_s14, d_s15, d_s16, d_s17, d_s18, d_s19, d_s20, d_s21, d_s22, d_s23, d_s24, d_s25, d_s26, d_s27, d_s28, d_s29, d_s30, hs_ne, hcell, hcel1, le_sub1, le_T, le_F, lt_T, lt_F, eq_F, w32_T, bz0, bz1, lc_le, lc_ge, lc_lt, lc_gt, lc_eq]
    · have pp : True := trivial
      have nr : True := trivial
      have c1 : True := trivial
      have c2 : True := trivial
      have c3 : True := trivial
      simp (implicitDefEqProofs := false) (disch := omega) only [sp335, b335_0, b335_1, q335_1, x_aload0, y_call321, y_call325, y_call332, x_gf_11280, x_gf_11304, x_iconst, x_ifCond_eq_1, x_if_icmp_gt_1, x_if_icmp_lt_1, x_if_icmp_ne_1, x_iload1, x_iload2, x_iload3, x_ireturn, x_istore3, klp_0, klp_1, klp_2, klp_3, klp_9, KC_0, KC_1, KC_2, KC_3, KC_4, ne_eq, not_false_eq_true, not_true_eq_false, true_and, and_true, and_self, implies_true, eq_self, true_imp_iff, false_implies, Int.reduceEq, Int.reduceNe, Int.reduceMod, Int.reduceMul, Int.reduceAdd, Int.reduceSub, Int.reduceLT, Int.reduceLE, Nat.reduceAdd, Nat.reduceLeDiff, Nat.reduceLT, Nat.reduceSub, reduceIte, wds_n, wds_0, wds_1, wds_2, wds_3, or_true, true_or, or_false, false_or, or_self, false_and, and_false, d_pos, d_s1, d_s2, d_s3, d_s4, d_s5, d_s6, d_s7, d_s8, Classical.not_not, q1, kr, nr, pp, c1, c2, c3, v332g fz7, d_s9, d_s10, d_s11, d_s12, d_s13, d_s14, d_s15, d_s16, d_s17, d_s18, d_s19, d_s20, d_s21, d_s22, d_s23, d_s24, d_s25, d_s26, d_s27, d_s28, d_s29, d_s30, hs_ne, hcell, hcel1, le_sub1, le_T, le_F, lt_T, lt_F, eq_F, w32_T, bz0, bz1, lc_le, lc_ge, lc_lt, lc_gt, lc_eq]
theorem BXC.no {M : Int} (B : BXC T f h) : Sp fz1 (d + 3) 61 [(3, 258), (0, M)] h Q = Q (w32 (h 129 7)) h := by
  have b2 := B.2.1.2.2
  have b3 : 0 ≤ h 129 3 := by have := B.2.1; omega
  have kd : h 129 4 ≠ 2 := by omega
  have pp : ∀ Q, Sp fz1 (d + 2) 28 [(3, 129), (0, 0)] h Q = Q 0 h := fun Q => p28b b3 b2
  simp (implicitDefEqProofs := false) (disch := omega) only [sp61, b61_0, b61_1, b61_2, q61_1, q61_2, x_aload0, y_call28, y_call43, y_call62, x_gc_2051, x_goto_2, x_iconst, x_if_icmp_gt_1, x_if_icmp_lt_1, x_if_icmp_ne_1, x_iload1, x_iload2, x_ireturn, x_istore2, sp62, b62_0, x_gf_1081, x_l2i, sp43, b43_0, x_gf_1056, klp_0, klp_1, klp_2, klp_3, klp_9, KC_0, KC_1, KC_2, KC_3, KC_4, ne_eq, not_false_eq_true, not_true_eq_false, true_and, and_true, and_self, implies_true, eq_self, true_imp_iff, false_implies, Int.reduceEq, Int.reduceNe, Int.reduceMod, Int.reduceMul, Int.reduceAdd, Int.reduceSub, Int.reduceLT, Int.reduceLE, Nat.reduceAdd, Nat.reduceLeDiff, Nat.reduceLT, Nat.reduceSub, reduceIte, wds_n, wds_0, wds_1, wds_2, wds_3, or_true, true_or, or_false, false_or, or_self, false_and, and_false, d_pos, d_s1, d_s2, d_s3, d_s4, d_s5, d_s6, d_s7, d_s8, Classical.not_not, z258_0, kd, pp, d_s9, d_s10, d_s11, d_s12, d_s13, d_s14, d_s15, d_s16, d_s17, d_s18, d_s19, d_s20, d_s21, d_s22, d_s23, d_s24, d_s25, d_s26, d_s27, d_s28, d_s29, d_s30, hs_ne, hcell, hcel1, le_sub1, le_T, le_F, lt_T, lt_F, eq_F, w32_T, bz0, bz1, lc_le, lc_ge, lc_lt, lc_gt, lc_eq]
theorem BXR.no {a b : Int} (B : BXR S f hr) : Sp fz1 (d + 1) 335 [(3, 6603), (0, a), (0, b)] hr Q = Q a hr := v335b (by have := B.2.1; omega)
end SM
