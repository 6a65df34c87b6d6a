/-! THE PURE SIDE, 173: blocks on both sides, whole: printed by wip/tools/gen8y.py -/
section SM
variable {bX : Int} {tp : Int → Int} {t T S s s1 s2 f : Int} {h hr g gr k kr m mr a ar : HV} {Q : Int → HV → Prop} {d : Nat}
set_option maxHeartbeats 4000000 in
theorem FSP.trans {c : Int} (A : FSP T h g) (E : ECP T 0 g k) (B : FSP T g k) (h0 : 0 ≤ h T 17) : FSP T h k := by
  rcases A with a | a
  · unfold FSP at *
    rw [← a]
    exact B
  · exact .inr (a.ec E h0)
set_option maxHeartbeats 4000000 in
/-- the acts of a block -/
theorem lpB {dep : Int} {B e e2 : Nat} (hB : 110 ≤ B) (he : B ≤ e + 13) (he2 : B ≤ e2 + 13) (hdp : 0 ≤ dep ∧ dep ≤ 11) (OB : BLKP bX tp t T S (dep + 1) B) : ∀ (j : Nat) (n s : Int) (h hr : HV), n + j = 401 → 0 ≤ n → n ≤ h T 15 → GD bX tp t T S s h hr → hr 6603 12 = dep + 1 ∧ h 258 11 = 0 → ∃ g gr n2, (∀ Q, G fz1 (e + 16) 78 1 [(3, 258), (0, dep), (0, n)] [] h Q = G fz1 (e + 16) 78 2 [(3, 258), (0, dep), (0, n2)] [] g Q) ∧ (∀ Q, G fz1 (e2 + 16) 343 1 [(3, 6603)] [] hr Q = G fz1 (e2 + 16) 343 2 [(3, 6603)] [] gr Q) ∧ OUTB bX tp t T S s h hr g gr dep 0
  | 0, n, s, h, hr, h1, h0, hn, D, hd => by
    have N := D.lim
    omega
  | j + 1, n, s, h, hr, h1, h0, hn, D, hd => by
    have N := D.nb
    have S0 := D.sb
    unfold NBR at N
    have gd : ∀ Q, Sp fz1 (e2 + 15) 325 [(3, 6603)] hr Q = Q 1 hr := fun Q => v325g D
    have st : ∀ Q, Sp fz1 (e + 15) 41 [(3, 258)] h Q = Q 1 h := fun Q => c41g (d := e + 14) D
    by_cases w : sgP tp t s 125
    · have i1 : ∀ Q, Sp fz1 (e2 + 15) 334 [(3, 6603), (0, 125)] hr Q = Q 1 hr := fun Q => v334y D w
      have i2 : ∀ Q, Sp fz1 (e + 15) 59 [(3, 129), (0, 125)] h Q = Q 1 h := fun Q => c59y D (by decide) w
      refine ⟨h, hr, n, fun Q => ?_, fun Q => ?_, .inl ⟨s, by omega, .inl rfl, GOM.rfl' D, NVR.same rfl, by unfold DXB; omega, fun K V CL A => BKP.nil⟩⟩
      · rw [q78_1]
        simp (implicitDefEqProofs := false) (disch := omega) only [b78_1, x_aload0, y_call41, y_call59, y_call80, x_gc_2051, x_goto_1, x_iadd, x_iconst, x_ifCond_eq_2, x_ifCond_ne_2, x_if_icmp_gt_2, x_iinc2, x_iload1, x_iload2, klp_0, klp_1, klp_2, klp_3, klp_9, KC_0, KC_1, KC_2, KC_3, KC_4, ne_eq, not_false_eq_true, not_true_eq_false, true_and, and_true, and_self, implies_true, eq_self, true_imp_iff, false_implies, Int.reduceEq, Int.reduceNe, Int.reduceMod, Int.reduceMul, Int.reduceAdd, Int.reduceSub, Int.reduceLT, Int.reduceLE, Nat.reduceAdd, Nat.reduceLeDiff, Nat.reduceLT, Nat.reduceSub, reduceIte, wds_n, wds_0, wds_1, wds_2, wds_3, or_true, true_or, or_false, false_or, or_self, false_and, and_false, d_pos, d_s1, d_s2, d_s3, d_s4, d_s5, d_s6, d_s7, d_s8, Classical.not_not, z258_0, st, i2, d_s9, d_s10, d_s11, d_s12, d_s13, d_s14, d_s15, d_s16, d_s17, d_s18, d_s19, d_s20, d_s21, d_s22, d_s23, d_s24, d_s25, d_s26, d_s27, d_s28, d_s29, d_s30, hs_ne, hcell, hcel1, le_sub1, le_T, le_F, lt_T, lt_F, eq_F, w32_T, bz0, bz1, lc_le, lc_ge, lc_lt, lc_gt, lc_eq]
      · rw [q343_1]
        simp (implicitDefEqProofs := false) (disch := omega) only [b343_1, x_aload0, y_call325, y_call334, y_call345, x_goto_1, x_iconst, x_ifCond_eq_2, x_ifCond_ne_2, klp_0, klp_1, klp_2, klp_3, klp_9, KC_0, KC_1, KC_2, KC_3, KC_4, ne_eq, not_false_eq_true, not_true_eq_false, true_and, and_true, and_self, implies_true, eq_self, true_imp_iff, false_implies, Int.reduceEq, Int.reduceNe, Int.reduceMod, Int.reduceMul, Int.reduceAdd, Int.reduceSub, Int.reduceLT, Int.reduceLE, Nat.reduceAdd, Nat.reduceLeDiff, Nat.reduceLT, Nat.reduceSub, reduceIte, wds_n, wds_0, wds_1, wds_2, wds_3, or_true, true_or, or_false, false_or, or_self, false_and, and_false, d_pos, d_s1, d_s2, d_s3, d_s4, d_s5, d_s6, d_s7, d_s8, Classical.not_not, gd, i1, d_s9, d_s10, d_s11, d_s12, d_s13, d_s14, d_s15, d_s16, d_s17, d_s18, d_s19, d_s20, d_s21, d_s22, d_s23, d_s24, d_s25, d_s26, d_s27, d_s28, d_s29, d_s30, hs_ne, hcell, hcel1, le_sub1, le_T, le_F, lt_T, lt_F, eq_F, w32_T, bz0, bz1, lc_le, lc_ge, lc_lt, lc_gt, lc_eq]
    · have i1 : ∀ Q, Sp fz1 (e2 + 15) 334 [(3, 6603), (0, 125)] hr Q = Q 0 hr := fun Q => v334n D w
      have i2 : ∀ Q, Sp fz1 (e + 15) 59 [(3, 129), (0, 125)] h Q = Q 0 h := fun Q => c59n D (by decide) w
      obtain ⟨g1, r1, e1, f1, O, o2⟩ := act_pair (e := e) (e2 := e2) hB he he2 (by omega) OB D hd
      rw [show dep + 1 - 1 = dep by omega] at O
      rcases O with ⟨s1, O1, O2, O3, O4, O5, O6⟩ | O
      · have D1 := O3.2.1
        have n1 := D1.nb
        have O5' := O5
        unfold DXB at O5'
        unfold NBR at n1
        have lt : h T 15 + 1 ≤ g1 T 15 := by
          rcases o2 with q | q
          · obtain ⟨⟨f, q1, -⟩, -⟩ := q
            have := q1.2.1
            have := D1.f
            omega
          · exact q
        obtain ⟨g2, r2, n2, e2', f2', OO⟩ := lpB hB he he2 hdp OB j (n + 1) s1 g1 r1 (by omega) (by omega) (by omega) D1 (by omega)
        refine ⟨g2, r2, n2, fun Q => ?_, fun Q => ?_, ?_⟩
        · rw [← e2' Q, q78_1]
          simp (implicitDefEqProofs := false) (disch := omega) only [b78_1, x_aload0, y_call41, y_call59, y_call80, x_gc_2051, x_goto_1, x_iadd, x_iconst, x_ifCond_eq_2, x_ifCond_ne_2, x_if_icmp_gt_2, x_iinc2, x_iload1, x_iload2, klp_0, klp_1, klp_2, klp_3, klp_9, KC_0, KC_1, KC_2, KC_3, KC_4, ne_eq, not_false_eq_true, not_true_eq_false, true_and, and_true, and_self, implies_true, eq_self, true_imp_iff, false_implies, Int.reduceEq, Int.reduceNe, Int.reduceMod, Int.reduceMul, Int.reduceAdd, Int.reduceSub, Int.reduceLT, Int.reduceLE, Nat.reduceAdd, Nat.reduceLeDiff, Nat.reduceLT, Nat.reduceSub, reduceIte, wds_n, wds_0, wds_1, wds_2, wds_3, or_true, true_or, or_false, false_or, or_self, false_and, and_false, d_pos, d_s1, d_s2, d_s3, d_s4, d_s5, d_s6, d_s7, d_s8, Classical.not_not, z258_0, st, i2, e1, d_s9, d_s10, d_s11, d_s12, d_s13, d_s14, d_s15, d_s16, d_s17, d_s18, d_s19, d_s20, d_s21, d_s22, d_s23, d_s24, d_s25, d_s26, d_s27, d_s28, d_s29, d_s30, hs_ne, hcell, hcel1, le_sub1, le_T, le_F, lt_T, lt_F, eq_F, w32_T, bz0, bz1, lc_le, lc_ge, lc_lt, lc_gt, lc_eq]
        · rw [← f2' Q, q343_1]
          simp (implicitDefEqProofs := false) (disch := omega) only [b343_1, x_aload0, y_call325, y_call334, y_call345, x_goto_1, x_iconst, x_ifCond_eq_2, x_ifCond_ne_2, klp_0, klp_1, klp_2, klp_3, klp_9, KC_0, KC_1, KC_2, KC_3, KC_4, ne_eq, not_false_eq_true, not_true_eq_false, true_and, and_true, and_self, implies_true, eq_self, true_imp_iff, false_implies, Int.reduceEq, Int.reduceNe, Int.reduceMod, Int.reduceMul, Int.reduceAdd, Int.reduceSub, Int.reduceLT, Int.reduceLE, Nat.reduceAdd, Nat.reduceLeDiff, Nat.reduceLT, Nat.reduceSub, reduceIte, wds_n, wds_0, wds_1, wds_2, wds_3, or_true, true_or, or_false, false_or, or_self, false_and, and_false, d_pos, d_s1, d_s2, d_s3, d_s4, d_s5, d_s6, d_s7, d_s8, Classical.not_not, gd, i1, f1, d_s9, d_s10, d_s11, d_s12, d_s13, d_s14, d_s15, d_s16, d_s17, d_s18, d_s19, d_s20, d_s21, d_s22, d_s23, d_s24, d_s25, d_s26, d_s27, d_s28, d_s29, d_s30, hs_ne, hcell, hcel1, le_sub1, le_T, le_F, lt_T, lt_F, eq_F, w32_T, bz0, bz1, lc_le, lc_ge, lc_lt, lc_gt, lc_eq]
        · rcases OO with ⟨s2, P1, P2, P3, P4, P5, P6⟩ | ⟨b1, b2, b3, b4, b5, b6⟩
          · have P5' := P5
            unfold DXB at P5'
            refine .inl ⟨s2, by omega, FSP.trans (c := 0) O2 P3.2.2.1.1 P2 (by omega), O3.trans P3, NVR.trans O4 P3.2.2.1.1 P3.2.2.2.1 P4, by unfold DXB; omega, fun K V CL A => ?_⟩
            have A1 := A.sub (h := g1) (hr := r1) (c2 := h T 17) (r2 := hr S 15) (t2 := hr S 22) (by omega) (P3.2.2.1.1.lo (by omega)) (P3.2.2.2.1.lo (by omega) (by omega)) (Int.le_refl _) (Int.le_refl _) (Int.le_refl _)
            exact (O6 K V CL A1).seq (P6 K V CL (A.lo (by omega) (by omega) (by omega))) (by omega) (by omega)
          · exact .inr ⟨b1, O3.2.2.1.2.trans b2, O3.2.2.2.2.trans b3, by omega, by omega, by omega⟩
      · obtain ⟨⟨f, B1, B2⟩, -⟩ := id O
        have st1 : ∀ Q, Sp fz1 (e + 15) 41 [(3, 258)] g1 Q = Q 0 g1 := fun Q => b41 (d := e + 14) B1
        have gd1 : ∀ Q, Sp fz1 (e2 + 15) 325 [(3, 6603)] r1 Q = Q 0 r1 := fun Q => B2.g325
        refine ⟨g1, r1, n + 1, fun Q => ?_, fun Q => ?_, .inr O⟩
        · rw [q78_1]
          simp (implicitDefEqProofs := false) (disch := omega) only [b78_1, x_aload0, y_call41, y_call59, y_call80, x_gc_2051, x_goto_1, x_iadd, x_iconst, x_ifCond_eq_2, x_ifCond_ne_2, x_if_icmp_gt_2, x_iinc2, x_iload1, x_iload2, klp_0, klp_1, klp_2, klp_3, klp_9, KC_0, KC_1, KC_2, KC_3, KC_4, ne_eq, not_false_eq_true, not_true_eq_false, true_and, and_true, and_self, implies_true, eq_self, true_imp_iff, false_implies, Int.reduceEq, Int.reduceNe, Int.reduceMod, Int.reduceMul, Int.reduceAdd, Int.reduceSub, Int.reduceLT, Int.reduceLE, Nat.reduceAdd, Nat.reduceLeDiff, Nat.reduceLT, Nat.reduceSub, reduceIte, wds_n, wds_0, wds_1, wds_2, wds_3, or_true, true_or, or_false, false_or, or_self, false_and, and_false, d_pos, d_s1, d_s2, d_s3, d_s4, d_s5, d_s6, d_s7, d_s8, Classical.not_not, z258_0, st, i2, e1, d_s9, d_s10, d_s11, d_s12, d_s13, d_s14, d_s15, d_s16, d_s17, d_s18, d_s19, d_s20, d_s21, d_s22, d_s23, d_s24, d_s25, d_s26, d_s27, d_s28, d_s29, d_s30, hs_ne, hcell, hcel1, le_sub1, le_T, le_F, lt_T, lt_F, eq_F, w32_T, bz0, bz1, lc_le, lc_ge, lc_lt, lc_gt, lc_eq]
          by_cases z : n + 1 > 400
          · rw [q78_1]
            simp (implicitDefEqProofs := false) (disch := omega) only [b78_1, x_aload0, y_call41, y_call59, y_call80, x_gc_2051, x_goto_1, x_iadd, x_iconst, x_ifCond_eq_2, x_ifCond_ne_2, x_if_icmp_gt_2, x_iinc2, x_iload1, x_iload2, klp_0, klp_1, klp_2, klp_3, klp_9, KC_0, KC_1, KC_2, KC_3, KC_4, ne_eq, not_false_eq_true, not_true_eq_false, true_and, and_true, and_self, implies_true, eq_self, true_imp_iff, false_implies, Int.reduceEq, Int.reduceNe, Int.reduceMod, Int.reduceMul, Int.reduceAdd, Int.reduceSub, Int.reduceLT, Int.reduceLE, Nat.reduceAdd, Nat.reduceLeDiff, Nat.reduceLT, Nat.reduceSub, reduceIte, wds_n, wds_0, wds_1, wds_2, wds_3, or_true, true_or, or_false, false_or, or_self, false_and, and_false, d_pos, d_s1, d_s2, d_s3, d_s4, d_s5, d_s6, d_s7, d_s8, Classical.not_not, z258_0, st1, d_s9, d_s10, d_s11, d_s12, d_s13, d_s14, d_s15, d_s16, d_s17, d_s18, d_s19, d_s20, d_s21, d_s22, d_s23, d_s24, d_s25, d_s26, d_s27, d_s28, d_s29, d_s30, hs_ne, hcell, hcel1, le_sub1, le_T, le_F, lt_T, lt_F, eq_F, w32_T, bz0, bz1, lc_le, lc_ge, lc_lt, lc_gt, lc_eq]
          · rw [q78_1]
            simp (implicitDefEqProofs := false) (disch := omega) only [b78_1, x_aload0, y_call41, y_call59, y_call80, x_gc_2051, x_goto_1, x_iadd, x_iconst, x_ifCond_eq_2, x_ifCond_ne_2, x_if_icmp_gt_2, x_iinc2, x_iload1, x_iload2, klp_0, klp_1, klp_2, klp_3, klp_9, KC_0, KC_1, KC_2, KC_3, KC_4, ne_eq, not_false_eq_true, not_true_eq_false, true_and, and_true, and_self, implies_true, eq_self, true_imp_iff, false_implies, Int.reduceEq, Int.reduceNe, Int.reduceMod, Int.reduceMul, Int.reduceAdd, Int.reduceSub, Int.reduceLT, Int.reduceLE, Nat.reduceAdd, Nat.reduceLeDiff, Nat.reduceLT, Nat.reduceSub, reduceIte, wds_n, wds_0, wds_1, wds_2, wds_3, or_true, true_or, or_false, false_or, or_self, false_and, and_false, d_pos, d_s1, d_s2, d_s3, d_s4, d_s5, d_s6, d_s7, d_s8, Classical.not_not, z258_0, st1, d_s9, d_s10, d_s11, d_s12, d_s13, d_s14, d_s15, d_s16, d_s17, d_s18, d_s19, d_s20, d_s21, d_s22, d_s23, d_s24, d_s25, d_s26, d_s27, d_s28, d_s29, d_s30, hs_ne, hcell, hcel1, le_sub1, le_T, le_F, lt_T, lt_F, eq_F, w32_T, bz0, bz1, lc_le, lc_ge, lc_lt, lc_gt, lc_eq]
        · rw [q343_1]
          simp (implicitDefEqProofs := false) (disch := omega) only [b343_1, x_aload0, y_call325, y_call334, y_call345, x_goto_1, x_iconst, x_ifCond_eq_2, x_ifCond_ne_2, klp_0, klp_1, klp_2, klp_3, klp_9, KC_0, KC_1, KC_2, KC_3, KC_4, ne_eq, not_false_eq_true, not_true_eq_false, true_and, and_true, and_self, implies_true, eq_self, true_imp_iff, false_implies, Int.reduceEq, Int.reduceNe, Int.reduceMod, Int.reduceMul, Int.reduceAdd, Int.reduceSub, Int.reduceLT, Int.reduceLE, Nat.reduceAdd, Nat.reduceLeDiff, Nat.reduceLT, Nat.reduceSub, reduceIte, wds_n, wds_0, wds_1, wds_2, wds_3, or_true, true_or, or_false, false_or, or_self, false_and, and_false, d_pos, d_s1, d_s2, d_s3, d_s4, d_s5, d_s6, d_s7, d_s8, Classical.not_not, gd, i1, f1, d_s9, d_s10, d_s11, d_s12, d_s13, d_s14, d_s15, d_s16, d_s17, d_s18, d_s19, d_s20, d_s21, d_s22, d_s23, d_s24, d_s25, d_s26, d_s27, d_s28, d_s29, d_s30, hs_ne, hcell, hcel1, le_sub1, le_T, le_F, lt_T, lt_F, eq_F, w32_T, bz0, bz1, lc_le, lc_ge, lc_lt, lc_gt, lc_eq]
          rw [q343_1]
          simp (implicitDefEqProofs := false) (disch := omega) only [b343_1, x_aload0, y_call325, y_call334, y_call345, x_goto_1, x_iconst, x_ifCond_eq_2, x_ifCond_ne_2, klp_0, klp_1, klp_2, klp_3, klp_9, KC_0, KC_1, KC_2, KC_3, KC_4, ne_eq, not_false_eq_true, not_true_eq_false, true_and, and_true, and_self, implies_true, eq_self, true_imp_iff, false_implies, Int.reduceEq, Int.reduceNe, Int.reduceMod, Int.reduceMul, Int.reduceAdd, Int.reduceSub, Int.reduceLT, Int.reduceLE, Nat.reduceAdd, Nat.reduceLeDiff, Nat.reduceLT, Nat.reduceSub, reduceIte, wds_n, wds_0, wds_1, wds_2, wds_3, or_true, true_or, or_false, false_or, or_self, false_and, and_false, d_pos, d_s1, d_s2, d_s3, d_s4, d_s5, d_s6, d_s7, d_s8, Classical.not_not, gd1, d_s9, d_s10, d_s11, d_s12, d_s13, d_s14, d_s15, d_s16, d_s17, d_s18, d_s19, d_s20, d_s21, d_s22, d_s23, d_s24, d_s25, d_s26, d_s27, d_s28, d_s29, d_s30, hs_ne, hcell, hcel1, le_sub1, le_T, le_F, lt_T, lt_F, eq_F, w32_T, bz0, bz1, lc_le, lc_ge, lc_lt, lc_gt, lc_eq]
set_option maxHeartbeats 4000000 in
/-- a block -/
theorem block_no {dep : Int} {e e2 : Nat} (D : GD bX tp t T S s h hr) (hd : hr 6603 12 = dep ∧ h 258 11 = 0) (hdp : 0 ≤ dep ∧ dep ≤ 12) (w : ¬ (dep < 12 ∧ sgP tp t s 123)) : ∃ g gr, (∀ Q, Sp fz1 (e + 16) 78 [(3, 258), (0, dep)] h Q = Q 0 g) ∧ (∀ Q, Sp fz1 (e2 + 16) 343 [(3, 6603)] hr Q = Q 0 gr) ∧ OUTB bX tp t T S s h hr g gr dep 2 := by
  have F := D.f
  have N := D.nb
  have S0 := D.sb
  have hT := D.2.1.1.1
  have hS := D.2.1.2.1
  have kT := kTC hT
  have kS := kTR hS
  unfold NBR at N
  obtain ⟨B1, E0, F1, H0, b14, b15, -⟩ := D.bad0
  have op : ∀ Q, Sp fz1 (e + 15) 79 [(3, 258), (0, 123), (0, dep)] h Q = Q 0 (bdH h) := fun Q => c79f (d := e + 14) D (by decide) w
  have hE : ∃ r1 r2, (∀ Q, Sp fz1 (e2 + 15) 344 [(3, 6603)] hr Q = Q 0 r1) ∧ (∀ Q, Sp fz1 (e2 + 15) 333 [(3, 6603), (0, 123)] r1 Q = Q 0 r2) ∧ BDQ S s r2 ∧ FXR S hr r2 ∧ r2 S 14 = hr S 14 ∧ r2 S 15 = hr S 15 := by
    by_cases z : dep < 12
    · have dp : ∀ Q, Sp fz1 (e2 + 15) 344 [(3, 6603)] hr Q = Q 0 (hset hr 6603 12 (dep + 1)) := fun Q => by rw [v344g (d := e2 + 14) (by omega) (by omega), hd.1]
      obtain ⟨V1, V2, V3⟩ := D.d12 (x := dep + 1)
      obtain ⟨g3, r3, e3, f3, W⟩ := V1.2.1.sign (c := 123) (by decide) (e + 6) (e2 + 12)
      rcases W with ⟨q, -⟩ | ⟨-, Y1, Y2, Y3, Y4, Y5, Y6, Y7⟩
      · exact absurd ⟨z, q⟩ w
      · unfold NR at V2
        refine ⟨_, r3, dp, f3, ?_, V1.2.2.2.2.trans Y4, ?_, ?_⟩
        · exact Y2.q
        · rw [Y5, hs_ne (by omega)]
        · rw [Y6, hs_ne (by omega)]
    · have dp : ∀ Q, Sp fz1 (e2 + 15) 344 [(3, 6603)] hr Q = Q 0 (hset (bdR hr) 6603 12 13) := fun Q => v344x (d := e2 + 14) (by omega) (by omega)
      have K := E0.q.k12 (x := 13)
      obtain ⟨K1, K2, K3, K4, -⟩ := K
      exact ⟨_, _, dp, fun Q => K1.sg (d := e2 + 14), K1, H0.trans K2, by omega, by omega⟩
  obtain ⟨r1, r2, dp, sn, E1, H1, c14, c15⟩ := hE
  obtain ⟨r2b, hr2b⟩ : ∃ x, x = r2 := ⟨_, rfl⟩
  have gd : ∀ Q, Sp fz1 (e2 + 15) 325 [(3, 6603)] r2 Q = Q 0 r2b := fun Q => by rw [hr2b]; exact E1.g325
  have sgr : ∀ Q, Sp fz1 (e2 + 15) 333 [(3, 6603), (0, 125)] r2b Q = Q 0 r2b := fun Q => by rw [hr2b]; exact E1.sg (d := e2 + 14)
  have st : ∀ Q, Sp fz1 (e + 15) 41 [(3, 258)] (bdH h) Q = Q 0 (bdH h) := fun Q => b41 (d := e + 14) B1
  have sg : ∀ Q, Sp fz1 (e + 15) 58 [(3, 258), (0, 125)] (bdH h) Q = Q 0 (bdH h) := fun Q => b58 (d := e + 14) B1
  obtain ⟨K1, K2, K3, K4, -⟩ := E1.k12 (x := w32 (r2 6603 12 - 1))
  rw [← hr2b] at K1 K2 K3 K4
  have nm : ∀ q, r2b 6603 q = r2 6603 q := fun q => by rw [hr2b]
  refine ⟨bdH h, hset r2b 6603 12 (w32 (r2b 6603 12 - 1)), fun Q => ?_, fun Q => ?_, .inr ⟨⟨s, B1, K1⟩, F1, H1.trans (by rw [hr2b] at K2 ⊢; exact K2), by rw [hr2b] at K3 K4 ⊢; omega, by rw [hr2b] at K3 K4 ⊢; omega, by rw [hr2b] at K3 K4 ⊢; omega⟩⟩
  · simp (implicitDefEqProofs := false) (disch := omega) only [sp78, b78_0, b78_1, b78_2, q78_1, q78_2, x_aload0, y_call41, y_call58, y_call59, y_call79, y_call80, x_gc_2051, x_goto_1, x_iadd, x_iconst, x_ifCond_eq_2, x_ifCond_ne_2, x_if_icmp_gt_2, x_iinc2, x_iload1, x_iload2, x_istore2, x_return, klp_0, klp_1, klp_2, klp_3, klp_9, KC_0, KC_1, KC_2, KC_3, KC_4, ne_eq, not_false_eq_true, not_true_eq_false, true_and, and_true, and_self, implies_true, eq_self, true_imp_iff, false_implies, Int.reduceEq, Int.reduceNe, Int.reduceMod, Int.reduceMul, Int.reduceAdd, Int.reduceSub, Int.reduceLT, Int.reduceLE, Nat.reduceAdd, Nat.reduceLeDiff, Nat.reduceLT, Nat.reduceSub, reduceIte, wds_n, wds_0, wds_1, wds_2, wds_3, or_true, true_or, or_false, false_or, or_self, false_and, and_false, d_pos, d_s1, d_s2, d_s3, d_s4, d_s5, d_s6, d_s7, d_s8, Classical.not_not, z258_0, op, st, sg, d_s9, d_s10, d_s11, d_s12, d_s13, d_s14, d_s15, d_s16, d_s17, d_s18, d_s19, d_s20, d_s21, d_s22, d_s23, d_s24, d_s25, d_s26, d_s27, d_s28, d_s29, d_s30, hs_ne, hcell, hcel1, le_sub1, le_T, le_F, lt_T, lt_F, eq_F, w32_T, bz0, bz1, lc_le, lc_ge, lc_lt, lc_gt, lc_eq]
  · simp (implicitDefEqProofs := false) (disch := omega) only [sp343, b343_0, b343_1, b343_2, q343_1, q343_2, x_aload0, y_call325, y_call333, y_call334, y_call344, y_call345, x_dup0, x_dup3, x_gf_11360, x_goto_1, x_iconst, x_ifCond_eq_2, x_ifCond_ne_2, x_isub, x_pf_11360, x_return, klp_0, klp_1, klp_2, klp_3, klp_9, KC_0, KC_1, KC_2, KC_3, KC_4, ne_eq, not_false_eq_true, not_true_eq_false, true_and, and_true, and_self, implies_true, eq_self, true_imp_iff, false_implies, Int.reduceEq, Int.reduceNe, Int.reduceMod, Int.reduceMul, Int.reduceAdd, Int.reduceSub, Int.reduceLT, Int.reduceLE, Nat.reduceAdd, Nat.reduceLeDiff, Nat.reduceLT, Nat.reduceSub, reduceIte, wds_n, wds_0, wds_1, wds_2, wds_3, or_true, true_or, or_false, false_or, or_self, false_and, and_false, d_pos, d_s1, d_s2, d_s3, d_s4, d_s5, d_s6, d_s7, d_s8, Classical.not_not, dp, sn, gd, sgr, d_s9, d_s10, d_s11, d_s12, d_s13, d_s14, d_s15, d_s16, d_s17, d_s18, d_s19, d_s20, d_s21, d_s22, d_s23, d_s24, d_s25, d_s26, d_s27, d_s28, d_s29, d_s30, hs_ne, hcell, hcel1, le_sub1, le_T, le_F, lt_T, lt_F, eq_F, w32_T, bz0, bz1, lc_le, lc_ge, lc_lt, lc_gt, lc_eq]
set_option maxHeartbeats 4000000 in
theorem block_yes {dep : Int} {B e e2 : Nat} (hB : 110 ≤ B) (he : B ≤ e + 13) (he2 : B ≤ e2 + 13) (D : GD bX tp t T S s h hr) (hd : hr 6603 12 = dep ∧ h 258 11 = 0) (hdp : 0 ≤ dep ∧ dep < 12) (OB : BLKP bX tp t T S (dep + 1) B) (w : sgP tp t s 123) : ∃ g gr, (∀ Q, Sp fz1 (e + 16) 78 [(3, 258), (0, dep)] h Q = Q 0 g) ∧ (∀ Q, Sp fz1 (e2 + 16) 343 [(3, 6603)] hr Q = Q 0 gr) ∧ OUTB bX tp t T S s h hr g gr dep 2 := by
  have F := D.f
  have N := D.nb
  have S0 := D.sb
  have hT := D.2.1.1.1
  have hS := D.2.1.2.1
  have kT := kTC hT
  have kS := kTR hS
  unfold NBR at N
  have dp : ∀ Q, Sp fz1 (e2 + 15) 344 [(3, 6603)] hr Q = Q 0 (hset hr 6603 12 (dep + 1)) := fun Q => by rw [v344g (d := e2 + 14) (by omega) (by omega), hd.1]
  obtain ⟨V1, V2, V3⟩ := D.d12 (x := dep + 1)
  unfold NR at V2
  have DV := V1.2.1
  obtain ⟨g1, r1, X1, X1a, X1b, X1c, N1, M1, -, -, e1, f1⟩ := DV.nx (e + 6) (e2 + 12)
  have ts := ts_k D (by have := w.1; omega)
  have q1 := X1a ts
  unfold NC at N1
  unfold NR at M1
  have D1 := X1.2.1
  have op : ∀ Q, Sp fz1 (e + 15) 79 [(3, 258), (0, 123), (0, dep)] h Q = Q 0 g1 := fun Q => c79g D (by decide) w hdp.2 e1
  have sn : ∀ Q, Sp fz1 (e2 + 15) 333 [(3, 6603), (0, 123)] (hset hr 6603 12 (dep + 1)) Q = Q 0 r1 := fun Q => by
    have gg : ∀ Q, Sp fz1 (e2 + 14) 325 [(3, 6603)] (hset hr 6603 12 (dep + 1)) Q = Q 1 (hset hr 6603 12 (dep + 1)) := fun Q => v325g DV
    have ii : ∀ Q, Sp fz1 (e2 + 14) 334 [(3, 6603), (0, 123)] (hset hr 6603 12 (dep + 1)) Q = Q 1 (hset hr 6603 12 (dep + 1)) := fun Q => v334y DV w
    simp (implicitDefEqProofs := false) (disch := omega) only [sp333, b333_0, b333_1, b333_2, q333_1, q333_2, x_aload0, y_call321, y_call325, y_call332, y_call334, x_goto_2, x_ifCond_eq_1, x_iload1, x_return, klp_0, klp_1, klp_2, klp_3, klp_9, KC_0, KC_1, KC_2, KC_3, KC_4, ne_eq, not_false_eq_true, not_true_eq_false, true_and, and_true, and_self, implies_true, eq_self, true_imp_iff, false_implies, Int.reduceEq, Int.reduceNe, Int.reduceMod, Int.reduceMul, Int.reduceAdd, Int.reduceSub, Int.reduceLT, Int.reduceLE, Nat.reduceAdd, Nat.reduceLeDiff, Nat.reduceLT, Nat.reduceSub, reduceIte, wds_n, wds_0, wds_1, wds_2, wds_3, or_true, true_or, or_false, false_or, or_self, false_and, and_false, d_pos, d_s1, d_s2, d_s3, d_s4, d_s5, d_s6, d_s7, d_s8, Classical.not_not, gg, ii, f1, d_s9, d_s10, d_s11, d_s12, d_s13, d_s14, d_s15, d_s16, d_s17, d_s18, d_s19, d_s20, d_s21, d_s22, d_s23, d_s24, d_s25, d_s26, d_s27, d_s28, d_s29, d_s30, hs_ne, hcell, hcel1, le_sub1, le_T, le_F, lt_T, lt_F, eq_F, w32_T, bz0, bz1, lc_le, lc_ge, lc_lt, lc_gt, lc_eq]
  obtain ⟨g2, r2, n2, e2', f2', O⟩ := lpB (e := e) (e2 := e2) hB he he2 (by omega) OB 401 0 _ g1 r1 (by decide) (by decide) (by omega) D1 (by omega)
  rcases O with ⟨s2, P1, P2, P3, P4, P5, P6⟩ | ⟨⟨f, B1, E1⟩, b2, b3, b4, b5, b6⟩
  · have D2 := P3.2.1
    have P5' := P5
    unfold DXB at P5'
    obtain ⟨g3, r3, e3, f3, W⟩ := D2.sign (c := 125) (by decide) (e + 6) (e2 + 12)
    rcases W with ⟨-, s3, q3, X3, N3, M3⟩ | ⟨-, Y1, Y2, Y3, Y4, Y5, Y6, Y7⟩
    · unfold NC at N3
      unfold NR at M3
      obtain ⟨U1, U2, U3⟩ := X3.2.1.d12 (x := dep)
      unfold NR at U2
      have sb12 : r3 6603 12 - 1 = dep := by omega
      have XX := X3.trans U1
      have nz := U1.2.1.nb
      unfold NBR at nz
      refine ⟨g3, hset r3 6603 12 dep, fun Q => ?_, fun Q => ?_, .inl ⟨s3, by omega, ?_, V1.trans (X1.trans (P3.trans XX)), NVR.trans (NVR.same (gr := r1) (by omega)) (P3.trans XX).2.2.1.1 (P3.trans XX).2.2.2.1 (NVR.trans P4 XX.2.2.1.1 XX.2.2.2.1 (NVR.same (by omega))), by unfold DXB; omega, fun K V CL A => ?_⟩⟩
      · simp (implicitDefEqProofs := false) (disch := omega) only [sp78, b78_0, x_aload0, y_call79, x_goto_1, x_iconst, x_iload1, x_istore2, klp_0, klp_1, klp_2, klp_3, klp_9, KC_0, KC_1, KC_2, KC_3, KC_4, ne_eq, not_false_eq_true, not_true_eq_false, true_and, and_true, and_self, implies_true, eq_self, true_imp_iff, false_implies, Int.reduceEq, Int.reduceNe, Int.reduceMod, Int.reduceMul, Int.reduceAdd, Int.reduceSub, Int.reduceLT, Int.reduceLE, Nat.reduceAdd, Nat.reduceLeDiff, Nat.reduceLT, Nat.reduceSub, reduceIte, wds_n, wds_0, wds_1, wds_2, wds_3, or_true, true_or, or_false, false_or, or_self, false_and, and_false, d_pos, d_s1, d_s2, d_s3, d_s4, d_s5, d_s6, d_s7, d_s8, Classical.not_not, z258_0, op, d_s9, d_s10, d_s11, d_s12, d_s13, d_s14, d_s15, d_s16, d_s17, d_s18, d_s19, d_s20, d_s21, d_s22, d_s23, d_s24, d_s25, d_s26, d_s27, d_s28, d_s29, d_s30, hs_ne, hcell, hcel1, le_sub1, le_T, le_F, lt_T, lt_F, eq_F, w32_T, bz0, bz1, lc_le, lc_ge, lc_lt, lc_gt, lc_eq]
        rw [e2', q78_2]
        simp (implicitDefEqProofs := false) (disch := omega) only [b78_2, x_aload0, y_call58, x_iconst, x_return, klp_0, klp_1, klp_2, klp_3, klp_9, KC_0, KC_1, KC_2, KC_3, KC_4, ne_eq, not_false_eq_true, not_true_eq_false, true_and, and_true, and_self, implies_true, eq_self, true_imp_iff, false_implies, Int.reduceEq, Int.reduceNe, Int.reduceMod, Int.reduceMul, Int.reduceAdd, Int.reduceSub, Int.reduceLT, Int.reduceLE, Nat.reduceAdd, Nat.reduceLeDiff, Nat.reduceLT, Nat.reduceSub, reduceIte, wds_n, wds_0, wds_1, wds_2, wds_3, or_true, true_or, or_false, false_or, or_self, false_and, and_false, d_pos, d_s1, d_s2, d_s3, d_s4, d_s5, d_s6, d_s7, d_s8, Classical.not_not, z258_0, e3, d_s9, d_s10, d_s11, d_s12, d_s13, d_s14, d_s15, d_s16, d_s17, d_s18, d_s19, d_s20, d_s21, d_s22, d_s23, d_s24, d_s25, d_s26, d_s27, d_s28, d_s29, d_s30, hs_ne, hcell, hcel1, le_sub1, le_T, le_F, lt_T, lt_F, eq_F, w32_T, bz0, bz1, lc_le, lc_ge, lc_lt, lc_gt, lc_eq]
      · simp (implicitDefEqProofs := false) (disch := omega) only [sp343, b343_0, x_aload0, y_call333, y_call344, x_goto_1, x_iconst, klp_0, klp_1, klp_2, klp_3, klp_9, KC_0, KC_1, KC_2, KC_3, KC_4, ne_eq, not_false_eq_true, not_true_eq_false, true_and, and_true, and_self, implies_true, eq_self, true_imp_iff, false_implies, Int.reduceEq, Int.reduceNe, Int.reduceMod, Int.reduceMul, Int.reduceAdd, Int.reduceSub, Int.reduceLT, Int.reduceLE, Nat.reduceAdd, Nat.reduceLeDiff, Nat.reduceLT, Nat.reduceSub, reduceIte, wds_n, wds_0, wds_1, wds_2, wds_3, or_true, true_or, or_false, false_or, or_self, false_and, and_false, d_pos, d_s1, d_s2, d_s3, d_s4, d_s5, d_s6, d_s7, d_s8, Classical.not_not, dp, sn, d_s9, d_s10, d_s11, d_s12, d_s13, d_s14, d_s15, d_s16, d_s17, d_s18, d_s19, d_s20, d_s21, d_s22, d_s23, d_s24, d_s25, d_s26, d_s27, d_s28, d_s29, d_s30, hs_ne, hcell, hcel1, le_sub1, le_T, le_F, lt_T, lt_F, eq_F, w32_T, bz0, bz1, lc_le, lc_ge, lc_lt, lc_gt, lc_eq]
        rw [f2', q343_2]
        simp (implicitDefEqProofs := false) (disch := omega) only [b343_2, x_aload0, y_call333, x_dup0, x_dup3, x_gf_11360, x_iconst, x_isub, x_pf_11360, x_return, klp_0, klp_1, klp_2, klp_3, klp_9, KC_0, KC_1, KC_2, KC_3, KC_4, ne_eq, not_false_eq_true, not_true_eq_false, true_and, and_true, and_self, implies_true, eq_self, true_imp_iff, false_implies, Int.reduceEq, Int.reduceNe, Int.reduceMod, Int.reduceMul, Int.reduceAdd, Int.reduceSub, Int.reduceLT, Int.reduceLE, Nat.reduceAdd, Nat.reduceLeDiff, Nat.reduceLT, Nat.reduceSub, reduceIte, wds_n, wds_0, wds_1, wds_2, wds_3, or_true, true_or, or_false, false_or, or_self, false_and, and_false, d_pos, d_s1, d_s2, d_s3, d_s4, d_s5, d_s6, d_s7, d_s8, Classical.not_not, f3, sb12, d_s9, d_s10, d_s11, d_s12, d_s13, d_s14, d_s15, d_s16, d_s17, d_s18, d_s19, d_s20, d_s21, d_s22, d_s23, d_s24, d_s25, d_s26, d_s27, d_s28, d_s29, d_s30, hs_ne, hcell, hcel1, le_sub1, le_T, le_F, lt_T, lt_F, eq_F, w32_T, bz0, bz1, lc_le, lc_ge, lc_lt, lc_gt, lc_eq]
      · rcases P2 with q | q
        · exact .inl (by omega)
        · refine .inr ?_
          rw [show h T 17 = g1 T 17 by omega]
          exact q.ec (c := 0) XX.2.2.1.1 (by omega)
      · have A1 := A.sub (h := g2) (hr := r2) (c2 := g1 T 17) (r2 := r1 S 15) (t2 := r1 S 22) (by have := D2.nb; unfold NBR at this; omega) (XX.2.2.1.1.lo (by omega)) (XX.2.2.2.1.lo (by omega) (by omega)) (by omega) (by omega) (by omega)
        have R := P6 K V CL A1
        rw [show g1 T 17 = h T 17 by omega, show r1 S 15 = hr S 15 by omega, show r1 S 21 = hr S 21 by omega, show r1 S 22 = hr S 22 by omega, show g2 T 17 = g3 T 17 by omega, show r2 S 15 = hset r3 6603 12 dep S 15 by omega] at R
        exact R
    · obtain ⟨K1, K2, K3, K4, -⟩ := Y2.q.k12 (x := dep)
      have sb12 : r3 6603 12 - 1 = dep := by omega
      refine ⟨g3, hset r3 6603 12 dep, fun Q => ?_, fun Q => ?_, .inr ⟨⟨_, Y1, K1⟩, (X1.2.2.1.2.trans P3.2.2.1.2).trans Y3, (V1.2.2.2.2.trans (X1.2.2.2.2.trans P3.2.2.2.2)).trans (Y4.trans K2), by have := D2.lim; omega, by omega, by have := D2.lim; omega⟩⟩
      · simp (implicitDefEqProofs := false) (disch := omega) only [sp78, b78_0, x_aload0, y_call79, x_goto_1, x_iconst, x_iload1, x_istore2, klp_0, klp_1, klp_2, klp_3, klp_9, KC_0, KC_1, KC_2, KC_3, KC_4, ne_eq, not_false_eq_true, not_true_eq_false, true_and, and_true, and_self, implies_true, eq_self, true_imp_iff, false_implies, Int.reduceEq, Int.reduceNe, Int.reduceMod, Int.reduceMul, Int.reduceAdd, Int.reduceSub, Int.reduceLT, Int.reduceLE, Nat.reduceAdd, Nat.reduceLeDiff, Nat.reduceLT, Nat.reduceSub, reduceIte, wds_n, wds_0, wds_1, wds_2, wds_3, or_true, true_or, or_false, false_or, or_self, false_and, and_false, d_pos, d_s1, d_s2, d_s3, d_s4, d_s5, d_s6, d_s7, d_s8, Classical.not_not, z258_0, op, d_s9, d_s10, d_s11, d_s12, d_s13, d_s14, d_s15, d_s16, d_s17, d_s18, d_s19, d_s20, d_s21, d_s22, d_s23, d_s24, d_s25, d_s26, d_s27, d_s28, d_s29, d_s30, hs_ne, hcell, hcel1, le_sub1, le_T, le_F, lt_T, lt_F, eq_F, w32_T, bz0, bz1, lc_le, lc_ge, lc_lt, lc_gt, lc_eq]
        rw [e2', q78_2]
        simp (implicitDefEqProofs := false) (disch := omega) only [b78_2, x_aload0, y_call58, x_iconst, x_return, klp_0, klp_1, klp_2, klp_3, klp_9, KC_0, KC_1, KC_2, KC_3, KC_4, ne_eq, not_false_eq_true, not_true_eq_false, true_and, and_true, and_self, implies_true, eq_self, true_imp_iff, false_implies, Int.reduceEq, Int.reduceNe, Int.reduceMod, Int.reduceMul, Int.reduceAdd, Int.reduceSub, Int.reduceLT, Int.reduceLE, Nat.reduceAdd, Nat.reduceLeDiff, Nat.reduceLT, Nat.reduceSub, reduceIte, wds_n, wds_0, wds_1, wds_2, wds_3, or_true, true_or, or_false, false_or, or_self, false_and, and_false, d_pos, d_s1, d_s2, d_s3, d_s4, d_s5, d_s6, d_s7, d_s8, Classical.not_not, z258_0, e3, d_s9, d_s10, d_s11, d_s12, d_s13, d_s14, d_s15, d_s16, d_s17, d_s18, d_s19, d_s20, d_s21, d_s22, d_s23, d_s24, d_s25, d_s26, d_s27, d_s28, d_s29, d_s30, hs_ne, hcell, hcel1, le_sub1, le_T, le_F, lt_T, lt_F, eq_F, w32_T, bz0, bz1, lc_le, lc_ge, lc_lt, lc_gt, lc_eq]
      · simp (implicitDefEqProofs := false) (disch := omega) only [sp343, b343_0, x_aload0, y_call333, y_call344, x_goto_1, x_iconst, klp_0, klp_1, klp_2, klp_3, klp_9, KC_0, KC_1, KC_2, KC_3, KC_4, ne_eq, not_false_eq_true, not_true_eq_false, true_and, and_true, and_self, implies_true, eq_self, true_imp_iff, false_implies, Int.reduceEq, Int.reduceNe, Int.reduceMod, Int.reduceMul, Int.reduceAdd, Int.reduceSub, Int.reduceLT, Int.reduceLE, Nat.reduceAdd, Nat.reduceLeDiff, Nat.reduceLT, Nat.reduceSub, reduceIte, wds_n, wds_0, wds_1, wds_2, wds_3, or_true, true_or, or_false, false_or, or_self, false_and, and_false, d_pos, d_s1, d_s2, d_s3, d_s4, d_s5, d_s6, d_s7, d_s8, Classical.not_not, dp, sn, d_s9, d_s10, d_s11, d_s12, d_s13, d_s14, d_s15, d_s16, d_s17, d_s18, d_s19, d_s20, d_s21, d_s22, d_s23, d_s24, d_s25, d_s26, d_s27, d_s28, d_s29, d_s30, hs_ne, hcell, hcel1, le_sub1, le_T, le_F, lt_T, lt_F, eq_F, w32_T, bz0, bz1, lc_le, lc_ge, lc_lt, lc_gt, lc_eq]
        rw [f2', q343_2]
        simp (implicitDefEqProofs := false) (disch := omega) only [b343_2, x_aload0, y_call333, x_dup0, x_dup3, x_gf_11360, x_iconst, x_isub, x_pf_11360, x_return, klp_0, klp_1, klp_2, klp_3, klp_9, KC_0, KC_1, KC_2, KC_3, KC_4, ne_eq, not_false_eq_true, not_true_eq_false, true_and, and_true, and_self, implies_true, eq_self, true_imp_iff, false_implies, Int.reduceEq, Int.reduceNe, Int.reduceMod, Int.reduceMul, Int.reduceAdd, Int.reduceSub, Int.reduceLT, Int.reduceLE, Nat.reduceAdd, Nat.reduceLeDiff, Nat.reduceLT, Nat.reduceSub, reduceIte, wds_n, wds_0, wds_1, wds_2, wds_3, or_true, true_or, or_false, false_or, or_self, false_and, and_false, d_pos, d_s1, d_s2, d_s3, d_s4, d_s5, d_s6, d_s7, d_s8, Classical.not_not, f3, sb12, d_s9, d_s10, d_s11, d_s12, d_s13, d_s14, d_s15, d_s16, d_s17, d_s18, d_s19, d_s20, d_s21, d_s22, d_s23, d_s24, d_s25, d_s26, d_s27, d_s28, d_s29, d_s30, hs_ne, hcell, hcel1, le_sub1, le_T, le_F, lt_T, lt_F, eq_F, w32_T, bz0, bz1, lc_le, lc_ge, lc_lt, lc_gt, lc_eq]
  · have e3 : ∀ Q, Sp fz1 (e + 15) 58 [(3, 258), (0, 125)] g2 Q = Q 0 g2 := fun Q => b58 (d := e + 14) B1
    have f3 : ∀ Q, Sp fz1 (e2 + 15) 333 [(3, 6603), (0, 125)] r2 Q = Q 0 r2 := fun Q => E1.sg (d := e2 + 14)
    obtain ⟨K1, K2, K3, K4, -⟩ := E1.k12 (x := w32 (r2 6603 12 - 1))
    refine ⟨g2, hset r2 6603 12 (w32 (r2 6603 12 - 1)), fun Q => ?_, fun Q => ?_, .inr ⟨⟨f, B1, K1⟩, X1.2.2.1.2.trans b2, (V1.2.2.2.2.trans X1.2.2.2.2).trans (b3.trans K2), by have := D1.lim; omega, by omega, by have := D1.lim; omega⟩⟩
    · simp (implicitDefEqProofs := false) (disch := omega) only [sp78, b78_0, x_aload0, y_call79, x_goto_1, x_iconst, x_iload1, x_istore2, klp_0, klp_1, klp_2, klp_3, klp_9, KC_0, KC_1, KC_2, KC_3, KC_4, ne_eq, not_false_eq_true, not_true_eq_false, true_and, and_true, and_self, implies_true, eq_self, true_imp_iff, false_implies, Int.reduceEq, Int.reduceNe, Int.reduceMod, Int.reduceMul, Int.reduceAdd, Int.reduceSub, Int.reduceLT, Int.reduceLE, Nat.reduceAdd, Nat.reduceLeDiff, Nat.reduceLT, Nat.reduceSub, reduceIte, wds_n, wds_0, wds_1, wds_2, wds_3, or_true, true_or, or_false, false_or, or_self, false_and, and_false, d_pos, d_s1, d_s2, d_s3, d_s4, d_s5, d_s6, d_s7, d_s8, Classical.not_not, z258_0, op, d_s9, d_s10, d_s11, d_s12, d_s13, d_s14, d_s15, d_s16, d_s17, d_s18, d_s19, d_s20, d_s21, d_s22, d_s23, d_s24, d_s25, d_s26, d_s27, d_s28, d_s29, d_s30, hs_ne, hcell, hcel1, le_sub1, le_T, le_F, lt_T, lt_F, eq_F, w32_T, bz0, bz1, lc_le, lc_ge, lc_lt, lc_gt, lc_eq]
      rw [e2', q78_2]
      simp (implicitDefEqProofs := false) (disch := omega) only [b78_2, x_aload0, y_call58, x_iconst, x_return, klp_0, klp_1, klp_2, klp_3, klp_9, KC_0, KC_1, KC_2, KC_3, KC_4, ne_eq, not_false_eq_true, not_true_eq_false, true_and, and_true, and_self, implies_true, eq_self, true_imp_iff, false_implies, Int.reduceEq, Int.reduceNe, Int.reduceMod, Int.reduceMul, Int.reduceAdd, Int.reduceSub, Int.reduceLT, Int.reduceLE, Nat.reduceAdd, Nat.reduceLeDiff, Nat.reduceLT, Nat.reduceSub, reduceIte, wds_n, wds_0, wds_1, wds_2, wds_3, or_true, true_or, or_false, false_or, or_self, false_and, and_false, d_pos, d_s1, d_s2, d_s3, d_s4, d_s5, d_s6, d_s7, d_s8, Classical.not_not, z258_0, e3, d_s9, d_s10, d_s11, d_s12, d_s13, d_s14, d_s15, d_s16, d_s17, d_s18, d_s19, d_s20, d_s21, d_s22, d_s23, d_s24, d_s25, d_s26, d_s27, d_s28, d_s29, d_s30, hs_ne, hcell, hcel1, le_sub1, le_T, le_F, lt_T, lt_F, eq_F, w32_T, bz0, bz1, lc_le, lc_ge, lc_lt, lc_gt, lc_eq]
    · simp (implicitDefEqProofs := false) (disch := omega) only [sp343, b343_0, x_aload0, y_call333, y_call344, x_goto_1, x_iconst, klp_0, klp_1, klp_2, klp_3, klp_9, KC_0, KC_1, KC_2, KC_3, KC_4, ne_eq, not_false_eq_true, not_true_eq_false, true_and, and_true, and_self, implies_true, eq_self, true_imp_iff, false_implies, Int.reduceEq, Int.reduceNe, Int.reduceMod, Int.reduceMul, Int.reduceAdd, Int.reduceSub, Int.reduceLT, Int.reduceLE, Nat.reduceAdd, Nat.reduceLeDiff, Nat.reduceLT, Nat.reduceSub, reduceIte, wds_n, wds_0, wds_1, wds_2, wds_3, or_true, true_or, or_false, false_or, or_self, false_and, and_false, d_pos, d_s1, d_s2, d_s3, d_s4, d_s5, d_s6, d_s7, d_s8, Classical.not_not, dp, sn, d_s9, d_s10, d_s11, d_s12, d_s13, d_s14, d_s15, d_s16, d_s17, d_s18, d_s19, d_s20, d_s21, d_s22, d_s23, d_s24, d_s25, d_s26, d_s27, d_s28, d_s29, d_s30, hs_ne, hcell, hcel1, le_sub1, le_T, le_F, lt_T, lt_F, eq_F, w32_T, bz0, bz1, lc_le, lc_ge, lc_lt, lc_gt, lc_eq]
      rw [f2', q343_2]
      simp (implicitDefEqProofs := false) (disch := omega) only [b343_2, x_aload0, y_call333, x_dup0, x_dup3, x_gf_11360, x_iconst, x_isub, x_pf_11360, x_return, klp_0, klp_1, klp_2, klp_3, klp_9, KC_0, KC_1, KC_2, KC_3, KC_4, ne_eq, not_false_eq_true, not_true_eq_false, true_and, and_true, and_self, implies_true, eq_self, true_imp_iff, false_implies, Int.reduceEq, Int.reduceNe, Int.reduceMod, Int.reduceMul, Int.reduceAdd, Int.reduceSub, Int.reduceLT, Int.reduceLE, Nat.reduceAdd, Nat.reduceLeDiff, Nat.reduceLT, Nat.reduceSub, reduceIte, wds_n, wds_0, wds_1, wds_2, wds_3, or_true, true_or, or_false, false_or, or_self, false_and, and_false, d_pos, d_s1, d_s2, d_s3, d_s4, d_s5, d_s6, d_s7, d_s8, Classical.not_not, f3, d_s9, d_s10, d_s11, d_s12, d_s13, d_s14, d_s15, d_s16, d_s17, d_s18, d_s19, d_s20, d_s21, d_s22, d_s23, d_s24, d_s25, d_s26, d_s27, d_s28, d_s29, d_s30, hs_ne, hcell, hcel1, le_sub1, le_T, le_F, lt_T, lt_F, eq_F, w32_T, bz0, bz1, lc_le, lc_ge, lc_lt, lc_gt, lc_eq]
set_option maxHeartbeats 4000000 in
/-- blocks, to any depth -/
theorem block_all (n : Nat) : ∀ dep : Int, dep + n = 12 → 0 ≤ dep → BLKP bX tp t T S dep (113 + 3 * n) := by
  induction n with
  | zero =>
    intro dep h1 h0 dc dr s h hr c1 c2 D hd
    obtain ⟨e, rfl⟩ : ∃ e, dc = e + 16 := ⟨dc - 16, by omega⟩
    obtain ⟨e2, rfl⟩ : ∃ e, dr = e + 16 := ⟨dr - 16, by omega⟩
    exact block_no D hd ⟨h0, by omega⟩ (fun u => by have := u.1; omega)
  | succ n ih =>
    intro dep h1 h0 dc dr s h hr c1 c2 D hd
    obtain ⟨e, rfl⟩ : ∃ e, dc = e + 16 := ⟨dc - 16, by omega⟩
    obtain ⟨e2, rfl⟩ : ∃ e, dr = e + 16 := ⟨dr - 16, by omega⟩
    by_cases w : sgP tp t s 123
    · exact block_yes (B := 113 + 3 * n) (by omega) (by omega) (by omega) D hd ⟨h0, by omega⟩ (ih (dep + 1) (by omega) (by omega)) w
    · exact block_no D hd ⟨h0, by omega⟩ (fun u => w u.2)
set_option maxHeartbeats 4000000 in
theorem block_0 : BLKP bX tp t T S 0 149 := block_all 12 0 (by decide) (by decide)
end SM
