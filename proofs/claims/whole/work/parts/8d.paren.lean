/-! THE PURE SIDE, 151: signs and parentheses on both sides: printed by wip/tools/gen8d.py -/
def BAD0 (T S f : Int) (h hr g gr : HV) : Prop := BDC T f g ∧ BDR S f gr ∧ FXC T h g ∧ FXR S hr gr ∧ gr S 14 = hr S 14 ∧ gr S 15 = hr S 15 ∧ gr 6603 12 = hr 6603 12
section SM
variable {bX : Int} {tp : Int → Int} {t T S s s1 s2 f : Int} {h hr g gr k kr : HV} {Q : Int → HV → Prop} {d : Nat}
theorem GD.bad0 (D : GD bX tp t T S s h hr) : BAD0 T S s h hr (bdH h) (bdR hr) := by
  obtain ⟨a, b, c, e⟩ := D.bad
  have kS := kTR D.2.1.2.1
  have e1 : bdR hr S = hr S := hs_ne (by omega)
  exact ⟨a, b, c, e, by rw [e1], by rw [e1], hcell (by decide)⟩
/-- the depth of the reference -/
theorem GD.d12 {x : Int} (D : GD bX tp t T S s h hr) : GOM bX tp t T S s h hr s h (hset hr 6603 12 x) ∧ NR S hr (hset hr 6603 12 x) 0 0 0 0 (x - hr 6603 12) 0 0 ∧ hset hr 6603 12 x 6603 12 = x := by
  have D0 := D
  obtain ⟨⟨K, k1, k2⟩, ⟨⟨d1, d2⟩, d3, d4⟩, ⟨s1, s3⟩, N, M, L, R⟩ := D
  have kS := kTR d3
  have fo : ∀ o, o ≠ 6603 → hset hr 6603 12 x o = hr o := fun o a => hs_ne a
  have fi : ∀ i, i ≠ 12 → hset hr 6603 12 x 6603 i = hr 6603 i := fun i a => hcell a
  have eS := fo S (by omega)
  refine ⟨⟨Int.le_refl _, D0.ref (D0.2.ref (fi 9 (by decide)) (fun o w => fo o (by omega)) ?_ (M.fr rfl rfl rfl (fi 15 (by decide)) (fo _ (by decide)) (fi 19 (by decide)) (fo _ (by decide)) (fo _ (by decide))) (L.fr rfl rfl rfl rfl (Int.le_refl _) PRE.rfl' (fo _ (by decide)) (fo _ (by decide)) (fo _ (by decide)) (fo _ (by decide)) (by rw [eS]; exact Int.le_refl _)) (R.fr (by rw [eS]) (fo _ (by omega)) (fo _ (by omega)) (by rw [eS]; exact Int.le_refl _) ⟨fi 19 (by decide), fi 24 (by decide)⟩ ⟨fo _ (by decide), fo _ (by decide), fo _ (by omega), fo _ (by omega)⟩)) (fun i _ _ => fi i (by omega)) (fo _ (by decide)), ⟨ECP.rfl', FXC.rfl'⟩, ?_, fun o a _ _ _ _ _ _ _ _ _ _ _ _ _ _ _ => fo o a, fun i _ _ _ _ _ => by rw [eS], fun i _ _ _ _ _ _ a _ _ _ _ => fi i a⟩, ?_, hcel1⟩
  · unfold NBR STQ
    rw [eS, fi 13 (by decide), fi 15 (by decide), fi 19 (by decide), fi 24 (by decide), fo (S + 84) (by omega)]
    exact N
  · unfold ERP
    rw [eS, fi 15 (by decide), fi 19 (by decide), fi 24 (by decide), fo (S + 980) (by omega), fo (S + 1044) (by omega), fo (S + 1108) (by omega), fo (S + 1174) (by omega), fo (S + 1236) (by omega), fo (S + 1300) (by omega), fo 9505 (by omega), fo 9569 (by omega), fo 9632 (by omega), fo 9696 (by omega), fo 9761 (by omega), fo 9824 (by omega), fo 9888 (by omega), fo 9952 (by omega)]
    exact ERP.rfl'
  · unfold NR
    rw [eS, fi 15 (by decide), fi 19 (by decide), fo (S + 84) (by omega), hcel1]
    omega
theorem BDR.d12 {x : Int} (B : BDR S f hr) : BDR S f (hset hr 6603 12 x) ∧ FXR S hr (hset hr 6603 12 x) ∧ hset hr 6603 12 x S = hr S ∧ hset hr 6603 12 x 6603 12 = x := by
  obtain ⟨⟨b1, b2⟩, b3, b4, b5⟩ := B
  have kS := kTR b1
  have fo : ∀ o, o ≠ 6603 → hset hr 6603 12 x o = hr o := fun o a => hs_ne a
  have fi : ∀ i, i ≠ 12 → hset hr 6603 12 x 6603 i = hr 6603 i := fun i a => hcell a
  have eS := fo S (by omega)
  exact ⟨⟨⟨b1, by rw [fi 9 (by decide)]; exact b2⟩, by rw [fi 7 (by decide), fi 19 (by decide)]; exact b3, fun o w => by rw [fo o (by omega)]; exact b4 o w, by rw [eS]; exact b5⟩, ⟨fun o a _ _ _ _ _ _ _ _ _ _ _ _ _ _ _ => fo o a, fun i _ _ _ _ _ => by rw [eS], fun i _ _ _ _ _ _ a _ _ _ _ => fi i a⟩, eS, hcel1⟩
/-- a sign that must stand here -/
theorem GD.sign {c : Int} (D : GD bX tp t T S s h hr) (hc : 0 ≤ c ∧ c ≤ 127) (d e : Nat) : ∃ g gr, (∀ Q, Sp fz1 (d + 9) 58 [(3, 258), (0, c)] h Q = Q 0 g) ∧ (∀ Q, Sp fz1 (e + 3) 333 [(3, 6603), (0, c)] hr Q = Q 0 gr) ∧ ((sgP tp t s c ∧ ∃ s1, s + 1 ≤ s1 ∧ GOM bX tp t T S s h hr s1 g gr ∧ NC T h g 0 0 0 0 0 ∧ NR S hr gr 0 0 0 0 0 0 0) ∨ (¬ sgP tp t s c ∧ BAD0 T S s h hr g gr)) := by
  have F := D.f
  have fz7 : hr 6603 7 < 0 := by omega
  have q1 : ∀ Q, Sp fz1 (e + 2) 325 [(3, 6603)] hr Q = Q 1 hr := fun Q => by rw [v325, if_pos (by omega)]
  by_cases w : sgP tp t s c
  · obtain ⟨g, gr, X1, X2, -, -, X3, X4, -, -, e1, f1⟩ := D.nx d e
    have ts : s < t := by have := tkK_r (tp := tp) (t := t) (s := s); have := D.sb; have := w.1; omega
    refine ⟨g, gr, fun Q => ?_, fun Q => ?_, .inl ⟨w, _, by have := X2 ts; omega, X1, X3, X4⟩⟩
    · have cs : ∀ (d : Nat) Q, Sp fz1 d 59 [(3, 129), (0, c)] h Q = Q 1 h := fun d Q => by rw [c59 D.1.2.1 D.1.1 hc]; exact congrArg (fun x => Q x h) (if_pos w)
      have pp : ∀ Q, Sp fz1 (d + 8) 28 [(3, 129), (0, 1)] h Q = Q 0 g := e1
      simp (implicitDefEqProofs := false) (disch := omega) only [sp58, b58_0, x_aload0, y_call28, y_call59, x_gc_2051, x_iload1, x_return, klp_0, klp_1, klp_2, klp_3, klp_9, KC_0, KC_1, KC_2, KC_3, KC_4, ne_eq, not_false_eq_true, not_true_eq_false, true_and, and_true, and_self, implies_true, eq_self, true_imp_iff, false_implies, Int.reduceEq, Int.reduceNe, Int.reduceMod, Int.reduceMul, Int.reduceAdd, Int.reduceSub, Int.reduceLT, Int.reduceLE, Nat.reduceAdd, Nat.reduceLeDiff, Nat.reduceLT, Nat.reduceSub, reduceIte, wds_n, wds_0, wds_1, wds_2, wds_3, or_true, true_or, or_false, false_or, or_self, false_and, and_false, d_pos, d_s1, d_s2, d_s3, d_s4, d_s5, d_s6, d_s7, d_s8, Classical.not_not, z258_0, cs, pp, d_s9, d_s10, d_s11, d_s12, d_s13, d_s14, d_s15, d_s16, d_s17, d_s18, d_s19, d_s20, d_s21, d_s22, d_s23, d_s24, d_s25, d_s26, d_s27, d_s28, d_s29, d_s30, le_sub1, le_T, le_F, lt_T, lt_F, eq_F, w32_T, bz0, bz1, lc_le, lc_ge, lc_lt, lc_gt, lc_eq]
    · have cs : ∀ (d : Nat) Q, Sp fz1 d 334 [(3, 6603), (0, c)] hr Q = Q 1 hr := fun d Q => by rw [v334 D.1.2.2 D.1.1]; exact congrArg (fun x => Q x hr) (if_pos w)
      have pp : ∀ Q, Sp fz1 (e + 2) 321 [(3, 6603)] hr Q = Q 0 gr := f1
      simp (implicitDefEqProofs := false) (disch := omega) only [sp333, b333_0, b333_1, b333_2, q333_1, q333_2, x_aload0, y_call321, y_call325, y_call332, y_call334, x_goto_2, x_ifCond_eq_1, x_iload1, x_return, klp_0, klp_1, klp_2, klp_3, klp_9, KC_0, KC_1, KC_2, KC_3, KC_4, ne_eq, not_false_eq_true, not_true_eq_false, true_and, and_true, and_self, implies_true, eq_self, true_imp_iff, false_implies, Int.reduceEq, Int.reduceNe, Int.reduceMod, Int.reduceMul, Int.reduceAdd, Int.reduceSub, Int.reduceLT, Int.reduceLE, Nat.reduceAdd, Nat.reduceLeDiff, Nat.reduceLT, Nat.reduceSub, reduceIte, wds_n, wds_0, wds_1, wds_2, wds_3, or_true, true_or, or_false, false_or, or_self, false_and, and_false, d_pos, d_s1, d_s2, d_s3, d_s4, d_s5, d_s6, d_s7, d_s8, Classical.not_not, q1, cs, pp, d_s9, d_s10, d_s11, d_s12, d_s13, d_s14, d_s15, d_s16, d_s17, d_s18, d_s19, d_s20, d_s21, d_s22, d_s23, d_s24, d_s25, d_s26, d_s27, d_s28, d_s29, d_s30, le_sub1, le_T, le_F, lt_T, lt_F, eq_F, w32_T, bz0, bz1, lc_le, lc_ge, lc_lt, lc_gt, lc_eq]
  · refine ⟨bdH h, bdR hr, fun Q => ?_, fun Q => ?_, .inr ⟨w, D.bad0⟩⟩
    · have cs : ∀ (d : Nat) Q, Sp fz1 d 59 [(3, 129), (0, c)] h Q = Q 0 h := fun d Q => by rw [c59 D.1.2.1 D.1.1 hc]; exact congrArg (fun x => Q x h) (if_neg w)
      have pp : ∀ (d : Nat) Q, Sp fz1 d 28 [(3, 129), (0, 0)] h Q = Q 0 (bdH h) := fun d Q => p28f (by omega)
      simp (implicitDefEqProofs := false) (disch := omega) only [sp58, b58_0, x_aload0, y_call28, y_call59, x_gc_2051, x_iload1, x_return, klp_0, klp_1, klp_2, klp_3, klp_9, KC_0, KC_1, KC_2, KC_3, KC_4, ne_eq, not_false_eq_true, not_true_eq_false, true_and, and_true, and_self, implies_true, eq_self, true_imp_iff, false_implies, Int.reduceEq, Int.reduceNe, Int.reduceMod, Int.reduceMul, Int.reduceAdd, Int.reduceSub, Int.reduceLT, Int.reduceLE, Nat.reduceAdd, Nat.reduceLeDiff, Nat.reduceLT, Nat.reduceSub, reduceIte, wds_n, wds_0, wds_1, wds_2, wds_3, or_true, true_or, or_false, false_or, or_self, false_and, and_false, d_pos, d_s1, d_s2, d_s3, d_s4, d_s5, d_s6, d_s7, d_s8, Classical.not_not, z258_0, cs, pp, d_s9, d_s10, d_s11, d_s12, d_s13, d_s14, d_s15, d_s16, d_s17, d_s18, d_s19, d_s20, d_s21, d_s22, d_s23, d_s24, d_s25, d_s26, d_s27, d_s28, d_s29, d_s30, le_sub1, le_T, le_F, lt_T, lt_F, eq_F, w32_T, bz0, bz1, lc_le, lc_ge, lc_lt, lc_gt, lc_eq]
    · have cs : ∀ (d : Nat) Q, Sp fz1 d 334 [(3, 6603), (0, c)] hr Q = Q 0 hr := fun d Q => by rw [v334 D.1.2.2 D.1.1]; exact congrArg (fun x => Q x hr) (if_neg w)
      simp (implicitDefEqProofs := false) (disch := omega) only [sp333, b333_0, b333_1, b333_2, q333_1, q333_2, x_aload0, y_call321, y_call325, y_call332, y_call334, x_goto_2, x_ifCond_eq_1, x_iload1, x_return, klp_0, klp_1, klp_2, klp_3, klp_9, KC_0, KC_1, KC_2, KC_3, KC_4, ne_eq, not_false_eq_true, not_true_eq_false, true_and, and_true, and_self, implies_true, eq_self, true_imp_iff, false_implies, Int.reduceEq, Int.reduceNe, Int.reduceMod, Int.reduceMul, Int.reduceAdd, Int.reduceSub, Int.reduceLT, Int.reduceLE, Nat.reduceAdd, Nat.reduceLeDiff, Nat.reduceLT, Nat.reduceSub, reduceIte, wds_n, wds_0, wds_1, wds_2, wds_3, or_true, true_or, or_false, false_or, or_self, false_and, and_false, d_pos, d_s1, d_s2, d_s3, d_s4, d_s5, d_s6, d_s7, d_s8, Classical.not_not, q1, cs, v332g fz7, d_s9, d_s10, d_s11, d_s12, d_s13, d_s14, d_s15, d_s16, d_s17, d_s18, d_s19, d_s20, d_s21, d_s22, d_s23, d_s24, d_s25, d_s26, d_s27, d_s28, d_s29, d_s30, le_sub1, le_T, le_F, lt_T, lt_F, eq_F, w32_T, bz0, bz1, lc_le, lc_ge, lc_lt, lc_gt, lc_eq]
/-- one of the signs that lie in others -/
theorem c79g {c dep : Int} (D : GD bX tp t T S s h hr) (hc : 0 ≤ c ∧ c ≤ 127) (w : sgP tp t s c) (hd : dep < 12) (pp : ∀ Q, Sp fz1 (d + 8) 28 [(3, 129), (0, 1)] h Q = Q 0 g) : Sp fz1 (d + 9) 79 [(3, 258), (0, c), (0, dep)] h Q = Q 0 g := by
  have cs : ∀ (d : Nat) Q, Sp fz1 d 59 [(3, 129), (0, c)] h Q = Q 1 h := fun d Q => by rw [c59 D.1.2.1 D.1.1 hc]; exact congrArg (fun x => Q x h) (if_pos w)
  simp (implicitDefEqProofs := false) (disch := omega) only [sp79, b79_0, b79_1, b79_2, q79_1, q79_2, x_aload0, y_call28, y_call59, x_gc_2051, x_goto_2, x_iconst, x_ifCond_eq_1, x_if_icmp_ge_1, x_iload1, x_iload2, x_return, klp_0, klp_1, klp_2, klp_3, klp_9, KC_0, KC_1, KC_2, KC_3, KC_4, ne_eq, not_false_eq_true, not_true_eq_false, true_and, and_true, and_self, implies_true, eq_self, true_imp_iff, false_implies, Int.reduceEq, Int.reduceNe, Int.reduceMod, Int.reduceMul, Int.reduceAdd, Int.reduceSub, Int.reduceLT, Int.reduceLE, Nat.reduceAdd, Nat.reduceLeDiff, Nat.reduceLT, Nat.reduceSub, reduceIte, wds_n, wds_0, wds_1, wds_2, wds_3, or_true, true_or, or_false, false_or, or_self, false_and, and_false, d_pos, d_s1, d_s2, d_s3, d_s4, d_s5, d_s6, d_s7, d_s8, Classical.not_not, z258_0, cs, pp, d_s9, d_s10, d_s11, d_s12, d_s13, d_s14, d_s15, d_s16, d_s17, d_s18, d_s19, d_s20, d_s21, d_s22, d_s23, d_s24, d_s25, d_s26, d_s27, d_s28, d_s29, d_s30, le_sub1, le_T, le_F, lt_T, lt_F, eq_F, w32_T, bz0, bz1, lc_le, lc_ge, lc_lt, lc_gt, lc_eq]
theorem c79f {c dep : Int} (D : GD bX tp t T S s h hr) (hc : 0 ≤ c ∧ c ≤ 127) (w : ¬ (dep < 12 ∧ sgP tp t s c)) : Sp fz1 (d + 1) 79 [(3, 258), (0, c), (0, dep)] h Q = Q 0 (bdH h) := by
  have F := D.f
  have pp : ∀ (d : Nat) Q, Sp fz1 d 28 [(3, 129), (0, 0)] h Q = Q 0 (bdH h) := fun d Q => p28f (by omega)
  have cs : ∀ (d : Nat) Q, Sp fz1 d 59 [(3, 129), (0, c)] h Q = Q (if tkK tp t s = 4 ∧ tp s = c then 1 else 0) h := fun d Q => c59 D.1.2.1 D.1.1 hc
  by_cases z : dep < 12
  · have z2 : ¬ (tkK tp t s = 4 ∧ tp s = c) := fun u => w ⟨z, u⟩
    simp (implicitDefEqProofs := false) (disch := omega) only [if_neg z2, sp79, b79_0, b79_1, b79_2, q79_1, q79_2, x_aload0, y_call28, y_call59, x_gc_2051, x_goto_2, x_iconst, x_ifCond_eq_1, x_if_icmp_ge_1, x_iload1, x_iload2, x_return, klp_0, klp_1, klp_2, klp_3, klp_9, KC_0, KC_1, KC_2, KC_3, KC_4, ne_eq, not_false_eq_true, not_true_eq_false, true_and, and_true, and_self, implies_true, eq_self, true_imp_iff, false_implies, Int.reduceEq, Int.reduceNe, Int.reduceMod, Int.reduceMul, Int.reduceAdd, Int.reduceSub, Int.reduceLT, Int.reduceLE, Nat.reduceAdd, Nat.reduceLeDiff, Nat.reduceLT, Nat.reduceSub, reduceIte, wds_n, wds_0, wds_1, wds_2, wds_3, or_true, true_or, or_false, false_or, or_self, false_and, and_false, d_pos, d_s1, d_s2, d_s3, d_s4, d_s5, d_s6, d_s7, d_s8, Classical.not_not, z258_0, cs, pp, d_s9, d_s10, d_s11, d_s12, d_s13, d_s14, d_s15, d_s16, d_s17, d_s18, d_s19, d_s20, d_s21, d_s22, d_s23, d_s24, d_s25, d_s26, d_s27, d_s28, d_s29, d_s30, le_sub1, le_T, le_F, lt_T, lt_F, eq_F, w32_T, bz0, bz1, lc_le, lc_ge, lc_lt, lc_gt, lc_eq]
  · simp (implicitDefEqProofs := false) (disch := omega) only [sp79, b79_0, b79_1, b79_2, q79_1, q79_2, x_aload0, y_call28, y_call59, x_gc_2051, x_goto_2, x_iconst, x_ifCond_eq_1, x_if_icmp_ge_1, x_iload1, x_iload2, x_return, klp_0, klp_1, klp_2, klp_3, klp_9, KC_0, KC_1, KC_2, KC_3, KC_4, ne_eq, not_false_eq_true, not_true_eq_false, true_and, and_true, and_self, implies_true, eq_self, true_imp_iff, false_implies, Int.reduceEq, Int.reduceNe, Int.reduceMod, Int.reduceMul, Int.reduceAdd, Int.reduceSub, Int.reduceLT, Int.reduceLE, Nat.reduceAdd, Nat.reduceLeDiff, Nat.reduceLT, Nat.reduceSub, reduceIte, wds_n, wds_0, wds_1, wds_2, wds_3, or_true, true_or, or_false, false_or, or_self, false_and, and_false, d_pos, d_s1, d_s2, d_s3, d_s4, d_s5, d_s6, d_s7, d_s8, Classical.not_not, z258_0, cs, pp, d_s9, d_s10, d_s11, d_s12, d_s13, d_s14, d_s15, d_s16, d_s17, d_s18, d_s19, d_s20, d_s21, d_s22, d_s23, d_s24, d_s25, d_s26, d_s27, d_s28, d_s29, d_s30, le_sub1, le_T, le_F, lt_T, lt_F, eq_F, w32_T, bz0, bz1, lc_le, lc_ge, lc_lt, lc_gt, lc_eq]
theorem c41g (D : GD bX tp t T S s h hr) : Sp fz1 (d + 1) 41 [(3, 258)] h Q = Q 1 h := by
  rw [q41, if_pos (by have := D.f; omega)]
theorem v325g (D : GD bX tp t T S s h hr) : Sp fz1 d 325 [(3, 6603)] hr Q = Q 1 hr := by
  rw [v325, if_pos (by have := D.f; omega)]
theorem v325x (B : BDR S f hr) : Sp fz1 d 325 [(3, 6603)] hr Q = Q 0 hr := by
  rw [v325, if_neg (by have := B.2.1; omega)]
theorem v334y {c : Int} (D : GD bX tp t T S s h hr) (w : sgP tp t s c) : Sp fz1 d 334 [(3, 6603), (0, c)] hr Q = Q 1 hr := by
  rw [v334 D.1.2.2 D.1.1]; exact congrArg (fun x => Q x hr) (if_pos w)
theorem v334n {c : Int} (D : GD bX tp t T S s h hr) (w : ¬ sgP tp t s c) : Sp fz1 d 334 [(3, 6603), (0, c)] hr Q = Q 0 hr := by
  rw [v334 D.1.2.2 D.1.1]; exact congrArg (fun x => Q x hr) (if_neg w)
theorem c59y {c : Int} (D : GD bX tp t T S s h hr) (hc : 0 ≤ c ∧ c ≤ 127) (w : sgP tp t s c) : Sp fz1 d 59 [(3, 129), (0, c)] h Q = Q 1 h := by
  rw [c59 D.1.2.1 D.1.1 hc]; exact congrArg (fun x => Q x h) (if_pos w)
theorem c59n {c : Int} (D : GD bX tp t T S s h hr) (hc : 0 ≤ c ∧ c ≤ 127) (w : ¬ sgP tp t s c) : Sp fz1 d 59 [(3, 129), (0, c)] h Q = Q 0 h := by
  rw [c59 D.1.2.1 D.1.1 hc]; exact congrArg (fun x => Q x h) (if_neg w)
/-- one exp in parentheses: how it goes on the class's side, and what it comes to -/
theorem ins1 {dep : Int} {B e e2 : Nat} (he : B ≤ e + 11) (he2 : B ≤ e2 + 11) (O : dep < 12 → EXPQ tp t T S (dep + 1) B) (D : GD 1 tp t T S s h hr) (hd : hr 6603 12 = dep ∧ 1 ≤ h 258 11 ∧ h 258 11 ≤ dep + 1) (hd2 : 0 ≤ dep ∧ dep ≤ 12) : ∃ h1 gr, (∀ Q, Sp fz1 (e + 11) 79 [(3, 258), (0, 40), (0, dep)] h Q = Q 0 h1) ∧ (∀ Q, Sp fz1 (e2 + 12) 356 [(3, 6603), (0, 1)] hr Q = Q 0 gr) ∧ (((∃ f, BDC T f h1 ∧ BDR S f gr) ∧ BADO T S h hr h1 gr) ∨ (sgP tp t s 40 ∧ (∀ Q, Sp fz1 (e + 11) 41 [(3, 258)] h1 Q = Q 1 h1) ∧ ∃ h2, (∀ Q, Sp fz1 (e + 11) 86 [(3, 258), (0, dep + 1)] h1 Q = Q 0 h2) ∧ ((BADO T S h hr h2 gr) ∨ ∃ h3, (∀ Q, Sp fz1 (e + 11) 58 [(3, 258), (0, 41)] h2 Q = Q 0 h3) ∧ OUTC 1 tp t T S s h hr h3 gr 1 0))) := by
  have F := D.f
  have N := D.nb
  unfold NBR STQ at N
  by_cases w : sgP tp t s 40
  · by_cases z : dep < 12
    · obtain ⟨X1, X2, X3⟩ := D.d12 (x := dep + 1)
      have X2' := X2
      unfold NR at X2'
      have dp : ∀ Q, Sp fz1 (e2 + 11) 344 [(3, 6603)] hr Q = Q 0 (hset hr 6603 12 (dep + 1)) := fun Q => by rw [v344g (by omega) (by omega), hd.1]
      obtain ⟨g1, gr1, Y1, Y2, -, -, Y3, Y4, -, -, e3, f3⟩ := X1.2.1.nx (e + 2) (e2 + 8)
      have s3 : ∀ Q, Sp fz1 (e2 + 11) 333 [(3, 6603), (0, 40)] (hset hr 6603 12 (dep + 1)) Q = Q 0 gr1 := fun Q => by
        have q1 : ∀ (d : Nat) Q, Sp fz1 d 325 [(3, 6603)] (hset hr 6603 12 (dep + 1)) Q = Q 1 (hset hr 6603 12 (dep + 1)) := fun d Q => v325g X1.2.1
        have cs : ∀ (d : Nat) Q, Sp fz1 d 334 [(3, 6603), (0, 40)] (hset hr 6603 12 (dep + 1)) Q = Q 1 (hset hr 6603 12 (dep + 1)) := fun d Q => v334y X1.2.1 w
        have pp := f3
        simp (implicitDefEqProofs := false) (disch := omega) only [sp333, b333_0, b333_1, b333_2, q333_1, q333_2, x_aload0, y_call321, y_call325, y_call332, y_call334, x_goto_2, x_ifCond_eq_1, x_iload1, x_return, klp_0, klp_1, klp_2, klp_3, klp_9, KC_0, KC_1, KC_2, KC_3, KC_4, ne_eq, not_false_eq_true, not_true_eq_false, true_and, and_true, and_self, implies_true, eq_self, true_imp_iff, false_implies, Int.reduceEq, Int.reduceNe, Int.reduceMod, Int.reduceMul, Int.reduceAdd, Int.reduceSub, Int.reduceLT, Int.reduceLE, Nat.reduceAdd, Nat.reduceLeDiff, Nat.reduceLT, Nat.reduceSub, reduceIte, wds_n, wds_0, wds_1, wds_2, wds_3, or_true, true_or, or_false, false_or, or_self, false_and, and_false, d_pos, d_s1, d_s2, d_s3, d_s4, d_s5, d_s6, d_s7, d_s8, Classical.not_not, q1, cs, pp, d_s9, d_s10, d_s11, d_s12, d_s13, d_s14, d_s15, d_s16, d_s17, d_s18, d_s19, d_s20, d_s21, d_s22, d_s23, d_s24, d_s25, d_s26, d_s27, d_s28, d_s29, d_s30, le_sub1, le_T, le_F, lt_T, lt_F, eq_F, w32_T, bz0, bz1, lc_le, lc_ge, lc_lt, lc_gt, lc_eq]
      have Y3' := Y3
      have Y4' := Y4
      unfold NC at Y3'
      unfold NR at Y4'
      have Z := X1.trans Y1
      obtain ⟨k, kr, e5, f5, V⟩ := O z (e + 11) (e2 + 11) _ g1 gr1 he he2 Y1.2.1 (by omega)
      have q1 : ∀ (d : Nat) Q, Sp fz1 d 325 [(3, 6603)] hr Q = Q 1 hr := fun d Q => v325g D
      have cs : ∀ (d : Nat) Q, Sp fz1 d 334 [(3, 6603), (0, 40)] hr Q = Q 1 hr := fun d Q => v334y D w
      rcases V with ⟨s3', V1, V2, V3, V4, V5⟩ | V
      · obtain ⟨f', fr', e6, f6, W⟩ := V1.2.1.sign (c := 41) (by decide) (e + 2) (e2 + 8)
        have V3' := V3
        unfold DXP at V3'
        have kN := V1.2.1.nb
        unfold NBR STQ at kN
        rcases W with ⟨-, s4, W1, W2, W3, W4⟩ | ⟨-, W1, W2, W3, W4, W5, W6, W7⟩
        · obtain ⟨U1, U2, U3⟩ := W2.2.1.d12 (x := dep)
          have W3' := W3
          have W4' := W4
          have U2' := U2
          unfold NC at W3'
          unfold NR at W4' U2'
          have sb12 : fr' 6603 12 - 1 = dep := by omega
          refine ⟨g1, hset fr' 6603 12 dep, fun Q => c79g D (by decide) w z (e3), fun Q => ?_, .inr ⟨w, fun Q => c41g Y1.2.1, k, e5, .inr ⟨f', e6, .inl ⟨s4, ((Z.trans V1).trans W2).trans U1, ?_, ?_, by omega, fun K V CL A => ?_⟩⟩⟩⟩
          · simp (implicitDefEqProofs := false) (disch := omega) only [sp356, b356_0, b356_1, b356_2, b356_3, b356_4, q356_1, q356_2, q356_3, q356_4, x_aload0, y_call325, y_call333, y_call334, y_call344, y_call350, x_dup0, x_dup3, x_gf_11360, x_goto_1, x_goto_2, x_goto_3, x_iconst, x_ifCond_eq_1, x_ifCond_le_3, x_if_icmp_ge_4, x_iinc2, x_iload1, x_iload2, x_istore2, x_isub, x_pf_11360, x_return, klp_0, klp_1, klp_2, klp_3, klp_9, KC_0, KC_1, KC_2, KC_3, KC_4, ne_eq, not_false_eq_true, not_true_eq_false, true_and, and_true, and_self, implies_true, eq_self, true_imp_iff, false_implies, Int.reduceEq, Int.reduceNe, Int.reduceMod, Int.reduceMul, Int.reduceAdd, Int.reduceSub, Int.reduceLT, Int.reduceLE, Nat.reduceAdd, Nat.reduceLeDiff, Nat.reduceLT, Nat.reduceSub, reduceIte, wds_n, wds_0, wds_1, wds_2, wds_3, or_true, true_or, or_false, false_or, or_self, false_and, and_false, d_pos, d_s1, d_s2, d_s3, d_s4, d_s5, d_s6, d_s7, d_s8, Classical.not_not, q1, cs, dp, s3, f5, f6, sb12, d_s9, d_s10, d_s11, d_s12, d_s13, d_s14, d_s15, d_s16, d_s17, d_s18, d_s19, d_s20, d_s21, d_s22, d_s23, d_s24, d_s25, d_s26, d_s27, d_s28, d_s29, d_s30, le_sub1, le_T, le_F, lt_T, lt_F, eq_F, w32_T, bz0, bz1, lc_le, lc_ge, lc_lt, lc_gt, lc_eq]
          · exact ((NVR.same (gr := gr1) (show g1 258 6 = h 258 6 by omega)).trans V1.2.2.1.1 V1.2.2.2.1 V2).trans W2.2.2.1.1 (W2.trans U1).2.2.2.1 (NVR.same (by omega))
          · unfold DXP
            omega
          · have A1 := A.sub (h := k) (hr := kr) (by omega) (W2.2.2.1.1.lo (c2 := h T 17) (by omega)) ((W2.trans U1).2.2.2.1.lo (r2 := hr S 15) (t2 := hr S 22) (by omega) (by omega)) (Int.le_refl _) (Int.le_refl _) (Int.le_refl _)
            have P1 := V5 K V CL (A1.lo (by omega) (by omega) (by omega))
            rw [show g1 T 17 = h T 17 by omega, show gr1 S 15 = hr S 15 by omega, show k T 17 = f' T 17 by omega, show kr S 15 = hset fr' 6603 12 dep S 15 by omega] at P1
            exact P1
        · obtain ⟨U1, U2, U3, U4⟩ := W2.d12 (x := dep)
          have sb12 : fr' 6603 12 - 1 = dep := by omega
          have u14 : hset fr' 6603 12 dep S 14 = fr' S 14 := by rw [U3]
          have u15 : hset fr' 6603 12 dep S 15 = fr' S 15 := by rw [U3]
          refine ⟨g1, hset fr' 6603 12 dep, fun Q => c79g D (by decide) w z (e3), fun Q => ?_, .inr ⟨w, fun Q => c41g Y1.2.1, k, e5, .inr ⟨f', e6, .inr ⟨⟨_, W1, U1⟩, Z.2.2.1.2.trans (V1.2.2.1.2.trans W3), Z.2.2.2.2.trans (V1.2.2.2.2.trans (W4.trans U2)), by omega, by omega, by omega⟩⟩⟩⟩
          simp (implicitDefEqProofs := false) (disch := omega) only [sp356, b356_0, b356_1, b356_2, b356_3, b356_4, q356_1, q356_2, q356_3, q356_4, x_aload0, y_call325, y_call333, y_call334, y_call344, y_call350, x_dup0, x_dup3, x_gf_11360, x_goto_1, x_goto_2, x_goto_3, x_iconst, x_ifCond_eq_1, x_ifCond_le_3, x_if_icmp_ge_4, x_iinc2, x_iload1, x_iload2, x_istore2, x_isub, x_pf_11360, x_return, klp_0, klp_1, klp_2, klp_3, klp_9, KC_0, KC_1, KC_2, KC_3, KC_4, ne_eq, not_false_eq_true, not_true_eq_false, true_and, and_true, and_self, implies_true, eq_self, true_imp_iff, false_implies, Int.reduceEq, Int.reduceNe, Int.reduceMod, Int.reduceMul, Int.reduceAdd, Int.reduceSub, Int.reduceLT, Int.reduceLE, Nat.reduceAdd, Nat.reduceLeDiff, Nat.reduceLT, Nat.reduceSub, reduceIte, wds_n, wds_0, wds_1, wds_2, wds_3, or_true, true_or, or_false, false_or, or_self, false_and, and_false, d_pos, d_s1, d_s2, d_s3, d_s4, d_s5, d_s6, d_s7, d_s8, Classical.not_not, q1, cs, dp, s3, f5, f6, sb12, d_s9, d_s10, d_s11, d_s12, d_s13, d_s14, d_s15, d_s16, d_s17, d_s18, d_s19, d_s20, d_s21, d_s22, d_s23, d_s24, d_s25, d_s26, d_s27, d_s28, d_s29, d_s30, le_sub1, le_T, le_F, lt_T, lt_F, eq_F, w32_T, bz0, bz1, lc_le, lc_ge, lc_lt, lc_gt, lc_eq]
      · obtain ⟨⟨f, B1, B2⟩, F1, F2, b3, b4, b5⟩ := V
        obtain ⟨U1, U2, U3, U4⟩ := B2.d12 (x := w32 (kr 6603 12 - 1))
        have u14 : hset kr 6603 12 (w32 (kr 6603 12 - 1)) S 14 = kr S 14 := by rw [U3]
        have u15 : hset kr 6603 12 (w32 (kr 6603 12 - 1)) S 15 = kr S 15 := by rw [U3]
        have gN := Y1.2.1.nb
        unfold NBR STQ at gN
        have sb7 : ∀ Q, Sp fz1 (e2 + 11) 333 [(3, 6603), (0, 41)] kr Q = Q 0 kr := fun Q => v333b (by have := B2.2.1; omega)
        refine ⟨g1, hset kr 6603 12 (w32 (kr 6603 12 - 1)), fun Q => c79g D (by decide) w z (e3), fun Q => ?_, .inr ⟨w, fun Q => c41g Y1.2.1, k, e5, .inl ⟨⟨f, B1, U1⟩, Z.2.2.1.2.trans F1, Z.2.2.2.2.trans (F2.trans U2), by omega, by omega, by omega⟩⟩⟩
        simp (implicitDefEqProofs := false) (disch := omega) only [sp356, b356_0, b356_1, b356_2, b356_3, b356_4, q356_1, q356_2, q356_3, q356_4, x_aload0, y_call325, y_call333, y_call334, y_call344, y_call350, x_dup0, x_dup3, x_gf_11360, x_goto_1, x_goto_2, x_goto_3, x_iconst, x_ifCond_eq_1, x_ifCond_le_3, x_if_icmp_ge_4, x_iinc2, x_iload1, x_iload2, x_istore2, x_isub, x_pf_11360, x_return, klp_0, klp_1, klp_2, klp_3, klp_9, KC_0, KC_1, KC_2, KC_3, KC_4, ne_eq, not_false_eq_true, not_true_eq_false, true_and, and_true, and_self, implies_true, eq_self, true_imp_iff, false_implies, Int.reduceEq, Int.reduceNe, Int.reduceMod, Int.reduceMul, Int.reduceAdd, Int.reduceSub, Int.reduceLT, Int.reduceLE, Nat.reduceAdd, Nat.reduceLeDiff, Nat.reduceLT, Nat.reduceSub, reduceIte, wds_n, wds_0, wds_1, wds_2, wds_3, or_true, true_or, or_false, false_or, or_self, false_and, and_false, d_pos, d_s1, d_s2, d_s3, d_s4, d_s5, d_s6, d_s7, d_s8, Classical.not_not, q1, cs, dp, s3, f5, sb7, d_s9, d_s10, d_s11, d_s12, d_s13, d_s14, d_s15, d_s16, d_s17, d_s18, d_s19, d_s20, d_s21, d_s22, d_s23, d_s24, d_s25, d_s26, d_s27, d_s28, d_s29, d_s30, le_sub1, le_T, le_F, lt_T, lt_F, eq_F, w32_T, bz0, bz1, lc_le, lc_ge, lc_lt, lc_gt, lc_eq]
    · -- too deep
      have B0 := D.bad0
      obtain ⟨B1, B2, B3, B4, B5, B6, B7⟩ := B0
      obtain ⟨U1, U2, U3, U4⟩ := B2.d12 (x := 13)
      obtain ⟨U5, U6, U7, U8⟩ := U1.d12 (x := dep)
      have hz : dep = 12 := by omega
      have q1 : ∀ (d : Nat) Q, Sp fz1 d 325 [(3, 6603)] hr Q = Q 1 hr := fun d Q => v325g D
      have cs : ∀ (d : Nat) Q, Sp fz1 d 334 [(3, 6603), (0, 40)] hr Q = Q 1 hr := fun d Q => v334y D w
      have dp : ∀ Q, Sp fz1 (e2 + 11) 344 [(3, 6603)] hr Q = Q 0 (hset (bdR hr) 6603 12 13) := fun Q => v344x (by omega) (by omega)
      have u14 : hset (hset (bdR hr) 6603 12 13) 6603 12 dep S 14 = hr S 14 := by rw [U7, U3]; exact B5
      have u15 : hset (hset (bdR hr) 6603 12 13) 6603 12 dep S 15 = hr S 15 := by rw [U7, U3]; exact B6
      generalize hset (bdR hr) 6603 12 13 = k1 at *
      have r7 : 0 ≤ k1 6603 7 := by have := U1.2.1; omega
      have sb7 : ∀ c (Q : Int → HV → Prop), Sp fz1 (e2 + 11) 333 [(3, 6603), (0, c)] k1 Q = Q 0 k1 := fun c Q => v333b r7
      obtain ⟨k2, hk2⟩ : ∃ k2, k2 = k1 := ⟨_, rfl⟩
      have sx : ∀ Q, Sp fz1 (e2 + 11) 350 [(3, 6603)] k1 Q = Q 0 k2 := fun Q => by rw [hk2]; exact v350b r7
      have sb8 : ∀ c (Q : Int → HV → Prop), Sp fz1 (e2 + 11) 333 [(3, 6603), (0, c)] k2 Q = Q 0 k2 := fun c Q => by rw [hk2]; exact v333b r7
      have e12 : k2 6603 12 - 1 = dep := by rw [hk2, U4]; omega
      refine ⟨bdH h, hset k1 6603 12 dep, fun Q => c79f D (by decide) (fun u => z u.1), fun Q => ?_, .inl ⟨⟨s, B1, U5⟩, ⟨⟨s, B1, U5⟩, B3, B4.trans (U2.trans U6), by omega, by omega, by omega⟩⟩⟩
      rw [← hk2]
      simp (implicitDefEqProofs := false) (disch := omega) only [sp356, b356_0, b356_1, b356_2, b356_3, b356_4, q356_1, q356_2, q356_3, q356_4, x_aload0, y_call325, y_call333, y_call334, y_call344, y_call350, x_dup0, x_dup3, x_gf_11360, x_goto_1, x_goto_2, x_goto_3, x_iconst, x_ifCond_eq_1, x_ifCond_le_3, x_if_icmp_ge_4, x_iinc2, x_iload1, x_iload2, x_istore2, x_isub, x_pf_11360, x_return, klp_0, klp_1, klp_2, klp_3, klp_9, KC_0, KC_1, KC_2, KC_3, KC_4, ne_eq, not_false_eq_true, not_true_eq_false, true_and, and_true, and_self, implies_true, eq_self, true_imp_iff, false_implies, Int.reduceEq, Int.reduceNe, Int.reduceMod, Int.reduceMul, Int.reduceAdd, Int.reduceSub, Int.reduceLT, Int.reduceLE, Nat.reduceAdd, Nat.reduceLeDiff, Nat.reduceLT, Nat.reduceSub, reduceIte, wds_n, wds_0, wds_1, wds_2, wds_3, or_true, true_or, or_false, false_or, or_self, false_and, and_false, d_pos, d_s1, d_s2, d_s3, d_s4, d_s5, d_s6, d_s7, d_s8, Classical.not_not, q1, cs, dp, sb7, sx, sb8, e12, d_s9, d_s10, d_s11, d_s12, d_s13, d_s14, d_s15, d_s16, d_s17, d_s18, d_s19, d_s20, d_s21, d_s22, d_s23, d_s24, d_s25, d_s26, d_s27, d_s28, d_s29, d_s30, le_sub1, le_T, le_F, lt_T, lt_F, eq_F, w32_T, bz0, bz1, lc_le, lc_ge, lc_lt, lc_gt, lc_eq]
  · -- no ( here
    have B0 := D.bad0
    obtain ⟨B1, B2, B3, B4, B5, B6, B7⟩ := B0
    obtain ⟨U5, U6, U7, U8⟩ := B2.d12 (x := w32 (bdR hr 6603 12 - 1))
    obtain ⟨g1, gr1, e3, f3, X⟩ := D.sign (c := 40) (by decide) (e + 2) (e2 + 8)
    have q1 : ∀ (d : Nat) Q, Sp fz1 d 325 [(3, 6603)] hr Q = Q 1 hr := fun d Q => v325g D
    have cs : ∀ (d : Nat) Q, Sp fz1 d 334 [(3, 6603), (0, 40)] hr Q = Q 0 hr := fun d Q => v334n D w
    rcases X with ⟨X, -⟩ | ⟨-, X1, X2, X3, X4, X5, X6, X7⟩
    · exact absurd X w
    · obtain ⟨U5, U6, U7, U8⟩ := X2.d12 (x := w32 (gr1 6603 12 - 1))
      have u14 : hset gr1 6603 12 (w32 (gr1 6603 12 - 1)) S 14 = hr S 14 := by rw [U7]; exact X5
      have u15 : hset gr1 6603 12 (w32 (gr1 6603 12 - 1)) S 15 = hr S 15 := by rw [U7]; exact X6
      have r7 : 0 ≤ gr1 6603 7 := by have := X2.2.1; omega
      obtain ⟨k2, hk2⟩ : ∃ k2, k2 = gr1 := ⟨_, rfl⟩
      have sb7 : ∀ Q, Sp fz1 (e2 + 11) 333 [(3, 6603), (0, 41)] k2 Q = Q 0 k2 := fun Q => by rw [hk2]; exact v333b r7
      have sx : ∀ Q, Sp fz1 (e2 + 11) 350 [(3, 6603)] gr1 Q = Q 0 k2 := fun Q => by rw [hk2]; exact v350b r7
      refine ⟨bdH h, hset gr1 6603 12 (w32 (gr1 6603 12 - 1)), fun Q => c79f D (by decide) (fun u => w u.2), fun Q => ?_, .inl ⟨⟨s, B1, U5⟩, ⟨⟨s, B1, U5⟩, B3, X4.trans U6, by omega, by omega, by omega⟩⟩⟩
      · rw [← hk2]
        simp (implicitDefEqProofs := false) (disch := omega) only [sp356, b356_0, b356_1, b356_2, b356_3, b356_4, q356_1, q356_2, q356_3, q356_4, x_aload0, y_call325, y_call333, y_call334, y_call344, y_call350, x_dup0, x_dup3, x_gf_11360, x_goto_1, x_goto_2, x_goto_3, x_iconst, x_ifCond_eq_1, x_ifCond_le_3, x_if_icmp_ge_4, x_iinc2, x_iload1, x_iload2, x_istore2, x_isub, x_pf_11360, x_return, klp_0, klp_1, klp_2, klp_3, klp_9, KC_0, KC_1, KC_2, KC_3, KC_4, ne_eq, not_false_eq_true, not_true_eq_false, true_and, and_true, and_self, implies_true, eq_self, true_imp_iff, false_implies, Int.reduceEq, Int.reduceNe, Int.reduceMod, Int.reduceMul, Int.reduceAdd, Int.reduceSub, Int.reduceLT, Int.reduceLE, Nat.reduceAdd, Nat.reduceLeDiff, Nat.reduceLT, Nat.reduceSub, reduceIte, wds_n, wds_0, wds_1, wds_2, wds_3, or_true, true_or, or_false, false_or, or_self, false_and, and_false, d_pos, d_s1, d_s2, d_s3, d_s4, d_s5, d_s6, d_s7, d_s8, Classical.not_not, q1, cs, f3, sb7, sx, d_s9, d_s10, d_s11, d_s12, d_s13, d_s14, d_s15, d_s16, d_s17, d_s18, d_s19, d_s20, d_s21, d_s22, d_s23, d_s24, d_s25, d_s26, d_s27, d_s28, d_s29, d_s30, le_sub1, le_T, le_F, lt_T, lt_F, eq_F, w32_T, bz0, bz1, lc_le, lc_ge, lc_lt, lc_gt, lc_eq]
/-- two exps in parentheses -/
theorem ins2 {dep : Int} {B e e2 : Nat} (he : B ≤ e + 11) (he2 : B ≤ e2 + 11) (O : dep < 12 → EXPQ tp t T S (dep + 1) B) (D : GD 1 tp t T S s h hr) (hd : hr 6603 12 = dep ∧ 1 ≤ h 258 11 ∧ h 258 11 ≤ dep + 1) (hd2 : 0 ≤ dep ∧ dep ≤ 12) : ∃ h1 gr, (∀ Q, Sp fz1 (e + 11) 79 [(3, 258), (0, 40), (0, dep)] h Q = Q 0 h1) ∧ (∀ Q, Sp fz1 (e2 + 12) 356 [(3, 6603), (0, 2)] hr Q = Q 0 gr) ∧ (((∃ f, BDC T f h1 ∧ BDR S f gr) ∧ BADO T S h hr h1 gr) ∨ ((∀ Q, Sp fz1 (e + 11) 41 [(3, 258)] h1 Q = Q 1 h1) ∧ ∃ h2, (∀ Q, Sp fz1 (e + 11) 86 [(3, 258), (0, dep + 1)] h1 Q = Q 0 h2) ∧ ((BADO T S h hr h2 gr) ∨ ∃ h3, (∀ Q, Sp fz1 (e + 11) 58 [(3, 258), (0, 44)] h2 Q = Q 0 h3) ∧ ((BADO T S h hr h3 gr) ∨ ((∀ Q, Sp fz1 (e + 11) 41 [(3, 258)] h3 Q = Q 1 h3) ∧ ∃ h4, (∀ Q, Sp fz1 (e + 11) 86 [(3, 258), (0, dep + 1)] h3 Q = Q 0 h4) ∧ ((BADO T S h hr h4 gr) ∨ ∃ h5, (∀ Q, Sp fz1 (e + 11) 58 [(3, 258), (0, 41)] h4 Q = Q 0 h5) ∧ OUTC 1 tp t T S s h hr h5 gr 2 0)))))) := by
  have F := D.f
  have N := D.nb
  unfold NBR STQ at N
  by_cases w : sgP tp t s 40
  · by_cases z : dep < 12
    · obtain ⟨X1, X2, X3⟩ := D.d12 (x := dep + 1)
      have X2' := X2
      unfold NR at X2'
      have dp : ∀ Q, Sp fz1 (e2 + 11) 344 [(3, 6603)] hr Q = Q 0 (hset hr 6603 12 (dep + 1)) := fun Q => by rw [v344g (by omega) (by omega), hd.1]
      obtain ⟨g1, gr1, Y1, Y2, -, -, Y3, Y4, -, -, e3, f3⟩ := X1.2.1.nx (e + 2) (e2 + 8)
      have s3 : ∀ Q, Sp fz1 (e2 + 11) 333 [(3, 6603), (0, 40)] (hset hr 6603 12 (dep + 1)) Q = Q 0 gr1 := fun Q => by
        have q1 : ∀ (d : Nat) Q, Sp fz1 d 325 [(3, 6603)] (hset hr 6603 12 (dep + 1)) Q = Q 1 (hset hr 6603 12 (dep + 1)) := fun d Q => v325g X1.2.1
        have cs : ∀ (d : Nat) Q, Sp fz1 d 334 [(3, 6603), (0, 40)] (hset hr 6603 12 (dep + 1)) Q = Q 1 (hset hr 6603 12 (dep + 1)) := fun d Q => v334y X1.2.1 w
        have pp := f3
        simp (implicitDefEqProofs := false) (disch := omega) only [sp333, b333_0, b333_1, b333_2, q333_1, q333_2, x_aload0, y_call321, y_call325, y_call332, y_call334, x_goto_2, x_ifCond_eq_1, x_iload1, x_return, klp_0, klp_1, klp_2, klp_3, klp_9, KC_0, KC_1, KC_2, KC_3, KC_4, ne_eq, not_false_eq_true, not_true_eq_false, true_and, and_true, and_self, implies_true, eq_self, true_imp_iff, false_implies, Int.reduceEq, Int.reduceNe, Int.reduceMod, Int.reduceMul, Int.reduceAdd, Int.reduceSub, Int.reduceLT, Int.reduceLE, Nat.reduceAdd, Nat.reduceLeDiff, Nat.reduceLT, Nat.reduceSub, reduceIte, wds_n, wds_0, wds_1, wds_2, wds_3, or_true, true_or, or_false, false_or, or_self, false_and, and_false, d_pos, d_s1, d_s2, d_s3, d_s4, d_s5, d_s6, d_s7, d_s8, Classical.not_not, q1, cs, pp, d_s9, d_s10, d_s11, d_s12, d_s13, d_s14, d_s15, d_s16, d_s17, d_s18, d_s19, d_s20, d_s21, d_s22, d_s23, d_s24, d_s25, d_s26, d_s27, d_s28, d_s29, d_s30, le_sub1, le_T, le_F, lt_T, lt_F, eq_F, w32_T, bz0, bz1, lc_le, lc_ge, lc_lt, lc_gt, lc_eq]
      have Y3' := Y3
      have Y4' := Y4
      unfold NC at Y3'
      unfold NR at Y4'
      have Z := X1.trans Y1
      obtain ⟨k, kr, e5, f5, V⟩ := O z (e + 11) (e2 + 11) _ g1 gr1 he he2 Y1.2.1 (by omega)
      have q1 : ∀ (d : Nat) Q, Sp fz1 d 325 [(3, 6603)] hr Q = Q 1 hr := fun d Q => v325g D
      have cs : ∀ (d : Nat) Q, Sp fz1 d 334 [(3, 6603), (0, 40)] hr Q = Q 1 hr := fun d Q => v334y D w
      rcases V with ⟨s3', V1, V2, V3, V4, V5⟩ | V
      · obtain ⟨m, mr, e6, f6, W⟩ := V1.2.1.sign (c := 44) (by decide) (e + 2) (e2 + 8)
        have V3' := V3
        unfold DXP at V3'
        have kN := V1.2.1.nb
        unfold NBR STQ at kN
        rcases W with ⟨-, s4, W1, W2, W3, W4⟩ | ⟨-, W1, W2, W3, W4, W5, W6, W7⟩
        · have W3' := W3
          have W4' := W4
          unfold NC at W3'
          unfold NR at W4'
          obtain ⟨k2, kr2, e7, f7, V'⟩ := O z (e + 11) (e2 + 11) _ m mr he he2 W2.2.1 (by omega)
          rcases V' with ⟨s5, R1, R2, R3, R4, R5⟩ | V'
          · obtain ⟨f', fr', e8, f8, W'⟩ := R1.2.1.sign (c := 41) (by decide) (e + 2) (e2 + 8)
            have R3' := R3
            unfold DXP at R3'
            have k2N := R1.2.1.nb
            unfold NBR STQ at k2N
            rcases W' with ⟨-, s6, M1, M2, M3, M4⟩ | ⟨-, M1, M2, M3, M4, M5, M6, M7⟩
            · obtain ⟨U1, U2, U3⟩ := M2.2.1.d12 (x := dep)
              have M3' := M3
              have M4' := M4
              have U2' := U2
              unfold NC at M3'
              unfold NR at M4' U2'
              have sb12 : fr' 6603 12 - 1 = dep := by omega
              refine ⟨g1, hset fr' 6603 12 dep, fun Q => c79g D (by decide) w z (e3), fun Q => ?_, .inr ⟨fun Q => c41g Y1.2.1, k, e5, .inr ⟨m, e6, .inr ⟨fun Q => c41g W2.2.1, k2, e7, .inr ⟨f', e8, .inl ⟨s6, ((((Z.trans V1).trans W2).trans R1).trans M2).trans U1, ?_, ?_, by omega, fun K V CL A => ?_⟩⟩⟩⟩⟩⟩
              · simp (implicitDefEqProofs := false) (disch := omega) only [sp356, b356_0, b356_1, b356_2, b356_3, b356_4, q356_1, q356_2, q356_3, q356_4, x_aload0, y_call325, y_call333, y_call334, y_call344, y_call350, x_dup0, x_dup3, x_gf_11360, x_goto_1, x_goto_2, x_goto_3, x_iconst, x_ifCond_eq_1, x_ifCond_le_3, x_if_icmp_ge_4, x_iinc2, x_iload1, x_iload2, x_istore2, x_isub, x_pf_11360, x_return, klp_0, klp_1, klp_2, klp_3, klp_9, KC_0, KC_1, KC_2, KC_3, KC_4, ne_eq, not_false_eq_true, not_true_eq_false, true_and, and_true, and_self, implies_true, eq_self, true_imp_iff, false_implies, Int.reduceEq, Int.reduceNe, Int.reduceMod, Int.reduceMul, Int.reduceAdd, Int.reduceSub, Int.reduceLT, Int.reduceLE, Nat.reduceAdd, Nat.reduceLeDiff, Nat.reduceLT, Nat.reduceSub, reduceIte, wds_n, wds_0, wds_1, wds_2, wds_3, or_true, true_or, or_false, false_or, or_self, false_and, and_false, d_pos, d_s1, d_s2, d_s3, d_s4, d_s5, d_s6, d_s7, d_s8, Classical.not_not, q1, cs, dp, s3, f5, f6, f7, f8, sb12, d_s9, d_s10, d_s11, d_s12, d_s13, d_s14, d_s15, d_s16, d_s17, d_s18, d_s19, d_s20, d_s21, d_s22, d_s23, d_s24, d_s25, d_s26, d_s27, d_s28, d_s29, d_s30, le_sub1, le_T, le_F, lt_T, lt_F, eq_F, w32_T, bz0, bz1, lc_le, lc_ge, lc_lt, lc_gt, lc_eq]
              · have n1 := ((NVR.same (gr := gr1) (show g1 258 6 = h 258 6 by omega)).trans V1.2.2.1.1 V1.2.2.2.1 V2).trans W2.2.2.1.1 W2.2.2.2.1 (NVR.same (gr := mr) (by omega))
                exact (n1.trans R1.2.2.1.1 R1.2.2.2.1 R2).trans M2.2.2.1.1 (M2.trans U1).2.2.2.1 (NVR.same (by omega))
              · unfold DXP
                omega
              · have A1 := A.sub (h := k2) (hr := kr2) (by omega) (M2.2.2.1.1.lo (c2 := h T 17) (by omega)) ((M2.trans U1).2.2.2.1.lo (r2 := hr S 15) (t2 := hr S 22) (by omega) (by omega)) (Int.le_refl _) (Int.le_refl _) (Int.le_refl _)
                have P2 := R5 K V CL (A1.lo (by omega) (by omega) (by omega))
                have A2 := A1.sub (h := k) (hr := kr) (by omega) ((W2.trans R1).2.2.1.1.lo (c2 := h T 17) (by omega)) ((W2.trans R1).2.2.2.1.lo (r2 := hr S 15) (t2 := hr S 22) (by omega) (by omega)) (Int.le_refl _) (Int.le_refl _) (Int.le_refl _)
                have P1 := V5 K V CL (A2.lo (by omega) (by omega) (by omega))
                rw [show g1 T 17 = h T 17 by omega, show gr1 S 15 = hr S 15 by omega] at P1
                rw [show m T 17 = k T 17 by omega, show mr S 15 = kr S 15 by omega, show k2 T 17 = f' T 17 by omega, show kr2 S 15 = hset fr' 6603 12 dep S 15 by omega] at P2
                exact P1.seq P2 (by omega) (by omega) (by omega) (by omega) (by omega) (by omega) (by omega) (by omega) (by omega)
            · obtain ⟨U1, U2, U3, U4⟩ := M2.d12 (x := dep)
              have sb12 : fr' 6603 12 - 1 = dep := by omega
              have u14 : hset fr' 6603 12 dep S 14 = fr' S 14 := by rw [U3]
              have u15 : hset fr' 6603 12 dep S 15 = fr' S 15 := by rw [U3]
              refine ⟨g1, hset fr' 6603 12 dep, fun Q => c79g D (by decide) w z (e3), fun Q => ?_, .inr ⟨fun Q => c41g Y1.2.1, k, e5, .inr ⟨m, e6, .inr ⟨fun Q => c41g W2.2.1, k2, e7, .inr ⟨f', e8, .inr ⟨⟨_, M1, U1⟩, ((Z.trans V1).trans (W2.trans R1)).2.2.1.2.trans M3, ((Z.trans V1).trans (W2.trans R1)).2.2.2.2.trans (M4.trans U2), by omega, by omega, by omega⟩⟩⟩⟩⟩⟩
              simp (implicitDefEqProofs := false) (disch := omega) only [sp356, b356_0, b356_1, b356_2, b356_3, b356_4, q356_1, q356_2, q356_3, q356_4, x_aload0, y_call325, y_call333, y_call334, y_call344, y_call350, x_dup0, x_dup3, x_gf_11360, x_goto_1, x_goto_2, x_goto_3, x_iconst, x_ifCond_eq_1, x_ifCond_le_3, x_if_icmp_ge_4, x_iinc2, x_iload1, x_iload2, x_istore2, x_isub, x_pf_11360, x_return, klp_0, klp_1, klp_2, klp_3, klp_9, KC_0, KC_1, KC_2, KC_3, KC_4, ne_eq, not_false_eq_true, not_true_eq_false, true_and, and_true, and_self, implies_true, eq_self, true_imp_iff, false_implies, Int.reduceEq, Int.reduceNe, Int.reduceMod, Int.reduceMul, Int.reduceAdd, Int.reduceSub, Int.reduceLT, Int.reduceLE, Nat.reduceAdd, Nat.reduceLeDiff, Nat.reduceLT, Nat.reduceSub, reduceIte, wds_n, wds_0, wds_1, wds_2, wds_3, or_true, true_or, or_false, false_or, or_self, false_and, and_false, d_pos, d_s1, d_s2, d_s3, d_s4, d_s5, d_s6, d_s7, d_s8, Classical.not_not, q1, cs, dp, s3, f5, f6, f7, f8, sb12, d_s9, d_s10, d_s11, d_s12, d_s13, d_s14, d_s15, d_s16, d_s17, d_s18, d_s19, d_s20, d_s21, d_s22, d_s23, d_s24, d_s25, d_s26, d_s27, d_s28, d_s29, d_s30, le_sub1, le_T, le_F, lt_T, lt_F, eq_F, w32_T, bz0, bz1, lc_le, lc_ge, lc_lt, lc_gt, lc_eq]
          · obtain ⟨⟨f, B1, B2⟩, F1, F2, b3, b4, b5⟩ := V'
            obtain ⟨U1, U2, U3, U4⟩ := B2.d12 (x := w32 (kr2 6603 12 - 1))
            have u14 : hset kr2 6603 12 (w32 (kr2 6603 12 - 1)) S 14 = kr2 S 14 := by rw [U3]
            have u15 : hset kr2 6603 12 (w32 (kr2 6603 12 - 1)) S 15 = kr2 S 15 := by rw [U3]
            have sb7 : ∀ Q, Sp fz1 (e2 + 11) 333 [(3, 6603), (0, 41)] kr2 Q = Q 0 kr2 := fun Q => v333b (by have := B2.2.1; omega)
            have mN := W2.2.1.nb
            unfold NBR STQ at mN
            refine ⟨g1, hset kr2 6603 12 (w32 (kr2 6603 12 - 1)), fun Q => c79g D (by decide) w z (e3), fun Q => ?_, .inr ⟨fun Q => c41g Y1.2.1, k, e5, .inr ⟨m, e6, .inr ⟨fun Q => c41g W2.2.1, k2, e7, .inl ⟨⟨f, B1, U1⟩, ((Z.trans V1).trans W2).2.2.1.2.trans F1, ((Z.trans V1).trans W2).2.2.2.2.trans (F2.trans U2), by omega, by omega, by omega⟩⟩⟩⟩⟩
            simp (implicitDefEqProofs := false) (disch := omega) only [sp356, b356_0, b356_1, b356_2, b356_3, b356_4, q356_1, q356_2, q356_3, q356_4, x_aload0, y_call325, y_call333, y_call334, y_call344, y_call350, x_dup0, x_dup3, x_gf_11360, x_goto_1, x_goto_2, x_goto_3, x_iconst, x_ifCond_eq_1, x_ifCond_le_3, x_if_icmp_ge_4, x_iinc2, x_iload1, x_iload2, x_istore2, x_isub, x_pf_11360, x_return, klp_0, klp_1, klp_2, klp_3, klp_9, KC_0, KC_1, KC_2, KC_3, KC_4, ne_eq, not_false_eq_true, not_true_eq_false, true_and, and_true, and_self, implies_true, eq_self, true_imp_iff, false_implies, Int.reduceEq, Int.reduceNe, Int.reduceMod, Int.reduceMul, Int.reduceAdd, Int.reduceSub, Int.reduceLT, Int.reduceLE, Nat.reduceAdd, Nat.reduceLeDiff, Nat.reduceLT, Nat.reduceSub, reduceIte, wds_n, wds_0, wds_1, wds_2, wds_3, or_true, true_or, or_false, false_or, or_self, false_and, and_false, d_pos, d_s1, d_s2, d_s3, d_s4, d_s5, d_s6, d_s7, d_s8, Classical.not_not, q1, cs, dp, s3, f5, f6, f7, sb7, d_s9, d_s10, d_s11, d_s12, d_s13, d_s14, d_s15, d_s16, d_s17, d_s18, d_s19, d_s20, d_s21, d_s22, d_s23, d_s24, d_s25, d_s26, d_s27, d_s28, d_s29, d_s30, le_sub1, le_T, le_F, lt_T, lt_F, eq_F, w32_T, bz0, bz1, lc_le, lc_ge, lc_lt, lc_gt, lc_eq]
        · obtain ⟨U1, U2, U3, U4⟩ := W2.d12 (x := dep)
          have sb12 : mr 6603 12 - 1 = dep := by omega
          have u14 : hset mr 6603 12 dep S 14 = mr S 14 := by rw [U3]
          have u15 : hset mr 6603 12 dep S 15 = mr S 15 := by rw [U3]
          have r7 : 0 ≤ mr 6603 7 := by have := W2.2.1; omega
          obtain ⟨k2, hk2⟩ : ∃ k2, k2 = mr := ⟨_, rfl⟩
          have sb7 : ∀ Q, Sp fz1 (e2 + 11) 333 [(3, 6603), (0, 41)] k2 Q = Q 0 k2 := fun Q => by rw [hk2]; exact v333b r7
          have sx : ∀ Q, Sp fz1 (e2 + 11) 350 [(3, 6603)] mr Q = Q 0 k2 := fun Q => by rw [hk2]; exact v350b r7
          have sb12' : k2 6603 12 - 1 = dep := by rw [hk2]; exact sb12
          refine ⟨g1, hset mr 6603 12 dep, fun Q => c79g D (by decide) w z (e3), fun Q => ?_, .inr ⟨fun Q => c41g Y1.2.1, k, e5, .inr ⟨m, e6, .inl ⟨⟨_, W1, U1⟩, Z.2.2.1.2.trans (V1.2.2.1.2.trans W3), Z.2.2.2.2.trans (V1.2.2.2.2.trans (W4.trans U2)), by omega, by omega, by omega⟩⟩⟩⟩
          rw [← hk2]
          simp (implicitDefEqProofs := false) (disch := omega) only [sp356, b356_0, b356_1, b356_2, b356_3, b356_4, q356_1, q356_2, q356_3, q356_4, x_aload0, y_call325, y_call333, y_call334, y_call344, y_call350, x_dup0, x_dup3, x_gf_11360, x_goto_1, x_goto_2, x_goto_3, x_iconst, x_ifCond_eq_1, x_ifCond_le_3, x_if_icmp_ge_4, x_iinc2, x_iload1, x_iload2, x_istore2, x_isub, x_pf_11360, x_return, klp_0, klp_1, klp_2, klp_3, klp_9, KC_0, KC_1, KC_2, KC_3, KC_4, ne_eq, not_false_eq_true, not_true_eq_false, true_and, and_true, and_self, implies_true, eq_self, true_imp_iff, false_implies, Int.reduceEq, Int.reduceNe, Int.reduceMod, Int.reduceMul, Int.reduceAdd, Int.reduceSub, Int.reduceLT, Int.reduceLE, Nat.reduceAdd, Nat.reduceLeDiff, Nat.reduceLT, Nat.reduceSub, reduceIte, wds_n, wds_0, wds_1, wds_2, wds_3, or_true, true_or, or_false, false_or, or_self, false_and, and_false, d_pos, d_s1, d_s2, d_s3, d_s4, d_s5, d_s6, d_s7, d_s8, Classical.not_not, q1, cs, dp, s3, f5, f6, sx, sb7, sb12', d_s9, d_s10, d_s11, d_s12, d_s13, d_s14, d_s15, d_s16, d_s17, d_s18, d_s19, d_s20, d_s21, d_s22, d_s23, d_s24, d_s25, d_s26, d_s27, d_s28, d_s29, d_s30, le_sub1, le_T, le_F, lt_T, lt_F, eq_F, w32_T, bz0, bz1, lc_le, lc_ge, lc_lt, lc_gt, lc_eq]
      · obtain ⟨⟨f, B1, B2⟩, F1, F2, b3, b4, b5⟩ := V
        obtain ⟨U1, U2, U3, U4⟩ := B2.d12 (x := w32 (kr 6603 12 - 1))
        have u14 : hset kr 6603 12 (w32 (kr 6603 12 - 1)) S 14 = kr S 14 := by rw [U3]
        have u15 : hset kr 6603 12 (w32 (kr 6603 12 - 1)) S 15 = kr S 15 := by rw [U3]
        have gN := Y1.2.1.nb
        unfold NBR STQ at gN
        have r7 : 0 ≤ kr 6603 7 := by have := B2.2.1; omega
        obtain ⟨k2, hk2⟩ : ∃ k2, k2 = kr := ⟨_, rfl⟩
        obtain ⟨k3, hk3⟩ : ∃ k3, k3 = kr := ⟨_, rfl⟩
        have sb6 : ∀ Q, Sp fz1 (e2 + 11) 333 [(3, 6603), (0, 44)] kr Q = Q 0 k2 := fun Q => by rw [hk2]; exact v333b r7
        have sx : ∀ Q, Sp fz1 (e2 + 11) 350 [(3, 6603)] k2 Q = Q 0 k3 := fun Q => by rw [hk2, hk3]; exact v350b r7
        have sb7 : ∀ Q, Sp fz1 (e2 + 11) 333 [(3, 6603), (0, 41)] k3 Q = Q 0 k3 := fun Q => by rw [hk3]; exact v333b r7
        refine ⟨g1, hset kr 6603 12 (w32 (kr 6603 12 - 1)), fun Q => c79g D (by decide) w z (e3), fun Q => ?_, .inr ⟨fun Q => c41g Y1.2.1, k, e5, .inl ⟨⟨f, B1, U1⟩, Z.2.2.1.2.trans F1, Z.2.2.2.2.trans (F2.trans U2), by omega, by omega, by omega⟩⟩⟩
        rw [show hset kr 6603 12 (w32 (kr 6603 12 - 1)) = hset k3 6603 12 (w32 (k3 6603 12 - 1)) by rw [hk3]]
        simp (implicitDefEqProofs := false) (disch := omega) only [sp356, b356_0, b356_1, b356_2, b356_3, b356_4, q356_1, q356_2, q356_3, q356_4, x_aload0, y_call325, y_call333, y_call334, y_call344, y_call350, x_dup0, x_dup3, x_gf_11360, x_goto_1, x_goto_2, x_goto_3, x_iconst, x_ifCond_eq_1, x_ifCond_le_3, x_if_icmp_ge_4, x_iinc2, x_iload1, x_iload2, x_istore2, x_isub, x_pf_11360, x_return, klp_0, klp_1, klp_2, klp_3, klp_9, KC_0, KC_1, KC_2, KC_3, KC_4, ne_eq, not_false_eq_true, not_true_eq_false, true_and, and_true, and_self, implies_true, eq_self, true_imp_iff, false_implies, Int.reduceEq, Int.reduceNe, Int.reduceMod, Int.reduceMul, Int.reduceAdd, Int.reduceSub, Int.reduceLT, Int.reduceLE, Nat.reduceAdd, Nat.reduceLeDiff, Nat.reduceLT, Nat.reduceSub, reduceIte, wds_n, wds_0, wds_1, wds_2, wds_3, or_true, true_or, or_false, false_or, or_self, false_and, and_false, d_pos, d_s1, d_s2, d_s3, d_s4, d_s5, d_s6, d_s7, d_s8, Classical.not_not, q1, cs, dp, s3, f5, sb6, sx, sb7, d_s9, d_s10, d_s11, d_s12, d_s13, d_s14, d_s15, d_s16, d_s17, d_s18, d_s19, d_s20, d_s21, d_s22, d_s23, d_s24, d_s25, d_s26, d_s27, d_s28, d_s29, d_s30, le_sub1, le_T, le_F, lt_T, lt_F, eq_F, w32_T, bz0, bz1, lc_le, lc_ge, lc_lt, lc_gt, lc_eq]
    · -- too deep
      have B0 := D.bad0
      obtain ⟨B1, B2, B3, B4, B5, B6, B7⟩ := B0
      obtain ⟨U1, U2, U3, U4⟩ := B2.d12 (x := 13)
      obtain ⟨U5, U6, U7, U8⟩ := U1.d12 (x := dep)
      have hz : dep = 12 := by omega
      have q1 : ∀ (d : Nat) Q, Sp fz1 d 325 [(3, 6603)] hr Q = Q 1 hr := fun d Q => v325g D
      have cs : ∀ (d : Nat) Q, Sp fz1 d 334 [(3, 6603), (0, 40)] hr Q = Q 1 hr := fun d Q => v334y D w
      have dp : ∀ Q, Sp fz1 (e2 + 11) 344 [(3, 6603)] hr Q = Q 0 (hset (bdR hr) 6603 12 13) := fun Q => v344x (by omega) (by omega)
      have u14 : hset (hset (bdR hr) 6603 12 13) 6603 12 dep S 14 = hr S 14 := by rw [U7, U3]; exact B5
      have u15 : hset (hset (bdR hr) 6603 12 13) 6603 12 dep S 15 = hr S 15 := by rw [U7, U3]; exact B6
      generalize hset (bdR hr) 6603 12 13 = k1 at *
      have r7 : 0 ≤ k1 6603 7 := by have := U1.2.1; omega
      obtain ⟨k2, hk2⟩ : ∃ k2, k2 = k1 := ⟨_, rfl⟩
      obtain ⟨k3, hk3⟩ : ∃ k3, k3 = k1 := ⟨_, rfl⟩
      obtain ⟨k4, hk4⟩ : ∃ k4, k4 = k1 := ⟨_, rfl⟩
      have sb7 : ∀ Q, Sp fz1 (e2 + 11) 333 [(3, 6603), (0, 40)] k1 Q = Q 0 k1 := fun Q => v333b r7
      have sx : ∀ Q, Sp fz1 (e2 + 11) 350 [(3, 6603)] k1 Q = Q 0 k2 := fun Q => by rw [hk2]; exact v350b r7
      have sb8 : ∀ Q, Sp fz1 (e2 + 11) 333 [(3, 6603), (0, 44)] k2 Q = Q 0 k3 := fun Q => by rw [hk2, hk3]; exact v333b r7
      have sy : ∀ Q, Sp fz1 (e2 + 11) 350 [(3, 6603)] k3 Q = Q 0 k4 := fun Q => by rw [hk3, hk4]; exact v350b r7
      have sb9 : ∀ Q, Sp fz1 (e2 + 11) 333 [(3, 6603), (0, 41)] k4 Q = Q 0 k4 := fun Q => by rw [hk4]; exact v333b r7
      have e12 : k4 6603 12 - 1 = dep := by rw [hk4, U4]; omega
      refine ⟨bdH h, hset k1 6603 12 dep, fun Q => c79f D (by decide) (fun u => z u.1), fun Q => ?_, .inl ⟨⟨s, B1, U5⟩, ⟨⟨s, B1, U5⟩, B3, B4.trans (U2.trans U6), by omega, by omega, by omega⟩⟩⟩
      rw [show hset k1 6603 12 dep = hset k4 6603 12 dep by rw [hk4]]
      simp (implicitDefEqProofs := false) (disch := omega) only [sp356, b356_0, b356_1, b356_2, b356_3, b356_4, q356_1, q356_2, q356_3, q356_4, x_aload0, y_call325, y_call333, y_call334, y_call344, y_call350, x_dup0, x_dup3, x_gf_11360, x_goto_1, x_goto_2, x_goto_3, x_iconst, x_ifCond_eq_1, x_ifCond_le_3, x_if_icmp_ge_4, x_iinc2, x_iload1, x_iload2, x_istore2, x_isub, x_pf_11360, x_return, klp_0, klp_1, klp_2, klp_3, klp_9, KC_0, KC_1, KC_2, KC_3, KC_4, ne_eq, not_false_eq_true, not_true_eq_false, true_and, and_true, and_self, implies_true, eq_self, true_imp_iff, false_implies, Int.reduceEq, Int.reduceNe, Int.reduceMod, Int.reduceMul, Int.reduceAdd, Int.reduceSub, Int.reduceLT, Int.reduceLE, Nat.reduceAdd, Nat.reduceLeDiff, Nat.reduceLT, Nat.reduceSub, reduceIte, wds_n, wds_0, wds_1, wds_2, wds_3, or_true, true_or, or_false, false_or, or_self, false_and, and_false, d_pos, d_s1, d_s2, d_s3, d_s4, d_s5, d_s6, d_s7, d_s8, Classical.not_not, q1, cs, dp, sb7, sx, sb8, sy, sb9, e12, d_s9, d_s10, d_s11, d_s12, d_s13, d_s14, d_s15, d_s16, d_s17, d_s18, d_s19, d_s20, d_s21, d_s22, d_s23, d_s24, d_s25, d_s26, d_s27, d_s28, d_s29, d_s30, le_sub1, le_T, le_F, lt_T, lt_F, eq_F, w32_T, bz0, bz1, lc_le, lc_ge, lc_lt, lc_gt, lc_eq]
  · -- no ( here
    have B0 := D.bad0
    obtain ⟨B1, B2, B3, B4, B5, B6, B7⟩ := B0
    obtain ⟨g1, gr1, e3, f3, X⟩ := D.sign (c := 40) (by decide) (e + 2) (e2 + 8)
    have q1 : ∀ (d : Nat) Q, Sp fz1 d 325 [(3, 6603)] hr Q = Q 1 hr := fun d Q => v325g D
    have cs : ∀ (d : Nat) Q, Sp fz1 d 334 [(3, 6603), (0, 40)] hr Q = Q 0 hr := fun d Q => v334n D w
    rcases X with ⟨X, -⟩ | ⟨-, X1, X2, X3, X4, X5, X6, X7⟩
    · exact absurd X w
    · obtain ⟨U5, U6, U7, U8⟩ := X2.d12 (x := w32 (gr1 6603 12 - 1))
      have u14 : hset gr1 6603 12 (w32 (gr1 6603 12 - 1)) S 14 = hr S 14 := by rw [U7]; exact X5
      have u15 : hset gr1 6603 12 (w32 (gr1 6603 12 - 1)) S 15 = hr S 15 := by rw [U7]; exact X6
      have r7 : 0 ≤ gr1 6603 7 := by have := X2.2.1; omega
      obtain ⟨k2, hk2⟩ : ∃ k2, k2 = gr1 := ⟨_, rfl⟩
      obtain ⟨k3, hk3⟩ : ∃ k3, k3 = gr1 := ⟨_, rfl⟩
      obtain ⟨k4, hk4⟩ : ∃ k4, k4 = gr1 := ⟨_, rfl⟩
      have sx : ∀ Q, Sp fz1 (e2 + 11) 350 [(3, 6603)] gr1 Q = Q 0 k2 := fun Q => by rw [hk2]; exact v350b r7
      have sb8 : ∀ Q, Sp fz1 (e2 + 11) 333 [(3, 6603), (0, 44)] k2 Q = Q 0 k3 := fun Q => by rw [hk2, hk3]; exact v333b r7
      have sy : ∀ Q, Sp fz1 (e2 + 11) 350 [(3, 6603)] k3 Q = Q 0 k4 := fun Q => by rw [hk3, hk4]; exact v350b r7
      have sb9 : ∀ Q, Sp fz1 (e2 + 11) 333 [(3, 6603), (0, 41)] k4 Q = Q 0 k4 := fun Q => by rw [hk4]; exact v333b r7
      refine ⟨bdH h, hset gr1 6603 12 (w32 (gr1 6603 12 - 1)), fun Q => c79f D (by decide) (fun u => w u.2), fun Q => ?_, .inl ⟨⟨s, B1, U5⟩, ⟨⟨s, B1, U5⟩, B3, X4.trans U6, by omega, by omega, by omega⟩⟩⟩
      rw [show hset gr1 6603 12 (w32 (gr1 6603 12 - 1)) = hset k4 6603 12 (w32 (k4 6603 12 - 1)) by rw [hk4]]
      simp (implicitDefEqProofs := false) (disch := omega) only [sp356, b356_0, b356_1, b356_2, b356_3, b356_4, q356_1, q356_2, q356_3, q356_4, x_aload0, y_call325, y_call333, y_call334, y_call344, y_call350, x_dup0, x_dup3, x_gf_11360, x_goto_1, x_goto_2, x_goto_3, x_iconst, x_ifCond_eq_1, x_ifCond_le_3, x_if_icmp_ge_4, x_iinc2, x_iload1, x_iload2, x_istore2, x_isub, x_pf_11360, x_return, klp_0, klp_1, klp_2, klp_3, klp_9, KC_0, KC_1, KC_2, KC_3, KC_4, ne_eq, not_false_eq_true, not_true_eq_false, true_and, and_true, and_self, implies_true, eq_self, true_imp_iff, false_implies, Int.reduceEq, Int.reduceNe, Int.reduceMod, Int.reduceMul, Int.reduceAdd, Int.reduceSub, Int.reduceLT, Int.reduceLE, Nat.reduceAdd, Nat.reduceLeDiff, Nat.reduceLT, Nat.reduceSub, reduceIte, wds_n, wds_0, wds_1, wds_2, wds_3, or_true, true_or, or_false, false_or, or_self, false_and, and_false, d_pos, d_s1, d_s2, d_s3, d_s4, d_s5, d_s6, d_s7, d_s8, Classical.not_not, q1, cs, f3, sx, sb8, sy, sb9, d_s9, d_s10, d_s11, d_s12, d_s13, d_s14, d_s15, d_s16, d_s17, d_s18, d_s19, d_s20, d_s21, d_s22, d_s23, d_s24, d_s25, d_s26, d_s27, d_s28, d_s29, d_s30, le_sub1, le_T, le_F, lt_T, lt_F, eq_F, w32_T, bz0, bz1, lc_le, lc_ge, lc_lt, lc_gt, lc_eq]
end SM
