/-! THE PURE SIDE, 148: behind a fault: printed by wip/tools/gen8a.py -/
theorem d_s9 {d : Nat} : d + 9 - 1 = d + 8 := rfl
theorem d_s10 {d : Nat} : d + 10 - 1 = d + 9 := rfl
theorem d_s11 {d : Nat} : d + 11 - 1 = d + 10 := rfl
theorem d_s12 {d : Nat} : d + 12 - 1 = d + 11 := rfl
theorem d_s13 {d : Nat} : d + 13 - 1 = d + 12 := rfl
theorem d_s14 {d : Nat} : d + 14 - 1 = d + 13 := rfl
theorem d_s15 {d : Nat} : d + 15 - 1 = d + 14 := rfl
theorem d_s16 {d : Nat} : d + 16 - 1 = d + 15 := rfl
theorem d_s17 {d : Nat} : d + 17 - 1 = d + 16 := rfl
theorem d_s18 {d : Nat} : d + 18 - 1 = d + 17 := rfl
theorem d_s19 {d : Nat} : d + 19 - 1 = d + 18 := rfl
theorem d_s20 {d : Nat} : d + 20 - 1 = d + 19 := rfl
theorem d_s21 {d : Nat} : d + 21 - 1 = d + 20 := rfl
theorem d_s22 {d : Nat} : d + 22 - 1 = d + 21 := rfl
theorem d_s23 {d : Nat} : d + 23 - 1 = d + 22 := rfl
theorem d_s24 {d : Nat} : d + 24 - 1 = d + 23 := rfl
theorem d_s25 {d : Nat} : d + 25 - 1 = d + 24 := rfl
theorem d_s26 {d : Nat} : d + 26 - 1 = d + 25 := rfl
theorem d_s27 {d : Nat} : d + 27 - 1 = d + 26 := rfl
theorem d_s28 {d : Nat} : d + 28 - 1 = d + 27 := rfl
theorem d_s29 {d : Nat} : d + 29 - 1 = d + 28 := rfl
theorem d_s30 {d : Nat} : d + 30 - 1 = d + 29 := rfl
section SM
variable {T S f : Int} {h hr g gr : HV} {d : Nat} {Q : Int → HV → Prop}
theorem BDC.k (B : BDC T f h) : (TC T ∧ h 258 1 = T) ∧ 0 ≤ h 129 3 ∧ h 129 4 = 5 := ⟨B.1, by rw [B.2.1.1]; exact B.2.1.2.1, B.2.1.2.2⟩
theorem BDC.em {x : Int} (B : BDC T f h) : BDC T f (emH T h x) ∧ FXC T h (emH T h x) := by
  obtain ⟨⟨b1, b2⟩, b3, b4, b5, b6⟩ := B
  have kT := kTC b1
  have fo : ∀ o, o ≠ T → o ≠ T + 1430 → emH T h x o = h o := fun o a b => em_ne a b
  have fi : ∀ i, i ≠ 17 → emH T h x T i = h T i := fun i a => em_s a
  have f17 := em_b (T := T) (h := h) (x := x) b5
  exact ⟨⟨⟨b1, by rw [fo 258 (by omega) (by omega)]; exact b2⟩, by rw [fo 129 (by omega) (by omega)]; exact b3, fun o w => by rw [fo o (by omega) (by omega)]; exact b4 o w, f17, by rw [fo 258 (by omega) (by omega)]; exact b6⟩, fun o _ _ _ _ _ _ _ a b => fo o a b, fun i _ a => fi i a, fun i _ _ _ => by rw [fo 258 (by omega) (by omega)]⟩
/-- only the places that a fault leaves open are touched -/
theorem BDC.fr (B : BDC T f h) (F : FXC T h g) (e1 : g 129 = h 129) (e17 : 0 ≤ g T 17 ∧ g T 17 ≤ 2400) (e6 : 0 ≤ g 258 6 ∧ g 258 6 ≤ 404) (e10 : 0 ≤ g 258 10 ∧ g 258 10 ≤ 400) : BDC T f g := by
  obtain ⟨⟨b1, b2⟩, b3, b4, b5, b6⟩ := B
  have kT := kTC b1
  exact ⟨⟨b1, by rw [F.2.2 1 (by decide) (by decide) (by decide)]; exact b2⟩, by rw [e1]; exact b3, fun o w => by rw [F.1 o (by omega) (by omega) (by omega) (by omega) (by omega) (by omega) (by omega) (by omega) (by omega)]; exact b4 o w, e17, e6, e10⟩
theorem BDC.pa {i x : Int} (B : BDC T f h) : BDC T f (paH T h i x) ∧ FXC T h (paH T h i x) := by
  unfold paH
  split
  · have kT := kTC B.1.1
    have fo : ∀ o, o ≠ T + 1430 → hset h (T + 1430) i x o = h o := fun o a => hs_ne a
    have F : FXC T h (hset h (T + 1430) i x) := ⟨fun o _ _ _ _ _ _ _ _ b => fo o b, fun i _ _ => by rw [fo T (by omega)], fun i _ _ _ => by rw [fo 258 (by omega)]⟩
    exact ⟨B.fr F (fo _ (by omega)) (by rw [fo T (by omega)]; exact B.2.2.2.1) (by rw [fo 258 (by omega)]; exact B.2.2.2.2.1) (by rw [fo 258 (by omega)]; exact B.2.2.2.2.2), F⟩
  · exact ⟨B, FXC.rfl'⟩
theorem BDC.nd {x y : Int} (B : BDC T f h) : BDC T f (hset (hset h 258 3 x) T 15 y) ∧ FXC T h (hset (hset h 258 3 x) T 15 y) := by
  have kT := kTC B.1.1
  have fo : ∀ o, o ≠ T → o ≠ 258 → hset (hset h 258 3 x) T 15 y o = h o := fun o a b => by rw [hs_ne a, hs_ne b]
  have fi : ∀ i, i ≠ 15 → hset (hset h 258 3 x) T 15 y T i = h T i := fun i a => by rw [hcell a, hs_ne (by omega)]
  have f8 : ∀ i, i ≠ 3 → hset (hset h 258 3 x) T 15 y 258 i = h 258 i := fun i a => by rw [hs_ne (by omega), hcell a]
  have F : FXC T h (hset (hset h 258 3 x) T 15 y) := ⟨fun o _ a _ _ _ _ _ b _ => fo o b a, fun i a _ => fi i a, fun i a _ _ => f8 i a.1⟩
  exact ⟨B.fr F (fo _ (by omega) (by omega)) (by rw [fi 17 (by decide)]; exact B.2.2.2.1) (by rw [f8 6 (by decide)]; exact B.2.2.2.2.1) (by rw [f8 10 (by decide)]; exact B.2.2.2.2.2), F⟩
theorem BDC.an {y : Int} (B : BDC T f h) : BDC T f (hset h T 15 y) ∧ FXC T h (hset h T 15 y) := by
  have kT := kTC B.1.1
  have fo : ∀ o, o ≠ T → hset h T 15 y o = h o := fun o a => hs_ne a
  have fi : ∀ i, i ≠ 15 → hset h T 15 y T i = h T i := fun i a => hcell a
  have F : FXC T h (hset h T 15 y) := ⟨fun o _ _ _ _ _ _ _ b _ => fo o b, fun i a _ => fi i a, fun i _ _ _ => by rw [fo 258 (by omega)]⟩
  exact ⟨B.fr F (fo _ (by omega)) (by rw [fi 17 (by decide)]; exact B.2.2.2.1) (by rw [fo 258 (by omega)]; exact B.2.2.2.2.1) (by rw [fo 258 (by omega)]; exact B.2.2.2.2.2), F⟩
theorem BDC.x3 {y : Int} (B : BDC T f h) : BDC T f (hset h 258 3 y) ∧ FXC T h (hset h 258 3 y) := by
  have kT := kTC B.1.1
  have fo : ∀ o, o ≠ 258 → hset h 258 3 y o = h o := fun o a => hs_ne a
  have f8 : ∀ i, i ≠ 3 → hset h 258 3 y 258 i = h 258 i := fun i a => hcell a
  have F : FXC T h (hset h 258 3 y) := ⟨fun o _ a _ _ _ _ _ _ _ => fo o a, fun i _ _ => by rw [fo T (by omega)], fun i a _ _ => f8 i a.1⟩
  exact ⟨B.fr F (fo _ (by decide)) (by rw [fo T (by omega)]; exact B.2.2.2.1) (by rw [f8 6 (by decide)]; exact B.2.2.2.2.1) (by rw [f8 10 (by decide)]; exact B.2.2.2.2.2), F⟩
/-- how many exps are open -/
theorem BDC.o11 {y : Int} (B : BDC T f h) : BDC T f (hset h 258 11 y) ∧ FXC T h (hset h 258 11 y) := by
  have kT := kTC B.1.1
  have fo : ∀ o, o ≠ 258 → hset h 258 11 y o = h o := fun o a => hs_ne a
  have f8 : ∀ i, i ≠ 11 → hset h 258 11 y 258 i = h 258 i := fun i a => hcell a
  have F : FXC T h (hset h 258 11 y) := ⟨fun o _ a _ _ _ _ _ _ _ => fo o a, fun i _ _ => by rw [fo T (by omega)], fun i a _ _ => f8 i a.2⟩
  exact ⟨B.fr F (fo _ (by decide)) (by rw [fo T (by omega)]; exact B.2.2.2.1) (by rw [f8 6 (by decide)]; exact B.2.2.2.2.1) (by rw [f8 10 (by decide)]; exact B.2.2.2.2.2), F⟩
/-- a variable is used, or told -/
theorem BDC.use {w p : Int} (B : BDC T f h) : ∃ v g, BDC T f g ∧ FXC T h g ∧ ((0 ≤ v ∧ v < 404) ∨ v = -1) ∧ ∀ (d : Nat) Q, Sp fz1 (d + 1) 76 [(3, 258), (1, w), (0, p)] h Q = Q v g := by
  have B0 := B
  obtain ⟨⟨b1, b2⟩, b3, b4, b5, b6, b7⟩ := B
  have kT := kTC b1
  rcases fnx_sp (f := h 353) (w := w) (z := -1) b6.1 with a | a
  · exact ⟨_, h, B0, FXC.rfl', .inl ⟨a.1, by omega⟩, fun d Q => q76f b6 a.1⟩
  · by_cases m : h 258 6 = 404
    · exact ⟨-1, h, B0, FXC.rfl', .inr rfl, fun d Q => q76m b6 a.1 m⟩
    · refine ⟨_, _, ?_, ?_, .inl ⟨b6.1, by omega⟩, fun d Q => q76a b6 a.1 (by omega)⟩ <;>
        (have fo : ∀ o, o ≠ 258 → o ≠ 353 → o ≠ 416 → hset (hset (hset h 353 (h 258 6) w) 416 (h 258 6) p) 258 6 (h 258 6 + 1) o = h o := fun o x y z => by rw [hs_ne x, hs_ne z, hs_ne y]
         have f8 : ∀ i, i ≠ 6 → hset (hset (hset h 353 (h 258 6) w) 416 (h 258 6) p) 258 6 (h 258 6 + 1) 258 i = h 258 i := fun i x => by rw [hcell x, hs_ne (by decide), hs_ne (by decide)]
         have F : FXC T h (hset (hset (hset h 353 (h 258 6) w) 416 (h 258 6) p) 258 6 (h 258 6 + 1)) := ⟨fun o _ x y z _ _ _ _ _ => fo o x y z, fun i _ _ => by rw [fo T (by omega) (by omega) (by omega)], fun i _ x _ => f8 i x⟩)
      · exact B0.fr F (fo _ (by decide) (by decide) (by decide)) (by rw [fo T (by omega) (by omega) (by omega)]; exact b5) (by rw [hcel1]; omega) (by rw [f8 10 (by decide)]; exact b7)
      · exact F
theorem BDC.tell {w : Int} (B : BDC T f h) : ∃ v g, BDC T f g ∧ FXC T h g ∧ ∀ (d : Nat) Q, Sp fz1 (d + 2) 75 [(3, 258), (1, w)] h Q = Q v g := by
  obtain ⟨v, g, B1, F1, hv, e⟩ := B.use (w := w) (p := -1)
  have e1 : ∀ (d : Nat) Q, Sp fz1 (d + 1) 76 [(3, 258), (1, w), (0, -1)] h Q = Q v g := e
  rcases hv with ⟨v0, v1⟩ | v0
  · have fo : ∀ o, o ≠ 416 → hset g 416 v (-1) o = g o := fun o a => hs_ne a
    have kT := kTC B.1.1
    have F : FXC T g (hset g 416 v (-1)) := ⟨fun o _ _ _ a _ _ _ _ _ => fo o a, fun i _ _ => by rw [fo T (by omega)], fun i _ _ _ => by rw [fo 258 (by decide)]⟩
    refine ⟨v, hset g 416 v (-1), B1.fr F (fo _ (by decide)) (by rw [fo T (by omega)]; exact B1.2.2.2.1) (by rw [fo 258 (by decide)]; exact B1.2.2.2.2.1) (by rw [fo 258 (by decide)]; exact B1.2.2.2.2.2), F1.trans F, fun d Q => ?_⟩
    simp (implicitDefEqProofs := false) (disch := omega) only [sp75, b75_0, b75_1, q75_1, x_aload0, y_call76, x_gc_2091, x_goto_1, x_iastore, x_iconst, x_ifCond_lt_1, x_iload3, x_ireturn, x_istore3, x_lload1, klp_0, klp_1, klp_2, klp_3, klp_9, KC_0, KC_1, KC_2, KC_3, KC_4, ne_eq, not_false_eq_true, not_true_eq_false, true_and, and_true, and_self, implies_true, eq_self, true_imp_iff, false_implies, Int.reduceEq, Int.reduceNe, Int.reduceMod, Int.reduceMul, Int.reduceAdd, Int.reduceSub, Int.reduceLT, Int.reduceLE, Nat.reduceAdd, Nat.reduceLeDiff, Nat.reduceLT, Nat.reduceSub, reduceIte, wds_n, wds_0, wds_1, wds_2, wds_3, or_true, true_or, or_false, false_or, or_self, false_and, and_false, d_pos, d_s1, d_s2, d_s3, d_s4, d_s5, d_s6, d_s7, d_s8, Classical.not_not, z258_5, z416_l, e1, le_sub1, le_T, le_F, lt_T, lt_F, eq_F, w32_T, bz0, bz1, lc_le, lc_ge, lc_lt, lc_gt, lc_eq]
  · refine ⟨-1, g, B1, F1, fun d Q => ?_⟩
    subst v0
    simp (implicitDefEqProofs := false) (disch := omega) only [sp75, b75_0, b75_1, q75_1, x_aload0, y_call76, x_gc_2091, x_goto_1, x_iastore, x_iconst, x_ifCond_lt_1, x_iload3, x_ireturn, x_istore3, x_lload1, klp_0, klp_1, klp_2, klp_3, klp_9, KC_0, KC_1, KC_2, KC_3, KC_4, ne_eq, not_false_eq_true, not_true_eq_false, true_and, and_true, and_self, implies_true, eq_self, true_imp_iff, false_implies, Int.reduceEq, Int.reduceNe, Int.reduceMod, Int.reduceMul, Int.reduceAdd, Int.reduceSub, Int.reduceLT, Int.reduceLE, Nat.reduceAdd, Nat.reduceLeDiff, Nat.reduceLT, Nat.reduceSub, reduceIte, wds_n, wds_0, wds_1, wds_2, wds_3, or_true, true_or, or_false, false_or, or_self, false_and, and_false, d_pos, d_s1, d_s2, d_s3, d_s4, d_s5, d_s6, d_s7, d_s8, Classical.not_not, z258_5, z416_l, e1, le_sub1, le_T, le_F, lt_T, lt_F, eq_F, w32_T, bz0, bz1, lc_le, lc_ge, lc_lt, lc_gt, lc_eq]
theorem b41 (B : BDC T f h) : Sp fz1 (d + 1) 41 [(3, 258)] h Q = Q 0 h := by
  rw [q41, if_neg (by have := B.k.2.1; omega)]
theorem b79 {c e : Int} (B : BDC T f h) : Sp fz1 (d + 1) 79 [(3, 258), (0, c), (0, e)] h Q = Q 0 h := by
  obtain ⟨⟨b1, bp⟩, b3, b2⟩ := B.k
  have b4 := B.2.2.1
  have b5 := B.2.2.2.1
  by_cases z : e < 12
  · simp (implicitDefEqProofs := false) (disch := omega) only [sp79, b79_0, b79_1, b79_2, q79_1, q79_2, x_aload0, y_call28, y_call59, x_gc_2051, x_goto_2, x_iconst, x_ifCond_eq_1, x_if_icmp_ge_1, x_iload1, x_iload2, x_return, klp_0, klp_1, klp_2, klp_3, klp_9, KC_0, KC_1, KC_2, KC_3, KC_4, ne_eq, not_false_eq_true, not_true_eq_false, true_and, and_true, and_self, implies_true, eq_self, true_imp_iff, false_implies, Int.reduceEq, Int.reduceNe, Int.reduceMod, Int.reduceMul, Int.reduceAdd, Int.reduceSub, Int.reduceLT, Int.reduceLE, Nat.reduceAdd, Nat.reduceLeDiff, Nat.reduceLT, Nat.reduceSub, reduceIte, wds_n, wds_0, wds_1, wds_2, wds_3, or_true, true_or, or_false, false_or, or_self, false_and, and_false, d_pos, d_s1, d_s2, d_s3, d_s4, d_s5, d_s6, d_s7, d_s8, Classical.not_not, z258_0, c59b b2, p28b b3 b2, d_s9, d_s10, d_s11, d_s12, d_s13, d_s14, d_s15, d_s16, d_s17, d_s18, d_s19, d_s20, d_s21, d_s22, d_s23, d_s24, d_s25, d_s26, d_s27, d_s28, d_s29, d_s30, le_sub1, le_T, le_F, lt_T, lt_F, eq_F, w32_T, bz0, bz1, lc_le, lc_ge, lc_lt, lc_gt, lc_eq]
  · simp (implicitDefEqProofs := false) (disch := omega) only [sp79, b79_0, b79_1, b79_2, q79_1, q79_2, x_aload0, y_call28, y_call59, x_gc_2051, x_goto_2, x_iconst, x_ifCond_eq_1, x_if_icmp_ge_1, x_iload1, x_iload2, x_return, klp_0, klp_1, klp_2, klp_3, klp_9, KC_0, KC_1, KC_2, KC_3, KC_4, ne_eq, not_false_eq_true, not_true_eq_false, true_and, and_true, and_self, implies_true, eq_self, true_imp_iff, false_implies, Int.reduceEq, Int.reduceNe, Int.reduceMod, Int.reduceMul, Int.reduceAdd, Int.reduceSub, Int.reduceLT, Int.reduceLE, Nat.reduceAdd, Nat.reduceLeDiff, Nat.reduceLT, Nat.reduceSub, reduceIte, wds_n, wds_0, wds_1, wds_2, wds_3, or_true, true_or, or_false, false_or, or_self, false_and, and_false, d_pos, d_s1, d_s2, d_s3, d_s4, d_s5, d_s6, d_s7, d_s8, Classical.not_not, z258_0, c59b b2, p28b b3 b2, d_s9, d_s10, d_s11, d_s12, d_s13, d_s14, d_s15, d_s16, d_s17, d_s18, d_s19, d_s20, d_s21, d_s22, d_s23, d_s24, d_s25, d_s26, d_s27, d_s28, d_s29, d_s30, le_sub1, le_T, le_F, lt_T, lt_F, eq_F, w32_T, bz0, bz1, lc_le, lc_ge, lc_lt, lc_gt, lc_eq]
theorem b58 {c : Int} (B : BDC T f h) : Sp fz1 (d + 1) 58 [(3, 258), (0, c)] h Q = Q 0 h := by
  obtain ⟨⟨b1, bp⟩, b3, b2⟩ := B.k
  have b4 := B.2.2.1
  have b5 := B.2.2.2.1
  simp (implicitDefEqProofs := false) (disch := omega) only [sp58, b58_0, x_aload0, y_call28, y_call59, x_gc_2051, x_iload1, x_return, klp_0, klp_1, klp_2, klp_3, klp_9, KC_0, KC_1, KC_2, KC_3, KC_4, ne_eq, not_false_eq_true, not_true_eq_false, true_and, and_true, and_self, implies_true, eq_self, true_imp_iff, false_implies, Int.reduceEq, Int.reduceNe, Int.reduceMod, Int.reduceMul, Int.reduceAdd, Int.reduceSub, Int.reduceLT, Int.reduceLE, Nat.reduceAdd, Nat.reduceLeDiff, Nat.reduceLT, Nat.reduceSub, reduceIte, wds_n, wds_0, wds_1, wds_2, wds_3, or_true, true_or, or_false, false_or, or_self, false_and, and_false, d_pos, d_s1, d_s2, d_s3, d_s4, d_s5, d_s6, d_s7, d_s8, Classical.not_not, z258_0, c59b b2, p28b b3 b2, d_s9, d_s10, d_s11, d_s12, d_s13, d_s14, d_s15, d_s16, d_s17, d_s18, d_s19, d_s20, d_s21, d_s22, d_s23, d_s24, d_s25, d_s26, d_s27, d_s28, d_s29, d_s30, le_sub1, le_T, le_F, lt_T, lt_F, eq_F, w32_T, bz0, bz1, lc_le, lc_ge, lc_lt, lc_gt, lc_eq]
theorem b108 {e : Int} (B : BDC T f h) : ∃ g, BDC T f g ∧ FXC T h g ∧ ∀ Q, Sp fz1 (d + 7) 108 [(3, 258), (0, e)] h Q = Q 0 g := by
  obtain ⟨⟨b1, bp⟩, b3, b2⟩ := B.k
  have b4 := B.2.2.1
  have b5 := B.2.2.2.1
  obtain ⟨v, g, B1, F1, -, e1⟩ := B.use (w := h 129 6) (p := h 129 5)
  obtain ⟨B2, F2⟩ := B1.em (x := 5)
  obtain ⟨B3, F3⟩ := B2.em (x := v)
  have e2 : ∀ (d : Nat) Q, Sp fz1 (d + 1) 93 [(3, 258), (0, 5), (0, v)] g Q = Q 0 (emH T (emH T g 5) v) := fun d Q => q93 b1 B1.1.2 B1.2.2.2.1
  refine ⟨emH T (emH T g 5) v, B3, (F1.trans F2).trans F3, fun Q => ?_⟩
  simp (implicitDefEqProofs := false) (disch := omega) only [sp108, b108_0, b108_1, b108_2, q108_1, q108_2, x_aload0, y_call109, y_call28, y_call52, y_call53, y_call59, y_call76, y_call84, y_call93, x_gc_2051, x_goto_2, x_iconst, x_ifCond_eq_1, x_iload1, x_iload4, x_istore4, x_lload2, x_lstore2, x_return, klp_0, klp_1, klp_2, klp_3, klp_9, KC_0, KC_1, KC_2, KC_3, KC_4, ne_eq, not_false_eq_true, not_true_eq_false, true_and, and_true, and_self, implies_true, eq_self, true_imp_iff, false_implies, Int.reduceEq, Int.reduceNe, Int.reduceMod, Int.reduceMul, Int.reduceAdd, Int.reduceSub, Int.reduceLT, Int.reduceLE, Nat.reduceAdd, Nat.reduceLeDiff, Nat.reduceLT, Nat.reduceSub, reduceIte, wds_n, wds_0, wds_1, wds_2, wds_3, or_true, true_or, or_false, false_or, or_self, false_and, and_false, d_pos, d_s1, d_s2, d_s3, d_s4, d_s5, d_s6, d_s7, d_s8, Classical.not_not, z258_0, q53, q84, c52b b2, p28b b3 b2, c59b b2, e1, e2, d_s9, d_s10, d_s11, d_s12, d_s13, d_s14, d_s15, d_s16, d_s17, d_s18, d_s19, d_s20, d_s21, d_s22, d_s23, d_s24, d_s25, d_s26, d_s27, d_s28, d_s29, d_s30, le_sub1, le_T, le_F, lt_T, lt_F, eq_F, w32_T, bz0, bz1, lc_le, lc_ge, lc_lt, lc_gt, lc_eq]
theorem b91 {e : Int} (B : BDC T f h) : ∃ g, BDC T f g ∧ FXC T h g ∧ ∀ Q, Sp fz1 (d + 8) 91 [(3, 258), (0, e)] h Q = Q 0 g := by
  obtain ⟨⟨b1, bp⟩, b3, b2⟩ := B.k
  have b4 := B.2.2.1
  have b5 := B.2.2.2.1
  have fd691 : ∀ Q, Sp fz1 (d + 7) 45 [(3, 129), (3, NV_691)] h Q = Q (-1) h := fun Q => by rw [NV_691_e]; exact c45b b2 (str_5 b4) (by decide)
  have fd1331 : ∀ Q, Sp fz1 (d + 7) 45 [(3, 129), (3, NV_1331)] h Q = Q (-1) h := fun Q => by rw [NV_1331_e]; exact c45b b2 (str_10 b4) (by decide)
  obtain ⟨v, hv, c0⟩ := q90b b1 bp
  have N1 := B.nd (x := w32 (h 258 3 + 1)) (y := w32 (h T 15 + 1))
  have c1 : ∀ Q, Sp fz1 (d + 7) 90 [(3, 258)] h Q = Q v (hset (hset h 258 3 (w32 (h 258 3 + 1))) T 15 (w32 (h T 15 + 1))) := fun Q => c0 (d + 5) Q
  clear c0
  generalize hset (hset h 258 3 (w32 (h 258 3 + 1))) T 15 (w32 (h T 15 + 1)) = k at *
  obtain ⟨N2, F0⟩ := N1
  obtain ⟨⟨-, -⟩, k3, k2⟩ := N2.k
  have k4 := N2.2.2.1
  have pz : ∀ Q, Sp fz1 (d + 7) 28 [(3, 129), (0, 0)] k Q = Q 0 k := fun Q => p28b k3 k2
  have fk691 : ∀ Q, Sp fz1 (d + 7) 45 [(3, 129), (3, NV_691)] k Q = Q (-1) k := fun Q => by rw [NV_691_e]; exact c45b k2 (str_5 k4) (by decide)
  have fk1331 : ∀ Q, Sp fz1 (d + 7) 45 [(3, 129), (3, NV_1331)] k Q = Q (-1) k := fun Q => by rw [NV_1331_e]; exact c45b k2 (str_10 k4) (by decide)
  obtain ⟨g, B1, F1, e1⟩ := b108 (d := d) (e := e) N2
  refine ⟨g, B1, F0.trans F1, fun Q => ?_⟩
  rcases hv with rfl | rfl
  · simp (implicitDefEqProofs := false) (disch := omega) only [sp91, b91_0, b91_1, n91_2, b91_3, n91_4, b91_5, b91_6, b91_7, q91_1, q91_2, q91_3, q91_4, q91_5, q91_6, q91_7, x_aload0, y_call107, y_call108, y_call110, y_call28, y_call43, y_call45, y_call59, y_call62, y_call82, y_call90, y_call92, y_call93, y_call94, y_call95, y_call96, x_gc_2051, x_gf_2059, x_goto_2, x_goto_6, x_goto_7, x_iconst, x_ifCond_eq_1, x_ifCond_ge_6, x_ifCond_lt_7, x_ifCond_ne_2, x_ifCond_ne_5, x_if_icmp_ne_3, x_if_icmp_ne_4, x_iload1, x_iload2, x_iload3, x_istore2, x_istore3, x_jsr, x_return, klp_0, klp_1, klp_2, klp_3, klp_9, KC_0, KC_1, KC_2, KC_3, KC_4, ne_eq, not_false_eq_true, not_true_eq_false, true_and, and_true, and_self, implies_true, eq_self, true_imp_iff, false_implies, Int.reduceEq, Int.reduceNe, Int.reduceMod, Int.reduceMul, Int.reduceAdd, Int.reduceSub, Int.reduceLT, Int.reduceLE, Nat.reduceAdd, Nat.reduceLeDiff, Nat.reduceLT, Nat.reduceSub, reduceIte, wds_n, wds_0, wds_1, wds_2, wds_3, or_true, true_or, or_false, false_or, or_self, false_and, and_false, d_pos, d_s1, d_s2, d_s3, d_s4, d_s5, d_s6, d_s7, d_s8, Classical.not_not, z258_0, c1, pz, e1, c59b b2, c43, k2, fk691, fk1331, d_s9, d_s10, d_s11, d_s12, d_s13, d_s14, d_s15, d_s16, d_s17, d_s18, d_s19, d_s20, d_s21, d_s22, d_s23, d_s24, d_s25, d_s26, d_s27, d_s28, d_s29, d_s30, le_sub1, le_T, le_F, lt_T, lt_F, eq_F, w32_T, bz0, bz1, lc_le, lc_ge, lc_lt, lc_gt, lc_eq]
  · simp (implicitDefEqProofs := false) (disch := omega) only [sp91, b91_0, b91_1, n91_2, b91_3, n91_4, b91_5, b91_6, b91_7, q91_1, q91_2, q91_3, q91_4, q91_5, q91_6, q91_7, x_aload0, y_call107, y_call108, y_call110, y_call28, y_call43, y_call45, y_call59, y_call62, y_call82, y_call90, y_call92, y_call93, y_call94, y_call95, y_call96, x_gc_2051, x_gf_2059, x_goto_2, x_goto_6, x_goto_7, x_iconst, x_ifCond_eq_1, x_ifCond_ge_6, x_ifCond_lt_7, x_ifCond_ne_2, x_ifCond_ne_5, x_if_icmp_ne_3, x_if_icmp_ne_4, x_iload1, x_iload2, x_iload3, x_istore2, x_istore3, x_jsr, x_return, klp_0, klp_1, klp_2, klp_3, klp_9, KC_0, KC_1, KC_2, KC_3, KC_4, ne_eq, not_false_eq_true, not_true_eq_false, true_and, and_true, and_self, implies_true, eq_self, true_imp_iff, false_implies, Int.reduceEq, Int.reduceNe, Int.reduceMod, Int.reduceMul, Int.reduceAdd, Int.reduceSub, Int.reduceLT, Int.reduceLE, Nat.reduceAdd, Nat.reduceLeDiff, Nat.reduceLT, Nat.reduceSub, reduceIte, wds_n, wds_0, wds_1, wds_2, wds_3, or_true, true_or, or_false, false_or, or_self, false_and, and_false, d_pos, d_s1, d_s2, d_s3, d_s4, d_s5, d_s6, d_s7, d_s8, Classical.not_not, z258_0, c1, e1, c59b b2, c43, k2, fk691, fk1331, d_s9, d_s10, d_s11, d_s12, d_s13, d_s14, d_s15, d_s16, d_s17, d_s18, d_s19, d_s20, d_s21, d_s22, d_s23, d_s24, d_s25, d_s26, d_s27, d_s28, d_s29, d_s30, le_sub1, le_T, le_F, lt_T, lt_F, eq_F, w32_T, bz0, bz1, lc_le, lc_ge, lc_lt, lc_gt, lc_eq]
theorem b89 {e : Int} (B : BDC T f h) : ∃ g, BDC T f g ∧ FXC T h g ∧ ∀ Q, Sp fz1 (d + 9) 89 [(3, 258), (0, e)] h Q = Q 0 g := by
  obtain ⟨⟨b1, bp⟩, b3, b2⟩ := B.k
  have b4 := B.2.2.1
  have b5 := B.2.2.2.1
  obtain ⟨g, B1, F1, e1⟩ := b91 (d := d) (e := e) B
  have k2 := B1.k.2.2
  refine ⟨g, B1, F1, fun Q => ?_⟩
  simp (implicitDefEqProofs := false) (disch := omega) only [sp89, b89_0, b89_1, b89_2, b89_3, b89_4, b89_5, b89_6, q89_1, q89_2, q89_3, q89_4, q89_5, q89_6, x_aload0, y_call28, y_call41, y_call59, y_call79, y_call82, y_call89, y_call90, y_call91, y_call92, x_gc_2051, x_gf_2059, x_goto_1, x_goto_2, x_goto_4, x_goto_5, x_iadd, x_iconst, x_ifCond_eq_2, x_ifCond_eq_3, x_ifCond_eq_6, x_ifCond_ne_1, x_ifCond_ne_5, x_if_icmp_ge_6, x_iinc2, x_iload1, x_iload2, x_istore2, x_return, klp_0, klp_1, klp_2, klp_3, klp_9, KC_0, KC_1, KC_2, KC_3, KC_4, ne_eq, not_false_eq_true, not_true_eq_false, true_and, and_true, and_self, implies_true, eq_self, true_imp_iff, false_implies, Int.reduceEq, Int.reduceNe, Int.reduceMod, Int.reduceMul, Int.reduceAdd, Int.reduceSub, Int.reduceLT, Int.reduceLE, Nat.reduceAdd, Nat.reduceLeDiff, Nat.reduceLT, Nat.reduceSub, reduceIte, wds_n, wds_0, wds_1, wds_2, wds_3, or_true, true_or, or_false, false_or, or_self, false_and, and_false, d_pos, d_s1, d_s2, d_s3, d_s4, d_s5, d_s6, d_s7, d_s8, Classical.not_not, z258_0, c59b b2, e1, c59b k2, d_s9, d_s10, d_s11, d_s12, d_s13, d_s14, d_s15, d_s16, d_s17, d_s18, d_s19, d_s20, d_s21, d_s22, d_s23, d_s24, d_s25, d_s26, d_s27, d_s28, d_s29, d_s30, le_sub1, le_T, le_F, lt_T, lt_F, eq_F, w32_T, bz0, bz1, lc_le, lc_ge, lc_lt, lc_gt, lc_eq]
theorem b88 {e : Int} (B : BDC T f h) : ∃ g, BDC T f g ∧ FXC T h g ∧ ∀ Q, Sp fz1 (d + 10) 88 [(3, 258), (0, e)] h Q = Q 0 g := by
  obtain ⟨⟨b1, bp⟩, b3, b2⟩ := B.k
  have b4 := B.2.2.1
  have b5 := B.2.2.2.1
  obtain ⟨g, B1, F1, e1⟩ := b89 (d := d) (e := e) B
  have k2 := B1.k.2.2
  have k4 := B1.2.2.1
  have fs1203 : ∀ Q, Sp fz1 (d + 9) 111 [(3, 129), (3, NV_1203)] g Q = Q (-1) g := fun Q => by rw [NV_1203_e]; exact c111b k2 (str_9 k4) (by decide) (by decide)
  refine ⟨g, B1, F1, fun Q => ?_⟩
  simp (implicitDefEqProofs := false) (disch := omega) only [sp88, b88_0, n88_1, b88_2, q88_1, q88_2, x_aload0, y_call111, y_call28, y_call89, y_call90, y_call93, x_gc_2051, x_goto_1, x_iadd, x_iconst, x_ifCond_lt_2, x_if_icmp_ge_2, x_iinc2, x_iload1, x_iload2, x_iload3, x_istore2, x_istore3, x_jsr, x_return, klp_0, klp_1, klp_2, klp_3, klp_9, KC_0, KC_1, KC_2, KC_3, KC_4, ne_eq, not_false_eq_true, not_true_eq_false, true_and, and_true, and_self, implies_true, eq_self, true_imp_iff, false_implies, Int.reduceEq, Int.reduceNe, Int.reduceMod, Int.reduceMul, Int.reduceAdd, Int.reduceSub, Int.reduceLT, Int.reduceLE, Nat.reduceAdd, Nat.reduceLeDiff, Nat.reduceLT, Nat.reduceSub, reduceIte, wds_n, wds_0, wds_1, wds_2, wds_3, or_true, true_or, or_false, false_or, or_self, false_and, and_false, d_pos, d_s1, d_s2, d_s3, d_s4, d_s5, d_s6, d_s7, d_s8, Classical.not_not, z258_0, e1, fs1203, d_s9, d_s10, d_s11, d_s12, d_s13, d_s14, d_s15, d_s16, d_s17, d_s18, d_s19, d_s20, d_s21, d_s22, d_s23, d_s24, d_s25, d_s26, d_s27, d_s28, d_s29, d_s30, le_sub1, le_T, le_F, lt_T, lt_F, eq_F, w32_T, bz0, bz1, lc_le, lc_ge, lc_lt, lc_gt, lc_eq]
theorem b87 {e : Int} (B : BDC T f h) : ∃ g, BDC T f g ∧ FXC T h g ∧ ∀ Q, Sp fz1 (d + 11) 87 [(3, 258), (0, e)] h Q = Q 0 g := by
  obtain ⟨⟨b1, bp⟩, b3, b2⟩ := B.k
  have b4 := B.2.2.1
  have b5 := B.2.2.2.1
  obtain ⟨g, B1, F1, e1⟩ := b88 (d := d) (e := e) B
  have k2 := B1.k.2.2
  have k4 := B1.2.2.1
  have fs1075 : ∀ Q, Sp fz1 (d + 10) 111 [(3, 129), (3, NV_1075)] g Q = Q (-1) g := fun Q => by rw [NV_1075_e]; exact c111b k2 (str_8 k4) (by decide) (by decide)
  refine ⟨g, B1, F1, fun Q => ?_⟩
  simp (implicitDefEqProofs := false) (disch := omega) only [sp87, b87_0, n87_1, b87_2, q87_1, q87_2, x_aload0, y_call111, y_call28, y_call88, y_call90, y_call93, x_gc_2051, x_goto_1, x_iadd, x_iconst, x_ifCond_lt_2, x_if_icmp_ge_2, x_iinc2, x_iload1, x_iload2, x_iload3, x_istore2, x_istore3, x_jsr, x_return, klp_0, klp_1, klp_2, klp_3, klp_9, KC_0, KC_1, KC_2, KC_3, KC_4, ne_eq, not_false_eq_true, not_true_eq_false, true_and, and_true, and_self, implies_true, eq_self, true_imp_iff, false_implies, Int.reduceEq, Int.reduceNe, Int.reduceMod, Int.reduceMul, Int.reduceAdd, Int.reduceSub, Int.reduceLT, Int.reduceLE, Nat.reduceAdd, Nat.reduceLeDiff, Nat.reduceLT, Nat.reduceSub, reduceIte, wds_n, wds_0, wds_1, wds_2, wds_3, or_true, true_or, or_false, false_or, or_self, false_and, and_false, d_pos, d_s1, d_s2, d_s3, d_s4, d_s5, d_s6, d_s7, d_s8, Classical.not_not, z258_0, e1, fs1075, d_s9, d_s10, d_s11, d_s12, d_s13, d_s14, d_s15, d_s16, d_s17, d_s18, d_s19, d_s20, d_s21, d_s22, d_s23, d_s24, d_s25, d_s26, d_s27, d_s28, d_s29, d_s30, le_sub1, le_T, le_F, lt_T, lt_F, eq_F, w32_T, bz0, bz1, lc_le, lc_ge, lc_lt, lc_gt, lc_eq]
theorem b86c {e : Int} (B : BDC T f h) : ∃ g, BDC T f g ∧ FXC T h g ∧ ∀ Q, G fz1 (d + 12) 86 1 [(3, 258), (0, e), (9, 0)] [] h Q = Q 0 g := by
  obtain ⟨Ba, Fa⟩ := B.o11 (y := w32 (h 258 11 + 1))
  obtain ⟨g, B1, F1, e1⟩ := b87 (d := d) (e := e) Ba
  have k2 := B1.k.2.2
  have k4 := B1.2.2.1
  have fs947 : ∀ Q, Sp fz1 (d + 11) 111 [(3, 129), (3, NV_947)] g Q = Q (-1) g := fun Q => by rw [NV_947_e]; exact c111b k2 (str_7 k4) (by decide) (by decide)
  obtain ⟨Bb, Fb⟩ := B1.o11 (y := w32 (g 258 11 - 1))
  refine ⟨hset g 258 11 (w32 (g 258 11 - 1)), Bb, Fa.trans (F1.trans Fb), fun Q => ?_⟩
  rw [q86_1]
  simp (implicitDefEqProofs := false) (disch := omega) only [n86_1, b86_2, q86_2, x_aload0, y_call111, y_call28, y_call87, y_call90, y_call93, x_dup0, x_dup3, x_gc_2051, x_gf_2136, x_goto_2, x_iadd, x_iconst, x_ifCond_lt_2, x_iload1, x_iload2, x_istore2, x_isub, x_jsr, x_pf_2136, x_return, klp_0, klp_1, klp_2, klp_3, klp_9, KC_0, KC_1, KC_2, KC_3, KC_4, ne_eq, not_false_eq_true, not_true_eq_false, true_and, and_true, and_self, implies_true, eq_self, true_imp_iff, false_implies, Int.reduceEq, Int.reduceNe, Int.reduceMod, Int.reduceMul, Int.reduceAdd, Int.reduceSub, Int.reduceLT, Int.reduceLE, Nat.reduceAdd, Nat.reduceLeDiff, Nat.reduceLT, Nat.reduceSub, reduceIte, wds_n, wds_0, wds_1, wds_2, wds_3, or_true, true_or, or_false, false_or, or_self, false_and, and_false, d_pos, d_s1, d_s2, d_s3, d_s4, d_s5, d_s6, d_s7, d_s8, Classical.not_not, z258_0, e1, fs947, d_s9, d_s10, d_s11, d_s12, d_s13, d_s14, d_s15, d_s16, d_s17, d_s18, d_s19, d_s20, d_s21, d_s22, d_s23, d_s24, d_s25, d_s26, d_s27, d_s28, d_s29, d_s30, le_sub1, le_T, le_F, lt_T, lt_F, eq_F, w32_T, bz0, bz1, lc_le, lc_ge, lc_lt, lc_gt, lc_eq]
theorem b86 {e : Int} (B : BDC T f h) : ∃ g, BDC T f g ∧ FXC T h g ∧ ∀ Q, Sp fz1 (d + 12) 86 [(3, 258), (0, e)] h Q = Q 0 g := by
  by_cases z : h 258 11 = 0
  · obtain ⟨Ba, Fa⟩ := B.x3 (y := 0)
    obtain ⟨g, B1, F1, e1⟩ := b86c (d := d) (e := e) Ba
    refine ⟨g, B1, Fa.trans F1, fun Q => ?_⟩
    simp (implicitDefEqProofs := false) (disch := omega) only [sp86, b86_0, x_aload0, x_gf_2136, x_goto_1, x_iconst, x_ifCond_ne_1, x_pf_2072, klp_0, klp_1, klp_2, klp_3, klp_9, KC_0, KC_1, KC_2, KC_3, KC_4, ne_eq, not_false_eq_true, not_true_eq_false, true_and, and_true, and_self, implies_true, eq_self, true_imp_iff, false_implies, Int.reduceEq, Int.reduceNe, Int.reduceMod, Int.reduceMul, Int.reduceAdd, Int.reduceSub, Int.reduceLT, Int.reduceLE, Nat.reduceAdd, Nat.reduceLeDiff, Nat.reduceLT, Nat.reduceSub, reduceIte, wds_n, wds_0, wds_1, wds_2, wds_3, or_true, true_or, or_false, false_or, or_self, false_and, and_false, d_pos, d_s1, d_s2, d_s3, d_s4, d_s5, d_s6, d_s7, d_s8, Classical.not_not, z258_0, z, e1, d_s9, d_s10, d_s11, d_s12, d_s13, d_s14, d_s15, d_s16, d_s17, d_s18, d_s19, d_s20, d_s21, d_s22, d_s23, d_s24, d_s25, d_s26, d_s27, d_s28, d_s29, d_s30, le_sub1, le_T, le_F, lt_T, lt_F, eq_F, w32_T, bz0, bz1, lc_le, lc_ge, lc_lt, lc_gt, lc_eq]
  · obtain ⟨g, B1, F1, e1⟩ := b86c (d := d) (e := e) B
    refine ⟨g, B1, F1, fun Q => ?_⟩
    simp (implicitDefEqProofs := false) (disch := omega) only [sp86, b86_0, x_aload0, x_gf_2136, x_goto_1, x_iconst, x_ifCond_ne_1, x_pf_2072, klp_0, klp_1, klp_2, klp_3, klp_9, KC_0, KC_1, KC_2, KC_3, KC_4, ne_eq, not_false_eq_true, not_true_eq_false, true_and, and_true, and_self, implies_true, eq_self, true_imp_iff, false_implies, Int.reduceEq, Int.reduceNe, Int.reduceMod, Int.reduceMul, Int.reduceAdd, Int.reduceSub, Int.reduceLT, Int.reduceLE, Nat.reduceAdd, Nat.reduceLeDiff, Nat.reduceLT, Nat.reduceSub, reduceIte, wds_n, wds_0, wds_1, wds_2, wds_3, or_true, true_or, or_false, false_or, or_self, false_and, and_false, d_pos, d_s1, d_s2, d_s3, d_s4, d_s5, d_s6, d_s7, d_s8, Classical.not_not, z258_0, z, e1, d_s9, d_s10, d_s11, d_s12, d_s13, d_s14, d_s15, d_s16, d_s17, d_s18, d_s19, d_s20, d_s21, d_s22, d_s23, d_s24, d_s25, d_s26, d_s27, d_s28, d_s29, d_s30, le_sub1, le_T, le_F, lt_T, lt_F, eq_F, w32_T, bz0, bz1, lc_le, lc_ge, lc_lt, lc_gt, lc_eq]
theorem b85 {e : Int} (B : BDC T f h) : ∃ g, BDC T f g ∧ FXC T h g ∧ ∀ Q, Sp fz1 (d + 13) 86 [(3, 258), (0, e)] h Q = Q 0 g := b86 (d := d + 1) B
theorem b92 {a c e : Int} (B : BDC T f h) : ∃ g, BDC T f g ∧ FXC T h g ∧ ∀ Q, Sp fz1 (d + 2) 92 [(3, 258), (0, a), (0, c), (0, e)] h Q = Q 0 g := by
  obtain ⟨⟨b1, bp⟩, b3, b2⟩ := B.k
  have b4 := B.2.2.1
  have b5 := B.2.2.2.1
  refine ⟨h, B, FXC.rfl', fun Q => ?_⟩
  simp (implicitDefEqProofs := false) (disch := omega) only [sp92, b92_0, b92_1, q92_1, x_aload0, y_call41, y_call58, y_call79, y_call86, x_goto_1, x_iadd, x_iconst, x_ifCond_eq_1, x_iload1, x_iload2, x_iload3, x_return, klp_0, klp_1, klp_2, klp_3, klp_9, KC_0, KC_1, KC_2, KC_3, KC_4, ne_eq, not_false_eq_true, not_true_eq_false, true_and, and_true, and_self, implies_true, eq_self, true_imp_iff, false_implies, Int.reduceEq, Int.reduceNe, Int.reduceMod, Int.reduceMul, Int.reduceAdd, Int.reduceSub, Int.reduceLT, Int.reduceLE, Nat.reduceAdd, Nat.reduceLeDiff, Nat.reduceLT, Nat.reduceSub, reduceIte, wds_n, wds_0, wds_1, wds_2, wds_3, or_true, true_or, or_false, false_or, or_self, false_and, and_false, d_pos, d_s1, d_s2, d_s3, d_s4, d_s5, d_s6, d_s7, d_s8, Classical.not_not, b79 B, b41 B, b58 B, d_s9, d_s10, d_s11, d_s12, d_s13, d_s14, d_s15, d_s16, d_s17, d_s18, d_s19, d_s20, d_s21, d_s22, d_s23, d_s24, d_s25, d_s26, d_s27, d_s28, d_s29, d_s30, le_sub1, le_T, le_F, lt_T, lt_F, eq_F, w32_T, bz0, bz1, lc_le, lc_ge, lc_lt, lc_gt, lc_eq]
theorem v353b (hf : 0 ≤ hr 6603 7) : Sp fz1 (d + 1) 353 [(3, 6603)] hr Q = Q 0 hr := by
  have q0 : ∀ (d : Nat) Q, Sp fz1 d 325 [(3, 6603)] hr Q = Q 0 hr := fun d Q => by rw [v325, if_neg (by omega)]
  simp (implicitDefEqProofs := false) (disch := omega) only [sp353, b353_0, b353_1, b353_2, b353_3, b353_4, b353_5, b353_6, q353_1, q353_2, q353_3, q353_4, q353_5, q353_6, x_aload0, y_call321, y_call325, y_call333, y_call334, y_call344, y_call346, y_call347, y_call350, y_call353, y_call354, x_dup0, x_dup3, x_gf_11360, x_goto_2, x_goto_4, x_goto_5, x_iconst, x_ifCond_eq_2, x_ifCond_eq_3, x_ifCond_eq_5, x_ifCond_eq_6, x_ifCond_ne_1, x_isub, x_pf_11360, x_pop0, x_pop3, x_return, klp_0, klp_1, klp_2, klp_3, klp_9, KC_0, KC_1, KC_2, KC_3, KC_4, ne_eq, not_false_eq_true, not_true_eq_false, true_and, and_true, and_self, implies_true, eq_self, true_imp_iff, false_implies, Int.reduceEq, Int.reduceNe, Int.reduceMod, Int.reduceMul, Int.reduceAdd, Int.reduceSub, Int.reduceLT, Int.reduceLE, Nat.reduceAdd, Nat.reduceLeDiff, Nat.reduceLT, Nat.reduceSub, reduceIte, wds_n, wds_0, wds_1, wds_2, wds_3, or_true, true_or, or_false, false_or, or_self, false_and, and_false, d_pos, d_s1, d_s2, d_s3, d_s4, d_s5, d_s6, d_s7, d_s8, Classical.not_not, q0, d_s9, d_s10, d_s11, d_s12, d_s13, d_s14, d_s15, d_s16, d_s17, d_s18, d_s19, d_s20, d_s21, d_s22, d_s23, d_s24, d_s25, d_s26, d_s27, d_s28, d_s29, d_s30, le_sub1, le_T, le_F, lt_T, lt_F, eq_F, w32_T, bz0, bz1, lc_le, lc_ge, lc_lt, lc_gt, lc_eq]
theorem v352b (hf : 0 ≤ hr 6603 7) : Sp fz1 (d + 2) 352 [(3, 6603)] hr Q = Q 0 hr := by
  have q0 : ∀ (d : Nat) Q, Sp fz1 d 325 [(3, 6603)] hr Q = Q 0 hr := fun d Q => by rw [v325, if_neg (by omega)]
  simp (implicitDefEqProofs := false) (disch := omega) only [sp352, b352_0, b352_1, b352_2, b352_3, b352_4, q352_1, q352_2, q352_3, q352_4, x_aload0, x_baload, y_call321, y_call325, y_call334, y_call346, y_call347, y_call353, x_gc_11267, x_gf_11288, x_goto_1, x_goto_2, x_goto_3, x_iconst, x_ifCond_eq_3, x_ifCond_eq_4, x_ifCond_ne_2, x_iload1, x_istore1, x_pop0, x_pop3, x_return, klp_0, klp_1, klp_2, klp_3, klp_9, KC_0, KC_1, KC_2, KC_3, KC_4, ne_eq, not_false_eq_true, not_true_eq_false, true_and, and_true, and_self, implies_true, eq_self, true_imp_iff, false_implies, Int.reduceEq, Int.reduceNe, Int.reduceMod, Int.reduceMul, Int.reduceAdd, Int.reduceSub, Int.reduceLT, Int.reduceLE, Nat.reduceAdd, Nat.reduceLeDiff, Nat.reduceLT, Nat.reduceSub, reduceIte, wds_n, wds_0, wds_1, wds_2, wds_3, or_true, true_or, or_false, false_or, or_self, false_and, and_false, d_pos, d_s1, d_s2, d_s3, d_s4, d_s5, d_s6, d_s7, d_s8, Classical.not_not, z6603_0, z6691_l, q0, v353b hf, d_s9, d_s10, d_s11, d_s12, d_s13, d_s14, d_s15, d_s16, d_s17, d_s18, d_s19, d_s20, d_s21, d_s22, d_s23, d_s24, d_s25, d_s26, d_s27, d_s28, d_s29, d_s30, le_sub1, le_T, le_F, lt_T, lt_F, eq_F, w32_T, bz0, bz1, lc_le, lc_ge, lc_lt, lc_gt, lc_eq]
theorem v351b (hf : 0 ≤ hr 6603 7) : Sp fz1 (d + 3) 351 [(3, 6603)] hr Q = Q 0 hr := by
  have q0 : ∀ (d : Nat) Q, Sp fz1 d 325 [(3, 6603)] hr Q = Q 0 hr := fun d Q => by rw [v325, if_neg (by omega)]
  simp (implicitDefEqProofs := false) (disch := omega) only [sp351, b351_0, b351_1, b351_2, b351_3, b351_4, q351_1, q351_2, q351_3, q351_4, x_aload0, x_baload, y_call321, y_call325, y_call334, y_call346, y_call347, y_call352, x_gc_11267, x_gf_11288, x_goto_1, x_goto_2, x_goto_3, x_iconst, x_ifCond_eq_3, x_ifCond_eq_4, x_ifCond_ne_2, x_iload1, x_istore1, x_pop0, x_pop3, x_return, klp_0, klp_1, klp_2, klp_3, klp_9, KC_0, KC_1, KC_2, KC_3, KC_4, ne_eq, not_false_eq_true, not_true_eq_false, true_and, and_true, and_self, implies_true, eq_self, true_imp_iff, false_implies, Int.reduceEq, Int.reduceNe, Int.reduceMod, Int.reduceMul, Int.reduceAdd, Int.reduceSub, Int.reduceLT, Int.reduceLE, Nat.reduceAdd, Nat.reduceLeDiff, Nat.reduceLT, Nat.reduceSub, reduceIte, wds_n, wds_0, wds_1, wds_2, wds_3, or_true, true_or, or_false, false_or, or_self, false_and, and_false, d_pos, d_s1, d_s2, d_s3, d_s4, d_s5, d_s6, d_s7, d_s8, Classical.not_not, z6603_0, z6691_l, q0, v352b hf, d_s9, d_s10, d_s11, d_s12, d_s13, d_s14, d_s15, d_s16, d_s17, d_s18, d_s19, d_s20, d_s21, d_s22, d_s23, d_s24, d_s25, d_s26, d_s27, d_s28, d_s29, d_s30, le_sub1, le_T, le_F, lt_T, lt_F, eq_F, w32_T, bz0, bz1, lc_le, lc_ge, lc_lt, lc_gt, lc_eq]
theorem v350b (hf : 0 ≤ hr 6603 7) : Sp fz1 (d + 4) 350 [(3, 6603)] hr Q = Q 0 hr := by
  have q0 : ∀ (d : Nat) Q, Sp fz1 d 325 [(3, 6603)] hr Q = Q 0 hr := fun d Q => by rw [v325, if_neg (by omega)]
  simp (implicitDefEqProofs := false) (disch := omega) only [sp350, b350_0, b350_1, b350_2, b350_3, q350_1, q350_2, q350_3, x_aload0, x_baload, y_call321, y_call325, y_call334, y_call346, y_call347, y_call351, x_gc_11267, x_gf_11288, x_goto_1, x_goto_2, x_goto_3, x_iconst, x_ifCond_eq_2, x_ifCond_eq_3, x_ifCond_ne_1, x_iload1, x_istore1, x_pop0, x_pop3, x_return, klp_0, klp_1, klp_2, klp_3, klp_9, KC_0, KC_1, KC_2, KC_3, KC_4, ne_eq, not_false_eq_true, not_true_eq_false, true_and, and_true, and_self, implies_true, eq_self, true_imp_iff, false_implies, Int.reduceEq, Int.reduceNe, Int.reduceMod, Int.reduceMul, Int.reduceAdd, Int.reduceSub, Int.reduceLT, Int.reduceLE, Nat.reduceAdd, Nat.reduceLeDiff, Nat.reduceLT, Nat.reduceSub, reduceIte, wds_n, wds_0, wds_1, wds_2, wds_3, or_true, true_or, or_false, false_or, or_self, false_and, and_false, d_pos, d_s1, d_s2, d_s3, d_s4, d_s5, d_s6, d_s7, d_s8, Classical.not_not, z6603_0, z6691_l, q0, v351b hf, d_s9, d_s10, d_s11, d_s12, d_s13, d_s14, d_s15, d_s16, d_s17, d_s18, d_s19, d_s20, d_s21, d_s22, d_s23, d_s24, d_s25, d_s26, d_s27, d_s28, d_s29, d_s30, le_sub1, le_T, le_F, lt_T, lt_F, eq_F, w32_T, bz0, bz1, lc_le, lc_ge, lc_lt, lc_gt, lc_eq]
theorem v349b (hf : 0 ≤ hr 6603 7) : Sp fz1 (d + 5) 349 [(3, 6603)] hr Q = Q 0 (hset hr 6603 13 0) := by
  have e1 : ∀ Q, Sp fz1 (d + 4) 350 [(3, 6603)] (hset hr 6603 13 0) Q = Q 0 (hset hr 6603 13 0) := fun Q => v350b (by rw [hcell (by decide)]; exact hf)
  simp (implicitDefEqProofs := false) (disch := omega) only [sp349, b349_0, x_aload0, y_call350, x_iconst, x_pf_11368, x_return, klp_0, klp_1, klp_2, klp_3, klp_9, KC_0, KC_1, KC_2, KC_3, KC_4, ne_eq, not_false_eq_true, not_true_eq_false, true_and, and_true, and_self, implies_true, eq_self, true_imp_iff, false_implies, Int.reduceEq, Int.reduceNe, Int.reduceMod, Int.reduceMul, Int.reduceAdd, Int.reduceSub, Int.reduceLT, Int.reduceLE, Nat.reduceAdd, Nat.reduceLeDiff, Nat.reduceLT, Nat.reduceSub, reduceIte, wds_n, wds_0, wds_1, wds_2, wds_3, or_true, true_or, or_false, false_or, or_self, false_and, and_false, d_pos, d_s1, d_s2, d_s3, d_s4, d_s5, d_s6, d_s7, d_s8, Classical.not_not, e1, d_s9, d_s10, d_s11, d_s12, d_s13, d_s14, d_s15, d_s16, d_s17, d_s18, d_s19, d_s20, d_s21, d_s22, d_s23, d_s24, d_s25, d_s26, d_s27, d_s28, d_s29, d_s30, le_sub1, le_T, le_F, lt_T, lt_F, eq_F, w32_T, bz0, bz1, lc_le, lc_ge, lc_lt, lc_gt, lc_eq]
end SM
