/-! THE PURE SIDE, 174: items on both sides: tokens, names told: printed by wip/tools/gen8z1.py -/
/-- both stand at a token: no more than that -/
def TKX (tp : Int → Int) (t T S s : Int) (h hr : HV) : Prop := (TOK tp t s ∧ TKh tp t s h ∧ TKq tp t s hr) ∧ ((TC T ∧ h 258 1 = T) ∧ TR S ∧ hr 6603 9 = S) ∧ STS h ∧ STS hr
/-- both have met the fault f: no more than that -/
def BXC (T f : Int) (h : HV) : Prop := (TC T ∧ h 258 1 = T) ∧ (h 129 3 = f ∧ 0 ≤ f ∧ h 129 4 = 5) ∧ STS h
def BXR (S f : Int) (h : HV) : Prop := (TR S ∧ h 6603 9 = S) ∧ (h 6603 7 = f ∧ 0 ≤ f) ∧ STS h
section SM
variable {bX : Int} {tp : Int → Int} {t T S s s1 s2 f : Int} {h hr g gr k kr m mr : HV} {Q : Int → HV → Prop} {d : Nat}
theorem GD.tkx (D : GD bX tp t T S s h hr) : TKX tp t T S s h hr := ⟨D.1, D.2.1, D.2.2.1⟩
theorem BDC.bxc (B : BDC T f h) : BXC T f h := ⟨B.1, B.2.1, B.2.2.1⟩
theorem BDQ.bxr (B : BDQ S f h) : BXR S f h := ⟨B.1, B.2.1, B.2.2.1⟩
theorem TKX.fz (D : TKX tp t T S s h hr) : h 129 3 = -1 ∧ hr 6603 7 = -9 ∧ hr 6603 3 = s ∧ h 129 5 = s := ⟨D.1.2.1.1.2.1, D.1.2.2.1.2.1, D.1.2.2.1.2.2.1, D.1.2.1.1.2.2.1⟩
theorem TKX.sb (D : TKX tp t T S s h hr) : 0 ≤ s ∧ s ≤ t ∧ t ≤ 2400 := D.1.1.1
theorem TKX.ts (D : TKX tp t T S s h hr) (hk : tkK tp t s ≠ 0) : s < t := by
  have := tkK_r (tp := tp) (t := t) (s := s)
  have := D.sb
  omega
/-- the same token, other things told -/
theorem TKX.fr (D : TKX tp t T S s h hr) (c1 : g 129 = h 129 ∧ g 227 = h 227 ∧ g 258 1 = h 258 1) (c2 : ∀ o, o < 0 → g o = h o) (r1 : ∀ i, 1 ≤ i → i ≤ 7 → gr 6603 i = hr 6603 i) (r2 : gr 6691 = hr 6691 ∧ gr 6603 9 = hr 6603 9) (r3 : ∀ o, o < 0 → gr o = hr o) : TKX tp t T S s g gr := ⟨⟨D.1.1, D.1.2.1.fr c1.1 c1.2.1, D.1.2.2.fr r1 r2.1⟩, ⟨⟨D.2.1.1.1, by rw [c1.2.2]; exact D.2.1.1.2⟩, D.2.1.2.1, by rw [r2.2]; exact D.2.1.2.2⟩, fun o w => by rw [c2 o w]; exact D.2.2.1 o w, fun o w => by rw [r3 o w]; exact D.2.2.2 o w⟩
theorem TKX.nx (D : TKX tp t T S s h hr) (d e : Nat) : ∃ g gr, TKX tp t T S (nxS tp t s) g gr ∧ (s < t → s + 1 ≤ nxS tp t s) ∧ s ≤ tkE tp t s ∧ tkE tp t s ≤ nxS tp t s ∧ SAC h g ∧ SAR hr gr ∧ (∀ Q, Sp fz1 (d + 8) 28 [(3, 129), (0, 1)] h Q = Q 0 g) ∧ ∀ Q, Sp fz1 (e + 2) 321 [(3, 6603)] hr Q = Q 0 gr := by
  obtain ⟨⟨T1, k1, k2⟩, ⟨⟨d1, d2⟩, d3, d4⟩, s1, s2⟩ := D
  have kT := kTC d1
  have kS := kTR d3
  have S0 : 0 ≤ s ∧ s ≤ t ∧ t ≤ 2400 := T1.1
  obtain ⟨g, ⟨a1, a2⟩, e1⟩ := c_next (d := d) T1 k1 (str_0 s1)
  obtain ⟨gr, ⟨b1, b2, b3⟩, f1⟩ := r_next (d := e) T1 k2
  have q1 := tkE_b (tp := tp) S0.2.1
  have q2 := nxS_b (tp := tp) S0.2.1
  refine ⟨g, gr, ⟨⟨T1.n, a1, b1⟩, ⟨⟨d1, by rw [a2 258 (by decide)]; exact d2⟩, d3, by rw [b3 9 (by decide) (by decide) (by decide) (by decide) (by decide)]; exact d4⟩, fun o w => by rw [a2 o (by omega)]; exact s1 o w, fun o w => by rw [b2 o (by omega)]; exact s2 o w⟩, fun w => ?_, q1.1, q2.1, a2, ⟨b2, b3⟩, e1, f1⟩
  have := tkE_gt (tp := tp) (s := s) S0.1 w S0.2.2
  omega
theorem TKX.bad (D : TKX tp t T S s h hr) : BXC T s (bdH h) ∧ BXR S s (bdR hr) := by
  obtain ⟨⟨T1, k1, k2⟩, ⟨⟨d1, d2⟩, d3, d4⟩, s1, s2⟩ := D
  have F : TKX tp t T S s h hr := ⟨⟨T1, k1, k2⟩, ⟨⟨d1, d2⟩, d3, d4⟩, s1, s2⟩
  have f := F.fz
  have S0 := F.sb
  have kT := kTC d1
  have kS := kTR d3
  unfold bdH bdR
  have e1 : ∀ o, o ≠ 129 → hset (hset h 129 3 (h 129 5)) 129 4 5 o = h o := fun o w => by rw [hs_ne w, hs_ne w]
  have e2 : ∀ o, o ≠ 6603 → hset hr 6603 7 (hr 6603 3) o = hr o := fun o w => hs_ne w
  exact ⟨⟨⟨d1, by rw [e1 _ (by decide)]; exact d2⟩, ⟨by rw [hcell (by decide), hcel1]; omega, S0.1, hcel1⟩, fun a w => by rw [e1 a (by omega)]; exact s1 a w⟩, ⟨d3, by rw [hcell (by decide)]; exact d4⟩, ⟨by rw [hcel1]; omega, S0.1⟩, fun a w => by rw [e2 a (by omega)]; exact s2 a w⟩
theorem TKX.g325 (D : TKX tp t T S s h hr) : Sp fz1 d 325 [(3, 6603)] hr Q = Q 1 hr := by
  have := D.fz
  rw [v325, if_pos (by omega)]
theorem TKX.c41 (D : TKX tp t T S s h hr) : Sp fz1 (d + 1) 41 [(3, 258)] h Q = Q 1 h := by
  have := D.fz
  rw [q41, if_pos (by omega)]
theorem BXR.g325 (B : BXR S f hr) : Sp fz1 d 325 [(3, 6603)] hr Q = Q 0 hr := by
  have := B.2.1
  rw [v325, if_neg (by omega)]
theorem BXC.c41 (B : BXC T f h) : Sp fz1 (d + 1) 41 [(3, 258)] h Q = Q 0 h := by
  have := B.2.1
  rw [q41, if_neg (by omega)]
/-- a sign that must stand here -/
theorem TKX.sign {c : Int} (D : TKX tp t T S s h hr) (hc : 0 ≤ c ∧ c ≤ 127) (d e : Nat) : ∃ g gr, (∀ Q, Sp fz1 (d + 9) 58 [(3, 258), (0, c)] h Q = Q 0 g) ∧ (∀ Q, Sp fz1 (e + 3) 333 [(3, 6603), (0, c)] hr Q = Q 0 gr) ∧ ((sgP tp t s c ∧ ∃ s1, s + 1 ≤ s1 ∧ TKX tp t T S s1 g gr ∧ SAC h g ∧ SAR hr gr) ∨ (¬ sgP tp t s c ∧ g = bdH h ∧ gr = bdR hr)) := by
  have F := D.fz
  have fz7 : hr 6603 7 < 0 := by omega
  have q1 : ∀ Q, Sp fz1 (e + 2) 325 [(3, 6603)] hr Q = Q 1 hr := fun Q => D.g325
  by_cases w : sgP tp t s c
  · obtain ⟨g, gr, X1, X2, -, -, X3, X4, e1, f1⟩ := D.nx d e
    have ts := D.ts (by have := w.1; omega)
    refine ⟨g, gr, fun Q => ?_, fun Q => ?_, .inl ⟨w, _, X2 ts, X1, X3, X4⟩⟩
    · have cs : ∀ (d : Nat) Q, Sp fz1 d 59 [(3, 129), (0, c)] h Q = Q 1 h := fun d Q => by rw [c59 D.1.2.1 D.1.1 hc]; exact congrArg (fun x => Q x h) (if_pos w)
      have pp : ∀ Q, Sp fz1 (d + 8) 28 [(3, 129), (0, 1)] h Q = Q 0 g := e1
      simp (implicitDefEqProofs := false) (disch := omega) only [sp58, b58_0, x_aload0, y_call28, y_call59, x_gc_2051, x_iload1, x_return, klp_0, klp_1, klp_2, klp_3, klp_9, KC_0, KC_1, KC_2, KC_3, KC_4, ne_eq, not_false_eq_true, not_true_eq_false, true_and, and_true, and_self, implies_true, eq_self, true_imp_iff, false_implies, Int.reduceEq, Int.reduceNe, Int.reduceMod, Int.reduceMul, Int.reduceAdd, Int.reduceSub, Int.reduceLT, Int.reduceLE, Nat.reduceAdd, Nat.reduceLeDiff, Nat.reduceLT, Nat.reduceSub, reduceIte, wds_n, wds_0, wds_1, wds_2, wds_3, or_true, true_or, or_false, false_or, or_self, false_and, and_false, d_pos, d_s1, d_s2, d_s3, d_s4, d_s5, d_s6, d_s7, d_s8, Classical.not_not, z258_0, cs, pp, d_s9, d_s10, d_s11, d_s12, d_s13, d_s14, d_s15, d_s16, d_s17, d_s18, d_s19, d_s20, d_s21, d_s22, d_s23, d_s24, d_s25, d_s26, d_s27, d_s28, d_s29, d_s30, hs_ne, hcell, hcel1, le_sub1, le_T, le_F, lt_T, lt_F, eq_F, w32_T, bz0, bz1, lc_le, lc_ge, lc_lt, lc_gt, lc_eq]
    · have cs : ∀ (d : Nat) Q, Sp fz1 d 334 [(3, 6603), (0, c)] hr Q = Q 1 hr := fun d Q => by rw [v334 D.1.2.2 D.1.1]; exact congrArg (fun x => Q x hr) (if_pos w)
      have pp : ∀ Q, Sp fz1 (e + 2) 321 [(3, 6603)] hr Q = Q 0 gr := f1
      simp (implicitDefEqProofs := false) (disch := omega) only [sp333, b333_0, b333_1, b333_2, q333_1, q333_2, x_aload0, y_call321, y_call325, y_call332, y_call334, x_goto_2, x_ifCond_eq_1, x_iload1, x_return, klp_0, klp_1, klp_2, klp_3, klp_9, KC_0, KC_1, KC_2, KC_3, KC_4, ne_eq, not_false_eq_true, not_true_eq_false, true_and, and_true, and_self, implies_true, eq_self, true_imp_iff, false_implies, Int.reduceEq, Int.reduceNe, Int.reduceMod, Int.reduceMul, Int.reduceAdd, Int.reduceSub, Int.reduceLT, Int.reduceLE, Nat.reduceAdd, Nat.reduceLeDiff, Nat.reduceLT, Nat.reduceSub, reduceIte, wds_n, wds_0, wds_1, wds_2, wds_3, or_true, true_or, or_false, false_or, or_self, false_and, and_false, d_pos, d_s1, d_s2, d_s3, d_s4, d_s5, d_s6, d_s7, d_s8, Classical.not_not, q1, cs, pp, d_s9, d_s10, d_s11, d_s12, d_s13, d_s14, d_s15, d_s16, d_s17, d_s18, d_s19, d_s20, d_s21, d_s22, d_s23, d_s24, d_s25, d_s26, d_s27, d_s28, d_s29, d_s30, hs_ne, hcell, hcel1, le_sub1, le_T, le_F, lt_T, lt_F, eq_F, w32_T, bz0, bz1, lc_le, lc_ge, lc_lt, lc_gt, lc_eq]
  · refine ⟨bdH h, bdR hr, fun Q => ?_, fun Q => ?_, .inr ⟨w, rfl, rfl⟩⟩
    · have cs : ∀ (d : Nat) Q, Sp fz1 d 59 [(3, 129), (0, c)] h Q = Q 0 h := fun d Q => by rw [c59 D.1.2.1 D.1.1 hc]; exact congrArg (fun x => Q x h) (if_neg w)
      have pp : ∀ Q, Sp fz1 (d + 8) 28 [(3, 129), (0, 0)] h Q = Q 0 (bdH h) := fun Q => p28f (by omega)
      simp (implicitDefEqProofs := false) (disch := omega) only [sp58, b58_0, x_aload0, y_call28, y_call59, x_gc_2051, x_iload1, x_return, klp_0, klp_1, klp_2, klp_3, klp_9, KC_0, KC_1, KC_2, KC_3, KC_4, ne_eq, not_false_eq_true, not_true_eq_false, true_and, and_true, and_self, implies_true, eq_self, true_imp_iff, false_implies, Int.reduceEq, Int.reduceNe, Int.reduceMod, Int.reduceMul, Int.reduceAdd, Int.reduceSub, Int.reduceLT, Int.reduceLE, Nat.reduceAdd, Nat.reduceLeDiff, Nat.reduceLT, Nat.reduceSub, reduceIte, wds_n, wds_0, wds_1, wds_2, wds_3, or_true, true_or, or_false, false_or, or_self, false_and, and_false, d_pos, d_s1, d_s2, d_s3, d_s4, d_s5, d_s6, d_s7, d_s8, Classical.not_not, z258_0, cs, pp, d_s9, d_s10, d_s11, d_s12, d_s13, d_s14, d_s15, d_s16, d_s17, d_s18, d_s19, d_s20, d_s21, d_s22, d_s23, d_s24, d_s25, d_s26, d_s27, d_s28, d_s29, d_s30, hs_ne, hcell, hcel1, le_sub1, le_T, le_F, lt_T, lt_F, eq_F, w32_T, bz0, bz1, lc_le, lc_ge, lc_lt, lc_gt, lc_eq]
    · have cs : ∀ (d : Nat) Q, Sp fz1 d 334 [(3, 6603), (0, c)] hr Q = Q 0 hr := fun d Q => by rw [v334 D.1.2.2 D.1.1]; exact congrArg (fun x => Q x hr) (if_neg w)
      simp (implicitDefEqProofs := false) (disch := omega) only [sp333, b333_0, b333_1, b333_2, q333_1, q333_2, x_aload0, y_call321, y_call325, y_call332, y_call334, x_goto_2, x_ifCond_eq_1, x_iload1, x_return, klp_0, klp_1, klp_2, klp_3, klp_9, KC_0, KC_1, KC_2, KC_3, KC_4, ne_eq, not_false_eq_true, not_true_eq_false, true_and, and_true, and_self, implies_true, eq_self, true_imp_iff, false_implies, Int.reduceEq, Int.reduceNe, Int.reduceMod, Int.reduceMul, Int.reduceAdd, Int.reduceSub, Int.reduceLT, Int.reduceLE, Nat.reduceAdd, Nat.reduceLeDiff, Nat.reduceLT, Nat.reduceSub, reduceIte, wds_n, wds_0, wds_1, wds_2, wds_3, or_true, true_or, or_false, false_or, or_self, false_and, and_false, d_pos, d_s1, d_s2, d_s3, d_s4, d_s5, d_s6, d_s7, d_s8, Classical.not_not, q1, cs, v332g fz7, d_s9, d_s10, d_s11, d_s12, d_s13, d_s14, d_s15, d_s16, d_s17, d_s18, d_s19, d_s20, d_s21, d_s22, d_s23, d_s24, d_s25, d_s26, d_s27, d_s28, d_s29, d_s30, hs_ne, hcell, hcel1, le_sub1, le_T, le_F, lt_T, lt_F, eq_F, w32_T, bz0, bz1, lc_le, lc_ge, lc_lt, lc_gt, lc_eq]
theorem BXC.sg {c : Int} (B : BXC T f h) : Sp fz1 (d + 1) 58 [(3, 258), (0, c)] h Q = Q 0 h := by
  have b2 := B.2.1.2.2
  have b3 : 0 ≤ h 129 3 := by have := B.2.1; omega
  simp (implicitDefEqProofs := false) (disch := omega) only [sp58, b58_0, x_aload0, y_call28, y_call59, x_gc_2051, x_iload1, x_return, klp_0, klp_1, klp_2, klp_3, klp_9, KC_0, KC_1, KC_2, KC_3, KC_4, ne_eq, not_false_eq_true, not_true_eq_false, true_and, and_true, and_self, implies_true, eq_self, true_imp_iff, false_implies, Int.reduceEq, Int.reduceNe, Int.reduceMod, Int.reduceMul, Int.reduceAdd, Int.reduceSub, Int.reduceLT, Int.reduceLE, Nat.reduceAdd, Nat.reduceLeDiff, Nat.reduceLT, Nat.reduceSub, reduceIte, wds_n, wds_0, wds_1, wds_2, wds_3, or_true, true_or, or_false, false_or, or_self, false_and, and_false, d_pos, d_s1, d_s2, d_s3, d_s4, d_s5, d_s6, d_s7, d_s8, Classical.not_not, z258_0, c59b b2, p28b b3 b2, d_s9, d_s10, d_s11, d_s12, d_s13, d_s14, d_s15, d_s16, d_s17, d_s18, d_s19, d_s20, d_s21, d_s22, d_s23, d_s24, d_s25, d_s26, d_s27, d_s28, d_s29, d_s30, hs_ne, hcell, hcel1, le_sub1, le_T, le_F, lt_T, lt_F, eq_F, w32_T, bz0, bz1, lc_le, lc_ge, lc_lt, lc_gt, lc_eq]
theorem BXR.sg {c : Int} (B : BXR S f hr) : Sp fz1 (d + 1) 333 [(3, 6603), (0, c)] hr Q = Q 0 hr := v333b (by have := B.2.1; omega)
theorem cNm {q : Int} (hT : TC T) (hq : 0 ≤ q ∧ q < 7) : rd fz1 h (T + 91) q = T + 151 + 64 * q := by
  have z : q = 0 ∨ q = 1 ∨ q = 2 ∨ q = 3 ∨ q = 4 ∨ q = 5 ∨ q = 6 := by omega
  rcases hT with rfl | rfl <;> (rcases z with rfl | rfl | rfl | rfl | rfl | rfl | rfl) <;> exact rd1_of (by decide +kernel)
theorem cNml {q : Int} (hT : TC T) (hq : 0 ≤ q ∧ q < 7) : rd fz1 h (T + 151 + 64 * q) (-1) = 12 := by
  have z : q = 0 ∨ q = 1 ∨ q = 2 ∨ q = 3 ∨ q = 4 ∨ q = 5 ∨ q = 6 := by omega
  rcases hT with rfl | rfl <;> (rcases z with rfl | rfl | rfl | rfl | rfl | rfl | rfl) <;> exact rd1_of (by decide +kernel)
theorem cNmk {q : Int} (hT : TC T) : (T + 151 + 64 * q) % 64 = 33 := by rcases hT with rfl | rfl <;> omega
theorem c55 {q : Int} (hT : TC T) (hq : 0 ≤ q ∧ q < 7) : Sp fz1 d 55 [(3, T), (0, q)] h Q = Q (h (T + 598) q) h := by
  simp (implicitDefEqProofs := false) (disch := omega) only [sp55, b55_0, b55_1, b55_2, q55_1, q55_2, x_alen, x_aload0, x_gc_10251, x_goto_2, x_iaload, x_iconst, x_ifCond_lt_1, x_if_icmp_ge_1, x_iload1, x_ireturn, klp_0, klp_1, klp_2, klp_3, klp_9, KC_0, KC_1, KC_2, KC_3, KC_4, ne_eq, not_false_eq_true, not_true_eq_false, true_and, and_true, and_self, implies_true, eq_self, true_imp_iff, false_implies, Int.reduceEq, Int.reduceNe, Int.reduceMod, Int.reduceMul, Int.reduceAdd, Int.reduceSub, Int.reduceLT, Int.reduceLE, Nat.reduceAdd, Nat.reduceLeDiff, Nat.reduceLT, Nat.reduceSub, reduceIte, wds_n, wds_0, wds_1, wds_2, wds_3, or_true, true_or, or_false, false_or, or_self, false_and, and_false, d_pos, d_s1, d_s2, d_s3, d_s4, d_s5, d_s6, d_s7, d_s8, Classical.not_not, c1 hT, c1l hT, c1k hT, TC_0 hT, TC_k hT, d_s9, d_s10, d_s11, d_s12, d_s13, d_s14, d_s15, d_s16, d_s17, d_s18, d_s19, d_s20, d_s21, d_s22, d_s23, d_s24, d_s25, d_s26, d_s27, d_s28, d_s29, d_s30, hs_ne, hcell, hcel1, le_sub1, le_T, le_F, lt_T, lt_F, eq_F, w32_T, bz0, bz1, lc_le, lc_ge, lc_lt, lc_gt, lc_eq]
theorem c56 {q : Int} (hq : 0 ≤ q ∧ q < 7) : Sp fz1 d 56 [(0, q)] h Q = Q (MST q) h := by
  have z : q = 0 ∨ q = 1 ∨ q = 2 ∨ q = 3 ∨ q = 4 ∨ q = 5 ∨ q = 6 := by omega
  rcases z with rfl | rfl | rfl | rfl | rfl | rfl | rfl <;> (simp (implicitDefEqProofs := false) (disch := omega) only [sp56, b56_0, b56_1, b56_2, b56_3, b56_4, b56_5, b56_6, b56_7, b56_8, q56_1, q56_2, q56_3, q56_4, q56_5, q56_6, q56_7, q56_8, x_iconst, x_iload0, x_ireturn, x_tsw_8_0_1_2_3_4_5_6_7, klp_0, klp_1, klp_2, klp_3, klp_9, KC_0, KC_1, KC_2, KC_3, KC_4, ne_eq, not_false_eq_true, not_true_eq_false, true_and, and_true, and_self, implies_true, eq_self, true_imp_iff, false_implies, Int.reduceEq, Int.reduceNe, Int.reduceMod, Int.reduceMul, Int.reduceAdd, Int.reduceSub, Int.reduceLT, Int.reduceLE, Nat.reduceAdd, Nat.reduceLeDiff, Nat.reduceLT, Nat.reduceSub, reduceIte, wds_n, wds_0, wds_1, wds_2, wds_3, or_true, true_or, or_false, false_or, or_self, false_and, and_false, d_pos, d_s1, d_s2, d_s3, d_s4, d_s5, d_s6, d_s7, d_s8, Classical.not_not, d_s9, d_s10, d_s11, d_s12, d_s13, d_s14, d_s15, d_s16, d_s17, d_s18, d_s19, d_s20, d_s21, d_s22, d_s23, d_s24, d_s25, d_s26, d_s27, d_s28, d_s29, d_s30, hs_ne, hcell, hcel1, le_sub1, le_T, le_F, lt_T, lt_F, eq_F, w32_T, bz0, bz1, lc_le, lc_ge, lc_lt, lc_gt, lc_eq] <;> rfl)
theorem lp57 {w q : Int} (hT : TC T) (hq : 0 ≤ q ∧ q < 7) (hv : 0 ≤ h (T + 598) q ∧ h (T + 598) q ≤ 12) : ∀ (n : Nat) (r : Int), 0 ≤ r → r + n = h (T + 598) q → Q (fnx (h (T + 151 + 64 * q)) w (-1) n r) h → G fz1 (d + 1) 57 1 [(3, T), (0, q), (1, w), (9, 0), (0, r)] [] h Q
  | 0, r, h0, hn, hQ => by
    have kT := kTC hT
    refine G_in ?_
    simp (implicitDefEqProofs := false) (disch := omega) only [b57_1, b57_3, q57_3, x_aaload, x_aload0, y_call55, x_gc_10243, x_iconst, x_ifCond_ne_2, x_if_icmp_ge_3, x_iload1, x_iload4, x_ireturn, x_laload, x_lcmp, x_lload2, klp_0, klp_1, klp_2, klp_3, klp_9, KC_0, KC_1, KC_2, KC_3, KC_4, ne_eq, not_false_eq_true, not_true_eq_false, true_and, and_true, and_self, implies_true, eq_self, true_imp_iff, false_implies, Int.reduceEq, Int.reduceNe, Int.reduceMod, Int.reduceMul, Int.reduceAdd, Int.reduceSub, Int.reduceLT, Int.reduceLE, Nat.reduceAdd, Nat.reduceLeDiff, Nat.reduceLT, Nat.reduceSub, reduceIte, wds_n, wds_0, wds_1, wds_2, wds_3, or_true, true_or, or_false, false_or, or_self, false_and, and_false, d_pos, d_s1, d_s2, d_s3, d_s4, d_s5, d_s6, d_s7, d_s8, Classical.not_not, c0 hT, c0l hT, c0k hT, TC_0 hT, TC_k hT, cNm hT hq, cNml hT hq, cNmk hT, c55 hT hq, d_s9, d_s10, d_s11, d_s12, d_s13, d_s14, d_s15, d_s16, d_s17, d_s18, d_s19, d_s20, d_s21, d_s22, d_s23, d_s24, d_s25, d_s26, d_s27, d_s28, d_s29, d_s30, hn, Int.add_zero, Int.natCast_zero, le_sub1, le_T, le_F, lt_T, lt_F, eq_F, w32_T, bz0, bz1, lc_le, lc_ge, lc_lt, lc_gt, lc_eq]
    exact hQ
  | n + 1, r, h0, hn, hQ => by
    have kT := kTC hT
    rw [fnx] at hQ
    refine G_in ?_
    by_cases c : h (T + 151 + 64 * q) r = w
    · rw [if_pos c] at hQ
      simp (implicitDefEqProofs := false) (disch := omega) only [b57_1, x_aaload, x_aload0, y_call55, x_gc_10243, x_ifCond_ne_2, x_if_icmp_ge_3, x_iload1, x_iload4, x_ireturn, x_laload, x_lcmp, x_lload2, klp_0, klp_1, klp_2, klp_3, klp_9, KC_0, KC_1, KC_2, KC_3, KC_4, ne_eq, not_false_eq_true, not_true_eq_false, true_and, and_true, and_self, implies_true, eq_self, true_imp_iff, false_implies, Int.reduceEq, Int.reduceNe, Int.reduceMod, Int.reduceMul, Int.reduceAdd, Int.reduceSub, Int.reduceLT, Int.reduceLE, Nat.reduceAdd, Nat.reduceLeDiff, Nat.reduceLT, Nat.reduceSub, reduceIte, wds_n, wds_0, wds_1, wds_2, wds_3, or_true, true_or, or_false, false_or, or_self, false_and, and_false, d_pos, d_s1, d_s2, d_s3, d_s4, d_s5, d_s6, d_s7, d_s8, Classical.not_not, c0 hT, c0l hT, c0k hT, TC_0 hT, TC_k hT, cNm hT hq, cNml hT hq, cNmk hT, c55 hT hq, d_s9, d_s10, d_s11, d_s12, d_s13, d_s14, d_s15, d_s16, d_s17, d_s18, d_s19, d_s20, d_s21, d_s22, d_s23, d_s24, d_s25, d_s26, d_s27, d_s28, d_s29, d_s30, l_cmp_0, eq_true c, le_sub1, le_T, le_F, lt_T, lt_F, eq_F, w32_T, bz0, bz1, lc_le, lc_ge, lc_lt, lc_gt, lc_eq]
      exact hQ
    · rw [if_neg c] at hQ
      have ih := lp57 hT hq hv n (r + 1) (by omega) (by omega) hQ
      simp (implicitDefEqProofs := false) (disch := omega) only [b57_1, b57_2, q57_2, x_aaload, x_aload0, y_call55, x_gc_10243, x_goto_1, x_ifCond_ne_2, x_if_icmp_ge_3, x_iinc4, x_iload1, x_iload4, x_ireturn, x_laload, x_lcmp, x_lload2, klp_0, klp_1, klp_2, klp_3, klp_9, KC_0, KC_1, KC_2, KC_3, KC_4, ne_eq, not_false_eq_true, not_true_eq_false, true_and, and_true, and_self, implies_true, eq_self, true_imp_iff, false_implies, Int.reduceEq, Int.reduceNe, Int.reduceMod, Int.reduceMul, Int.reduceAdd, Int.reduceSub, Int.reduceLT, Int.reduceLE, Nat.reduceAdd, Nat.reduceLeDiff, Nat.reduceLT, Nat.reduceSub, reduceIte, wds_n, wds_0, wds_1, wds_2, wds_3, or_true, true_or, or_false, false_or, or_self, false_and, and_false, d_pos, d_s1, d_s2, d_s3, d_s4, d_s5, d_s6, d_s7, d_s8, Classical.not_not, c0 hT, c0l hT, c0k hT, TC_0 hT, TC_k hT, cNm hT hq, cNml hT hq, cNmk hT, c55 hT hq, d_s9, d_s10, d_s11, d_s12, d_s13, d_s14, d_s15, d_s16, d_s17, d_s18, d_s19, d_s20, d_s21, d_s22, d_s23, d_s24, d_s25, d_s26, d_s27, d_s28, d_s29, d_s30, l_cmp_0, c, le_sub1, le_T, le_F, lt_T, lt_F, eq_F, w32_T, bz0, bz1, lc_le, lc_ge, lc_lt, lc_gt, lc_eq]
      exact ih
theorem c57 {w q : Int} (hT : TC T) (hq : 0 ≤ q ∧ q < 7) (hv : 0 ≤ h (T + 598) q ∧ h (T + 598) q ≤ 12) : Sp fz1 (d + 1) 57 [(3, T), (0, q), (1, w)] h Q = Q (fnx (h (T + 151 + 64 * q)) w (-1) (h (T + 598) q).toNat 0) h := by
  refine Sp_is ?_ Q
  have kT := kTC hT
  simp (implicitDefEqProofs := false) (disch := omega) only [sp57, b57_0, b57_1, b57_2, b57_3, q57_2, q57_3, x_aaload, x_aload0, y_call55, x_gc_10243, x_goto_1, x_iconst, x_ifCond_ne_2, x_if_icmp_ge_3, x_iinc4, x_iload1, x_iload4, x_ireturn, x_istore4, x_laload, x_lcmp, x_lload2, klp_0, klp_1, klp_2, klp_3, klp_9, KC_0, KC_1, KC_2, KC_3, KC_4, ne_eq, not_false_eq_true, not_true_eq_false, true_and, and_true, and_self, implies_true, eq_self, true_imp_iff, false_implies, Int.reduceEq, Int.reduceNe, Int.reduceMod, Int.reduceMul, Int.reduceAdd, Int.reduceSub, Int.reduceLT, Int.reduceLE, Nat.reduceAdd, Nat.reduceLeDiff, Nat.reduceLT, Nat.reduceSub, reduceIte, wds_n, wds_0, wds_1, wds_2, wds_3, or_true, true_or, or_false, false_or, or_self, false_and, and_false, d_pos, d_s1, d_s2, d_s3, d_s4, d_s5, d_s6, d_s7, d_s8, Classical.not_not, c0 hT, c0l hT, c0k hT, TC_0 hT, TC_k hT, cNm hT hq, cNml hT hq, cNmk hT, c55 hT hq, d_s9, d_s10, d_s11, d_s12, d_s13, d_s14, d_s15, d_s16, d_s17, d_s18, d_s19, d_s20, d_s21, d_s22, d_s23, d_s24, d_s25, d_s26, d_s27, d_s28, d_s29, d_s30, le_sub1, le_T, le_F, lt_T, lt_F, eq_F, w32_T, bz0, bz1, lc_le, lc_ge, lc_lt, lc_gt, lc_eq]
  exact lp57 hT hq hv (h (T + 598) q).toNat 0 (by decide) (by omega) ⟨rfl, rfl⟩
/-- a name more -/
def nmH (T : Int) (h : HV) (q w : Int) : HV := hset (hset h (T + 151 + 64 * q) (h (T + 598) q) w) (T + 598) q (h (T + 598) q + 1)
def nmR (S : Int) (h : HV) (q w : Int) : HV := hset (hset h (S + 149) (16 * q + h (S + 84) q) w) (S + 84) q (h (S + 84) q + 1)
theorem c54a {w q : Int} (hT : TC T) (hq : 0 ≤ q ∧ q < 7) (hv : 0 ≤ h (T + 598) q ∧ h (T + 598) q ≤ 12) (e1 : h (T + 598) q < MST q) (e2 : fnx (h (T + 151 + 64 * q)) w (-1) (h (T + 598) q).toNat 0 < 0) (hm : MST q ≤ 12) : Sp fz1 (d + 2) 54 [(3, T), (0, q), (1, w)] h Q = Q (h (T + 598) q) (nmH T h q w) := by
  have kT := kTC hT
  unfold nmH
  simp (implicitDefEqProofs := false) (disch := omega) only [sp54, b54_0, b54_1, b54_2, q54_1, q54_2, x_aaload, x_aload0, y_call55, y_call56, y_call57, x_dup203, x_dup21, x_gc_10243, x_gc_10251, x_goto_1, x_iadd, x_iaload, x_iastore, x_iconst, x_ifCond_lt_2, x_if_icmp_ge_1, x_iload1, x_ireturn, x_isub, x_lastore, x_lload2, klp_0, klp_1, klp_2, klp_3, klp_9, KC_0, KC_1, KC_2, KC_3, KC_4, ne_eq, not_false_eq_true, not_true_eq_false, true_and, and_true, and_self, implies_true, eq_self, true_imp_iff, false_implies, Int.reduceEq, Int.reduceNe, Int.reduceMod, Int.reduceMul, Int.reduceAdd, Int.reduceSub, Int.reduceLT, Int.reduceLE, Nat.reduceAdd, Nat.reduceLeDiff, Nat.reduceLT, Nat.reduceSub, reduceIte, wds_n, wds_0, wds_1, wds_2, wds_3, or_true, true_or, or_false, false_or, or_self, false_and, and_false, d_pos, d_s1, d_s2, d_s3, d_s4, d_s5, d_s6, d_s7, d_s8, Classical.not_not, c0 hT, c0l hT, c0k hT, c1 hT, c1l hT, c1k hT, TC_0 hT, TC_k hT, Int.add_sub_cancel, cNm hT hq, cNml hT hq, cNmk hT, c55 hT hq, c56 hq, c57 hT hq hv, e1, e2, d_s9, d_s10, d_s11, d_s12, d_s13, d_s14, d_s15, d_s16, d_s17, d_s18, d_s19, d_s20, d_s21, d_s22, d_s23, d_s24, d_s25, d_s26, d_s27, d_s28, d_s29, d_s30, hs_ne, hcell, hcel1, le_sub1, le_T, le_F, lt_T, lt_F, eq_F, w32_T, bz0, bz1, lc_le, lc_ge, lc_lt, lc_gt, lc_eq]
theorem c54n {w q : Int} (hT : TC T) (hq : 0 ≤ q ∧ q < 7) (hv : 0 ≤ h (T + 598) q ∧ h (T + 598) q ≤ 12) (e0 : ¬ (h (T + 598) q < MST q ∧ fnx (h (T + 151 + 64 * q)) w (-1) (h (T + 598) q).toNat 0 < 0)) : Sp fz1 (d + 2) 54 [(3, T), (0, q), (1, w)] h Q = Q (-1) h := by
  have kT := kTC hT
  by_cases e1 : h (T + 598) q < MST q
  · have e2 : ¬ fnx (h (T + 151 + 64 * q)) w (-1) (h (T + 598) q).toNat 0 < 0 := fun u => e0 ⟨e1, u⟩
    simp (implicitDefEqProofs := false) (disch := omega) only [sp54, b54_0, b54_1, b54_2, q54_1, q54_2, x_aaload, x_aload0, y_call55, y_call56, y_call57, x_dup203, x_dup21, x_gc_10243, x_gc_10251, x_goto_1, x_iadd, x_iaload, x_iastore, x_iconst, x_ifCond_lt_2, x_if_icmp_ge_1, x_iload1, x_ireturn, x_isub, x_lastore, x_lload2, klp_0, klp_1, klp_2, klp_3, klp_9, KC_0, KC_1, KC_2, KC_3, KC_4, ne_eq, not_false_eq_true, not_true_eq_false, true_and, and_true, and_self, implies_true, eq_self, true_imp_iff, false_implies, Int.reduceEq, Int.reduceNe, Int.reduceMod, Int.reduceMul, Int.reduceAdd, Int.reduceSub, Int.reduceLT, Int.reduceLE, Nat.reduceAdd, Nat.reduceLeDiff, Nat.reduceLT, Nat.reduceSub, reduceIte, wds_n, wds_0, wds_1, wds_2, wds_3, or_true, true_or, or_false, false_or, or_self, false_and, and_false, d_pos, d_s1, d_s2, d_s3, d_s4, d_s5, d_s6, d_s7, d_s8, Classical.not_not, c0 hT, c0l hT, c0k hT, c1 hT, c1l hT, c1k hT, TC_0 hT, TC_k hT, Int.add_sub_cancel, cNm hT hq, cNml hT hq, cNmk hT, c55 hT hq, c56 hq, c57 hT hq hv, e1, e2, d_s9, d_s10, d_s11, d_s12, d_s13, d_s14, d_s15, d_s16, d_s17, d_s18, d_s19, d_s20, d_s21, d_s22, d_s23, d_s24, d_s25, d_s26, d_s27, d_s28, d_s29, d_s30, hs_ne, hcell, hcel1, le_sub1, le_T, le_F, lt_T, lt_F, eq_F, w32_T, bz0, bz1, lc_le, lc_ge, lc_lt, lc_gt, lc_eq]
  · have e2 : True := trivial
    simp (implicitDefEqProofs := false) (disch := omega) only [sp54, b54_0, b54_1, b54_2, q54_1, q54_2, x_aaload, x_aload0, y_call55, y_call56, y_call57, x_dup203, x_dup21, x_gc_10243, x_gc_10251, x_goto_1, x_iadd, x_iaload, x_iastore, x_iconst, x_ifCond_lt_2, x_if_icmp_ge_1, x_iload1, x_ireturn, x_isub, x_lastore, x_lload2, klp_0, klp_1, klp_2, klp_3, klp_9, KC_0, KC_1, KC_2, KC_3, KC_4, ne_eq, not_false_eq_true, not_true_eq_false, true_and, and_true, and_self, implies_true, eq_self, true_imp_iff, false_implies, Int.reduceEq, Int.reduceNe, Int.reduceMod, Int.reduceMul, Int.reduceAdd, Int.reduceSub, Int.reduceLT, Int.reduceLE, Nat.reduceAdd, Nat.reduceLeDiff, Nat.reduceLT, Nat.reduceSub, reduceIte, wds_n, wds_0, wds_1, wds_2, wds_3, or_true, true_or, or_false, false_or, or_self, false_and, and_false, d_pos, d_s1, d_s2, d_s3, d_s4, d_s5, d_s6, d_s7, d_s8, Classical.not_not, c0 hT, c0l hT, c0k hT, c1 hT, c1l hT, c1k hT, TC_0 hT, TC_k hT, Int.add_sub_cancel, cNm hT hq, cNml hT hq, cNmk hT, c55 hT hq, c56 hq, c57 hT hq hv, e1, e2, d_s9, d_s10, d_s11, d_s12, d_s13, d_s14, d_s15, d_s16, d_s17, d_s18, d_s19, d_s20, d_s21, d_s22, d_s23, d_s24, d_s25, d_s26, d_s27, d_s28, d_s29, d_s30, hs_ne, hcell, hcel1, le_sub1, le_T, le_F, lt_T, lt_F, eq_F, w32_T, bz0, bz1, lc_le, lc_ge, lc_lt, lc_gt, lc_eq]
theorem fnx_2 {f1 f2 : Int → Int} {w : Int} : ∀ (n : Nat) (r : Int), 0 ≤ r → (∀ i, r ≤ i → i < r + n → f2 i = f1 i) → (fnx f1 w (-1) n r = -1 ∧ fnx f2 w (-9) n r = -9) ∨ (fnx f1 w (-1) n r = fnx f2 w (-9) n r ∧ r ≤ fnx f1 w (-1) n r ∧ fnx f1 w (-1) n r < r + n)
  | 0, r, _, _ => .inl ⟨rfl, rfl⟩
  | n + 1, r, h0, he => by
    rw [fnx, fnx, he r (by omega) (by omega)]
    by_cases c : f1 r = w
    · rw [if_pos c, if_pos c]
      exact .inr ⟨rfl, by omega, by omega⟩
    · rw [if_neg c, if_neg c]
      rcases fnx_2 n (r + 1) (by omega) (fun i a b => he i (by omega) (by omega)) with z | z
      · exact .inl z
      · exact .inr ⟨z.1, by omega, by omega⟩
/-- the names told, on both sides -/
def CNX (T S : Int) (h hr : HV) : Prop := (∀ q, 0 ≤ q → q < 7 → hr (S + 84) q = h (T + 598) q ∧ 0 ≤ h (T + 598) q ∧ h (T + 598) q ≤ MST q) ∧ ∀ q i, 0 ≤ q → q < 7 → 0 ≤ i → i < h (T + 598) q → hr (S + 149) (16 * q + i) = h (T + 151 + 64 * q) i
theorem MST_12 {q : Int} : MST q ≤ 12 := by
  unfold MST
  repeat' split
  all_goals omega
/-- a new name on both sides -/
theorem nn_pair {q M : Int} (D : TKX tp t T S s h hr) (C : CNX T S h hr) (hq : 0 ≤ q ∧ q < 7) (hM : M = MST q) (d e : Nat) : ∃ g gr x y, (∀ Q, Sp fz1 (d + 9) 51 [(3, 258), (0, q)] h Q = Q x g) ∧ (∀ Q, Sp fz1 (e + 7) 328 [(3, 6603), (0, q), (0, M)] hr Q = Q y gr) ∧ ((x = h (T + 598) q ∧ y = x ∧ x < MST q ∧ ∃ s1, s + 1 ≤ s1 ∧ TKX tp t T S s1 g gr ∧ SAC (nmH T h q (wdT tp t s)) g ∧ SAR (nmR S hr q (wdT tp t s)) gr) ∨ (x = -1 ∧ y = 0 ∧ g = bdH h ∧ gr = bdR hr)) := by
  have F := D.fz
  have fz7 : hr 6603 7 < 0 := by omega
  have hT := D.2.1.1.1
  have hp := D.2.1.1.2
  have hS := D.2.1.2.1
  have h9 := D.2.1.2.2
  have kT := kTC hT
  have kS := kTR hS
  have S0 := D.sb
  obtain ⟨C1, C2⟩ := C
  obtain ⟨c1, c2, c3⟩ := C1 q hq.1 hq.2
  have m12 := MST_12 (q := q)
  have hv : 0 ≤ h (T + 598) q ∧ h (T + 598) q ≤ 12 := by omega
  have q1 : ∀ Q, Sp fz1 (e + 6) 325 [(3, 6603)] hr Q = Q 1 hr := fun Q => D.g325
  by_cases w : nmP tp t s
  · have ci : ∀ Q, Sp fz1 (d + 8) 52 [(3, 258)] h Q = Q 1 h := fun Q => by rw [c52 (d := d + 2) D.1.2.1 D.2.2.1]; exact congrArg (fun x => Q x h) (if_pos w)
    have cw : ∀ Q, Sp fz1 (d + 8) 53 [(3, 129)] h Q = Q (wdT tp t s) h := fun Q => by rw [q53, D.1.2.1.2.1 w.1]
    have ri : ∀ Q, Sp fz1 (e + 6) 329 [(3, 6603)] hr Q = Q 1 hr := fun Q => by rw [v329 D.1.2.2 D.1.1 D.2.2.2]; exact congrArg (fun x => Q x hr) (if_pos w)
    have rw_ : ∀ (d : Nat) (b : HV) Q, TKf tp t s (-9) b → Sp fz1 d 330 [(3, 6603)] b Q = Q (wdT tp t s) b := fun d b Q K => v330 K D.1.1
    have fe := fnx_2 (f1 := h (T + 151 + 64 * q)) (f2 := fun i => hr (S + 149) (16 * q + i)) (w := wdT tp t s) (h (T + 598) q).toNat 0 (Int.le_refl _) (fun i a b => C2 q i hq.1 hq.2 a (by omega))
    have tl : ∀ Q, Sp fz1 (e + 6) 331 [(3, 6603), (0, q), (1, wdT tp t s)] hr Q = Q (fnx (fun i => hr (S + 149) (16 * q + i)) (wdT tp t s) (-9) (h (T + 598) q).toNat 0) hr := fun Q => by rw [v331 hS h9 hq (by omega), c1]
    have wt : ∀ Q, Sp fz1 (e + 6) 330 [(3, 6603)] hr Q = Q (wdT tp t s) hr := fun Q => rw_ _ _ _ D.1.2.2
    generalize hfr : fnx (fun i => hr (S + 149) (16 * q + i)) (wdT tp t s) (-9) (h (T + 598) q).toNat 0 = fr at *
    by_cases z : h (T + 598) q < MST q ∧ fnx (h (T + 151 + 64 * q)) (wdT tp t s) (-1) (h (T + 598) q).toNat 0 < 0
    · have efr : fr = -9 := by omega
      have ca : ∀ o, o ≠ T + 151 + 64 * q → o ≠ T + 598 → nmH T h q (wdT tp t s) o = h o := fun o a b => by unfold nmH; rw [hs_ne b, hs_ne a]
      have ra : ∀ o, o ≠ S + 149 → o ≠ S + 84 → nmR S hr q (wdT tp t s) o = hr o := fun o a b => by unfold nmR; rw [hs_ne b, hs_ne a]
      have D1 : TKX tp t T S s (nmH T h q (wdT tp t s)) (nmR S hr q (wdT tp t s)) := D.fr ⟨ca _ (by omega) (by omega), ca _ (by omega) (by omega), by rw [ca _ (by omega) (by omega)]⟩ (fun o x => ca o (by omega) (by omega)) (fun i _ _ => by rw [ra _ (by omega) (by omega)]) ⟨ra _ (by omega) (by omega), by rw [ra _ (by omega) (by omega)]⟩ (fun o x => ra o (by omega) (by omega))
      obtain ⟨g, gr, X1, X2, -, -, X3, X4, e1, f1⟩ := D1.nx d (e + 4)
      have ts := D.ts (by have := w.1; omega)
      have tl1 : ∀ Q, Sp fz1 (d + 8) 54 [(3, T), (0, q), (1, wdT tp t s)] h Q = Q (h (T + 598) q) (nmH T h q (wdT tp t s)) := fun Q => c54a (d := d + 6) hT hq hv z.1 z.2 m12
      have rq : gr (S + 84) q = h (T + 598) q + 1 := by
        rw [X4.1 _ (by omega)]
        unfold nmR
        rw [hcel1]
        omega
      have rS : gr 6603 9 = S := X1.2.1.2.2
      have nme : nmR S hr q (wdT tp t s) = hset (hset hr (S + 149) (16 * q + hr (S + 84) q) (wdT tp t s)) (S + 84) q (hr (S + 84) q + 1) := rfl
      refine ⟨g, gr, _, _, fun Q => ?_, fun Q => ?_, .inl ⟨rfl, rfl, z.1, _, X2 ts, X1, X3, X4⟩⟩
      · have tl := tl1
        have pp := e1
        simp (implicitDefEqProofs := false) (disch := omega) only [sp51, b51_0, b51_1, b51_2, b51_3, b51_4, q51_1, q51_2, q51_3, q51_4, x_aload0, y_call28, y_call52, y_call53, y_call54, x_gc_2051, x_gf_2059, x_goto_2, x_goto_4, x_iconst, x_ifCond_eq_1, x_ifCond_lt_3, x_iload1, x_iload2, x_ireturn, x_istore2, klp_0, klp_1, klp_2, klp_3, klp_9, KC_0, KC_1, KC_2, KC_3, KC_4, ne_eq, not_false_eq_true, not_true_eq_false, true_and, and_true, and_self, implies_true, eq_self, true_imp_iff, false_implies, Int.reduceEq, Int.reduceNe, Int.reduceMod, Int.reduceMul, Int.reduceAdd, Int.reduceSub, Int.reduceLT, Int.reduceLE, Nat.reduceAdd, Nat.reduceLeDiff, Nat.reduceLT, Nat.reduceSub, reduceIte, wds_n, wds_0, wds_1, wds_2, wds_3, or_true, true_or, or_false, false_or, or_self, false_and, and_false, d_pos, d_s1, d_s2, d_s3, d_s4, d_s5, d_s6, d_s7, d_s8, Classical.not_not, z258_0, TC_0 hT, TC_k hT, ci, cw, tl, pp, hp, d_s9, d_s10, d_s11, d_s12, d_s13, d_s14, d_s15, d_s16, d_s17, d_s18, d_s19, d_s20, d_s21, d_s22, d_s23, d_s24, d_s25, d_s26, d_s27, d_s28, d_s29, d_s30, hs_ne, hcell, hcel1, le_sub1, le_T, le_F, lt_T, lt_F, eq_F, w32_T, bz0, bz1, lc_le, lc_ge, lc_lt, lc_gt, lc_eq]
      · have f1' : ∀ Q, Sp fz1 (e + 6) 321 [(3, 6603)] (hset (hset hr (S + 149) (16 * q + hr (S + 84) q) (wdT tp t s)) (S + 84) q (hr (S + 84) q + 1)) Q = Q 0 gr := f1
        rw [c1] at f1'
        simp (implicitDefEqProofs := false) (disch := omega) only [sp328, b328_0, b328_1, b328_2, q328_1, q328_2, x_aload0, y_call321, y_call325, y_call329, y_call330, y_call331, y_call332, x_dup203, x_dup21, x_gc_12291, x_gc_12299, x_gf_11339, x_goto_1, x_iadd, x_iaload, x_iastore, x_iconst, x_ifCond_eq_1, x_if_icmp_eq_1, x_if_icmp_eq_2, x_iload1, x_iload2, x_imul, x_ireturn, x_isub, x_lastore, klp_0, klp_1, klp_2, klp_3, klp_9, KC_0, KC_1, KC_2, KC_3, KC_4, ne_eq, not_false_eq_true, not_true_eq_false, true_and, and_true, and_self, implies_true, eq_self, true_imp_iff, false_implies, Int.reduceEq, Int.reduceNe, Int.reduceMod, Int.reduceMul, Int.reduceAdd, Int.reduceSub, Int.reduceLT, Int.reduceLE, Nat.reduceAdd, Nat.reduceLeDiff, Nat.reduceLT, Nat.reduceSub, reduceIte, wds_n, wds_0, wds_1, wds_2, wds_3, or_true, true_or, or_false, false_or, or_self, false_and, and_false, d_pos, d_s1, d_s2, d_s3, d_s4, d_s5, d_s6, d_s7, d_s8, Classical.not_not, r0 hS, r0l hS, r0k hS, r1 hS, r1l hS, r1k hS, TR_0 hS, TR_k hS, Int.add_sub_cancel, q1, ri, c1, wt, tl, efr, h9, f1', rq, rS, d_s9, d_s10, d_s11, d_s12, d_s13, d_s14, d_s15, d_s16, d_s17, d_s18, d_s19, d_s20, d_s21, d_s22, d_s23, d_s24, d_s25, d_s26, d_s27, d_s28, d_s29, d_s30, hs_ne, hcell, hcel1, le_sub1, le_T, le_F, lt_T, lt_F, eq_F, w32_T, bz0, bz1, lc_le, lc_ge, lc_lt, lc_gt, lc_eq]
    · refine ⟨bdH h, bdR hr, -1, 0, fun Q => ?_, fun Q => ?_, .inr ⟨rfl, rfl, rfl, rfl⟩⟩
      · have tl : ∀ Q, Sp fz1 (d + 8) 54 [(3, T), (0, q), (1, wdT tp t s)] h Q = Q (-1) h := fun Q => c54n (d := d + 6) hT hq hv z
        have pp : ∀ Q, Sp fz1 (d + 8) 28 [(3, 129), (0, 0)] h Q = Q 0 (bdH h) := fun Q => p28f (by omega)
        simp (implicitDefEqProofs := false) (disch := omega) only [sp51, b51_0, b51_1, b51_2, b51_3, b51_4, q51_1, q51_2, q51_3, q51_4, x_aload0, y_call28, y_call52, y_call53, y_call54, x_gc_2051, x_gf_2059, x_goto_2, x_goto_4, x_iconst, x_ifCond_eq_1, x_ifCond_lt_3, x_iload1, x_iload2, x_ireturn, x_istore2, klp_0, klp_1, klp_2, klp_3, klp_9, KC_0, KC_1, KC_2, KC_3, KC_4, ne_eq, not_false_eq_true, not_true_eq_false, true_and, and_true, and_self, implies_true, eq_self, true_imp_iff, false_implies, Int.reduceEq, Int.reduceNe, Int.reduceMod, Int.reduceMul, Int.reduceAdd, Int.reduceSub, Int.reduceLT, Int.reduceLE, Nat.reduceAdd, Nat.reduceLeDiff, Nat.reduceLT, Nat.reduceSub, reduceIte, wds_n, wds_0, wds_1, wds_2, wds_3, or_true, true_or, or_false, false_or, or_self, false_and, and_false, d_pos, d_s1, d_s2, d_s3, d_s4, d_s5, d_s6, d_s7, d_s8, Classical.not_not, z258_0, TC_0 hT, TC_k hT, ci, cw, tl, pp, hp, d_s9, d_s10, d_s11, d_s12, d_s13, d_s14, d_s15, d_s16, d_s17, d_s18, d_s19, d_s20, d_s21, d_s22, d_s23, d_s24, d_s25, d_s26, d_s27, d_s28, d_s29, d_s30, hs_ne, hcell, hcel1, le_sub1, le_T, le_F, lt_T, lt_F, eq_F, w32_T, bz0, bz1, lc_le, lc_ge, lc_lt, lc_gt, lc_eq]
      · by_cases z1 : h (T + 598) q = M
        · have z2 : hr (S + 84) q = M := by omega
          simp (implicitDefEqProofs := false) (disch := omega) only [sp328, b328_0, b328_1, b328_2, q328_1, q328_2, x_aload0, y_call321, y_call325, y_call329, y_call330, y_call331, y_call332, x_dup203, x_dup21, x_gc_12291, x_gc_12299, x_gf_11339, x_goto_1, x_iadd, x_iaload, x_iastore, x_iconst, x_ifCond_eq_1, x_if_icmp_eq_1, x_if_icmp_eq_2, x_iload1, x_iload2, x_imul, x_ireturn, x_isub, x_lastore, klp_0, klp_1, klp_2, klp_3, klp_9, KC_0, KC_1, KC_2, KC_3, KC_4, ne_eq, not_false_eq_true, not_true_eq_false, true_and, and_true, and_self, implies_true, eq_self, true_imp_iff, false_implies, Int.reduceEq, Int.reduceNe, Int.reduceMod, Int.reduceMul, Int.reduceAdd, Int.reduceSub, Int.reduceLT, Int.reduceLE, Nat.reduceAdd, Nat.reduceLeDiff, Nat.reduceLT, Nat.reduceSub, reduceIte, wds_n, wds_0, wds_1, wds_2, wds_3, or_true, true_or, or_false, false_or, or_self, false_and, and_false, d_pos, d_s1, d_s2, d_s3, d_s4, d_s5, d_s6, d_s7, d_s8, Classical.not_not, r0 hS, r0l hS, r0k hS, r1 hS, r1l hS, r1k hS, TR_0 hS, TR_k hS, q1, ri, c1, wt, tl, z1, h9, v332g fz7, d_s9, d_s10, d_s11, d_s12, d_s13, d_s14, d_s15, d_s16, d_s17, d_s18, d_s19, d_s20, d_s21, d_s22, d_s23, d_s24, d_s25, d_s26, d_s27, d_s28, d_s29, d_s30, hs_ne, hcell, hcel1, le_sub1, le_T, le_F, lt_T, lt_F, eq_F, w32_T, bz0, bz1, lc_le, lc_ge, lc_lt, lc_gt, lc_eq]
        · have z3 : fr ≠ -9 := by omega
          simp (implicitDefEqProofs := false) (disch := omega) only [sp328, b328_0, b328_1, b328_2, q328_1, q328_2, x_aload0, y_call321, y_call325, y_call329, y_call330, y_call331, y_call332, x_dup203, x_dup21, x_gc_12291, x_gc_12299, x_gf_11339, x_goto_1, x_iadd, x_iaload, x_iastore, x_iconst, x_ifCond_eq_1, x_if_icmp_eq_1, x_if_icmp_eq_2, x_iload1, x_iload2, x_imul, x_ireturn, x_isub, x_lastore, klp_0, klp_1, klp_2, klp_3, klp_9, KC_0, KC_1, KC_2, KC_3, KC_4, ne_eq, not_false_eq_true, not_true_eq_false, true_and, and_true, and_self, implies_true, eq_self, true_imp_iff, false_implies, Int.reduceEq, Int.reduceNe, Int.reduceMod, Int.reduceMul, Int.reduceAdd, Int.reduceSub, Int.reduceLT, Int.reduceLE, Nat.reduceAdd, Nat.reduceLeDiff, Nat.reduceLT, Nat.reduceSub, reduceIte, wds_n, wds_0, wds_1, wds_2, wds_3, or_true, true_or, or_false, false_or, or_self, false_and, and_false, d_pos, d_s1, d_s2, d_s3, d_s4, d_s5, d_s6, d_s7, d_s8, Classical.not_not, r0 hS, r0l hS, r0k hS, r1 hS, r1l hS, r1k hS, TR_0 hS, TR_k hS, q1, ri, c1, wt, tl, z1, z3, h9, v332g fz7, d_s9, d_s10, d_s11, d_s12, d_s13, d_s14, d_s15, d_s16, d_s17, d_s18, d_s19, d_s20, d_s21, d_s22, d_s23, d_s24, d_s25, d_s26, d_s27, d_s28, d_s29, d_s30, hs_ne, hcell, hcel1, le_sub1, le_T, le_F, lt_T, lt_F, eq_F, w32_T, bz0, bz1, lc_le, lc_ge, lc_lt, lc_gt, lc_eq]
  · refine ⟨bdH h, bdR hr, -1, 0, fun Q => ?_, fun Q => ?_, .inr ⟨rfl, rfl, rfl, rfl⟩⟩
    · have ci : ∀ Q, Sp fz1 (d + 8) 52 [(3, 258)] h Q = Q 0 h := fun Q => by rw [c52 (d := d + 2) D.1.2.1 D.2.2.1]; exact congrArg (fun x => Q x h) (if_neg w)
      have pp : ∀ Q, Sp fz1 (d + 8) 28 [(3, 129), (0, 0)] h Q = Q 0 (bdH h) := fun Q => p28f (by omega)
      simp (implicitDefEqProofs := false) (disch := omega) only [sp51, b51_0, b51_1, b51_2, b51_3, b51_4, q51_1, q51_2, q51_3, q51_4, x_aload0, y_call28, y_call52, y_call53, y_call54, x_gc_2051, x_gf_2059, x_goto_2, x_goto_4, x_iconst, x_ifCond_eq_1, x_ifCond_lt_3, x_iload1, x_iload2, x_ireturn, x_istore2, klp_0, klp_1, klp_2, klp_3, klp_9, KC_0, KC_1, KC_2, KC_3, KC_4, ne_eq, not_false_eq_true, not_true_eq_false, true_and, and_true, and_self, implies_true, eq_self, true_imp_iff, false_implies, Int.reduceEq, Int.reduceNe, Int.reduceMod, Int.reduceMul, Int.reduceAdd, Int.reduceSub, Int.reduceLT, Int.reduceLE, Nat.reduceAdd, Nat.reduceLeDiff, Nat.reduceLT, Nat.reduceSub, reduceIte, wds_n, wds_0, wds_1, wds_2, wds_3, or_true, true_or, or_false, false_or, or_self, false_and, and_false, d_pos, d_s1, d_s2, d_s3, d_s4, d_s5, d_s6, d_s7, d_s8, Classical.not_not, z258_0, TC_0 hT, TC_k hT, ci, pp, hp, d_s9, d_s10, d_s11, d_s12, d_s13, d_s14, d_s15, d_s16, d_s17, d_s18, d_s19, d_s20, d_s21, d_s22, d_s23, d_s24, d_s25, d_s26, d_s27, d_s28, d_s29, d_s30, hs_ne, hcell, hcel1, le_sub1, le_T, le_F, lt_T, lt_F, eq_F, w32_T, bz0, bz1, lc_le, lc_ge, lc_lt, lc_gt, lc_eq]
    · have ri : ∀ Q, Sp fz1 (e + 6) 329 [(3, 6603)] hr Q = Q 0 hr := fun Q => by rw [v329 D.1.2.2 D.1.1 D.2.2.2]; exact congrArg (fun x => Q x hr) (if_neg w)
      simp (implicitDefEqProofs := false) (disch := omega) only [sp328, b328_0, b328_1, b328_2, q328_1, q328_2, x_aload0, y_call321, y_call325, y_call329, y_call330, y_call331, y_call332, x_dup203, x_dup21, x_gc_12291, x_gc_12299, x_gf_11339, x_goto_1, x_iadd, x_iaload, x_iastore, x_iconst, x_ifCond_eq_1, x_if_icmp_eq_1, x_if_icmp_eq_2, x_iload1, x_iload2, x_imul, x_ireturn, x_isub, x_lastore, klp_0, klp_1, klp_2, klp_3, klp_9, KC_0, KC_1, KC_2, KC_3, KC_4, ne_eq, not_false_eq_true, not_true_eq_false, true_and, and_true, and_self, implies_true, eq_self, true_imp_iff, false_implies, Int.reduceEq, Int.reduceNe, Int.reduceMod, Int.reduceMul, Int.reduceAdd, Int.reduceSub, Int.reduceLT, Int.reduceLE, Nat.reduceAdd, Nat.reduceLeDiff, Nat.reduceLT, Nat.reduceSub, reduceIte, wds_n, wds_0, wds_1, wds_2, wds_3, or_true, true_or, or_false, false_or, or_self, false_and, and_false, d_pos, d_s1, d_s2, d_s3, d_s4, d_s5, d_s6, d_s7, d_s8, Classical.not_not, r0 hS, r0l hS, r0k hS, r1 hS, r1l hS, r1k hS, TR_0 hS, TR_k hS, q1, ri, v332g fz7, d_s9, d_s10, d_s11, d_s12, d_s13, d_s14, d_s15, d_s16, d_s17, d_s18, d_s19, d_s20, d_s21, d_s22, d_s23, d_s24, d_s25, d_s26, d_s27, d_s28, d_s29, d_s30, hs_ne, hcell, hcel1, le_sub1, le_T, le_F, lt_T, lt_F, eq_F, w32_T, bz0, bz1, lc_le, lc_ge, lc_lt, lc_gt, lc_eq]
/-- a new name, behind a fault -/
theorem BXC.nn {q : Int} (B : BXC T f h) : Sp fz1 (d + 7) 51 [(3, 258), (0, q)] h Q = Q (-1) h := by
  have b2 := B.2.1.2.2
  have b3 : 0 ≤ h 129 3 := by have := B.2.1; omega
  have hT := B.1.1
  have hp := B.1.2
  have ci : ∀ Q, Sp fz1 (d + 6) 52 [(3, 258)] h Q = Q 0 h := fun Q => c52b b2
  have pp : ∀ Q, Sp fz1 (d + 6) 28 [(3, 129), (0, 0)] h Q = Q 0 h := fun Q => p28b b3 b2
  simp (implicitDefEqProofs := false) (disch := omega) only [sp51, b51_0, b51_1, b51_2, b51_3, b51_4, q51_1, q51_2, q51_3, q51_4, x_aload0, y_call28, y_call52, y_call53, y_call54, x_gc_2051, x_gf_2059, x_goto_2, x_goto_4, x_iconst, x_ifCond_eq_1, x_ifCond_lt_3, x_iload1, x_iload2, x_ireturn, x_istore2, klp_0, klp_1, klp_2, klp_3, klp_9, KC_0, KC_1, KC_2, KC_3, KC_4, ne_eq, not_false_eq_true, not_true_eq_false, true_and, and_true, and_self, implies_true, eq_self, true_imp_iff, false_implies, Int.reduceEq, Int.reduceNe, Int.reduceMod, Int.reduceMul, Int.reduceAdd, Int.reduceSub, Int.reduceLT, Int.reduceLE, Nat.reduceAdd, Nat.reduceLeDiff, Nat.reduceLT, Nat.reduceSub, reduceIte, wds_n, wds_0, wds_1, wds_2, wds_3, or_true, true_or, or_false, false_or, or_self, false_and, and_false, d_pos, d_s1, d_s2, d_s3, d_s4, d_s5, d_s6, d_s7, d_s8, Classical.not_not, z258_0, TC_0 hT, TC_k hT, ci, pp, hp, d_s9, d_s10, d_s11, d_s12, d_s13, d_s14, d_s15, d_s16, d_s17, d_s18, d_s19, d_s20, d_s21, d_s22, d_s23, d_s24, d_s25, d_s26, d_s27, d_s28, d_s29, d_s30, hs_ne, hcell, hcel1, le_sub1, le_T, le_F, lt_T, lt_F, eq_F, w32_T, bz0, bz1, lc_le, lc_ge, lc_lt, lc_gt, lc_eq]
end SM
