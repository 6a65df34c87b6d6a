/-! THE PURE SIDE, 184: items on both sides: subjects; names told already: printed by wip/tools/gen8zb.py -/
section SM
variable {bX : Int} {tp : Int → Int} {t T S s s1 s2 f : Int} {h hr g gr k kr m mr : HV} {Q : Int → HV → Prop} {d : Nat}
/-- subject -/
theorem it_subject {hr0 : HV} {e e2 : Nat} (I : IT tp t T S s h hr) (iw : ∀ Q, Sp fz1 (e2 + 9) 327 [(3, 6603), (3, NV_1971)] hr0 Q = Q 1 hr0) (f0 : ∀ Q, Sp fz1 (e2 + 9) 321 [(3, 6603)] hr0 Q = Q 0 hr) : ∃ g gr, (∀ Q, Sp fz1 (e + 10) 50 [(3, 258)] h Q = Q 0 g) ∧ (∀ Q, Sp fz1 (e2 + 10) 326 [(3, 6603)] hr0 Q = Q 0 gr) ∧ FIC T h g ∧ FIR S hr gr ∧ ((∃ s1, s + 1 ≤ s1 ∧ IT tp t T S s1 g gr) ∨ BXI T S g gr) := by
  have I0 := I
  obtain ⟨D, IB, C, X, RN, RL⟩ := I
  have hT := D.2.1.1.1
  have hS := D.2.1.2.1
  have kT := kTC hT
  have kS := kTR hS
  have N := IB.1
  unfold NBI at N
  have mq : MST 0 = 12 := by decide
  have Cq := C.1 0 (by decide) (by decide)
  have C6 := C.1 6 (by decide) (by decide)
  have m6 := MST_12 (q := 6)
  have S0 := D.sb
  obtain ⟨g1, rr1, x, y, cc1, f1, W⟩ := nn_pair (M := 12) (q := 0) D C (by decide) mq.symm e (e2 + 2)
  have e51 : ∀ Q, Sp fz1 (e + 9) 51 [(3, 258), (0, 0)] h Q = Q x g1 := cc1
  have f1 : ∀ Q, Sp fz1 (e2 + 9) 328 [(3, 6603), (0, 0), (0, 12)] hr Q = Q y rr1 := f1
  have Fn : FIC T h (nmH T h 0 (wdT tp t s)) := by
    unfold nmH
    exact (FIC.st (by omega) hT).trans (FIC.st (by omega) hT)
  have Fr : FIR S hr (nmR S hr 0 (wdT tp t s)) := by
    unfold nmR
    exact (FIR.st (by omega) hS).trans (FIR.st (by omega) hS)
  rcases W with ⟨ex, exy, xm, s1, q1, D1, a1, b1⟩ | ⟨ex, ey, ge, re⟩
  · subst exy
    have CN := C.nm (w := wdT tp t s) (q := 0) hT hS (by decide) (by omega)
    have n2 : ∀ p, p ≠ 0 → nmH T h 0 (wdT tp t s) (T + 598) p = h (T + 598) p := fun p u => by unfold nmH; rw [hcell u, hs_ne (by omega)]
    have n3 : ∀ o, o ≠ T + 598 → o ≠ T + 151 → nmH T h 0 (wdT tp t s) o = h o := fun o u v => by unfold nmH; rw [hs_ne u, hs_ne (by omega)]
    have m1 : ∀ p, p ≠ 0 → nmR S hr 0 (wdT tp t s) (S + 84) p = hr (S + 84) p := fun p u => by unfold nmR; rw [hcell u, hs_ne (by omega)]
    have m3 : ∀ o, o ≠ S + 84 → o ≠ S + 149 → nmR S hr 0 (wdT tp t s) o = hr o := fun o u v => by unfold nmR; rw [hs_ne u, hs_ne v]
    generalize nmH T h 0 (wdT tp t s) = hn at *
    generalize nmR S hr 0 (wdT tp t s) = rn at *
    obtain ⟨g3, rr3, cc3, f3, W⟩ := D1.sign (c := 59) (by decide) e (e2 + 6)
    have e58 : ∀ Q, Sp fz1 (e + 9) 58 [(3, 258), (0, 59)] g1 Q = Q 0 g3 := cc3
    have f3 : ∀ Q, Sp fz1 (e2 + 9) 333 [(3, 6603), (0, 59)] rr1 Q = Q 0 rr3 := f3
    rcases W with ⟨-, s3, q3, D4, a3, b3⟩ | ⟨-, ge, re⟩
    · have cF : ∀ o, o ≠ 129 → g3 o = hn o := fun o u => by rw [a3 o u, a1 o u]
      have dF : ∀ o, o ≠ 6603 → rr3 o = rn o := fun o u => by rw [b3.1 o u, b1.1 o u]
      have d3 : ∀ i, i ≠ 2 → i ≠ 3 → i ≠ 4 → i ≠ 5 → i ≠ 6 → rr3 6603 i = hr 6603 i := fun i u1 u2 u3 u4 u5 => by rw [b3.2 i u1 u2 u3 u4 u5, b1.2 i u1 u2 u3 u4 u5, m3 6603 (by omega) (by omega)]
      have Z := I0.fr (s1 := s3) (g := g3) (gr := rr3) (by omega) hT hS (by rw [cF 258 (by decide), n3 258 (by omega) (by omega)]) (fun i _ => by rw [cF T (by omega), n3 T (by omega) (by omega)]) (fun o u w => by rw [cF o u, n3 o (by omega) (by omega)]) (by rw [cF (T + 598) (by omega), n2 6 (by decide)]) d3 (by rw [dF (S + 84) (by omega), m1 6 (by decide)]) (fun o u w => by rw [dF o u, m3 o (by omega) (by omega)])
      refine ⟨g3, rr3, fun Q => ?_, fun Q => ?_, Fn.trans (a1.i.trans a3.i), Fr.trans (b1.i.trans b3.i), .inl ⟨s3, by omega, D4, Z.1, CN.fr (cF _ (by omega)) (fun p _ _ => cF _ (by omega)) (dF _ (by omega)) (dF _ (by omega)), X.fr (fun k k1 k5 => by rw [cF (T + 598) (by omega), n2 k (by omega)]) (by rw [cF T (by omega), n3 T (by omega) (by omega)]) (fun o u w => by rw [cF o (by omega), n3 o (by omega) (by omega)]) (fun o u w => by rw [dF o (by omega), m3 o (by omega) (by omega)]), Z.2⟩⟩
      · simp (implicitDefEqProofs := false) (disch := omega) only [sp50, b50_0, x_aload0, y_call51, y_call58, x_iconst, x_pop0, x_pop3, x_return, klp_0, klp_1, klp_2, klp_3, klp_9, KC_0, KC_1, KC_2, KC_3, KC_4, ne_eq, not_false_eq_true, not_true_eq_false, true_and, and_true, and_self, implies_true, eq_self, true_imp_iff, false_implies, Int.reduceEq, Int.reduceNe, Int.reduceMod, Int.reduceMul, Int.reduceAdd, Int.reduceSub, Int.reduceLT, Int.reduceLE, Nat.reduceAdd, Nat.reduceLeDiff, Nat.reduceLT, Nat.reduceSub, reduceIte, wds_n, wds_0, wds_1, wds_2, wds_3, or_true, true_or, or_false, false_or, or_self, false_and, and_false, d_pos, d_s1, d_s2, d_s3, d_s4, d_s5, d_s6, d_s7, d_s8, Classical.not_not, e51, e58, d_s9, d_s10, d_s11, d_s12, d_s13, d_s14, d_s15, d_s16, d_s17, d_s18, d_s19, d_s20, d_s21, d_s22, d_s23, d_s24, d_s25, d_s26, d_s27, d_s28, d_s29, d_s30, hs_ne, hcell, hcel1, le_sub1, le_T, le_F, lt_T, lt_F, eq_F, w32_T, bz0, bz1, lc_le, lc_ge, lc_lt, lc_gt, lc_eq]
      · simp (implicitDefEqProofs := false) (disch := omega) only [sp326, n326_0, b326_8, q326_8, x_aload0, y_call321, y_call327, y_call328, y_call333, x_goto_8, x_iconst, x_ifCond_eq_1, x_jsr, x_pop0, x_pop3, x_return, klp_0, klp_1, klp_2, klp_3, klp_9, KC_0, KC_1, KC_2, KC_3, KC_4, ne_eq, not_false_eq_true, not_true_eq_false, true_and, and_true, and_self, implies_true, eq_self, true_imp_iff, false_implies, Int.reduceEq, Int.reduceNe, Int.reduceMod, Int.reduceMul, Int.reduceAdd, Int.reduceSub, Int.reduceLT, Int.reduceLE, Nat.reduceAdd, Nat.reduceLeDiff, Nat.reduceLT, Nat.reduceSub, reduceIte, wds_n, wds_0, wds_1, wds_2, wds_3, or_true, true_or, or_false, false_or, or_self, false_and, and_false, d_pos, d_s1, d_s2, d_s3, d_s4, d_s5, d_s6, d_s7, d_s8, Classical.not_not, iw, f0, f1, f3, d_s9, d_s10, d_s11, d_s12, d_s13, d_s14, d_s15, d_s16, d_s17, d_s18, d_s19, d_s20, d_s21, d_s22, d_s23, d_s24, d_s25, d_s26, d_s27, d_s28, d_s29, d_s30, hs_ne, hcell, hcel1, le_sub1, le_T, le_F, lt_T, lt_F, eq_F, w32_T, bz0, bz1, lc_le, lc_ge, lc_lt, lc_gt, lc_eq]
    · obtain ⟨B1, B2⟩ := D1.bad
      have Fb : FIC T g1 g3 := by rw [ge]; exact FIC.bd
      have Fbr : FIR S rr1 rr3 := by rw [re]; exact FIR.bd
      refine ⟨g3, rr3, fun Q => ?_, fun Q => ?_, Fn.trans (a1.i.trans Fb), Fr.trans (b1.i.trans Fbr), .inr ⟨⟨s1, by rw [ge]; exact B1, by rw [re]; exact B2⟩, ?_⟩⟩
      · simp (implicitDefEqProofs := false) (disch := omega) only [sp50, b50_0, x_aload0, y_call51, y_call58, x_iconst, x_pop0, x_pop3, x_return, klp_0, klp_1, klp_2, klp_3, klp_9, KC_0, KC_1, KC_2, KC_3, KC_4, ne_eq, not_false_eq_true, not_true_eq_false, true_and, and_true, and_self, implies_true, eq_self, true_imp_iff, false_implies, Int.reduceEq, Int.reduceNe, Int.reduceMod, Int.reduceMul, Int.reduceAdd, Int.reduceSub, Int.reduceLT, Int.reduceLE, Nat.reduceAdd, Nat.reduceLeDiff, Nat.reduceLT, Nat.reduceSub, reduceIte, wds_n, wds_0, wds_1, wds_2, wds_3, or_true, true_or, or_false, false_or, or_self, false_and, and_false, d_pos, d_s1, d_s2, d_s3, d_s4, d_s5, d_s6, d_s7, d_s8, Classical.not_not, e51, e58, d_s9, d_s10, d_s11, d_s12, d_s13, d_s14, d_s15, d_s16, d_s17, d_s18, d_s19, d_s20, d_s21, d_s22, d_s23, d_s24, d_s25, d_s26, d_s27, d_s28, d_s29, d_s30, hs_ne, hcell, hcel1, le_sub1, le_T, le_F, lt_T, lt_F, eq_F, w32_T, bz0, bz1, lc_le, lc_ge, lc_lt, lc_gt, lc_eq]
      · simp (implicitDefEqProofs := false) (disch := omega) only [sp326, n326_0, b326_8, q326_8, x_aload0, y_call321, y_call327, y_call328, y_call333, x_goto_8, x_iconst, x_ifCond_eq_1, x_jsr, x_pop0, x_pop3, x_return, klp_0, klp_1, klp_2, klp_3, klp_9, KC_0, KC_1, KC_2, KC_3, KC_4, ne_eq, not_false_eq_true, not_true_eq_false, true_and, and_true, and_self, implies_true, eq_self, true_imp_iff, false_implies, Int.reduceEq, Int.reduceNe, Int.reduceMod, Int.reduceMul, Int.reduceAdd, Int.reduceSub, Int.reduceLT, Int.reduceLE, Nat.reduceAdd, Nat.reduceLeDiff, Nat.reduceLT, Nat.reduceSub, reduceIte, wds_n, wds_0, wds_1, wds_2, wds_3, or_true, true_or, or_false, false_or, or_self, false_and, and_false, d_pos, d_s1, d_s2, d_s3, d_s4, d_s5, d_s6, d_s7, d_s8, Classical.not_not, iw, f0, f1, f3, d_s9, d_s10, d_s11, d_s12, d_s13, d_s14, d_s15, d_s16, d_s17, d_s18, d_s19, d_s20, d_s21, d_s22, d_s23, d_s24, d_s25, d_s26, d_s27, d_s28, d_s29, d_s30, hs_ne, hcell, hcel1, le_sub1, le_T, le_F, lt_T, lt_F, eq_F, w32_T, bz0, bz1, lc_le, lc_ge, lc_lt, lc_gt, lc_eq]
      · have z : ∀ o, o ≠ 129 → g3 o = hn o := fun o u => by rw [ge]; unfold bdH; rw [hs_ne u, hs_ne u, a1 o u]
        rw [z T (by omega), z 258 (by decide), z (T + 598) (by omega), n2 6 (by decide), n3 T (by omega) (by omega), n3 258 (by omega) (by omega)]
        omega
  · obtain ⟨B1, B2⟩ := D.bad
    rw [← ge] at B1
    rw [← re] at B2
    obtain ⟨g3, hg3⟩ : ∃ a, a = g1 := ⟨_, rfl⟩
    have e58 : ∀ Q, Sp fz1 (e + 9) 58 [(3, 258), (0, 59)] g1 Q = Q 0 g3 := fun Q => by rw [hg3]; exact B1.sg (d := e + 8)
    obtain ⟨rr3, hr3⟩ : ∃ a, a = rr1 := ⟨_, rfl⟩
    have f3 : ∀ Q, Sp fz1 (e2 + 9) 333 [(3, 6603), (0, 59)] rr1 Q = Q 0 rr3 := fun Q => by rw [hr3]; exact B2.sg (d := e2 + 8)
    have Fb : FIC T h g3 := by rw [hg3, ge]; exact FIC.bd
    have Fbr : FIR S hr rr3 := by rw [hr3, re]; exact FIR.bd
    refine ⟨g3, rr3, fun Q => ?_, fun Q => ?_, Fb, Fbr, .inr ⟨⟨s, by rw [hg3]; exact B1, by rw [hr3]; exact B2⟩, ?_⟩⟩
    · simp (implicitDefEqProofs := false) (disch := omega) only [sp50, b50_0, x_aload0, y_call51, y_call58, x_iconst, x_pop0, x_pop3, x_return, klp_0, klp_1, klp_2, klp_3, klp_9, KC_0, KC_1, KC_2, KC_3, KC_4, ne_eq, not_false_eq_true, not_true_eq_false, true_and, and_true, and_self, implies_true, eq_self, true_imp_iff, false_implies, Int.reduceEq, Int.reduceNe, Int.reduceMod, Int.reduceMul, Int.reduceAdd, Int.reduceSub, Int.reduceLT, Int.reduceLE, Nat.reduceAdd, Nat.reduceLeDiff, Nat.reduceLT, Nat.reduceSub, reduceIte, wds_n, wds_0, wds_1, wds_2, wds_3, or_true, true_or, or_false, false_or, or_self, false_and, and_false, d_pos, d_s1, d_s2, d_s3, d_s4, d_s5, d_s6, d_s7, d_s8, Classical.not_not, e51, e58, d_s9, d_s10, d_s11, d_s12, d_s13, d_s14, d_s15, d_s16, d_s17, d_s18, d_s19, d_s20, d_s21, d_s22, d_s23, d_s24, d_s25, d_s26, d_s27, d_s28, d_s29, d_s30, hs_ne, hcell, hcel1, le_sub1, le_T, le_F, lt_T, lt_F, eq_F, w32_T, bz0, bz1, lc_le, lc_ge, lc_lt, lc_gt, lc_eq]
    · simp (implicitDefEqProofs := false) (disch := omega) only [sp326, n326_0, b326_8, q326_8, x_aload0, y_call321, y_call327, y_call328, y_call333, x_goto_8, x_iconst, x_ifCond_eq_1, x_jsr, x_pop0, x_pop3, x_return, klp_0, klp_1, klp_2, klp_3, klp_9, KC_0, KC_1, KC_2, KC_3, KC_4, ne_eq, not_false_eq_true, not_true_eq_false, true_and, and_true, and_self, implies_true, eq_self, true_imp_iff, false_implies, Int.reduceEq, Int.reduceNe, Int.reduceMod, Int.reduceMul, Int.reduceAdd, Int.reduceSub, Int.reduceLT, Int.reduceLE, Nat.reduceAdd, Nat.reduceLeDiff, Nat.reduceLT, Nat.reduceSub, reduceIte, wds_n, wds_0, wds_1, wds_2, wds_3, or_true, true_or, or_false, false_or, or_self, false_and, and_false, d_pos, d_s1, d_s2, d_s3, d_s4, d_s5, d_s6, d_s7, d_s8, Classical.not_not, iw, f0, f1, f3, d_s9, d_s10, d_s11, d_s12, d_s13, d_s14, d_s15, d_s16, d_s17, d_s18, d_s19, d_s20, d_s21, d_s22, d_s23, d_s24, d_s25, d_s26, d_s27, d_s28, d_s29, d_s30, hs_ne, hcell, hcel1, le_sub1, le_T, le_F, lt_T, lt_F, eq_F, w32_T, bz0, bz1, lc_le, lc_ge, lc_lt, lc_gt, lc_eq]
    · have z : ∀ o, o ≠ 129 → g3 o = h o := fun o u => by rw [hg3, ge]; unfold bdH; rw [hs_ne u, hs_ne u]
      rw [z T (by omega), z 258 (by decide), z (T + 598) (by omega)]
      omega
/-- the number that a name told has, on both sides: class -1 = reference -9 where there is none -/
def tdX (T : Int) (h : HV) (tp : Int → Int) (t s q : Int) : Int := if tkK tp t s = 1 ∧ ¬ wdT tp t s ∈ wRES then fnx (h (T + 151 + 64 * q)) (wdT tp t s) (-1) (h (T + 598) q).toNat 0 else -1
theorem td_pair {q : Int} (D : TKX tp t T S s h hr) (C : CNX T S h hr) (hq : 0 ≤ q ∧ q < 7) (d e : Nat) : (∀ Q, Sp fz1 (d + 9) 65 [(3, 258), (0, q)] h Q = Q (tdX T h tp t s q) h) ∧ ((nmP tp t s ∧ (∀ Q, Sp fz1 (e + 6) 329 [(3, 6603)] hr Q = Q 1 hr) ∧ (∀ Q, Sp fz1 (e + 6) 330 [(3, 6603)] hr Q = Q (wdT tp t s) hr) ∧ ∃ y, (∀ Q, Sp fz1 (e + 6) 331 [(3, 6603), (0, q), (1, wdT tp t s)] hr Q = Q y hr) ∧ ((tdX T h tp t s q = -1 ∧ y = -9) ∨ (y = tdX T h tp t s q ∧ 0 ≤ y ∧ y < h (T + 598) q))) ∨ (¬ nmP tp t s ∧ (∀ Q, Sp fz1 (e + 6) 329 [(3, 6603)] hr Q = Q 0 hr) ∧ tdX T h tp t s q = -1)) := by
  have hT := D.2.1.1.1
  have hp := D.2.1.1.2
  have hS := D.2.1.2.1
  have h9 := D.2.1.2.2
  have kT := kTC hT
  have kS := kTR hS
  obtain ⟨C1, C2⟩ := C
  obtain ⟨p1, p2, p3⟩ := C1 q hq.1 hq.2
  have m12 := MST_12 (q := q)
  have hv : 0 ≤ h (T + 598) q ∧ h (T + 598) q ≤ 12 := by omega
  by_cases w : nmP tp t s
  · have ev : tdX T h tp t s q = fnx (h (T + 151 + 64 * q)) (wdT tp t s) (-1) (h (T + 598) q).toNat 0 := if_pos w
    have ci : ∀ Q, Sp fz1 (d + 8) 52 [(3, 258)] h Q = Q 1 h := fun Q => by rw [c52 (d := d + 2) D.1.2.1 D.2.2.1]; exact congrArg (fun x => Q x h) (if_pos w)
    have cw : ∀ Q, Sp fz1 (d + 8) 53 [(3, 129)] h Q = Q (wdT tp t s) h := fun Q => by rw [q53, D.1.2.1.2.1 w.1]
    have cf : ∀ Q, Sp fz1 (d + 8) 57 [(3, T), (0, q), (1, wdT tp t s)] h Q = Q (tdX T h tp t s q) h := fun Q => by rw [ev]; exact c57 (d := d + 7) hT hq hv
    have ri : ∀ Q, Sp fz1 (e + 6) 329 [(3, 6603)] hr Q = Q 1 hr := fun Q => by rw [v329 D.1.2.2 D.1.1 D.2.2.2]; exact congrArg (fun x => Q x hr) (if_pos w)
    have fe := fnx_2 (f1 := h (T + 151 + 64 * q)) (f2 := fun i => hr (S + 149) (16 * q + i)) (w := wdT tp t s) (h (T + 598) q).toNat 0 (Int.le_refl _) (fun i a b => C2 q i hq.1 hq.2 a (by omega))
    refine ⟨fun Q => ?_, .inl ⟨w, ri, fun Q => v330 D.1.2.2 D.1.1, _, fun Q => by rw [v331 hS h9 hq (by omega), p1], ?_⟩⟩
    · simp (implicitDefEqProofs := false) (disch := omega) only [sp65, b65_0, b65_1, b65_2, q65_1, q65_2, x_aload0, y_call52, y_call53, y_call57, x_gc_2051, x_gf_2059, x_goto_2, x_iconst, x_ifCond_eq_1, x_iload1, x_ireturn, klp_0, klp_1, klp_2, klp_3, klp_9, KC_0, KC_1, KC_2, KC_3, KC_4, ne_eq, not_false_eq_true, not_true_eq_false, true_and, and_true, and_self, implies_true, eq_self, true_imp_iff, false_implies, Int.reduceEq, Int.reduceNe, Int.reduceMod, Int.reduceMul, Int.reduceAdd, Int.reduceSub, Int.reduceLT, Int.reduceLE, Nat.reduceAdd, Nat.reduceLeDiff, Nat.reduceLT, Nat.reduceSub, reduceIte, wds_n, wds_0, wds_1, wds_2, wds_3, or_true, true_or, or_false, false_or, or_self, false_and, and_false, d_pos, d_s1, d_s2, d_s3, d_s4, d_s5, d_s6, d_s7, d_s8, Classical.not_not, z258_0, TC_0 hT, TC_k hT, ci, cw, cf, hp, d_s9, d_s10, d_s11, d_s12, d_s13, d_s14, d_s15, d_s16, d_s17, d_s18, d_s19, d_s20, d_s21, d_s22, d_s23, d_s24, d_s25, d_s26, d_s27, d_s28, d_s29, d_s30, hs_ne, hcell, hcel1, le_sub1, le_T, le_F, lt_T, lt_F, eq_F, w32_T, bz0, bz1, lc_le, lc_ge, lc_lt, lc_gt, lc_eq]
    · rw [ev]
      rcases fe with z | z
      · exact .inl z
      · exact .inr ⟨z.1.symm, by omega, by omega⟩
  · have ev : tdX T h tp t s q = -1 := if_neg w
    have ci : ∀ Q, Sp fz1 (d + 8) 52 [(3, 258)] h Q = Q 0 h := fun Q => by rw [c52 (d := d + 2) D.1.2.1 D.2.2.1]; exact congrArg (fun x => Q x h) (if_neg w)
    refine ⟨fun Q => ?_, .inr ⟨w, fun Q => by rw [v329 D.1.2.2 D.1.1 D.2.2.2]; exact congrArg (fun x => Q x hr) (if_neg w), ev⟩⟩
    rw [ev]
    simp (implicitDefEqProofs := false) (disch := omega) only [sp65, b65_0, b65_1, b65_2, q65_1, q65_2, x_aload0, y_call52, y_call53, y_call57, x_gc_2051, x_gf_2059, x_goto_2, x_iconst, x_ifCond_eq_1, x_iload1, x_ireturn, klp_0, klp_1, klp_2, klp_3, klp_9, KC_0, KC_1, KC_2, KC_3, KC_4, ne_eq, not_false_eq_true, not_true_eq_false, true_and, and_true, and_self, implies_true, eq_self, true_imp_iff, false_implies, Int.reduceEq, Int.reduceNe, Int.reduceMod, Int.reduceMul, Int.reduceAdd, Int.reduceSub, Int.reduceLT, Int.reduceLE, Nat.reduceAdd, Nat.reduceLeDiff, Nat.reduceLT, Nat.reduceSub, reduceIte, wds_n, wds_0, wds_1, wds_2, wds_3, or_true, true_or, or_false, false_or, or_self, false_and, and_false, d_pos, d_s1, d_s2, d_s3, d_s4, d_s5, d_s6, d_s7, d_s8, Classical.not_not, z258_0, TC_0 hT, TC_k hT, ci, hp, d_s9, d_s10, d_s11, d_s12, d_s13, d_s14, d_s15, d_s16, d_s17, d_s18, d_s19, d_s20, d_s21, d_s22, d_s23, d_s24, d_s25, d_s26, d_s27, d_s28, d_s29, d_s30, hs_ne, hcell, hcel1, le_sub1, le_T, le_F, lt_T, lt_F, eq_F, w32_T, bz0, bz1, lc_le, lc_ge, lc_lt, lc_gt, lc_eq]
/-- a name that must be told -/
theorem old_pair {q : Int} (D : TKX tp t T S s h hr) (C : CNX T S h hr) (hq : 0 ≤ q ∧ q < 7) (d e : Nat) : ∃ x g gr y, (∀ Q, Sp fz1 (d + 9) 65 [(3, 258), (0, q)] h Q = Q x h) ∧ (∀ Q, Sp fz1 (e + 7) 338 [(3, 6603), (0, q)] hr Q = Q y gr) ∧ ((y = x ∧ 0 ≤ x ∧ x < h (T + 598) q ∧ (∀ Q, Sp fz1 (d + 9) 28 [(3, 129), (0, 1)] h Q = Q 0 g) ∧ ∃ s1, s + 1 ≤ s1 ∧ TKX tp t T S s1 g gr ∧ SAC h g ∧ SAR hr gr) ∨ (x = -1 ∧ y = 0 ∧ (∀ Q, Sp fz1 (d + 9) 28 [(3, 129), (0, 0)] h Q = Q 0 g) ∧ g = bdH h ∧ gr = bdR hr)) := by
  have F := D.fz
  have fz7 : hr 6603 7 < 0 := by omega
  have q1 : ∀ Q, Sp fz1 (e + 6) 325 [(3, 6603)] hr Q = Q 1 hr := fun Q => D.g325
  have p0 : ∀ Q, Sp fz1 (d + 9) 28 [(3, 129), (0, 0)] h Q = Q 0 (bdH h) := fun Q => p28f (by omega)
  obtain ⟨a1, W⟩ := td_pair D C hq d e
  rcases W with ⟨w, ri, wt, y, tl, W⟩ | ⟨w, ri, ev⟩
  · rcases W with ⟨ev, ey⟩ | ⟨ey, y0, y1⟩
    · rw [ev] at a1
      refine ⟨-1, bdH h, bdR hr, 0, a1, fun Q => ?_, .inr ⟨rfl, rfl, p0, rfl, rfl⟩⟩
      have z3 := ey
      subst ey
      simp (implicitDefEqProofs := false) (disch := omega) only [sp338, b338_0, b338_1, b338_2, b338_3, q338_1, q338_2, q338_3, x_aload0, y_call321, y_call325, y_call329, y_call330, y_call331, y_call332, x_goto_2, x_iconst, x_ifCond_eq_1, x_if_icmp_ne_3, x_iload1, x_iload2, x_ireturn, x_istore2, klp_0, klp_1, klp_2, klp_3, klp_9, KC_0, KC_1, KC_2, KC_3, KC_4, ne_eq, not_false_eq_true, not_true_eq_false, true_and, and_true, and_self, implies_true, eq_self, true_imp_iff, false_implies, Int.reduceEq, Int.reduceNe, Int.reduceMod, Int.reduceMul, Int.reduceAdd, Int.reduceSub, Int.reduceLT, Int.reduceLE, Nat.reduceAdd, Nat.reduceLeDiff, Nat.reduceLT, Nat.reduceSub, reduceIte, wds_n, wds_0, wds_1, wds_2, wds_3, or_true, true_or, or_false, false_or, or_self, false_and, and_false, d_pos, d_s1, d_s2, d_s3, d_s4, d_s5, d_s6, d_s7, d_s8, Classical.not_not, q1, ri, wt, tl, z3, v332g fz7, d_s9, d_s10, d_s11, d_s12, d_s13, d_s14, d_s15, d_s16, d_s17, d_s18, d_s19, d_s20, d_s21, d_s22, d_s23, d_s24, d_s25, d_s26, d_s27, d_s28, d_s29, d_s30, hs_ne, hcell, hcel1, le_sub1, le_T, le_F, lt_T, lt_F, eq_F, w32_T, bz0, bz1, lc_le, lc_ge, lc_lt, lc_gt, lc_eq]
    · obtain ⟨g, gr, X1, X2, -, -, X3, X4, e1, f1⟩ := D.nx (d + 1) (e + 4)
      have ts := D.ts (by have := w.1; omega)
      rw [← ey] at a1
      refine ⟨y, g, gr, y, a1, fun Q => ?_, .inl ⟨rfl, y0, y1, e1, _, X2 ts, X1, X3, X4⟩⟩
      have z3 : ¬ y = -9 := by omega
      simp (implicitDefEqProofs := false) (disch := omega) only [sp338, b338_0, b338_1, b338_2, b338_3, q338_1, q338_2, q338_3, x_aload0, y_call321, y_call325, y_call329, y_call330, y_call331, y_call332, x_goto_2, x_iconst, x_ifCond_eq_1, x_if_icmp_ne_3, x_iload1, x_iload2, x_ireturn, x_istore2, klp_0, klp_1, klp_2, klp_3, klp_9, KC_0, KC_1, KC_2, KC_3, KC_4, ne_eq, not_false_eq_true, not_true_eq_false, true_and, and_true, and_self, implies_true, eq_self, true_imp_iff, false_implies, Int.reduceEq, Int.reduceNe, Int.reduceMod, Int.reduceMul, Int.reduceAdd, Int.reduceSub, Int.reduceLT, Int.reduceLE, Nat.reduceAdd, Nat.reduceLeDiff, Nat.reduceLT, Nat.reduceSub, reduceIte, wds_n, wds_0, wds_1, wds_2, wds_3, or_true, true_or, or_false, false_or, or_self, false_and, and_false, d_pos, d_s1, d_s2, d_s3, d_s4, d_s5, d_s6, d_s7, d_s8, Classical.not_not, q1, ri, wt, tl, z3, f1, d_s9, d_s10, d_s11, d_s12, d_s13, d_s14, d_s15, d_s16, d_s17, d_s18, d_s19, d_s20, d_s21, d_s22, d_s23, d_s24, d_s25, d_s26, d_s27, d_s28, d_s29, d_s30, hs_ne, hcell, hcel1, le_sub1, le_T, le_F, lt_T, lt_F, eq_F, w32_T, bz0, bz1, lc_le, lc_ge, lc_lt, lc_gt, lc_eq]
  · rw [ev] at a1
    refine ⟨-1, bdH h, bdR hr, 0, a1, fun Q => ?_, .inr ⟨rfl, rfl, p0, rfl, rfl⟩⟩
    have wt : True := trivial
    have tl : True := trivial
    have z3 : True := trivial
    simp (implicitDefEqProofs := false) (disch := omega) only [sp338, b338_0, b338_1, b338_2, b338_3, q338_1, q338_2, q338_3, x_aload0, y_call321, y_call325, y_call329, y_call330, y_call331, y_call332, x_goto_2, x_iconst, x_ifCond_eq_1, x_if_icmp_ne_3, x_iload1, x_iload2, x_ireturn, x_istore2, klp_0, klp_1, klp_2, klp_3, klp_9, KC_0, KC_1, KC_2, KC_3, KC_4, ne_eq, not_false_eq_true, not_true_eq_false, true_and, and_true, and_self, implies_true, eq_self, true_imp_iff, false_implies, Int.reduceEq, Int.reduceNe, Int.reduceMod, Int.reduceMul, Int.reduceAdd, Int.reduceSub, Int.reduceLT, Int.reduceLE, Nat.reduceAdd, Nat.reduceLeDiff, Nat.reduceLT, Nat.reduceSub, reduceIte, wds_n, wds_0, wds_1, wds_2, wds_3, or_true, true_or, or_false, false_or, or_self, false_and, and_false, d_pos, d_s1, d_s2, d_s3, d_s4, d_s5, d_s6, d_s7, d_s8, Classical.not_not, q1, ri, wt, tl, z3, v332g fz7, d_s9, d_s10, d_s11, d_s12, d_s13, d_s14, d_s15, d_s16, d_s17, d_s18, d_s19, d_s20, d_s21, d_s22, d_s23, d_s24, d_s25, d_s26, d_s27, d_s28, d_s29, d_s30, hs_ne, hcell, hcel1, le_sub1, le_T, le_F, lt_T, lt_F, eq_F, w32_T, bz0, bz1, lc_le, lc_ge, lc_lt, lc_gt, lc_eq]
theorem BXC.td {q : Int} (B : BXC T f h) : Sp fz1 (d + 7) 65 [(3, 258), (0, q)] h Q = Q (-1) h := by
  have hT := B.1.1
  have hp := B.1.2
  have ci : ∀ Q, Sp fz1 (d + 6) 52 [(3, 258)] h Q = Q 0 h := fun Q => c52b B.2.1.2.2
  simp (implicitDefEqProofs := false) (disch := omega) only [sp65, b65_0, b65_1, b65_2, q65_1, q65_2, x_aload0, y_call52, y_call53, y_call57, x_gc_2051, x_gf_2059, x_goto_2, x_iconst, x_ifCond_eq_1, x_iload1, x_ireturn, klp_0, klp_1, klp_2, klp_3, klp_9, KC_0, KC_1, KC_2, KC_3, KC_4, ne_eq, not_false_eq_true, not_true_eq_false, true_and, and_true, and_self, implies_true, eq_self, true_imp_iff, false_implies, Int.reduceEq, Int.reduceNe, Int.reduceMod, Int.reduceMul, Int.reduceAdd, Int.reduceSub, Int.reduceLT, Int.reduceLE, Nat.reduceAdd, Nat.reduceLeDiff, Nat.reduceLT, Nat.reduceSub, reduceIte, wds_n, wds_0, wds_1, wds_2, wds_3, or_true, true_or, or_false, false_or, or_self, false_and, and_false, d_pos, d_s1, d_s2, d_s3, d_s4, d_s5, d_s6, d_s7, d_s8, Classical.not_not, z258_0, TC_0 hT, TC_k hT, ci, hp, d_s9, d_s10, d_s11, d_s12, d_s13, d_s14, d_s15, d_s16, d_s17, d_s18, d_s19, d_s20, d_s21, d_s22, d_s23, d_s24, d_s25, d_s26, d_s27, d_s28, d_s29, d_s30, hs_ne, hcell, hcel1, le_sub1, le_T, le_F, lt_T, lt_F, eq_F, w32_T, bz0, bz1, lc_le, lc_ge, lc_lt, lc_gt, lc_eq]
theorem BXC.p28 {a : Int} (B : BXC T f h) : Sp fz1 d 28 [(3, 129), (0, a)] h Q = Q 0 h := p28b (by have := B.2.1; omega) B.2.1.2.2
theorem BXR.old {q : Int} (B : BXR S f hr) : Sp fz1 (d + 1) 338 [(3, 6603), (0, q)] hr Q = Q 0 hr := by
  have fz7 : 0 ≤ hr 6603 7 := by have := B.2.1; omega
  have q1 : ∀ Q, Sp fz1 d 325 [(3, 6603)] hr Q = Q 0 hr := fun Q => B.g325
  simp (implicitDefEqProofs := false) (disch := omega) only [sp338, b338_0, b338_1, b338_2, b338_3, q338_1, q338_2, q338_3, x_aload0, y_call321, y_call325, y_call329, y_call330, y_call331, y_call332, x_goto_2, x_iconst, x_ifCond_eq_1, x_if_icmp_ne_3, x_iload1, x_iload2, x_ireturn, x_istore2, klp_0, klp_1, klp_2, klp_3, klp_9, KC_0, KC_1, KC_2, KC_3, KC_4, ne_eq, not_false_eq_true, not_true_eq_false, true_and, and_true, and_self, implies_true, eq_self, true_imp_iff, false_implies, Int.reduceEq, Int.reduceNe, Int.reduceMod, Int.reduceMul, Int.reduceAdd, Int.reduceSub, Int.reduceLT, Int.reduceLE, Nat.reduceAdd, Nat.reduceLeDiff, Nat.reduceLT, Nat.reduceSub, reduceIte, wds_n, wds_0, wds_1, wds_2, wds_3, or_true, true_or, or_false, false_or, or_self, false_and, and_false, d_pos, d_s1, d_s2, d_s3, d_s4, d_s5, d_s6, d_s7, d_s8, Classical.not_not, q1, v332b fz7, d_s9, d_s10, d_s11, d_s12, d_s13, d_s14, d_s15, d_s16, d_s17, d_s18, d_s19, d_s20, d_s21, d_s22, d_s23, d_s24, d_s25, d_s26, d_s27, d_s28, d_s29, d_s30, hs_ne, hcell, hcel1, le_sub1, le_T, le_F, lt_T, lt_F, eq_F, w32_T, bz0, bz1, lc_le, lc_ge, lc_lt, lc_gt, lc_eq]
end SM
