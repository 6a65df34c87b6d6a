/-! THE PURE SIDE, 195: items whole: printed by wip/tools/gen8zm.py -/
section SM
variable {bX : Int} {tp : Int → Int} {t T S s s1 s2 f fu : Int} {h hr g gr k kr m mr : HV} {Q : Int → HV → Prop} {d : Nat}
theorem IT.nx (I : IT tp t T S s h hr) (hs : s ≤ s1) (D : TKX tp t T S s1 g gr) (A : SAC h g) (B : SAR hr gr) : IT tp t T S s1 g gr := by
  have I0 := I
  obtain ⟨D0, IB, C, X, RN, RL⟩ := I
  have hT := D.2.1.1.1
  have hS := D.2.1.2.1
  have kT := kTC hT
  have kS := kTR hS
  have Z := I0.fr (s1 := s1) (g := g) (gr := gr) hs hT hS (A _ (by decide)) (fun i _ => by rw [A T (by omega)]) (fun o u _ => A o u) (by rw [A _ (by omega)]) B.2 (by rw [B.1 _ (by omega)]) (fun o u _ => B.1 o u)
  exact ⟨D, Z.1, C.fr (A _ (by omega)) (fun q _ _ => A _ (by omega)) (B.1 _ (by omega)) (B.1 _ (by omega)), X.fr (fun q _ _ => by rw [A _ (by omega)]) (by rw [A T (by omega)]) (fun o _ _ => A o (by omega)) (fun o _ _ => B.1 o (by omega)), Z.2⟩
theorem fdI : (tkK tp t s = 1 ∧ ((wdT tp t s = 32498687873999732 ∧ fdW wITEMS tp t s = 0) ∨ (wdT tp t s = 1919905645 ∧ fdW wITEMS tp t s = 1) ∨ (wdT tp t s = 495873779302 ∧ fdW wITEMS tp t s = 2) ∨ (wdT tp t s = 444301538672 ∧ fdW wITEMS tp t s = 3) ∨ (wdT tp t s = 119182984441710 ∧ fdW wITEMS tp t s = 4) ∨ (wdT tp t s = 109330362954597 ∧ fdW wITEMS tp t s = 5) ∨ (wdT tp t s = 1920298085 ∧ fdW wITEMS tp t s = 6))) ∨ (fdW wITEMS tp t s = -1 ∧ ¬ (tkK tp t s = 1 ∧ wdT tp t s = 32498687873999732) ∧ ¬ (tkK tp t s = 1 ∧ wdT tp t s = 1919905645) ∧ ¬ (tkK tp t s = 1 ∧ wdT tp t s = 495873779302) ∧ ¬ (tkK tp t s = 1 ∧ wdT tp t s = 444301538672) ∧ ¬ (tkK tp t s = 1 ∧ wdT tp t s = 119182984441710) ∧ ¬ (tkK tp t s = 1 ∧ wdT tp t s = 109330362954597) ∧ ¬ (tkK tp t s = 1 ∧ wdT tp t s = 1920298085)) := by
  unfold fdW wITEMS
  by_cases k : tkK tp t s = 1
  · rw [if_pos k]
    by_cases a0 : wdT tp t s = 32498687873999732
    · have b0 := a0.symm
      rw [ix, if_pos b0]
      exact .inl ⟨k, .inl ⟨a0, rfl⟩⟩
    · have b0 : ¬ 32498687873999732 = wdT tp t s := fun u => a0 u.symm
      rw [ix, if_neg b0]
      by_cases a1 : wdT tp t s = 1919905645
      · have b1 := a1.symm
        rw [ix, if_pos b1]
        exact .inl ⟨k, .inr (.inl ⟨a1, rfl⟩)⟩
      · have b1 : ¬ 1919905645 = wdT tp t s := fun u => a1 u.symm
        rw [ix, if_neg b1]
        by_cases a2 : wdT tp t s = 495873779302
        · have b2 := a2.symm
          rw [ix, if_pos b2]
          exact .inl ⟨k, .inr (.inr (.inl ⟨a2, rfl⟩))⟩
        · have b2 : ¬ 495873779302 = wdT tp t s := fun u => a2 u.symm
          rw [ix, if_neg b2]
          by_cases a3 : wdT tp t s = 444301538672
          · have b3 := a3.symm
            rw [ix, if_pos b3]
            exact .inl ⟨k, .inr (.inr (.inr (.inl ⟨a3, rfl⟩)))⟩
          · have b3 : ¬ 444301538672 = wdT tp t s := fun u => a3 u.symm
            rw [ix, if_neg b3]
            by_cases a4 : wdT tp t s = 119182984441710
            · have b4 := a4.symm
              rw [ix, if_pos b4]
              exact .inl ⟨k, .inr (.inr (.inr (.inr (.inl ⟨a4, rfl⟩))))⟩
            · have b4 : ¬ 119182984441710 = wdT tp t s := fun u => a4 u.symm
              rw [ix, if_neg b4]
              by_cases a5 : wdT tp t s = 109330362954597
              · have b5 := a5.symm
                rw [ix, if_pos b5]
                exact .inl ⟨k, .inr (.inr (.inr (.inr (.inr (.inl ⟨a5, rfl⟩)))))⟩
              · have b5 : ¬ 109330362954597 = wdT tp t s := fun u => a5 u.symm
                rw [ix, if_neg b5]
                by_cases a6 : wdT tp t s = 1920298085
                · have b6 := a6.symm
                  rw [ix, if_pos b6]
                  exact .inl ⟨k, .inr (.inr (.inr (.inr (.inr (.inr (⟨a6, rfl⟩))))))⟩
                · have b6 : ¬ 1920298085 = wdT tp t s := fun u => a6 u.symm
                  rw [ix, if_neg b6]
                  rw [ix]
                  exact .inr ⟨rfl, fun u => a0 u.2, fun u => a1 u.2, fun u => a2 u.2, fun u => a3 u.2, fun u => a4 u.2, fun u => a5 u.2, fun u => a6 u.2⟩
  · rw [if_neg k]
    exact .inr ⟨rfl, fun u => k u.1, fun u => k u.1, fun u => k u.1, fun u => k u.1, fun u => k u.1, fun u => k u.1, fun u => k u.1⟩
/-- one item on both sides -/
theorem item_one {e e2 : Nat} {n : Int} {lx : AV} (he : 149 ≤ e + 9) (he2 : 149 ≤ e2 + 9) (I : IT tp t T S s h hr) (kz : tkK tp t s ≠ 0) (n0 : 0 ≤ n ∧ n < 2400) : ∃ (x : Int) (g gr : HV), (∀ Q, G fz1 (e + 13) 25 1 [(3, 258), (3, T), (0, n), lx] [] h Q = G fz1 (e + 13) 25 1 [(3, 258), (3, T), (0, n + 1), (0, x)] [] g Q) ∧ (∀ Q, Sp fz1 (e2 + 11) 326 [(3, 6603)] hr Q = Q 0 gr) ∧ FIC T h g ∧ FIR S hr gr ∧ ((∃ s1, s + 1 ≤ s1 ∧ IT tp t T S s1 g gr) ∨ BXI T S g gr) := by
  have D := I.1
  have hT := D.2.1.1.1
  have hS := D.2.1.2.1
  have kT := kTC hT
  have kS := kTR hS
  have S0 := D.sb
  have Fz := D.fz
  have fk : ∀ Q, Sp fz1 (e + 12) 45 [(3, 129), (3, NV_179)] h Q = Q (fdW wITEMS tp t s) h := fun Q => by rw [NV_179_e]; exact c45 (d := e + 7) D.1.2.1 (str_1 D.2.2.1) (by decide) wITEMS_e
  have k4 : h 129 4 = tkK tp t s := D.1.2.1.1.2.2.2.2
  have st : ∀ Q, Sp fz1 (e + 12) 41 [(3, 258)] h Q = Q 1 h := fun Q => D.c41 (d := e + 11)
  have kd : ∀ (d : Nat) Q, Sp fz1 d 43 [(3, 129)] h Q = Q (h 129 4) h := fun d Q => c43
  rcases fdI (tp := tp) (t := t) (s := s) with ⟨k1, ⟨hw, fd⟩ | ⟨hw, fd⟩ | ⟨hw, fd⟩ | ⟨hw, fd⟩ | ⟨hw, fd⟩ | ⟨hw, fd⟩ | ⟨hw, fd⟩⟩ | ⟨fd, w0, w1, w2, w3, w4, w5, w6⟩
  · rw [fd] at fk
    obtain ⟨h1, hr1, X1, X2, -, -, A, B, c1, r1⟩ := D.nx (e + 4) (e2 + 8)
    have X2' := X2 (D.ts (by omega))
    have I1 := I.nx (by omega) X1 A B
    have c1' : ∀ Q, Sp fz1 (e + 12) 28 [(3, 129), (0, 1)] h Q = Q 0 h1 := c1
    have iw0 : ∀ Q, Sp fz1 (e2 + 10) 327 [(3, 6603), (3, NV_1971)] hr Q = Q 1 hr := fun Q => by rw [NV_1971_e, iw_subject (d := e2 + 5) D.1.2.2 D.1.1 D.2.2.2]; exact congrArg (fun x => Q x hr) (if_pos ⟨k1, hw⟩)
    obtain ⟨g, gr, E1, E2, F1, F2, W⟩ := it_subject (e := e + 2) (e2 := e2 + 1) I1 iw0 r1
    have E1' : ∀ Q, Sp fz1 (e + 12) 50 [(3, 258)] h1 Q = Q 0 g := E1
    have E2' : ∀ Q, Sp fz1 (e2 + 11) 326 [(3, 6603)] hr Q = Q 0 gr := E2
    refine ⟨0, g, gr, fun Q => ?_, fun Q => ?_, A.i.trans F1, B.i.trans F2, W.imp (fun ⟨s1, a, b⟩ => ⟨s1, by omega, b⟩) id⟩
    · conv => lhs; rw [q25_1]
      simp (implicitDefEqProofs := false) (disch := omega) only [n25_1, b25_3, b25_4, b25_11, q25_3, q25_4, q25_11, x_aload0, y_call28, y_call41, y_call43, y_call45, y_call50, x_gc_2051, x_goto_1, x_goto_11, x_goto_3, x_iconst, x_ifCond_eq_12, x_ifCond_lt_2, x_if_icmp_ge_12, x_iinc2, x_iload2, x_iload3, x_istore3, x_jsr, x_tsw_11_0_4_5_6_7_8_9_10, klp_0, klp_1, klp_2, klp_3, klp_9, KC_0, KC_1, KC_2, KC_3, KC_4, ne_eq, not_false_eq_true, not_true_eq_false, true_and, and_true, and_self, implies_true, eq_self, true_imp_iff, false_implies, Int.reduceEq, Int.reduceNe, Int.reduceMod, Int.reduceMul, Int.reduceAdd, Int.reduceSub, Int.reduceLT, Int.reduceLE, Nat.reduceAdd, Nat.reduceLeDiff, Nat.reduceLT, Nat.reduceSub, reduceIte, wds_n, wds_0, wds_1, wds_2, wds_3, or_true, true_or, or_false, false_or, or_self, false_and, and_false, d_pos, d_s1, d_s2, d_s3, d_s4, d_s5, d_s6, d_s7, d_s8, Classical.not_not, z258_0, TC_0 hT, TC_k hT, st, kd, k4, fk, c1', E1', d_s9, d_s10, d_s11, d_s12, d_s13, d_s14, d_s15, d_s16, d_s17, d_s18, d_s19, d_s20, d_s21, d_s22, d_s23, d_s24, d_s25, d_s26, d_s27, d_s28, d_s29, d_s30, hs_ne, hcell, hcel1, le_sub1, le_T, le_F, lt_T, lt_F, eq_F, w32_T, bz0, bz1, lc_le, lc_ge, lc_lt, lc_gt, lc_eq]
    · exact E2' Q
  · rw [fd] at fk
    obtain ⟨h1, hr1, X1, X2, -, -, A, B, c1, r1⟩ := D.nx (e + 4) (e2 + 8)
    have X2' := X2 (D.ts (by omega))
    have I1 := I.nx (by omega) X1 A B
    have c1' : ∀ Q, Sp fz1 (e + 12) 28 [(3, 129), (0, 1)] h Q = Q 0 h1 := c1
    have iw0 : ∀ Q, Sp fz1 (e2 + 10) 327 [(3, 6603), (3, NV_1971)] hr Q = Q 0 hr := fun Q => by rw [NV_1971_e, iw_subject (d := e2 + 5) D.1.2.2 D.1.1 D.2.2.2]; exact congrArg (fun x => Q x hr) (if_neg (fun u => by have := u.2; omega))
    have iw1 : ∀ Q, Sp fz1 (e2 + 10) 327 [(3, 6603), (3, NV_2099)] hr Q = Q 1 hr := fun Q => by rw [NV_2099_e, iw_room (d := e2 + 5) D.1.2.2 D.1.1 D.2.2.2]; exact congrArg (fun x => Q x hr) (if_pos ⟨k1, hw⟩)
    obtain ⟨g, gr, E1, E2, F1, F2, W⟩ := it_room (e := e + 2) (e2 := e2 + 1) I1 iw1 r1
    have E1' : ∀ Q, Sp fz1 (e + 12) 60 [(3, 258)] h1 Q = Q 0 g := E1
    have E2' : ∀ Q, G fz1 (e2 + 11) 326 1 [(3, 6603), (9, 0)] [] hr Q = Q 0 gr := E2
    refine ⟨1, g, gr, fun Q => ?_, fun Q => ?_, A.i.trans F1, B.i.trans F2, W.imp (fun ⟨s1, a, b⟩ => ⟨s1, by omega, b⟩) id⟩
    · conv => lhs; rw [q25_1]
      simp (implicitDefEqProofs := false) (disch := omega) only [n25_1, b25_3, b25_5, b25_11, q25_3, q25_5, q25_11, x_aload0, y_call28, y_call41, y_call43, y_call45, y_call60, x_gc_2051, x_goto_1, x_goto_11, x_goto_3, x_iconst, x_ifCond_eq_12, x_ifCond_lt_2, x_if_icmp_ge_12, x_iinc2, x_iload2, x_iload3, x_istore3, x_jsr, x_tsw_11_0_4_5_6_7_8_9_10, klp_0, klp_1, klp_2, klp_3, klp_9, KC_0, KC_1, KC_2, KC_3, KC_4, ne_eq, not_false_eq_true, not_true_eq_false, true_and, and_true, and_self, implies_true, eq_self, true_imp_iff, false_implies, Int.reduceEq, Int.reduceNe, Int.reduceMod, Int.reduceMul, Int.reduceAdd, Int.reduceSub, Int.reduceLT, Int.reduceLE, Nat.reduceAdd, Nat.reduceLeDiff, Nat.reduceLT, Nat.reduceSub, reduceIte, wds_n, wds_0, wds_1, wds_2, wds_3, or_true, true_or, or_false, false_or, or_self, false_and, and_false, d_pos, d_s1, d_s2, d_s3, d_s4, d_s5, d_s6, d_s7, d_s8, Classical.not_not, z258_0, TC_0 hT, TC_k hT, st, kd, k4, fk, c1', E1', d_s9, d_s10, d_s11, d_s12, d_s13, d_s14, d_s15, d_s16, d_s17, d_s18, d_s19, d_s20, d_s21, d_s22, d_s23, d_s24, d_s25, d_s26, d_s27, d_s28, d_s29, d_s30, hs_ne, hcell, hcel1, le_sub1, le_T, le_F, lt_T, lt_F, eq_F, w32_T, bz0, bz1, lc_le, lc_ge, lc_lt, lc_gt, lc_eq]
    · simp (implicitDefEqProofs := false) (disch := omega) only [sp326, n326_0, x_aload0, y_call321, y_call327, y_call328, y_call333, x_goto_8, x_iconst, x_ifCond_eq_1, x_jsr, x_pop0, x_pop3, klp_0, klp_1, klp_2, klp_3, klp_9, KC_0, KC_1, KC_2, KC_3, KC_4, ne_eq, not_false_eq_true, not_true_eq_false, true_and, and_true, and_self, implies_true, eq_self, true_imp_iff, false_implies, Int.reduceEq, Int.reduceNe, Int.reduceMod, Int.reduceMul, Int.reduceAdd, Int.reduceSub, Int.reduceLT, Int.reduceLE, Nat.reduceAdd, Nat.reduceLeDiff, Nat.reduceLT, Nat.reduceSub, reduceIte, wds_n, wds_0, wds_1, wds_2, wds_3, or_true, true_or, or_false, false_or, or_self, false_and, and_false, d_pos, d_s1, d_s2, d_s3, d_s4, d_s5, d_s6, d_s7, d_s8, Classical.not_not, r2 hS, r2l hS, r2k hS, r5 hS, r5l hS, r5k hS, r10 hS, r10l hS, r10k hS, TR_0 hS, TR_k hS, iw0, E2', d_s9, d_s10, d_s11, d_s12, d_s13, d_s14, d_s15, d_s16, d_s17, d_s18, d_s19, d_s20, d_s21, d_s22, d_s23, d_s24, d_s25, d_s26, d_s27, d_s28, d_s29, d_s30, hs_ne, hcell, hcel1, le_sub1, le_T, le_F, lt_T, lt_F, eq_F, w32_T, bz0, bz1, lc_le, lc_ge, lc_lt, lc_gt, lc_eq]
  · rw [fd] at fk
    obtain ⟨h1, hr1, X1, X2, -, -, A, B, c1, r1⟩ := D.nx (e + 4) (e2 + 7)
    have X2' := X2 (D.ts (by omega))
    have I1 := I.nx (by omega) X1 A B
    have c1' : ∀ Q, Sp fz1 (e + 12) 28 [(3, 129), (0, 1)] h Q = Q 0 h1 := c1
    have iw0 : ∀ Q, Sp fz1 (e2 + 10) 327 [(3, 6603), (3, NV_1971)] hr Q = Q 0 hr := fun Q => by rw [NV_1971_e, iw_subject (d := e2 + 5) D.1.2.2 D.1.1 D.2.2.2]; exact congrArg (fun x => Q x hr) (if_neg (fun u => by have := u.2; omega))
    have iw1 : ∀ Q, Sp fz1 (e2 + 10) 327 [(3, 6603), (3, NV_2099)] hr Q = Q 0 hr := fun Q => by rw [NV_2099_e, iw_room (d := e2 + 5) D.1.2.2 D.1.1 D.2.2.2]; exact congrArg (fun x => Q x hr) (if_neg (fun u => by have := u.2; omega))
    have iw2 : ∀ Q, Sp fz1 (e2 + 10) 327 [(3, 6603), (3, NV_2227)] hr Q = Q 1 hr := fun Q => by rw [NV_2227_e, iw_staff (d := e2 + 5) D.1.2.2 D.1.1 D.2.2.2]; exact congrArg (fun x => Q x hr) (if_pos ⟨k1, hw⟩)
    obtain ⟨g, gr, E1, E2, F1, F2, W⟩ := it_staff (e := e + 1) (e2 := e2) I1 r1
    have E1' : ∀ Q, Sp fz1 (e + 12) 63 [(3, 258)] h1 Q = Q 0 g := E1
    have E2' := E2
    refine ⟨2, g, gr, fun Q => ?_, fun Q => ?_, A.i.trans F1, B.i.trans F2, W.imp (fun ⟨s1, a, b⟩ => ⟨s1, by omega, b⟩) id⟩
    · conv => lhs; rw [q25_1]
      simp (implicitDefEqProofs := false) (disch := omega) only [n25_1, b25_3, b25_6, b25_11, q25_3, q25_6, q25_11, x_aload0, y_call28, y_call41, y_call43, y_call45, y_call63, x_gc_2051, x_goto_1, x_goto_11, x_goto_3, x_iconst, x_ifCond_eq_12, x_ifCond_lt_2, x_if_icmp_ge_12, x_iinc2, x_iload2, x_iload3, x_istore3, x_jsr, x_tsw_11_0_4_5_6_7_8_9_10, klp_0, klp_1, klp_2, klp_3, klp_9, KC_0, KC_1, KC_2, KC_3, KC_4, ne_eq, not_false_eq_true, not_true_eq_false, true_and, and_true, and_self, implies_true, eq_self, true_imp_iff, false_implies, Int.reduceEq, Int.reduceNe, Int.reduceMod, Int.reduceMul, Int.reduceAdd, Int.reduceSub, Int.reduceLT, Int.reduceLE, Nat.reduceAdd, Nat.reduceLeDiff, Nat.reduceLT, Nat.reduceSub, reduceIte, wds_n, wds_0, wds_1, wds_2, wds_3, or_true, true_or, or_false, false_or, or_self, false_and, and_false, d_pos, d_s1, d_s2, d_s3, d_s4, d_s5, d_s6, d_s7, d_s8, Classical.not_not, z258_0, TC_0 hT, TC_k hT, st, kd, k4, fk, c1', E1', d_s9, d_s10, d_s11, d_s12, d_s13, d_s14, d_s15, d_s16, d_s17, d_s18, d_s19, d_s20, d_s21, d_s22, d_s23, d_s24, d_s25, d_s26, d_s27, d_s28, d_s29, d_s30, hs_ne, hcell, hcel1, le_sub1, le_T, le_F, lt_T, lt_F, eq_F, w32_T, bz0, bz1, lc_le, lc_ge, lc_lt, lc_gt, lc_eq]
    · simp (implicitDefEqProofs := false) (disch := omega) only [sp326, n326_0, n326_1, n326_2, b326_8, q326_1, q326_2, q326_8, x_aload0, y_call321, y_call327, y_call328, y_call333, y_call335, y_call336, x_gc_12307, x_gf_11339, x_goto_8, x_iastore, x_iconst, x_ifCond_eq_1, x_ifCond_eq_2, x_ifCond_eq_3, x_iload1, x_istore1, x_jsr, x_pop0, x_pop3, x_return, klp_0, klp_1, klp_2, klp_3, klp_9, KC_0, KC_1, KC_2, KC_3, KC_4, ne_eq, not_false_eq_true, not_true_eq_false, true_and, and_true, and_self, implies_true, eq_self, true_imp_iff, false_implies, Int.reduceEq, Int.reduceNe, Int.reduceMod, Int.reduceMul, Int.reduceAdd, Int.reduceSub, Int.reduceLT, Int.reduceLE, Nat.reduceAdd, Nat.reduceLeDiff, Nat.reduceLT, Nat.reduceSub, reduceIte, wds_n, wds_0, wds_1, wds_2, wds_3, or_true, true_or, or_false, false_or, or_self, false_and, and_false, d_pos, d_s1, d_s2, d_s3, d_s4, d_s5, d_s6, d_s7, d_s8, Classical.not_not, r2 hS, r2l hS, r2k hS, r5 hS, r5l hS, r5k hS, r10 hS, r10l hS, r10k hS, TR_0 hS, TR_k hS, iw0, iw1, iw2, E2', d_s9, d_s10, d_s11, d_s12, d_s13, d_s14, d_s15, d_s16, d_s17, d_s18, d_s19, d_s20, d_s21, d_s22, d_s23, d_s24, d_s25, d_s26, d_s27, d_s28, d_s29, d_s30, hs_ne, hcell, hcel1, le_sub1, le_T, le_F, lt_T, lt_F, eq_F, w32_T, bz0, bz1, lc_le, lc_ge, lc_lt, lc_gt, lc_eq]
  · rw [fd] at fk
    obtain ⟨h1, hr1, X1, X2, -, -, A, B, c1, r1⟩ := D.nx (e + 4) (e2 + 8)
    have X2' := X2 (D.ts (by omega))
    have I1 := I.nx (by omega) X1 A B
    have c1' : ∀ Q, Sp fz1 (e + 12) 28 [(3, 129), (0, 1)] h Q = Q 0 h1 := c1
    have iw0 : ∀ Q, Sp fz1 (e2 + 10) 327 [(3, 6603), (3, NV_1971)] hr Q = Q 0 hr := fun Q => by rw [NV_1971_e, iw_subject (d := e2 + 5) D.1.2.2 D.1.1 D.2.2.2]; exact congrArg (fun x => Q x hr) (if_neg (fun u => by have := u.2; omega))
    have iw1 : ∀ Q, Sp fz1 (e2 + 10) 327 [(3, 6603), (3, NV_2099)] hr Q = Q 0 hr := fun Q => by rw [NV_2099_e, iw_room (d := e2 + 5) D.1.2.2 D.1.1 D.2.2.2]; exact congrArg (fun x => Q x hr) (if_neg (fun u => by have := u.2; omega))
    have iw2 : ∀ Q, Sp fz1 (e2 + 10) 327 [(3, 6603), (3, NV_2227)] hr Q = Q 0 hr := fun Q => by rw [NV_2227_e, iw_staff (d := e2 + 5) D.1.2.2 D.1.1 D.2.2.2]; exact congrArg (fun x => Q x hr) (if_neg (fun u => by have := u.2; omega))
    have iw3 : ∀ Q, Sp fz1 (e2 + 10) 327 [(3, 6603), (3, NV_2355)] hr Q = Q 1 hr := fun Q => by rw [NV_2355_e, iw_group (d := e2 + 5) D.1.2.2 D.1.1 D.2.2.2]; exact congrArg (fun x => Q x hr) (if_pos ⟨k1, hw⟩)
    obtain ⟨g, gr, E1, E2, F1, F2, W⟩ := it_group (e := e + 2) (e2 := e2 + 1) I1 iw3 r1
    have E1' : ∀ Q, Sp fz1 (e + 12) 66 [(3, 258)] h1 Q = Q 0 g := E1
    have E2' : ∀ Q, G fz1 (e2 + 11) 326 3 [(3, 6603), (9, 0)] [] hr Q = Q 0 gr := E2
    refine ⟨3, g, gr, fun Q => ?_, fun Q => ?_, A.i.trans F1, B.i.trans F2, W.imp (fun ⟨s1, a, b⟩ => ⟨s1, by omega, b⟩) id⟩
    · conv => lhs; rw [q25_1]
      simp (implicitDefEqProofs := false) (disch := omega) only [n25_1, b25_3, b25_7, b25_11, q25_3, q25_7, q25_11, x_aload0, y_call28, y_call41, y_call43, y_call45, y_call66, x_gc_2051, x_goto_1, x_goto_11, x_goto_3, x_iconst, x_ifCond_eq_12, x_ifCond_lt_2, x_if_icmp_ge_12, x_iinc2, x_iload2, x_iload3, x_istore3, x_jsr, x_tsw_11_0_4_5_6_7_8_9_10, klp_0, klp_1, klp_2, klp_3, klp_9, KC_0, KC_1, KC_2, KC_3, KC_4, ne_eq, not_false_eq_true, not_true_eq_false, true_and, and_true, and_self, implies_true, eq_self, true_imp_iff, false_implies, Int.reduceEq, Int.reduceNe, Int.reduceMod, Int.reduceMul, Int.reduceAdd, Int.reduceSub, Int.reduceLT, Int.reduceLE, Nat.reduceAdd, Nat.reduceLeDiff, Nat.reduceLT, Nat.reduceSub, reduceIte, wds_n, wds_0, wds_1, wds_2, wds_3, or_true, true_or, or_false, false_or, or_self, false_and, and_false, d_pos, d_s1, d_s2, d_s3, d_s4, d_s5, d_s6, d_s7, d_s8, Classical.not_not, z258_0, TC_0 hT, TC_k hT, st, kd, k4, fk, c1', E1', d_s9, d_s10, d_s11, d_s12, d_s13, d_s14, d_s15, d_s16, d_s17, d_s18, d_s19, d_s20, d_s21, d_s22, d_s23, d_s24, d_s25, d_s26, d_s27, d_s28, d_s29, d_s30, hs_ne, hcell, hcel1, le_sub1, le_T, le_F, lt_T, lt_F, eq_F, w32_T, bz0, bz1, lc_le, lc_ge, lc_lt, lc_gt, lc_eq]
    · simp (implicitDefEqProofs := false) (disch := omega) only [sp326, n326_0, n326_1, n326_2, q326_1, q326_2, x_aload0, y_call321, y_call327, y_call328, y_call333, y_call335, y_call336, x_gc_12307, x_gf_11339, x_goto_8, x_iastore, x_iconst, x_ifCond_eq_1, x_ifCond_eq_2, x_ifCond_eq_3, x_iload1, x_istore1, x_jsr, x_pop0, x_pop3, klp_0, klp_1, klp_2, klp_3, klp_9, KC_0, KC_1, KC_2, KC_3, KC_4, ne_eq, not_false_eq_true, not_true_eq_false, true_and, and_true, and_self, implies_true, eq_self, true_imp_iff, false_implies, Int.reduceEq, Int.reduceNe, Int.reduceMod, Int.reduceMul, Int.reduceAdd, Int.reduceSub, Int.reduceLT, Int.reduceLE, Nat.reduceAdd, Nat.reduceLeDiff, Nat.reduceLT, Nat.reduceSub, reduceIte, wds_n, wds_0, wds_1, wds_2, wds_3, or_true, true_or, or_false, false_or, or_self, false_and, and_false, d_pos, d_s1, d_s2, d_s3, d_s4, d_s5, d_s6, d_s7, d_s8, Classical.not_not, r2 hS, r2l hS, r2k hS, r5 hS, r5l hS, r5k hS, r10 hS, r10l hS, r10k hS, TR_0 hS, TR_k hS, iw0, iw1, iw2, E2', d_s9, d_s10, d_s11, d_s12, d_s13, d_s14, d_s15, d_s16, d_s17, d_s18, d_s19, d_s20, d_s21, d_s22, d_s23, d_s24, d_s25, d_s26, d_s27, d_s28, d_s29, d_s30, hs_ne, hcell, hcel1, le_sub1, le_T, le_F, lt_T, lt_F, eq_F, w32_T, bz0, bz1, lc_le, lc_ge, lc_lt, lc_gt, lc_eq]
  · rw [fd] at fk
    obtain ⟨h1, hr1, X1, X2, -, -, A, B, c1, r1⟩ := D.nx (e + 4) (e2 + 7)
    have X2' := X2 (D.ts (by omega))
    have I1 := I.nx (by omega) X1 A B
    have c1' : ∀ Q, Sp fz1 (e + 12) 28 [(3, 129), (0, 1)] h Q = Q 0 h1 := c1
    have iw0 : ∀ Q, Sp fz1 (e2 + 10) 327 [(3, 6603), (3, NV_1971)] hr Q = Q 0 hr := fun Q => by rw [NV_1971_e, iw_subject (d := e2 + 5) D.1.2.2 D.1.1 D.2.2.2]; exact congrArg (fun x => Q x hr) (if_neg (fun u => by have := u.2; omega))
    have iw1 : ∀ Q, Sp fz1 (e2 + 10) 327 [(3, 6603), (3, NV_2099)] hr Q = Q 0 hr := fun Q => by rw [NV_2099_e, iw_room (d := e2 + 5) D.1.2.2 D.1.1 D.2.2.2]; exact congrArg (fun x => Q x hr) (if_neg (fun u => by have := u.2; omega))
    have iw2 : ∀ Q, Sp fz1 (e2 + 10) 327 [(3, 6603), (3, NV_2227)] hr Q = Q 0 hr := fun Q => by rw [NV_2227_e, iw_staff (d := e2 + 5) D.1.2.2 D.1.1 D.2.2.2]; exact congrArg (fun x => Q x hr) (if_neg (fun u => by have := u.2; omega))
    have iw3 : ∀ Q, Sp fz1 (e2 + 10) 327 [(3, 6603), (3, NV_2355)] hr Q = Q 0 hr := fun Q => by rw [NV_2355_e, iw_group (d := e2 + 5) D.1.2.2 D.1.1 D.2.2.2]; exact congrArg (fun x => Q x hr) (if_neg (fun u => by have := u.2; omega))
    have iw4 : ∀ Q, Sp fz1 (e2 + 10) 327 [(3, 6603), (3, NV_2483)] hr Q = Q 1 hr := fun Q => by rw [NV_2483_e, iw_lesson (d := e2 + 5) D.1.2.2 D.1.1 D.2.2.2]; exact congrArg (fun x => Q x hr) (if_pos ⟨k1, hw⟩)
    obtain ⟨g, gr, E1, E2, F1, F2, W⟩ := it_lesson (e := e + 2) (e2 := e2) I1 r1
    have E1' : ∀ Q, Sp fz1 (e + 12) 67 [(3, 258)] h1 Q = Q 0 g := E1
    have E2' := E2
    refine ⟨4, g, gr, fun Q => ?_, fun Q => ?_, A.i.trans F1, B.i.trans F2, W.imp (fun ⟨s1, a, b⟩ => ⟨s1, by omega, b⟩) id⟩
    · conv => lhs; rw [q25_1]
      simp (implicitDefEqProofs := false) (disch := omega) only [n25_1, b25_3, b25_8, b25_11, q25_3, q25_8, q25_11, x_aload0, y_call28, y_call41, y_call43, y_call45, y_call67, x_gc_2051, x_goto_1, x_goto_11, x_goto_3, x_iconst, x_ifCond_eq_12, x_ifCond_lt_2, x_if_icmp_ge_12, x_iinc2, x_iload2, x_iload3, x_istore3, x_jsr, x_tsw_11_0_4_5_6_7_8_9_10, klp_0, klp_1, klp_2, klp_3, klp_9, KC_0, KC_1, KC_2, KC_3, KC_4, ne_eq, not_false_eq_true, not_true_eq_false, true_and, and_true, and_self, implies_true, eq_self, true_imp_iff, false_implies, Int.reduceEq, Int.reduceNe, Int.reduceMod, Int.reduceMul, Int.reduceAdd, Int.reduceSub, Int.reduceLT, Int.reduceLE, Nat.reduceAdd, Nat.reduceLeDiff, Nat.reduceLT, Nat.reduceSub, reduceIte, wds_n, wds_0, wds_1, wds_2, wds_3, or_true, true_or, or_false, false_or, or_self, false_and, and_false, d_pos, d_s1, d_s2, d_s3, d_s4, d_s5, d_s6, d_s7, d_s8, Classical.not_not, z258_0, TC_0 hT, TC_k hT, st, kd, k4, fk, c1', E1', d_s9, d_s10, d_s11, d_s12, d_s13, d_s14, d_s15, d_s16, d_s17, d_s18, d_s19, d_s20, d_s21, d_s22, d_s23, d_s24, d_s25, d_s26, d_s27, d_s28, d_s29, d_s30, hs_ne, hcell, hcel1, le_sub1, le_T, le_F, lt_T, lt_F, eq_F, w32_T, bz0, bz1, lc_le, lc_ge, lc_lt, lc_gt, lc_eq]
    · simp (implicitDefEqProofs := false) (disch := omega) only [sp326, n326_0, n326_1, n326_2, n326_3, n326_4, b326_8, q326_1, q326_2, q326_3, q326_4, q326_8, x_aload0, y_call321, y_call327, y_call328, y_call333, y_call335, y_call336, y_call337, x_gc_12307, x_gc_12331, x_gf_11339, x_goto_8, x_iastore, x_iconst, x_ifCond_eq_1, x_ifCond_eq_2, x_ifCond_eq_3, x_ifCond_eq_4, x_ifCond_eq_5, x_iload1, x_istore1, x_jsr, x_pop0, x_pop3, x_return, klp_0, klp_1, klp_2, klp_3, klp_9, KC_0, KC_1, KC_2, KC_3, KC_4, ne_eq, not_false_eq_true, not_true_eq_false, true_and, and_true, and_self, implies_true, eq_self, true_imp_iff, false_implies, Int.reduceEq, Int.reduceNe, Int.reduceMod, Int.reduceMul, Int.reduceAdd, Int.reduceSub, Int.reduceLT, Int.reduceLE, Nat.reduceAdd, Nat.reduceLeDiff, Nat.reduceLT, Nat.reduceSub, reduceIte, wds_n, wds_0, wds_1, wds_2, wds_3, or_true, true_or, or_false, false_or, or_self, false_and, and_false, d_pos, d_s1, d_s2, d_s3, d_s4, d_s5, d_s6, d_s7, d_s8, Classical.not_not, r2 hS, r2l hS, r2k hS, r5 hS, r5l hS, r5k hS, r10 hS, r10l hS, r10k hS, TR_0 hS, TR_k hS, iw0, iw1, iw2, iw3, iw4, E2', d_s9, d_s10, d_s11, d_s12, d_s13, d_s14, d_s15, d_s16, d_s17, d_s18, d_s19, d_s20, d_s21, d_s22, d_s23, d_s24, d_s25, d_s26, d_s27, d_s28, d_s29, d_s30, hs_ne, hcell, hcel1, le_sub1, le_T, le_F, lt_T, lt_F, eq_F, w32_T, bz0, bz1, lc_le, lc_ge, lc_lt, lc_gt, lc_eq]
  · rw [fd] at fk
    obtain ⟨h1, hr1, X1, X2, -, -, A, B, c1, r1⟩ := D.nx (e + 4) (e2 + 8)
    have X2' := X2 (D.ts (by omega))
    have I1 := I.nx (by omega) X1 A B
    have c1' : ∀ Q, Sp fz1 (e + 12) 28 [(3, 129), (0, 1)] h Q = Q 0 h1 := c1
    have iw0 : ∀ Q, Sp fz1 (e2 + 10) 327 [(3, 6603), (3, NV_1971)] hr Q = Q 0 hr := fun Q => by rw [NV_1971_e, iw_subject (d := e2 + 5) D.1.2.2 D.1.1 D.2.2.2]; exact congrArg (fun x => Q x hr) (if_neg (fun u => by have := u.2; omega))
    have iw1 : ∀ Q, Sp fz1 (e2 + 10) 327 [(3, 6603), (3, NV_2099)] hr Q = Q 0 hr := fun Q => by rw [NV_2099_e, iw_room (d := e2 + 5) D.1.2.2 D.1.1 D.2.2.2]; exact congrArg (fun x => Q x hr) (if_neg (fun u => by have := u.2; omega))
    have iw2 : ∀ Q, Sp fz1 (e2 + 10) 327 [(3, 6603), (3, NV_2227)] hr Q = Q 0 hr := fun Q => by rw [NV_2227_e, iw_staff (d := e2 + 5) D.1.2.2 D.1.1 D.2.2.2]; exact congrArg (fun x => Q x hr) (if_neg (fun u => by have := u.2; omega))
    have iw3 : ∀ Q, Sp fz1 (e2 + 10) 327 [(3, 6603), (3, NV_2355)] hr Q = Q 0 hr := fun Q => by rw [NV_2355_e, iw_group (d := e2 + 5) D.1.2.2 D.1.1 D.2.2.2]; exact congrArg (fun x => Q x hr) (if_neg (fun u => by have := u.2; omega))
    have iw4 : ∀ Q, Sp fz1 (e2 + 10) 327 [(3, 6603), (3, NV_2483)] hr Q = Q 0 hr := fun Q => by rw [NV_2483_e, iw_lesson (d := e2 + 5) D.1.2.2 D.1.1 D.2.2.2]; exact congrArg (fun x => Q x hr) (if_neg (fun u => by have := u.2; omega))
    have iw5 : ∀ Q, Sp fz1 (e2 + 10) 327 [(3, 6603), (3, NV_2611)] hr Q = Q 1 hr := fun Q => by rw [NV_2611_e, iw_course (d := e2 + 5) D.1.2.2 D.1.1 D.2.2.2]; exact congrArg (fun x => Q x hr) (if_pos ⟨k1, hw⟩)
    obtain ⟨g, gr, E1, E2, F1, F2, W⟩ := it_course (e := e + 2) (e2 := e2 + 1) I1 iw5 r1
    have E1' : ∀ Q, Sp fz1 (e + 12) 71 [(3, 258)] h1 Q = Q 0 g := E1
    have E2' : ∀ Q, G fz1 (e2 + 11) 326 5 [(3, 6603), (9, 0)] [] hr Q = Q 0 gr := E2
    refine ⟨5, g, gr, fun Q => ?_, fun Q => ?_, A.i.trans F1, B.i.trans F2, W.imp (fun ⟨s1, a, b⟩ => ⟨s1, by omega, b⟩) id⟩
    · conv => lhs; rw [q25_1]
      simp (implicitDefEqProofs := false) (disch := omega) only [n25_1, b25_3, b25_9, b25_11, q25_3, q25_9, q25_11, x_aload0, y_call28, y_call41, y_call43, y_call45, y_call71, x_gc_2051, x_goto_1, x_goto_11, x_goto_3, x_iconst, x_ifCond_eq_12, x_ifCond_lt_2, x_if_icmp_ge_12, x_iinc2, x_iload2, x_iload3, x_istore3, x_jsr, x_tsw_11_0_4_5_6_7_8_9_10, klp_0, klp_1, klp_2, klp_3, klp_9, KC_0, KC_1, KC_2, KC_3, KC_4, ne_eq, not_false_eq_true, not_true_eq_false, true_and, and_true, and_self, implies_true, eq_self, true_imp_iff, false_implies, Int.reduceEq, Int.reduceNe, Int.reduceMod, Int.reduceMul, Int.reduceAdd, Int.reduceSub, Int.reduceLT, Int.reduceLE, Nat.reduceAdd, Nat.reduceLeDiff, Nat.reduceLT, Nat.reduceSub, reduceIte, wds_n, wds_0, wds_1, wds_2, wds_3, or_true, true_or, or_false, false_or, or_self, false_and, and_false, d_pos, d_s1, d_s2, d_s3, d_s4, d_s5, d_s6, d_s7, d_s8, Classical.not_not, z258_0, TC_0 hT, TC_k hT, st, kd, k4, fk, c1', E1', d_s9, d_s10, d_s11, d_s12, d_s13, d_s14, d_s15, d_s16, d_s17, d_s18, d_s19, d_s20, d_s21, d_s22, d_s23, d_s24, d_s25, d_s26, d_s27, d_s28, d_s29, d_s30, hs_ne, hcell, hcel1, le_sub1, le_T, le_F, lt_T, lt_F, eq_F, w32_T, bz0, bz1, lc_le, lc_ge, lc_lt, lc_gt, lc_eq]
    · simp (implicitDefEqProofs := false) (disch := omega) only [sp326, n326_0, n326_1, n326_2, n326_3, n326_4, q326_1, q326_2, q326_3, q326_4, x_aload0, y_call321, y_call327, y_call328, y_call333, y_call335, y_call336, y_call337, x_gc_12307, x_gc_12331, x_gf_11339, x_goto_8, x_iastore, x_iconst, x_ifCond_eq_1, x_ifCond_eq_2, x_ifCond_eq_3, x_ifCond_eq_4, x_ifCond_eq_5, x_iload1, x_istore1, x_jsr, x_pop0, x_pop3, klp_0, klp_1, klp_2, klp_3, klp_9, KC_0, KC_1, KC_2, KC_3, KC_4, ne_eq, not_false_eq_true, not_true_eq_false, true_and, and_true, and_self, implies_true, eq_self, true_imp_iff, false_implies, Int.reduceEq, Int.reduceNe, Int.reduceMod, Int.reduceMul, Int.reduceAdd, Int.reduceSub, Int.reduceLT, Int.reduceLE, Nat.reduceAdd, Nat.reduceLeDiff, Nat.reduceLT, Nat.reduceSub, reduceIte, wds_n, wds_0, wds_1, wds_2, wds_3, or_true, true_or, or_false, false_or, or_self, false_and, and_false, d_pos, d_s1, d_s2, d_s3, d_s4, d_s5, d_s6, d_s7, d_s8, Classical.not_not, r2 hS, r2l hS, r2k hS, r5 hS, r5l hS, r5k hS, r10 hS, r10l hS, r10k hS, TR_0 hS, TR_k hS, iw0, iw1, iw2, iw3, iw4, E2', d_s9, d_s10, d_s11, d_s12, d_s13, d_s14, d_s15, d_s16, d_s17, d_s18, d_s19, d_s20, d_s21, d_s22, d_s23, d_s24, d_s25, d_s26, d_s27, d_s28, d_s29, d_s30, hs_ne, hcell, hcel1, le_sub1, le_T, le_F, lt_T, lt_F, eq_F, w32_T, bz0, bz1, lc_le, lc_ge, lc_lt, lc_gt, lc_eq]
  · rw [fd] at fk
    obtain ⟨h1, hr1, X1, X2, -, -, A, B, c1, r1⟩ := D.nx (e + 4) (e2 + 7)
    have X2' := X2 (D.ts (by omega))
    have I1 := I.nx (by omega) X1 A B
    have c1' : ∀ Q, Sp fz1 (e + 12) 28 [(3, 129), (0, 1)] h Q = Q 0 h1 := c1
    have iw0 : ∀ Q, Sp fz1 (e2 + 10) 327 [(3, 6603), (3, NV_1971)] hr Q = Q 0 hr := fun Q => by rw [NV_1971_e, iw_subject (d := e2 + 5) D.1.2.2 D.1.1 D.2.2.2]; exact congrArg (fun x => Q x hr) (if_neg (fun u => by have := u.2; omega))
    have iw1 : ∀ Q, Sp fz1 (e2 + 10) 327 [(3, 6603), (3, NV_2099)] hr Q = Q 0 hr := fun Q => by rw [NV_2099_e, iw_room (d := e2 + 5) D.1.2.2 D.1.1 D.2.2.2]; exact congrArg (fun x => Q x hr) (if_neg (fun u => by have := u.2; omega))
    have iw2 : ∀ Q, Sp fz1 (e2 + 10) 327 [(3, 6603), (3, NV_2227)] hr Q = Q 0 hr := fun Q => by rw [NV_2227_e, iw_staff (d := e2 + 5) D.1.2.2 D.1.1 D.2.2.2]; exact congrArg (fun x => Q x hr) (if_neg (fun u => by have := u.2; omega))
    have iw3 : ∀ Q, Sp fz1 (e2 + 10) 327 [(3, 6603), (3, NV_2355)] hr Q = Q 0 hr := fun Q => by rw [NV_2355_e, iw_group (d := e2 + 5) D.1.2.2 D.1.1 D.2.2.2]; exact congrArg (fun x => Q x hr) (if_neg (fun u => by have := u.2; omega))
    have iw4 : ∀ Q, Sp fz1 (e2 + 10) 327 [(3, 6603), (3, NV_2483)] hr Q = Q 0 hr := fun Q => by rw [NV_2483_e, iw_lesson (d := e2 + 5) D.1.2.2 D.1.1 D.2.2.2]; exact congrArg (fun x => Q x hr) (if_neg (fun u => by have := u.2; omega))
    have iw5 : ∀ Q, Sp fz1 (e2 + 10) 327 [(3, 6603), (3, NV_2611)] hr Q = Q 0 hr := fun Q => by rw [NV_2611_e, iw_course (d := e2 + 5) D.1.2.2 D.1.1 D.2.2.2]; exact congrArg (fun x => Q x hr) (if_neg (fun u => by have := u.2; omega))
    have iw6 : ∀ Q, Sp fz1 (e2 + 10) 327 [(3, 6603), (3, NV_2739)] hr Q = Q 1 hr := fun Q => by rw [NV_2739_e, iw_rule (d := e2 + 5) D.1.2.2 D.1.1 D.2.2.2]; exact congrArg (fun x => Q x hr) (if_pos ⟨k1, hw⟩)
    obtain ⟨g, gr, E1, E2, F1, F2, W⟩ := rule_pair (e := e + 2) (e2 := e2) (by omega) he2 I1 r1
    have E1' : ∀ Q, Sp fz1 (e + 12) 72 [(3, 258)] h1 Q = Q 0 g := E1
    have E2' := E2
    refine ⟨6, g, gr, fun Q => ?_, fun Q => ?_, A.i.trans F1, B.i.trans F2, W.imp (fun ⟨s1, a, b⟩ => ⟨s1, by omega, b⟩) id⟩
    · conv => lhs; rw [q25_1]
      simp (implicitDefEqProofs := false) (disch := omega) only [n25_1, b25_3, b25_10, b25_11, q25_3, q25_10, q25_11, x_aload0, y_call28, y_call41, y_call43, y_call45, y_call72, x_gc_2051, x_goto_1, x_goto_11, x_goto_3, x_iconst, x_ifCond_eq_12, x_ifCond_lt_2, x_if_icmp_ge_12, x_iinc2, x_iload2, x_iload3, x_istore3, x_jsr, x_tsw_11_0_4_5_6_7_8_9_10, klp_0, klp_1, klp_2, klp_3, klp_9, KC_0, KC_1, KC_2, KC_3, KC_4, ne_eq, not_false_eq_true, not_true_eq_false, true_and, and_true, and_self, implies_true, eq_self, true_imp_iff, false_implies, Int.reduceEq, Int.reduceNe, Int.reduceMod, Int.reduceMul, Int.reduceAdd, Int.reduceSub, Int.reduceLT, Int.reduceLE, Nat.reduceAdd, Nat.reduceLeDiff, Nat.reduceLT, Nat.reduceSub, reduceIte, wds_n, wds_0, wds_1, wds_2, wds_3, or_true, true_or, or_false, false_or, or_self, false_and, and_false, d_pos, d_s1, d_s2, d_s3, d_s4, d_s5, d_s6, d_s7, d_s8, Classical.not_not, z258_0, TC_0 hT, TC_k hT, st, kd, k4, fk, c1', E1', d_s9, d_s10, d_s11, d_s12, d_s13, d_s14, d_s15, d_s16, d_s17, d_s18, d_s19, d_s20, d_s21, d_s22, d_s23, d_s24, d_s25, d_s26, d_s27, d_s28, d_s29, d_s30, hs_ne, hcell, hcel1, le_sub1, le_T, le_F, lt_T, lt_F, eq_F, w32_T, bz0, bz1, lc_le, lc_ge, lc_lt, lc_gt, lc_eq]
    · simp (implicitDefEqProofs := false) (disch := omega) only [sp326, n326_0, n326_1, n326_2, n326_3, n326_4, n326_5, n326_6, b326_8, q326_1, q326_2, q326_3, q326_4, q326_5, q326_6, q326_8, x_aload0, y_call321, y_call327, y_call328, y_call333, y_call335, y_call336, y_call337, y_call339, x_gc_12307, x_gc_12331, x_gc_12371, x_gf_11339, x_goto_8, x_iastore, x_iconst, x_ifCond_eq_1, x_ifCond_eq_2, x_ifCond_eq_3, x_ifCond_eq_4, x_ifCond_eq_5, x_ifCond_eq_6, x_ifCond_eq_7, x_iload1, x_istore1, x_jsr, x_pop0, x_pop3, x_return, klp_0, klp_1, klp_2, klp_3, klp_9, KC_0, KC_1, KC_2, KC_3, KC_4, ne_eq, not_false_eq_true, not_true_eq_false, true_and, and_true, and_self, implies_true, eq_self, true_imp_iff, false_implies, Int.reduceEq, Int.reduceNe, Int.reduceMod, Int.reduceMul, Int.reduceAdd, Int.reduceSub, Int.reduceLT, Int.reduceLE, Nat.reduceAdd, Nat.reduceLeDiff, Nat.reduceLT, Nat.reduceSub, reduceIte, wds_n, wds_0, wds_1, wds_2, wds_3, or_true, true_or, or_false, false_or, or_self, false_and, and_false, d_pos, d_s1, d_s2, d_s3, d_s4, d_s5, d_s6, d_s7, d_s8, Classical.not_not, r2 hS, r2l hS, r2k hS, r5 hS, r5l hS, r5k hS, r10 hS, r10l hS, r10k hS, TR_0 hS, TR_k hS, iw0, iw1, iw2, iw3, iw4, iw5, iw6, E2', d_s9, d_s10, d_s11, d_s12, d_s13, d_s14, d_s15, d_s16, d_s17, d_s18, d_s19, d_s20, d_s21, d_s22, d_s23, d_s24, d_s25, d_s26, d_s27, d_s28, d_s29, d_s30, hs_ne, hcell, hcel1, le_sub1, le_T, le_F, lt_T, lt_F, eq_F, w32_T, bz0, bz1, lc_le, lc_ge, lc_lt, lc_gt, lc_eq]
  · rw [fd] at fk
    obtain ⟨-, IB, C, -, -, -⟩ := I
    have N := IB.1
    unfold NBI at N
    have C6 := C.1 6 (by decide) (by decide)
    have m6 := MST_12 (q := 6)
    have p0 : ∀ Q, Sp fz1 (e + 12) 28 [(3, 129), (0, 0)] h Q = Q 0 (bdH h) := fun Q => p28f (by omega)
    have wr : ∀ Q, Sp fz1 (e2 + 10) 332 [(3, 6603)] hr Q = Q 0 (bdR hr) := fun Q => v332g (by omega)
    have iw0 : ∀ Q, Sp fz1 (e2 + 10) 327 [(3, 6603), (3, NV_1971)] hr Q = Q 0 hr := fun Q => by rw [NV_1971_e, iw_subject (d := e2 + 5) D.1.2.2 D.1.1 D.2.2.2]; exact congrArg (fun x => Q x hr) (if_neg w0)
    have iw1 : ∀ Q, Sp fz1 (e2 + 10) 327 [(3, 6603), (3, NV_2099)] hr Q = Q 0 hr := fun Q => by rw [NV_2099_e, iw_room (d := e2 + 5) D.1.2.2 D.1.1 D.2.2.2]; exact congrArg (fun x => Q x hr) (if_neg w1)
    have iw2 : ∀ Q, Sp fz1 (e2 + 10) 327 [(3, 6603), (3, NV_2227)] hr Q = Q 0 hr := fun Q => by rw [NV_2227_e, iw_staff (d := e2 + 5) D.1.2.2 D.1.1 D.2.2.2]; exact congrArg (fun x => Q x hr) (if_neg w2)
    have iw3 : ∀ Q, Sp fz1 (e2 + 10) 327 [(3, 6603), (3, NV_2355)] hr Q = Q 0 hr := fun Q => by rw [NV_2355_e, iw_group (d := e2 + 5) D.1.2.2 D.1.1 D.2.2.2]; exact congrArg (fun x => Q x hr) (if_neg w3)
    have iw4 : ∀ Q, Sp fz1 (e2 + 10) 327 [(3, 6603), (3, NV_2483)] hr Q = Q 0 hr := fun Q => by rw [NV_2483_e, iw_lesson (d := e2 + 5) D.1.2.2 D.1.1 D.2.2.2]; exact congrArg (fun x => Q x hr) (if_neg w4)
    have iw5 : ∀ Q, Sp fz1 (e2 + 10) 327 [(3, 6603), (3, NV_2611)] hr Q = Q 0 hr := fun Q => by rw [NV_2611_e, iw_course (d := e2 + 5) D.1.2.2 D.1.1 D.2.2.2]; exact congrArg (fun x => Q x hr) (if_neg w5)
    have iw6 : ∀ Q, Sp fz1 (e2 + 10) 327 [(3, 6603), (3, NV_2739)] hr Q = Q 0 hr := fun Q => by rw [NV_2739_e, iw_rule (d := e2 + 5) D.1.2.2 D.1.1 D.2.2.2]; exact congrArg (fun x => Q x hr) (if_neg w6)
    have z : ∀ o, o ≠ 129 → bdH h o = h o := fun o u => by unfold bdH; rw [hs_ne u, hs_ne u]
    refine ⟨-1, bdH h, bdR hr, fun Q => ?_, fun Q => ?_, FIC.bd, FIR.bd, .inr ⟨⟨s, D.bad⟩, ?_⟩⟩
    · conv => lhs; rw [q25_1]
      simp (implicitDefEqProofs := false) (disch := omega) only [n25_1, b25_2, b25_3, b25_11, q25_2, q25_3, q25_11, x_aload0, y_call28, y_call41, y_call43, y_call45, x_gc_2051, x_goto_1, x_goto_3, x_iconst, x_ifCond_eq_12, x_ifCond_lt_2, x_if_icmp_ge_12, x_iinc2, x_iload2, x_iload3, x_istore3, x_jsr, x_tsw_11_0_4_5_6_7_8_9_10, klp_0, klp_1, klp_2, klp_3, klp_9, KC_0, KC_1, KC_2, KC_3, KC_4, ne_eq, not_false_eq_true, not_true_eq_false, true_and, and_true, and_self, implies_true, eq_self, true_imp_iff, false_implies, Int.reduceEq, Int.reduceNe, Int.reduceMod, Int.reduceMul, Int.reduceAdd, Int.reduceSub, Int.reduceLT, Int.reduceLE, Nat.reduceAdd, Nat.reduceLeDiff, Nat.reduceLT, Nat.reduceSub, reduceIte, wds_n, wds_0, wds_1, wds_2, wds_3, or_true, true_or, or_false, false_or, or_self, false_and, and_false, d_pos, d_s1, d_s2, d_s3, d_s4, d_s5, d_s6, d_s7, d_s8, Classical.not_not, z258_0, TC_0 hT, TC_k hT, st, kd, k4, fk, p0, d_s9, d_s10, d_s11, d_s12, d_s13, d_s14, d_s15, d_s16, d_s17, d_s18, d_s19, d_s20, d_s21, d_s22, d_s23, d_s24, d_s25, d_s26, d_s27, d_s28, d_s29, d_s30, hs_ne, hcell, hcel1, le_sub1, le_T, le_F, lt_T, lt_F, eq_F, w32_T, bz0, bz1, lc_le, lc_ge, lc_lt, lc_gt, lc_eq]
    · simp (implicitDefEqProofs := false) (disch := omega) only [sp326, n326_0, n326_1, n326_2, n326_3, n326_4, n326_5, n326_6, b326_7, b326_8, q326_1, q326_2, q326_3, q326_4, q326_5, q326_6, q326_7, q326_8, x_aload0, y_call321, y_call327, y_call328, y_call332, y_call333, y_call335, y_call336, y_call337, y_call339, x_gc_12307, x_gc_12331, x_gc_12371, x_gf_11339, x_goto_8, x_iastore, x_iconst, x_ifCond_eq_1, x_ifCond_eq_2, x_ifCond_eq_3, x_ifCond_eq_4, x_ifCond_eq_5, x_ifCond_eq_6, x_ifCond_eq_7, x_iload1, x_istore1, x_jsr, x_pop0, x_pop3, x_return, klp_0, klp_1, klp_2, klp_3, klp_9, KC_0, KC_1, KC_2, KC_3, KC_4, ne_eq, not_false_eq_true, not_true_eq_false, true_and, and_true, and_self, implies_true, eq_self, true_imp_iff, false_implies, Int.reduceEq, Int.reduceNe, Int.reduceMod, Int.reduceMul, Int.reduceAdd, Int.reduceSub, Int.reduceLT, Int.reduceLE, Nat.reduceAdd, Nat.reduceLeDiff, Nat.reduceLT, Nat.reduceSub, reduceIte, wds_n, wds_0, wds_1, wds_2, wds_3, or_true, true_or, or_false, false_or, or_self, false_and, and_false, d_pos, d_s1, d_s2, d_s3, d_s4, d_s5, d_s6, d_s7, d_s8, Classical.not_not, r2 hS, r2l hS, r2k hS, r5 hS, r5l hS, r5k hS, r10 hS, r10l hS, r10k hS, TR_0 hS, TR_k hS, iw0, iw1, iw2, iw3, iw4, iw5, iw6, wr, d_s9, d_s10, d_s11, d_s12, d_s13, d_s14, d_s15, d_s16, d_s17, d_s18, d_s19, d_s20, d_s21, d_s22, d_s23, d_s24, d_s25, d_s26, d_s27, d_s28, d_s29, d_s30, hs_ne, hcell, hcel1, le_sub1, le_T, le_F, lt_T, lt_F, eq_F, w32_T, bz0, bz1, lc_le, lc_ge, lc_lt, lc_gt, lc_eq]
    · rw [z T (by omega), z 258 (by decide), z (T + 598) (by omega)]
      omega
end SM
