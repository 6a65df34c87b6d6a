/-! THE PURE SIDE, 172: acts and blocks on both sides, whole: printed by wip/tools/gen8x.py -/
section SM
variable {bX : Int} {tp : Int → Int} {t T S s s1 s2 f : Int} {h hr g gr k kr m mr a ar : HV} {Q : Int → HV → Prop} {d : Nat}
set_option maxHeartbeats 4000000 in
/-- an act with its STEP -/
theorem OUTA.b {dp : Int} (D : GD bX tp t T S s h hr) (X : GOM bX tp t T S s h hr s a ar) (N : NC T h a 1 0 1 0 0) (M : NR S hr ar 1 0 0 0 0 0 0) (C : CEL T a (h T 17) 1) (R : RCO S ar (hr S 15) 0 0 0) (O : OUTA bX tp t T S s a ar g gr dp) : OUTB bX tp t T S s h hr g gr dp 0 ∧ (BADB T S 0 h hr g gr ∨ h T 15 + 1 ≤ g T 15) := by
  have n0 := D.nb
  have n1 := X.2.1.nb
  unfold NBR at n0 n1
  unfold NC at N
  unfold NR at M
  rcases O with ⟨s1, O1, O2, O3, O4⟩ | ⟨b1, b2, b3, b4, b5, b6⟩
  · have O3' := O3
    unfold DXB at O3'
    have E1 := O1.2.2.1.1
    have F1 := O1.2.2.2.1
    refine ⟨.inl ⟨s1, by have := O1.1; omega, .inr (C.ec E1 (by omega)), X.trans O1, NVR.trans (NVR.same (by omega)) E1 F1 O2, by unfold DXB; omega, fun K V CL A => ?_⟩, .inr (by omega)⟩
    have u1 := A.cel (Int.le_refl _) (C.ec E1 (by omega))
    have u2 := A.rco (Int.le_refl _) (R.er F1 (by omega))
    have R := O4 K V CL (A.lo (by omega) (by omega) (by omega)) (by rw [show a T 17 - 1 = h T 17 by omega]; exact u1) (by rw [show ar S 15 - 1 = hr S 15 by omega]; exact u2.1)
    rw [show a T 17 - 1 = h T 17 by omega, show ar S 15 - 1 = hr S 15 by omega, show ar S 21 = hr S 21 by omega, show ar S 22 = hr S 22 by omega] at R
    exact R
  · have z : BADB T S 0 h hr g gr := ⟨b1, X.2.2.1.2.trans b2, X.2.2.2.2.trans b3, by omega, by omega, by omega⟩
    exact ⟨.inr z, .inl z⟩
set_option maxHeartbeats 4000000 in
theorem an_bd {y : Int} (hT : TC T) : bdH (hset h T 15 y) = hset (bdH h) T 15 y := by
  have kT := kTC hT
  unfold bdH
  rw [show hset h T 15 y 129 5 = h 129 5 by rw [hs_ne (by omega)]]
  funext a i
  simp only [hset_v]
  by_cases z1 : a = 129
  · subst z1
    simp [show ¬ (129 : Int) = T by omega]
  · simp [z1]
set_option maxHeartbeats 4000000 in
theorem p28an {y : Int} (hT : TC T) (hf : h 129 3 < 0) : Sp fz1 d 28 [(3, 129), (0, 0)] (hset h T 15 y) Q = Q 0 (hset (bdH h) T 15 y) := by
  have kT := kTC hT
  rw [← an_bd hT]
  exact p28f (by rw [hs_ne (by omega)]; exact hf)
set_option maxHeartbeats 4000000 in
/-- an act that begins with no name: behind its fault -/
theorem x83 {dep w p v : Int} {e : Nat} (c1 : ∀ Q, Sp fz1 (e + 13) 53 [(3, 129)] h Q = Q w h) (c2 : ∀ Q, Sp fz1 (e + 13) 84 [(3, 129)] h Q = Q p h) (c3 : ∀ Q, Sp fz1 (e + 13) 52 [(3, 258)] h Q = Q v h) (c4 : ∀ Q, Sp fz1 (e + 13) 28 [(3, 129), (0, v)] h Q = Q 0 k) (B : BDC T f k) : ∃ g, KPC T f k g ∧ ∀ Q, Sp fz1 (e + 14) 83 [(3, 258), (0, dep)] h Q = Q 0 g := by
  have hT := B.1.1
  have sq : ∀ Q, Sp fz1 (e + 13) 59 [(3, 129), (0, 91)] k Q = Q 0 k := fun Q => c59b B.k.2.2
  have sg1 : ∀ Q, Sp fz1 (e + 13) 58 [(3, 258), (0, 61)] k Q = Q 0 k := fun Q => b58 B
  obtain ⟨u, k1, W1, e1⟩ := B.telx (w := w)
  have tl : ∀ Q, Sp fz1 (e + 13) 75 [(3, 258), (1, w)] k Q = Q u k1 := fun Q => e1 (e + 11) Q
  obtain ⟨k2, W2, wh⟩ := W1.1.wh (e := dep) e
  obtain ⟨k3, W3, e3⟩ := W2.1.e2 (p := 6) (x := u)
  have em : ∀ Q, Sp fz1 (e + 13) 93 [(3, 258), (0, 6), (0, u)] k2 Q = Q 0 k3 := fun Q => e3 (e + 12) Q
  have sg2 : ∀ Q, Sp fz1 (e + 13) 58 [(3, 258), (0, 59)] k3 Q = Q 0 k3 := fun Q => b58 W3.1
  refine ⟨k3, W1.trans (W2.trans W3), fun Q => ?_⟩
  simp (implicitDefEqProofs := false) (disch := omega) only [sp83, b83_0, b83_1, b83_2, q83_1, q83_2, x_aload0, y_call28, y_call52, y_call53, y_call58, y_call59, y_call75, y_call76, y_call79, y_call84, y_call86, y_call93, x_gc_2051, x_goto_2, x_iadd, x_iconst, x_ifCond_eq_1, x_iload1, x_iload4, x_iload5, x_istore4, x_istore5, x_lload2, x_lstore2, x_return, klp_0, klp_1, klp_2, klp_3, klp_9, KC_0, KC_1, KC_2, KC_3, KC_4, ne_eq, not_false_eq_true, not_true_eq_false, true_and, and_true, and_self, implies_true, eq_self, true_imp_iff, false_implies, Int.reduceEq, Int.reduceNe, Int.reduceMod, Int.reduceMul, Int.reduceAdd, Int.reduceSub, Int.reduceLT, Int.reduceLE, Nat.reduceAdd, Nat.reduceLeDiff, Nat.reduceLT, Nat.reduceSub, reduceIte, wds_n, wds_0, wds_1, wds_2, wds_3, or_true, true_or, or_false, false_or, or_self, false_and, and_false, d_pos, d_s1, d_s2, d_s3, d_s4, d_s5, d_s6, d_s7, d_s8, Classical.not_not, z258_0, TC_0 hT, TC_k hT, c1, c2, c3, c4, sq, sg1, tl, wh, em, sg2, d_s9, d_s10, d_s11, d_s12, d_s13, d_s14, d_s15, d_s16, d_s17, d_s18, d_s19, d_s20, d_s21, d_s22, d_s23, d_s24, d_s25, d_s26, d_s27, d_s28, d_s29, d_s30, hs_ne, hcell, hcel1, le_sub1, le_T, le_F, lt_T, lt_F, eq_F, w32_T, bz0, bz1, lc_le, lc_ge, lc_lt, lc_gt, lc_eq]
set_option maxHeartbeats 4000000 in
theorem b83 {dep : Int} {e : Nat} (B : BDC T f h) : ∃ g, KPC T f h g ∧ ∀ Q, Sp fz1 (e + 14) 83 [(3, 258), (0, dep)] h Q = Q 0 g :=
  x83 (v := 0) (fun Q => q53) (fun Q => q84) (fun Q => c52b (d := e + 7) B.k.2.2) (fun Q => p28b B.k.2.1 B.k.2.2) B
set_option maxHeartbeats 4000000 in
/-- an act that can't begin here -/
theorem act_no {dep : Int} {e e2 : Nat} (D : GD bX tp t T S s h hr) (zn : ¬ nmP tp t s) (z0 : ¬ (tkK tp t s = 1 ∧ wdT tp t s = 26982)) (z1 : ¬ (tkK tp t s = 1 ∧ wdT tp t s = 6713202)) (z2 : ¬ (tkK tp t s = 1 ∧ wdT tp t s = 7631481)) (z3 : ¬ (tkK tp t s = 1 ∧ wdT tp t s = 491260572517)) (z4 : ¬ (tkK tp t s = 1 ∧ wdT tp t s = 1734964837)) (z5 : ¬ (tkK tp t s = 1 ∧ wdT tp t s = 1668247673)) : ∃ g gr, (∀ Q, Sp fz1 (e + 15) 80 [(3, 258), (0, dep)] h Q = Q 0 g) ∧ (∀ Q, Sp fz1 (e2 + 15) 345 [(3, 6603)] hr Q = Q 0 gr) ∧ OUTB bX tp t T S s h hr g gr (dep - 1) 0 ∧ (BADB T S 0 h hr g gr ∨ h T 15 + 1 ≤ g T 15) := by
  have F := D.f
  have N := D.nb
  have S0 := D.sb
  have hT := D.2.1.1.1
  have hS := D.2.1.2.1
  have hp := D.2.1.1.2
  have h9 := D.2.1.2.2
  have kT := kTC hT
  have kS := kTR hS
  unfold NBR at N
  have gd : ∀ Q, Sp fz1 (e2 + 14) 325 [(3, 6603)] hr Q = Q 1 hr := fun Q => v325g D
  have ni : ∀ Q, Sp fz1 (e2 + 14) 329 [(3, 6603)] hr Q = Q 0 hr := fun Q => nm_329n (d := e2 + 8) D zn
  have jif : ∀ (d : Nat) Q, Sp fz1 (d + 5) 327 [(3, 6603), (3, NV_3251)] hr Q = Q 0 hr := fun d Q => by rw [NV_3251_e, iw_if D.1.2.2 D.1.1 D.2.2.1.2]; exact congrArg (fun x => Q x hr) (if_neg z0)
  have jfor : ∀ (d : Nat) Q, Sp fz1 (d + 5) 327 [(3, 6603), (3, NV_3379)] hr Q = Q 0 hr := fun d Q => by rw [NV_3379_e, iw_for D.1.2.2 D.1.1 D.2.2.1.2]; exact congrArg (fun x => Q x hr) (if_neg z1)
  have jtry : ∀ (d : Nat) Q, Sp fz1 (d + 5) 327 [(3, 6603), (3, NV_3507)] hr Q = Q 0 hr := fun d Q => by rw [NV_3507_e, iw_try D.1.2.2 D.1.1 D.2.2.1.2]; exact congrArg (fun x => Q x hr) (if_neg z2)
  have jraise : ∀ (d : Nat) Q, Sp fz1 (d + 5) 327 [(3, 6603), (3, NV_3635)] hr Q = Q 0 hr := fun d Q => by rw [NV_3635_e, iw_raise D.1.2.2 D.1.1 D.2.2.1.2]; exact congrArg (fun x => Q x hr) (if_neg z3)
  have jgive : ∀ (d : Nat) Q, Sp fz1 (d + 5) 327 [(3, 6603), (3, NV_3763)] hr Q = Q 0 hr := fun d Q => by rw [NV_3763_e, iw_give D.1.2.2 D.1.1 D.2.2.1.2]; exact congrArg (fun x => Q x hr) (if_neg z4)
  have jcopy : ∀ (d : Nat) Q, Sp fz1 (d + 5) 327 [(3, 6603), (3, NV_3891)] hr Q = Q 0 hr := fun d Q => by rw [NV_3891_e, iw_copy D.1.2.2 D.1.1 D.2.2.1.2]; exact congrArg (fun x => Q x hr) (if_neg z5)
  obtain ⟨B0, E0, F0, H0, b14, b15, -⟩ := D.bad0
  have wr : ∀ Q, Sp fz1 (e2 + 14) 332 [(3, 6603)] hr Q = Q 0 (bdR hr) := fun Q => v332g (by omega)
  obtain ⟨r2, hr2⟩ : ∃ x, x = bdR hr := ⟨_, rfl⟩
  have nd : ∀ Q, Sp fz1 (e2 + 14) 346 [(3, 6603), (0, 0)] (bdR hr) Q = Q 0 r2 := fun Q => by rw [hr2]; exact v346b (by have := E0.2.1; omega)
  have g0 : ∀ Q, Sp fz1 (e2 + 14) 325 [(3, 6603)] r2 Q = Q 0 r2 := fun Q => by rw [hr2]; exact v325x E0
  have RR : ∀ Q, Sp fz1 (e2 + 15) 345 [(3, 6603)] hr Q = Q 0 r2 := fun Q => by
    simp (implicitDefEqProofs := false) (disch := omega) only [sp345, n345_0, b345_1, q345_1, x_aload0, y_call325, y_call327, y_call329, y_call332, y_call346, x_goto_1, x_iconst, x_ifCond_ne_1, x_ifCond_ne_2, x_jsr, x_return, klp_0, klp_1, klp_2, klp_3, klp_9, KC_0, KC_1, KC_2, KC_3, KC_4, ne_eq, not_false_eq_true, not_true_eq_false, true_and, and_true, and_self, implies_true, eq_self, true_imp_iff, false_implies, Int.reduceEq, Int.reduceNe, Int.reduceMod, Int.reduceMul, Int.reduceAdd, Int.reduceSub, Int.reduceLT, Int.reduceLE, Nat.reduceAdd, Nat.reduceLeDiff, Nat.reduceLT, Nat.reduceSub, reduceIte, wds_n, wds_0, wds_1, wds_2, wds_3, or_true, true_or, or_false, false_or, or_self, false_and, and_false, d_pos, d_s1, d_s2, d_s3, d_s4, d_s5, d_s6, d_s7, d_s8, Classical.not_not, TR_0 hS, TR_k hS, ni, jif, jfor, jtry, jraise, jgive, jcopy, wr, nd, g0, d_s9, d_s10, d_s11, d_s12, d_s13, d_s14, d_s15, d_s16, d_s17, d_s18, d_s19, d_s20, d_s21, d_s22, d_s23, d_s24, d_s25, d_s26, d_s27, d_s28, d_s29, d_s30, hs_ne, hcell, hcel1, le_sub1, le_T, le_F, lt_T, lt_F, eq_F, w32_T, bz0, bz1, lc_le, lc_ge, lc_lt, lc_gt, lc_eq]
  rw [← hr2] at E0 H0 b14 b15
  by_cases l : h T 15 < 400
  · obtain ⟨X1, N1, -, -⟩ := D.an l
    have D1 := X1.2.1
    have c81 : ∀ Q, Sp fz1 (e + 14) 81 [(3, 258)] h Q = Q 1 (anH T h) := fun Q => q81g (d := e + 13) hT hp ⟨by omega, l⟩
    generalize anH T h = g1 at *
    have N1' := N1
    unfold NC at N1'
    have hp1 := D1.2.1.1.2
    obtain ⟨X2, N2, C2⟩ := D1.em (x := 1) (by omega)
    have c82 : ∀ Q, Sp fz1 (e + 14) 82 [(3, T), (0, 1)] g1 Q = Q 0 (emH T g1 1) := fun Q => q82 hT (by omega)
    have D2 := X2.2.1
    have F2 := X2.2.2.1.2
    clear X2 N2 C2
    generalize emH T g1 1 = g2 at *
    have fa : ∀ Q, Sp fz1 (e + 14) 45 [(3, 129), (3, NV_435)] g2 Q = Q (-1) g2 := fun Q => by
      rw [NV_435_e, c45 (d := e + 9) D2.1.2.1 (str_3 D2.2.2.1.1) (by decide) wACTS_e]
      refine congrArg (fun x => Q x g2) ?_
      unfold fdW
      by_cases hk : tkK tp t s = 1
      · rw [if_pos hk, ix_no _ _ (fun m => ?_)]
        simp (implicitDefEqProofs := false) only [wACTS, List.mem_cons, List.not_mem_nil, or_false] at m
        rcases m with m | m | m | m | m | m
        · exact z0 ⟨hk, m⟩
        · exact z1 ⟨hk, m⟩
        · exact z2 ⟨hk, m⟩
        · exact z3 ⟨hk, m⟩
        · exact z4 ⟨hk, m⟩
        · exact z5 ⟨hk, m⟩
      · rw [if_neg hk]
    obtain ⟨B2, -, F3, -⟩ := D2.bad0
    obtain ⟨g, W, e9⟩ := x83 (e := e) (dep := dep) (w := g2 129 6) (p := g2 129 5) (v := 0) (h := g2) (k := bdH g2) (fun Q => q53) (fun Q => q84) (fun Q => nm_c52n (d := e + 7) D2 zn) (fun Q => p28f (by have := D2.f; omega)) B2
    have z : BADB T S 0 h hr g r2 := ⟨⟨s, W.1, E0.q⟩, X1.2.2.1.2.trans (F2.trans (F3.trans W.2)), H0, by omega, by omega, by omega⟩
    refine ⟨g, r2, fun Q => ?_, RR, .inr z, .inl z⟩
    simp (implicitDefEqProofs := false) (disch := omega) only [sp80, b80_0, n80_1, q80_1, x_aload0, y_call28, y_call45, y_call81, y_call82, y_call83, x_gc_2051, x_gf_2059, x_goto_1, x_iconst, x_ifCond_ge_2, x_ifCond_ne_1, x_iload1, x_iload2, x_istore2, x_jsr, x_return, klp_0, klp_1, klp_2, klp_3, klp_9, KC_0, KC_1, KC_2, KC_3, KC_4, ne_eq, not_false_eq_true, not_true_eq_false, true_and, and_true, and_self, implies_true, eq_self, true_imp_iff, false_implies, Int.reduceEq, Int.reduceNe, Int.reduceMod, Int.reduceMul, Int.reduceAdd, Int.reduceSub, Int.reduceLT, Int.reduceLE, Nat.reduceAdd, Nat.reduceLeDiff, Nat.reduceLT, Nat.reduceSub, reduceIte, wds_n, wds_0, wds_1, wds_2, wds_3, or_true, true_or, or_false, false_or, or_self, false_and, and_false, d_pos, d_s1, d_s2, d_s3, d_s4, d_s5, d_s6, d_s7, d_s8, Classical.not_not, z258_0, TC_0 hT, TC_k hT, c81, hp1, c82, fa, e9, d_s9, d_s10, d_s11, d_s12, d_s13, d_s14, d_s15, d_s16, d_s17, d_s18, d_s19, d_s20, d_s21, d_s22, d_s23, d_s24, d_s25, d_s26, d_s27, d_s28, d_s29, d_s30, hs_ne, hcell, hcel1, le_sub1, le_T, le_F, lt_T, lt_F, eq_F, w32_T, bz0, bz1, lc_le, lc_ge, lc_lt, lc_gt, lc_eq]
  · have c81 : ∀ Q, Sp fz1 (e + 14) 81 [(3, 258)] h Q = Q 0 (hset h T 15 401) := fun Q => q81x (d := e + 13) hT hp (by omega)
    have c28 : ∀ Q, Sp fz1 (e + 14) 28 [(3, 129), (0, 0)] (hset h T 15 401) Q = Q 0 (hset (bdH h) T 15 401) := fun Q => p28an hT (by omega)
    obtain ⟨B1, F1⟩ := B0.an (y := 401)
    generalize hset h T 15 401 = k0 at c81 c28
    generalize hset (bdH h) T 15 401 = g1 at *
    have hp1 := B1.1.2
    obtain ⟨g2, W2, x2⟩ := B1.e1 (x := 1)
    have c82 : ∀ Q, Sp fz1 (e + 14) 82 [(3, T), (0, 1)] g1 Q = Q 0 g2 := fun Q => x2 _ Q
    have fa : ∀ Q, Sp fz1 (e + 14) 45 [(3, 129), (3, NV_435)] g2 Q = Q (-1) g2 := fun Q => by rw [NV_435_e]; exact W2.1.fd (d := e + 9) (str_3 W2.1.2.2.1) (by decide)
    obtain ⟨g, W, e9⟩ := b83 (e := e) (dep := dep) W2.1
    have z : BADB T S 0 h hr g r2 := ⟨⟨s, W.1, E0.q⟩, F0.trans (F1.trans (W2.2.trans W.2)), H0, by omega, by omega, by omega⟩
    refine ⟨g, r2, fun Q => ?_, RR, .inr z, .inl z⟩
    simp (implicitDefEqProofs := false) (disch := omega) only [sp80, b80_0, n80_1, q80_1, x_aload0, y_call28, y_call45, y_call81, y_call82, y_call83, x_gc_2051, x_gf_2059, x_goto_1, x_iconst, x_ifCond_ge_2, x_ifCond_ne_1, x_iload1, x_iload2, x_istore2, x_jsr, x_return, klp_0, klp_1, klp_2, klp_3, klp_9, KC_0, KC_1, KC_2, KC_3, KC_4, ne_eq, not_false_eq_true, not_true_eq_false, true_and, and_true, and_self, implies_true, eq_self, true_imp_iff, false_implies, Int.reduceEq, Int.reduceNe, Int.reduceMod, Int.reduceMul, Int.reduceAdd, Int.reduceSub, Int.reduceLT, Int.reduceLE, Nat.reduceAdd, Nat.reduceLeDiff, Nat.reduceLT, Nat.reduceSub, reduceIte, wds_n, wds_0, wds_1, wds_2, wds_3, or_true, true_or, or_false, false_or, or_self, false_and, and_false, d_pos, d_s1, d_s2, d_s3, d_s4, d_s5, d_s6, d_s7, d_s8, Classical.not_not, z258_0, TC_0 hT, TC_k hT, c81, c28, hp1, c82, fa, e9, d_s9, d_s10, d_s11, d_s12, d_s13, d_s14, d_s15, d_s16, d_s17, d_s18, d_s19, d_s20, d_s21, d_s22, d_s23, d_s24, d_s25, d_s26, d_s27, d_s28, d_s29, d_s30, hs_ne, hcell, hcel1, le_sub1, le_T, le_F, lt_T, lt_F, eq_F, w32_T, bz0, bz1, lc_le, lc_ge, lc_lt, lc_gt, lc_eq]
set_option maxHeartbeats 4000000 in
/-- an act where the nodes are all told -/
theorem act_full {dep : Int} {e e2 : Nat} (D : GD bX tp t T S s h hr) (l : ¬ h T 15 < 400) (R0 : ∀ Q, Sp fz1 (e2 + 15) 345 [(3, 6603)] hr Q = G fz1 (e2 + 15) 345 1 [(3, 6603), (9, 0)] [] hr Q) : ∃ g gr, (∀ Q, Sp fz1 (e + 15) 80 [(3, 258), (0, dep)] h Q = Q 0 g) ∧ (∀ Q, Sp fz1 (e2 + 15) 345 [(3, 6603)] hr Q = Q 0 gr) ∧ OUTB bX tp t T S s h hr g gr (dep - 1) 0 ∧ (BADB T S 0 h hr g gr ∨ h T 15 + 1 ≤ g T 15) := by
  have F := D.f
  have N := D.nb
  have S0 := D.sb
  have hT := D.2.1.1.1
  have hS := D.2.1.2.1
  have hp := D.2.1.1.2
  have h9 := D.2.1.2.2
  have kT := kTC hT
  have kS := kTR hS
  unfold NBR at N
  have gd : ∀ Q, Sp fz1 (e2 + 14) 325 [(3, 6603)] hr Q = Q 1 hr := fun Q => v325g D
  obtain ⟨B0, E0, F0, H0, b14, b15, -⟩ := D.bad0
  have nd : ∀ Q, Sp fz1 (e2 + 14) 346 [(3, 6603), (0, 0)] hr Q = Q 0 (bdR hr) := fun Q => v346n hS h9 (by omega) (by omega) (by omega)
  have g0 : ∀ Q, Sp fz1 (e2 + 14) 325 [(3, 6603)] (bdR hr) Q = Q 0 (bdR hr) := fun Q => v325x E0
  have c81 : ∀ Q, Sp fz1 (e + 14) 81 [(3, 258)] h Q = Q 0 (hset h T 15 401) := fun Q => q81x (d := e + 13) hT hp (by omega)
  have c28 : ∀ Q, Sp fz1 (e + 14) 28 [(3, 129), (0, 0)] (hset h T 15 401) Q = Q 0 (hset (bdH h) T 15 401) := fun Q => p28an hT (by omega)
  obtain ⟨B1, F1⟩ := B0.an (y := 401)
  generalize hset h T 15 401 = k0 at c81 c28
  generalize hset (bdH h) T 15 401 = g1 at *
  have hp1 := B1.1.2
  obtain ⟨g2, W2, x2⟩ := B1.e1 (x := 1)
  have c82 : ∀ Q, Sp fz1 (e + 14) 82 [(3, T), (0, 1)] g1 Q = Q 0 g2 := fun Q => x2 _ Q
  have fa : ∀ Q, Sp fz1 (e + 14) 45 [(3, 129), (3, NV_435)] g2 Q = Q (-1) g2 := fun Q => by rw [NV_435_e]; exact W2.1.fd (d := e + 9) (str_3 W2.1.2.2.1) (by decide)
  obtain ⟨g, W, e9⟩ := b83 (e := e) (dep := dep) W2.1
  have z : BADB T S 0 h hr g (bdR hr) := ⟨⟨s, W.1, E0.q⟩, F0.trans (F1.trans (W2.2.trans W.2)), H0, by omega, by omega, by omega⟩
  refine ⟨g, bdR hr, fun Q => ?_, fun Q => ?_, .inr z, .inl z⟩
  · simp (implicitDefEqProofs := false) (disch := omega) only [sp80, b80_0, n80_1, q80_1, x_aload0, y_call28, y_call45, y_call81, y_call82, y_call83, x_gc_2051, x_gf_2059, x_goto_1, x_iconst, x_ifCond_ge_2, x_ifCond_ne_1, x_iload1, x_iload2, x_istore2, x_jsr, x_return, klp_0, klp_1, klp_2, klp_3, klp_9, KC_0, KC_1, KC_2, KC_3, KC_4, ne_eq, not_false_eq_true, not_true_eq_false, true_and, and_true, and_self, implies_true, eq_self, true_imp_iff, false_implies, Int.reduceEq, Int.reduceNe, Int.reduceMod, Int.reduceMul, Int.reduceAdd, Int.reduceSub, Int.reduceLT, Int.reduceLE, Nat.reduceAdd, Nat.reduceLeDiff, Nat.reduceLT, Nat.reduceSub, reduceIte, wds_n, wds_0, wds_1, wds_2, wds_3, or_true, true_or, or_false, false_or, or_self, false_and, and_false, d_pos, d_s1, d_s2, d_s3, d_s4, d_s5, d_s6, d_s7, d_s8, Classical.not_not, z258_0, TC_0 hT, TC_k hT, c81, c28, hp1, c82, fa, e9, d_s9, d_s10, d_s11, d_s12, d_s13, d_s14, d_s15, d_s16, d_s17, d_s18, d_s19, d_s20, d_s21, d_s22, d_s23, d_s24, d_s25, d_s26, d_s27, d_s28, d_s29, d_s30, hs_ne, hcell, hcel1, le_sub1, le_T, le_F, lt_T, lt_F, eq_F, w32_T, bz0, bz1, lc_le, lc_ge, lc_lt, lc_gt, lc_eq]
  · rw [R0, q345_1]
    simp (implicitDefEqProofs := false) (disch := omega) only [b345_1, q345_1, x_aload0, y_call325, y_call346, x_iconst, x_ifCond_ne_2, x_return, klp_0, klp_1, klp_2, klp_3, klp_9, KC_0, KC_1, KC_2, KC_3, KC_4, ne_eq, not_false_eq_true, not_true_eq_false, true_and, and_true, and_self, implies_true, eq_self, true_imp_iff, false_implies, Int.reduceEq, Int.reduceNe, Int.reduceMod, Int.reduceMul, Int.reduceAdd, Int.reduceSub, Int.reduceLT, Int.reduceLE, Nat.reduceAdd, Nat.reduceLeDiff, Nat.reduceLT, Nat.reduceSub, reduceIte, wds_n, wds_0, wds_1, wds_2, wds_3, or_true, true_or, or_false, false_or, or_self, false_and, and_false, d_pos, d_s1, d_s2, d_s3, d_s4, d_s5, d_s6, d_s7, d_s8, Classical.not_not, TR_0 hS, TR_k hS, nd, g0, d_s9, d_s10, d_s11, d_s12, d_s13, d_s14, d_s15, d_s16, d_s17, d_s18, d_s19, d_s20, d_s21, d_s22, d_s23, d_s24, d_s25, d_s26, d_s27, d_s28, d_s29, d_s30, hs_ne, hcell, hcel1, le_sub1, le_T, le_F, lt_T, lt_F, eq_F, w32_T, bz0, bz1, lc_le, lc_ge, lc_lt, lc_gt, lc_eq]
set_option maxHeartbeats 4000000 in
/-- how an act begins on both sides: a node and a STEP -/
theorem act_st {dep : Int} {e e2 : Nat} (D : GD bX tp t T S s h hr) (l : h T 15 < 400) : ∃ a ar g1 r1, GOM bX tp t T S s h hr s a ar ∧ NC T h a 1 0 1 0 0 ∧ NR S hr ar 1 0 0 0 0 0 0 ∧ CEL T a (h T 17) 1 ∧ RCO S ar (hr S 15) 0 0 0 ∧ (∀ Q, Sp fz1 (e + 14) 81 [(3, 258)] h Q = Q 1 g1) ∧ g1 258 1 = T ∧ (∀ Q, Sp fz1 (e + 14) 82 [(3, T), (0, 1)] g1 Q = Q 0 a) ∧ (∀ Q, Sp fz1 (e2 + 14) 346 [(3, 6603), (0, 0)] hr Q = Q 0 r1) ∧ (∀ Q, Sp fz1 (e2 + 14) 325 [(3, 6603)] r1 Q = Q 1 r1) ∧ ∀ Q, Sp fz1 (e2 + 14) 347 [(3, 6603), (0, 0), (0, 0), (0, 0)] r1 Q = Q (r1 S 15) ar := by
  have F := D.f
  have N := D.nb
  have S0 := D.sb
  have hT := D.2.1.1.1
  have hS := D.2.1.2.1
  have hp := D.2.1.1.2
  have h9 := D.2.1.2.2
  have kT := kTC hT
  have kS := kTR hS
  unfold NBR at N
  have gd : ∀ Q, Sp fz1 (e2 + 14) 325 [(3, 6603)] hr Q = Q 1 hr := fun Q => v325g D
  obtain ⟨X1, N1, M1, f7⟩ := D.an l
  have D1 := X1.2.1
  have c81 : ∀ Q, Sp fz1 (e + 14) 81 [(3, 258)] h Q = Q 1 (anH T h) := fun Q => q81g (d := e + 13) hT hp ⟨by omega, l⟩
  have v346 : ∀ Q, Sp fz1 (e2 + 14) 346 [(3, 6603), (0, 0)] hr Q = Q 0 (anR S hr) := fun Q => v346a (d := e2 + 13) hS h9 (by omega) (by omega) (by omega)
  generalize anH T h = g1 at *
  generalize anR S hr = r1 at *
  have N1' := N1
  have M1' := M1
  unfold NC at N1'
  unfold NR at M1'
  obtain ⟨X2, N2, C2⟩ := D1.em (x := 1) (by omega)
  have c82 : ∀ Q, Sp fz1 (e + 14) 82 [(3, T), (0, 1)] g1 Q = Q 0 (emH T g1 1) := fun Q => q82 hT (by omega)
  generalize emH T g1 1 = g2 at *
  have N2' := N2
  unfold NC at N2'
  obtain ⟨X3, M3, R3⟩ := X2.2.1.cd (p := 0) (a := 0) (b := 0) (by omega) (fun w => absurd w (by decide))
  have lm := D1.lim
  have c347 : ∀ Q, Sp fz1 (e2 + 14) 347 [(3, 6603), (0, 0), (0, 0), (0, 0)] r1 Q = Q (r1 S 15) (cdR S r1 0 0 0) := fun Q => v347 D1.2.1.2.1 D1.2.1.2.2 (by omega)
  generalize cdR S r1 0 0 0 = r3 at *
  have M3' := M3
  unfold NR at M3'
  exact ⟨g2, r3, g1, r1, X1.trans (X2.trans X3), by unfold NC; omega, by unfold NR; omega, by rw [show h T 17 = g1 T 17 by omega]; exact C2, by rw [show hr S 15 = r1 S 15 by omega]; exact R3, c81, D1.2.1.1.2, c82, v346, fun Q => v325g D1, c347⟩
set_option maxHeartbeats 4000000 in
/-- an act -/
theorem act_pair {dep : Int} {B e e2 : Nat} (hB : 110 ≤ B) (he : B ≤ e + 13) (he2 : B ≤ e2 + 13) (hdp : 1 ≤ dep ∧ dep ≤ 12) (OB : BLKP bX tp t T S dep B) (D : GD bX tp t T S s h hr) (hd : hr 6603 12 = dep ∧ h 258 11 = 0) : ∃ g gr, (∀ Q, Sp fz1 (e + 15) 80 [(3, 258), (0, dep)] h Q = Q 0 g) ∧ (∀ Q, Sp fz1 (e2 + 15) 345 [(3, 6603)] hr Q = Q 0 gr) ∧ OUTB bX tp t T S s h hr g gr (dep - 1) 0 ∧ (BADB T S 0 h hr g gr ∨ h T 15 + 1 ≤ g T 15) := by
  have F := D.f
  have N := D.nb
  have S0 := D.sb
  have hT := D.2.1.1.1
  have hS := D.2.1.2.1
  have hp := D.2.1.1.2
  have h9 := D.2.1.2.2
  have kT := kTC hT
  have kS := kTR hS
  unfold NBR at N
  have gd : ∀ Q, Sp fz1 (e2 + 14) 325 [(3, 6603)] hr Q = Q 1 hr := fun Q => v325g D
  by_cases zn : nmP tp t s
  · have ni : ∀ Q, Sp fz1 (e2 + 14) 329 [(3, 6603)] hr Q = Q 1 hr := fun Q => nm_329 (d := e2 + 8) D zn
    have R0 : ∀ Q, Sp fz1 (e2 + 15) 345 [(3, 6603)] hr Q = G fz1 (e2 + 15) 345 1 [(3, 6603), (9, 0)] [] hr Q := fun Q => by
      simp (implicitDefEqProofs := false) (disch := omega) only [sp345, n345_0, x_aload0, y_call327, y_call329, y_call332, x_goto_1, x_ifCond_ne_1, x_jsr, klp_0, klp_1, klp_2, klp_3, klp_9, KC_0, KC_1, KC_2, KC_3, KC_4, ne_eq, not_false_eq_true, not_true_eq_false, true_and, and_true, and_self, implies_true, eq_self, true_imp_iff, false_implies, Int.reduceEq, Int.reduceNe, Int.reduceMod, Int.reduceMul, Int.reduceAdd, Int.reduceSub, Int.reduceLT, Int.reduceLE, Nat.reduceAdd, Nat.reduceLeDiff, Nat.reduceLT, Nat.reduceSub, reduceIte, wds_n, wds_0, wds_1, wds_2, wds_3, or_true, true_or, or_false, false_or, or_self, false_and, and_false, d_pos, d_s1, d_s2, d_s3, d_s4, d_s5, d_s6, d_s7, d_s8, Classical.not_not, TR_0 hS, TR_k hS, ni, d_s9, d_s10, d_s11, d_s12, d_s13, d_s14, d_s15, d_s16, d_s17, d_s18, d_s19, d_s20, d_s21, d_s22, d_s23, d_s24, d_s25, d_s26, d_s27, d_s28, d_s29, d_s30, hs_ne, hcell, hcel1, le_sub1, le_T, le_F, lt_T, lt_F, eq_F, w32_T, bz0, bz1, lc_le, lc_ge, lc_lt, lc_gt, lc_eq]
    by_cases l : h T 15 < 400
    rotate_left
    · exact act_full D l R0
    obtain ⟨a, ar, g1, r1, X1, N1, M1, C1, R1, c81, hp1, c82, v346, v325, c347⟩ := act_st (dep := dep) (e := e) (e2 := e2) D l
    have D1 := X1.2.1
    have N1c := N1
    have M1c := M1
    unfold NC at N1
    unfold NR at M1
    have n1 := D1.nb
    unfold NBR at n1
    have PR : PRA T S s a ar := by unfold PRA; omega
    have y0 : ¬ (tkK tp t s = 1 ∧ wdT tp t s = 26982) := fun w => zn.2 (by rw [w.2]; decide +kernel)
    have jif : ∀ (d : Nat) Q, Sp fz1 (d + 5) 327 [(3, 6603), (3, NV_3251)] ar Q = Q 0 ar := fun d Q => by rw [NV_3251_e, iw_if D1.1.2.2 D1.1.1 D1.2.2.1.2]; exact congrArg (fun x => Q x ar) (if_neg y0)
    have y1 : ¬ (tkK tp t s = 1 ∧ wdT tp t s = 6713202) := fun w => zn.2 (by rw [w.2]; decide +kernel)
    have jfor : ∀ (d : Nat) Q, Sp fz1 (d + 5) 327 [(3, 6603), (3, NV_3379)] ar Q = Q 0 ar := fun d Q => by rw [NV_3379_e, iw_for D1.1.2.2 D1.1.1 D1.2.2.1.2]; exact congrArg (fun x => Q x ar) (if_neg y1)
    have y2 : ¬ (tkK tp t s = 1 ∧ wdT tp t s = 7631481) := fun w => zn.2 (by rw [w.2]; decide +kernel)
    have jtry : ∀ (d : Nat) Q, Sp fz1 (d + 5) 327 [(3, 6603), (3, NV_3507)] ar Q = Q 0 ar := fun d Q => by rw [NV_3507_e, iw_try D1.1.2.2 D1.1.1 D1.2.2.1.2]; exact congrArg (fun x => Q x ar) (if_neg y2)
    have y3 : ¬ (tkK tp t s = 1 ∧ wdT tp t s = 491260572517) := fun w => zn.2 (by rw [w.2]; decide +kernel)
    have jraise : ∀ (d : Nat) Q, Sp fz1 (d + 5) 327 [(3, 6603), (3, NV_3635)] ar Q = Q 0 ar := fun d Q => by rw [NV_3635_e, iw_raise D1.1.2.2 D1.1.1 D1.2.2.1.2]; exact congrArg (fun x => Q x ar) (if_neg y3)
    have y4 : ¬ (tkK tp t s = 1 ∧ wdT tp t s = 1734964837) := fun w => zn.2 (by rw [w.2]; decide +kernel)
    have jgive : ∀ (d : Nat) Q, Sp fz1 (d + 5) 327 [(3, 6603), (3, NV_3763)] ar Q = Q 0 ar := fun d Q => by rw [NV_3763_e, iw_give D1.1.2.2 D1.1.1 D1.2.2.1.2]; exact congrArg (fun x => Q x ar) (if_neg y4)
    have y5 : ¬ (tkK tp t s = 1 ∧ wdT tp t s = 1668247673) := fun w => zn.2 (by rw [w.2]; decide +kernel)
    have jcopy : ∀ (d : Nat) Q, Sp fz1 (d + 5) 327 [(3, 6603), (3, NV_3891)] ar Q = Q 0 ar := fun d Q => by rw [NV_3891_e, iw_copy D1.1.2.2 D1.1.1 D1.2.2.1.2]; exact congrArg (fun x => Q x ar) (if_neg y5)
    have fa : ∀ Q, Sp fz1 (e + 14) 45 [(3, 129), (3, NV_435)] a Q = Q (-1) a := fun Q => by
      rw [NV_435_e, c45 (d := e + 9) D1.1.2.1 (str_3 D1.2.2.1.1) (by decide) wACTS_e]
      refine congrArg (fun x => Q x a) ?_
      rw [fdW_y zn.1, ix_no _ _ (fun m => ?_)]
      simp (implicitDefEqProofs := false) only [wACTS, List.mem_cons, List.not_mem_nil, or_false] at m
      rcases m with m | m | m | m | m | m
      · exact absurd ⟨zn.1, m⟩ y0
      · exact absurd ⟨zn.1, m⟩ y1
      · exact absurd ⟨zn.1, m⟩ y2
      · exact absurd ⟨zn.1, m⟩ y3
      · exact absurd ⟨zn.1, m⟩ y4
      · exact absurd ⟨zn.1, m⟩ y5
    have CC : ∀ g, (∀ Q, Sp fz1 (e + 14) 83 [(3, 258), (0, dep)] a Q = Q 0 g) → ∀ Q, Sp fz1 (e + 15) 80 [(3, 258), (0, dep)] h Q = Q 0 g := fun g e9 Q => by
      simp (implicitDefEqProofs := false) (disch := omega) only [sp80, b80_0, n80_1, q80_1, x_aload0, y_call28, y_call45, y_call81, y_call82, y_call83, x_gc_2051, x_gf_2059, x_goto_1, x_iconst, x_ifCond_ge_2, x_ifCond_ne_1, x_iload1, x_iload2, x_istore2, x_jsr, x_return, klp_0, klp_1, klp_2, klp_3, klp_9, KC_0, KC_1, KC_2, KC_3, KC_4, ne_eq, not_false_eq_true, not_true_eq_false, true_and, and_true, and_self, implies_true, eq_self, true_imp_iff, false_implies, Int.reduceEq, Int.reduceNe, Int.reduceMod, Int.reduceMul, Int.reduceAdd, Int.reduceSub, Int.reduceLT, Int.reduceLE, Nat.reduceAdd, Nat.reduceLeDiff, Nat.reduceLT, Nat.reduceSub, reduceIte, wds_n, wds_0, wds_1, wds_2, wds_3, or_true, true_or, or_false, false_or, or_self, false_and, and_false, d_pos, d_s1, d_s2, d_s3, d_s4, d_s5, d_s6, d_s7, d_s8, Classical.not_not, z258_0, TC_0 hT, TC_k hT, c81, hp1, c82, fa, e9, d_s9, d_s10, d_s11, d_s12, d_s13, d_s14, d_s15, d_s16, d_s17, d_s18, d_s19, d_s20, d_s21, d_s22, d_s23, d_s24, d_s25, d_s26, d_s27, d_s28, d_s29, d_s30, hs_ne, hcell, hcel1, le_sub1, le_T, le_F, lt_T, lt_F, eq_F, w32_T, bz0, bz1, lc_le, lc_ge, lc_lt, lc_gt, lc_eq]
    have RR : ∀ gr, (∀ Q, Sp fz1 (e2 + 14) 364 [(3, 6603)] ar Q = Q 0 gr) → ∀ Q, Sp fz1 (e2 + 15) 345 [(3, 6603)] hr Q = Q 0 gr := fun gr e9 Q => by
      rw [R0, q345_1]
      simp (implicitDefEqProofs := false) (disch := omega) only [b345_1, n345_2, n345_3, n345_4, n345_5, n345_8, n345_9, b345_12, b345_13, q345_1, q345_2, q345_3, q345_4, q345_5, q345_8, q345_9, q345_12, q345_13, x_aload0, y_call321, y_call325, y_call327, y_call332, y_call333, y_call346, y_call347, y_call348, y_call349, y_call360, y_call362, y_call363, y_call364, x_goto_10, x_goto_13, x_goto_7, x_iconst, x_ifCond_eq_12, x_ifCond_eq_3, x_ifCond_eq_4, x_ifCond_eq_5, x_ifCond_eq_8, x_ifCond_eq_9, x_ifCond_ne_2, x_if_icmp_ne_6, x_iload1, x_istore1, x_jsr, x_pop0, x_pop3, x_return, klp_0, klp_1, klp_2, klp_3, klp_9, KC_0, KC_1, KC_2, KC_3, KC_4, ne_eq, not_false_eq_true, not_true_eq_false, true_and, and_true, and_self, implies_true, eq_self, true_imp_iff, false_implies, Int.reduceEq, Int.reduceNe, Int.reduceMod, Int.reduceMul, Int.reduceAdd, Int.reduceSub, Int.reduceLT, Int.reduceLE, Nat.reduceAdd, Nat.reduceLeDiff, Nat.reduceLT, Nat.reduceSub, reduceIte, wds_n, wds_0, wds_1, wds_2, wds_3, or_true, true_or, or_false, false_or, or_self, false_and, and_false, d_pos, d_s1, d_s2, d_s3, d_s4, d_s5, d_s6, d_s7, d_s8, Classical.not_not, TR_0 hS, TR_k hS, v346, v325, c347, jif, jfor, jtry, jraise, jgive, jcopy, e9, d_s9, d_s10, d_s11, d_s12, d_s13, d_s14, d_s15, d_s16, d_s17, d_s18, d_s19, d_s20, d_s21, d_s22, d_s23, d_s24, d_s25, d_s26, d_s27, d_s28, d_s29, d_s30, hs_ne, hcell, hcel1, le_sub1, le_T, le_F, lt_T, lt_F, eq_F, w32_T, bz0, bz1, lc_le, lc_ge, lc_lt, lc_gt, lc_eq]
    by_cases zq : sgP tp t (nxS tp t s) 91
    · obtain ⟨g, gr, x1, x2, OO⟩ := item_pair (e := e) (e2 := e2) hB he he2 hdp D1 PR (by omega) zn zq
      obtain ⟨o1, o2⟩ := OO.b D X1 N1c M1c C1 R1
      exact ⟨g, gr, CC g x1, RR gr x2, o1, o2⟩
    · obtain ⟨g, gr, x1, x2, OO⟩ := set_pair (e := e) (e2 := e2) hB he he2 hdp D1 PR (by omega) zn zq
      obtain ⟨o1, o2⟩ := OO.b D X1 N1c M1c C1 R1
      exact ⟨g, gr, CC g x1, RR gr x2, o1, o2⟩
  by_cases z0 : tkK tp t s = 1 ∧ wdT tp t s = 26982
  · have ni : ∀ Q, Sp fz1 (e2 + 14) 329 [(3, 6603)] hr Q = Q 0 hr := fun Q => nm_329n (d := e2 + 8) D zn
    have iif : ∀ (d : Nat) Q, Sp fz1 (d + 5) 327 [(3, 6603), (3, NV_3251)] hr Q = Q 1 hr := fun d Q => by rw [NV_3251_e, iw_if D.1.2.2 D.1.1 D.2.2.1.2]; exact congrArg (fun x => Q x hr) (if_pos z0)
    have R0 : ∀ Q, Sp fz1 (e2 + 15) 345 [(3, 6603)] hr Q = G fz1 (e2 + 15) 345 1 [(3, 6603), (9, 0)] [] hr Q := fun Q => by
      simp (implicitDefEqProofs := false) (disch := omega) only [sp345, n345_0, x_aload0, y_call327, y_call329, y_call332, x_goto_1, x_ifCond_ne_1, x_jsr, klp_0, klp_1, klp_2, klp_3, klp_9, KC_0, KC_1, KC_2, KC_3, KC_4, ne_eq, not_false_eq_true, not_true_eq_false, true_and, and_true, and_self, implies_true, eq_self, true_imp_iff, false_implies, Int.reduceEq, Int.reduceNe, Int.reduceMod, Int.reduceMul, Int.reduceAdd, Int.reduceSub, Int.reduceLT, Int.reduceLE, Nat.reduceAdd, Nat.reduceLeDiff, Nat.reduceLT, Nat.reduceSub, reduceIte, wds_n, wds_0, wds_1, wds_2, wds_3, or_true, true_or, or_false, false_or, or_self, false_and, and_false, d_pos, d_s1, d_s2, d_s3, d_s4, d_s5, d_s6, d_s7, d_s8, Classical.not_not, TR_0 hS, TR_k hS, ni, iif, d_s9, d_s10, d_s11, d_s12, d_s13, d_s14, d_s15, d_s16, d_s17, d_s18, d_s19, d_s20, d_s21, d_s22, d_s23, d_s24, d_s25, d_s26, d_s27, d_s28, d_s29, d_s30, hs_ne, hcell, hcel1, le_sub1, le_T, le_F, lt_T, lt_F, eq_F, w32_T, bz0, bz1, lc_le, lc_ge, lc_lt, lc_gt, lc_eq]
    by_cases l : h T 15 < 400
    rotate_left
    · exact act_full D l R0
    obtain ⟨a, ar, g1, r1, X1, N1, M1, C1, R1, c81, hp1, c82, v346, v325, c347⟩ := act_st (dep := dep) (e := e) (e2 := e2) D l
    have D1 := X1.2.1
    have N1c := N1
    have M1c := M1
    unfold NC at N1
    unfold NR at M1
    have n1 := D1.nb
    unfold NBR at n1
    have PR : PRA T S s a ar := by unfold PRA; omega
    have jif : ∀ (d : Nat) Q, Sp fz1 (d + 5) 327 [(3, 6603), (3, NV_3251)] ar Q = Q 1 ar := fun d Q => by rw [NV_3251_e, iw_if D1.1.2.2 D1.1.1 D1.2.2.1.2]; exact congrArg (fun x => Q x ar) (if_pos z0)
    have fa : ∀ Q, Sp fz1 (e + 14) 45 [(3, 129), (3, NV_435)] a Q = Q 0 a := fun Q => by
      rw [NV_435_e, c45 (d := e + 9) D1.1.2.1 (str_3 D1.2.2.1.1) (by decide) wACTS_e]
      refine congrArg (fun x => Q x a) ?_
      rw [fdW_y z0.1, z0.2]
      rfl
    obtain ⟨h1, g, gr, x1, x2, x3, OO⟩ := if_pair (e := e) (e2 := e2) hB he he2 hdp OB D1 PR (by omega)
    obtain ⟨o1, o2⟩ := OO.b D X1 N1c M1c C1 R1
    refine ⟨g, gr, fun Q => ?_, fun Q => ?_, o1, o2⟩
    · simp (implicitDefEqProofs := false) (disch := omega) only [sp80, b80_0, n80_1, b80_2, b80_3, b80_4, b80_5, b80_6, b80_7, b80_8, b80_9, q80_1, q80_2, q80_3, q80_4, q80_5, q80_6, q80_7, q80_8, q80_9, x_aload0, y_call112, y_call117, y_call118, y_call120, y_call121, y_call122, y_call28, y_call45, y_call81, y_call82, y_call83, x_gc_2051, x_gf_2059, x_goto_1, x_goto_9, x_iconst, x_ifCond_ge_2, x_ifCond_ne_1, x_iload1, x_iload2, x_istore2, x_jsr, x_return, x_tsw_8_0_3_4_5_6_7, klp_0, klp_1, klp_2, klp_3, klp_9, KC_0, KC_1, KC_2, KC_3, KC_4, ne_eq, not_false_eq_true, not_true_eq_false, true_and, and_true, and_self, implies_true, eq_self, true_imp_iff, false_implies, Int.reduceEq, Int.reduceNe, Int.reduceMod, Int.reduceMul, Int.reduceAdd, Int.reduceSub, Int.reduceLT, Int.reduceLE, Nat.reduceAdd, Nat.reduceLeDiff, Nat.reduceLT, Nat.reduceSub, reduceIte, wds_n, wds_0, wds_1, wds_2, wds_3, or_true, true_or, or_false, false_or, or_self, false_and, and_false, d_pos, d_s1, d_s2, d_s3, d_s4, d_s5, d_s6, d_s7, d_s8, Classical.not_not, z258_0, TC_0 hT, TC_k hT, c81, hp1, c82, fa, x1, x2, d_s9, d_s10, d_s11, d_s12, d_s13, d_s14, d_s15, d_s16, d_s17, d_s18, d_s19, d_s20, d_s21, d_s22, d_s23, d_s24, d_s25, d_s26, d_s27, d_s28, d_s29, d_s30, hs_ne, hcell, hcel1, le_sub1, le_T, le_F, lt_T, lt_F, eq_F, w32_T, bz0, bz1, lc_le, lc_ge, lc_lt, lc_gt, lc_eq]
    · rw [R0, q345_1]
      simp (implicitDefEqProofs := false) (disch := omega) only [b345_1, n345_2, b345_13, q345_1, q345_2, q345_13, x_aload0, y_call325, y_call327, y_call346, y_call347, y_call348, x_goto_13, x_iconst, x_ifCond_eq_3, x_ifCond_ne_2, x_jsr, x_pop0, x_pop3, x_return, klp_0, klp_1, klp_2, klp_3, klp_9, KC_0, KC_1, KC_2, KC_3, KC_4, ne_eq, not_false_eq_true, not_true_eq_false, true_and, and_true, and_self, implies_true, eq_self, true_imp_iff, false_implies, Int.reduceEq, Int.reduceNe, Int.reduceMod, Int.reduceMul, Int.reduceAdd, Int.reduceSub, Int.reduceLT, Int.reduceLE, Nat.reduceAdd, Nat.reduceLeDiff, Nat.reduceLT, Nat.reduceSub, reduceIte, wds_n, wds_0, wds_1, wds_2, wds_3, or_true, true_or, or_false, false_or, or_self, false_and, and_false, d_pos, d_s1, d_s2, d_s3, d_s4, d_s5, d_s6, d_s7, d_s8, Classical.not_not, TR_0 hS, TR_k hS, v346, v325, c347, jif, x3, d_s9, d_s10, d_s11, d_s12, d_s13, d_s14, d_s15, d_s16, d_s17, d_s18, d_s19, d_s20, d_s21, d_s22, d_s23, d_s24, d_s25, d_s26, d_s27, d_s28, d_s29, d_s30, hs_ne, hcell, hcel1, le_sub1, le_T, le_F, lt_T, lt_F, eq_F, w32_T, bz0, bz1, lc_le, lc_ge, lc_lt, lc_gt, lc_eq]
  by_cases z1 : tkK tp t s = 1 ∧ wdT tp t s = 6713202
  · have ni : ∀ Q, Sp fz1 (e2 + 14) 329 [(3, 6603)] hr Q = Q 0 hr := fun Q => nm_329n (d := e2 + 8) D zn
    have iif : ∀ (d : Nat) Q, Sp fz1 (d + 5) 327 [(3, 6603), (3, NV_3251)] hr Q = Q 0 hr := fun d Q => by rw [NV_3251_e, iw_if D.1.2.2 D.1.1 D.2.2.1.2]; exact congrArg (fun x => Q x hr) (if_neg z0)
    have ifor : ∀ (d : Nat) Q, Sp fz1 (d + 5) 327 [(3, 6603), (3, NV_3379)] hr Q = Q 1 hr := fun d Q => by rw [NV_3379_e, iw_for D.1.2.2 D.1.1 D.2.2.1.2]; exact congrArg (fun x => Q x hr) (if_pos z1)
    have R0 : ∀ Q, Sp fz1 (e2 + 15) 345 [(3, 6603)] hr Q = G fz1 (e2 + 15) 345 1 [(3, 6603), (9, 0)] [] hr Q := fun Q => by
      simp (implicitDefEqProofs := false) (disch := omega) only [sp345, n345_0, x_aload0, y_call327, y_call329, y_call332, x_goto_1, x_ifCond_ne_1, x_jsr, klp_0, klp_1, klp_2, klp_3, klp_9, KC_0, KC_1, KC_2, KC_3, KC_4, ne_eq, not_false_eq_true, not_true_eq_false, true_and, and_true, and_self, implies_true, eq_self, true_imp_iff, false_implies, Int.reduceEq, Int.reduceNe, Int.reduceMod, Int.reduceMul, Int.reduceAdd, Int.reduceSub, Int.reduceLT, Int.reduceLE, Nat.reduceAdd, Nat.reduceLeDiff, Nat.reduceLT, Nat.reduceSub, reduceIte, wds_n, wds_0, wds_1, wds_2, wds_3, or_true, true_or, or_false, false_or, or_self, false_and, and_false, d_pos, d_s1, d_s2, d_s3, d_s4, d_s5, d_s6, d_s7, d_s8, Classical.not_not, TR_0 hS, TR_k hS, ni, iif, ifor, d_s9, d_s10, d_s11, d_s12, d_s13, d_s14, d_s15, d_s16, d_s17, d_s18, d_s19, d_s20, d_s21, d_s22, d_s23, d_s24, d_s25, d_s26, d_s27, d_s28, d_s29, d_s30, hs_ne, hcell, hcel1, le_sub1, le_T, le_F, lt_T, lt_F, eq_F, w32_T, bz0, bz1, lc_le, lc_ge, lc_lt, lc_gt, lc_eq]
    by_cases l : h T 15 < 400
    rotate_left
    · exact act_full D l R0
    obtain ⟨a, ar, g1, r1, X1, N1, M1, C1, R1, c81, hp1, c82, v346, v325, c347⟩ := act_st (dep := dep) (e := e) (e2 := e2) D l
    have D1 := X1.2.1
    have N1c := N1
    have M1c := M1
    unfold NC at N1
    unfold NR at M1
    have n1 := D1.nb
    unfold NBR at n1
    have PR : PRA T S s a ar := by unfold PRA; omega
    have jif : ∀ (d : Nat) Q, Sp fz1 (d + 5) 327 [(3, 6603), (3, NV_3251)] ar Q = Q 0 ar := fun d Q => by rw [NV_3251_e, iw_if D1.1.2.2 D1.1.1 D1.2.2.1.2]; exact congrArg (fun x => Q x ar) (if_neg z0)
    have jfor : ∀ (d : Nat) Q, Sp fz1 (d + 5) 327 [(3, 6603), (3, NV_3379)] ar Q = Q 1 ar := fun d Q => by rw [NV_3379_e, iw_for D1.1.2.2 D1.1.1 D1.2.2.1.2]; exact congrArg (fun x => Q x ar) (if_pos z1)
    have fa : ∀ Q, Sp fz1 (e + 14) 45 [(3, 129), (3, NV_435)] a Q = Q 1 a := fun Q => by
      rw [NV_435_e, c45 (d := e + 9) D1.1.2.1 (str_3 D1.2.2.1.1) (by decide) wACTS_e]
      refine congrArg (fun x => Q x a) ?_
      rw [fdW_y z1.1, z1.2]
      rfl
    obtain ⟨h1, g, gr, x1, x2, x3, OO⟩ := for_pair (e := e) (e2 := e2) hB he he2 hdp OB D1 PR (by omega) z1
    obtain ⟨o1, o2⟩ := OO.b D X1 N1c M1c C1 R1
    refine ⟨g, gr, fun Q => ?_, fun Q => ?_, o1, o2⟩
    · simp (implicitDefEqProofs := false) (disch := omega) only [sp80, b80_0, n80_1, b80_2, b80_3, b80_4, b80_5, b80_6, b80_7, b80_8, b80_9, q80_1, q80_2, q80_3, q80_4, q80_5, q80_6, q80_7, q80_8, q80_9, x_aload0, y_call112, y_call117, y_call118, y_call120, y_call121, y_call122, y_call28, y_call45, y_call81, y_call82, y_call83, x_gc_2051, x_gf_2059, x_goto_1, x_goto_9, x_iconst, x_ifCond_ge_2, x_ifCond_ne_1, x_iload1, x_iload2, x_istore2, x_jsr, x_return, x_tsw_8_0_3_4_5_6_7, klp_0, klp_1, klp_2, klp_3, klp_9, KC_0, KC_1, KC_2, KC_3, KC_4, ne_eq, not_false_eq_true, not_true_eq_false, true_and, and_true, and_self, implies_true, eq_self, true_imp_iff, false_implies, Int.reduceEq, Int.reduceNe, Int.reduceMod, Int.reduceMul, Int.reduceAdd, Int.reduceSub, Int.reduceLT, Int.reduceLE, Nat.reduceAdd, Nat.reduceLeDiff, Nat.reduceLT, Nat.reduceSub, reduceIte, wds_n, wds_0, wds_1, wds_2, wds_3, or_true, true_or, or_false, false_or, or_self, false_and, and_false, d_pos, d_s1, d_s2, d_s3, d_s4, d_s5, d_s6, d_s7, d_s8, Classical.not_not, z258_0, TC_0 hT, TC_k hT, c81, hp1, c82, fa, x1, x2, d_s9, d_s10, d_s11, d_s12, d_s13, d_s14, d_s15, d_s16, d_s17, d_s18, d_s19, d_s20, d_s21, d_s22, d_s23, d_s24, d_s25, d_s26, d_s27, d_s28, d_s29, d_s30, hs_ne, hcell, hcel1, le_sub1, le_T, le_F, lt_T, lt_F, eq_F, w32_T, bz0, bz1, lc_le, lc_ge, lc_lt, lc_gt, lc_eq]
    · rw [R0, q345_1]
      simp (implicitDefEqProofs := false) (disch := omega) only [b345_1, n345_2, n345_3, b345_13, q345_1, q345_2, q345_3, q345_13, x_aload0, y_call325, y_call327, y_call346, y_call347, y_call348, y_call360, x_goto_13, x_iconst, x_ifCond_eq_3, x_ifCond_eq_4, x_ifCond_ne_2, x_jsr, x_pop0, x_pop3, x_return, klp_0, klp_1, klp_2, klp_3, klp_9, KC_0, KC_1, KC_2, KC_3, KC_4, ne_eq, not_false_eq_true, not_true_eq_false, true_and, and_true, and_self, implies_true, eq_self, true_imp_iff, false_implies, Int.reduceEq, Int.reduceNe, Int.reduceMod, Int.reduceMul, Int.reduceAdd, Int.reduceSub, Int.reduceLT, Int.reduceLE, Nat.reduceAdd, Nat.reduceLeDiff, Nat.reduceLT, Nat.reduceSub, reduceIte, wds_n, wds_0, wds_1, wds_2, wds_3, or_true, true_or, or_false, false_or, or_self, false_and, and_false, d_pos, d_s1, d_s2, d_s3, d_s4, d_s5, d_s6, d_s7, d_s8, Classical.not_not, TR_0 hS, TR_k hS, v346, v325, c347, jif, jfor, x3, d_s9, d_s10, d_s11, d_s12, d_s13, d_s14, d_s15, d_s16, d_s17, d_s18, d_s19, d_s20, d_s21, d_s22, d_s23, d_s24, d_s25, d_s26, d_s27, d_s28, d_s29, d_s30, hs_ne, hcell, hcel1, le_sub1, le_T, le_F, lt_T, lt_F, eq_F, w32_T, bz0, bz1, lc_le, lc_ge, lc_lt, lc_gt, lc_eq]
  by_cases z2 : tkK tp t s = 1 ∧ wdT tp t s = 7631481
  · have ni : ∀ Q, Sp fz1 (e2 + 14) 329 [(3, 6603)] hr Q = Q 0 hr := fun Q => nm_329n (d := e2 + 8) D zn
    have iif : ∀ (d : Nat) Q, Sp fz1 (d + 5) 327 [(3, 6603), (3, NV_3251)] hr Q = Q 0 hr := fun d Q => by rw [NV_3251_e, iw_if D.1.2.2 D.1.1 D.2.2.1.2]; exact congrArg (fun x => Q x hr) (if_neg z0)
    have ifor : ∀ (d : Nat) Q, Sp fz1 (d + 5) 327 [(3, 6603), (3, NV_3379)] hr Q = Q 0 hr := fun d Q => by rw [NV_3379_e, iw_for D.1.2.2 D.1.1 D.2.2.1.2]; exact congrArg (fun x => Q x hr) (if_neg z1)
    have itry : ∀ (d : Nat) Q, Sp fz1 (d + 5) 327 [(3, 6603), (3, NV_3507)] hr Q = Q 1 hr := fun d Q => by rw [NV_3507_e, iw_try D.1.2.2 D.1.1 D.2.2.1.2]; exact congrArg (fun x => Q x hr) (if_pos z2)
    have R0 : ∀ Q, Sp fz1 (e2 + 15) 345 [(3, 6603)] hr Q = G fz1 (e2 + 15) 345 1 [(3, 6603), (9, 0)] [] hr Q := fun Q => by
      simp (implicitDefEqProofs := false) (disch := omega) only [sp345, n345_0, x_aload0, y_call327, y_call329, y_call332, x_goto_1, x_ifCond_ne_1, x_jsr, klp_0, klp_1, klp_2, klp_3, klp_9, KC_0, KC_1, KC_2, KC_3, KC_4, ne_eq, not_false_eq_true, not_true_eq_false, true_and, and_true, and_self, implies_true, eq_self, true_imp_iff, false_implies, Int.reduceEq, Int.reduceNe, Int.reduceMod, Int.reduceMul, Int.reduceAdd, Int.reduceSub, Int.reduceLT, Int.reduceLE, Nat.reduceAdd, Nat.reduceLeDiff, Nat.reduceLT, Nat.reduceSub, reduceIte, wds_n, wds_0, wds_1, wds_2, wds_3, or_true, true_or, or_false, false_or, or_self, false_and, and_false, d_pos, d_s1, d_s2, d_s3, d_s4, d_s5, d_s6, d_s7, d_s8, Classical.not_not, TR_0 hS, TR_k hS, ni, iif, ifor, itry, d_s9, d_s10, d_s11, d_s12, d_s13, d_s14, d_s15, d_s16, d_s17, d_s18, d_s19, d_s20, d_s21, d_s22, d_s23, d_s24, d_s25, d_s26, d_s27, d_s28, d_s29, d_s30, hs_ne, hcell, hcel1, le_sub1, le_T, le_F, lt_T, lt_F, eq_F, w32_T, bz0, bz1, lc_le, lc_ge, lc_lt, lc_gt, lc_eq]
    by_cases l : h T 15 < 400
    rotate_left
    · exact act_full D l R0
    obtain ⟨a, ar, g1, r1, X1, N1, M1, C1, R1, c81, hp1, c82, v346, v325, c347⟩ := act_st (dep := dep) (e := e) (e2 := e2) D l
    have D1 := X1.2.1
    have N1c := N1
    have M1c := M1
    unfold NC at N1
    unfold NR at M1
    have n1 := D1.nb
    unfold NBR at n1
    have PR : PRA T S s a ar := by unfold PRA; omega
    have jif : ∀ (d : Nat) Q, Sp fz1 (d + 5) 327 [(3, 6603), (3, NV_3251)] ar Q = Q 0 ar := fun d Q => by rw [NV_3251_e, iw_if D1.1.2.2 D1.1.1 D1.2.2.1.2]; exact congrArg (fun x => Q x ar) (if_neg z0)
    have jfor : ∀ (d : Nat) Q, Sp fz1 (d + 5) 327 [(3, 6603), (3, NV_3379)] ar Q = Q 0 ar := fun d Q => by rw [NV_3379_e, iw_for D1.1.2.2 D1.1.1 D1.2.2.1.2]; exact congrArg (fun x => Q x ar) (if_neg z1)
    have jtry : ∀ (d : Nat) Q, Sp fz1 (d + 5) 327 [(3, 6603), (3, NV_3507)] ar Q = Q 1 ar := fun d Q => by rw [NV_3507_e, iw_try D1.1.2.2 D1.1.1 D1.2.2.1.2]; exact congrArg (fun x => Q x ar) (if_pos z2)
    have fa : ∀ Q, Sp fz1 (e + 14) 45 [(3, 129), (3, NV_435)] a Q = Q 2 a := fun Q => by
      rw [NV_435_e, c45 (d := e + 9) D1.1.2.1 (str_3 D1.2.2.1.1) (by decide) wACTS_e]
      refine congrArg (fun x => Q x a) ?_
      rw [fdW_y z2.1, z2.2]
      rfl
    obtain ⟨h1, g, gr, x1, x2, x3, OO⟩ := try_pair (e := e) (e2 := e2) hB he he2 hdp OB D1 PR (by omega) z2
    obtain ⟨o1, o2⟩ := OO.b D X1 N1c M1c C1 R1
    refine ⟨g, gr, fun Q => ?_, fun Q => ?_, o1, o2⟩
    · simp (implicitDefEqProofs := false) (disch := omega) only [sp80, b80_0, n80_1, b80_2, b80_3, b80_4, b80_5, b80_6, b80_7, b80_8, b80_9, q80_1, q80_2, q80_3, q80_4, q80_5, q80_6, q80_7, q80_8, q80_9, x_aload0, y_call112, y_call117, y_call118, y_call120, y_call121, y_call122, y_call28, y_call45, y_call81, y_call82, y_call83, x_gc_2051, x_gf_2059, x_goto_1, x_goto_9, x_iconst, x_ifCond_ge_2, x_ifCond_ne_1, x_iload1, x_iload2, x_istore2, x_jsr, x_return, x_tsw_8_0_3_4_5_6_7, klp_0, klp_1, klp_2, klp_3, klp_9, KC_0, KC_1, KC_2, KC_3, KC_4, ne_eq, not_false_eq_true, not_true_eq_false, true_and, and_true, and_self, implies_true, eq_self, true_imp_iff, false_implies, Int.reduceEq, Int.reduceNe, Int.reduceMod, Int.reduceMul, Int.reduceAdd, Int.reduceSub, Int.reduceLT, Int.reduceLE, Nat.reduceAdd, Nat.reduceLeDiff, Nat.reduceLT, Nat.reduceSub, reduceIte, wds_n, wds_0, wds_1, wds_2, wds_3, or_true, true_or, or_false, false_or, or_self, false_and, and_false, d_pos, d_s1, d_s2, d_s3, d_s4, d_s5, d_s6, d_s7, d_s8, Classical.not_not, z258_0, TC_0 hT, TC_k hT, c81, hp1, c82, fa, x1, x2, d_s9, d_s10, d_s11, d_s12, d_s13, d_s14, d_s15, d_s16, d_s17, d_s18, d_s19, d_s20, d_s21, d_s22, d_s23, d_s24, d_s25, d_s26, d_s27, d_s28, d_s29, d_s30, hs_ne, hcell, hcel1, le_sub1, le_T, le_F, lt_T, lt_F, eq_F, w32_T, bz0, bz1, lc_le, lc_ge, lc_lt, lc_gt, lc_eq]
    · rw [R0, q345_1]
      simp (implicitDefEqProofs := false) (disch := omega) only [b345_1, n345_2, n345_3, n345_4, b345_13, q345_1, q345_2, q345_3, q345_4, q345_13, x_aload0, y_call325, y_call327, y_call346, y_call347, y_call348, y_call360, y_call362, x_goto_13, x_iconst, x_ifCond_eq_3, x_ifCond_eq_4, x_ifCond_eq_5, x_ifCond_ne_2, x_jsr, x_pop0, x_pop3, x_return, klp_0, klp_1, klp_2, klp_3, klp_9, KC_0, KC_1, KC_2, KC_3, KC_4, ne_eq, not_false_eq_true, not_true_eq_false, true_and, and_true, and_self, implies_true, eq_self, true_imp_iff, false_implies, Int.reduceEq, Int.reduceNe, Int.reduceMod, Int.reduceMul, Int.reduceAdd, Int.reduceSub, Int.reduceLT, Int.reduceLE, Nat.reduceAdd, Nat.reduceLeDiff, Nat.reduceLT, Nat.reduceSub, reduceIte, wds_n, wds_0, wds_1, wds_2, wds_3, or_true, true_or, or_false, false_or, or_self, false_and, and_false, d_pos, d_s1, d_s2, d_s3, d_s4, d_s5, d_s6, d_s7, d_s8, Classical.not_not, TR_0 hS, TR_k hS, v346, v325, c347, jif, jfor, jtry, x3, d_s9, d_s10, d_s11, d_s12, d_s13, d_s14, d_s15, d_s16, d_s17, d_s18, d_s19, d_s20, d_s21, d_s22, d_s23, d_s24, d_s25, d_s26, d_s27, d_s28, d_s29, d_s30, hs_ne, hcell, hcel1, le_sub1, le_T, le_F, lt_T, lt_F, eq_F, w32_T, bz0, bz1, lc_le, lc_ge, lc_lt, lc_gt, lc_eq]
  by_cases z3 : tkK tp t s = 1 ∧ wdT tp t s = 491260572517
  · have ni : ∀ Q, Sp fz1 (e2 + 14) 329 [(3, 6603)] hr Q = Q 0 hr := fun Q => nm_329n (d := e2 + 8) D zn
    have iif : ∀ (d : Nat) Q, Sp fz1 (d + 5) 327 [(3, 6603), (3, NV_3251)] hr Q = Q 0 hr := fun d Q => by rw [NV_3251_e, iw_if D.1.2.2 D.1.1 D.2.2.1.2]; exact congrArg (fun x => Q x hr) (if_neg z0)
    have ifor : ∀ (d : Nat) Q, Sp fz1 (d + 5) 327 [(3, 6603), (3, NV_3379)] hr Q = Q 0 hr := fun d Q => by rw [NV_3379_e, iw_for D.1.2.2 D.1.1 D.2.2.1.2]; exact congrArg (fun x => Q x hr) (if_neg z1)
    have itry : ∀ (d : Nat) Q, Sp fz1 (d + 5) 327 [(3, 6603), (3, NV_3507)] hr Q = Q 0 hr := fun d Q => by rw [NV_3507_e, iw_try D.1.2.2 D.1.1 D.2.2.1.2]; exact congrArg (fun x => Q x hr) (if_neg z2)
    have iraise : ∀ (d : Nat) Q, Sp fz1 (d + 5) 327 [(3, 6603), (3, NV_3635)] hr Q = Q 1 hr := fun d Q => by rw [NV_3635_e, iw_raise D.1.2.2 D.1.1 D.2.2.1.2]; exact congrArg (fun x => Q x hr) (if_pos z3)
    have R0 : ∀ Q, Sp fz1 (e2 + 15) 345 [(3, 6603)] hr Q = G fz1 (e2 + 15) 345 1 [(3, 6603), (9, 0)] [] hr Q := fun Q => by
      simp (implicitDefEqProofs := false) (disch := omega) only [sp345, n345_0, x_aload0, y_call327, y_call329, y_call332, x_goto_1, x_ifCond_ne_1, x_jsr, klp_0, klp_1, klp_2, klp_3, klp_9, KC_0, KC_1, KC_2, KC_3, KC_4, ne_eq, not_false_eq_true, not_true_eq_false, true_and, and_true, and_self, implies_true, eq_self, true_imp_iff, false_implies, Int.reduceEq, Int.reduceNe, Int.reduceMod, Int.reduceMul, Int.reduceAdd, Int.reduceSub, Int.reduceLT, Int.reduceLE, Nat.reduceAdd, Nat.reduceLeDiff, Nat.reduceLT, Nat.reduceSub, reduceIte, wds_n, wds_0, wds_1, wds_2, wds_3, or_true, true_or, or_false, false_or, or_self, false_and, and_false, d_pos, d_s1, d_s2, d_s3, d_s4, d_s5, d_s6, d_s7, d_s8, Classical.not_not, TR_0 hS, TR_k hS, ni, iif, ifor, itry, iraise, d_s9, d_s10, d_s11, d_s12, d_s13, d_s14, d_s15, d_s16, d_s17, d_s18, d_s19, d_s20, d_s21, d_s22, d_s23, d_s24, d_s25, d_s26, d_s27, d_s28, d_s29, d_s30, hs_ne, hcell, hcel1, le_sub1, le_T, le_F, lt_T, lt_F, eq_F, w32_T, bz0, bz1, lc_le, lc_ge, lc_lt, lc_gt, lc_eq]
    by_cases l : h T 15 < 400
    rotate_left
    · exact act_full D l R0
    obtain ⟨a, ar, g1, r1, X1, N1, M1, C1, R1, c81, hp1, c82, v346, v325, c347⟩ := act_st (dep := dep) (e := e) (e2 := e2) D l
    have D1 := X1.2.1
    have N1c := N1
    have M1c := M1
    unfold NC at N1
    unfold NR at M1
    have n1 := D1.nb
    unfold NBR at n1
    have PR : PRA T S s a ar := by unfold PRA; omega
    have jif : ∀ (d : Nat) Q, Sp fz1 (d + 5) 327 [(3, 6603), (3, NV_3251)] ar Q = Q 0 ar := fun d Q => by rw [NV_3251_e, iw_if D1.1.2.2 D1.1.1 D1.2.2.1.2]; exact congrArg (fun x => Q x ar) (if_neg z0)
    have jfor : ∀ (d : Nat) Q, Sp fz1 (d + 5) 327 [(3, 6603), (3, NV_3379)] ar Q = Q 0 ar := fun d Q => by rw [NV_3379_e, iw_for D1.1.2.2 D1.1.1 D1.2.2.1.2]; exact congrArg (fun x => Q x ar) (if_neg z1)
    have jtry : ∀ (d : Nat) Q, Sp fz1 (d + 5) 327 [(3, 6603), (3, NV_3507)] ar Q = Q 0 ar := fun d Q => by rw [NV_3507_e, iw_try D1.1.2.2 D1.1.1 D1.2.2.1.2]; exact congrArg (fun x => Q x ar) (if_neg z2)
    have jraise : ∀ (d : Nat) Q, Sp fz1 (d + 5) 327 [(3, 6603), (3, NV_3635)] ar Q = Q 1 ar := fun d Q => by rw [NV_3635_e, iw_raise D1.1.2.2 D1.1.1 D1.2.2.1.2]; exact congrArg (fun x => Q x ar) (if_pos z3)
    have fa : ∀ Q, Sp fz1 (e + 14) 45 [(3, 129), (3, NV_435)] a Q = Q 3 a := fun Q => by
      rw [NV_435_e, c45 (d := e + 9) D1.1.2.1 (str_3 D1.2.2.1.1) (by decide) wACTS_e]
      refine congrArg (fun x => Q x a) ?_
      rw [fdW_y z3.1, z3.2]
      rfl
    obtain ⟨h1, g, gr, x1, x2, x3, OO⟩ := raise_pair (e := e) (e2 := e2) hB he he2 hdp OB D1 PR (by omega) z3
    obtain ⟨o1, o2⟩ := OO.b D X1 N1c M1c C1 R1
    refine ⟨g, gr, fun Q => ?_, fun Q => ?_, o1, o2⟩
    · simp (implicitDefEqProofs := false) (disch := omega) only [sp80, b80_0, n80_1, b80_2, b80_3, b80_4, b80_5, b80_6, b80_7, b80_8, b80_9, q80_1, q80_2, q80_3, q80_4, q80_5, q80_6, q80_7, q80_8, q80_9, x_aload0, y_call112, y_call117, y_call118, y_call120, y_call121, y_call122, y_call28, y_call45, y_call81, y_call82, y_call83, x_gc_2051, x_gf_2059, x_goto_1, x_goto_9, x_iconst, x_ifCond_ge_2, x_ifCond_ne_1, x_iload1, x_iload2, x_istore2, x_jsr, x_return, x_tsw_8_0_3_4_5_6_7, klp_0, klp_1, klp_2, klp_3, klp_9, KC_0, KC_1, KC_2, KC_3, KC_4, ne_eq, not_false_eq_true, not_true_eq_false, true_and, and_true, and_self, implies_true, eq_self, true_imp_iff, false_implies, Int.reduceEq, Int.reduceNe, Int.reduceMod, Int.reduceMul, Int.reduceAdd, Int.reduceSub, Int.reduceLT, Int.reduceLE, Nat.reduceAdd, Nat.reduceLeDiff, Nat.reduceLT, Nat.reduceSub, reduceIte, wds_n, wds_0, wds_1, wds_2, wds_3, or_true, true_or, or_false, false_or, or_self, false_and, and_false, d_pos, d_s1, d_s2, d_s3, d_s4, d_s5, d_s6, d_s7, d_s8, Classical.not_not, z258_0, TC_0 hT, TC_k hT, c81, hp1, c82, fa, x1, x2, d_s9, d_s10, d_s11, d_s12, d_s13, d_s14, d_s15, d_s16, d_s17, d_s18, d_s19, d_s20, d_s21, d_s22, d_s23, d_s24, d_s25, d_s26, d_s27, d_s28, d_s29, d_s30, hs_ne, hcell, hcel1, le_sub1, le_T, le_F, lt_T, lt_F, eq_F, w32_T, bz0, bz1, lc_le, lc_ge, lc_lt, lc_gt, lc_eq]
    · rw [R0, q345_1]
      simp (implicitDefEqProofs := false) (disch := omega) only [b345_1, n345_2, n345_3, n345_4, q345_1, q345_2, q345_3, q345_4, x_aload0, y_call325, y_call327, y_call346, y_call347, y_call348, y_call360, y_call362, x_goto_13, x_iconst, x_ifCond_eq_3, x_ifCond_eq_4, x_ifCond_eq_5, x_ifCond_ne_2, x_jsr, x_pop0, x_pop3, x_return, klp_0, klp_1, klp_2, klp_3, klp_9, KC_0, KC_1, KC_2, KC_3, KC_4, ne_eq, not_false_eq_true, not_true_eq_false, true_and, and_true, and_self, implies_true, eq_self, true_imp_iff, false_implies, Int.reduceEq, Int.reduceNe, Int.reduceMod, Int.reduceMul, Int.reduceAdd, Int.reduceSub, Int.reduceLT, Int.reduceLE, Nat.reduceAdd, Nat.reduceLeDiff, Nat.reduceLT, Nat.reduceSub, reduceIte, wds_n, wds_0, wds_1, wds_2, wds_3, or_true, true_or, or_false, false_or, or_self, false_and, and_false, d_pos, d_s1, d_s2, d_s3, d_s4, d_s5, d_s6, d_s7, d_s8, Classical.not_not, TR_0 hS, TR_k hS, v346, v325, c347, jif, jfor, jtry, jraise, x3, d_s9, d_s10, d_s11, d_s12, d_s13, d_s14, d_s15, d_s16, d_s17, d_s18, d_s19, d_s20, d_s21, d_s22, d_s23, d_s24, d_s25, d_s26, d_s27, d_s28, d_s29, d_s30, hs_ne, hcell, hcel1, le_sub1, le_T, le_F, lt_T, lt_F, eq_F, w32_T, bz0, bz1, lc_le, lc_ge, lc_lt, lc_gt, lc_eq]
  by_cases z4 : tkK tp t s = 1 ∧ wdT tp t s = 1734964837
  · have ni : ∀ Q, Sp fz1 (e2 + 14) 329 [(3, 6603)] hr Q = Q 0 hr := fun Q => nm_329n (d := e2 + 8) D zn
    have iif : ∀ (d : Nat) Q, Sp fz1 (d + 5) 327 [(3, 6603), (3, NV_3251)] hr Q = Q 0 hr := fun d Q => by rw [NV_3251_e, iw_if D.1.2.2 D.1.1 D.2.2.1.2]; exact congrArg (fun x => Q x hr) (if_neg z0)
    have ifor : ∀ (d : Nat) Q, Sp fz1 (d + 5) 327 [(3, 6603), (3, NV_3379)] hr Q = Q 0 hr := fun d Q => by rw [NV_3379_e, iw_for D.1.2.2 D.1.1 D.2.2.1.2]; exact congrArg (fun x => Q x hr) (if_neg z1)
    have itry : ∀ (d : Nat) Q, Sp fz1 (d + 5) 327 [(3, 6603), (3, NV_3507)] hr Q = Q 0 hr := fun d Q => by rw [NV_3507_e, iw_try D.1.2.2 D.1.1 D.2.2.1.2]; exact congrArg (fun x => Q x hr) (if_neg z2)
    have iraise : ∀ (d : Nat) Q, Sp fz1 (d + 5) 327 [(3, 6603), (3, NV_3635)] hr Q = Q 0 hr := fun d Q => by rw [NV_3635_e, iw_raise D.1.2.2 D.1.1 D.2.2.1.2]; exact congrArg (fun x => Q x hr) (if_neg z3)
    have igive : ∀ (d : Nat) Q, Sp fz1 (d + 5) 327 [(3, 6603), (3, NV_3763)] hr Q = Q 1 hr := fun d Q => by rw [NV_3763_e, iw_give D.1.2.2 D.1.1 D.2.2.1.2]; exact congrArg (fun x => Q x hr) (if_pos z4)
    have R0 : ∀ Q, Sp fz1 (e2 + 15) 345 [(3, 6603)] hr Q = G fz1 (e2 + 15) 345 1 [(3, 6603), (9, 0)] [] hr Q := fun Q => by
      simp (implicitDefEqProofs := false) (disch := omega) only [sp345, n345_0, x_aload0, y_call327, y_call329, y_call332, x_goto_1, x_ifCond_ne_1, x_jsr, klp_0, klp_1, klp_2, klp_3, klp_9, KC_0, KC_1, KC_2, KC_3, KC_4, ne_eq, not_false_eq_true, not_true_eq_false, true_and, and_true, and_self, implies_true, eq_self, true_imp_iff, false_implies, Int.reduceEq, Int.reduceNe, Int.reduceMod, Int.reduceMul, Int.reduceAdd, Int.reduceSub, Int.reduceLT, Int.reduceLE, Nat.reduceAdd, Nat.reduceLeDiff, Nat.reduceLT, Nat.reduceSub, reduceIte, wds_n, wds_0, wds_1, wds_2, wds_3, or_true, true_or, or_false, false_or, or_self, false_and, and_false, d_pos, d_s1, d_s2, d_s3, d_s4, d_s5, d_s6, d_s7, d_s8, Classical.not_not, TR_0 hS, TR_k hS, ni, iif, ifor, itry, iraise, igive, d_s9, d_s10, d_s11, d_s12, d_s13, d_s14, d_s15, d_s16, d_s17, d_s18, d_s19, d_s20, d_s21, d_s22, d_s23, d_s24, d_s25, d_s26, d_s27, d_s28, d_s29, d_s30, hs_ne, hcell, hcel1, le_sub1, le_T, le_F, lt_T, lt_F, eq_F, w32_T, bz0, bz1, lc_le, lc_ge, lc_lt, lc_gt, lc_eq]
    by_cases l : h T 15 < 400
    rotate_left
    · exact act_full D l R0
    obtain ⟨a, ar, g1, r1, X1, N1, M1, C1, R1, c81, hp1, c82, v346, v325, c347⟩ := act_st (dep := dep) (e := e) (e2 := e2) D l
    have D1 := X1.2.1
    have N1c := N1
    have M1c := M1
    unfold NC at N1
    unfold NR at M1
    have n1 := D1.nb
    unfold NBR at n1
    have PR : PRA T S s a ar := by unfold PRA; omega
    have jif : ∀ (d : Nat) Q, Sp fz1 (d + 5) 327 [(3, 6603), (3, NV_3251)] ar Q = Q 0 ar := fun d Q => by rw [NV_3251_e, iw_if D1.1.2.2 D1.1.1 D1.2.2.1.2]; exact congrArg (fun x => Q x ar) (if_neg z0)
    have jfor : ∀ (d : Nat) Q, Sp fz1 (d + 5) 327 [(3, 6603), (3, NV_3379)] ar Q = Q 0 ar := fun d Q => by rw [NV_3379_e, iw_for D1.1.2.2 D1.1.1 D1.2.2.1.2]; exact congrArg (fun x => Q x ar) (if_neg z1)
    have jtry : ∀ (d : Nat) Q, Sp fz1 (d + 5) 327 [(3, 6603), (3, NV_3507)] ar Q = Q 0 ar := fun d Q => by rw [NV_3507_e, iw_try D1.1.2.2 D1.1.1 D1.2.2.1.2]; exact congrArg (fun x => Q x ar) (if_neg z2)
    have jraise : ∀ (d : Nat) Q, Sp fz1 (d + 5) 327 [(3, 6603), (3, NV_3635)] ar Q = Q 0 ar := fun d Q => by rw [NV_3635_e, iw_raise D1.1.2.2 D1.1.1 D1.2.2.1.2]; exact congrArg (fun x => Q x ar) (if_neg z3)
    have jgive : ∀ (d : Nat) Q, Sp fz1 (d + 5) 327 [(3, 6603), (3, NV_3763)] ar Q = Q 1 ar := fun d Q => by rw [NV_3763_e, iw_give D1.1.2.2 D1.1.1 D1.2.2.1.2]; exact congrArg (fun x => Q x ar) (if_pos z4)
    have fa : ∀ Q, Sp fz1 (e + 14) 45 [(3, 129), (3, NV_435)] a Q = Q 4 a := fun Q => by
      rw [NV_435_e, c45 (d := e + 9) D1.1.2.1 (str_3 D1.2.2.1.1) (by decide) wACTS_e]
      refine congrArg (fun x => Q x a) ?_
      rw [fdW_y z4.1, z4.2]
      rfl
    obtain ⟨h1, g, gr, x1, x2, x3, OO⟩ := give_pair (e := e) (e2 := e2) hB he he2 hdp OB D1 PR (by omega) z4
    obtain ⟨o1, o2⟩ := OO.b D X1 N1c M1c C1 R1
    refine ⟨g, gr, fun Q => ?_, fun Q => ?_, o1, o2⟩
    · simp (implicitDefEqProofs := false) (disch := omega) only [sp80, b80_0, n80_1, b80_2, b80_3, b80_4, b80_5, b80_6, b80_7, b80_8, b80_9, q80_1, q80_2, q80_3, q80_4, q80_5, q80_6, q80_7, q80_8, q80_9, x_aload0, y_call112, y_call117, y_call118, y_call120, y_call121, y_call122, y_call28, y_call45, y_call81, y_call82, y_call83, x_gc_2051, x_gf_2059, x_goto_1, x_goto_9, x_iconst, x_ifCond_ge_2, x_ifCond_ne_1, x_iload1, x_iload2, x_istore2, x_jsr, x_return, x_tsw_8_0_3_4_5_6_7, klp_0, klp_1, klp_2, klp_3, klp_9, KC_0, KC_1, KC_2, KC_3, KC_4, ne_eq, not_false_eq_true, not_true_eq_false, true_and, and_true, and_self, implies_true, eq_self, true_imp_iff, false_implies, Int.reduceEq, Int.reduceNe, Int.reduceMod, Int.reduceMul, Int.reduceAdd, Int.reduceSub, Int.reduceLT, Int.reduceLE, Nat.reduceAdd, Nat.reduceLeDiff, Nat.reduceLT, Nat.reduceSub, reduceIte, wds_n, wds_0, wds_1, wds_2, wds_3, or_true, true_or, or_false, false_or, or_self, false_and, and_false, d_pos, d_s1, d_s2, d_s3, d_s4, d_s5, d_s6, d_s7, d_s8, Classical.not_not, z258_0, TC_0 hT, TC_k hT, c81, hp1, c82, fa, x1, x2, d_s9, d_s10, d_s11, d_s12, d_s13, d_s14, d_s15, d_s16, d_s17, d_s18, d_s19, d_s20, d_s21, d_s22, d_s23, d_s24, d_s25, d_s26, d_s27, d_s28, d_s29, d_s30, hs_ne, hcell, hcel1, le_sub1, le_T, le_F, lt_T, lt_F, eq_F, w32_T, bz0, bz1, lc_le, lc_ge, lc_lt, lc_gt, lc_eq]
    · rw [R0, q345_1]
      simp (implicitDefEqProofs := false) (disch := omega) only [b345_1, n345_2, n345_3, n345_4, n345_5, q345_1, q345_2, q345_3, q345_4, q345_5, x_aload0, y_call321, y_call325, y_call327, y_call332, y_call346, y_call347, y_call348, y_call360, y_call362, y_call363, x_goto_13, x_goto_7, x_iconst, x_ifCond_eq_3, x_ifCond_eq_4, x_ifCond_eq_5, x_ifCond_eq_8, x_ifCond_ne_2, x_if_icmp_ne_6, x_iload1, x_istore1, x_jsr, x_pop0, x_pop3, x_return, klp_0, klp_1, klp_2, klp_3, klp_9, KC_0, KC_1, KC_2, KC_3, KC_4, ne_eq, not_false_eq_true, not_true_eq_false, true_and, and_true, and_self, implies_true, eq_self, true_imp_iff, false_implies, Int.reduceEq, Int.reduceNe, Int.reduceMod, Int.reduceMul, Int.reduceAdd, Int.reduceSub, Int.reduceLT, Int.reduceLE, Nat.reduceAdd, Nat.reduceLeDiff, Nat.reduceLT, Nat.reduceSub, reduceIte, wds_n, wds_0, wds_1, wds_2, wds_3, or_true, true_or, or_false, false_or, or_self, false_and, and_false, d_pos, d_s1, d_s2, d_s3, d_s4, d_s5, d_s6, d_s7, d_s8, Classical.not_not, TR_0 hS, TR_k hS, v346, v325, c347, jif, jfor, jtry, jraise, jgive, x3, d_s9, d_s10, d_s11, d_s12, d_s13, d_s14, d_s15, d_s16, d_s17, d_s18, d_s19, d_s20, d_s21, d_s22, d_s23, d_s24, d_s25, d_s26, d_s27, d_s28, d_s29, d_s30, hs_ne, hcell, hcel1, le_sub1, le_T, le_F, lt_T, lt_F, eq_F, w32_T, bz0, bz1, lc_le, lc_ge, lc_lt, lc_gt, lc_eq]
  by_cases z5 : tkK tp t s = 1 ∧ wdT tp t s = 1668247673
  · have ni : ∀ Q, Sp fz1 (e2 + 14) 329 [(3, 6603)] hr Q = Q 0 hr := fun Q => nm_329n (d := e2 + 8) D zn
    have iif : ∀ (d : Nat) Q, Sp fz1 (d + 5) 327 [(3, 6603), (3, NV_3251)] hr Q = Q 0 hr := fun d Q => by rw [NV_3251_e, iw_if D.1.2.2 D.1.1 D.2.2.1.2]; exact congrArg (fun x => Q x hr) (if_neg z0)
    have ifor : ∀ (d : Nat) Q, Sp fz1 (d + 5) 327 [(3, 6603), (3, NV_3379)] hr Q = Q 0 hr := fun d Q => by rw [NV_3379_e, iw_for D.1.2.2 D.1.1 D.2.2.1.2]; exact congrArg (fun x => Q x hr) (if_neg z1)
    have itry : ∀ (d : Nat) Q, Sp fz1 (d + 5) 327 [(3, 6603), (3, NV_3507)] hr Q = Q 0 hr := fun d Q => by rw [NV_3507_e, iw_try D.1.2.2 D.1.1 D.2.2.1.2]; exact congrArg (fun x => Q x hr) (if_neg z2)
    have iraise : ∀ (d : Nat) Q, Sp fz1 (d + 5) 327 [(3, 6603), (3, NV_3635)] hr Q = Q 0 hr := fun d Q => by rw [NV_3635_e, iw_raise D.1.2.2 D.1.1 D.2.2.1.2]; exact congrArg (fun x => Q x hr) (if_neg z3)
    have igive : ∀ (d : Nat) Q, Sp fz1 (d + 5) 327 [(3, 6603), (3, NV_3763)] hr Q = Q 0 hr := fun d Q => by rw [NV_3763_e, iw_give D.1.2.2 D.1.1 D.2.2.1.2]; exact congrArg (fun x => Q x hr) (if_neg z4)
    have icopy : ∀ (d : Nat) Q, Sp fz1 (d + 5) 327 [(3, 6603), (3, NV_3891)] hr Q = Q 1 hr := fun d Q => by rw [NV_3891_e, iw_copy D.1.2.2 D.1.1 D.2.2.1.2]; exact congrArg (fun x => Q x hr) (if_pos z5)
    have R0 : ∀ Q, Sp fz1 (e2 + 15) 345 [(3, 6603)] hr Q = G fz1 (e2 + 15) 345 1 [(3, 6603), (9, 0)] [] hr Q := fun Q => by
      simp (implicitDefEqProofs := false) (disch := omega) only [sp345, n345_0, x_aload0, y_call327, y_call329, y_call332, x_goto_1, x_ifCond_ne_1, x_jsr, klp_0, klp_1, klp_2, klp_3, klp_9, KC_0, KC_1, KC_2, KC_3, KC_4, ne_eq, not_false_eq_true, not_true_eq_false, true_and, and_true, and_self, implies_true, eq_self, true_imp_iff, false_implies, Int.reduceEq, Int.reduceNe, Int.reduceMod, Int.reduceMul, Int.reduceAdd, Int.reduceSub, Int.reduceLT, Int.reduceLE, Nat.reduceAdd, Nat.reduceLeDiff, Nat.reduceLT, Nat.reduceSub, reduceIte, wds_n, wds_0, wds_1, wds_2, wds_3, or_true, true_or, or_false, false_or, or_self, false_and, and_false, d_pos, d_s1, d_s2, d_s3, d_s4, d_s5, d_s6, d_s7, d_s8, Classical.not_not, TR_0 hS, TR_k hS, ni, iif, ifor, itry, iraise, igive, icopy, d_s9, d_s10, d_s11, d_s12, d_s13, d_s14, d_s15, d_s16, d_s17, d_s18, d_s19, d_s20, d_s21, d_s22, d_s23, d_s24, d_s25, d_s26, d_s27, d_s28, d_s29, d_s30, hs_ne, hcell, hcel1, le_sub1, le_T, le_F, lt_T, lt_F, eq_F, w32_T, bz0, bz1, lc_le, lc_ge, lc_lt, lc_gt, lc_eq]
    by_cases l : h T 15 < 400
    rotate_left
    · exact act_full D l R0
    obtain ⟨a, ar, g1, r1, X1, N1, M1, C1, R1, c81, hp1, c82, v346, v325, c347⟩ := act_st (dep := dep) (e := e) (e2 := e2) D l
    have D1 := X1.2.1
    have N1c := N1
    have M1c := M1
    unfold NC at N1
    unfold NR at M1
    have n1 := D1.nb
    unfold NBR at n1
    have PR : PRA T S s a ar := by unfold PRA; omega
    have jif : ∀ (d : Nat) Q, Sp fz1 (d + 5) 327 [(3, 6603), (3, NV_3251)] ar Q = Q 0 ar := fun d Q => by rw [NV_3251_e, iw_if D1.1.2.2 D1.1.1 D1.2.2.1.2]; exact congrArg (fun x => Q x ar) (if_neg z0)
    have jfor : ∀ (d : Nat) Q, Sp fz1 (d + 5) 327 [(3, 6603), (3, NV_3379)] ar Q = Q 0 ar := fun d Q => by rw [NV_3379_e, iw_for D1.1.2.2 D1.1.1 D1.2.2.1.2]; exact congrArg (fun x => Q x ar) (if_neg z1)
    have jtry : ∀ (d : Nat) Q, Sp fz1 (d + 5) 327 [(3, 6603), (3, NV_3507)] ar Q = Q 0 ar := fun d Q => by rw [NV_3507_e, iw_try D1.1.2.2 D1.1.1 D1.2.2.1.2]; exact congrArg (fun x => Q x ar) (if_neg z2)
    have jraise : ∀ (d : Nat) Q, Sp fz1 (d + 5) 327 [(3, 6603), (3, NV_3635)] ar Q = Q 0 ar := fun d Q => by rw [NV_3635_e, iw_raise D1.1.2.2 D1.1.1 D1.2.2.1.2]; exact congrArg (fun x => Q x ar) (if_neg z3)
    have jgive : ∀ (d : Nat) Q, Sp fz1 (d + 5) 327 [(3, 6603), (3, NV_3763)] ar Q = Q 0 ar := fun d Q => by rw [NV_3763_e, iw_give D1.1.2.2 D1.1.1 D1.2.2.1.2]; exact congrArg (fun x => Q x ar) (if_neg z4)
    have jcopy : ∀ (d : Nat) Q, Sp fz1 (d + 5) 327 [(3, 6603), (3, NV_3891)] ar Q = Q 1 ar := fun d Q => by rw [NV_3891_e, iw_copy D1.1.2.2 D1.1.1 D1.2.2.1.2]; exact congrArg (fun x => Q x ar) (if_pos z5)
    have fa : ∀ Q, Sp fz1 (e + 14) 45 [(3, 129), (3, NV_435)] a Q = Q 5 a := fun Q => by
      rw [NV_435_e, c45 (d := e + 9) D1.1.2.1 (str_3 D1.2.2.1.1) (by decide) wACTS_e]
      refine congrArg (fun x => Q x a) ?_
      rw [fdW_y z5.1, z5.2]
      rfl
    obtain ⟨h1, g, gr, x1, x2, x3, OO⟩ := copy_pair (e := e) (e2 := e2) hB he he2 hdp OB D1 PR (by omega) z5
    obtain ⟨o1, o2⟩ := OO.b D X1 N1c M1c C1 R1
    refine ⟨g, gr, fun Q => ?_, fun Q => ?_, o1, o2⟩
    · simp (implicitDefEqProofs := false) (disch := omega) only [sp80, b80_0, n80_1, b80_2, b80_3, b80_4, b80_5, b80_6, b80_7, b80_8, b80_9, q80_1, q80_2, q80_3, q80_4, q80_5, q80_6, q80_7, q80_8, q80_9, x_aload0, y_call112, y_call117, y_call118, y_call120, y_call121, y_call122, y_call28, y_call45, y_call81, y_call82, y_call83, x_gc_2051, x_gf_2059, x_goto_1, x_goto_9, x_iconst, x_ifCond_ge_2, x_ifCond_ne_1, x_iload1, x_iload2, x_istore2, x_jsr, x_return, x_tsw_8_0_3_4_5_6_7, klp_0, klp_1, klp_2, klp_3, klp_9, KC_0, KC_1, KC_2, KC_3, KC_4, ne_eq, not_false_eq_true, not_true_eq_false, true_and, and_true, and_self, implies_true, eq_self, true_imp_iff, false_implies, Int.reduceEq, Int.reduceNe, Int.reduceMod, Int.reduceMul, Int.reduceAdd, Int.reduceSub, Int.reduceLT, Int.reduceLE, Nat.reduceAdd, Nat.reduceLeDiff, Nat.reduceLT, Nat.reduceSub, reduceIte, wds_n, wds_0, wds_1, wds_2, wds_3, or_true, true_or, or_false, false_or, or_self, false_and, and_false, d_pos, d_s1, d_s2, d_s3, d_s4, d_s5, d_s6, d_s7, d_s8, Classical.not_not, z258_0, TC_0 hT, TC_k hT, c81, hp1, c82, fa, x1, x2, d_s9, d_s10, d_s11, d_s12, d_s13, d_s14, d_s15, d_s16, d_s17, d_s18, d_s19, d_s20, d_s21, d_s22, d_s23, d_s24, d_s25, d_s26, d_s27, d_s28, d_s29, d_s30, hs_ne, hcell, hcel1, le_sub1, le_T, le_F, lt_T, lt_F, eq_F, w32_T, bz0, bz1, lc_le, lc_ge, lc_lt, lc_gt, lc_eq]
    · rw [R0, q345_1]
      simp (implicitDefEqProofs := false) (disch := omega) only [b345_1, n345_2, n345_3, n345_4, n345_5, n345_8, q345_1, q345_2, q345_3, q345_4, q345_5, q345_8, x_aload0, y_call321, y_call325, y_call327, y_call332, y_call333, y_call346, y_call347, y_call348, y_call349, y_call360, y_call362, y_call363, x_goto_13, x_goto_7, x_iconst, x_ifCond_eq_3, x_ifCond_eq_4, x_ifCond_eq_5, x_ifCond_eq_8, x_ifCond_eq_9, x_ifCond_ne_2, x_if_icmp_ne_6, x_iload1, x_istore1, x_jsr, x_pop0, x_pop3, x_return, klp_0, klp_1, klp_2, klp_3, klp_9, KC_0, KC_1, KC_2, KC_3, KC_4, ne_eq, not_false_eq_true, not_true_eq_false, true_and, and_true, and_self, implies_true, eq_self, true_imp_iff, false_implies, Int.reduceEq, Int.reduceNe, Int.reduceMod, Int.reduceMul, Int.reduceAdd, Int.reduceSub, Int.reduceLT, Int.reduceLE, Nat.reduceAdd, Nat.reduceLeDiff, Nat.reduceLT, Nat.reduceSub, reduceIte, wds_n, wds_0, wds_1, wds_2, wds_3, or_true, true_or, or_false, false_or, or_self, false_and, and_false, d_pos, d_s1, d_s2, d_s3, d_s4, d_s5, d_s6, d_s7, d_s8, Classical.not_not, TR_0 hS, TR_k hS, v346, v325, c347, jif, jfor, jtry, jraise, jgive, jcopy, x3, d_s9, d_s10, d_s11, d_s12, d_s13, d_s14, d_s15, d_s16, d_s17, d_s18, d_s19, d_s20, d_s21, d_s22, d_s23, d_s24, d_s25, d_s26, d_s27, d_s28, d_s29, d_s30, hs_ne, hcell, hcel1, le_sub1, le_T, le_F, lt_T, lt_F, eq_F, w32_T, bz0, bz1, lc_le, lc_ge, lc_lt, lc_gt, lc_eq]
  exact act_no D zn z0 z1 z2 z3 z4 z5
end SM
