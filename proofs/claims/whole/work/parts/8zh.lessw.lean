/-! THE PURE SIDE, 190: lessons whole: printed by wip/tools/gen8zh.py -/
section SM
variable {bX : Int} {tp : Int → Int} {t T S s s1 s2 f : Int} {h hr g gr k kr m mr : HV} {Q : Int → HV → Prop} {d : Nat}
theorem it_lesson {hr0 : HV} {e e2 : Nat} (I : IT tp t T S s h hr) (f0 : ∀ Q, Sp fz1 (e2 + 9) 321 [(3, 6603)] hr0 Q = Q 0 hr) : ∃ g gr, (∀ Q, Sp fz1 (e + 10) 67 [(3, 258)] h Q = Q 0 g) ∧ (∀ Q, Sp fz1 (e2 + 10) 337 [(3, 6603)] hr0 Q = Q 0 gr) ∧ FIC T h g ∧ FIR S hr gr ∧ ((∃ s1, s + 1 ≤ s1 ∧ IT tp t T S s1 g gr) ∨ BXI T S g gr) := by
  have I0 := I
  obtain ⟨D, IB, C, X, RN, RL⟩ := I
  have hT := D.2.1.1.1
  have hS := D.2.1.2.1
  have kT := kTC hT
  have kS := kTR hS
  have N := IB.1
  unfold NBI at N
  have mq : MST 4 = 12 := by decide
  have Cq := C.1 4 (by decide) (by decide)
  have C6 := C.1 6 (by decide) (by decide)
  have m6 := MST_12 (q := 6)
  have S0 := D.sb
  have sb : ∀ a : HV, SAC a (bdH a) := fun a o u => by unfold bdH; rw [hs_ne u, hs_ne u]
  obtain ⟨g1, rr1, x, y, cc1, f1, W⟩ := nn_pair (M := 12) (q := 4) D C (by decide) mq.symm e (e2 + 2)
  have e51 : ∀ Q, Sp fz1 (e + 9) 51 [(3, 258), (0, 4)] h Q = Q x g1 := cc1
  have f1 : ∀ Q, Sp fz1 (e2 + 9) 328 [(3, 6603), (0, 4), (0, 12)] hr Q = Q y rr1 := f1
  have Fn : FIC T h (nmH T h 4 (wdT tp t s)) := by
    unfold nmH
    exact (FIC.st (by omega) hT).trans (FIC.st (by omega) hT)
  have Fr : FIR S hr (nmR S hr 4 (wdT tp t s)) := by
    unfold nmR
    exact (FIR.st (by omega) hS).trans (FIR.st (by omega) hS)
  rcases W with ⟨ex, exy, xm, s1, q1, D1, a1, b1⟩ | ⟨ex, ey, ge, re⟩
  · subst exy
    have CN := C.nm (w := wdT tp t s) (q := 4) hT hS (by decide) (by omega)
    have n1 : nmH T h 4 (wdT tp t s) (T + 598) 4 = h (T + 598) 4 + 1 := hcel1
    have n2 : ∀ p, p ≠ 4 → nmH T h 4 (wdT tp t s) (T + 598) p = h (T + 598) p := fun p u => by unfold nmH; rw [hcell u, hs_ne (by omega)]
    have n3 : ∀ o, o ≠ T + 598 → o ≠ T + 151 + 64 * 4 → nmH T h 4 (wdT tp t s) o = h o := fun o u v => by unfold nmH; rw [hs_ne u, hs_ne v]
    have m1 : ∀ p, p ≠ 4 → nmR S hr 4 (wdT tp t s) (S + 84) p = hr (S + 84) p := fun p u => by unfold nmR; rw [hcell u, hs_ne (by omega)]
    have m3 : ∀ o, o ≠ S + 84 → o ≠ S + 149 → nmR S hr 4 (wdT tp t s) o = hr o := fun o u v => by unfold nmR; rw [hs_ne u, hs_ne v]
    generalize nmH T h 4 (wdT tp t s) = hn at *
    generalize nmR S hr 4 (wdT tp t s) = rn at *
    have y12 : 0 ≤ y ∧ y < 12 := by omega
    -- a faulty end
    have BZ : ∀ (f : Int) (g gr : HV), BXC T f g → BXR S f gr → SAC hn g → BXI T S g gr := fun f g gr B1 B2 z => by
      refine ⟨⟨f, B1, B2⟩, ?_⟩
      rw [z T (by omega), z 258 (by decide), z (T + 598) (by omega), n2 6 (by decide), n3 T (by omega) (by omega), n3 258 (by omega) (by omega)]
      omega
    obtain ⟨g2, rr2, cc2, f58, W⟩ := D1.sign (c := 58) (by decide) e (e2 + 6)
    have e58 : ∀ Q, Sp fz1 (e + 9) 58 [(3, 258), (0, 58)] g1 Q = Q 0 g2 := cc2
    have f58 : ∀ Q, Sp fz1 (e2 + 9) 333 [(3, 6603), (0, 58)] rr1 Q = Q 0 rr2 := f58
    rcases W with ⟨-, s2, q2, D2, a2, b2⟩ | ⟨-, ge, re⟩
    · have h9 : rr2 6603 9 = S := D2.2.1.2.2
      have C2 : CNX T S g2 rr2 := CN.fr (by rw [a2 _ (by omega), a1 _ (by omega)]) (fun q _ _ => by rw [a2 _ (by omega), a1 _ (by omega)]) (by rw [b2.1 _ (by omega), b1.1 _ (by omega)]) (by rw [b2.1 _ (by omega), b1.1 _ (by omega)])
      have A2 : SAC hn g2 := fun o u => by rw [a2 o u, a1 o u]
      have F2 : FIR S hr rr2 := Fr.trans (b1.i.trans b2.i)
      obtain ⟨x2, g3, rr3, y2, t0, f338, W⟩ := old_pair (q := 0) D2 C2 (by decide) e (e2 + 2)
      have f338 : ∀ Q, Sp fz1 (e2 + 9) 338 [(3, 6603), (0, 0)] rr2 Q = Q y2 rr3 := f338
      rcases W with ⟨ey2, x20, x21, p1, s3, q3, D3, a3, b3⟩ | ⟨ex2, ey2, p0, ge, re⟩
      · subst ey2
        have h93 : rr3 6603 9 = S := D3.2.1.2.2
        have D3' : TKX tp t T S s3 g3 (hset rr3 (S + 468) y y2) := D3.stR (by omega)
        have C3 : CNX T S g3 (hset rr3 (S + 468) y y2) := C2.fr (by rw [a3 _ (by omega)]) (fun q _ _ => by rw [a3 _ (by omega)]) (by rw [hs_ne (by omega), b3.1 _ (by omega)]) (by rw [hs_ne (by omega), b3.1 _ (by omega)])
        have A3 : SAC hn g3 := fun o u => by rw [a3 o u, A2 o u]
        have F3 : FIR S hr (hset rr3 (S + 468) y y2) := F2.trans (b3.i.trans (FIR.st (by omega) hS))
        obtain ⟨x3, g4, rr4, y3, t3, f3383, W⟩ := old_pair (q := 3) D3' C3 (by decide) e (e2 + 2)
        have f3383 : ∀ Q, Sp fz1 (e2 + 9) 338 [(3, 6603), (0, 3)] (hset rr3 (S + 468) y y2) Q = Q y3 rr4 := f3383
        rcases W with ⟨ey3, x30, x31, p13, s4, q4, D4, a4, b4⟩ | ⟨ex3, ey3, p0, ge, re⟩
        · subst ey3
          have h94 : rr4 6603 9 = S := D4.2.1.2.2
          have D4' : TKX tp t T S s4 g4 (hset rr4 (S + 532) y y3) := D4.stR (by omega)
          have C4 : CNX T S g4 (hset rr4 (S + 532) y y3) := C3.fr (by rw [a4 _ (by omega)]) (fun q _ _ => by rw [a4 _ (by omega)]) (by rw [hs_ne (by omega), b4.1 _ (by omega)]) (by rw [hs_ne (by omega), b4.1 _ (by omega)])
          have A4 : SAC hn g4 := fun o u => by rw [a4 o u, A3 o u]
          have F4 : FIR S hr (hset rr4 (S + 532) y y3) := F3.trans (b4.i.trans (FIR.st (by omega) hS))
          have Xu := X.2.2.2.2.2.1
          have Xs := sumI_3 (f := hr (S + 660)) (h (T + 598) 4).toNat (fun i i0 i1 => (X.2.2.2.2.1 i i0 (by omega)).2.2.2)
          have hu : 0 ≤ g4 T 11 ∧ g4 T 11 + 3 ≤ 36 := by
            rw [A4 T (by omega), n3 T (by omega) (by omega)]
            omega
          have e468 : hset rr4 (S + 532) y y3 (S + 468) y = y2 := by rw [hs_ne (by omega), b4.1 _ (by omega), hcel1]
          have hs : ∀ i, 0 ≤ i → i < g4 (T + 598) 2 → hset rr4 (S + 532) y y3 (S + 340) i = g4 (T + 790) i := fun i i0 i1 => by
            rw [A4 (T + 598) (by omega), n2 2 (by decide)] at i1
            rw [hs_ne (by omega), b4.1 _ (by omega), hs_ne (by omega), b3.1 _ (by omega), b2.1 _ (by omega), b1.1 _ (by omega), m3 _ (by omega) (by omega), A4 _ (by omega), n3 _ (by omega) (by omega)]
            exact (X.2.1 i i0 i1).2.2.1
          have c0 := C2.1 0 (by decide) (by decide)
          have m0 := MST_12 (q := 0)
          obtain ⟨g, gr, x67, gd, xr, W⟩ := less_staff (x := y) (x2 := y2) (x3 := y3) (e := e) (e2 := e2) D4' C4 p13 y12 ⟨x20, by omega⟩ hu e468 hs
          have EC : ∀ Q, Sp fz1 (e + 10) 67 [(3, 258)] h Q = Q 0 g := fun Q => by
            simp (implicitDefEqProofs := false) (disch := omega) only [sp67, b67_0, b67_2, q67_2, x_aload0, y_call28, y_call51, y_call58, y_call65, x_gc_2051, x_goto_2, x_goto_4, x_iconst, x_ifCond_lt_1, x_ifCond_lt_3, x_iload2, x_iload3, x_istore1, x_istore2, x_istore3, klp_0, klp_1, klp_2, klp_3, klp_9, KC_0, KC_1, KC_2, KC_3, KC_4, ne_eq, not_false_eq_true, not_true_eq_false, true_and, and_true, and_self, implies_true, eq_self, true_imp_iff, false_implies, Int.reduceEq, Int.reduceNe, Int.reduceMod, Int.reduceMul, Int.reduceAdd, Int.reduceSub, Int.reduceLT, Int.reduceLE, Nat.reduceAdd, Nat.reduceLeDiff, Nat.reduceLT, Nat.reduceSub, reduceIte, wds_n, wds_0, wds_1, wds_2, wds_3, or_true, true_or, or_false, false_or, or_self, false_and, and_false, d_pos, d_s1, d_s2, d_s3, d_s4, d_s5, d_s6, d_s7, d_s8, Classical.not_not, c6 hT, c6l hT, c6k hT, c7 hT, c7l hT, c7k hT, c8 hT, c8l hT, c8k hT, z258_0, TC_0 hT, TC_k hT, e51, e58, t0, p1, t3, x67, d_s9, d_s10, d_s11, d_s12, d_s13, d_s14, d_s15, d_s16, d_s17, d_s18, d_s19, d_s20, d_s21, d_s22, d_s23, d_s24, d_s25, d_s26, d_s27, d_s28, d_s29, d_s30, hs_ne, hcell, hcel1, le_sub1, le_T, le_F, lt_T, lt_F, eq_F, w32_T, bz0, bz1, lc_le, lc_ge, lc_lt, lc_gt, lc_eq]
          have ER : ∀ Q, Sp fz1 (e2 + 10) 337 [(3, 6603)] hr0 Q = Q 0 gr := fun Q => by
            rcases xr with ⟨ri, wt, yy, tl, x337⟩ | ⟨ri, x337⟩
            · simp (implicitDefEqProofs := false) (disch := omega) only [sp337, b337_0, x_aload0, y_call321, y_call325, y_call328, y_call329, y_call330, y_call331, y_call333, y_call338, x_gc_12339, x_gc_12347, x_gf_11339, x_goto_2, x_iastore, x_iconst, x_ifCond_eq_1, x_iload1, x_istore1, klp_0, klp_1, klp_2, klp_3, klp_9, KC_0, KC_1, KC_2, KC_3, KC_4, ne_eq, not_false_eq_true, not_true_eq_false, true_and, and_true, and_self, implies_true, eq_self, true_imp_iff, false_implies, Int.reduceEq, Int.reduceNe, Int.reduceMod, Int.reduceMul, Int.reduceAdd, Int.reduceSub, Int.reduceLT, Int.reduceLE, Nat.reduceAdd, Nat.reduceLeDiff, Nat.reduceLT, Nat.reduceSub, reduceIte, wds_n, wds_0, wds_1, wds_2, wds_3, or_true, true_or, or_false, false_or, or_self, false_and, and_false, d_pos, d_s1, d_s2, d_s3, d_s4, d_s5, d_s6, d_s7, d_s8, Classical.not_not, r4 hS, r4l hS, r4k hS, r6 hS, r6l hS, r6k hS, r7 hS, r7l hS, r7k hS, r8 hS, r8l hS, r8k hS, r9 hS, r9l hS, r9k hS, TR_0 hS, TR_k hS, f0, f1, h9, f58, f338, h93, f3383, h94, gd, ri, wt, tl, x337, d_s9, d_s10, d_s11, d_s12, d_s13, d_s14, d_s15, d_s16, d_s17, d_s18, d_s19, d_s20, d_s21, d_s22, d_s23, d_s24, d_s25, d_s26, d_s27, d_s28, d_s29, d_s30, hs_ne, hcell, hcel1, le_sub1, le_T, le_F, lt_T, lt_F, eq_F, w32_T, bz0, bz1, lc_le, lc_ge, lc_lt, lc_gt, lc_eq]
            · simp (implicitDefEqProofs := false) (disch := omega) only [sp337, b337_0, x_aload0, y_call321, y_call325, y_call328, y_call329, y_call330, y_call331, y_call333, y_call338, x_gc_12339, x_gc_12347, x_gf_11339, x_goto_2, x_iastore, x_iconst, x_ifCond_eq_1, x_iload1, x_istore1, klp_0, klp_1, klp_2, klp_3, klp_9, KC_0, KC_1, KC_2, KC_3, KC_4, ne_eq, not_false_eq_true, not_true_eq_false, true_and, and_true, and_self, implies_true, eq_self, true_imp_iff, false_implies, Int.reduceEq, Int.reduceNe, Int.reduceMod, Int.reduceMul, Int.reduceAdd, Int.reduceSub, Int.reduceLT, Int.reduceLE, Nat.reduceAdd, Nat.reduceLeDiff, Nat.reduceLT, Nat.reduceSub, reduceIte, wds_n, wds_0, wds_1, wds_2, wds_3, or_true, true_or, or_false, false_or, or_self, false_and, and_false, d_pos, d_s1, d_s2, d_s3, d_s4, d_s5, d_s6, d_s7, d_s8, Classical.not_not, r4 hS, r4l hS, r4k hS, r6 hS, r6l hS, r6k hS, r7 hS, r7l hS, r7k hS, r8 hS, r8l hS, r8k hS, r9 hS, r9l hS, r9k hS, TR_0 hS, TR_k hS, f0, f1, h9, f58, f338, h93, f3383, h94, gd, ri, x337, d_s9, d_s10, d_s11, d_s12, d_s13, d_s14, d_s15, d_s16, d_s17, d_s18, d_s19, d_s20, d_s21, d_s22, d_s23, d_s24, d_s25, d_s26, d_s27, d_s28, d_s29, d_s30, hs_ne, hcell, hcel1, le_sub1, le_T, le_F, lt_T, lt_F, eq_F, w32_T, bz0, bz1, lc_le, lc_ge, lc_lt, lc_gt, lc_eq]
          rcases W with ⟨x4, v, s5, g3', r1', r2', q5, hx4, hv, D5, eg, u3, u4, u5, u6⟩ | ⟨⟨f, B1, B2⟩, Sb, Fb⟩
          · have hvn : ((v.toNat : Nat) : Int) = v := by omega
            have A5 : SAC hn g3' := fun o u => by rw [u3 o u, A4 o u]
            obtain ⟨H, hH⟩ : ∃ a, a = hset (hset (hset g3' (T + 918) y y2) (T + 982) y y3) (T + 1046) y x4 := ⟨_, rfl⟩
            rw [← hH] at eg
            have cH : ∀ o, o ≠ 129 → o ≠ T + 918 → o ≠ T + 982 → o ≠ T + 1046 → H o = hn o := fun o u v1 v2 v3 => by rw [hH, hs_ne v3, hs_ne v2, hs_ne v1, A5 o u]
            have cg : ∀ o, o ≠ T → o ≠ T + 1174 → g o = H o := fun o a b => by rw [eg, un_o a b]
            have cT : ∀ i, i ≠ 11 → g T i = h T i := fun i u => by rw [eg, un_i hT u, cH T (by omega) (by omega) (by omega) (by omega), n3 T (by omega) (by omega)]
            have H11 : H T 11 = h T 11 := by rw [cH T (by omega) (by omega) (by omega) (by omega), n3 T (by omega) (by omega)]
            have H74 : ∀ i, H (T + 1174) i = h (T + 1174) i := fun i => by rw [cH (T + 1174) (by omega) (by omega) (by omega) (by omega), n3 (T + 1174) (by omega) (by omega)]
            have c11 : g T 11 = h T 11 + v := by rw [eg, un_T hT, H11, hvn]
            have cF : ∀ o, o ≠ 129 → o ≠ T → o ≠ T + 1174 → o ≠ T + 918 → o ≠ T + 982 → o ≠ T + 1046 → g o = hn o := fun o u1 u2 u3 u4 u5 u6 => by rw [cg o u2 u3, cH o u1 u4 u5 u6]
            have dF : ∀ o, o ≠ 6603 → o ≠ S + 468 → o ≠ S + 532 → o ≠ S + 596 → o ≠ S + 660 → gr o = rn o := fun o w0 w1 w2 w3 w4 => by rw [u6.1 o w0, hs_ne w4, u5.1 o w0, u4.1 o w0, hs_ne w3, hs_ne w2, b4.1 o w0, hs_ne w1, b3.1 o w0, b2.1 o w0, b1.1 o w0]
            have d3 : ∀ i, i ≠ 2 → i ≠ 3 → i ≠ 4 → i ≠ 5 → i ≠ 6 → gr 6603 i = hr 6603 i := fun i z1 z2 z3 z4 z5 => by rw [u6.2 i z1 z2 z3 z4 z5, hs_ne (by omega), u5.2 i z1 z2 z3 z4 z5, u4.2 i z1 z2 z3 z4 z5, hs_ne (by omega), hs_ne (by omega), b4.2 i z1 z2 z3 z4 z5, hs_ne (by omega), b3.2 i z1 z2 z3 z4 z5, b2.2 i z1 z2 z3 z4 z5, b1.2 i z1 z2 z3 z4 z5, m3 6603 (by omega) (by omega)]
            have Z := I0.fr (s1 := s5) (g := g) (gr := gr) (by omega) hT hS (by rw [cF 258 (by decide) (by omega) (by omega) (by omega) (by omega) (by omega), n3 258 (by omega) (by omega)]) cT (fun o u w => by rw [cF o u (by omega) (by omega) (by omega) (by omega) (by omega), n3 o (by omega) (by omega)]) (by rw [cF (T + 598) (by omega) (by omega) (by omega) (by omega) (by omega) (by omega), n2 6 (by decide)]) d3 (by rw [dF (S + 84) (by omega) (by omega) (by omega) (by omega) (by omega), m1 6 (by decide)]) (fun o u w => by rw [dF o u (by omega) (by omega) (by omega) (by omega), m3 o (by omega) (by omega)])
            have k1 : g (T + 918) y = y2 := by rw [cg _ (by omega) (by omega), hH, hs_ne (by omega), hs_ne (by omega), hcel1]
            have k2 : g (T + 982) y = y3 := by rw [cg _ (by omega) (by omega), hH, hs_ne (by omega), hcel1]
            have k3 : g (T + 1046) y = x4 := by rw [cg _ (by omega) (by omega), hH, hcel1]
            have j1 : gr (S + 468) y = y2 := by rw [u6.1 _ (by omega), hs_ne (by omega), u5.1 _ (by omega), u4.1 _ (by omega), hs_ne (by omega)]; exact e468
            have j2 : gr (S + 532) y = y3 := by rw [u6.1 _ (by omega), hs_ne (by omega), u5.1 _ (by omega), u4.1 _ (by omega), hs_ne (by omega), hcel1]
            have j3 : gr (S + 596) y = x4 := by rw [u6.1 _ (by omega), hs_ne (by omega), u5.1 _ (by omega), u4.1 _ (by omega), hcel1]
            have j4 : gr (S + 660) y = v := by rw [u6.1 _ (by omega), hcel1]
            have y2b : y2 < 12 := by omega
            rw [a3 (T + 598) (by omega), A2 (T + 598) (by omega), n2 3 (by decide)] at x31
            rw [A4 (T + 598) (by omega), n2 2 (by decide)] at hx4
            refine ⟨g, gr, EC, ER, ?_, F4.trans (FIR.trans (FIR.st (by omega) hS) (u4.i.trans (u5.i.trans (FIR.trans (FIR.st (by omega) hS) u6.i)))), .inl ⟨s5, by omega, D5, Z.1, CN.fr (cF _ (by omega) (by omega) (by omega) (by omega) (by omega) (by omega)) (fun q _ _ => cF _ (by omega) (by omega) (by omega) (by omega) (by omega) (by omega)) (dF _ (by omega) (by omega) (by omega) (by omega) (by omega)) (dF _ (by omega) (by omega) (by omega) (by omega) (by omega)), ?_, Z.2⟩⟩
            · rw [eg]
              refine Fn.trans (A5.i.trans (FIC.trans ?_ (TXun hT)))
              rw [hH]
              exact (FIC.st (by omega) hT).trans ((FIC.st (by omega) hT).trans (FIC.st (by omega) hT))
            · refine X.a4 (n := y) ex y12 (fun k k1 k5 k6 => by rw [cF (T + 598) (by omega) (by omega) (by omega) (by omega) (by omega) (by omega), n2 k k6]) (by rw [cF (T + 598) (by omega) (by omega) (by omega) (by omega) (by omega) (by omega), n1, ex]) (fun i u => ⟨⟨?_, ?_, ?_⟩, ?_, ?_, ?_, ?_⟩) (by rw [j1, k1]; exact ⟨rfl, x20, y2b⟩) (by rw [j2, k2]; exact ⟨rfl, x30, x31⟩) (by rw [j3, k3]; exact ⟨rfl, hx4⟩) (by rw [j4]; omega) (by rw [c11, j4]) (fun i w => by rw [eg, un_n _ (by rw [H11]; omega), H74]) (fun i w1 w2 => by rw [j4] at w2; rw [eg, un_y _ (by rw [H11]; exact w1) (by rw [H11, hvn]; exact w2)]) ⟨?_, ?_, ?_, ?_, ?_⟩ ⟨?_, ?_, ?_, ?_, ?_⟩
              · rw [cg _ (by omega) (by omega), hH, hs_ne (by omega), hs_ne (by omega), hcell u, A5 _ (by omega), n3 _ (by omega) (by omega)]
              · rw [cg _ (by omega) (by omega), hH, hs_ne (by omega), hcell u, hs_ne (by omega), A5 _ (by omega), n3 _ (by omega) (by omega)]
              · rw [cg _ (by omega) (by omega), hH, hcell u, hs_ne (by omega), hs_ne (by omega), A5 _ (by omega), n3 _ (by omega) (by omega)]
              · rw [u6.1 _ (by omega), hs_ne (by omega), u5.1 _ (by omega), u4.1 _ (by omega), hs_ne (by omega), hs_ne (by omega), b4.1 _ (by omega), hcell u, b3.1 _ (by omega), b2.1 _ (by omega), b1.1 _ (by omega), m3 _ (by omega) (by omega)]
              · rw [u6.1 _ (by omega), hs_ne (by omega), u5.1 _ (by omega), u4.1 _ (by omega), hs_ne (by omega), hcell u, b4.1 _ (by omega), hs_ne (by omega), b3.1 _ (by omega), b2.1 _ (by omega), b1.1 _ (by omega), m3 _ (by omega) (by omega)]
              · rw [u6.1 _ (by omega), hs_ne (by omega), u5.1 _ (by omega), u4.1 _ (by omega), hcell u, hs_ne (by omega), b4.1 _ (by omega), hs_ne (by omega), b3.1 _ (by omega), b2.1 _ (by omega), b1.1 _ (by omega), m3 _ (by omega) (by omega)]
              · rw [u6.1 _ (by omega), hcell u, u5.1 _ (by omega), u4.1 _ (by omega), hs_ne (by omega), hs_ne (by omega), b4.1 _ (by omega), hs_ne (by omega), b3.1 _ (by omega), b2.1 _ (by omega), b1.1 _ (by omega), m3 _ (by omega) (by omega)]
              all_goals (first | (rw [cF _ (by omega) (by omega) (by omega) (by omega) (by omega) (by omega), n3 _ (by omega) (by omega)]) | (rw [dF _ (by omega) (by omega) (by omega) (by omega) (by omega), m3 _ (by omega) (by omega)]))
          · exact ⟨g, gr, EC, ER, Fn.trans (SAC.i (fun o u => by rw [Sb o u, A4 o u])), F4.trans Fb, .inr (BZ _ _ _ B1 B2 (fun o u => by rw [Sb o u, A4 o u]))⟩
        · have B1 : BXC T s3 g4 := by rw [ge]; exact D3'.bad.1
          have B2 : BXR S s3 rr4 := by rw [re]; exact D3'.bad.2
          have h94 : rr4 6603 9 = S := B2.1.2
          have Sb : SAC g3 g4 := by rw [ge]; exact sb g3
          have Fb : FIR S (hset rr3 (S + 468) y y2) rr4 := by rw [re]; exact FIR.bd
          have nx := fun Q => c67_4 (Q := Q) (x := y) (x2 := y2) (x3 := -1) (a := 0) (u4 := (9, 0)) (u5 := (9, 0)) (e := e) (h0 := g3) B1 p0
          obtain ⟨gr, B3, Fl, x1, x2'⟩ := l1 (e2 := e2) (n2 := (9, 0)) (B2.st (o := S + 532) (i := y) (v := y3) (by omega)) y12
          subst ex3 ey3
          have x2 := x2'
          refine ⟨g4, gr, fun Q => ?_, fun Q => ?_, Fn.trans (SAC.i (fun o u => by rw [Sb o u, A3 o u])), F3.trans (Fb.trans (FIR.trans (FIR.st (by omega) hS) Fl)), .inr (BZ _ _ _ B1 B3 (fun o u => by rw [Sb o u, A3 o u]))⟩
          · simp (implicitDefEqProofs := false) (disch := omega) only [sp67, b67_0, b67_2, b67_3, q67_2, q67_3, x_aload0, y_call28, y_call51, y_call58, y_call65, x_gc_2051, x_goto_2, x_goto_4, x_iconst, x_ifCond_lt_1, x_ifCond_lt_3, x_iload2, x_iload3, x_istore1, x_istore2, x_istore3, klp_0, klp_1, klp_2, klp_3, klp_9, KC_0, KC_1, KC_2, KC_3, KC_4, ne_eq, not_false_eq_true, not_true_eq_false, true_and, and_true, and_self, implies_true, eq_self, true_imp_iff, false_implies, Int.reduceEq, Int.reduceNe, Int.reduceMod, Int.reduceMul, Int.reduceAdd, Int.reduceSub, Int.reduceLT, Int.reduceLE, Nat.reduceAdd, Nat.reduceLeDiff, Nat.reduceLT, Nat.reduceSub, reduceIte, wds_n, wds_0, wds_1, wds_2, wds_3, or_true, true_or, or_false, false_or, or_self, false_and, and_false, d_pos, d_s1, d_s2, d_s3, d_s4, d_s5, d_s6, d_s7, d_s8, Classical.not_not, c6 hT, c6l hT, c6k hT, c7 hT, c7l hT, c7k hT, c8 hT, c8l hT, c8k hT, z258_0, TC_0 hT, TC_k hT, e51, e58, t0, p1, t3, nx, d_s9, d_s10, d_s11, d_s12, d_s13, d_s14, d_s15, d_s16, d_s17, d_s18, d_s19, d_s20, d_s21, d_s22, d_s23, d_s24, d_s25, d_s26, d_s27, d_s28, d_s29, d_s30, hs_ne, hcell, hcel1, le_sub1, le_T, le_F, lt_T, lt_F, eq_F, w32_T, bz0, bz1, lc_le, lc_ge, lc_lt, lc_gt, lc_eq]
          · simp (implicitDefEqProofs := false) (disch := omega) only [sp337, b337_0, x_aload0, y_call321, y_call325, y_call328, y_call329, y_call330, y_call331, y_call333, y_call338, x_gc_12339, x_gc_12347, x_gf_11339, x_goto_2, x_iastore, x_iconst, x_ifCond_eq_1, x_iload1, x_istore1, klp_0, klp_1, klp_2, klp_3, klp_9, KC_0, KC_1, KC_2, KC_3, KC_4, ne_eq, not_false_eq_true, not_true_eq_false, true_and, and_true, and_self, implies_true, eq_self, true_imp_iff, false_implies, Int.reduceEq, Int.reduceNe, Int.reduceMod, Int.reduceMul, Int.reduceAdd, Int.reduceSub, Int.reduceLT, Int.reduceLE, Nat.reduceAdd, Nat.reduceLeDiff, Nat.reduceLT, Nat.reduceSub, reduceIte, wds_n, wds_0, wds_1, wds_2, wds_3, or_true, true_or, or_false, false_or, or_self, false_and, and_false, d_pos, d_s1, d_s2, d_s3, d_s4, d_s5, d_s6, d_s7, d_s8, Classical.not_not, r4 hS, r4l hS, r4k hS, r6 hS, r6l hS, r6k hS, r7 hS, r7l hS, r7k hS, r8 hS, r8l hS, r8k hS, r9 hS, r9l hS, r9k hS, TR_0 hS, TR_k hS, f0, f1, h9, f58, f338, h93, f3383, h94, x1, x2, d_s9, d_s10, d_s11, d_s12, d_s13, d_s14, d_s15, d_s16, d_s17, d_s18, d_s19, d_s20, d_s21, d_s22, d_s23, d_s24, d_s25, d_s26, d_s27, d_s28, d_s29, d_s30, hs_ne, hcell, hcel1, le_sub1, le_T, le_F, lt_T, lt_F, eq_F, w32_T, bz0, bz1, lc_le, lc_ge, lc_lt, lc_gt, lc_eq]
      · have B1 : BXC T s2 g3 := by rw [ge]; exact D2.bad.1
        have B2 : BXR S s2 rr3 := by rw [re]; exact D2.bad.2
        have h93 : rr3 6603 9 = S := B2.1.2
        have Sb : SAC g2 g3 := by rw [ge]; exact sb g2
        have Fb : FIR S rr2 rr3 := by rw [re]; exact FIR.bd
        have nx := fun Q => c67_2 (Q := Q) (x := y) (x2 := -1) (a := 0) (u3 := (9, 0)) (u4 := (9, 0)) (u5 := (9, 0)) (e := e) (h0 := g2) B1 p0
        obtain ⟨r2, gr, B3, Fl, y1, x1, x2', x3⟩ := l0b (e2 := e2) (n2 := (9, 0)) (B2.st (o := S + 468) (i := y) (v := 0) (by omega)) y12
        subst ex2 ey2
        have x2 := x2'
        refine ⟨g3, gr, fun Q => ?_, fun Q => ?_, Fn.trans (SAC.i (fun o u => by rw [Sb o u, A2 o u])), F2.trans (Fb.trans (FIR.trans (FIR.st (by omega) hS) Fl)), .inr (BZ _ _ _ B1 B3 (fun o u => by rw [Sb o u, A2 o u]))⟩
        · simp (implicitDefEqProofs := false) (disch := omega) only [sp67, b67_0, b67_1, q67_1, x_aload0, y_call51, y_call58, y_call65, x_gc_2051, x_goto_2, x_iconst, x_ifCond_lt_1, x_iload2, x_istore1, x_istore2, klp_0, klp_1, klp_2, klp_3, klp_9, KC_0, KC_1, KC_2, KC_3, KC_4, ne_eq, not_false_eq_true, not_true_eq_false, true_and, and_true, and_self, implies_true, eq_self, true_imp_iff, false_implies, Int.reduceEq, Int.reduceNe, Int.reduceMod, Int.reduceMul, Int.reduceAdd, Int.reduceSub, Int.reduceLT, Int.reduceLE, Nat.reduceAdd, Nat.reduceLeDiff, Nat.reduceLT, Nat.reduceSub, reduceIte, wds_n, wds_0, wds_1, wds_2, wds_3, or_true, true_or, or_false, false_or, or_self, false_and, and_false, d_pos, d_s1, d_s2, d_s3, d_s4, d_s5, d_s6, d_s7, d_s8, Classical.not_not, c6 hT, c6l hT, c6k hT, c7 hT, c7l hT, c7k hT, c8 hT, c8l hT, c8k hT, z258_0, TC_0 hT, TC_k hT, e51, e58, t0, nx, d_s9, d_s10, d_s11, d_s12, d_s13, d_s14, d_s15, d_s16, d_s17, d_s18, d_s19, d_s20, d_s21, d_s22, d_s23, d_s24, d_s25, d_s26, d_s27, d_s28, d_s29, d_s30, hs_ne, hcell, hcel1, le_sub1, le_T, le_F, lt_T, lt_F, eq_F, w32_T, bz0, bz1, lc_le, lc_ge, lc_lt, lc_gt, lc_eq]
        · simp (implicitDefEqProofs := false) (disch := omega) only [sp337, b337_0, x_aload0, y_call321, y_call325, y_call328, y_call329, y_call330, y_call331, y_call333, y_call338, x_gc_12339, x_gc_12347, x_gf_11339, x_goto_2, x_iastore, x_iconst, x_ifCond_eq_1, x_iload1, x_istore1, klp_0, klp_1, klp_2, klp_3, klp_9, KC_0, KC_1, KC_2, KC_3, KC_4, ne_eq, not_false_eq_true, not_true_eq_false, true_and, and_true, and_self, implies_true, eq_self, true_imp_iff, false_implies, Int.reduceEq, Int.reduceNe, Int.reduceMod, Int.reduceMul, Int.reduceAdd, Int.reduceSub, Int.reduceLT, Int.reduceLE, Nat.reduceAdd, Nat.reduceLeDiff, Nat.reduceLT, Nat.reduceSub, reduceIte, wds_n, wds_0, wds_1, wds_2, wds_3, or_true, true_or, or_false, false_or, or_self, false_and, and_false, d_pos, d_s1, d_s2, d_s3, d_s4, d_s5, d_s6, d_s7, d_s8, Classical.not_not, r4 hS, r4l hS, r4k hS, r6 hS, r6l hS, r6k hS, r7 hS, r7l hS, r7k hS, r8 hS, r8l hS, r8k hS, r9 hS, r9l hS, r9k hS, TR_0 hS, TR_k hS, f0, f1, h9, f58, f338, h93, y1, x1, x2, x3, d_s9, d_s10, d_s11, d_s12, d_s13, d_s14, d_s15, d_s16, d_s17, d_s18, d_s19, d_s20, d_s21, d_s22, d_s23, d_s24, d_s25, d_s26, d_s27, d_s28, d_s29, d_s30, hs_ne, hcell, hcel1, le_sub1, le_T, le_F, lt_T, lt_F, eq_F, w32_T, bz0, bz1, lc_le, lc_ge, lc_lt, lc_gt, lc_eq]
    · have B1 : BXC T s1 g2 := by rw [ge]; exact D1.bad.1
      have B2 : BXR S s1 rr2 := by rw [re]; exact D1.bad.2
      have h9 : rr2 6603 9 = S := B2.1.2
      have Sb : SAC g1 g2 := by rw [ge]; exact sb g1
      have Fb : FIR S rr1 rr2 := by rw [re]; exact FIR.bd
      have t0 : ∀ Q, Sp fz1 (e + 9) 65 [(3, 258), (0, 0)] g2 Q = Q (-1) g2 := fun Q => B1.td (d := e + 2)
      have nx := fun Q => c67_2 (Q := Q) (x := y) (x2 := -1) (a := 0) (u3 := (9, 0)) (u4 := (9, 0)) (u5 := (9, 0)) (e := e) (h0 := g2) B1 (fun Q => B1.p28)
      obtain ⟨r1, r2, gr, B3, Fl, y1, x0, x1, x2, x3⟩ := l0a (e2 := e2) (n2 := (9, 0)) B2 y12
      refine ⟨g2, gr, fun Q => ?_, fun Q => ?_, Fn.trans (a1.i.trans Sb.i), Fr.trans (b1.i.trans (Fb.trans Fl)), .inr (BZ _ _ _ B1 B3 (fun o u => by rw [Sb o u, a1 o u]))⟩
      · simp (implicitDefEqProofs := false) (disch := omega) only [sp67, b67_0, b67_1, q67_1, x_aload0, y_call51, y_call58, y_call65, x_gc_2051, x_goto_2, x_iconst, x_ifCond_lt_1, x_iload2, x_istore1, x_istore2, klp_0, klp_1, klp_2, klp_3, klp_9, KC_0, KC_1, KC_2, KC_3, KC_4, ne_eq, not_false_eq_true, not_true_eq_false, true_and, and_true, and_self, implies_true, eq_self, true_imp_iff, false_implies, Int.reduceEq, Int.reduceNe, Int.reduceMod, Int.reduceMul, Int.reduceAdd, Int.reduceSub, Int.reduceLT, Int.reduceLE, Nat.reduceAdd, Nat.reduceLeDiff, Nat.reduceLT, Nat.reduceSub, reduceIte, wds_n, wds_0, wds_1, wds_2, wds_3, or_true, true_or, or_false, false_or, or_self, false_and, and_false, d_pos, d_s1, d_s2, d_s3, d_s4, d_s5, d_s6, d_s7, d_s8, Classical.not_not, c6 hT, c6l hT, c6k hT, c7 hT, c7l hT, c7k hT, c8 hT, c8l hT, c8k hT, z258_0, TC_0 hT, TC_k hT, e51, e58, t0, nx, d_s9, d_s10, d_s11, d_s12, d_s13, d_s14, d_s15, d_s16, d_s17, d_s18, d_s19, d_s20, d_s21, d_s22, d_s23, d_s24, d_s25, d_s26, d_s27, d_s28, d_s29, d_s30, hs_ne, hcell, hcel1, le_sub1, le_T, le_F, lt_T, lt_F, eq_F, w32_T, bz0, bz1, lc_le, lc_ge, lc_lt, lc_gt, lc_eq]
      · simp (implicitDefEqProofs := false) (disch := omega) only [sp337, b337_0, x_aload0, y_call321, y_call325, y_call328, y_call329, y_call330, y_call331, y_call333, y_call338, x_gc_12339, x_gc_12347, x_gf_11339, x_goto_2, x_iastore, x_iconst, x_ifCond_eq_1, x_iload1, x_istore1, klp_0, klp_1, klp_2, klp_3, klp_9, KC_0, KC_1, KC_2, KC_3, KC_4, ne_eq, not_false_eq_true, not_true_eq_false, true_and, and_true, and_self, implies_true, eq_self, true_imp_iff, false_implies, Int.reduceEq, Int.reduceNe, Int.reduceMod, Int.reduceMul, Int.reduceAdd, Int.reduceSub, Int.reduceLT, Int.reduceLE, Nat.reduceAdd, Nat.reduceLeDiff, Nat.reduceLT, Nat.reduceSub, reduceIte, wds_n, wds_0, wds_1, wds_2, wds_3, or_true, true_or, or_false, false_or, or_self, false_and, and_false, d_pos, d_s1, d_s2, d_s3, d_s4, d_s5, d_s6, d_s7, d_s8, Classical.not_not, r4 hS, r4l hS, r4k hS, r6 hS, r6l hS, r6k hS, r7 hS, r7l hS, r7k hS, r8 hS, r8l hS, r8k hS, r9 hS, r9l hS, r9k hS, TR_0 hS, TR_k hS, f0, f1, h9, f58, y1.1, y1.2, x0, x1, x2, x3, d_s9, d_s10, d_s11, d_s12, d_s13, d_s14, d_s15, d_s16, d_s17, d_s18, d_s19, d_s20, d_s21, d_s22, d_s23, d_s24, d_s25, d_s26, d_s27, d_s28, d_s29, d_s30, hs_ne, hcell, hcel1, le_sub1, le_T, le_F, lt_T, lt_F, eq_F, w32_T, bz0, bz1, lc_le, lc_ge, lc_lt, lc_gt, lc_eq]
  · have B1 : BXC T s g1 := by rw [ge]; exact D.bad.1
    have B2 : BXR S s rr1 := by rw [re]; exact D.bad.2
    obtain ⟨rr2, hr2⟩ : ∃ a, a = rr1 := ⟨_, rfl⟩
    have f58 : ∀ Q, Sp fz1 (e2 + 9) 333 [(3, 6603), (0, 58)] rr1 Q = Q 0 rr2 := fun Q => by rw [hr2]; exact B2.sg (d := e2 + 8)
    have e58 : ∀ Q, Sp fz1 (e + 9) 58 [(3, 258), (0, 58)] g1 Q = Q 0 g1 := fun Q => B1.sg (d := e + 8)
    rw [← hr2] at B2
    have h9 : rr2 6603 9 = S := B2.1.2
    have t0 : ∀ Q, Sp fz1 (e + 9) 65 [(3, 258), (0, 0)] g1 Q = Q (-1) g1 := fun Q => B1.td (d := e + 2)
    have nx := fun Q => c67_2 (Q := Q) (x := x) (x2 := -1) (a := 0) (u3 := (9, 0)) (u4 := (9, 0)) (u5 := (9, 0)) (e := e) (h0 := g1) B1 (fun Q => B1.p28)
    obtain ⟨r1, r2, gr, B3, Fl, y1, x0, x1, x2, x3⟩ := l0a (y := y) (e2 := e2) (n2 := (9, 0)) B2 (by omega)
    have Fb : FIR S hr rr2 := by rw [hr2, re]; exact FIR.bd
    have z : SAC h g1 := by rw [ge]; exact sb h
    refine ⟨g1, gr, fun Q => ?_, fun Q => ?_, z.i, Fb.trans Fl, .inr ⟨⟨s, B1, B3⟩, ?_⟩⟩
    · simp (implicitDefEqProofs := false) (disch := omega) only [sp67, b67_0, b67_1, q67_1, x_aload0, y_call51, y_call58, y_call65, x_gc_2051, x_goto_2, x_iconst, x_ifCond_lt_1, x_iload2, x_istore1, x_istore2, klp_0, klp_1, klp_2, klp_3, klp_9, KC_0, KC_1, KC_2, KC_3, KC_4, ne_eq, not_false_eq_true, not_true_eq_false, true_and, and_true, and_self, implies_true, eq_self, true_imp_iff, false_implies, Int.reduceEq, Int.reduceNe, Int.reduceMod, Int.reduceMul, Int.reduceAdd, Int.reduceSub, Int.reduceLT, Int.reduceLE, Nat.reduceAdd, Nat.reduceLeDiff, Nat.reduceLT, Nat.reduceSub, reduceIte, wds_n, wds_0, wds_1, wds_2, wds_3, or_true, true_or, or_false, false_or, or_self, false_and, and_false, d_pos, d_s1, d_s2, d_s3, d_s4, d_s5, d_s6, d_s7, d_s8, Classical.not_not, c6 hT, c6l hT, c6k hT, c7 hT, c7l hT, c7k hT, c8 hT, c8l hT, c8k hT, z258_0, TC_0 hT, TC_k hT, e51, e58, t0, nx, d_s9, d_s10, d_s11, d_s12, d_s13, d_s14, d_s15, d_s16, d_s17, d_s18, d_s19, d_s20, d_s21, d_s22, d_s23, d_s24, d_s25, d_s26, d_s27, d_s28, d_s29, d_s30, hs_ne, hcell, hcel1, le_sub1, le_T, le_F, lt_T, lt_F, eq_F, w32_T, bz0, bz1, lc_le, lc_ge, lc_lt, lc_gt, lc_eq]
    · simp (implicitDefEqProofs := false) (disch := omega) only [sp337, b337_0, x_aload0, y_call321, y_call325, y_call328, y_call329, y_call330, y_call331, y_call333, y_call338, x_gc_12339, x_gc_12347, x_gf_11339, x_goto_2, x_iastore, x_iconst, x_ifCond_eq_1, x_iload1, x_istore1, klp_0, klp_1, klp_2, klp_3, klp_9, KC_0, KC_1, KC_2, KC_3, KC_4, ne_eq, not_false_eq_true, not_true_eq_false, true_and, and_true, and_self, implies_true, eq_self, true_imp_iff, false_implies, Int.reduceEq, Int.reduceNe, Int.reduceMod, Int.reduceMul, Int.reduceAdd, Int.reduceSub, Int.reduceLT, Int.reduceLE, Nat.reduceAdd, Nat.reduceLeDiff, Nat.reduceLT, Nat.reduceSub, reduceIte, wds_n, wds_0, wds_1, wds_2, wds_3, or_true, true_or, or_false, false_or, or_self, false_and, and_false, d_pos, d_s1, d_s2, d_s3, d_s4, d_s5, d_s6, d_s7, d_s8, Classical.not_not, r4 hS, r4l hS, r4k hS, r6 hS, r6l hS, r6k hS, r7 hS, r7l hS, r7k hS, r8 hS, r8l hS, r8k hS, r9 hS, r9l hS, r9k hS, TR_0 hS, TR_k hS, f0, f1, h9, f58, y1.1, y1.2, x0, x1, x2, x3, d_s9, d_s10, d_s11, d_s12, d_s13, d_s14, d_s15, d_s16, d_s17, d_s18, d_s19, d_s20, d_s21, d_s22, d_s23, d_s24, d_s25, d_s26, d_s27, d_s28, d_s29, d_s30, hs_ne, hcell, hcel1, le_sub1, le_T, le_F, lt_T, lt_F, eq_F, w32_T, bz0, bz1, lc_le, lc_ge, lc_lt, lc_gt, lc_eq]
    · rw [z T (by omega), z 258 (by decide), z (T + 598) (by omega)]
      omega
end SM
