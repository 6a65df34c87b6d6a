/-! THE PURE SIDE, 183: items on both sides: subjects, and things with places: printed by wip/tools/gen8za.py -/
section SM
variable {bX : Int} {tp : Int → Int} {t T S s s1 s2 f : Int} {h hr g gr k kr m mr : HV} {Q : Int → HV → Prop} {d : Nat}
theorem TXR.a1 (X : TXR T S h hr) (e0 : ∀ k, 1 ≤ k → k ≤ 5 → k ≠ 1 → g (T + 598) k = h (T + 598) k) (e1 : g (T + 598) 1 = h (T + 598) 1 + 1) (ea : ∀ i, i ≠ h (T + 598) 1 → g (T + 662) i = h (T + 662) i ∧ gr (S + 212) i = hr (S + 212) i) (eb : gr (S + 212) (h (T + 598) 1) = g (T + 662) (h (T + 598) 1)) (ec : g T 11 = h T 11) (e2 : ∀ o, T + 662 ≤ o → o ≤ T + 1174 → o ≠ T + 662 → g o = h o) (e3 : ∀ o, S + 212 ≤ o → o ≤ S + 724 → o ≠ S + 212 → gr o = hr o) : TXR T S g gr := by
  unfold TXR at *
  obtain ⟨t1, t2, t3, t4, t5, t6, t7⟩ := X
  rw [e0 2 (by decide) (by decide) (by decide), e0 3 (by decide) (by decide) (by decide), e0 4 (by decide) (by decide) (by decide), e0 5 (by decide) (by decide) (by decide), e1, ec, e2 (T + 726) (by omega) (by omega) (by omega), e2 (T + 790) (by omega) (by omega) (by omega), e2 (T + 854) (by omega) (by omega) (by omega), e2 (T + 918) (by omega) (by omega) (by omega), e2 (T + 982) (by omega) (by omega) (by omega), e2 (T + 1046) (by omega) (by omega) (by omega), e2 (T + 1110) (by omega) (by omega) (by omega), e2 (T + 1174) (by omega) (by omega) (by omega), e3 (S + 276) (by omega) (by omega) (by omega), e3 (S + 340) (by omega) (by omega) (by omega), e3 (S + 404) (by omega) (by omega) (by omega), e3 (S + 468) (by omega) (by omega) (by omega), e3 (S + 532) (by omega) (by omega) (by omega), e3 (S + 596) (by omega) (by omega) (by omega), e3 (S + 660) (by omega) (by omega) (by omega), e3 (S + 724) (by omega) (by omega) (by omega)]
  refine ⟨?_, t2, t3, t4, t5, t6, t7⟩
  intro i i0 i1
  by_cases c : i = h (T + 598) 1
  · rw [c]
    exact eb
  · rw [(ea i c).1, (ea i c).2]
    exact t1 i i0 (by omega)
theorem TXR.a3 (X : TXR T S h hr) (e0 : ∀ k, 1 ≤ k → k ≤ 5 → k ≠ 3 → g (T + 598) k = h (T + 598) k) (e1 : g (T + 598) 3 = h (T + 598) 3 + 1) (ea : ∀ i, i ≠ h (T + 598) 3 → g (T + 854) i = h (T + 854) i ∧ gr (S + 404) i = hr (S + 404) i) (eb : gr (S + 404) (h (T + 598) 3) = g (T + 854) (h (T + 598) 3)) (ec : g T 11 = h T 11) (e2 : ∀ o, T + 662 ≤ o → o ≤ T + 1174 → o ≠ T + 854 → g o = h o) (e3 : ∀ o, S + 212 ≤ o → o ≤ S + 724 → o ≠ S + 404 → gr o = hr o) : TXR T S g gr := by
  unfold TXR at *
  obtain ⟨t1, t2, t3, t4, t5, t6, t7⟩ := X
  rw [e0 1 (by decide) (by decide) (by decide), e0 2 (by decide) (by decide) (by decide), e0 4 (by decide) (by decide) (by decide), e0 5 (by decide) (by decide) (by decide), e1, ec, e2 (T + 662) (by omega) (by omega) (by omega), e2 (T + 726) (by omega) (by omega) (by omega), e2 (T + 790) (by omega) (by omega) (by omega), e2 (T + 918) (by omega) (by omega) (by omega), e2 (T + 982) (by omega) (by omega) (by omega), e2 (T + 1046) (by omega) (by omega) (by omega), e2 (T + 1110) (by omega) (by omega) (by omega), e2 (T + 1174) (by omega) (by omega) (by omega), e3 (S + 212) (by omega) (by omega) (by omega), e3 (S + 276) (by omega) (by omega) (by omega), e3 (S + 340) (by omega) (by omega) (by omega), e3 (S + 468) (by omega) (by omega) (by omega), e3 (S + 532) (by omega) (by omega) (by omega), e3 (S + 596) (by omega) (by omega) (by omega), e3 (S + 660) (by omega) (by omega) (by omega), e3 (S + 724) (by omega) (by omega) (by omega)]
  refine ⟨t1, t2, ?_, t4, fun l l0 l1 => ⟨(t5 l l0 l1).1, ⟨(t5 l l0 l1).2.1.1, (t5 l l0 l1).2.1.2.1, by have := (t5 l l0 l1).2.1.2.2; omega⟩, (t5 l l0 l1).2.2⟩, t6, t7⟩
  intro i i0 i1
  by_cases c : i = h (T + 598) 3
  · rw [c]
    exact eb
  · rw [(ea i c).1, (ea i c).2]
    exact t3 i i0 (by omega)
theorem TXR.a5 (X : TXR T S h hr) (e0 : ∀ k, 1 ≤ k → k ≤ 5 → k ≠ 5 → g (T + 598) k = h (T + 598) k) (e1 : g (T + 598) 5 = h (T + 598) 5 + 1) (ea : ∀ i, i ≠ h (T + 598) 5 → g (T + 1110) i = h (T + 1110) i ∧ gr (S + 724) i = hr (S + 724) i) (eb : gr (S + 724) (h (T + 598) 5) = g (T + 1110) (h (T + 598) 5)) (hb : 0 ≤ g (T + 1110) (h (T + 598) 5) ∧ g (T + 1110) (h (T + 598) 5) ≤ 1000) (ec : g T 11 = h T 11) (e2 : ∀ o, T + 662 ≤ o → o ≤ T + 1174 → o ≠ T + 1110 → g o = h o) (e3 : ∀ o, S + 212 ≤ o → o ≤ S + 724 → o ≠ S + 724 → gr o = hr o) : TXR T S g gr := by
  unfold TXR at *
  obtain ⟨t1, t2, t3, t4, t5, t6, t7⟩ := X
  rw [e0 1 (by decide) (by decide) (by decide), e0 2 (by decide) (by decide) (by decide), e0 3 (by decide) (by decide) (by decide), e0 4 (by decide) (by decide) (by decide), e1, ec, e2 (T + 662) (by omega) (by omega) (by omega), e2 (T + 726) (by omega) (by omega) (by omega), e2 (T + 790) (by omega) (by omega) (by omega), e2 (T + 854) (by omega) (by omega) (by omega), e2 (T + 918) (by omega) (by omega) (by omega), e2 (T + 982) (by omega) (by omega) (by omega), e2 (T + 1046) (by omega) (by omega) (by omega), e2 (T + 1174) (by omega) (by omega) (by omega), e3 (S + 212) (by omega) (by omega) (by omega), e3 (S + 276) (by omega) (by omega) (by omega), e3 (S + 340) (by omega) (by omega) (by omega), e3 (S + 404) (by omega) (by omega) (by omega), e3 (S + 468) (by omega) (by omega) (by omega), e3 (S + 532) (by omega) (by omega) (by omega), e3 (S + 596) (by omega) (by omega) (by omega), e3 (S + 660) (by omega) (by omega) (by omega)]
  refine ⟨t1, t2, t3, ?_, t5, t6, t7⟩
  intro i i0 i1
  by_cases c : i = h (T + 598) 5
  · rw [c]
    exact ⟨eb, hb⟩
  · rw [(ea i c).1, (ea i c).2]
    exact t4 i i0 (by omega)
/-- room -/
theorem it_room {hr0 : HV} {e e2 : Nat} (I : IT tp t T S s h hr) (iw : ∀ Q, Sp fz1 (e2 + 9) 327 [(3, 6603), (3, NV_2099)] hr0 Q = Q 1 hr0) (f0 : ∀ Q, Sp fz1 (e2 + 9) 321 [(3, 6603)] hr0 Q = Q 0 hr) : ∃ g gr, (∀ Q, Sp fz1 (e + 10) 60 [(3, 258)] h Q = Q 0 g) ∧ (∀ Q, G fz1 (e2 + 10) 326 1 [(3, 6603), (9, 0)] [] hr0 Q = Q 0 gr) ∧ FIC T h g ∧ FIR S hr gr ∧ ((∃ s1, s + 1 ≤ s1 ∧ IT tp t T S s1 g gr) ∨ BXI T S g gr) := by
  have I0 := I
  obtain ⟨D, IB, C, X, RN, RL⟩ := I
  have hT := D.2.1.1.1
  have hS := D.2.1.2.1
  have kT := kTC hT
  have kS := kTR hS
  have N := IB.1
  unfold NBI at N
  have mq : MST 1 = 6 := by decide
  have Cq := C.1 1 (by decide) (by decide)
  have C6 := C.1 6 (by decide) (by decide)
  have m6 := MST_12 (q := 6)
  have S0 := D.sb
  obtain ⟨g1, rr1, x, y, cc1, f1, W⟩ := nn_pair (M := 6) (q := 1) D C (by decide) mq.symm e (e2 + 2)
  have e51 : ∀ Q, Sp fz1 (e + 9) 51 [(3, 258), (0, 1)] h Q = Q x g1 := cc1
  have f1 : ∀ Q, Sp fz1 (e2 + 9) 328 [(3, 6603), (0, 1), (0, 6)] hr Q = Q y rr1 := f1
  have Fn : FIC T h (nmH T h 1 (wdT tp t s)) := by
    unfold nmH
    exact (FIC.st (by omega) hT).trans (FIC.st (by omega) hT)
  have Fr : FIR S hr (nmR S hr 1 (wdT tp t s)) := by
    unfold nmR
    exact (FIR.st (by omega) hS).trans (FIR.st (by omega) hS)
  rcases W with ⟨ex, exy, xm, s1, q1, D1, a1, b1⟩ | ⟨ex, ey, ge, re⟩
  · subst exy
    have CN := C.nm (w := wdT tp t s) (q := 1) hT hS (by decide) (by omega)
    have n1 : nmH T h 1 (wdT tp t s) (T + 598) 1 = h (T + 598) 1 + 1 := hcel1
    have n2 : ∀ p, p ≠ 1 → nmH T h 1 (wdT tp t s) (T + 598) p = h (T + 598) p := fun p u => by unfold nmH; rw [hcell u, hs_ne (by omega)]
    have n3 : ∀ o, o ≠ T + 598 → o ≠ T + 151 + 64 * 1 → nmH T h 1 (wdT tp t s) o = h o := fun o u v => by unfold nmH; rw [hs_ne u, hs_ne v]
    have m1 : ∀ p, p ≠ 1 → nmR S hr 1 (wdT tp t s) (S + 84) p = hr (S + 84) p := fun p u => by unfold nmR; rw [hcell u, hs_ne (by omega)]
    have m3 : ∀ o, o ≠ S + 84 → o ≠ S + 149 → nmR S hr 1 (wdT tp t s) o = hr o := fun o u v => by unfold nmR; rw [hs_ne u, hs_ne v]
    generalize nmH T h 1 (wdT tp t s) = hn at *
    generalize nmR S hr 1 (wdT tp t s) = rn at *
    have h9 : rr1 6603 9 = S := D1.2.1.2.2
    obtain ⟨g2, rr2, v, v2, cc2, f2, W⟩ := nu_pair (M := 99) D1 (by decide) e (e2 + 6)
    have e61 : ∀ Q, Sp fz1 (e + 9) 61 [(3, 258), (0, 99)] g1 Q = Q v g2 := cc2
    have f2 : ∀ Q, Sp fz1 (e2 + 9) 335 [(3, 6603), (0, 1), (0, 99)] rr1 Q = Q v2 rr2 := f2
    rcases W with ⟨evv, v0, v1, s2, q2, D2, a2, b2⟩ | ⟨ev, ge, re⟩
    · subst evv
      have D3 : TKX tp t T S s2 g2 (hset rr2 (S + 212) y v2) := D2.stR (by omega)
      obtain ⟨g3, rr3, cc3, f3, W⟩ := D3.sign (c := 59) (by decide) e (e2 + 6)
      have e58 : ∀ Q, Sp fz1 (e + 9) 58 [(3, 258), (0, 59)] g2 Q = Q 0 g3 := cc3
      have f3 : ∀ Q, Sp fz1 (e2 + 9) 333 [(3, 6603), (0, 59)] (hset rr2 (S + 212) y v2) Q = Q 0 rr3 := f3
      rcases W with ⟨-, s3, q3, D4, a3, b3⟩ | ⟨-, ge, re⟩
      · have st : ∀ Q, Sp fz1 (e + 9) 41 [(3, 258)] g3 Q = Q 1 g3 := fun Q => D4.c41 (d := e + 8)
        have hp : g3 258 1 = T := D4.2.1.1.2
        have D5 : TKX tp t T S s3 (hset g3 (T + 662) y v2) rr3 := D4.stC (by omega)
        have cF : ∀ o, o ≠ 129 → o ≠ T + 662 → hset g3 (T + 662) y v2 o = hn o := fun o u w => by rw [hs_ne w, a3 o u, a2 o u, a1 o u]
        have cX : ∀ i, i ≠ y → hset g3 (T + 662) y v2 (T + 662) i = h (T + 662) i := fun i u => by rw [hcell u, a3 _ (by omega), a2 _ (by omega), a1 _ (by omega), n3 _ (by omega) (by omega)]
        have cY : hset g3 (T + 662) y v2 (T + 662) y = v2 := hcel1
        have dF : ∀ o, o ≠ 6603 → o ≠ S + 212 → rr3 o = rn o := fun o u w => by rw [b3.1 o u, hs_ne w, b2.1 o u, b1.1 o u]
        have dX : ∀ i, i ≠ y → rr3 (S + 212) i = hr (S + 212) i := fun i u => by rw [b3.1 _ (by omega), hcell u, b2.1 _ (by omega), b1.1 _ (by omega), m3 _ (by omega) (by omega)]
        have dY : rr3 (S + 212) y = v2 := by rw [b3.1 _ (by omega), hcel1]
        have d3 : ∀ i, i ≠ 2 → i ≠ 3 → i ≠ 4 → i ≠ 5 → i ≠ 6 → rr3 6603 i = hr 6603 i := fun i u1 u2 u3 u4 u5 => by rw [b3.2 i u1 u2 u3 u4 u5, hs_ne (by omega), b2.2 i u1 u2 u3 u4 u5, b1.2 i u1 u2 u3 u4 u5, m3 6603 (by omega) (by omega)]
        have FF : FIC T h (hset g3 (T + 662) y v2) := Fn.trans (a1.i.trans (a2.i.trans (a3.i.trans (FIC.st (by omega) hT))))
        have FR : FIR S hr rr3 := Fr.trans (b1.i.trans (b2.i.trans ((FIR.st (by omega) hS).trans b3.i)))
        obtain ⟨gF, hgF⟩ : ∃ a, a = hset g3 (T + 662) y v2 := ⟨_, rfl⟩
        rw [← hgF] at D5 cF cX cY FF
        have Z := I0.fr (s1 := s3) (g := gF) (gr := rr3) (by omega) hT hS (by rw [cF 258 (by decide) (by omega), n3 258 (by omega) (by omega)]) (fun i _ => by rw [cF T (by omega) (by omega), n3 T (by omega) (by omega)]) (fun o u w => by rw [cF o u (by omega), n3 o (by omega) (by omega)]) (by rw [cF (T + 598) (by omega) (by omega), n2 6 (by decide)]) d3 (by rw [dF (S + 84) (by omega) (by omega), m1 6 (by decide)]) (fun o u w => by rw [dF o u (by omega), m3 o (by omega) (by omega)])
        refine ⟨gF, rr3, fun Q => ?_, fun Q => ?_, FF, FR, .inl ⟨s3, by omega, D5, Z.1, CN.fr (cF _ (by omega) (by omega)) (fun p _ _ => cF _ (by omega) (by omega)) (dF _ (by omega) (by omega)) (dF _ (by omega) (by omega)), ?_, Z.2⟩⟩
        · rw [hgF]
          simp (implicitDefEqProofs := false) (disch := omega) only [sp60, b60_0, b60_1, q60_1, x_aload0, y_call41, y_call51, y_call58, y_call61, x_gc_10259, x_gf_2059, x_goto_1, x_iastore, x_iconst, x_ifCond_eq_1, x_iload1, x_iload2, x_istore1, x_istore2, x_return, klp_0, klp_1, klp_2, klp_3, klp_9, KC_0, KC_1, KC_2, KC_3, KC_4, ne_eq, not_false_eq_true, not_true_eq_false, true_and, and_true, and_self, implies_true, eq_self, true_imp_iff, false_implies, Int.reduceEq, Int.reduceNe, Int.reduceMod, Int.reduceMul, Int.reduceAdd, Int.reduceSub, Int.reduceLT, Int.reduceLE, Nat.reduceAdd, Nat.reduceLeDiff, Nat.reduceLT, Nat.reduceSub, reduceIte, wds_n, wds_0, wds_1, wds_2, wds_3, or_true, true_or, or_false, false_or, or_self, false_and, and_false, d_pos, d_s1, d_s2, d_s3, d_s4, d_s5, d_s6, d_s7, d_s8, Classical.not_not, c2 hT, c2l hT, c2k hT, TC_0 hT, TC_k hT, e51, e61, e58, st, hp, d_s9, d_s10, d_s11, d_s12, d_s13, d_s14, d_s15, d_s16, d_s17, d_s18, d_s19, d_s20, d_s21, d_s22, d_s23, d_s24, d_s25, d_s26, d_s27, d_s28, d_s29, d_s30, hs_ne, hcell, hcel1, le_sub1, le_T, le_F, lt_T, lt_F, eq_F, w32_T, bz0, bz1, lc_le, lc_ge, lc_lt, lc_gt, lc_eq]
        · rw [q326_1]
          simp (implicitDefEqProofs := false) (disch := omega) only [n326_1, b326_8, q326_1, q326_8, x_aload0, y_call321, y_call327, y_call328, y_call333, y_call335, x_gc_12307, x_gf_11339, x_goto_8, x_iastore, x_iconst, x_ifCond_eq_2, x_iload1, x_istore1, x_jsr, x_return, klp_0, klp_1, klp_2, klp_3, klp_9, KC_0, KC_1, KC_2, KC_3, KC_4, ne_eq, not_false_eq_true, not_true_eq_false, true_and, and_true, and_self, implies_true, eq_self, true_imp_iff, false_implies, Int.reduceEq, Int.reduceNe, Int.reduceMod, Int.reduceMul, Int.reduceAdd, Int.reduceSub, Int.reduceLT, Int.reduceLE, Nat.reduceAdd, Nat.reduceLeDiff, Nat.reduceLT, Nat.reduceSub, reduceIte, wds_n, wds_0, wds_1, wds_2, wds_3, or_true, true_or, or_false, false_or, or_self, false_and, and_false, d_pos, d_s1, d_s2, d_s3, d_s4, d_s5, d_s6, d_s7, d_s8, Classical.not_not, r2 hS, r2l hS, r2k hS, r5 hS, r5l hS, r5k hS, r10 hS, r10l hS, r10k hS, TR_0 hS, TR_k hS, iw, f0, f1, f2, f3, h9, d_s9, d_s10, d_s11, d_s12, d_s13, d_s14, d_s15, d_s16, d_s17, d_s18, d_s19, d_s20, d_s21, d_s22, d_s23, d_s24, d_s25, d_s26, d_s27, d_s28, d_s29, d_s30, hs_ne, hcell, hcel1, le_sub1, le_T, le_F, lt_T, lt_F, eq_F, w32_T, bz0, bz1, lc_le, lc_ge, lc_lt, lc_gt, lc_eq]
        · rw [ex] at cX cY dX dY
          refine X.a1 (fun k k1 k5 k6 => by rw [cF (T + 598) (by omega) (by omega), n2 k k6]) (by rw [cF (T + 598) (by omega) (by omega), n1]) (fun i u => ⟨cX i u, dX i u⟩) (by rw [cY, dY]) (by rw [cF T (by omega) (by omega), n3 T (by omega) (by omega)]) (fun o u w z => by rw [cF o (by omega) z, n3 o (by omega) (by omega)]) (fun o u w z => by rw [dF o (by omega) z, m3 o (by omega) (by omega)])
      · obtain ⟨B1, B2⟩ := D3.bad
        have st : ∀ Q, Sp fz1 (e + 9) 41 [(3, 258)] g3 Q = Q 0 g3 := fun Q => by rw [ge]; exact B1.c41 (d := e + 8)
        have hp : g3 258 1 = T := by rw [ge]; exact B1.1.2
        have Fb : FIC T g2 g3 := by rw [ge]; exact FIC.bd
        have Fbr : FIR S (hset rr2 (S + 212) y v2) rr3 := by rw [re]; exact FIR.bd
        have Fst : FIR S rr2 (hset rr2 (S + 212) y v2) := FIR.st (by omega) hS
        refine ⟨g3, rr3, fun Q => ?_, fun Q => ?_, Fn.trans (a1.i.trans (a2.i.trans Fb)), Fr.trans (b1.i.trans (b2.i.trans (Fst.trans Fbr))), .inr ⟨⟨s2, by rw [ge]; exact B1, by rw [re]; exact B2⟩, ?_⟩⟩
        · simp (implicitDefEqProofs := false) (disch := omega) only [sp60, b60_0, b60_1, q60_1, x_aload0, y_call41, y_call51, y_call58, y_call61, x_gc_10259, x_gf_2059, x_goto_1, x_iastore, x_iconst, x_ifCond_eq_1, x_iload1, x_iload2, x_istore1, x_istore2, x_return, klp_0, klp_1, klp_2, klp_3, klp_9, KC_0, KC_1, KC_2, KC_3, KC_4, ne_eq, not_false_eq_true, not_true_eq_false, true_and, and_true, and_self, implies_true, eq_self, true_imp_iff, false_implies, Int.reduceEq, Int.reduceNe, Int.reduceMod, Int.reduceMul, Int.reduceAdd, Int.reduceSub, Int.reduceLT, Int.reduceLE, Nat.reduceAdd, Nat.reduceLeDiff, Nat.reduceLT, Nat.reduceSub, reduceIte, wds_n, wds_0, wds_1, wds_2, wds_3, or_true, true_or, or_false, false_or, or_self, false_and, and_false, d_pos, d_s1, d_s2, d_s3, d_s4, d_s5, d_s6, d_s7, d_s8, Classical.not_not, c2 hT, c2l hT, c2k hT, TC_0 hT, TC_k hT, e51, e61, e58, st, hp, d_s9, d_s10, d_s11, d_s12, d_s13, d_s14, d_s15, d_s16, d_s17, d_s18, d_s19, d_s20, d_s21, d_s22, d_s23, d_s24, d_s25, d_s26, d_s27, d_s28, d_s29, d_s30, hs_ne, hcell, hcel1, le_sub1, le_T, le_F, lt_T, lt_F, eq_F, w32_T, bz0, bz1, lc_le, lc_ge, lc_lt, lc_gt, lc_eq]
        · rw [q326_1]
          simp (implicitDefEqProofs := false) (disch := omega) only [n326_1, b326_8, q326_1, q326_8, x_aload0, y_call321, y_call327, y_call328, y_call333, y_call335, x_gc_12307, x_gf_11339, x_goto_8, x_iastore, x_iconst, x_ifCond_eq_2, x_iload1, x_istore1, x_jsr, x_return, klp_0, klp_1, klp_2, klp_3, klp_9, KC_0, KC_1, KC_2, KC_3, KC_4, ne_eq, not_false_eq_true, not_true_eq_false, true_and, and_true, and_self, implies_true, eq_self, true_imp_iff, false_implies, Int.reduceEq, Int.reduceNe, Int.reduceMod, Int.reduceMul, Int.reduceAdd, Int.reduceSub, Int.reduceLT, Int.reduceLE, Nat.reduceAdd, Nat.reduceLeDiff, Nat.reduceLT, Nat.reduceSub, reduceIte, wds_n, wds_0, wds_1, wds_2, wds_3, or_true, true_or, or_false, false_or, or_self, false_and, and_false, d_pos, d_s1, d_s2, d_s3, d_s4, d_s5, d_s6, d_s7, d_s8, Classical.not_not, r2 hS, r2l hS, r2k hS, r5 hS, r5l hS, r5k hS, r10 hS, r10l hS, r10k hS, TR_0 hS, TR_k hS, iw, f0, f1, f2, f3, h9, d_s9, d_s10, d_s11, d_s12, d_s13, d_s14, d_s15, d_s16, d_s17, d_s18, d_s19, d_s20, d_s21, d_s22, d_s23, d_s24, d_s25, d_s26, d_s27, d_s28, d_s29, d_s30, hs_ne, hcell, hcel1, le_sub1, le_T, le_F, lt_T, lt_F, eq_F, w32_T, bz0, bz1, lc_le, lc_ge, lc_lt, lc_gt, lc_eq]
        · have z : ∀ o, o ≠ 129 → g3 o = hn o := fun o u => by rw [ge]; unfold bdH; rw [hs_ne u, hs_ne u, a2 o u, a1 o u]
          rw [z T (by omega), z 258 (by decide), z (T + 598) (by omega), n2 6 (by decide), n3 T (by omega) (by omega), n3 258 (by omega) (by omega)]
          omega
    · obtain ⟨B1, B2⟩ := D1.bad
      rw [← ge] at B1
      rw [← re] at B2
      have e58 : ∀ Q, Sp fz1 (e + 9) 58 [(3, 258), (0, 59)] g2 Q = Q 0 g2 := fun Q => B1.sg (d := e + 8)
      have st : ∀ Q, Sp fz1 (e + 9) 41 [(3, 258)] g2 Q = Q 0 g2 := fun Q => B1.c41 (d := e + 8)
      have hp : g2 258 1 = T := B1.1.2
      have B3 : BXR S s1 (hset rr2 (S + 212) y v2) := B2.st (by omega)
      obtain ⟨rr3, hr3⟩ : ∃ a, a = hset rr2 (S + 212) y v2 := ⟨_, rfl⟩
      have f3 : ∀ Q, Sp fz1 (e2 + 9) 333 [(3, 6603), (0, 59)] (hset rr2 (S + 212) y v2) Q = Q 0 rr3 := fun Q => by rw [hr3]; exact B3.sg (d := e2 + 8)
      have Fb : FIC T g1 g2 := by rw [ge]; exact FIC.bd
      have Fbr : FIR S rr1 rr2 := by rw [re]; exact FIR.bd
      have Fst : FIR S rr2 rr3 := by rw [hr3]; exact FIR.st (by omega) hS
      refine ⟨g2, rr3, fun Q => ?_, fun Q => ?_, Fn.trans (a1.i.trans Fb), Fr.trans (b1.i.trans (Fbr.trans Fst)), .inr ⟨⟨s1, B1, by rw [hr3]; exact B3⟩, ?_⟩⟩
      · simp (implicitDefEqProofs := false) (disch := omega) only [sp60, b60_0, b60_1, q60_1, x_aload0, y_call41, y_call51, y_call58, y_call61, x_gc_10259, x_gf_2059, x_goto_1, x_iastore, x_iconst, x_ifCond_eq_1, x_iload1, x_iload2, x_istore1, x_istore2, x_return, klp_0, klp_1, klp_2, klp_3, klp_9, KC_0, KC_1, KC_2, KC_3, KC_4, ne_eq, not_false_eq_true, not_true_eq_false, true_and, and_true, and_self, implies_true, eq_self, true_imp_iff, false_implies, Int.reduceEq, Int.reduceNe, Int.reduceMod, Int.reduceMul, Int.reduceAdd, Int.reduceSub, Int.reduceLT, Int.reduceLE, Nat.reduceAdd, Nat.reduceLeDiff, Nat.reduceLT, Nat.reduceSub, reduceIte, wds_n, wds_0, wds_1, wds_2, wds_3, or_true, true_or, or_false, false_or, or_self, false_and, and_false, d_pos, d_s1, d_s2, d_s3, d_s4, d_s5, d_s6, d_s7, d_s8, Classical.not_not, c2 hT, c2l hT, c2k hT, TC_0 hT, TC_k hT, e51, e61, e58, st, hp, d_s9, d_s10, d_s11, d_s12, d_s13, d_s14, d_s15, d_s16, d_s17, d_s18, d_s19, d_s20, d_s21, d_s22, d_s23, d_s24, d_s25, d_s26, d_s27, d_s28, d_s29, d_s30, hs_ne, hcell, hcel1, le_sub1, le_T, le_F, lt_T, lt_F, eq_F, w32_T, bz0, bz1, lc_le, lc_ge, lc_lt, lc_gt, lc_eq]
      · rw [q326_1]
        simp (implicitDefEqProofs := false) (disch := omega) only [n326_1, b326_8, q326_1, q326_8, x_aload0, y_call321, y_call327, y_call328, y_call333, y_call335, x_gc_12307, x_gf_11339, x_goto_8, x_iastore, x_iconst, x_ifCond_eq_2, x_iload1, x_istore1, x_jsr, x_return, klp_0, klp_1, klp_2, klp_3, klp_9, KC_0, KC_1, KC_2, KC_3, KC_4, ne_eq, not_false_eq_true, not_true_eq_false, true_and, and_true, and_self, implies_true, eq_self, true_imp_iff, false_implies, Int.reduceEq, Int.reduceNe, Int.reduceMod, Int.reduceMul, Int.reduceAdd, Int.reduceSub, Int.reduceLT, Int.reduceLE, Nat.reduceAdd, Nat.reduceLeDiff, Nat.reduceLT, Nat.reduceSub, reduceIte, wds_n, wds_0, wds_1, wds_2, wds_3, or_true, true_or, or_false, false_or, or_self, false_and, and_false, d_pos, d_s1, d_s2, d_s3, d_s4, d_s5, d_s6, d_s7, d_s8, Classical.not_not, r2 hS, r2l hS, r2k hS, r5 hS, r5l hS, r5k hS, r10 hS, r10l hS, r10k hS, TR_0 hS, TR_k hS, iw, f0, f1, f2, f3, h9, d_s9, d_s10, d_s11, d_s12, d_s13, d_s14, d_s15, d_s16, d_s17, d_s18, d_s19, d_s20, d_s21, d_s22, d_s23, d_s24, d_s25, d_s26, d_s27, d_s28, d_s29, d_s30, hs_ne, hcell, hcel1, le_sub1, le_T, le_F, lt_T, lt_F, eq_F, w32_T, bz0, bz1, lc_le, lc_ge, lc_lt, lc_gt, lc_eq]
      · have z : ∀ o, o ≠ 129 → g2 o = hn o := fun o u => by rw [ge]; unfold bdH; rw [hs_ne u, hs_ne u, a1 o u]
        rw [z T (by omega), z 258 (by decide), z (T + 598) (by omega), n2 6 (by decide), n3 T (by omega) (by omega), n3 258 (by omega) (by omega)]
        omega
  · obtain ⟨B1, B2⟩ := D.bad
    rw [← ge] at B1
    rw [← re] at B2
    have h9 : rr1 6603 9 = S := B2.1.2
    have e61 : ∀ Q, Sp fz1 (e + 9) 61 [(3, 258), (0, 99)] g1 Q = Q (w32 (g1 129 7)) g1 := fun Q => B1.no (d := e + 6)
    obtain ⟨rr2, hr2⟩ : ∃ a, a = rr1 := ⟨_, rfl⟩
    have f2 : ∀ Q, Sp fz1 (e2 + 9) 335 [(3, 6603), (0, 1), (0, 99)] rr1 Q = Q 1 rr2 := fun Q => by rw [hr2]; exact B2.no (d := e2 + 8)
    obtain ⟨g3, hg3⟩ : ∃ a, a = g1 := ⟨_, rfl⟩
    have e58 : ∀ Q, Sp fz1 (e + 9) 58 [(3, 258), (0, 59)] g1 Q = Q 0 g3 := fun Q => by rw [hg3]; exact B1.sg (d := e + 8)
    have st : ∀ Q, Sp fz1 (e + 9) 41 [(3, 258)] g3 Q = Q 0 g3 := fun Q => by rw [hg3]; exact B1.c41 (d := e + 8)
    have hp : g3 258 1 = T := by rw [hg3]; exact B1.1.2
    rw [← hr2] at B2
    have B3 : BXR S s (hset rr2 (S + 212) y 1) := B2.st (by omega)
    obtain ⟨rr3, hr3⟩ : ∃ a, a = hset rr2 (S + 212) y 1 := ⟨_, rfl⟩
    have f3 : ∀ Q, Sp fz1 (e2 + 9) 333 [(3, 6603), (0, 59)] (hset rr2 (S + 212) y 1) Q = Q 0 rr3 := fun Q => by rw [hr3]; exact B3.sg (d := e2 + 8)
    have Fb : FIC T h g3 := by rw [hg3, ge]; exact FIC.bd
    have Fbr : FIR S hr rr2 := by rw [hr2, re]; exact FIR.bd
    have Fst : FIR S rr2 rr3 := by rw [hr3]; exact FIR.st (by omega) hS
    refine ⟨g3, rr3, fun Q => ?_, fun Q => ?_, Fb, Fbr.trans Fst, .inr ⟨⟨s, by rw [hg3]; exact B1, by rw [hr3]; exact B3⟩, ?_⟩⟩
    · simp (implicitDefEqProofs := false) (disch := omega) only [sp60, b60_0, b60_1, q60_1, x_aload0, y_call41, y_call51, y_call58, y_call61, x_gc_10259, x_gf_2059, x_goto_1, x_iastore, x_iconst, x_ifCond_eq_1, x_iload1, x_iload2, x_istore1, x_istore2, x_return, klp_0, klp_1, klp_2, klp_3, klp_9, KC_0, KC_1, KC_2, KC_3, KC_4, ne_eq, not_false_eq_true, not_true_eq_false, true_and, and_true, and_self, implies_true, eq_self, true_imp_iff, false_implies, Int.reduceEq, Int.reduceNe, Int.reduceMod, Int.reduceMul, Int.reduceAdd, Int.reduceSub, Int.reduceLT, Int.reduceLE, Nat.reduceAdd, Nat.reduceLeDiff, Nat.reduceLT, Nat.reduceSub, reduceIte, wds_n, wds_0, wds_1, wds_2, wds_3, or_true, true_or, or_false, false_or, or_self, false_and, and_false, d_pos, d_s1, d_s2, d_s3, d_s4, d_s5, d_s6, d_s7, d_s8, Classical.not_not, c2 hT, c2l hT, c2k hT, TC_0 hT, TC_k hT, e51, e61, e58, st, hp, d_s9, d_s10, d_s11, d_s12, d_s13, d_s14, d_s15, d_s16, d_s17, d_s18, d_s19, d_s20, d_s21, d_s22, d_s23, d_s24, d_s25, d_s26, d_s27, d_s28, d_s29, d_s30, hs_ne, hcell, hcel1, le_sub1, le_T, le_F, lt_T, lt_F, eq_F, w32_T, bz0, bz1, lc_le, lc_ge, lc_lt, lc_gt, lc_eq]
    · rw [q326_1]
      simp (implicitDefEqProofs := false) (disch := omega) only [n326_1, b326_8, q326_1, q326_8, x_aload0, y_call321, y_call327, y_call328, y_call333, y_call335, x_gc_12307, x_gf_11339, x_goto_8, x_iastore, x_iconst, x_ifCond_eq_2, x_iload1, x_istore1, x_jsr, x_return, klp_0, klp_1, klp_2, klp_3, klp_9, KC_0, KC_1, KC_2, KC_3, KC_4, ne_eq, not_false_eq_true, not_true_eq_false, true_and, and_true, and_self, implies_true, eq_self, true_imp_iff, false_implies, Int.reduceEq, Int.reduceNe, Int.reduceMod, Int.reduceMul, Int.reduceAdd, Int.reduceSub, Int.reduceLT, Int.reduceLE, Nat.reduceAdd, Nat.reduceLeDiff, Nat.reduceLT, Nat.reduceSub, reduceIte, wds_n, wds_0, wds_1, wds_2, wds_3, or_true, true_or, or_false, false_or, or_self, false_and, and_false, d_pos, d_s1, d_s2, d_s3, d_s4, d_s5, d_s6, d_s7, d_s8, Classical.not_not, r2 hS, r2l hS, r2k hS, r5 hS, r5l hS, r5k hS, r10 hS, r10l hS, r10k hS, TR_0 hS, TR_k hS, iw, f0, f1, f2, f3, h9, d_s9, d_s10, d_s11, d_s12, d_s13, d_s14, d_s15, d_s16, d_s17, d_s18, d_s19, d_s20, d_s21, d_s22, d_s23, d_s24, d_s25, d_s26, d_s27, d_s28, d_s29, d_s30, hs_ne, hcell, hcel1, le_sub1, le_T, le_F, lt_T, lt_F, eq_F, w32_T, bz0, bz1, lc_le, lc_ge, lc_lt, lc_gt, lc_eq]
    · have z : ∀ o, o ≠ 129 → g3 o = h o := fun o u => by rw [hg3, ge]; unfold bdH; rw [hs_ne u, hs_ne u]
      rw [z T (by omega), z 258 (by decide), z (T + 598) (by omega)]
      omega
/-- group -/
theorem it_group {hr0 : HV} {e e2 : Nat} (I : IT tp t T S s h hr) (iw : ∀ Q, Sp fz1 (e2 + 9) 327 [(3, 6603), (3, NV_2355)] hr0 Q = Q 1 hr0) (f0 : ∀ Q, Sp fz1 (e2 + 9) 321 [(3, 6603)] hr0 Q = Q 0 hr) : ∃ g gr, (∀ Q, Sp fz1 (e + 10) 66 [(3, 258)] h Q = Q 0 g) ∧ (∀ Q, G fz1 (e2 + 10) 326 3 [(3, 6603), (9, 0)] [] hr0 Q = Q 0 gr) ∧ FIC T h g ∧ FIR S hr gr ∧ ((∃ s1, s + 1 ≤ s1 ∧ IT tp t T S s1 g gr) ∨ BXI T S g gr) := by
  have I0 := I
  obtain ⟨D, IB, C, X, RN, RL⟩ := I
  have hT := D.2.1.1.1
  have hS := D.2.1.2.1
  have kT := kTC hT
  have kS := kTR hS
  have N := IB.1
  unfold NBI at N
  have mq : MST 3 = 8 := by decide
  have Cq := C.1 3 (by decide) (by decide)
  have C6 := C.1 6 (by decide) (by decide)
  have m6 := MST_12 (q := 6)
  have S0 := D.sb
  obtain ⟨g1, rr1, x, y, cc1, f1, W⟩ := nn_pair (M := 8) (q := 3) D C (by decide) mq.symm e (e2 + 2)
  have e51 : ∀ Q, Sp fz1 (e + 9) 51 [(3, 258), (0, 3)] h Q = Q x g1 := cc1
  have f1 : ∀ Q, Sp fz1 (e2 + 9) 328 [(3, 6603), (0, 3), (0, 8)] hr Q = Q y rr1 := f1
  have Fn : FIC T h (nmH T h 3 (wdT tp t s)) := by
    unfold nmH
    exact (FIC.st (by omega) hT).trans (FIC.st (by omega) hT)
  have Fr : FIR S hr (nmR S hr 3 (wdT tp t s)) := by
    unfold nmR
    exact (FIR.st (by omega) hS).trans (FIR.st (by omega) hS)
  rcases W with ⟨ex, exy, xm, s1, q1, D1, a1, b1⟩ | ⟨ex, ey, ge, re⟩
  · subst exy
    have CN := C.nm (w := wdT tp t s) (q := 3) hT hS (by decide) (by omega)
    have n1 : nmH T h 3 (wdT tp t s) (T + 598) 3 = h (T + 598) 3 + 1 := hcel1
    have n2 : ∀ p, p ≠ 3 → nmH T h 3 (wdT tp t s) (T + 598) p = h (T + 598) p := fun p u => by unfold nmH; rw [hcell u, hs_ne (by omega)]
    have n3 : ∀ o, o ≠ T + 598 → o ≠ T + 151 + 64 * 3 → nmH T h 3 (wdT tp t s) o = h o := fun o u v => by unfold nmH; rw [hs_ne u, hs_ne v]
    have m1 : ∀ p, p ≠ 3 → nmR S hr 3 (wdT tp t s) (S + 84) p = hr (S + 84) p := fun p u => by unfold nmR; rw [hcell u, hs_ne (by omega)]
    have m3 : ∀ o, o ≠ S + 84 → o ≠ S + 149 → nmR S hr 3 (wdT tp t s) o = hr o := fun o u v => by unfold nmR; rw [hs_ne u, hs_ne v]
    generalize nmH T h 3 (wdT tp t s) = hn at *
    generalize nmR S hr 3 (wdT tp t s) = rn at *
    have h9 : rr1 6603 9 = S := D1.2.1.2.2
    obtain ⟨g2, rr2, v, v2, cc2, f2, W⟩ := nu_pair (M := 99) D1 (by decide) e (e2 + 6)
    have e61 : ∀ Q, Sp fz1 (e + 9) 61 [(3, 258), (0, 99)] g1 Q = Q v g2 := cc2
    have f2 : ∀ Q, Sp fz1 (e2 + 9) 335 [(3, 6603), (0, 1), (0, 99)] rr1 Q = Q v2 rr2 := f2
    rcases W with ⟨evv, v0, v1, s2, q2, D2, a2, b2⟩ | ⟨ev, ge, re⟩
    · subst evv
      have D3 : TKX tp t T S s2 g2 (hset rr2 (S + 404) y v2) := D2.stR (by omega)
      obtain ⟨g3, rr3, cc3, f3, W⟩ := D3.sign (c := 59) (by decide) e (e2 + 6)
      have e58 : ∀ Q, Sp fz1 (e + 9) 58 [(3, 258), (0, 59)] g2 Q = Q 0 g3 := cc3
      have f3 : ∀ Q, Sp fz1 (e2 + 9) 333 [(3, 6603), (0, 59)] (hset rr2 (S + 404) y v2) Q = Q 0 rr3 := f3
      rcases W with ⟨-, s3, q3, D4, a3, b3⟩ | ⟨-, ge, re⟩
      · have st : ∀ Q, Sp fz1 (e + 9) 41 [(3, 258)] g3 Q = Q 1 g3 := fun Q => D4.c41 (d := e + 8)
        have hp : g3 258 1 = T := D4.2.1.1.2
        have D5 : TKX tp t T S s3 (hset g3 (T + 854) y v2) rr3 := D4.stC (by omega)
        have cF : ∀ o, o ≠ 129 → o ≠ T + 854 → hset g3 (T + 854) y v2 o = hn o := fun o u w => by rw [hs_ne w, a3 o u, a2 o u, a1 o u]
        have cX : ∀ i, i ≠ y → hset g3 (T + 854) y v2 (T + 854) i = h (T + 854) i := fun i u => by rw [hcell u, a3 _ (by omega), a2 _ (by omega), a1 _ (by omega), n3 _ (by omega) (by omega)]
        have cY : hset g3 (T + 854) y v2 (T + 854) y = v2 := hcel1
        have dF : ∀ o, o ≠ 6603 → o ≠ S + 404 → rr3 o = rn o := fun o u w => by rw [b3.1 o u, hs_ne w, b2.1 o u, b1.1 o u]
        have dX : ∀ i, i ≠ y → rr3 (S + 404) i = hr (S + 404) i := fun i u => by rw [b3.1 _ (by omega), hcell u, b2.1 _ (by omega), b1.1 _ (by omega), m3 _ (by omega) (by omega)]
        have dY : rr3 (S + 404) y = v2 := by rw [b3.1 _ (by omega), hcel1]
        have d3 : ∀ i, i ≠ 2 → i ≠ 3 → i ≠ 4 → i ≠ 5 → i ≠ 6 → rr3 6603 i = hr 6603 i := fun i u1 u2 u3 u4 u5 => by rw [b3.2 i u1 u2 u3 u4 u5, hs_ne (by omega), b2.2 i u1 u2 u3 u4 u5, b1.2 i u1 u2 u3 u4 u5, m3 6603 (by omega) (by omega)]
        have FF : FIC T h (hset g3 (T + 854) y v2) := Fn.trans (a1.i.trans (a2.i.trans (a3.i.trans (FIC.st (by omega) hT))))
        have FR : FIR S hr rr3 := Fr.trans (b1.i.trans (b2.i.trans ((FIR.st (by omega) hS).trans b3.i)))
        obtain ⟨gF, hgF⟩ : ∃ a, a = hset g3 (T + 854) y v2 := ⟨_, rfl⟩
        rw [← hgF] at D5 cF cX cY FF
        have Z := I0.fr (s1 := s3) (g := gF) (gr := rr3) (by omega) hT hS (by rw [cF 258 (by decide) (by omega), n3 258 (by omega) (by omega)]) (fun i _ => by rw [cF T (by omega) (by omega), n3 T (by omega) (by omega)]) (fun o u w => by rw [cF o u (by omega), n3 o (by omega) (by omega)]) (by rw [cF (T + 598) (by omega) (by omega), n2 6 (by decide)]) d3 (by rw [dF (S + 84) (by omega) (by omega), m1 6 (by decide)]) (fun o u w => by rw [dF o u (by omega), m3 o (by omega) (by omega)])
        refine ⟨gF, rr3, fun Q => ?_, fun Q => ?_, FF, FR, .inl ⟨s3, by omega, D5, Z.1, CN.fr (cF _ (by omega) (by omega)) (fun p _ _ => cF _ (by omega) (by omega)) (dF _ (by omega) (by omega)) (dF _ (by omega) (by omega)), ?_, Z.2⟩⟩
        · rw [hgF]
          simp (implicitDefEqProofs := false) (disch := omega) only [sp66, b66_0, b66_1, q66_1, x_aload0, y_call41, y_call51, y_call58, y_call61, x_gc_10283, x_gf_2059, x_goto_1, x_iastore, x_iconst, x_ifCond_eq_1, x_iload1, x_iload2, x_istore1, x_istore2, x_return, klp_0, klp_1, klp_2, klp_3, klp_9, KC_0, KC_1, KC_2, KC_3, KC_4, ne_eq, not_false_eq_true, not_true_eq_false, true_and, and_true, and_self, implies_true, eq_self, true_imp_iff, false_implies, Int.reduceEq, Int.reduceNe, Int.reduceMod, Int.reduceMul, Int.reduceAdd, Int.reduceSub, Int.reduceLT, Int.reduceLE, Nat.reduceAdd, Nat.reduceLeDiff, Nat.reduceLT, Nat.reduceSub, reduceIte, wds_n, wds_0, wds_1, wds_2, wds_3, or_true, true_or, or_false, false_or, or_self, false_and, and_false, d_pos, d_s1, d_s2, d_s3, d_s4, d_s5, d_s6, d_s7, d_s8, Classical.not_not, c5 hT, c5l hT, c5k hT, TC_0 hT, TC_k hT, e51, e61, e58, st, hp, d_s9, d_s10, d_s11, d_s12, d_s13, d_s14, d_s15, d_s16, d_s17, d_s18, d_s19, d_s20, d_s21, d_s22, d_s23, d_s24, d_s25, d_s26, d_s27, d_s28, d_s29, d_s30, hs_ne, hcell, hcel1, le_sub1, le_T, le_F, lt_T, lt_F, eq_F, w32_T, bz0, bz1, lc_le, lc_ge, lc_lt, lc_gt, lc_eq]
        · rw [q326_3]
          simp (implicitDefEqProofs := false) (disch := omega) only [n326_3, b326_8, q326_3, q326_8, x_aload0, y_call321, y_call327, y_call328, y_call333, y_call335, x_gc_12331, x_gf_11339, x_goto_8, x_iastore, x_iconst, x_ifCond_eq_4, x_iload1, x_istore1, x_jsr, x_return, klp_0, klp_1, klp_2, klp_3, klp_9, KC_0, KC_1, KC_2, KC_3, KC_4, ne_eq, not_false_eq_true, not_true_eq_false, true_and, and_true, and_self, implies_true, eq_self, true_imp_iff, false_implies, Int.reduceEq, Int.reduceNe, Int.reduceMod, Int.reduceMul, Int.reduceAdd, Int.reduceSub, Int.reduceLT, Int.reduceLE, Nat.reduceAdd, Nat.reduceLeDiff, Nat.reduceLT, Nat.reduceSub, reduceIte, wds_n, wds_0, wds_1, wds_2, wds_3, or_true, true_or, or_false, false_or, or_self, false_and, and_false, d_pos, d_s1, d_s2, d_s3, d_s4, d_s5, d_s6, d_s7, d_s8, Classical.not_not, r2 hS, r2l hS, r2k hS, r5 hS, r5l hS, r5k hS, r10 hS, r10l hS, r10k hS, TR_0 hS, TR_k hS, iw, f0, f1, f2, f3, h9, d_s9, d_s10, d_s11, d_s12, d_s13, d_s14, d_s15, d_s16, d_s17, d_s18, d_s19, d_s20, d_s21, d_s22, d_s23, d_s24, d_s25, d_s26, d_s27, d_s28, d_s29, d_s30, hs_ne, hcell, hcel1, le_sub1, le_T, le_F, lt_T, lt_F, eq_F, w32_T, bz0, bz1, lc_le, lc_ge, lc_lt, lc_gt, lc_eq]
        · rw [ex] at cX cY dX dY
          refine X.a3 (fun k k1 k5 k6 => by rw [cF (T + 598) (by omega) (by omega), n2 k k6]) (by rw [cF (T + 598) (by omega) (by omega), n1]) (fun i u => ⟨cX i u, dX i u⟩) (by rw [cY, dY]) (by rw [cF T (by omega) (by omega), n3 T (by omega) (by omega)]) (fun o u w z => by rw [cF o (by omega) z, n3 o (by omega) (by omega)]) (fun o u w z => by rw [dF o (by omega) z, m3 o (by omega) (by omega)])
      · obtain ⟨B1, B2⟩ := D3.bad
        have st : ∀ Q, Sp fz1 (e + 9) 41 [(3, 258)] g3 Q = Q 0 g3 := fun Q => by rw [ge]; exact B1.c41 (d := e + 8)
        have hp : g3 258 1 = T := by rw [ge]; exact B1.1.2
        have Fb : FIC T g2 g3 := by rw [ge]; exact FIC.bd
        have Fbr : FIR S (hset rr2 (S + 404) y v2) rr3 := by rw [re]; exact FIR.bd
        have Fst : FIR S rr2 (hset rr2 (S + 404) y v2) := FIR.st (by omega) hS
        refine ⟨g3, rr3, fun Q => ?_, fun Q => ?_, Fn.trans (a1.i.trans (a2.i.trans Fb)), Fr.trans (b1.i.trans (b2.i.trans (Fst.trans Fbr))), .inr ⟨⟨s2, by rw [ge]; exact B1, by rw [re]; exact B2⟩, ?_⟩⟩
        · simp (implicitDefEqProofs := false) (disch := omega) only [sp66, b66_0, b66_1, q66_1, x_aload0, y_call41, y_call51, y_call58, y_call61, x_gc_10283, x_gf_2059, x_goto_1, x_iastore, x_iconst, x_ifCond_eq_1, x_iload1, x_iload2, x_istore1, x_istore2, x_return, klp_0, klp_1, klp_2, klp_3, klp_9, KC_0, KC_1, KC_2, KC_3, KC_4, ne_eq, not_false_eq_true, not_true_eq_false, true_and, and_true, and_self, implies_true, eq_self, true_imp_iff, false_implies, Int.reduceEq, Int.reduceNe, Int.reduceMod, Int.reduceMul, Int.reduceAdd, Int.reduceSub, Int.reduceLT, Int.reduceLE, Nat.reduceAdd, Nat.reduceLeDiff, Nat.reduceLT, Nat.reduceSub, reduceIte, wds_n, wds_0, wds_1, wds_2, wds_3, or_true, true_or, or_false, false_or, or_self, false_and, and_false, d_pos, d_s1, d_s2, d_s3, d_s4, d_s5, d_s6, d_s7, d_s8, Classical.not_not, c5 hT, c5l hT, c5k hT, TC_0 hT, TC_k hT, e51, e61, e58, st, hp, d_s9, d_s10, d_s11, d_s12, d_s13, d_s14, d_s15, d_s16, d_s17, d_s18, d_s19, d_s20, d_s21, d_s22, d_s23, d_s24, d_s25, d_s26, d_s27, d_s28, d_s29, d_s30, hs_ne, hcell, hcel1, le_sub1, le_T, le_F, lt_T, lt_F, eq_F, w32_T, bz0, bz1, lc_le, lc_ge, lc_lt, lc_gt, lc_eq]
        · rw [q326_3]
          simp (implicitDefEqProofs := false) (disch := omega) only [n326_3, b326_8, q326_3, q326_8, x_aload0, y_call321, y_call327, y_call328, y_call333, y_call335, x_gc_12331, x_gf_11339, x_goto_8, x_iastore, x_iconst, x_ifCond_eq_4, x_iload1, x_istore1, x_jsr, x_return, klp_0, klp_1, klp_2, klp_3, klp_9, KC_0, KC_1, KC_2, KC_3, KC_4, ne_eq, not_false_eq_true, not_true_eq_false, true_and, and_true, and_self, implies_true, eq_self, true_imp_iff, false_implies, Int.reduceEq, Int.reduceNe, Int.reduceMod, Int.reduceMul, Int.reduceAdd, Int.reduceSub, Int.reduceLT, Int.reduceLE, Nat.reduceAdd, Nat.reduceLeDiff, Nat.reduceLT, Nat.reduceSub, reduceIte, wds_n, wds_0, wds_1, wds_2, wds_3, or_true, true_or, or_false, false_or, or_self, false_and, and_false, d_pos, d_s1, d_s2, d_s3, d_s4, d_s5, d_s6, d_s7, d_s8, Classical.not_not, r2 hS, r2l hS, r2k hS, r5 hS, r5l hS, r5k hS, r10 hS, r10l hS, r10k hS, TR_0 hS, TR_k hS, iw, f0, f1, f2, f3, h9, d_s9, d_s10, d_s11, d_s12, d_s13, d_s14, d_s15, d_s16, d_s17, d_s18, d_s19, d_s20, d_s21, d_s22, d_s23, d_s24, d_s25, d_s26, d_s27, d_s28, d_s29, d_s30, hs_ne, hcell, hcel1, le_sub1, le_T, le_F, lt_T, lt_F, eq_F, w32_T, bz0, bz1, lc_le, lc_ge, lc_lt, lc_gt, lc_eq]
        · have z : ∀ o, o ≠ 129 → g3 o = hn o := fun o u => by rw [ge]; unfold bdH; rw [hs_ne u, hs_ne u, a2 o u, a1 o u]
          rw [z T (by omega), z 258 (by decide), z (T + 598) (by omega), n2 6 (by decide), n3 T (by omega) (by omega), n3 258 (by omega) (by omega)]
          omega
    · obtain ⟨B1, B2⟩ := D1.bad
      rw [← ge] at B1
      rw [← re] at B2
      have e58 : ∀ Q, Sp fz1 (e + 9) 58 [(3, 258), (0, 59)] g2 Q = Q 0 g2 := fun Q => B1.sg (d := e + 8)
      have st : ∀ Q, Sp fz1 (e + 9) 41 [(3, 258)] g2 Q = Q 0 g2 := fun Q => B1.c41 (d := e + 8)
      have hp : g2 258 1 = T := B1.1.2
      have B3 : BXR S s1 (hset rr2 (S + 404) y v2) := B2.st (by omega)
      obtain ⟨rr3, hr3⟩ : ∃ a, a = hset rr2 (S + 404) y v2 := ⟨_, rfl⟩
      have f3 : ∀ Q, Sp fz1 (e2 + 9) 333 [(3, 6603), (0, 59)] (hset rr2 (S + 404) y v2) Q = Q 0 rr3 := fun Q => by rw [hr3]; exact B3.sg (d := e2 + 8)
      have Fb : FIC T g1 g2 := by rw [ge]; exact FIC.bd
      have Fbr : FIR S rr1 rr2 := by rw [re]; exact FIR.bd
      have Fst : FIR S rr2 rr3 := by rw [hr3]; exact FIR.st (by omega) hS
      refine ⟨g2, rr3, fun Q => ?_, fun Q => ?_, Fn.trans (a1.i.trans Fb), Fr.trans (b1.i.trans (Fbr.trans Fst)), .inr ⟨⟨s1, B1, by rw [hr3]; exact B3⟩, ?_⟩⟩
      · simp (implicitDefEqProofs := false) (disch := omega) only [sp66, b66_0, b66_1, q66_1, x_aload0, y_call41, y_call51, y_call58, y_call61, x_gc_10283, x_gf_2059, x_goto_1, x_iastore, x_iconst, x_ifCond_eq_1, x_iload1, x_iload2, x_istore1, x_istore2, x_return, klp_0, klp_1, klp_2, klp_3, klp_9, KC_0, KC_1, KC_2, KC_3, KC_4, ne_eq, not_false_eq_true, not_true_eq_false, true_and, and_true, and_self, implies_true, eq_self, true_imp_iff, false_implies, Int.reduceEq, Int.reduceNe, Int.reduceMod, Int.reduceMul, Int.reduceAdd, Int.reduceSub, Int.reduceLT, Int.reduceLE, Nat.reduceAdd, Nat.reduceLeDiff, Nat.reduceLT, Nat.reduceSub, reduceIte, wds_n, wds_0, wds_1, wds_2, wds_3, or_true, true_or, or_false, false_or, or_self, false_and, and_false, d_pos, d_s1, d_s2, d_s3, d_s4, d_s5, d_s6, d_s7, d_s8, Classical.not_not, c5 hT, c5l hT, c5k hT, TC_0 hT, TC_k hT, e51, e61, e58, st, hp, d_s9, d_s10, d_s11, d_s12, d_s13, d_s14, d_s15, d_s16, d_s17, d_s18, d_s19, d_s20, d_s21, d_s22, d_s23, d_s24, d_s25, d_s26, d_s27, d_s28, d_s29, d_s30, hs_ne, hcell, hcel1, le_sub1, le_T, le_F, lt_T, lt_F, eq_F, w32_T, bz0, bz1, lc_le, lc_ge, lc_lt, lc_gt, lc_eq]
      · rw [q326_3]
        simp (implicitDefEqProofs := false) (disch := omega) only [n326_3, b326_8, q326_3, q326_8, x_aload0, y_call321, y_call327, y_call328, y_call333, y_call335, x_gc_12331, x_gf_11339, x_goto_8, x_iastore, x_iconst, x_ifCond_eq_4, x_iload1, x_istore1, x_jsr, x_return, klp_0, klp_1, klp_2, klp_3, klp_9, KC_0, KC_1, KC_2, KC_3, KC_4, ne_eq, not_false_eq_true, not_true_eq_false, true_and, and_true, and_self, implies_true, eq_self, true_imp_iff, false_implies, Int.reduceEq, Int.reduceNe, Int.reduceMod, Int.reduceMul, Int.reduceAdd, Int.reduceSub, Int.reduceLT, Int.reduceLE, Nat.reduceAdd, Nat.reduceLeDiff, Nat.reduceLT, Nat.reduceSub, reduceIte, wds_n, wds_0, wds_1, wds_2, wds_3, or_true, true_or, or_false, false_or, or_self, false_and, and_false, d_pos, d_s1, d_s2, d_s3, d_s4, d_s5, d_s6, d_s7, d_s8, Classical.not_not, r2 hS, r2l hS, r2k hS, r5 hS, r5l hS, r5k hS, r10 hS, r10l hS, r10k hS, TR_0 hS, TR_k hS, iw, f0, f1, f2, f3, h9, d_s9, d_s10, d_s11, d_s12, d_s13, d_s14, d_s15, d_s16, d_s17, d_s18, d_s19, d_s20, d_s21, d_s22, d_s23, d_s24, d_s25, d_s26, d_s27, d_s28, d_s29, d_s30, hs_ne, hcell, hcel1, le_sub1, le_T, le_F, lt_T, lt_F, eq_F, w32_T, bz0, bz1, lc_le, lc_ge, lc_lt, lc_gt, lc_eq]
      · have z : ∀ o, o ≠ 129 → g2 o = hn o := fun o u => by rw [ge]; unfold bdH; rw [hs_ne u, hs_ne u, a1 o u]
        rw [z T (by omega), z 258 (by decide), z (T + 598) (by omega), n2 6 (by decide), n3 T (by omega) (by omega), n3 258 (by omega) (by omega)]
        omega
  · obtain ⟨B1, B2⟩ := D.bad
    rw [← ge] at B1
    rw [← re] at B2
    have h9 : rr1 6603 9 = S := B2.1.2
    have e61 : ∀ Q, Sp fz1 (e + 9) 61 [(3, 258), (0, 99)] g1 Q = Q (w32 (g1 129 7)) g1 := fun Q => B1.no (d := e + 6)
    obtain ⟨rr2, hr2⟩ : ∃ a, a = rr1 := ⟨_, rfl⟩
    have f2 : ∀ Q, Sp fz1 (e2 + 9) 335 [(3, 6603), (0, 1), (0, 99)] rr1 Q = Q 1 rr2 := fun Q => by rw [hr2]; exact B2.no (d := e2 + 8)
    obtain ⟨g3, hg3⟩ : ∃ a, a = g1 := ⟨_, rfl⟩
    have e58 : ∀ Q, Sp fz1 (e + 9) 58 [(3, 258), (0, 59)] g1 Q = Q 0 g3 := fun Q => by rw [hg3]; exact B1.sg (d := e + 8)
    have st : ∀ Q, Sp fz1 (e + 9) 41 [(3, 258)] g3 Q = Q 0 g3 := fun Q => by rw [hg3]; exact B1.c41 (d := e + 8)
    have hp : g3 258 1 = T := by rw [hg3]; exact B1.1.2
    rw [← hr2] at B2
    have B3 : BXR S s (hset rr2 (S + 404) y 1) := B2.st (by omega)
    obtain ⟨rr3, hr3⟩ : ∃ a, a = hset rr2 (S + 404) y 1 := ⟨_, rfl⟩
    have f3 : ∀ Q, Sp fz1 (e2 + 9) 333 [(3, 6603), (0, 59)] (hset rr2 (S + 404) y 1) Q = Q 0 rr3 := fun Q => by rw [hr3]; exact B3.sg (d := e2 + 8)
    have Fb : FIC T h g3 := by rw [hg3, ge]; exact FIC.bd
    have Fbr : FIR S hr rr2 := by rw [hr2, re]; exact FIR.bd
    have Fst : FIR S rr2 rr3 := by rw [hr3]; exact FIR.st (by omega) hS
    refine ⟨g3, rr3, fun Q => ?_, fun Q => ?_, Fb, Fbr.trans Fst, .inr ⟨⟨s, by rw [hg3]; exact B1, by rw [hr3]; exact B3⟩, ?_⟩⟩
    · simp (implicitDefEqProofs := false) (disch := omega) only [sp66, b66_0, b66_1, q66_1, x_aload0, y_call41, y_call51, y_call58, y_call61, x_gc_10283, x_gf_2059, x_goto_1, x_iastore, x_iconst, x_ifCond_eq_1, x_iload1, x_iload2, x_istore1, x_istore2, x_return, klp_0, klp_1, klp_2, klp_3, klp_9, KC_0, KC_1, KC_2, KC_3, KC_4, ne_eq, not_false_eq_true, not_true_eq_false, true_and, and_true, and_self, implies_true, eq_self, true_imp_iff, false_implies, Int.reduceEq, Int.reduceNe, Int.reduceMod, Int.reduceMul, Int.reduceAdd, Int.reduceSub, Int.reduceLT, Int.reduceLE, Nat.reduceAdd, Nat.reduceLeDiff, Nat.reduceLT, Nat.reduceSub, reduceIte, wds_n, wds_0, wds_1, wds_2, wds_3, or_true, true_or, or_false, false_or, or_self, false_and, and_false, d_pos, d_s1, d_s2, d_s3, d_s4, d_s5, d_s6, d_s7, d_s8, Classical.not_not, c5 hT, c5l hT, c5k hT, TC_0 hT, TC_k hT, e51, e61, e58, st, hp, d_s9, d_s10, d_s11, d_s12, d_s13, d_s14, d_s15, d_s16, d_s17, d_s18, d_s19, d_s20, d_s21, d_s22, d_s23, d_s24, d_s25, d_s26, d_s27, d_s28, d_s29, d_s30, hs_ne, hcell, hcel1, le_sub1, le_T, le_F, lt_T, lt_F, eq_F, w32_T, bz0, bz1, lc_le, lc_ge, lc_lt, lc_gt, lc_eq]
    · rw [q326_3]
      simp (implicitDefEqProofs := false) (disch := omega) only [n326_3, b326_8, q326_3, q326_8, x_aload0, y_call321, y_call327, y_call328, y_call333, y_call335, x_gc_12331, x_gf_11339, x_goto_8, x_iastore, x_iconst, x_ifCond_eq_4, x_iload1, x_istore1, x_jsr, x_return, klp_0, klp_1, klp_2, klp_3, klp_9, KC_0, KC_1, KC_2, KC_3, KC_4, ne_eq, not_false_eq_true, not_true_eq_false, true_and, and_true, and_self, implies_true, eq_self, true_imp_iff, false_implies, Int.reduceEq, Int.reduceNe, Int.reduceMod, Int.reduceMul, Int.reduceAdd, Int.reduceSub, Int.reduceLT, Int.reduceLE, Nat.reduceAdd, Nat.reduceLeDiff, Nat.reduceLT, Nat.reduceSub, reduceIte, wds_n, wds_0, wds_1, wds_2, wds_3, or_true, true_or, or_false, false_or, or_self, false_and, and_false, d_pos, d_s1, d_s2, d_s3, d_s4, d_s5, d_s6, d_s7, d_s8, Classical.not_not, r2 hS, r2l hS, r2k hS, r5 hS, r5l hS, r5k hS, r10 hS, r10l hS, r10k hS, TR_0 hS, TR_k hS, iw, f0, f1, f2, f3, h9, d_s9, d_s10, d_s11, d_s12, d_s13, d_s14, d_s15, d_s16, d_s17, d_s18, d_s19, d_s20, d_s21, d_s22, d_s23, d_s24, d_s25, d_s26, d_s27, d_s28, d_s29, d_s30, hs_ne, hcell, hcel1, le_sub1, le_T, le_F, lt_T, lt_F, eq_F, w32_T, bz0, bz1, lc_le, lc_ge, lc_lt, lc_gt, lc_eq]
    · have z : ∀ o, o ≠ 129 → g3 o = h o := fun o u => by rw [hg3, ge]; unfold bdH; rw [hs_ne u, hs_ne u]
      rw [z T (by omega), z 258 (by decide), z (T + 598) (by omega)]
      omega
/-- course -/
theorem it_course {hr0 : HV} {e e2 : Nat} (I : IT tp t T S s h hr) (iw : ∀ Q, Sp fz1 (e2 + 9) 327 [(3, 6603), (3, NV_2611)] hr0 Q = Q 1 hr0) (f0 : ∀ Q, Sp fz1 (e2 + 9) 321 [(3, 6603)] hr0 Q = Q 0 hr) : ∃ g gr, (∀ Q, Sp fz1 (e + 10) 71 [(3, 258)] h Q = Q 0 g) ∧ (∀ Q, G fz1 (e2 + 10) 326 5 [(3, 6603), (9, 0)] [] hr0 Q = Q 0 gr) ∧ FIC T h g ∧ FIR S hr gr ∧ ((∃ s1, s + 1 ≤ s1 ∧ IT tp t T S s1 g gr) ∨ BXI T S g gr) := by
  have I0 := I
  obtain ⟨D, IB, C, X, RN, RL⟩ := I
  have hT := D.2.1.1.1
  have hS := D.2.1.2.1
  have kT := kTC hT
  have kS := kTR hS
  have N := IB.1
  unfold NBI at N
  have mq : MST 5 = 8 := by decide
  have Cq := C.1 5 (by decide) (by decide)
  have C6 := C.1 6 (by decide) (by decide)
  have m6 := MST_12 (q := 6)
  have S0 := D.sb
  obtain ⟨g1, rr1, x, y, cc1, f1, W⟩ := nn_pair (M := 8) (q := 5) D C (by decide) mq.symm e (e2 + 2)
  have e51 : ∀ Q, Sp fz1 (e + 9) 51 [(3, 258), (0, 5)] h Q = Q x g1 := cc1
  have f1 : ∀ Q, Sp fz1 (e2 + 9) 328 [(3, 6603), (0, 5), (0, 8)] hr Q = Q y rr1 := f1
  have Fn : FIC T h (nmH T h 5 (wdT tp t s)) := by
    unfold nmH
    exact (FIC.st (by omega) hT).trans (FIC.st (by omega) hT)
  have Fr : FIR S hr (nmR S hr 5 (wdT tp t s)) := by
    unfold nmR
    exact (FIR.st (by omega) hS).trans (FIR.st (by omega) hS)
  rcases W with ⟨ex, exy, xm, s1, q1, D1, a1, b1⟩ | ⟨ex, ey, ge, re⟩
  · subst exy
    have CN := C.nm (w := wdT tp t s) (q := 5) hT hS (by decide) (by omega)
    have n1 : nmH T h 5 (wdT tp t s) (T + 598) 5 = h (T + 598) 5 + 1 := hcel1
    have n2 : ∀ p, p ≠ 5 → nmH T h 5 (wdT tp t s) (T + 598) p = h (T + 598) p := fun p u => by unfold nmH; rw [hcell u, hs_ne (by omega)]
    have n3 : ∀ o, o ≠ T + 598 → o ≠ T + 151 + 64 * 5 → nmH T h 5 (wdT tp t s) o = h o := fun o u v => by unfold nmH; rw [hs_ne u, hs_ne v]
    have m1 : ∀ p, p ≠ 5 → nmR S hr 5 (wdT tp t s) (S + 84) p = hr (S + 84) p := fun p u => by unfold nmR; rw [hcell u, hs_ne (by omega)]
    have m3 : ∀ o, o ≠ S + 84 → o ≠ S + 149 → nmR S hr 5 (wdT tp t s) o = hr o := fun o u v => by unfold nmR; rw [hs_ne u, hs_ne v]
    generalize nmH T h 5 (wdT tp t s) = hn at *
    generalize nmR S hr 5 (wdT tp t s) = rn at *
    have h9 : rr1 6603 9 = S := D1.2.1.2.2
    obtain ⟨g2, rr2, v, v2, cc2, f2, W⟩ := nu_pair (M := 99) D1 (by decide) e (e2 + 6)
    have e61 : ∀ Q, Sp fz1 (e + 9) 61 [(3, 258), (0, 99)] g1 Q = Q v g2 := cc2
    have f2 : ∀ Q, Sp fz1 (e2 + 9) 335 [(3, 6603), (0, 1), (0, 99)] rr1 Q = Q v2 rr2 := f2
    rcases W with ⟨evv, v0, v1, s2, q2, D2, a2, b2⟩ | ⟨ev, ge, re⟩
    · subst evv
      have D3 : TKX tp t T S s2 g2 (hset rr2 (S + 724) y v2) := D2.stR (by omega)
      obtain ⟨g3, rr3, cc3, f3, W⟩ := D3.sign (c := 59) (by decide) e (e2 + 6)
      have e58 : ∀ Q, Sp fz1 (e + 9) 58 [(3, 258), (0, 59)] g2 Q = Q 0 g3 := cc3
      have f3 : ∀ Q, Sp fz1 (e2 + 9) 333 [(3, 6603), (0, 59)] (hset rr2 (S + 724) y v2) Q = Q 0 rr3 := f3
      rcases W with ⟨-, s3, q3, D4, a3, b3⟩ | ⟨-, ge, re⟩
      · have st : ∀ Q, Sp fz1 (e + 9) 41 [(3, 258)] g3 Q = Q 1 g3 := fun Q => D4.c41 (d := e + 8)
        have hp : g3 258 1 = T := D4.2.1.1.2
        have D5 : TKX tp t T S s3 (hset g3 (T + 1110) y v2) rr3 := D4.stC (by omega)
        have cF : ∀ o, o ≠ 129 → o ≠ T + 1110 → hset g3 (T + 1110) y v2 o = hn o := fun o u w => by rw [hs_ne w, a3 o u, a2 o u, a1 o u]
        have cX : ∀ i, i ≠ y → hset g3 (T + 1110) y v2 (T + 1110) i = h (T + 1110) i := fun i u => by rw [hcell u, a3 _ (by omega), a2 _ (by omega), a1 _ (by omega), n3 _ (by omega) (by omega)]
        have cY : hset g3 (T + 1110) y v2 (T + 1110) y = v2 := hcel1
        have dF : ∀ o, o ≠ 6603 → o ≠ S + 724 → rr3 o = rn o := fun o u w => by rw [b3.1 o u, hs_ne w, b2.1 o u, b1.1 o u]
        have dX : ∀ i, i ≠ y → rr3 (S + 724) i = hr (S + 724) i := fun i u => by rw [b3.1 _ (by omega), hcell u, b2.1 _ (by omega), b1.1 _ (by omega), m3 _ (by omega) (by omega)]
        have dY : rr3 (S + 724) y = v2 := by rw [b3.1 _ (by omega), hcel1]
        have d3 : ∀ i, i ≠ 2 → i ≠ 3 → i ≠ 4 → i ≠ 5 → i ≠ 6 → rr3 6603 i = hr 6603 i := fun i u1 u2 u3 u4 u5 => by rw [b3.2 i u1 u2 u3 u4 u5, hs_ne (by omega), b2.2 i u1 u2 u3 u4 u5, b1.2 i u1 u2 u3 u4 u5, m3 6603 (by omega) (by omega)]
        have FF : FIC T h (hset g3 (T + 1110) y v2) := Fn.trans (a1.i.trans (a2.i.trans (a3.i.trans (FIC.st (by omega) hT))))
        have FR : FIR S hr rr3 := Fr.trans (b1.i.trans (b2.i.trans ((FIR.st (by omega) hS).trans b3.i)))
        obtain ⟨gF, hgF⟩ : ∃ a, a = hset g3 (T + 1110) y v2 := ⟨_, rfl⟩
        rw [← hgF] at D5 cF cX cY FF
        have Z := I0.fr (s1 := s3) (g := gF) (gr := rr3) (by omega) hT hS (by rw [cF 258 (by decide) (by omega), n3 258 (by omega) (by omega)]) (fun i _ => by rw [cF T (by omega) (by omega), n3 T (by omega) (by omega)]) (fun o u w => by rw [cF o u (by omega), n3 o (by omega) (by omega)]) (by rw [cF (T + 598) (by omega) (by omega), n2 6 (by decide)]) d3 (by rw [dF (S + 84) (by omega) (by omega), m1 6 (by decide)]) (fun o u w => by rw [dF o u (by omega), m3 o (by omega) (by omega)])
        refine ⟨gF, rr3, fun Q => ?_, fun Q => ?_, FF, FR, .inl ⟨s3, by omega, D5, Z.1, CN.fr (cF _ (by omega) (by omega)) (fun p _ _ => cF _ (by omega) (by omega)) (dF _ (by omega) (by omega)) (dF _ (by omega) (by omega)), ?_, Z.2⟩⟩
        · rw [hgF]
          simp (implicitDefEqProofs := false) (disch := omega) only [sp71, b71_0, b71_1, q71_1, x_aload0, y_call41, y_call51, y_call58, y_call61, x_gc_10315, x_gf_2059, x_goto_1, x_iastore, x_iconst, x_ifCond_eq_1, x_iload1, x_iload2, x_istore1, x_istore2, x_return, klp_0, klp_1, klp_2, klp_3, klp_9, KC_0, KC_1, KC_2, KC_3, KC_4, ne_eq, not_false_eq_true, not_true_eq_false, true_and, and_true, and_self, implies_true, eq_self, true_imp_iff, false_implies, Int.reduceEq, Int.reduceNe, Int.reduceMod, Int.reduceMul, Int.reduceAdd, Int.reduceSub, Int.reduceLT, Int.reduceLE, Nat.reduceAdd, Nat.reduceLeDiff, Nat.reduceLT, Nat.reduceSub, reduceIte, wds_n, wds_0, wds_1, wds_2, wds_3, or_true, true_or, or_false, false_or, or_self, false_and, and_false, d_pos, d_s1, d_s2, d_s3, d_s4, d_s5, d_s6, d_s7, d_s8, Classical.not_not, c9 hT, c9l hT, c9k hT, TC_0 hT, TC_k hT, e51, e61, e58, st, hp, d_s9, d_s10, d_s11, d_s12, d_s13, d_s14, d_s15, d_s16, d_s17, d_s18, d_s19, d_s20, d_s21, d_s22, d_s23, d_s24, d_s25, d_s26, d_s27, d_s28, d_s29, d_s30, hs_ne, hcell, hcel1, le_sub1, le_T, le_F, lt_T, lt_F, eq_F, w32_T, bz0, bz1, lc_le, lc_ge, lc_lt, lc_gt, lc_eq]
        · rw [q326_5]
          simp (implicitDefEqProofs := false) (disch := omega) only [n326_5, b326_8, q326_5, q326_8, x_aload0, y_call321, y_call327, y_call328, y_call333, y_call335, x_gc_12371, x_gf_11339, x_goto_8, x_iastore, x_iconst, x_ifCond_eq_6, x_iload1, x_istore1, x_jsr, x_return, klp_0, klp_1, klp_2, klp_3, klp_9, KC_0, KC_1, KC_2, KC_3, KC_4, ne_eq, not_false_eq_true, not_true_eq_false, true_and, and_true, and_self, implies_true, eq_self, true_imp_iff, false_implies, Int.reduceEq, Int.reduceNe, Int.reduceMod, Int.reduceMul, Int.reduceAdd, Int.reduceSub, Int.reduceLT, Int.reduceLE, Nat.reduceAdd, Nat.reduceLeDiff, Nat.reduceLT, Nat.reduceSub, reduceIte, wds_n, wds_0, wds_1, wds_2, wds_3, or_true, true_or, or_false, false_or, or_self, false_and, and_false, d_pos, d_s1, d_s2, d_s3, d_s4, d_s5, d_s6, d_s7, d_s8, Classical.not_not, r2 hS, r2l hS, r2k hS, r5 hS, r5l hS, r5k hS, r10 hS, r10l hS, r10k hS, TR_0 hS, TR_k hS, iw, f0, f1, f2, f3, h9, d_s9, d_s10, d_s11, d_s12, d_s13, d_s14, d_s15, d_s16, d_s17, d_s18, d_s19, d_s20, d_s21, d_s22, d_s23, d_s24, d_s25, d_s26, d_s27, d_s28, d_s29, d_s30, hs_ne, hcell, hcel1, le_sub1, le_T, le_F, lt_T, lt_F, eq_F, w32_T, bz0, bz1, lc_le, lc_ge, lc_lt, lc_gt, lc_eq]
        · rw [ex] at cX cY dX dY
          refine X.a5 (fun k k1 k5 k6 => by rw [cF (T + 598) (by omega) (by omega), n2 k k6]) (by rw [cF (T + 598) (by omega) (by omega), n1]) (fun i u => ⟨cX i u, dX i u⟩) (by rw [cY, dY]) (by rw [cY]; omega) (by rw [cF T (by omega) (by omega), n3 T (by omega) (by omega)]) (fun o u w z => by rw [cF o (by omega) z, n3 o (by omega) (by omega)]) (fun o u w z => by rw [dF o (by omega) z, m3 o (by omega) (by omega)])
      · obtain ⟨B1, B2⟩ := D3.bad
        have st : ∀ Q, Sp fz1 (e + 9) 41 [(3, 258)] g3 Q = Q 0 g3 := fun Q => by rw [ge]; exact B1.c41 (d := e + 8)
        have hp : g3 258 1 = T := by rw [ge]; exact B1.1.2
        have Fb : FIC T g2 g3 := by rw [ge]; exact FIC.bd
        have Fbr : FIR S (hset rr2 (S + 724) y v2) rr3 := by rw [re]; exact FIR.bd
        have Fst : FIR S rr2 (hset rr2 (S + 724) y v2) := FIR.st (by omega) hS
        refine ⟨g3, rr3, fun Q => ?_, fun Q => ?_, Fn.trans (a1.i.trans (a2.i.trans Fb)), Fr.trans (b1.i.trans (b2.i.trans (Fst.trans Fbr))), .inr ⟨⟨s2, by rw [ge]; exact B1, by rw [re]; exact B2⟩, ?_⟩⟩
        · simp (implicitDefEqProofs := false) (disch := omega) only [sp71, b71_0, b71_1, q71_1, x_aload0, y_call41, y_call51, y_call58, y_call61, x_gc_10315, x_gf_2059, x_goto_1, x_iastore, x_iconst, x_ifCond_eq_1, x_iload1, x_iload2, x_istore1, x_istore2, x_return, klp_0, klp_1, klp_2, klp_3, klp_9, KC_0, KC_1, KC_2, KC_3, KC_4, ne_eq, not_false_eq_true, not_true_eq_false, true_and, and_true, and_self, implies_true, eq_self, true_imp_iff, false_implies, Int.reduceEq, Int.reduceNe, Int.reduceMod, Int.reduceMul, Int.reduceAdd, Int.reduceSub, Int.reduceLT, Int.reduceLE, Nat.reduceAdd, Nat.reduceLeDiff, Nat.reduceLT, Nat.reduceSub, reduceIte, wds_n, wds_0, wds_1, wds_2, wds_3, or_true, true_or, or_false, false_or, or_self, false_and, and_false, d_pos, d_s1, d_s2, d_s3, d_s4, d_s5, d_s6, d_s7, d_s8, Classical.not_not, c9 hT, c9l hT, c9k hT, TC_0 hT, TC_k hT, e51, e61, e58, st, hp, d_s9, d_s10, d_s11, d_s12, d_s13, d_s14, d_s15, d_s16, d_s17, d_s18, d_s19, d_s20, d_s21, d_s22, d_s23, d_s24, d_s25, d_s26, d_s27, d_s28, d_s29, d_s30, hs_ne, hcell, hcel1, le_sub1, le_T, le_F, lt_T, lt_F, eq_F, w32_T, bz0, bz1, lc_le, lc_ge, lc_lt, lc_gt, lc_eq]
        · rw [q326_5]
          simp (implicitDefEqProofs := false) (disch := omega) only [n326_5, b326_8, q326_5, q326_8, x_aload0, y_call321, y_call327, y_call328, y_call333, y_call335, x_gc_12371, x_gf_11339, x_goto_8, x_iastore, x_iconst, x_ifCond_eq_6, x_iload1, x_istore1, x_jsr, x_return, klp_0, klp_1, klp_2, klp_3, klp_9, KC_0, KC_1, KC_2, KC_3, KC_4, ne_eq, not_false_eq_true, not_true_eq_false, true_and, and_true, and_self, implies_true, eq_self, true_imp_iff, false_implies, Int.reduceEq, Int.reduceNe, Int.reduceMod, Int.reduceMul, Int.reduceAdd, Int.reduceSub, Int.reduceLT, Int.reduceLE, Nat.reduceAdd, Nat.reduceLeDiff, Nat.reduceLT, Nat.reduceSub, reduceIte, wds_n, wds_0, wds_1, wds_2, wds_3, or_true, true_or, or_false, false_or, or_self, false_and, and_false, d_pos, d_s1, d_s2, d_s3, d_s4, d_s5, d_s6, d_s7, d_s8, Classical.not_not, r2 hS, r2l hS, r2k hS, r5 hS, r5l hS, r5k hS, r10 hS, r10l hS, r10k hS, TR_0 hS, TR_k hS, iw, f0, f1, f2, f3, h9, d_s9, d_s10, d_s11, d_s12, d_s13, d_s14, d_s15, d_s16, d_s17, d_s18, d_s19, d_s20, d_s21, d_s22, d_s23, d_s24, d_s25, d_s26, d_s27, d_s28, d_s29, d_s30, hs_ne, hcell, hcel1, le_sub1, le_T, le_F, lt_T, lt_F, eq_F, w32_T, bz0, bz1, lc_le, lc_ge, lc_lt, lc_gt, lc_eq]
        · have z : ∀ o, o ≠ 129 → g3 o = hn o := fun o u => by rw [ge]; unfold bdH; rw [hs_ne u, hs_ne u, a2 o u, a1 o u]
          rw [z T (by omega), z 258 (by decide), z (T + 598) (by omega), n2 6 (by decide), n3 T (by omega) (by omega), n3 258 (by omega) (by omega)]
          omega
    · obtain ⟨B1, B2⟩ := D1.bad
      rw [← ge] at B1
      rw [← re] at B2
      have e58 : ∀ Q, Sp fz1 (e + 9) 58 [(3, 258), (0, 59)] g2 Q = Q 0 g2 := fun Q => B1.sg (d := e + 8)
      have st : ∀ Q, Sp fz1 (e + 9) 41 [(3, 258)] g2 Q = Q 0 g2 := fun Q => B1.c41 (d := e + 8)
      have hp : g2 258 1 = T := B1.1.2
      have B3 : BXR S s1 (hset rr2 (S + 724) y v2) := B2.st (by omega)
      obtain ⟨rr3, hr3⟩ : ∃ a, a = hset rr2 (S + 724) y v2 := ⟨_, rfl⟩
      have f3 : ∀ Q, Sp fz1 (e2 + 9) 333 [(3, 6603), (0, 59)] (hset rr2 (S + 724) y v2) Q = Q 0 rr3 := fun Q => by rw [hr3]; exact B3.sg (d := e2 + 8)
      have Fb : FIC T g1 g2 := by rw [ge]; exact FIC.bd
      have Fbr : FIR S rr1 rr2 := by rw [re]; exact FIR.bd
      have Fst : FIR S rr2 rr3 := by rw [hr3]; exact FIR.st (by omega) hS
      refine ⟨g2, rr3, fun Q => ?_, fun Q => ?_, Fn.trans (a1.i.trans Fb), Fr.trans (b1.i.trans (Fbr.trans Fst)), .inr ⟨⟨s1, B1, by rw [hr3]; exact B3⟩, ?_⟩⟩
      · simp (implicitDefEqProofs := false) (disch := omega) only [sp71, b71_0, b71_1, q71_1, x_aload0, y_call41, y_call51, y_call58, y_call61, x_gc_10315, x_gf_2059, x_goto_1, x_iastore, x_iconst, x_ifCond_eq_1, x_iload1, x_iload2, x_istore1, x_istore2, x_return, klp_0, klp_1, klp_2, klp_3, klp_9, KC_0, KC_1, KC_2, KC_3, KC_4, ne_eq, not_false_eq_true, not_true_eq_false, true_and, and_true, and_self, implies_true, eq_self, true_imp_iff, false_implies, Int.reduceEq, Int.reduceNe, Int.reduceMod, Int.reduceMul, Int.reduceAdd, Int.reduceSub, Int.reduceLT, Int.reduceLE, Nat.reduceAdd, Nat.reduceLeDiff, Nat.reduceLT, Nat.reduceSub, reduceIte, wds_n, wds_0, wds_1, wds_2, wds_3, or_true, true_or, or_false, false_or, or_self, false_and, and_false, d_pos, d_s1, d_s2, d_s3, d_s4, d_s5, d_s6, d_s7, d_s8, Classical.not_not, c9 hT, c9l hT, c9k hT, TC_0 hT, TC_k hT, e51, e61, e58, st, hp, d_s9, d_s10, d_s11, d_s12, d_s13, d_s14, d_s15, d_s16, d_s17, d_s18, d_s19, d_s20, d_s21, d_s22, d_s23, d_s24, d_s25, d_s26, d_s27, d_s28, d_s29, d_s30, hs_ne, hcell, hcel1, le_sub1, le_T, le_F, lt_T, lt_F, eq_F, w32_T, bz0, bz1, lc_le, lc_ge, lc_lt, lc_gt, lc_eq]
      · rw [q326_5]
        simp (implicitDefEqProofs := false) (disch := omega) only [n326_5, b326_8, q326_5, q326_8, x_aload0, y_call321, y_call327, y_call328, y_call333, y_call335, x_gc_12371, x_gf_11339, x_goto_8, x_iastore, x_iconst, x_ifCond_eq_6, x_iload1, x_istore1, x_jsr, x_return, klp_0, klp_1, klp_2, klp_3, klp_9, KC_0, KC_1, KC_2, KC_3, KC_4, ne_eq, not_false_eq_true, not_true_eq_false, true_and, and_true, and_self, implies_true, eq_self, true_imp_iff, false_implies, Int.reduceEq, Int.reduceNe, Int.reduceMod, Int.reduceMul, Int.reduceAdd, Int.reduceSub, Int.reduceLT, Int.reduceLE, Nat.reduceAdd, Nat.reduceLeDiff, Nat.reduceLT, Nat.reduceSub, reduceIte, wds_n, wds_0, wds_1, wds_2, wds_3, or_true, true_or, or_false, false_or, or_self, false_and, and_false, d_pos, d_s1, d_s2, d_s3, d_s4, d_s5, d_s6, d_s7, d_s8, Classical.not_not, r2 hS, r2l hS, r2k hS, r5 hS, r5l hS, r5k hS, r10 hS, r10l hS, r10k hS, TR_0 hS, TR_k hS, iw, f0, f1, f2, f3, h9, d_s9, d_s10, d_s11, d_s12, d_s13, d_s14, d_s15, d_s16, d_s17, d_s18, d_s19, d_s20, d_s21, d_s22, d_s23, d_s24, d_s25, d_s26, d_s27, d_s28, d_s29, d_s30, hs_ne, hcell, hcel1, le_sub1, le_T, le_F, lt_T, lt_F, eq_F, w32_T, bz0, bz1, lc_le, lc_ge, lc_lt, lc_gt, lc_eq]
      · have z : ∀ o, o ≠ 129 → g2 o = hn o := fun o u => by rw [ge]; unfold bdH; rw [hs_ne u, hs_ne u, a1 o u]
        rw [z T (by omega), z 258 (by decide), z (T + 598) (by omega), n2 6 (by decide), n3 T (by omega) (by omega), n3 258 (by omega) (by omega)]
        omega
  · obtain ⟨B1, B2⟩ := D.bad
    rw [← ge] at B1
    rw [← re] at B2
    have h9 : rr1 6603 9 = S := B2.1.2
    have e61 : ∀ Q, Sp fz1 (e + 9) 61 [(3, 258), (0, 99)] g1 Q = Q (w32 (g1 129 7)) g1 := fun Q => B1.no (d := e + 6)
    obtain ⟨rr2, hr2⟩ : ∃ a, a = rr1 := ⟨_, rfl⟩
    have f2 : ∀ Q, Sp fz1 (e2 + 9) 335 [(3, 6603), (0, 1), (0, 99)] rr1 Q = Q 1 rr2 := fun Q => by rw [hr2]; exact B2.no (d := e2 + 8)
    obtain ⟨g3, hg3⟩ : ∃ a, a = g1 := ⟨_, rfl⟩
    have e58 : ∀ Q, Sp fz1 (e + 9) 58 [(3, 258), (0, 59)] g1 Q = Q 0 g3 := fun Q => by rw [hg3]; exact B1.sg (d := e + 8)
    have st : ∀ Q, Sp fz1 (e + 9) 41 [(3, 258)] g3 Q = Q 0 g3 := fun Q => by rw [hg3]; exact B1.c41 (d := e + 8)
    have hp : g3 258 1 = T := by rw [hg3]; exact B1.1.2
    rw [← hr2] at B2
    have B3 : BXR S s (hset rr2 (S + 724) y 1) := B2.st (by omega)
    obtain ⟨rr3, hr3⟩ : ∃ a, a = hset rr2 (S + 724) y 1 := ⟨_, rfl⟩
    have f3 : ∀ Q, Sp fz1 (e2 + 9) 333 [(3, 6603), (0, 59)] (hset rr2 (S + 724) y 1) Q = Q 0 rr3 := fun Q => by rw [hr3]; exact B3.sg (d := e2 + 8)
    have Fb : FIC T h g3 := by rw [hg3, ge]; exact FIC.bd
    have Fbr : FIR S hr rr2 := by rw [hr2, re]; exact FIR.bd
    have Fst : FIR S rr2 rr3 := by rw [hr3]; exact FIR.st (by omega) hS
    refine ⟨g3, rr3, fun Q => ?_, fun Q => ?_, Fb, Fbr.trans Fst, .inr ⟨⟨s, by rw [hg3]; exact B1, by rw [hr3]; exact B3⟩, ?_⟩⟩
    · simp (implicitDefEqProofs := false) (disch := omega) only [sp71, b71_0, b71_1, q71_1, x_aload0, y_call41, y_call51, y_call58, y_call61, x_gc_10315, x_gf_2059, x_goto_1, x_iastore, x_iconst, x_ifCond_eq_1, x_iload1, x_iload2, x_istore1, x_istore2, x_return, klp_0, klp_1, klp_2, klp_3, klp_9, KC_0, KC_1, KC_2, KC_3, KC_4, ne_eq, not_false_eq_true, not_true_eq_false, true_and, and_true, and_self, implies_true, eq_self, true_imp_iff, false_implies, Int.reduceEq, Int.reduceNe, Int.reduceMod, Int.reduceMul, Int.reduceAdd, Int.reduceSub, Int.reduceLT, Int.reduceLE, Nat.reduceAdd, Nat.reduceLeDiff, Nat.reduceLT, Nat.reduceSub, reduceIte, wds_n, wds_0, wds_1, wds_2, wds_3, or_true, true_or, or_false, false_or, or_self, false_and, and_false, d_pos, d_s1, d_s2, d_s3, d_s4, d_s5, d_s6, d_s7, d_s8, Classical.not_not, c9 hT, c9l hT, c9k hT, TC_0 hT, TC_k hT, e51, e61, e58, st, hp, d_s9, d_s10, d_s11, d_s12, d_s13, d_s14, d_s15, d_s16, d_s17, d_s18, d_s19, d_s20, d_s21, d_s22, d_s23, d_s24, d_s25, d_s26, d_s27, d_s28, d_s29, d_s30, hs_ne, hcell, hcel1, le_sub1, le_T, le_F, lt_T, lt_F, eq_F, w32_T, bz0, bz1, lc_le, lc_ge, lc_lt, lc_gt, lc_eq]
    · rw [q326_5]
      simp (implicitDefEqProofs := false) (disch := omega) only [n326_5, b326_8, q326_5, q326_8, x_aload0, y_call321, y_call327, y_call328, y_call333, y_call335, x_gc_12371, x_gf_11339, x_goto_8, x_iastore, x_iconst, x_ifCond_eq_6, x_iload1, x_istore1, x_jsr, x_return, klp_0, klp_1, klp_2, klp_3, klp_9, KC_0, KC_1, KC_2, KC_3, KC_4, ne_eq, not_false_eq_true, not_true_eq_false, true_and, and_true, and_self, implies_true, eq_self, true_imp_iff, false_implies, Int.reduceEq, Int.reduceNe, Int.reduceMod, Int.reduceMul, Int.reduceAdd, Int.reduceSub, Int.reduceLT, Int.reduceLE, Nat.reduceAdd, Nat.reduceLeDiff, Nat.reduceLT, Nat.reduceSub, reduceIte, wds_n, wds_0, wds_1, wds_2, wds_3, or_true, true_or, or_false, false_or, or_self, false_and, and_false, d_pos, d_s1, d_s2, d_s3, d_s4, d_s5, d_s6, d_s7, d_s8, Classical.not_not, r2 hS, r2l hS, r2k hS, r5 hS, r5l hS, r5k hS, r10 hS, r10l hS, r10k hS, TR_0 hS, TR_k hS, iw, f0, f1, f2, f3, h9, d_s9, d_s10, d_s11, d_s12, d_s13, d_s14, d_s15, d_s16, d_s17, d_s18, d_s19, d_s20, d_s21, d_s22, d_s23, d_s24, d_s25, d_s26, d_s27, d_s28, d_s29, d_s30, hs_ne, hcell, hcel1, le_sub1, le_T, le_F, lt_T, lt_F, eq_F, w32_T, bz0, bz1, lc_le, lc_ge, lc_lt, lc_gt, lc_eq]
    · have z : ∀ o, o ≠ 129 → g3 o = h o := fun o u => by rw [hg3, ge]; unfold bdH; rw [hs_ne u, hs_ne u]
      rw [z T (by omega), z 258 (by decide), z (T + 598) (by omega)]
      omega
end SM
