/-! THE PURE SIDE, 194: staff whole: printed by wip/tools/gen8zl.py -/
section SM
variable {bX : Int} {tp : Int → Int} {t T S s s1 s2 f fu : Int} {h hr g gr k kr m mr : HV} {Q : Int → HV → Prop} {d : Nat}
/-- the reference's staff: its kind is told rightly -/
theorem r336_3g {y v : Int} {e2 : Nat} (D : TKX tp t T S s h kr) (hy : 0 ≤ y ∧ y < 10) (hv : kdW tp t s = v) (w : v = 4 → tkK tp t s = 1 ∧ wdT tp t s = 1751474532) : G fz1 (e2 + 10) 336 3 [(3, 6603), (0, y), (9, 0), (9, 0)] [(0, v), (0, y), (3, S + 276)] kr Q = G fz1 (e2 + 10) 336 4 [(3, 6603), (0, y), (9, 0), (9, 0)] [] (hset kr (S + 276) y v) Q := by
  have hS := D.2.1.2.1
  have kS := kTR hS
  have D1 : TKX tp t T S s h (hset kr (S + 276) y v) := D.stR (by omega)
  have h9 := D.2.1.2.2
  have h91 := D1.2.1.2.2
  have gd : ∀ Q, Sp fz1 (e2 + 9) 325 [(3, 6603)] (hset kr (S + 276) y v) Q = Q 1 (hset kr (S + 276) y v) := fun Q => D1.g325
  have e276 : hset kr (S + 276) y v (S + 276) y = v := hcel1
  rw [q336_3]
  by_cases c : v = 4
  · have i4 : ∀ Q, Sp fz1 (e2 + 9) 327 [(3, 6603), (3, NV_3123)] (hset kr (S + 276) y v) Q = Q 1 (hset kr (S + 276) y v) := fun Q => by rw [NV_3123_e, iw_head (d := e2 + 4) D1.1.2.2 D1.1.1 D1.2.2.2]; exact congrArg (fun x => Q x (hset kr (S + 276) y v)) (if_pos (w c))
    subst c
    simp (implicitDefEqProofs := false) (disch := omega) only [n336_3, x_aload0, y_call325, y_call327, y_call332, x_gc_12315, x_gf_11339, x_goto_4, x_iaload, x_iastore, x_iconst, x_ifCond_eq_4, x_ifCond_ne_4, x_if_icmp_ne_4, x_iload1, x_jsr, klp_0, klp_1, klp_2, klp_3, klp_9, KC_0, KC_1, KC_2, KC_3, KC_4, ne_eq, not_false_eq_true, not_true_eq_false, true_and, and_true, and_self, implies_true, eq_self, true_imp_iff, false_implies, Int.reduceEq, Int.reduceNe, Int.reduceMod, Int.reduceMul, Int.reduceAdd, Int.reduceSub, Int.reduceLT, Int.reduceLE, Nat.reduceAdd, Nat.reduceLeDiff, Nat.reduceLT, Nat.reduceSub, reduceIte, wds_n, wds_0, wds_1, wds_2, wds_3, or_true, true_or, or_false, false_or, or_self, false_and, and_false, d_pos, d_s1, d_s2, d_s3, d_s4, d_s5, d_s6, d_s7, d_s8, Classical.not_not, r3 hS, r3l hS, r3k hS, r4 hS, r4l hS, r4k hS, TR_0 hS, TR_k hS, gd, h9, h91, e276, i4, d_s9, d_s10, d_s11, d_s12, d_s13, d_s14, d_s15, d_s16, d_s17, d_s18, d_s19, d_s20, d_s21, d_s22, d_s23, d_s24, d_s25, d_s26, d_s27, d_s28, d_s29, d_s30, hs_ne, hcell, hcel1, le_sub1, le_T, le_F, lt_T, lt_F, eq_F, w32_T, bz0, bz1, lc_le, lc_ge, lc_lt, lc_gt, lc_eq]
  · simp (implicitDefEqProofs := false) (disch := omega) only [n336_3, x_aload0, y_call325, y_call327, y_call332, x_gc_12315, x_gf_11339, x_goto_4, x_iaload, x_iastore, x_iconst, x_ifCond_eq_4, x_ifCond_ne_4, x_if_icmp_ne_4, x_iload1, x_jsr, klp_0, klp_1, klp_2, klp_3, klp_9, KC_0, KC_1, KC_2, KC_3, KC_4, ne_eq, not_false_eq_true, not_true_eq_false, true_and, and_true, and_self, implies_true, eq_self, true_imp_iff, false_implies, Int.reduceEq, Int.reduceNe, Int.reduceMod, Int.reduceMul, Int.reduceAdd, Int.reduceSub, Int.reduceLT, Int.reduceLE, Nat.reduceAdd, Nat.reduceLeDiff, Nat.reduceLT, Nat.reduceSub, reduceIte, wds_n, wds_0, wds_1, wds_2, wds_3, or_true, true_or, or_false, false_or, or_self, false_and, and_false, d_pos, d_s1, d_s2, d_s3, d_s4, d_s5, d_s6, d_s7, d_s8, Classical.not_not, r3 hS, r3l hS, r3k hS, r4 hS, r4l hS, r4k hS, TR_0 hS, TR_k hS, gd, h9, h91, e276, c, d_s9, d_s10, d_s11, d_s12, d_s13, d_s14, d_s15, d_s16, d_s17, d_s18, d_s19, d_s20, d_s21, d_s22, d_s23, d_s24, d_s25, d_s26, d_s27, d_s28, d_s29, d_s30, hs_ne, hcell, hcel1, le_sub1, le_T, le_F, lt_T, lt_F, eq_F, w32_T, bz0, bz1, lc_le, lc_ge, lc_lt, lc_gt, lc_eq]
/-- and wrongly -/
theorem r336_3b {y : Int} {e2 : Nat} (D : TKX tp t T S s h kr) (hy : 0 ≤ y ∧ y < 10) (w : ¬ (tkK tp t s = 1 ∧ wdT tp t s = 1751474532)) : G fz1 (e2 + 10) 336 3 [(3, 6603), (0, y), (9, 0), (9, 0)] [(0, 4), (0, y), (3, S + 276)] kr Q = G fz1 (e2 + 10) 336 4 [(3, 6603), (0, y), (9, 0), (9, 0)] [] (bdR (hset kr (S + 276) y 4)) Q := by
  have hS := D.2.1.2.1
  have kS := kTR hS
  have D1 : TKX tp t T S s h (hset kr (S + 276) y 4) := D.stR (by omega)
  have Fz := D1.fz
  have h9 := D.2.1.2.2
  have h91 := D1.2.1.2.2
  have gd : ∀ Q, Sp fz1 (e2 + 9) 325 [(3, 6603)] (hset kr (S + 276) y 4) Q = Q 1 (hset kr (S + 276) y 4) := fun Q => D1.g325
  have e276 : hset kr (S + 276) y 4 (S + 276) y = 4 := hcel1
  have i4 : ∀ Q, Sp fz1 (e2 + 9) 327 [(3, 6603), (3, NV_3123)] (hset kr (S + 276) y 4) Q = Q 0 (hset kr (S + 276) y 4) := fun Q => by rw [NV_3123_e, iw_head (d := e2 + 4) D1.1.2.2 D1.1.1 D1.2.2.2]; exact congrArg (fun x => Q x (hset kr (S + 276) y 4)) (if_neg w)
  have wr : ∀ Q, Sp fz1 (e2 + 9) 332 [(3, 6603)] (hset kr (S + 276) y 4) Q = Q 0 (bdR (hset kr (S + 276) y 4)) := fun Q => v332g (by omega)
  rw [q336_3]
  simp (implicitDefEqProofs := false) (disch := omega) only [n336_3, x_aload0, y_call325, y_call327, y_call332, x_gc_12315, x_gf_11339, x_goto_4, x_iaload, x_iastore, x_iconst, x_ifCond_eq_4, x_ifCond_ne_4, x_if_icmp_ne_4, x_iload1, x_jsr, klp_0, klp_1, klp_2, klp_3, klp_9, KC_0, KC_1, KC_2, KC_3, KC_4, ne_eq, not_false_eq_true, not_true_eq_false, true_and, and_true, and_self, implies_true, eq_self, true_imp_iff, false_implies, Int.reduceEq, Int.reduceNe, Int.reduceMod, Int.reduceMul, Int.reduceAdd, Int.reduceSub, Int.reduceLT, Int.reduceLE, Nat.reduceAdd, Nat.reduceLeDiff, Nat.reduceLT, Nat.reduceSub, reduceIte, wds_n, wds_0, wds_1, wds_2, wds_3, or_true, true_or, or_false, false_or, or_self, false_and, and_false, d_pos, d_s1, d_s2, d_s3, d_s4, d_s5, d_s6, d_s7, d_s8, Classical.not_not, r3 hS, r3l hS, r3k hS, r4 hS, r4l hS, r4k hS, TR_0 hS, TR_k hS, gd, h9, h91, e276, i4, wr, d_s9, d_s10, d_s11, d_s12, d_s13, d_s14, d_s15, d_s16, d_s17, d_s18, d_s19, d_s20, d_s21, d_s22, d_s23, d_s24, d_s25, d_s26, d_s27, d_s28, d_s29, d_s30, hs_ne, hcell, hcel1, le_sub1, le_T, le_F, lt_T, lt_F, eq_F, w32_T, bz0, bz1, lc_le, lc_ge, lc_lt, lc_gt, lc_eq]
/-- staff whole -/
theorem it_staff {hr0 : HV} {e e2 : Nat} (I : IT tp t T S s h hr) (f0 : ∀ Q, Sp fz1 (e2 + 9) 321 [(3, 6603)] hr0 Q = Q 0 hr) : ∃ g gr, (∀ Q, Sp fz1 (e + 11) 63 [(3, 258)] h Q = Q 0 g) ∧ (∀ Q, Sp fz1 (e2 + 10) 336 [(3, 6603)] hr0 Q = Q 0 gr) ∧ FIC T h g ∧ FIR S hr gr ∧ ((∃ s1, s + 1 ≤ s1 ∧ IT tp t T S s1 g gr) ∨ BXI T S g gr) := by
  have I0 := I
  obtain ⟨D, IB, C, X, RN, RL⟩ := I
  have hT := D.2.1.1.1
  have hS := D.2.1.2.1
  have kT := kTC hT
  have kS := kTR hS
  have N := IB.1
  unfold NBI at N
  have mq : MST 2 = 10 := by decide
  have Cq := C.1 2 (by decide) (by decide)
  have C6 := C.1 6 (by decide) (by decide)
  have m6 := MST_12 (q := 6)
  have S0 := D.sb
  have sb : ∀ a : HV, SAC a (bdH a) := fun a o u => by unfold bdH; rw [hs_ne u, hs_ne u]
  obtain ⟨g1, rr1, x, y, cc1, f1, W⟩ := nn_pair (M := 10) (q := 2) D C (by decide) mq.symm (e + 1) (e2 + 2)
  have e51 : ∀ Q, Sp fz1 (e + 10) 51 [(3, 258), (0, 2)] h Q = Q x g1 := cc1
  have f1 : ∀ Q, Sp fz1 (e2 + 9) 328 [(3, 6603), (0, 2), (0, 10)] hr Q = Q y rr1 := f1
  have Fn : FIC T h (nmH T h 2 (wdT tp t s)) := by
    unfold nmH
    exact (FIC.st (by omega) hT).trans (FIC.st (by omega) hT)
  have Fr : FIR S hr (nmR S hr 2 (wdT tp t s)) := by
    unfold nmR
    exact (FIR.st (by omega) hS).trans (FIR.st (by omega) hS)
  rcases W with ⟨ex, exy, xm, s1, q1, D1, a1, b1⟩ | ⟨ex, ey, ge, re⟩
  · subst exy
    have CN := C.nm (w := wdT tp t s) (q := 2) hT hS (by decide) (by omega)
    have n1 : nmH T h 2 (wdT tp t s) (T + 598) 2 = h (T + 598) 2 + 1 := hcel1
    have n2 : ∀ p, p ≠ 2 → nmH T h 2 (wdT tp t s) (T + 598) p = h (T + 598) p := fun p u => by unfold nmH; rw [hcell u, hs_ne (by omega)]
    have n3 : ∀ o, o ≠ T + 598 → o ≠ T + 151 + 64 * 2 → nmH T h 2 (wdT tp t s) o = h o := fun o u v => by unfold nmH; rw [hs_ne u, hs_ne v]
    have m1 : ∀ p, p ≠ 2 → nmR S hr 2 (wdT tp t s) (S + 84) p = hr (S + 84) p := fun p u => by unfold nmR; rw [hcell u, hs_ne (by omega)]
    have m3 : ∀ o, o ≠ S + 84 → o ≠ S + 149 → nmR S hr 2 (wdT tp t s) o = hr o := fun o u v => by unfold nmR; rw [hs_ne u, hs_ne v]
    generalize nmH T h 2 (wdT tp t s) = hn at *
    generalize nmR S hr 2 (wdT tp t s) = rn at *
    have y12 : 0 ≤ y ∧ y < 10 := by omega
    have BZ : ∀ (f : Int) (g gr : HV), BXC T f g → BXR S f gr → SAC hn g → BXI T S g gr := fun f g gr B1 B2 z => by
      refine ⟨⟨f, B1, B2⟩, ?_⟩
      rw [z T (by omega), z 258 (by decide), z (T + 598) (by omega), n2 6 (by decide), n3 T (by omega) (by omega), n3 258 (by omega) (by omega)]
      omega
    have fk : ∀ Q, Sp fz1 (e + 10) 45 [(3, 129), (3, NV_307)] g1 Q = Q (fdW wKINDS tp t s1) g1 := fun Q => by rw [NV_307_e]; exact c45 (d := e + 5) D1.1.2.1 (str_2 D1.2.2.1) (by decide) wKINDS_e
    have R0 : ∀ Q, Sp fz1 (e2 + 10) 336 [(3, 6603)] hr0 Q = G fz1 (e2 + 10) 336 3 [(3, 6603), (0, y), (9, 0), (9, 0)] [(0, kdW tp t s1), (0, y), (3, S + 276)] rr1 Q := fun Q => r336_0 D1.1.2.2 D1.1.1 D1.2.2.2 hS D1.2.1.2.2 f0 f1
    rcases kdW_fd (tp := tp) (t := t) (s := s1) with ⟨⟨k0, k2, kk⟩, tk, kh⟩ | ⟨km, kk, nh⟩
    · -- the kind is told
      obtain ⟨kd, hkd⟩ : ∃ a, a = fdW wKINDS tp t s1 := ⟨_, rfl⟩
      rw [← hkd] at k0 k2 kk kh fk
      have R3 : ∀ Q, G fz1 (e2 + 10) 336 3 [(3, 6603), (0, y), (9, 0), (9, 0)] [(0, kdW tp t s1), (0, y), (3, S + 276)] rr1 Q = G fz1 (e2 + 10) 336 4 [(3, 6603), (0, y), (9, 0), (9, 0)] [] (hset rr1 (S + 276) y (2 + kd)) Q := fun Q => by rw [kk]; exact r336_3g D1 y12 kk (fun z => ⟨tk, kh (by omega)⟩)
      have D1' : TKX tp t T S s1 g1 (hset rr1 (S + 276) y (2 + kd)) := D1.stR (by omega)
      have gd1 : ∀ Q, Sp fz1 (e2 + 9) 325 [(3, 6603)] (hset rr1 (S + 276) y (2 + kd)) Q = Q 1 (hset rr1 (S + 276) y (2 + kd)) := fun Q => D1'.g325
      obtain ⟨g2, rr2, D2, X2, -, -, A2, B2, c2', f2⟩ := D1'.nx (e + 2) (e2 + 7)
      have ts := D1.ts (by omega)
      have X2' := X2 ts
      obtain ⟨g3, rr3, c3', f3', W⟩ := D2.sign (c := 58) (by decide) (e + 1) (e2 + 6)
      have e58 : ∀ Q, Sp fz1 (e + 10) 58 [(3, 258), (0, 58)] g2 Q = Q 0 g3 := c3'
      have f58 : ∀ Q, Sp fz1 (e2 + 9) 333 [(3, 6603), (0, 58)] rr2 Q = Q 0 rr3 := f3'
      have F2 : FIR S hr rr2 := Fr.trans (b1.i.trans (FIR.trans (FIR.st (by omega) hS) B2.i))
      have A2n : SAC hn g2 := fun o u => by rw [A2 o u, a1 o u]
      rcases W with ⟨-, s3, q3, D3, A3, B3⟩ | ⟨-, ge, re⟩
      · have h93 : rr3 6603 9 = S := D3.2.1.2.2
        have D3' : TKX tp t T S s3 g3 (hset rr3 (S + 340) y 0) := D3.stR (by omega)
        have A3n : SAC hn g3 := fun o u => by rw [A3 o u, A2n o u]
        have C3 : CNX T S g3 (hset rr3 (S + 340) y 0) := CN.fr (A3n _ (by omega)) (fun q _ _ => A3n _ (by omega)) (by rw [hs_ne (by omega), B3.1 _ (by omega), B2.1 _ (by omega), hs_ne (by omega), b1.1 _ (by omega)]) (by rw [hs_ne (by omega), B3.1 _ (by omega), B2.1 _ (by omega), hs_ne (by omega), b1.1 _ (by omega)])
        obtain ⟨m', h1, g, gr, E1, E2, E3, W⟩ := staff_lp (x := y) (kd := kd) y12 ⟨k0, k2⟩ (e := e) (e2 := e2) 13 (m := 0) (F := fun _ => 0) (n := 0) (9, 0) D3' C3 (by rw [hcel1]; rfl) (by decide) (by decide) (by decide) (fun i a b => by omega) (fun i j a b _ _ _ => by omega)
        have E1' : ∀ Q, Sp fz1 (e + 10) 64 [(3, 258), (0, 0)] g3 Q = Q m' h1 := E1
        have F3 : FIR S hr (hset rr3 (S + 340) y 0) := F2.trans (B3.i.trans (FIR.st (by omega) hS))
        have EC : ∀ Q, Sp fz1 (e + 11) 63 [(3, 258)] h Q = Q 0 g := fun Q => by
          simp (implicitDefEqProofs := false) (disch := omega) only [sp63, n63_0, b63_1, b63_2, q63_1, q63_2, x_aload0, y_call28, y_call45, y_call51, y_call58, y_call64, x_gc_2051, x_goto_2, x_goto_3, x_iconst, x_ifCond_lt_1, x_iload2, x_istore1, x_istore2, x_istore3, x_istore4, x_jsr, klp_0, klp_1, klp_2, klp_3, klp_9, KC_0, KC_1, KC_2, KC_3, KC_4, ne_eq, not_false_eq_true, not_true_eq_false, true_and, and_true, and_self, implies_true, eq_self, true_imp_iff, false_implies, Int.reduceEq, Int.reduceNe, Int.reduceMod, Int.reduceMul, Int.reduceAdd, Int.reduceSub, Int.reduceLT, Int.reduceLE, Nat.reduceAdd, Nat.reduceLeDiff, Nat.reduceLT, Nat.reduceSub, reduceIte, wds_n, wds_0, wds_1, wds_2, wds_3, or_true, true_or, or_false, false_or, or_self, false_and, and_false, d_pos, d_s1, d_s2, d_s3, d_s4, d_s5, d_s6, d_s7, d_s8, Classical.not_not, c3 hT, c3l hT, c3k hT, c4 hT, c4l hT, c4k hT, z258_0, TC_0 hT, TC_k hT, e51, fk, c2', e58, E1', E2, d_s9, d_s10, d_s11, d_s12, d_s13, d_s14, d_s15, d_s16, d_s17, d_s18, d_s19, d_s20, d_s21, d_s22, d_s23, d_s24, d_s25, d_s26, d_s27, d_s28, d_s29, d_s30, hs_ne, hcell, hcel1, le_sub1, le_T, le_F, lt_T, lt_F, eq_F, w32_T, bz0, bz1, lc_le, lc_ge, lc_lt, lc_gt, lc_eq]
        have ER : ∀ Q, Sp fz1 (e2 + 10) 336 [(3, 6603)] hr0 Q = Q 0 gr := fun Q => by
          rw [R0, R3, q336_4]
          simp (implicitDefEqProofs := false) (disch := omega) only [b336_4, b336_5, q336_5, x_aload0, y_call321, y_call325, y_call333, x_gc_12323, x_gf_11339, x_goto_5, x_goto_6, x_iastore, x_iconst, x_ifCond_eq_5, x_iload1, x_istore2, klp_0, klp_1, klp_2, klp_3, klp_9, KC_0, KC_1, KC_2, KC_3, KC_4, ne_eq, not_false_eq_true, not_true_eq_false, true_and, and_true, and_self, implies_true, eq_self, true_imp_iff, false_implies, Int.reduceEq, Int.reduceNe, Int.reduceMod, Int.reduceMul, Int.reduceAdd, Int.reduceSub, Int.reduceLT, Int.reduceLE, Nat.reduceAdd, Nat.reduceLeDiff, Nat.reduceLT, Nat.reduceSub, reduceIte, wds_n, wds_0, wds_1, wds_2, wds_3, or_true, true_or, or_false, false_or, or_self, false_and, and_false, d_pos, d_s1, d_s2, d_s3, d_s4, d_s5, d_s6, d_s7, d_s8, Classical.not_not, r3 hS, r3l hS, r3k hS, r4 hS, r4l hS, r4k hS, TR_0 hS, TR_k hS, gd1, f2, f58, h93, E3, d_s9, d_s10, d_s11, d_s12, d_s13, d_s14, d_s15, d_s16, d_s17, d_s18, d_s19, d_s20, d_s21, d_s22, d_s23, d_s24, d_s25, d_s26, d_s27, d_s28, d_s29, d_s30, hs_ne, hcell, hcel1, le_sub1, le_T, le_F, lt_T, lt_F, eq_F, w32_T, bz0, bz1, lc_le, lc_ge, lc_lt, lc_gt, lc_eq]
        rcases W with ⟨mf, s5, g4, a4, hm, D5, eg, A4, B4⟩ | ⟨⟨f, b4, b5⟩, b6, b7⟩
        · have mf0 : (0 : Int) ≤ (mf : Int) ∧ (mf : Int) < 4096 := by omega
          generalize (mf : Int) = mv at *
          have A4n : SAC hn g4 := fun o u => by rw [A4 o u, A3n o u]
          have cF : ∀ o, o ≠ 129 → o ≠ T + 726 → o ≠ T + 790 → g o = hn o := fun o u v w => by rw [eg, hs_ne w, hs_ne v, A4n o u]
          have c1 : ∀ i, i ≠ y → g (T + 726) i = h (T + 726) i := fun i u => by rw [eg, hs_ne (by omega), hcell u, A4n _ (by omega), n3 _ (by omega) (by omega)]
          have c1y : g (T + 726) y = 2 + kd := by rw [eg, hs_ne (by omega), hcel1]
          have cc2 : ∀ i, i ≠ y → g (T + 790) i = h (T + 790) i := fun i u => by rw [eg, hcell u, hs_ne (by omega), A4n _ (by omega), n3 _ (by omega) (by omega)]
          have c2y : g (T + 790) y = mv := by rw [eg, hcel1]
          have dF : ∀ o, o ≠ 6603 → o ≠ S + 276 → o ≠ S + 340 → gr o = rn o := fun o u v w => by rw [B4.1 o u, hs_ne w, hs_ne w, B3.1 o u, B2.1 o u, hs_ne v, b1.1 o u]
          have d3 : ∀ i, i ≠ 2 → i ≠ 3 → i ≠ 4 → i ≠ 5 → i ≠ 6 → gr 6603 i = hr 6603 i := fun i z1 z2 z3 z4 z5 => by rw [B4.2 i z1 z2 z3 z4 z5, hs_ne (by omega), hs_ne (by omega), B3.2 i z1 z2 z3 z4 z5, B2.2 i z1 z2 z3 z4 z5, hs_ne (by omega), b1.2 i z1 z2 z3 z4 z5, m3 6603 (by omega) (by omega)]
          have d1 : ∀ i, i ≠ y → gr (S + 276) i = hr (S + 276) i := fun i u => by rw [B4.1 _ (by omega), hs_ne (by omega), hs_ne (by omega), B3.1 _ (by omega), B2.1 _ (by omega), hcell u, b1.1 _ (by omega), m3 _ (by omega) (by omega)]
          have d1y : gr (S + 276) y = 2 + kd := by rw [B4.1 _ (by omega), hs_ne (by omega), hs_ne (by omega), B3.1 _ (by omega), B2.1 _ (by omega), hcel1]
          have d2 : ∀ i, i ≠ y → gr (S + 340) i = hr (S + 340) i := fun i u => by rw [B4.1 _ (by omega), hcell u, hcell u, B3.1 _ (by omega), B2.1 _ (by omega), hs_ne (by omega), b1.1 _ (by omega), m3 _ (by omega) (by omega)]
          have d2y : gr (S + 340) y = mv := by rw [B4.1 _ (by omega), hcel1]
          have FF : FIC T h g := by
            rw [eg]
            exact Fn.trans (A4n.i.trans ((FIC.st (by omega) hT).trans (FIC.st (by omega) hT)))
          have FR : FIR S hr gr := F3.trans (FIR.trans (FIR.st (by omega) hS) B4.i)
          have Z := I0.fr (s1 := s5) (g := g) (gr := gr) (by omega) hT hS (by rw [cF 258 (by decide) (by omega) (by omega), n3 258 (by omega) (by omega)]) (fun i _ => by rw [cF T (by omega) (by omega) (by omega), n3 T (by omega) (by omega)]) (fun o u w => by rw [cF o u (by omega) (by omega), n3 o (by omega) (by omega)]) (by rw [cF (T + 598) (by omega) (by omega) (by omega), n2 6 (by decide)]) d3 (by rw [dF (S + 84) (by omega) (by omega) (by omega), m1 6 (by decide)]) (fun o u w => by rw [dF o u (by omega) (by omega), m3 o (by omega) (by omega)])
          refine ⟨g, gr, EC, ER, FF, FR, .inl ⟨s5, by omega, D5, Z.1, CN.fr (cF _ (by omega) (by omega) (by omega)) (fun p _ _ => cF _ (by omega) (by omega) (by omega)) (dF _ (by omega) (by omega) (by omega)) (dF _ (by omega) (by omega) (by omega)), ?_, Z.2⟩⟩
          exact X.a2 (n := y) ex (fun k k1 k5 k6 => by rw [cF (T + 598) (by omega) (by omega) (by omega), n2 k k6]) (by rw [cF (T + 598) (by omega) (by omega) (by omega), n1, ex]) (fun i u => ⟨⟨c1 i u, cc2 i u⟩, d1 i u, d2 i u⟩) (by rw [d1y, c1y]; exact ⟨rfl, by omega, by omega⟩) (by rw [d2y, c2y]; exact ⟨rfl, mf0⟩) (by rw [cF T (by omega) (by omega) (by omega), n3 T (by omega) (by omega)]) (fun o u w z1 z2 => by rw [cF o (by omega) z1 z2, n3 o (by omega) (by omega)]) (fun o u w z1 z2 => by rw [dF o (by omega) z1 z2, m3 o (by omega) (by omega)])
        · exact ⟨g, gr, EC, ER, Fn.trans (SAC.i (fun o u => by rw [b6 o u, A3n o u])), F3.trans b7, .inr (BZ f g gr b4 b5 (fun o u => by rw [b6 o u, A3n o u]))⟩
      · have B1 : BXC T (nxS tp t s1) g3 := by rw [ge]; exact D2.bad.1
        have B2' : BXR S (nxS tp t s1) rr3 := by rw [re]; exact D2.bad.2
        have h93 : rr3 6603 9 = S := B2'.1.2
        have td : ∀ Q, Sp fz1 (e + 9) 65 [(3, 258), (0, 0)] g3 Q = Q (-1) g3 := fun Q => B1.td (d := e + 2)
        have a64 : ∀ Q, Sp fz1 (e + 10) 64 [(3, 258), (0, 0)] g3 Q = Q 0 g3 := fun Q => c64n (d := e) td (.inl (by decide)) (fun Q => B1.p28)
        have nx := fun Q => c63_3 (Q := Q) (x := y) (k := kd) (m := 0) (n := 0) (e := e) B1
        have B3' : BXR S (nxS tp t s1) (hset rr3 (S + 340) y 0) := B2'.st (by omega)
        have rx := fun Q => r336_6 (Q := Q) (y := y) (mo := 1) (u3 := (9, 0)) (e2 := e2) B3'
        have A3 : SAC g2 g3 := by rw [ge]; exact sb g2
        have Fb : FIR S rr2 rr3 := by rw [re]; exact FIR.bd
        have z : SAC hn g3 := fun o u => by rw [A3 o u, A2n o u]
        refine ⟨g3, hset rr3 (S + 340) y 0, fun Q => ?_, fun Q => ?_, Fn.trans z.i, F2.trans (Fb.trans (FIR.st (by omega) hS)), .inr (BZ _ _ _ B1 B3' z)⟩
        · simp (implicitDefEqProofs := false) (disch := omega) only [sp63, n63_0, b63_1, b63_2, q63_1, q63_2, x_aload0, y_call28, y_call45, y_call51, y_call58, y_call64, x_gc_2051, x_goto_2, x_goto_3, x_iconst, x_ifCond_lt_1, x_iload2, x_istore1, x_istore2, x_istore3, x_istore4, x_jsr, klp_0, klp_1, klp_2, klp_3, klp_9, KC_0, KC_1, KC_2, KC_3, KC_4, ne_eq, not_false_eq_true, not_true_eq_false, true_and, and_true, and_self, implies_true, eq_self, true_imp_iff, false_implies, Int.reduceEq, Int.reduceNe, Int.reduceMod, Int.reduceMul, Int.reduceAdd, Int.reduceSub, Int.reduceLT, Int.reduceLE, Nat.reduceAdd, Nat.reduceLeDiff, Nat.reduceLT, Nat.reduceSub, reduceIte, wds_n, wds_0, wds_1, wds_2, wds_3, or_true, true_or, or_false, false_or, or_self, false_and, and_false, d_pos, d_s1, d_s2, d_s3, d_s4, d_s5, d_s6, d_s7, d_s8, Classical.not_not, c3 hT, c3l hT, c3k hT, c4 hT, c4l hT, c4k hT, z258_0, TC_0 hT, TC_k hT, e51, fk, c2', e58, a64, nx, d_s9, d_s10, d_s11, d_s12, d_s13, d_s14, d_s15, d_s16, d_s17, d_s18, d_s19, d_s20, d_s21, d_s22, d_s23, d_s24, d_s25, d_s26, d_s27, d_s28, d_s29, d_s30, hs_ne, hcell, hcel1, le_sub1, le_T, le_F, lt_T, lt_F, eq_F, w32_T, bz0, bz1, lc_le, lc_ge, lc_lt, lc_gt, lc_eq]
        · rw [R0, R3, q336_4]
          simp (implicitDefEqProofs := false) (disch := omega) only [b336_4, b336_5, q336_5, x_aload0, y_call321, y_call325, y_call333, x_gc_12323, x_gf_11339, x_goto_5, x_goto_6, x_iastore, x_iconst, x_ifCond_eq_5, x_iload1, x_istore2, klp_0, klp_1, klp_2, klp_3, klp_9, KC_0, KC_1, KC_2, KC_3, KC_4, ne_eq, not_false_eq_true, not_true_eq_false, true_and, and_true, and_self, implies_true, eq_self, true_imp_iff, false_implies, Int.reduceEq, Int.reduceNe, Int.reduceMod, Int.reduceMul, Int.reduceAdd, Int.reduceSub, Int.reduceLT, Int.reduceLE, Nat.reduceAdd, Nat.reduceLeDiff, Nat.reduceLT, Nat.reduceSub, reduceIte, wds_n, wds_0, wds_1, wds_2, wds_3, or_true, true_or, or_false, false_or, or_self, false_and, and_false, d_pos, d_s1, d_s2, d_s3, d_s4, d_s5, d_s6, d_s7, d_s8, Classical.not_not, r3 hS, r3l hS, r3k hS, r4 hS, r4l hS, r4k hS, TR_0 hS, TR_k hS, gd1, f2, f58, h93, rx, d_s9, d_s10, d_s11, d_s12, d_s13, d_s14, d_s15, d_s16, d_s17, d_s18, d_s19, d_s20, d_s21, d_s22, d_s23, d_s24, d_s25, d_s26, d_s27, d_s28, d_s29, d_s30, hs_ne, hcell, hcel1, le_sub1, le_T, le_F, lt_T, lt_F, eq_F, w32_T, bz0, bz1, lc_le, lc_ge, lc_lt, lc_gt, lc_eq]
    · -- no kind
      rw [km] at fk
      have B1 := D1.bad.1
      have D1' : TKX tp t T S s1 g1 (hset rr1 (S + 276) y 4) := D1.stR (by omega)
      obtain ⟨gr, B3, F3, -, x4⟩ := r336_5 (e2 := e2) D1'.bad.2 y12
      have R3 : ∀ Q, G fz1 (e2 + 10) 336 3 [(3, 6603), (0, y), (9, 0), (9, 0)] [(0, kdW tp t s1), (0, y), (3, S + 276)] rr1 Q = Q 0 gr := fun Q => by rw [kk, r336_3b D1 y12 nh]; exact x4 Q
      have p0 : ∀ Q, Sp fz1 (e + 10) 28 [(3, 129), (0, 0)] g1 Q = Q 0 (bdH g1) := fun Q => p28f (by have := D1.fz; omega)
      have nx := fun Q => c63_2 (Q := Q) (x := y) (k := -1) (a := 0) (e := e) (h0 := g1) B1 p0
      have z : SAC hn (bdH g1) := fun o u => by rw [sb g1 o u, a1 o u]
      refine ⟨bdH g1, gr, fun Q => ?_, fun Q => by rw [R0, R3], Fn.trans z.i, Fr.trans (b1.i.trans (FIR.trans (FIR.st (by omega) hS) (FIR.bd.trans F3))), .inr (BZ _ _ _ B1 B3 z)⟩
      simp (implicitDefEqProofs := false) (disch := omega) only [sp63, n63_0, b63_1, q63_1, x_aload0, y_call45, y_call51, x_gc_2051, x_goto_2, x_iconst, x_ifCond_lt_1, x_iload2, x_istore1, x_istore2, x_jsr, klp_0, klp_1, klp_2, klp_3, klp_9, KC_0, KC_1, KC_2, KC_3, KC_4, ne_eq, not_false_eq_true, not_true_eq_false, true_and, and_true, and_self, implies_true, eq_self, true_imp_iff, false_implies, Int.reduceEq, Int.reduceNe, Int.reduceMod, Int.reduceMul, Int.reduceAdd, Int.reduceSub, Int.reduceLT, Int.reduceLE, Nat.reduceAdd, Nat.reduceLeDiff, Nat.reduceLT, Nat.reduceSub, reduceIte, wds_n, wds_0, wds_1, wds_2, wds_3, or_true, true_or, or_false, false_or, or_self, false_and, and_false, d_pos, d_s1, d_s2, d_s3, d_s4, d_s5, d_s6, d_s7, d_s8, Classical.not_not, c3 hT, c3l hT, c3k hT, c4 hT, c4l hT, c4k hT, z258_0, TC_0 hT, TC_k hT, e51, fk, nx, d_s9, d_s10, d_s11, d_s12, d_s13, d_s14, d_s15, d_s16, d_s17, d_s18, d_s19, d_s20, d_s21, d_s22, d_s23, d_s24, d_s25, d_s26, d_s27, d_s28, d_s29, d_s30, hs_ne, hcell, hcel1, le_sub1, le_T, le_F, lt_T, lt_F, eq_F, w32_T, bz0, bz1, lc_le, lc_ge, lc_lt, lc_gt, lc_eq]
  · -- no name
    have B1 : BXC T s g1 := by rw [ge]; exact D.bad.1
    have B2 : BXR S s rr1 := by rw [re]; exact D.bad.2
    have y12 : 0 ≤ y ∧ y < 10 := by omega
    have K1 : TKf tp t s (rr1 6603 7) rr1 := by
      rw [re]
      exact ⟨⟨by unfold bdR; rw [hcell (by decide)]; exact D.1.2.2.1.1, rfl, by unfold bdR; rw [hcell (by decide)]; exact D.1.2.2.1.2.2.1, by unfold bdR; rw [hcell (by decide)]; exact D.1.2.2.1.2.2.2.1, by unfold bdR; rw [hcell (by decide)]; exact D.1.2.2.1.2.2.2.2⟩, fun w => by unfold bdR; rw [hcell (by decide)]; exact D.1.2.2.2.1 w, fun w => by unfold bdR; rw [hcell (by decide)]; exact D.1.2.2.2.2.1 w, fun i i0 i1 => by unfold bdR; rw [hs_ne (by decide)]; exact D.1.2.2.2.2.2 i i0 i1⟩
    have R0 : ∀ Q, Sp fz1 (e2 + 10) 336 [(3, 6603)] hr0 Q = G fz1 (e2 + 10) 336 3 [(3, 6603), (0, y), (9, 0), (9, 0)] [(0, kdW tp t s), (0, y), (3, S + 276)] rr1 Q := fun Q => r336_0 K1 D.1.1 B2.2.2 hS B2.1.2 f0 f1
    obtain ⟨gr, B3, F3, x3⟩ := r336_3 (v := kdW tp t s) (e2 := e2) B2 y12
    have fk : ∀ Q, Sp fz1 (e + 10) 45 [(3, 129), (3, NV_307)] g1 Q = Q (-1) g1 := fun Q => by rw [NV_307_e]; exact c45b (d := e + 5) B1.2.1.2.2 (str_2 B1.2.2) (by decide)
    have nx := fun Q => c63_2 (Q := Q) (x := x) (k := -1) (a := 0) (e := e) (h0 := g1) B1 (fun Q => B1.p28)
    have Fb : FIR S hr rr1 := by rw [re]; exact FIR.bd
    have z : SAC h g1 := by rw [ge]; exact sb h
    refine ⟨g1, gr, fun Q => ?_, fun Q => by rw [R0, x3], z.i, Fb.trans F3, .inr ⟨⟨s, B1, B3⟩, ?_⟩⟩
    · simp (implicitDefEqProofs := false) (disch := omega) only [sp63, n63_0, b63_1, q63_1, x_aload0, y_call45, y_call51, x_gc_2051, x_goto_2, x_iconst, x_ifCond_lt_1, x_iload2, x_istore1, x_istore2, x_jsr, klp_0, klp_1, klp_2, klp_3, klp_9, KC_0, KC_1, KC_2, KC_3, KC_4, ne_eq, not_false_eq_true, not_true_eq_false, true_and, and_true, and_self, implies_true, eq_self, true_imp_iff, false_implies, Int.reduceEq, Int.reduceNe, Int.reduceMod, Int.reduceMul, Int.reduceAdd, Int.reduceSub, Int.reduceLT, Int.reduceLE, Nat.reduceAdd, Nat.reduceLeDiff, Nat.reduceLT, Nat.reduceSub, reduceIte, wds_n, wds_0, wds_1, wds_2, wds_3, or_true, true_or, or_false, false_or, or_self, false_and, and_false, d_pos, d_s1, d_s2, d_s3, d_s4, d_s5, d_s6, d_s7, d_s8, Classical.not_not, c3 hT, c3l hT, c3k hT, c4 hT, c4l hT, c4k hT, z258_0, TC_0 hT, TC_k hT, e51, fk, nx, d_s9, d_s10, d_s11, d_s12, d_s13, d_s14, d_s15, d_s16, d_s17, d_s18, d_s19, d_s20, d_s21, d_s22, d_s23, d_s24, d_s25, d_s26, d_s27, d_s28, d_s29, d_s30, hs_ne, hcell, hcel1, le_sub1, le_T, le_F, lt_T, lt_F, eq_F, w32_T, bz0, bz1, lc_le, lc_ge, lc_lt, lc_gt, lc_eq]
    · rw [z T (by omega), z 258 (by decide), z (T + 598) (by omega)]
      omega
end SM
