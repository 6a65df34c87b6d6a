/-! THE PURE SIDE, 78: build, the class to its end: printed by wip/tools/gen89h.py -/
def GBt (h : HV) (fd : Int) (bt : Int → Int) : Prop := fd ≠ 0 → (∀ u, 0 ≤ u → u < h (h 64 8) 11 → 0 ≤ bt u ∧ bt u < plB h) ∧ ∀ u v, 0 ≤ u → u < v → v < h (h 64 8) 11 → bt u ≠ bt v
theorem gb_pw {h : HV} {nx : Int → Int} (W : PWU h nx (h (h 64 8) 11)) : GBt h 1 (fun u => nx u - 1) := fun _ => ⟨fun u a b => by have := W.1 u a b; show 0 ≤ nx u - 1 ∧ nx u - 1 < plB h; omega, fun u v a b c e => by
  have cp := W.2 u v a b c
  change nx u - 1 = nx v - 1 at e
  rw [e] at cp
  exact (cp.1 rfl).1 rfl⟩
theorem lp253 {d : Nat} {h : HV} {Q : Int → HV → Prop} {most : Int} (S : SBd h) (hm : most ≤ 10000) : ∀ (f : Nat) (t i nd fd bw : Int) (nx bt : Int → Int) (K : HV), -1 ≤ i → i < h (h 64 8) 11 → 0 ≤ nd → nd ≤ most → 0 ≤ t → t ≤ 2 * nd - i → 2 * (most - nd) + i + 2 ≤ f → RelE h K nd fd bw bt → (0 ≤ i → RelM h K i nx ∧ RelN h K i nx ∧ PWU h nx i ∧ 0 ≤ nx i ∧ nx i ≤ plB h) → GBt h fd bt → (∀ K2, RelE h K2 (runB h most f i nx nd fd bw bt).2.1 (runB h most f i nx nd fd bw bt).2.2.1 (runB h most f i nx nd fd bw bt).2.2.2.1 (runB h most f i nx nd fd bw bt).2.2.2.2 → GBt h (runB h most f i nx nd fd bw bt).2.2.1 (runB h most f i nx nd fd bw bt).2.2.2.2 → Q (runB h most f i nx nd fd bw bt).1 K2) → G fz1 (d + 6) 253 2 [(3, 1927), (0, most), (0, plB h), (0, i), (0, 0), (0, t)] [] K Q
  | 0, t, i, nd, fd, bw, nx, bt, K, i0, i1, n0, n1, t0, t1, hf, E, R, GB, hQ => by omega
  | f + 1, t, i, nd, fd, bw, nx, bt, K, i0, i1, n0, n1, t0, t1, hf, E, R, GB, hQ => by
    have hT := S.1.1
    have hN := S.2.1.1
    have k0 := bk_0 S E.1
    have kU := bk_U S E.1
    have e13 : K 1927 13 = fd := E.2.2.2.1
    have e15 : K 1927 15 = nd := E.2.2.1
    have efd := E.2.2.2.2.1
    rw [runB] at hQ
    by_cases c1 : i < 0
    · rw [if_pos c1] at hQ
      refine G_in ?_
      have hq := hQ K E GB
      simp (implicitDefEqProofs := false) (disch := omega) only [b253_2, b253_6, b253_7, b253_8, q253_6, q253_7, q253_8, x_aload0, y_call257, x_gc_7211, x_gf_10328, x_gf_7171, x_gf_7276, x_goto_10, x_goto_5, x_goto_8, x_iaload, x_iconst, x_ifCond_eq_7, x_ifCond_eq_9, x_ifCond_lt_5, x_ifCond_lt_6, x_ifCond_ne_6, x_if_icmp_ge_6, x_if_icmp_lt_3, x_iinc3, x_iload2, x_iload3, x_iload4, x_iload5, klp_0, klp_1, klp_2, klp_3, klp_9, KC_0, KC_1, KC_2, KC_3, KC_4, ne_eq, not_false_eq_true, not_true_eq_false, true_and, and_true, and_self, implies_true, eq_self, true_imp_iff, false_implies, Int.reduceEq, Int.reduceNe, Int.reduceMod, Int.reduceMul, Int.reduceAdd, Int.reduceSub, Int.reduceLT, Int.reduceLE, Nat.reduceAdd, Nat.reduceLeDiff, Nat.reduceLT, Nat.reduceSub, reduceIte, wds_n, wds_0, wds_1, wds_2, wds_3, or_true, true_or, or_false, false_or, or_self, false_and, and_false, d_pos, d_s1, d_s2, d_s3, d_s4, d_s5, d_s6, d_s7, d_s8, Classical.not_not, le_T, le_F, lt_T, lt_F, w32_T, e13]
      rcases efd with f0 | f0
      · rw [f0] at hq ⊢
        refine ⟨fun _ => ?_, fun w => absurd rfl w⟩
        refine G_in ?_
        simp (implicitDefEqProofs := false) (disch := omega) only [b253_9, b253_10, q253_9, q253_10, x_goto_10, x_iadd, x_iconst, x_ireturn, klp_0, klp_1, klp_2, klp_3, klp_9, KC_0, KC_1, KC_2, KC_3, KC_4, ne_eq, not_false_eq_true, not_true_eq_false, true_and, and_true, and_self, implies_true, eq_self, true_imp_iff, false_implies, Int.reduceEq, Int.reduceNe, Int.reduceMod, Int.reduceMul, Int.reduceAdd, Int.reduceSub, Int.reduceLT, Int.reduceLE, Nat.reduceAdd, Nat.reduceLeDiff, Nat.reduceLT, Nat.reduceSub, reduceIte, wds_n, wds_0, wds_1, wds_2, wds_3, or_true, true_or, or_false, false_or, or_self, false_and, and_false, d_pos, d_s1, d_s2, d_s3, d_s4, d_s5, d_s6, d_s7, d_s8, Classical.not_not, w32_T]
        exact hq
      · rw [f0] at hq ⊢
        refine ⟨fun w => absurd w (by decide), fun _ => ?_⟩
        refine G_in ?_
        simp (implicitDefEqProofs := false) (disch := omega) only [b253_10, q253_10, x_iadd, x_ireturn, klp_0, klp_1, klp_2, klp_3, klp_9, KC_0, KC_1, KC_2, KC_3, KC_4, ne_eq, not_false_eq_true, not_true_eq_false, true_and, and_true, and_self, implies_true, eq_self, true_imp_iff, false_implies, Int.reduceEq, Int.reduceNe, Int.reduceMod, Int.reduceMul, Int.reduceAdd, Int.reduceSub, Int.reduceLT, Int.reduceLE, Nat.reduceAdd, Nat.reduceLeDiff, Nat.reduceLT, Nat.reduceSub, reduceIte, wds_n, wds_0, wds_1, wds_2, wds_3, or_true, true_or, or_false, false_or, or_self, false_and, and_false, d_pos, d_s1, d_s2, d_s3, d_s4, d_s5, d_s6, d_s7, d_s8, Classical.not_not, w32_T]
        exact hq
    · rw [if_neg c1] at hQ
      obtain ⟨M, N, W, x0, x1⟩ := R (by omega)
      have ni := N i (by omega) (Int.le_refl _)
      have i36 : 0 ≤ i ∧ i < 36 := by omega
      have sb := sm_b S (nx := nx) i.toNat (by omega) (fun u a b => W.1 u a (by omega))
      by_cases c2 : plB h ≤ nx i
      · rw [if_pos c2] at hQ
        by_cases c3 : i = 0
        · refine G_in ?_
          simp (implicitDefEqProofs := false) (disch := omega) only [b253_2, b253_5, q253_5, x_aload0, y_call257, x_gc_7211, x_gf_10328, x_gf_7171, x_goto_2, x_goto_5, x_iaload, x_iconst, x_ifCond_lt_5, x_ifCond_lt_6, x_ifCond_ne_6, x_if_icmp_ge_6, x_if_icmp_lt_3, x_iinc3, x_iinc5, x_iload2, x_iload3, x_iload4, x_iload5, klp_0, klp_1, klp_2, klp_3, klp_9, KC_0, KC_1, KC_2, KC_3, KC_4, ne_eq, not_false_eq_true, not_true_eq_false, true_and, and_true, and_self, implies_true, eq_self, true_imp_iff, false_implies, Int.reduceEq, Int.reduceNe, Int.reduceMod, Int.reduceMul, Int.reduceAdd, Int.reduceSub, Int.reduceLT, Int.reduceLE, Nat.reduceAdd, Nat.reduceLeDiff, Nat.reduceLT, Nat.reduceSub, reduceIte, wds_n, wds_0, wds_1, wds_2, wds_3, or_true, true_or, or_false, false_or, or_self, false_and, and_false, d_pos, d_s1, d_s2, d_s3, d_s4, d_s5, d_s6, d_s7, d_s8, Classical.not_not, k0, TC_0 hT, TC_k hT, kU, z1927_5, z2208_l, ni, le_T, le_F, lt_T, lt_F, w32_T]
          exact lp253 S hm f (t + 1) (i - 1) nd fd bw nx bt K (by omega) (by omega) n0 n1 (by omega) (by omega) (by omega) E (fun w => by omega) GB hQ
        · have nj := N (i - 1) (by omega) (by omega)
          have wj := W.1 (i - 1) (by omega) (by omega)
          have w10 : K 1927 10 = smU h nx i.toNat := M.1
          have r257 := fun (d : Nat) (Q : Int → HV → Prop) => k257 (d := d) (Q := Q) S E.1 (u := i - 1) (by omega) nj wj (by omega)
          have ie : i - 1 + 1 = i := by omega
          have im : i + -1 = i - 1 := by omega
          refine G_in ?_
          simp (implicitDefEqProofs := false) (disch := omega) only [b253_2, b253_5, q253_5, x_aload0, y_call257, x_gc_7211, x_gf_10328, x_gf_7171, x_goto_2, x_goto_5, x_iaload, x_iconst, x_ifCond_lt_5, x_ifCond_lt_6, x_ifCond_ne_6, x_if_icmp_ge_6, x_if_icmp_lt_3, x_iinc3, x_iinc5, x_iload2, x_iload3, x_iload4, x_iload5, klp_0, klp_1, klp_2, klp_3, klp_9, KC_0, KC_1, KC_2, KC_3, KC_4, ne_eq, not_false_eq_true, not_true_eq_false, true_and, and_true, and_self, implies_true, eq_self, true_imp_iff, false_implies, Int.reduceEq, Int.reduceNe, Int.reduceMod, Int.reduceMul, Int.reduceAdd, Int.reduceSub, Int.reduceLT, Int.reduceLE, Nat.reduceAdd, Nat.reduceLeDiff, Nat.reduceLT, Nat.reduceSub, reduceIte, wds_n, wds_0, wds_1, wds_2, wds_3, or_true, true_or, or_false, false_or, or_self, false_and, and_false, d_pos, d_s1, d_s2, d_s3, d_s4, d_s5, d_s6, d_s7, d_s8, Classical.not_not, k0, TC_0 hT, TC_k hT, kU, z1927_5, z2208_l, ni, im, r257, le_T, le_F, lt_T, lt_F, w32_T]
          refine lp253 S hm f (t + 1) (i - 1) nd fd bw nx bt _ (by omega) (by omega) n0 n1 (by omega) (by omega) (by omega) (re_tk E) (fun w => ⟨rm_off S (by rw [ie]; exact M) (by omega) (by rw [ie]; exact W), rn_tk (fun u a b => N u a (by omega)), PW_c W (by omega) (fun _ _ _ => rfl), by omega, by omega⟩) GB hQ
      · rw [if_neg c2] at hQ
        by_cases c3 : most ≤ nd
        · rw [if_pos c3] at hQ
          have hq := hQ K E GB
          refine G_in ?_
          simp (implicitDefEqProofs := false) (disch := omega) only [b253_2, b253_3, b253_5, q253_3, q253_5, x_aload0, y_call257, x_gc_7211, x_gf_10328, x_gf_7171, x_gf_7288, x_goto_2, x_goto_5, x_iaload, x_iconst, x_ifCond_lt_5, x_ifCond_lt_6, x_ifCond_ne_6, x_if_icmp_ge_6, x_if_icmp_lt_3, x_if_icmp_lt_4, x_iinc3, x_iinc5, x_iload1, x_iload2, x_iload3, x_iload4, x_iload5, x_istore4, klp_0, klp_1, klp_2, klp_3, klp_9, KC_0, KC_1, KC_2, KC_3, KC_4, ne_eq, not_false_eq_true, not_true_eq_false, true_and, and_true, and_self, implies_true, eq_self, true_imp_iff, false_implies, Int.reduceEq, Int.reduceNe, Int.reduceMod, Int.reduceMul, Int.reduceAdd, Int.reduceSub, Int.reduceLT, Int.reduceLE, Nat.reduceAdd, Nat.reduceLeDiff, Nat.reduceLT, Nat.reduceSub, reduceIte, wds_n, wds_0, wds_1, wds_2, wds_3, or_true, true_or, or_false, false_or, or_self, false_and, and_false, d_pos, d_s1, d_s2, d_s3, d_s4, d_s5, d_s6, d_s7, d_s8, Classical.not_not, k0, TC_0 hT, TC_k hT, kU, z1927_5, z2208_l, ni, e15, le_T, le_F, lt_T, lt_F, w32_T]
          refine G_in ?_
          simp (implicitDefEqProofs := false) (disch := omega) only [b253_2, b253_6, b253_8, q253_6, q253_8, x_aload0, y_call257, x_gc_7211, x_gf_10328, x_gf_7171, x_gf_7276, x_goto_10, x_goto_5, x_goto_8, x_iaload, x_iconst, x_ifCond_eq_7, x_ifCond_eq_9, x_ifCond_lt_5, x_ifCond_lt_6, x_ifCond_ne_6, x_if_icmp_ge_6, x_if_icmp_lt_3, x_iinc3, x_iload2, x_iload3, x_iload4, x_iload5, klp_0, klp_1, klp_2, klp_3, klp_9, KC_0, KC_1, KC_2, KC_3, KC_4, ne_eq, not_false_eq_true, not_true_eq_false, true_and, and_true, and_self, implies_true, eq_self, true_imp_iff, false_implies, Int.reduceEq, Int.reduceNe, Int.reduceMod, Int.reduceMul, Int.reduceAdd, Int.reduceSub, Int.reduceLT, Int.reduceLE, Nat.reduceAdd, Nat.reduceLeDiff, Nat.reduceLT, Nat.reduceSub, reduceIte, wds_n, wds_0, wds_1, wds_2, wds_3, or_true, true_or, or_false, false_or, or_self, false_and, and_false, d_pos, d_s1, d_s2, d_s3, d_s4, d_s5, d_s6, d_s7, d_s8, Classical.not_not, k0, TC_0 hT, TC_k hT, kU, e13, le_T, le_F, lt_T, lt_F, w32_T]
          rcases efd with f0 | f0
          · rw [f0] at hq ⊢
            refine ⟨fun _ => ?_, fun w => absurd rfl w⟩
            refine G_in ?_
            simp (implicitDefEqProofs := false) (disch := omega) only [b253_9, b253_10, q253_9, q253_10, x_goto_10, x_iadd, x_iconst, x_ireturn, klp_0, klp_1, klp_2, klp_3, klp_9, KC_0, KC_1, KC_2, KC_3, KC_4, ne_eq, not_false_eq_true, not_true_eq_false, true_and, and_true, and_self, implies_true, eq_self, true_imp_iff, false_implies, Int.reduceEq, Int.reduceNe, Int.reduceMod, Int.reduceMul, Int.reduceAdd, Int.reduceSub, Int.reduceLT, Int.reduceLE, Nat.reduceAdd, Nat.reduceLeDiff, Nat.reduceLT, Nat.reduceSub, reduceIte, wds_n, wds_0, wds_1, wds_2, wds_3, or_true, true_or, or_false, false_or, or_self, false_and, and_false, d_pos, d_s1, d_s2, d_s3, d_s4, d_s5, d_s6, d_s7, d_s8, Classical.not_not, w32_T]
            exact hq
          · rw [f0] at hq ⊢
            refine ⟨fun w => absurd w (by decide), fun _ => ?_⟩
            refine G_in ?_
            simp (implicitDefEqProofs := false) (disch := omega) only [b253_10, q253_10, x_iadd, x_ireturn, klp_0, klp_1, klp_2, klp_3, klp_9, KC_0, KC_1, KC_2, KC_3, KC_4, ne_eq, not_false_eq_true, not_true_eq_false, true_and, and_true, and_self, implies_true, eq_self, true_imp_iff, false_implies, Int.reduceEq, Int.reduceNe, Int.reduceMod, Int.reduceMul, Int.reduceAdd, Int.reduceSub, Int.reduceLT, Int.reduceLE, Nat.reduceAdd, Nat.reduceLeDiff, Nat.reduceLT, Nat.reduceSub, reduceIte, wds_n, wds_0, wds_1, wds_2, wds_3, or_true, true_or, or_false, false_or, or_self, false_and, and_false, d_pos, d_s1, d_s2, d_s3, d_s4, d_s5, d_s6, d_s7, d_s8, Classical.not_not, w32_T]
            exact hq
        · rw [if_neg c3] at hQ
          refine G_in ?_
          simp (implicitDefEqProofs := false) (disch := omega) only [b253_2, b253_3, q253_3, x_aload0, y_call257, x_gc_7211, x_gf_10328, x_gf_7171, x_gf_7288, x_goto_5, x_iaload, x_iconst, x_ifCond_lt_5, x_ifCond_lt_6, x_ifCond_ne_6, x_if_icmp_ge_6, x_if_icmp_lt_3, x_if_icmp_lt_4, x_iinc3, x_iload1, x_iload2, x_iload3, x_iload4, x_iload5, x_istore4, klp_0, klp_1, klp_2, klp_3, klp_9, KC_0, KC_1, KC_2, KC_3, KC_4, ne_eq, not_false_eq_true, not_true_eq_false, true_and, and_true, and_self, implies_true, eq_self, true_imp_iff, false_implies, Int.reduceEq, Int.reduceNe, Int.reduceMod, Int.reduceMul, Int.reduceAdd, Int.reduceSub, Int.reduceLT, Int.reduceLE, Nat.reduceAdd, Nat.reduceLeDiff, Nat.reduceLT, Nat.reduceSub, reduceIte, wds_n, wds_0, wds_1, wds_2, wds_3, or_true, true_or, or_false, false_or, or_self, false_and, and_false, d_pos, d_s1, d_s2, d_s3, d_s4, d_s5, d_s6, d_s7, d_s8, Classical.not_not, k0, TC_0 hT, TC_k hT, kU, z1927_5, z2208_l, ni, e15, le_T, le_F, lt_T, lt_F, w32_T]
          refine G_in ?_
          simp (implicitDefEqProofs := false) (disch := omega) only [b253_4, q253_4, x_aload0, y_call262, x_goto_5, x_iload3, x_istore3, klp_0, klp_1, klp_2, klp_3, klp_9, KC_0, KC_1, KC_2, KC_3, KC_4, ne_eq, not_false_eq_true, not_true_eq_false, true_and, and_true, and_self, implies_true, eq_self, true_imp_iff, false_implies, Int.reduceEq, Int.reduceNe, Int.reduceMod, Int.reduceMul, Int.reduceAdd, Int.reduceSub, Int.reduceLT, Int.reduceLE, Nat.reduceAdd, Nat.reduceLeDiff, Nat.reduceLT, Nat.reduceSub, reduceIte, wds_n, wds_0, wds_1, wds_2, wds_3, or_true, true_or, or_false, false_or, or_self, false_and, and_false, d_pos, d_s1, d_s2, d_s3, d_s4, d_s5, d_s6, d_s7, d_s8, Classical.not_not]
          have bnd := pv_b S (v := nx i) (by omega)
          have fin : ∀ j : Int, ∀ K2, G fz1 (d + 6) 253 2 [(3, 1927), (0, most), (0, plB h), (0, j), (0, 0), (0, t + 1)] [] K2 Q → KC fz1 (d + 6) 253 Q [Instr.istore 3, Instr.goto 5] [(3, 1927), (0, most), (0, plB h), (0, i), (0, 0), (0, t)] [] 0 j K2 := fun j K2 g => by
            simp (implicitDefEqProofs := false) (disch := omega) only [b253_4, q253_4, x_aload0, y_call262, x_goto_5, x_iload3, x_istore3, klp_0, klp_1, klp_2, klp_3, klp_9, KC_0, KC_1, KC_2, KC_3, KC_4, ne_eq, not_false_eq_true, not_true_eq_false, true_and, and_true, and_self, implies_true, eq_self, true_imp_iff, false_implies, Int.reduceEq, Int.reduceNe, Int.reduceMod, Int.reduceMul, Int.reduceAdd, Int.reduceSub, Int.reduceLT, Int.reduceLE, Nat.reduceAdd, Nat.reduceLeDiff, Nat.reduceLT, Nat.reduceSub, reduceIte, wds_n, wds_0, wds_1, wds_2, wds_3, or_true, true_or, or_false, false_or, or_self, false_and, and_false, d_pos, d_s1, d_s2, d_s3, d_s4, d_s5, d_s6, d_s7, d_s8, Classical.not_not]
            refine G_in ?_
            simp (implicitDefEqProofs := false) (disch := omega) only [b253_5, q253_5, x_goto_2, x_iinc5, klp_0, klp_1, klp_2, klp_3, klp_9, KC_0, KC_1, KC_2, KC_3, KC_4, ne_eq, not_false_eq_true, not_true_eq_false, true_and, and_true, and_self, implies_true, eq_self, true_imp_iff, false_implies, Int.reduceEq, Int.reduceNe, Int.reduceMod, Int.reduceMul, Int.reduceAdd, Int.reduceSub, Int.reduceLT, Int.reduceLE, Nat.reduceAdd, Nat.reduceLeDiff, Nat.reduceLT, Nat.reduceSub, reduceIte, wds_n, wds_0, wds_1, wds_2, wds_3, or_true, true_or, or_false, false_or, or_self, false_and, and_false, d_pos, d_s1, d_s2, d_s3, d_s4, d_s5, d_s6, d_s7, d_s8, Classical.not_not, w32_T]
            exact g
          refine k262 S E M N W ⟨by omega, i1⟩ (by omega) (by omega) (fun hyp K2 E2 M2 N2 => fin _ _ ?_) (fun hyp hi W2 K2 E2 M2 N2 => fin _ _ ?_) (fun hyp hi W2 K2 E2 M2 N2 => fin _ _ ?_)
          · rw [if_pos hyp] at hQ
            exact lp253 S hm f (t + 1) i (nd + 1) fd bw _ bt K2 i0 i1 (by omega) (by omega) (by omega) (by omega) (by omega) E2 (fun _ => ⟨M2, N2, PW_c W (Int.le_refl _) (fun u a b => up_ne (by omega)), by rw [up_eq]; omega, by rw [up_eq]; omega⟩) GB hQ
          · rw [if_neg hyp, if_pos hi] at hQ
            exact lp253 S hm f (t + 1) (i + 1) (nd + 1) fd bw _ bt K2 (by omega) hi (by omega) (by omega) (by omega) (by omega) (by omega) E2 (fun _ => ⟨M2, N2, W2, by rw [up_eq]; omega, by rw [up_eq]; omega⟩) GB hQ
          · rw [if_neg hyp, if_neg hi] at hQ
            have iN : i + 1 = h (h 64 8) 11 := by omega
            rw [iN] at W2
            exact lp253 S hm f (t + 1) i (nd + 1) 1 _ _ _ K2 i0 i1 (by omega) (by omega) (by omega) (by omega) (by omega) E2 (fun _ => ⟨M2, N2, PW_c W (Int.le_refl _) (fun u a b => up_ne (by omega)), by rw [up_eq]; omega, by rw [up_eq]; omega⟩) (gb_pw W2) hQ
theorem f2272 {d : Nat} {h : HV} {Q : Int → HV → Prop} {v : Int} : Sp fz1 d 14 [(3, 2272), (0, v)] h Q = Q 0 (fillH h 2272 6 v) := s14e (by decide) z2272_l.symm (by decide) (by decide)
theorem f2336 {d : Nat} {h : HV} {Q : Int → HV → Prop} {v : Int} : Sp fz1 d 14 [(3, 2336), (0, v)] h Q = Q 0 (fillH h 2336 8 v) := s14e (by decide) z2336_l.symm (by decide) (by decide)
theorem f2400 {d : Nat} {h : HV} {Q : Int → HV → Prop} {v : Int} : Sp fz1 d 14 [(3, 2400), (0, v)] h Q = Q 0 (fillH h 2400 10 v) := s14e (by decide) z2400_l.symm (by decide) (by decide)
theorem f2464 {d : Nat} {h : HV} {Q : Int → HV → Prop} {v : Int} : Sp fz1 d 14 [(3, 2464), (0, v)] h Q = Q 0 (fillH h 2464 12 v) := s14e (by decide) z2464_l.symm (by decide) (by decide)
theorem lp254 {d : Nat} {h Z : HV} {Q : Int → HV → Prop} (S : SBd h) (F : BKp h Z) (z0 : Z 2144 (h (h 64 8) 11) = 0) (ex : ∀ K, (∀ a, a ≠ 2144 → K a = Z a) → (∀ u, 0 ≤ u → u ≤ h (h 64 8) 11 → K 2144 u = leU h u) → Q 0 K) : G fz1 (d + 3) 254 1 [(3, 1927), (0, h (h 64 8) 11 - 1)] [] Z Q := by
  have hT := S.1.1
  have hN := S.2.1.1
  refine forG (N := (h (h 64 8) 11).toNat) (I := fun j ls h' => ls = [(3, 1927), (0, h (h 64 8) 11 - 1 - (j : Int))] ∧ (∀ a, a ≠ 2144 → h' a = Z a) ∧ ∀ u, h (h 64 8) 11 - j ≤ u → u ≤ h (h 64 8) 11 → h' 2144 u = leU h u) ?_ ?_ (j := 0) (Nat.zero_le _) ⟨by rw [show h (h 64 8) 11 - 1 - ((0 : Nat) : Int) = h (h 64 8) 11 - 1 by omega], fun _ _ => rfl, fun u a b => by
      rw [show u = h (h 64 8) 11 by omega, z0]
      unfold leU
      rw [show (h (h 64 8) 11 - h (h 64 8) 11).toNat = 0 by omega]
      rfl⟩
  · rintro j ls h' hj ⟨rfl, fr, vl⟩ n2
    have F' : BKp h h' := ⟨fun a q => by rw [fr a q.2.1]; exact F.1 a q, fun s a b c e f => by rw [fr _ (by decide)]; exact F.2 s a b c e f⟩
    have t0 := bk_0 S F'
    obtain ⟨w, hw⟩ : ∃ w, w = h (h 64 8) 11 - 1 - (j : Int) := ⟨_, rfl⟩
    have wI : 0 ≤ w ∧ w < h (h 64 8) 11 := by omega
    have ub := un_b4 S wI
    have l1 : h' (h 64 8 + 1174) w = lsU h w := by rw [bk_T S F' (by decide) (by decide)]; rfl
    have vn := vl (w + 1) (by omega) (by omega)
    have lb := le_b S (u := w + 1) (by omega)
    have mb := mn_b S.2.2.2.2.2.1 ub.1 (5 * h 1927 1 - 1).toNat (by have := S.2.2.1; omega)
    have le : leU h w = leU h (w + 1) + mnW h (lsU h w) (5 * h 1927 1 - 1).toNat := by
      unfold leU
      rw [show (h (h 64 8) 11 - w).toNat = (h (h 64 8) 11 - (w + 1)).toNat + 1 by omega, lsS, show h (h 64 8) 11 - (((h (h 64 8) 11 - (w + 1)).toNat : Int) + 1) = w by omega]
    rw [← hw]
    have r255 := fun (d : Nat) (Q : Int → HV → Prop) => k255 (d := d) (Q := Q) S F' ub.1
    refine G_in ?_
    simp (implicitDefEqProofs := false) (disch := omega) only [b254_1, x_aload0, y_call255, x_gc_10323, x_gc_7203, x_gf_7171, x_goto_1, x_iadd, x_iaload, x_iastore, x_iconst, x_ifCond_lt_2, x_iinc1, x_iload1, klp_0, klp_1, klp_2, klp_3, klp_9, KC_0, KC_1, KC_2, KC_3, KC_4, ne_eq, not_false_eq_true, not_true_eq_false, true_and, and_true, and_self, implies_true, eq_self, true_imp_iff, false_implies, Int.reduceEq, Int.reduceNe, Int.reduceMod, Int.reduceMul, Int.reduceAdd, Int.reduceSub, Int.reduceLT, Int.reduceLE, Nat.reduceAdd, Nat.reduceLeDiff, Nat.reduceLT, Nat.reduceSub, reduceIte, wds_n, wds_0, wds_1, wds_2, wds_3, or_true, true_or, or_false, false_or, or_self, false_and, and_false, d_pos, d_s1, d_s2, d_s3, d_s4, d_s5, d_s6, d_s7, d_s8, Classical.not_not, t0, TC_0 hT, TC_k hT, z1927_4, z2144_l, vn, c10 hT, c10l hT, c10k hT, l1, r255, le_T, le_F, lt_T, lt_F, w32_T]
    refine n2 _ _ ⟨?_, fun a ha => by rw [hs_ne ha, fr a ha], fun u a b => ?_⟩
    · rw [show h (h 64 8) 11 - 1 - ((j + 1 : Nat) : Int) = w - 1 by omega]
      rfl
    · rw [hset_v]
      by_cases q : u = w
      · rw [if_pos ⟨rfl, q⟩, q, le]
      · rw [if_neg (fun z => q z.2)]
        exact vl u (by omega) b
  · rintro ls h' ⟨rfl, fr, vl⟩
    refine G_in ?_
    simp (implicitDefEqProofs := false) (disch := omega) only [b254_1, b254_2, q254_2, x_aload0, y_call255, x_gc_10323, x_gc_7203, x_gf_7171, x_goto_1, x_iadd, x_iaload, x_iastore, x_iconst, x_ifCond_lt_2, x_iinc1, x_iload1, x_return, klp_0, klp_1, klp_2, klp_3, klp_9, KC_0, KC_1, KC_2, KC_3, KC_4, ne_eq, not_false_eq_true, not_true_eq_false, true_and, and_true, and_self, implies_true, eq_self, true_imp_iff, false_implies, Int.reduceEq, Int.reduceNe, Int.reduceMod, Int.reduceMul, Int.reduceAdd, Int.reduceSub, Int.reduceLT, Int.reduceLE, Nat.reduceAdd, Nat.reduceLeDiff, Nat.reduceLT, Nat.reduceSub, reduceIte, wds_n, wds_0, wds_1, wds_2, wds_3, or_true, true_or, or_false, false_or, or_self, false_and, and_false, d_pos, d_s1, d_s2, d_s3, d_s4, d_s5, d_s6, d_s7, d_s8, Classical.not_not, le_T, le_F, lt_T, lt_F, w32_T]
    exact ex h' fr (fun u a b => vl u (by omega) b)
