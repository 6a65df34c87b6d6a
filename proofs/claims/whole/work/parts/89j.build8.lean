/-! THE PURE SIDE, 80: build, the reference's search: printed by wip/tools/gen89j.py -/
def RelR (h K0 K : HV) (nd fd bw : Int) (bt : Int → Int) : Prop := RFr h K0 K ∧ K 6603 72 = nd ∧ K 6603 69 = fd ∧ (fd = 0 ∨ fd = 1) ∧ K 6603 70 = 1 ∧ K 6603 71 = 0 ∧ (fd ≠ 0 → K 6603 73 = bw ∧ ∀ u, 0 ≤ u → u < h (h 64 8) 11 → K 11872 u = perF h (bt u) ∧ K 11936 u = rooF h (bt u)) ∧ (∀ u, 0 ≤ u → u ≤ h (h 64 8) 11 → K 12256 u = leU h u)
def RelS (h K : HV) (i : Int) (nx : Int → Int) : Prop := (∀ u, 0 ≤ u → u < i → K 12064 u = perF h (nx u - 1) ∧ K 12128 u = rooF h (nx u - 1)) ∧ (∀ u, 0 ≤ u → u ≤ i → K 12320 u = smU h nx u.toNat) ∧ (∀ u, 0 ≤ u → u ≤ i → K 12192 u = nx u - 1)
theorem lp421 {d : Nat} {h K0 : HV} {Q : Int → HV → Prop} {most : Int} (S : SRb h) (hm : most ≤ 10000) (hN0 : h (h 64 8) 11 ≠ 0) : ∀ (f : Nat) (i nd fd bw : Int) (nx bt : Int → Int) (K : HV) (y6 y7 y8 y9 : AV), -1 ≤ i → i < h (h 64 8) 11 → 0 ≤ nd → nd ≤ most → 2 * (most - nd) + i + 2 ≤ f → RelR h K0 K nd fd bw bt → (0 ≤ i → RelS h K i nx ∧ PWU h nx i ∧ 0 ≤ nx i ∧ nx i ≤ plB h) → (∀ K2, RelR h K0 K2 (runB h most f i nx nd fd bw bt).2.1 (runB h most f i nx nd fd bw bt).2.2.1 (runB h most f i nx nd fd bw bt).2.2.2.1 (runB h most f i nx nd fd bw bt).2.2.2.2 → Q (runB h most f i nx nd fd bw bt).1 K2) → G fz1 (d + 1) 421 10 [(3, 6603), (0, most), (0, h (h 64 8) 11), (0, h (h 64 8 + 598) 1), (0, plB h), (0, i), y6, y7, y8, y9] [] K Q
  | 0, i, nd, fd, bw, nx, bt, K, y6, y7, y8, y9, i0, i1, n0, n1, hf, E, R, hQ => by omega
  | f + 1, i, nd, fd, bw, nx, bt, K, y6, y7, y8, y9, i0, i1, n0, n1, hf, E, R, hQ => by
    have hS := S.1.1.2.1
    have hN := S.1.2.1.1
    have pw := pl_w S.1
    have e69 : K 6603 69 = fd := E.2.2.1
    have e72 : K 6603 72 = nd := E.2.1
    have efd := E.2.2.2.1
    rw [runB] at hQ
    by_cases c1 : i < 0
    · rw [if_pos c1] at hQ
      have hq := hQ K E
      refine G_in ?_
      simp (implicitDefEqProofs := false) (disch := omega) only [b421_10, x_aload0, x_dup203, x_dup21, x_gc_11899, x_goto_10, x_iadd, x_iaload, x_iastore, x_iconst, x_ifCond_le_20, x_ifCond_lt_20, x_if_icmp_lt_11, x_iinc5, x_iload2, x_iload4, x_iload5, klp_0, klp_1, klp_2, klp_3, klp_9, KC_0, KC_1, KC_2, KC_3, KC_4, ne_eq, not_false_eq_true, not_true_eq_false, true_and, and_true, and_self, implies_true, eq_self, true_imp_iff, false_implies, Int.reduceEq, Int.reduceNe, Int.reduceMod, Int.reduceMul, Int.reduceAdd, Int.reduceSub, Int.reduceLT, Int.reduceLE, Nat.reduceAdd, Nat.reduceLeDiff, Nat.reduceLT, Nat.reduceSub, reduceIte, wds_n, wds_0, wds_1, wds_2, wds_3, or_true, true_or, or_false, false_or, or_self, false_and, and_false, d_pos, d_s1, d_s2, d_s3, d_s4, d_s5, d_s6, d_s7, d_s8, Classical.not_not, le_T, le_F, lt_T, lt_F, w32_T]
      refine G_in ?_
      simp (implicitDefEqProofs := false) (disch := omega) only [b421_20, q421_20, x_aload0, x_gf_11820, x_goto_22, x_iconst, x_ifCond_eq_21, klp_0, klp_1, klp_2, klp_3, klp_9, KC_0, KC_1, KC_2, KC_3, KC_4, ne_eq, not_false_eq_true, not_true_eq_false, true_and, and_true, and_self, implies_true, eq_self, true_imp_iff, false_implies, Int.reduceEq, Int.reduceNe, Int.reduceMod, Int.reduceMul, Int.reduceAdd, Int.reduceSub, Int.reduceLT, Int.reduceLE, Nat.reduceAdd, Nat.reduceLeDiff, Nat.reduceLT, Nat.reduceSub, reduceIte, wds_n, wds_0, wds_1, wds_2, wds_3, or_true, true_or, or_false, false_or, or_self, false_and, and_false, d_pos, d_s1, d_s2, d_s3, d_s4, d_s5, d_s6, d_s7, d_s8, Classical.not_not, e69]
      rcases efd with f0 | f0
      · rw [f0] at hq ⊢
        refine ⟨fun _ => ?_, fun w => absurd rfl w⟩
        refine G_in ?_
        simp (implicitDefEqProofs := false) (disch := omega) only [b421_21, b421_22, q421_21, q421_22, x_goto_22, x_iconst, x_ireturn, klp_0, klp_1, klp_2, klp_3, klp_9, KC_0, KC_1, KC_2, KC_3, KC_4, ne_eq, not_false_eq_true, not_true_eq_false, true_and, and_true, and_self, implies_true, eq_self, true_imp_iff, false_implies, Int.reduceEq, Int.reduceNe, Int.reduceMod, Int.reduceMul, Int.reduceAdd, Int.reduceSub, Int.reduceLT, Int.reduceLE, Nat.reduceAdd, Nat.reduceLeDiff, Nat.reduceLT, Nat.reduceSub, reduceIte, wds_n, wds_0, wds_1, wds_2, wds_3, or_true, true_or, or_false, false_or, or_self, false_and, and_false, d_pos, d_s1, d_s2, d_s3, d_s4, d_s5, d_s6, d_s7, d_s8, Classical.not_not]
        exact hq
      · rw [f0] at hq ⊢
        refine ⟨fun w => absurd w (by decide), fun _ => ?_⟩
        refine G_in ?_
        simp (implicitDefEqProofs := false) (disch := omega) only [b421_22, q421_22, x_ireturn, klp_0, klp_1, klp_2, klp_3, klp_9, KC_0, KC_1, KC_2, KC_3, KC_4, ne_eq, not_false_eq_true, not_true_eq_false, true_and, and_true, and_self, implies_true, eq_self, true_imp_iff, false_implies, Int.reduceEq, Int.reduceNe, Int.reduceMod, Int.reduceMul, Int.reduceAdd, Int.reduceSub, Int.reduceLT, Int.reduceLE, Nat.reduceAdd, Nat.reduceLeDiff, Nat.reduceLT, Nat.reduceSub, reduceIte, wds_n, wds_0, wds_1, wds_2, wds_3, or_true, true_or, or_false, false_or, or_self, false_and, and_false, d_pos, d_s1, d_s2, d_s3, d_s4, d_s5, d_s6, d_s7, d_s8, Classical.not_not]
        exact hq
    · rw [if_neg c1] at hQ
      obtain ⟨R3, W, x0, x1⟩ := R (by omega)
      obtain ⟨rP, rS, rT⟩ := R3
      have ti := rT i (by omega) (Int.le_refl _)
      have i36 : 0 ≤ i ∧ i < 36 := by omega
      have tE : nx i - 1 + 1 = nx i := by omega
      -- the next place
      obtain ⟨K1, hK1⟩ : ∃ K1, hset K 12192 i (nx i) = K1 := ⟨_, rfl⟩
      have f1 : ∀ a, a ≠ 12192 → K1 a = K a := fun a a1 => by rw [← hK1, hs_ne a1]
      have r1 : K1 12192 i = nx i := by rw [← hK1, hset_v, if_pos ⟨rfl, rfl⟩]
      have o1 : ∀ u, u ≠ i → K1 12192 u = K 12192 u := fun u hu => by rw [← hK1, hset_v, if_neg (fun w => hu w.2)]
      have E1 : RelR h K0 K1 nd fd bw bt := by
        obtain ⟨F, z1, z2, z3, z4, z5, z6, z7⟩ := E
        refine ⟨⟨fun a q => ?_, fun s a b c e g => by rw [f1 _ (by decide)]; exact F.2.1 s a b c e g, fun u a b => by rw [f1 _ (by decide)]; exact F.2.2.1 u a b, F.2.2.2⟩, by rw [f1 _ (by decide)]; exact z1, by rw [f1 _ (by decide)]; exact z2, z3, by rw [f1 _ (by decide)]; exact z4, by rw [f1 _ (by decide)]; exact z5, fun w => ?_, fun u a b => by rw [f1 _ (by decide)]; exact z7 u a b⟩
        · rw [f1 a q.2.2.2.2.1]; exact F.1 a q
        · rw [f1 6603 (by decide), f1 11872 (by decide), f1 11936 (by decide)]; exact z6 w
      by_cases c2 : plB h ≤ nx i
      · rw [if_pos c2] at hQ
        have im : i + -1 = i - 1 := by omega
        refine G_in ?_
        simp (implicitDefEqProofs := false) (disch := omega) only [b421_10, x_aload0, x_dup203, x_dup21, x_gc_11899, x_goto_10, x_iadd, x_iaload, x_iastore, x_iconst, x_ifCond_le_20, x_ifCond_lt_20, x_if_icmp_lt_11, x_iinc5, x_iload2, x_iload4, x_iload5, klp_0, klp_1, klp_2, klp_3, klp_9, KC_0, KC_1, KC_2, KC_3, KC_4, ne_eq, not_false_eq_true, not_true_eq_false, true_and, and_true, and_self, implies_true, eq_self, true_imp_iff, false_implies, Int.reduceEq, Int.reduceNe, Int.reduceMod, Int.reduceMul, Int.reduceAdd, Int.reduceSub, Int.reduceLT, Int.reduceLE, Nat.reduceAdd, Nat.reduceLeDiff, Nat.reduceLT, Nat.reduceSub, reduceIte, wds_n, wds_0, wds_1, wds_2, wds_3, or_true, true_or, or_false, false_or, or_self, false_and, and_false, d_pos, d_s1, d_s2, d_s3, d_s4, d_s5, d_s6, d_s7, d_s8, Classical.not_not, z6603_79, z12192_l, ti, tE, hK1, r1, im, le_T, le_F, lt_T, lt_F, w32_T]
        refine lp421 S hm hN0 f (i - 1) nd fd bw nx bt K1 _ _ _ _ (by omega) (by omega) n0 n1 (by omega) E1 (fun w => ⟨⟨fun u a b => by rw [f1 _ (by decide), f1 _ (by decide)]; exact rP u a (by omega), fun u a b => by rw [f1 _ (by decide)]; exact rS u a (by omega), fun u a b => by rw [o1 u (by omega)]; exact rT u a (by omega)⟩, PW_c W (by omega) (fun _ _ _ => rfl), ?_, ?_⟩) hQ
        · have := W.1 (i - 1) w (by omega); omega
        · have := W.1 (i - 1) w (by omega); omega
      · rw [if_neg c2] at hQ
        have g72 : K1 6603 72 = nd := E1.2.1
        have g69 : K1 6603 69 = fd := E1.2.2.1
        have v0 : 0 ≤ nx i ∧ nx i < plB h := by omega
        refine G_in ?_
        simp (implicitDefEqProofs := false) (disch := omega) only [b421_10, x_aload0, x_dup203, x_dup21, x_gc_11899, x_goto_10, x_iadd, x_iaload, x_iastore, x_iconst, x_ifCond_le_20, x_ifCond_lt_20, x_if_icmp_lt_11, x_iinc5, x_iload2, x_iload4, x_iload5, klp_0, klp_1, klp_2, klp_3, klp_9, KC_0, KC_1, KC_2, KC_3, KC_4, ne_eq, not_false_eq_true, not_true_eq_false, true_and, and_true, and_self, implies_true, eq_self, true_imp_iff, false_implies, Int.reduceEq, Int.reduceNe, Int.reduceMod, Int.reduceMul, Int.reduceAdd, Int.reduceSub, Int.reduceLT, Int.reduceLE, Nat.reduceAdd, Nat.reduceLeDiff, Nat.reduceLT, Nat.reduceSub, reduceIte, wds_n, wds_0, wds_1, wds_2, wds_3, or_true, true_or, or_false, false_or, or_self, false_and, and_false, d_pos, d_s1, d_s2, d_s3, d_s4, d_s5, d_s6, d_s7, d_s8, Classical.not_not, z6603_79, z12192_l, ti, tE, hK1, r1, le_T, le_F, lt_T, lt_F, w32_T]
        by_cases c3 : most ≤ nd
        · rw [if_pos c3] at hQ
          have hq := hQ K1 E1
          have c3e : nd = most := by omega
          refine G_in ?_
          simp (implicitDefEqProofs := false) (disch := omega) only [b421_11, q421_11, x_aload0, x_gf_11820, x_gf_11840, x_goto_13, x_iconst, x_ifCond_eq_12, x_if_icmp_ne_14, x_iload1, klp_0, klp_1, klp_2, klp_3, klp_9, KC_0, KC_1, KC_2, KC_3, KC_4, ne_eq, not_false_eq_true, not_true_eq_false, true_and, and_true, and_self, implies_true, eq_self, true_imp_iff, false_implies, Int.reduceEq, Int.reduceNe, Int.reduceMod, Int.reduceMul, Int.reduceAdd, Int.reduceSub, Int.reduceLT, Int.reduceLE, Nat.reduceAdd, Nat.reduceLeDiff, Nat.reduceLT, Nat.reduceSub, reduceIte, wds_n, wds_0, wds_1, wds_2, wds_3, or_true, true_or, or_false, false_or, or_self, false_and, and_false, d_pos, d_s1, d_s2, d_s3, d_s4, d_s5, d_s6, d_s7, d_s8, Classical.not_not, g72, eq_true c3e, g69, le_T, le_F, lt_T, lt_F, w32_T]
          rcases efd with f0 | f0
          · rw [f0] at hq ⊢
            refine ⟨fun _ => ?_, fun w => absurd rfl w⟩
            refine G_in ?_
            simp (implicitDefEqProofs := false) (disch := omega) only [b421_12, b421_13, q421_12, q421_13, x_goto_13, x_iconst, x_ireturn, klp_0, klp_1, klp_2, klp_3, klp_9, KC_0, KC_1, KC_2, KC_3, KC_4, ne_eq, not_false_eq_true, not_true_eq_false, true_and, and_true, and_self, implies_true, eq_self, true_imp_iff, false_implies, Int.reduceEq, Int.reduceNe, Int.reduceMod, Int.reduceMul, Int.reduceAdd, Int.reduceSub, Int.reduceLT, Int.reduceLE, Nat.reduceAdd, Nat.reduceLeDiff, Nat.reduceLT, Nat.reduceSub, reduceIte, wds_n, wds_0, wds_1, wds_2, wds_3, or_true, true_or, or_false, false_or, or_self, false_and, and_false, d_pos, d_s1, d_s2, d_s3, d_s4, d_s5, d_s6, d_s7, d_s8, Classical.not_not]
            exact hq
          · rw [f0] at hq ⊢
            refine ⟨fun w => absurd w (by decide), fun _ => ?_⟩
            refine G_in ?_
            simp (implicitDefEqProofs := false) (disch := omega) only [b421_13, q421_13, x_ireturn, klp_0, klp_1, klp_2, klp_3, klp_9, KC_0, KC_1, KC_2, KC_3, KC_4, ne_eq, not_false_eq_true, not_true_eq_false, true_and, and_true, and_self, implies_true, eq_self, true_imp_iff, false_implies, Int.reduceEq, Int.reduceNe, Int.reduceMod, Int.reduceMul, Int.reduceAdd, Int.reduceSub, Int.reduceLT, Int.reduceLE, Nat.reduceAdd, Nat.reduceLeDiff, Nat.reduceLT, Nat.reduceSub, reduceIte, wds_n, wds_0, wds_1, wds_2, wds_3, or_true, true_or, or_false, false_or, or_self, false_and, and_false, d_pos, d_s1, d_s2, d_s3, d_s4, d_s5, d_s6, d_s7, d_s8, Classical.not_not]
            exact hq
        · rw [if_neg c3] at hQ
          have c3e : ¬ nd = most := by omega
          have pb := pv_b S.1 v0
          have X1 := rtx_1 S.1.1
          have D := S.2.2.2.1
          have ub := un_b4 S.1 (u := i) (by omega)
          have wb := wi_b S.1 (u := i) (by omega) v0
          have lb := le_b S.1 (u := i + 1) (by omega)
          have sb := sm_b S.1 (nx := nx) i.toNat (by omega) (fun u a b => W.1 u a (by omega))
          obtain ⟨K2, hK2⟩ : ∃ K2, hset K1 6603 72 (nd + 1) = K2 := ⟨_, rfl⟩
          have f2 : ∀ a, a ≠ 6603 → K2 a = K1 a := fun a a1 => by rw [← hK2, hs_ne a1]
          have s2 : ∀ s, s ≠ 72 → K2 6603 s = K1 6603 s := fun s hs => by rw [← hK2, hset_v, if_neg (fun w => hs w.2)]
          have E2 : RelR h K0 K2 (nd + 1) fd bw bt := by
            obtain ⟨F, z1, z2, z3, z4, z5, z6, z7⟩ := E1
            refine ⟨⟨fun a q => by rw [f2 a q.1]; exact F.1 a q, fun s a b c e g => by rw [s2 s e]; exact F.2.1 s a b c e g, fun u a b => by rw [f2 _ (by decide)]; exact F.2.2.1 u a b, F.2.2.2⟩, by rw [← hK2, hset_v, if_pos ⟨rfl, rfl⟩], by rw [s2 _ (by decide)]; exact z2, z3, by rw [s2 _ (by decide)]; exact z4, by rw [s2 _ (by decide)]; exact z5, fun w => ?_, fun u a b => by rw [f2 _ (by decide)]; exact z7 u a b⟩
            rw [s2 73 (by decide), f2 11872 (by decide), f2 11936 (by decide)]; exact z6 w
          have F2 := E2.1
          have r2 : K2 12192 i = nx i := by rw [f2 _ (by decide)]; exact r1
          have pE : w32 (Int.tdiv (nx i) (h (h 64 8 + 598) 1)) = perF h (nx i) := by unfold perF; rw [if_pos pb.1]
          have rE : Int.tmod (nx i) (h (h 64 8 + 598) 1) = rooF h (nx i) := by unfold rooF; rw [if_pos pb.1]
          have Rz : ¬ h (h 64 8 + 598) 1 = 0 := by omega
          have sm2 : K2 12320 i = smU h nx i.toNat := by rw [f2 _ (by decide), f1 _ (by decide)]; exact rS i (by omega) (Int.le_refl _)
          have l12 : K2 12000 i = lsU h i := F2.2.2.1 i (by omega) i1
          have wE : K2 11808 (20 * lsU h i + perF h (nx i)) = wiU h i (nx i) := by
            rw [rf_a F2 (by unfold RLb; decide) (by unfold CLb; decide), S.2.2.2.2.2 _ (by omega) (by omega), Int.mul_comm 20]
            rfl
          have hP2 : ∀ u, 0 ≤ u → u < i → K2 12064 u = perF h (nx u - 1) ∧ K2 12128 u = rooF h (nx u - 1) := fun u a b => by
            rw [f2 _ (by decide), f2 _ (by decide), f1 _ (by decide), f1 _ (by decide)]; exact rP u a b
          have r423 := fun (d : Nat) (Q : Int → HV → Prop) => s423 (d := d) (Q := Q) (i := i) (v := nx i) S F2 ⟨by omega, i1⟩ v0 hP2
          have fib := fi_b h nx i (nx i) i.toNat
          have leE : K2 12256 (i + 1) = leU h (i + 1) := E2.2.2.2.2.2.2.2 _ (by omega) (by omega)
          have h69 : K2 6603 69 = fd := E2.2.2.1
          have nE : ∀ u, 0 ≤ u → u < i → up nx i (nx i + 1) u = nx u := fun u a b => up_ne (by omega)
          have S2 : RelS h K2 i (up nx i (nx i + 1)) := ⟨fun u a b => by rw [nE u a b]; exact hP2 u a b, fun u a b => by rw [f2 _ (by decide), f1 _ (by decide), rS u a b, sm_c (fun x y z => nE x y (by omega))], fun u a b => by
            by_cases q : u = i
            · rw [q, r2, up_eq]; omega
            · rw [f2 _ (by decide), o1 u q, nE u a (by omega)]; exact rT u a (by omega)⟩
          have W2 : PWU h (up nx i (nx i + 1)) i := PW_c W (Int.le_refl _) nE
          have stay : (fiK h nx i (nx i) i.toNat = 0 ∨ fd ≠ 0 ∧ bw ≤ smU h nx i.toNat + wiU h i (nx i) + leU h (i + 1)) → ∀ y6 y7 y8 y9, G fz1 (d + 1) 421 10 [(3, 6603), (0, most), (0, h (h 64 8) 11), (0, h (h 64 8 + 598) 1), (0, plB h), (0, i), y6, y7, y8, y9] [] K2 Q := fun hyp y6 y7 y8 y9 => by
            rw [if_pos hyp] at hQ
            exact lp421 S hm hN0 f i (nd + 1) fd bw _ bt K2 _ _ _ _ i0 i1 (by omega) (by omega) (by omega) E2 (fun _ => ⟨S2, W2, by rw [up_eq]; omega, by rw [up_eq]; omega⟩) hQ
          refine G_in ?_
          simp (implicitDefEqProofs := false) (disch := omega) only [b421_11, q421_11, x_aload0, x_gf_11820, x_gf_11840, x_goto_13, x_iconst, x_ifCond_eq_12, x_if_icmp_ne_14, x_iload1, klp_0, klp_1, klp_2, klp_3, klp_9, KC_0, KC_1, KC_2, KC_3, KC_4, ne_eq, not_false_eq_true, not_true_eq_false, true_and, and_true, and_self, implies_true, eq_self, true_imp_iff, false_implies, Int.reduceEq, Int.reduceNe, Int.reduceMod, Int.reduceMul, Int.reduceAdd, Int.reduceSub, Int.reduceLT, Int.reduceLE, Nat.reduceAdd, Nat.reduceLeDiff, Nat.reduceLT, Nat.reduceSub, reduceIte, wds_n, wds_0, wds_1, wds_2, wds_3, or_true, true_or, or_false, false_or, or_self, false_and, and_false, d_pos, d_s1, d_s2, d_s3, d_s4, d_s5, d_s6, d_s7, d_s8, Classical.not_not, g72, c3e, le_T, le_F, lt_T, lt_F, w32_T]
          refine G_in ?_
          simp (implicitDefEqProofs := false) (disch := omega) only [b421_14, q421_14, x_aload0, y_call423, x_dup0, x_dup3, x_gc_11811, x_gc_11875, x_gc_11899, x_gc_11907, x_gc_11915, x_gf_11820, x_gf_11840, x_gf_11848, x_goto_15, x_iadd, x_iaload, x_iconst, x_idiv, x_ifCond_eq_15, x_ifCond_eq_19, x_if_icmp_ge_19, x_iload3, x_iload5, x_iload6, x_iload7, x_iload8, x_imul, x_irem, x_istore6, x_istore7, x_istore8, x_pf_11840, klp_0, klp_1, klp_2, klp_3, klp_9, KC_0, KC_1, KC_2, KC_3, KC_4, ne_eq, not_false_eq_true, not_true_eq_false, true_and, and_true, and_self, implies_true, eq_self, true_imp_iff, false_implies, Int.reduceEq, Int.reduceNe, Int.reduceMod, Int.reduceMul, Int.reduceAdd, Int.reduceSub, Int.reduceLT, Int.reduceLE, Nat.reduceAdd, Nat.reduceLeDiff, Nat.reduceLT, Nat.reduceSub, reduceIte, wds_n, wds_0, wds_1, wds_2, wds_3, or_true, true_or, or_false, false_or, or_self, false_and, and_false, d_pos, d_s1, d_s2, d_s3, d_s4, d_s5, d_s6, d_s7, d_s8, Classical.not_not, g72, hK2, z6603_79, z12192_l, r2, pE, rE, Rz, z6603_81, z12320_l, sm2, z6603_68, z11808_l, z6603_76, z12000_l, l12, wE, r423, le_T, le_F, lt_T, lt_F, w32_T]
          rcases fib with f0 | f1
          · rw [f0]
            refine ⟨fun _ => ?_, fun w => absurd rfl w⟩
            refine G_in ?_
            simp (implicitDefEqProofs := false) (disch := omega) only [b421_19, q421_19, x_goto_10, klp_0, klp_1, klp_2, klp_3, klp_9, KC_0, KC_1, KC_2, KC_3, KC_4, ne_eq, not_false_eq_true, not_true_eq_false, true_and, and_true, and_self, implies_true, eq_self, true_imp_iff, false_implies, Int.reduceEq, Int.reduceNe, Int.reduceMod, Int.reduceMul, Int.reduceAdd, Int.reduceSub, Int.reduceLT, Int.reduceLE, Nat.reduceAdd, Nat.reduceLeDiff, Nat.reduceLT, Nat.reduceSub, reduceIte, wds_n, wds_0, wds_1, wds_2, wds_3, or_true, true_or, or_false, false_or, or_self, false_and, and_false, d_pos, d_s1, d_s2, d_s3, d_s4, d_s5, d_s6, d_s7, d_s8, Classical.not_not]
            exact stay (.inl f0) _ _ _ _
          · have W3 : PWU h (up nx i (nx i + 1)) (i + 1) := PW_s (by omega) W v0 f1
            have goon : ¬ (fd ≠ 0 ∧ bw ≤ smU h nx i.toNat + wiU h i (nx i) + leU h (i + 1)) → ∀ y9, G fz1 (d + 1) 421 15 [(3, 6603), (0, most), (0, h (h 64 8) 11), (0, h (h 64 8 + 598) 1), (0, plB h), (0, i), (0, perF h (nx i)), (0, rooF h (nx i)), (0, smU h nx i.toNat + wiU h i (nx i)), y9] [] K2 Q := fun hyp y9 => by
              have nhyp : ¬ (fiK h nx i (nx i) i.toNat = 0 ∨ fd ≠ 0 ∧ bw ≤ smU h nx i.toNat + wiU h i (nx i) + leU h (i + 1)) := fun w => w.elim (fun x => by omega) hyp
              rw [if_neg nhyp] at hQ
              clear nhyp hyp stay
              obtain ⟨K3, hK3⟩ : ∃ K3, hset (hset (hset K2 12064 i (perF h (nx i))) 12128 i (rooF h (nx i))) 12320 (i + 1) (smU h nx i.toNat + wiU h i (nx i)) = K3 := ⟨_, rfl⟩
              have f3 : ∀ a, a ≠ 12064 → a ≠ 12128 → a ≠ 12320 → K3 a = K2 a := fun a a1 a2 a3 => by rw [← hK3, hs_ne a3, hs_ne a2, hs_ne a1]
              have E3 : RelR h K0 K3 (nd + 1) fd bw bt := by
                obtain ⟨F, z1, z2, z3, z4, z5, z6, z7⟩ := E2
                refine ⟨⟨fun a q => by rw [f3 a q.2.2.1 q.2.2.2.1 q.2.2.2.2.2.2.1]; exact F.1 a q, fun s a b c e g => by rw [f3 _ (by decide) (by decide) (by decide)]; exact F.2.1 s a b c e g, fun u a b => by rw [f3 _ (by decide) (by decide) (by decide)]; exact F.2.2.1 u a b, F.2.2.2⟩, by rw [f3 _ (by decide) (by decide) (by decide)]; exact z1, by rw [f3 _ (by decide) (by decide) (by decide)]; exact z2, z3, by rw [f3 _ (by decide) (by decide) (by decide)]; exact z4, by rw [f3 _ (by decide) (by decide) (by decide)]; exact z5, fun w => ?_, fun u a b => by rw [f3 _ (by decide) (by decide) (by decide)]; exact z7 u a b⟩
                rw [f3 6603 (by decide) (by decide) (by decide), f3 11872 (by decide) (by decide) (by decide), f3 11936 (by decide) (by decide) (by decide)]; exact z6 w
              have P3 : ∀ u, 0 ≤ u → u < i + 1 → K3 12064 u = perF h (up nx i (nx i + 1) u - 1) ∧ K3 12128 u = rooF h (up nx i (nx i + 1) u - 1) := fun u a b => by
                have a1 : K3 12064 u = if u = i then perF h (nx i) else K2 12064 u := by
                  rw [← hK3, hs_ne (by decide), hs_ne (by decide), hset_v]
                  by_cases q : u = i
                  · rw [if_pos ⟨rfl, q⟩, if_pos q]
                  · rw [if_neg (fun w => q w.2), if_neg q]
                have a2 : K3 12128 u = if u = i then rooF h (nx i) else K2 12128 u := by
                  rw [← hK3, hs_ne (by decide), hset_v, hs_ne (by decide)]
                  by_cases q : u = i
                  · rw [if_pos ⟨rfl, q⟩, if_pos q]
                  · rw [if_neg (fun w => q w.2), if_neg q]
                rw [a1, a2]
                by_cases q : u = i
                · rw [if_pos q, if_pos q, q, up_eq, show nx i + 1 - 1 = nx i by omega]
                  exact ⟨rfl, rfl⟩
                · rw [if_neg q, if_neg q]
                  exact S2.1 u a (by omega)
              have smE : smU h (up nx i (nx i + 1)) (i + 1).toNat = smU h nx i.toNat + wiU h i (nx i) := by
                have := sm_c (h := h) (nx := nx) (nx' := up nx i (nx i + 1)) (k := i.toNat) (fun u a b => nE u a (by omega))
                rw [show (i + 1).toNat = i.toNat + 1 by omega]
                unfold smU at this ⊢
                rw [sumI, this, show ((i.toNat : Nat) : Int) = i by omega, up_eq, show nx i + 1 - 1 = nx i by omega]
              have S3 : ∀ u, 0 ≤ u → u ≤ i + 1 → K3 12320 u = smU h (up nx i (nx i + 1)) u.toNat := fun u a b => by
                rw [← hK3, hset_v, hs_ne (by decide), hs_ne (by decide)]
                by_cases q : u = i + 1
                · rw [if_pos ⟨rfl, q⟩, q, smE]
                · rw [if_neg (fun w => q w.2)]
                  exact S2.2.1 u a (by omega)
              have T3 : ∀ u, 0 ≤ u → u ≤ i → K3 12192 u = up nx i (nx i + 1) u - 1 := fun u a b => by
                rw [f3 _ (by decide) (by decide) (by decide)]
                exact S2.2.2 u a b
              refine G_in ?_
              by_cases q : i + 1 < h (h 64 8) 11
              · rw [if_pos q] at hQ
                have qn : ¬ i = h (h 64 8) 11 - 1 := by omega
                simp (implicitDefEqProofs := false) (disch := omega) only [b421_15, b421_18, b421_19, q421_15, q421_18, q421_19, x_aload0, x_gc_11883, x_gc_11891, x_gc_11899, x_gc_11915, x_goto_10, x_goto_16, x_goto_19, x_iadd, x_iastore, x_iconst, x_if_icmp_ne_18, x_iinc5, x_iload2, x_iload5, x_iload6, x_iload7, x_iload8, x_istore9, x_isub, x_pf_11820, x_pf_11848, klp_0, klp_1, klp_2, klp_3, klp_9, KC_0, KC_1, KC_2, KC_3, KC_4, ne_eq, not_false_eq_true, not_true_eq_false, true_and, and_true, and_self, implies_true, eq_self, true_imp_iff, false_implies, Int.reduceEq, Int.reduceNe, Int.reduceMod, Int.reduceMul, Int.reduceAdd, Int.reduceSub, Int.reduceLT, Int.reduceLE, Nat.reduceAdd, Nat.reduceLeDiff, Nat.reduceLT, Nat.reduceSub, reduceIte, wds_n, wds_0, wds_1, wds_2, wds_3, or_true, true_or, or_false, false_or, or_self, false_and, and_false, d_pos, d_s1, d_s2, d_s3, d_s4, d_s5, d_s6, d_s7, d_s8, Classical.not_not, z6603_77, z12064_l, z6603_78, z12128_l, z6603_81, z12320_l, hK3, qn, z6603_79, z12192_l, le_T, le_F, lt_T, lt_F, w32_T]
                have e2 : ∀ u, 0 ≤ u → u < i + 1 → up (up nx i (nx i + 1)) (i + 1) 0 u = up nx i (nx i + 1) u := fun u a b => up_ne (by omega)
                have g4 : ∀ a, a ≠ 12192 → hset K3 12192 (i + 1) (-1) a = K3 a := fun a ha => hs_ne ha
                refine lp421 S hm hN0 f (i + 1) (nd + 1) fd bw _ bt _ _ _ _ _ (by omega) q (by omega) (by omega) (by omega) ?_ (fun _ => ⟨⟨fun u a b => by rw [g4 _ (by decide), g4 _ (by decide), e2 u a b]; exact P3 u a b, fun u a b => by rw [g4 _ (by decide), S3 u a b, sm_c (nx := up nx i (nx i + 1)) (fun x y z => e2 x y (by omega))], fun u a b => ?_⟩, PW_c W3 (Int.le_refl _) e2, by rw [up_eq]; omega, by rw [up_eq]; omega⟩) hQ
                · obtain ⟨F, z1, z2, z3, z4, z5, z6, z7⟩ := E3
                  refine ⟨⟨fun a q => by rw [g4 a q.2.2.2.2.1]; exact F.1 a q, fun s a b c e g => by rw [g4 _ (by decide)]; exact F.2.1 s a b c e g, fun u a b => by rw [g4 _ (by decide)]; exact F.2.2.1 u a b, F.2.2.2⟩, by rw [g4 _ (by decide)]; exact z1, by rw [g4 _ (by decide)]; exact z2, z3, by rw [g4 _ (by decide)]; exact z4, by rw [g4 _ (by decide)]; exact z5, fun w => ?_, fun u a b => by rw [g4 _ (by decide)]; exact z7 u a b⟩
                  rw [g4 6603 (by decide), g4 11872 (by decide), g4 11936 (by decide)]; exact z6 w
                · rw [hset_v]
                  by_cases z : u = i + 1
                  · rw [if_pos ⟨rfl, z⟩, z, up_eq]; rfl
                  · rw [if_neg (fun w => z w.2), e2 u a (by omega)]
                    exact T3 u a (by omega)
              · rw [if_neg q] at hQ
                have qe : i = h (h 64 8) 11 - 1 := by omega
                simp (implicitDefEqProofs := false) (disch := omega) only [b421_15, q421_15, x_aload0, x_gc_11883, x_gc_11891, x_gc_11915, x_goto_16, x_iadd, x_iastore, x_iconst, x_if_icmp_ne_18, x_iload2, x_iload5, x_iload6, x_iload7, x_iload8, x_istore9, x_isub, x_pf_11820, x_pf_11848, klp_0, klp_1, klp_2, klp_3, klp_9, KC_0, KC_1, KC_2, KC_3, KC_4, ne_eq, not_false_eq_true, not_true_eq_false, true_and, and_true, and_self, implies_true, eq_self, true_imp_iff, false_implies, Int.reduceEq, Int.reduceNe, Int.reduceMod, Int.reduceMul, Int.reduceAdd, Int.reduceSub, Int.reduceLT, Int.reduceLE, Nat.reduceAdd, Nat.reduceLeDiff, Nat.reduceLT, Nat.reduceSub, reduceIte, wds_n, wds_0, wds_1, wds_2, wds_3, or_true, true_or, or_false, false_or, or_self, false_and, and_false, d_pos, d_s1, d_s2, d_s3, d_s4, d_s5, d_s6, d_s7, d_s8, Classical.not_not, z6603_77, z12064_l, z6603_78, z12128_l, z6603_81, z12320_l, hK3, eq_true qe, le_T, le_F, lt_T, lt_F, w32_T]
                obtain ⟨K4, hK4⟩ : ∃ K4, hset (hset K3 6603 69 1) 6603 73 (smU h nx i.toNat + wiU h i (nx i)) = K4 := ⟨_, rfl⟩
                rw [hK4]
                have f4 : ∀ a, a ≠ 6603 → K4 a = K3 a := fun a ha => by rw [← hK4, hs_ne ha, hs_ne ha]
                have s4 : ∀ s, s ≠ 69 → s ≠ 73 → K4 6603 s = K3 6603 s := fun s a b => by rw [← hK4, hset_v, if_neg (fun w => b w.2), hset_v, if_neg (fun w => a w.2)]
                have k69 : K4 6603 69 = 1 := by rw [← hK4, hset_v, if_neg (by omega), hset_v, if_pos ⟨rfl, rfl⟩]
                have k73 : K4 6603 73 = smU h nx i.toNat + wiU h i (nx i) := by rw [← hK4, hset_v, if_pos ⟨rfl, rfl⟩]
                refine forG (N := (h (h 64 8) 11).toNat) (I := fun j ls h' => ls = [(3, 6603), (0, most), (0, h (h 64 8) 11), (0, h (h 64 8 + 598) 1), (0, plB h), (0, i), (0, perF h (nx i)), (0, rooF h (nx i)), (0, smU h nx i.toNat + wiU h i (nx i)), (0, (j : Int))] ∧ (∀ a, a ≠ 11872 → a ≠ 11936 → h' a = K4 a) ∧ ∀ u, 0 ≤ u → u < (j : Int) → h' 11872 u = perF h (up nx i (nx i + 1) u - 1) ∧ h' 11936 u = rooF h (up nx i (nx i + 1) u - 1)) ?_ ?_ (j := 0) (Nat.zero_le _) ⟨rfl, fun _ _ _ => rfl, fun u a b => by omega⟩
                · rintro j ls h' hj ⟨rfl, fr, vl⟩ n2
                  have jI : 0 ≤ (j : Int) ∧ (j : Int) < h (h 64 8) 11 := by omega
                  have pj := P3 j jI.1 (by omega)
                  have q1 : h' 12064 j = perF h (up nx i (nx i + 1) j - 1) := by rw [fr _ (by decide) (by decide), f4 _ (by decide)]; exact pj.1
                  have q2 : h' 12128 j = rooF h (up nx i (nx i + 1) j - 1) := by rw [fr _ (by decide) (by decide), f4 _ (by decide)]; exact pj.2
                  refine G_in ?_
                  simp (implicitDefEqProofs := false) (disch := omega) only [b421_16, x_aload0, x_gc_11859, x_gc_11867, x_gc_11883, x_gc_11891, x_goto_16, x_iaload, x_iastore, x_if_icmp_ge_17, x_iinc9, x_iload2, x_iload9, klp_0, klp_1, klp_2, klp_3, klp_9, KC_0, KC_1, KC_2, KC_3, KC_4, ne_eq, not_false_eq_true, not_true_eq_false, true_and, and_true, and_self, implies_true, eq_self, true_imp_iff, false_implies, Int.reduceEq, Int.reduceNe, Int.reduceMod, Int.reduceMul, Int.reduceAdd, Int.reduceSub, Int.reduceLT, Int.reduceLE, Nat.reduceAdd, Nat.reduceLeDiff, Nat.reduceLT, Nat.reduceSub, reduceIte, wds_n, wds_0, wds_1, wds_2, wds_3, or_true, true_or, or_false, false_or, or_self, false_and, and_false, d_pos, d_s1, d_s2, d_s3, d_s4, d_s5, d_s6, d_s7, d_s8, Classical.not_not, z6603_74, z11872_l, z6603_75, z11936_l, z6603_77, z12064_l, z6603_78, z12128_l, q1, hs_ne, q2, le_T, le_F, lt_T, lt_F, w32_T]
                  refine n2 _ _ ⟨rfl, fun a a1 a2 => by rw [hs_ne a2, hs_ne a1, fr a a1 a2], fun u a b => ?_⟩
                  rw [hs_ne (by decide), hset_v, hset_v, hs_ne (by decide)]
                  by_cases z : u = j
                  · rw [if_pos ⟨rfl, z⟩, if_pos ⟨rfl, z⟩, z]
                    exact ⟨rfl, rfl⟩
                  · rw [if_neg (fun w => z w.2), if_neg (fun w => z w.2)]
                    exact vl u a (by omega)
                · rintro ls h' ⟨rfl, fr, vl⟩
                  have fA : ∀ a, a ≠ 6603 → a ≠ 11872 → a ≠ 11936 → h' a = K3 a := fun a a1 a2 a3 => by rw [fr a a2 a3, f4 a a1]
                  have f66 : h' 6603 = K4 6603 := fr _ (by decide) (by decide)
                  refine G_in ?_
                  simp (implicitDefEqProofs := false) (disch := omega) only [b421_16, b421_17, b421_19, q421_17, q421_19, x_aload0, x_gc_11859, x_gc_11867, x_gc_11883, x_gc_11891, x_goto_10, x_goto_16, x_goto_19, x_iaload, x_iastore, x_if_icmp_ge_17, x_iinc9, x_iload2, x_iload9, klp_0, klp_1, klp_2, klp_3, klp_9, KC_0, KC_1, KC_2, KC_3, KC_4, ne_eq, not_false_eq_true, not_true_eq_false, true_and, and_true, and_self, implies_true, eq_self, true_imp_iff, false_implies, Int.reduceEq, Int.reduceNe, Int.reduceMod, Int.reduceMul, Int.reduceAdd, Int.reduceSub, Int.reduceLT, Int.reduceLE, Nat.reduceAdd, Nat.reduceLeDiff, Nat.reduceLT, Nat.reduceSub, reduceIte, wds_n, wds_0, wds_1, wds_2, wds_3, or_true, true_or, or_false, false_or, or_self, false_and, and_false, d_pos, d_s1, d_s2, d_s3, d_s4, d_s5, d_s6, d_s7, d_s8, Classical.not_not, le_T, le_F, lt_T, lt_F, w32_T]
                  refine lp421 S hm hN0 f i (nd + 1) 1 _ _ _ h' _ _ _ _ i0 i1 (by omega) (by omega) (by omega) ?_ (fun _ => ⟨⟨fun u a b => by rw [fA _ (by decide) (by decide) (by decide), fA _ (by decide) (by decide) (by decide)]; exact P3 u a (by omega), fun u a b => by rw [fA _ (by decide) (by decide) (by decide)]; exact S3 u a (by omega), fun u a b => by rw [fA _ (by decide) (by decide) (by decide)]; exact T3 u a b⟩, W2, by rw [up_eq]; omega, by rw [up_eq]; omega⟩) hQ
                  obtain ⟨F, z1, z2, z3, z4, z5, z6, z7⟩ := E3
                  refine ⟨⟨fun a q => by rw [fA a q.1 q.2.2.2.2.2.2.2.1 q.2.2.2.2.2.2.2.2]; exact F.1 a q, fun s a b c e g => by rw [f66, s4 s a g]; exact F.2.1 s a b c e g, fun u a b => by rw [fA _ (by decide) (by decide) (by decide)]; exact F.2.2.1 u a b, F.2.2.2⟩, by rw [f66, s4 _ (by decide) (by decide)]; exact z1, by rw [f66]; exact k69, .inr rfl, by rw [f66, s4 _ (by decide) (by decide)]; exact z4, by rw [f66, s4 _ (by decide) (by decide)]; exact z5, fun _ => ⟨by rw [f66]; exact k73, fun u a b => vl u a (by omega)⟩, fun u a b => by rw [fA _ (by decide) (by decide) (by decide)]; exact z7 u a b⟩
            by_cases f0 : fd = 0
            · rw [f1]
              rw [f0] at h69
              exact ⟨fun w => absurd w (by decide), fun _ => ⟨fun _ => goon (fun w => w.1 f0) _, fun w => absurd h69 w⟩⟩
            · have g73 : K2 6603 73 = bw := (E2.2.2.2.2.2.2.1 f0).1
              rw [f1]
              refine ⟨fun w => absurd w (by decide), fun _ => ?_⟩
              by_cases q : bw ≤ smU h nx i.toNat + wiU h i (nx i) + leU h (i + 1)
              · simp (implicitDefEqProofs := false) (disch := omega) only [b421_14, q421_14, x_aload0, y_call423, x_dup0, x_dup3, x_gc_11811, x_gc_11875, x_gc_11899, x_gc_11907, x_gc_11915, x_gf_11820, x_gf_11840, x_gf_11848, x_goto_15, x_iadd, x_iaload, x_iconst, x_idiv, x_ifCond_eq_15, x_ifCond_eq_19, x_if_icmp_ge_19, x_iload3, x_iload5, x_iload6, x_iload7, x_iload8, x_imul, x_irem, x_istore6, x_istore7, x_istore8, x_pf_11840, klp_0, klp_1, klp_2, klp_3, klp_9, KC_0, KC_1, KC_2, KC_3, KC_4, ne_eq, not_false_eq_true, not_true_eq_false, true_and, and_true, and_self, implies_true, eq_self, true_imp_iff, false_implies, Int.reduceEq, Int.reduceNe, Int.reduceMod, Int.reduceMul, Int.reduceAdd, Int.reduceSub, Int.reduceLT, Int.reduceLE, Nat.reduceAdd, Nat.reduceLeDiff, Nat.reduceLT, Nat.reduceSub, reduceIte, wds_n, wds_0, wds_1, wds_2, wds_3, or_true, true_or, or_false, false_or, or_self, false_and, and_false, d_pos, d_s1, d_s2, d_s3, d_s4, d_s5, d_s6, d_s7, d_s8, Classical.not_not, h69, f0, z6603_80, z12256_l, leE, g73, le_T, le_F, lt_T, lt_F, w32_T]
                refine G_in ?_
                simp (implicitDefEqProofs := false) (disch := omega) only [b421_19, q421_19, x_goto_10, klp_0, klp_1, klp_2, klp_3, klp_9, KC_0, KC_1, KC_2, KC_3, KC_4, ne_eq, not_false_eq_true, not_true_eq_false, true_and, and_true, and_self, implies_true, eq_self, true_imp_iff, false_implies, Int.reduceEq, Int.reduceNe, Int.reduceMod, Int.reduceMul, Int.reduceAdd, Int.reduceSub, Int.reduceLT, Int.reduceLE, Nat.reduceAdd, Nat.reduceLeDiff, Nat.reduceLT, Nat.reduceSub, reduceIte, wds_n, wds_0, wds_1, wds_2, wds_3, or_true, true_or, or_false, false_or, or_self, false_and, and_false, d_pos, d_s1, d_s2, d_s3, d_s4, d_s5, d_s6, d_s7, d_s8, Classical.not_not]
                exact stay (.inr ⟨f0, q⟩) _ _ _ _
              · simp (implicitDefEqProofs := false) (disch := omega) only [b421_14, q421_14, x_aload0, y_call423, x_dup0, x_dup3, x_gc_11811, x_gc_11875, x_gc_11899, x_gc_11907, x_gc_11915, x_gf_11820, x_gf_11840, x_gf_11848, x_goto_15, x_iadd, x_iaload, x_iconst, x_idiv, x_ifCond_eq_15, x_ifCond_eq_19, x_if_icmp_ge_19, x_iload3, x_iload5, x_iload6, x_iload7, x_iload8, x_imul, x_irem, x_istore6, x_istore7, x_istore8, x_pf_11840, klp_0, klp_1, klp_2, klp_3, klp_9, KC_0, KC_1, KC_2, KC_3, KC_4, ne_eq, not_false_eq_true, not_true_eq_false, true_and, and_true, and_self, implies_true, eq_self, true_imp_iff, false_implies, Int.reduceEq, Int.reduceNe, Int.reduceMod, Int.reduceMul, Int.reduceAdd, Int.reduceSub, Int.reduceLT, Int.reduceLE, Nat.reduceAdd, Nat.reduceLeDiff, Nat.reduceLT, Nat.reduceSub, reduceIte, wds_n, wds_0, wds_1, wds_2, wds_3, or_true, true_or, or_false, false_or, or_self, false_and, and_false, d_pos, d_s1, d_s2, d_s3, d_s4, d_s5, d_s6, d_s7, d_s8, Classical.not_not, h69, f0, z6603_80, z12256_l, leE, g73, le_T, le_F, lt_T, lt_F, w32_T]
                exact goon (fun w => q w.2) _
