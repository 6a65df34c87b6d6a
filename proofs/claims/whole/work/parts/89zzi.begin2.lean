/-! THE PURE SIDE, 131: a run begins on both sides: printed by wip/tools/gen89zzi.py -/
def l8F (nm k : Int) : AV := if k = 0 then (9, 0) else if k ≤ nm then (0, 1) else (0, 0)
theorem l8_1 {nm k : Int} (h0 : 0 ≤ k) (h : k < nm) : l8F nm (k + 1) = (0, 1) := by
  unfold l8F
  rw [if_neg (by omega), if_pos (by omega)]
theorem l8_2 {nm k : Int} (h0 : 0 ≤ k) (h : ¬ k < nm) : l8F nm (k + 1) = (0, 0) := by
  unfold l8F
  rw [if_neg (by omega), if_neg (by omega)]
theorem v382b {d : Nat} {h : HV} {Q : Int → HV → Prop} {q most a b c e : Int} {nm sl : Int} (hS : TR (h 6603 9)) (hq : 0 ≤ q ∧ q < 12) (hf : ¬ h 6603 55 = 10000) (en : h (h 6603 9 + 788) q = nm) (el : h (h 6603 9 + 852) q = sl) (hn : 0 ≤ nm ∧ nm ≤ sl ∧ sl ≤ 420)
    (g : G fz1 (d + 1) 382 13 [(3, 6603), (0, q), (0, most), (0, a), (0, b), (0, c), (0, e), (0, sl), l8F nm sl] [] (hset (hset (tldH (bgR h most) nm a b c e sl) 6603 52 (h (h 6603 9 + 916) q)) 6603 56 1) Q) : Sp fz1 (d + 1) 382 [(3, 6603), (0, q), (0, most), (0, a), (0, b), (0, c), (0, e)] h Q := by
  simp (implicitDefEqProofs := false) (disch := omega) only [sp382, b382_0, b382_1, b382_2, b382_3, b382_4, b382_5, b382_6, b382_7, b382_8, b382_9, b382_10, b382_11, b382_12, b382_13, b382_14, q382_1, q382_3, q382_4, q382_5, q382_6, q382_7, q382_8, q382_9, q382_10, q382_11, q382_12, q382_14, x_aload0, x_bipush, y_call383, x_gc_11563, x_gc_11571, x_gc_11603, x_gc_11611, x_gc_12379, x_gc_12387, x_gc_12395, x_gf_11339, x_gf_11704, x_gf_11716, x_gf_11720, x_goto_11, x_goto_13, x_goto_2, x_goto_4, x_goto_6, x_i2l, x_iaload, x_iastore, x_iconst, x_ifCond_eq_14, x_ifCond_eq_5, x_ifCond_ne_7, x_ifCond_ne_8, x_if_icmp_ge_12, x_if_icmp_ge_3, x_if_icmp_ne_1, x_if_icmp_ne_10, x_if_icmp_ne_9, x_iinc7, x_iload1, x_iload2, x_iload3, x_iload4, x_iload5, x_iload6, x_iload7, x_iload8, x_ireturn, x_istore7, x_istore8, x_lastore, x_pf_11552, x_pf_11592, x_pf_11616, x_pf_11680, x_pf_11688, x_pf_11696, x_pf_11716, x_pf_11720, x_pf_11728, x_pf_11737, klp_0, klp_1, klp_2, klp_3, klp_9, KC_0, KC_1, KC_2, KC_3, KC_4, ne_eq, not_false_eq_true, not_true_eq_false, true_and, and_true, and_self, implies_true, eq_self, true_imp_iff, false_implies, Int.reduceEq, Int.reduceNe, Int.reduceMod, Int.reduceMul, Int.reduceAdd, Int.reduceSub, Int.reduceLT, Int.reduceLE, Nat.reduceAdd, Nat.reduceLeDiff, Nat.reduceLT, Nat.reduceSub, reduceIte, wds_n, wds_0, wds_1, wds_2, wds_3, or_true, true_or, or_false, false_or, or_self, false_and, and_false, d_pos, d_s1, d_s2, d_s3, d_s4, d_s5, d_s6, d_s7, d_s8, Classical.not_not, z6603_37, z10592_l, z6603_38, z10657_l, z6603_42, z10848_l, z6603_43, z10912_l, r11 hS, r11l hS, r11k hS, r12 hS, r12l hS, r12k hS, r13 hS, r13l hS, r13k hS, TR_0 hS, TR_k hS, hs_ne, hcell, hcel1, hf, le_sub1, le_T, le_F, lt_T, lt_F, eq_F, w32_T, bz0, bz1, lc_le, lc_ge, lc_lt, lc_gt, lc_eq]
  generalize eH : (hset (hset (hset (hset (hset (hset (hset (hset (hset h 6603 54 most) 6603 53 0) 6603 36 0) 6603 44 0) 6603 41 1) 10912 0 0) 10848 0 0) 6603 58 0) 6603 59 0) = H
  have kS : (h 6603 9 + 788 ≠ 6603 ∧ h 6603 9 + 852 ≠ 6603 ∧ h 6603 9 + 916 ≠ 6603) ∧ (h 6603 9 + 788 ≠ 10912 ∧ h 6603 9 + 852 ≠ 10912 ∧ h 6603 9 + 916 ≠ 10912) ∧ (h 6603 9 + 788 ≠ 10848 ∧ h 6603 9 + 852 ≠ 10848 ∧ h 6603 9 + 916 ≠ 10848) ∧ (h 6603 9 + 788 ≠ 10592 ∧ h 6603 9 + 852 ≠ 10592 ∧ h 6603 9 + 916 ≠ 10592) ∧ (h 6603 9 + 788 ≠ 10657 ∧ h 6603 9 + 852 ≠ 10657 ∧ h 6603 9 + 916 ≠ 10657) := by rcases hS with w | w <;> omega
  have bH : bgR h most = H := eH
  rw [bH] at g
  have e9 : H 6603 9 = h 6603 9 := by
    rw [← eH]
    simp (implicitDefEqProofs := false) (disch := omega) only [hs_ne, hcell, ne_eq, not_false_eq_true, Int.reduceEq]
  have eo : ∀ x, x ≠ 6603 → x ≠ 10912 → x ≠ 10848 → H x = h x := fun x h1 h2 h3 => by
    rw [← eH, hs_ne h1, hs_ne h1, hs_ne h3, hs_ne h2, hs_ne h1, hs_ne h1, hs_ne h1, hs_ne h1, hs_ne h1]
  have n1 : H (h 6603 9 + 788) = h (h 6603 9 + 788) := eo _ kS.1.1 kS.2.1.1 kS.2.2.1.1
  have n2 : H (h 6603 9 + 852) = h (h 6603 9 + 852) := eo _ kS.1.2.1 kS.2.1.2.1 kS.2.2.1.2.1
  have n3 : H (h 6603 9 + 916) = h (h 6603 9 + 916) := eo _ kS.1.2.2 kS.2.1.2.2 kS.2.2.1.2.2
  clear eH bH
  refine forG (N := sl.toNat) (I := fun k ls h' => ls = [(3, 6603), (0, q), (0, most), (0, a), (0, b), (0, c), (0, e), (0, (k : Int)), l8F nm (k : Int)] ∧ h' = tldH H nm a b c e k) ?_ ?_ (j := 0) (Nat.zero_le _) ⟨rfl, tld_0.symm⟩
  · intro k ls h' hk ⟨e1, e2⟩ cont
    subst e1; subst e2
    rw [q382_2]
    have c0 : (k : Int) < sl := by omega
    have t36 : tldH H nm a b c e k 6603 = H 6603 := tld_ne (by decide) (by decide)
    have u36 : ∀ v w, hset (tldH H nm a b c e k) 10592 v w 6603 = H 6603 := fun v w => by rw [hs_ne (by decide), t36]
    have t1 : tldH H nm a b c e k (h 6603 9 + 788) = h (h 6603 9 + 788) := by rw [tld_ne kS.2.2.2.1.1 kS.2.2.2.2.1, n1]
    have t2 : tldH H nm a b c e k (h 6603 9 + 852) = h (h 6603 9 + 852) := by rw [tld_ne kS.2.2.2.1.2.1 kS.2.2.2.2.2.1, n2]
    have s := tld_s (h := H) (nm := nm) (a := a) (b := b) (c := c) (e := e) (n := k) (by omega)
    by_cases x : (k : Int) < nm
    · rw [if_pos x, if_pos x] at s
      unfold agV at s
      by_cases k0 : (k : Int) = 0
      · rw [if_pos k0] at s
        simp (implicitDefEqProofs := false) (disch := omega) only [b382_2, b382_3, b382_4, b382_5, b382_6, b382_7, b382_8, b382_9, b382_10, b382_11, q382_3, q382_4, q382_5, q382_6, q382_7, q382_8, q382_9, q382_10, q382_11, x_aload0, x_bipush, x_gc_11563, x_gc_11571, x_gc_12379, x_gc_12387, x_gf_11339, x_goto_11, x_goto_2, x_goto_4, x_goto_6, x_i2l, x_iaload, x_iastore, x_iconst, x_ifCond_eq_5, x_ifCond_ne_7, x_ifCond_ne_8, x_if_icmp_ge_12, x_if_icmp_ge_3, x_if_icmp_ne_10, x_if_icmp_ne_9, x_iinc7, x_iload1, x_iload3, x_iload4, x_iload5, x_iload6, x_iload7, x_iload8, x_istore8, x_lastore, klp_0, klp_1, klp_2, klp_3, klp_9, KC_0, KC_1, KC_2, KC_3, KC_4, ne_eq, not_false_eq_true, not_true_eq_false, true_and, and_true, and_self, implies_true, eq_self, true_imp_iff, false_implies, Int.reduceEq, Int.reduceNe, Int.reduceMod, Int.reduceMul, Int.reduceAdd, Int.reduceSub, Int.reduceLT, Int.reduceLE, Nat.reduceAdd, Nat.reduceLeDiff, Nat.reduceLT, Nat.reduceSub, reduceIte, wds_n, wds_0, wds_1, wds_2, wds_3, or_true, true_or, or_false, false_or, or_self, false_and, and_false, d_pos, d_s1, d_s2, d_s3, d_s4, d_s5, d_s6, d_s7, d_s8, Classical.not_not, z6603_37, z10592_l, z6603_38, z10657_l, z6603_42, z10848_l, z6603_43, z10912_l, r11 hS, r11l hS, r11k hS, r12 hS, r12l hS, r12k hS, r13 hS, r13l hS, r13k hS, TR_0 hS, TR_k hS, hs_ne, hcell, hcel1, t36, u36, e9, t1, t2, en, el, c0, x, eq_true k0, le_sub1, le_T, le_F, lt_T, lt_F, eq_F, w32_T, bz0, bz1, lc_le, lc_ge, lc_lt, lc_gt, lc_eq]
        refine cont _ _ ⟨by rw [show ((k + 1 : Nat) : Int) = (k : Int) + 1 by omega, l8_1 (by omega) x], ?_⟩
        rw [show ((k + 1 : Nat) : Int) = (k : Int) + 1 by omega, ← s]
      rw [if_neg k0] at s
      by_cases k1 : (k : Int) = 1
      · rw [if_pos k1] at s
        simp (implicitDefEqProofs := false) (disch := omega) only [b382_2, b382_3, b382_4, b382_5, b382_6, b382_7, b382_8, b382_9, b382_10, b382_11, q382_3, q382_4, q382_5, q382_6, q382_7, q382_8, q382_9, q382_10, q382_11, x_aload0, x_bipush, x_gc_11563, x_gc_11571, x_gc_12379, x_gc_12387, x_gf_11339, x_goto_11, x_goto_2, x_goto_4, x_goto_6, x_i2l, x_iaload, x_iastore, x_iconst, x_ifCond_eq_5, x_ifCond_ne_7, x_ifCond_ne_8, x_if_icmp_ge_12, x_if_icmp_ge_3, x_if_icmp_ne_10, x_if_icmp_ne_9, x_iinc7, x_iload1, x_iload3, x_iload4, x_iload5, x_iload6, x_iload7, x_iload8, x_istore8, x_lastore, klp_0, klp_1, klp_2, klp_3, klp_9, KC_0, KC_1, KC_2, KC_3, KC_4, ne_eq, not_false_eq_true, not_true_eq_false, true_and, and_true, and_self, implies_true, eq_self, true_imp_iff, false_implies, Int.reduceEq, Int.reduceNe, Int.reduceMod, Int.reduceMul, Int.reduceAdd, Int.reduceSub, Int.reduceLT, Int.reduceLE, Nat.reduceAdd, Nat.reduceLeDiff, Nat.reduceLT, Nat.reduceSub, reduceIte, wds_n, wds_0, wds_1, wds_2, wds_3, or_true, true_or, or_false, false_or, or_self, false_and, and_false, d_pos, d_s1, d_s2, d_s3, d_s4, d_s5, d_s6, d_s7, d_s8, Classical.not_not, z6603_37, z10592_l, z6603_38, z10657_l, z6603_42, z10848_l, z6603_43, z10912_l, r11 hS, r11l hS, r11k hS, r12 hS, r12l hS, r12k hS, r13 hS, r13l hS, r13k hS, TR_0 hS, TR_k hS, hs_ne, hcell, hcel1, t36, u36, e9, t1, t2, en, el, c0, x, k0, eq_true k1, le_sub1, le_T, le_F, lt_T, lt_F, eq_F, w32_T, bz0, bz1, lc_le, lc_ge, lc_lt, lc_gt, lc_eq]
        refine cont _ _ ⟨by rw [show ((k + 1 : Nat) : Int) = (k : Int) + 1 by omega, l8_1 (by omega) x], ?_⟩
        rw [show ((k + 1 : Nat) : Int) = (k : Int) + 1 by omega, ← s]
      rw [if_neg k1] at s
      by_cases k2 : (k : Int) = 2
      · rw [if_pos k2] at s
        simp (implicitDefEqProofs := false) (disch := omega) only [b382_2, b382_3, b382_4, b382_5, b382_6, b382_7, b382_8, b382_9, b382_10, b382_11, q382_3, q382_4, q382_5, q382_6, q382_7, q382_8, q382_9, q382_10, q382_11, x_aload0, x_bipush, x_gc_11563, x_gc_11571, x_gc_12379, x_gc_12387, x_gf_11339, x_goto_11, x_goto_2, x_goto_4, x_goto_6, x_i2l, x_iaload, x_iastore, x_iconst, x_ifCond_eq_5, x_ifCond_ne_7, x_ifCond_ne_8, x_if_icmp_ge_12, x_if_icmp_ge_3, x_if_icmp_ne_10, x_if_icmp_ne_9, x_iinc7, x_iload1, x_iload3, x_iload4, x_iload5, x_iload6, x_iload7, x_iload8, x_istore8, x_lastore, klp_0, klp_1, klp_2, klp_3, klp_9, KC_0, KC_1, KC_2, KC_3, KC_4, ne_eq, not_false_eq_true, not_true_eq_false, true_and, and_true, and_self, implies_true, eq_self, true_imp_iff, false_implies, Int.reduceEq, Int.reduceNe, Int.reduceMod, Int.reduceMul, Int.reduceAdd, Int.reduceSub, Int.reduceLT, Int.reduceLE, Nat.reduceAdd, Nat.reduceLeDiff, Nat.reduceLT, Nat.reduceSub, reduceIte, wds_n, wds_0, wds_1, wds_2, wds_3, or_true, true_or, or_false, false_or, or_self, false_and, and_false, d_pos, d_s1, d_s2, d_s3, d_s4, d_s5, d_s6, d_s7, d_s8, Classical.not_not, z6603_37, z10592_l, z6603_38, z10657_l, z6603_42, z10848_l, z6603_43, z10912_l, r11 hS, r11l hS, r11k hS, r12 hS, r12l hS, r12k hS, r13 hS, r13l hS, r13k hS, TR_0 hS, TR_k hS, hs_ne, hcell, hcel1, t36, u36, e9, t1, t2, en, el, c0, x, k0, k1, eq_true k2, le_sub1, le_T, le_F, lt_T, lt_F, eq_F, w32_T, bz0, bz1, lc_le, lc_ge, lc_lt, lc_gt, lc_eq]
        refine cont _ _ ⟨by rw [show ((k + 1 : Nat) : Int) = (k : Int) + 1 by omega, l8_1 (by omega) x], ?_⟩
        rw [show ((k + 1 : Nat) : Int) = (k : Int) + 1 by omega, ← s]
      rw [if_neg k2] at s
      simp (implicitDefEqProofs := false) (disch := omega) only [b382_2, b382_3, b382_4, b382_5, b382_6, b382_7, b382_8, b382_9, b382_10, b382_11, q382_3, q382_4, q382_5, q382_6, q382_7, q382_8, q382_9, q382_10, q382_11, x_aload0, x_bipush, x_gc_11563, x_gc_11571, x_gc_12379, x_gc_12387, x_gf_11339, x_goto_11, x_goto_2, x_goto_4, x_goto_6, x_i2l, x_iaload, x_iastore, x_iconst, x_ifCond_eq_5, x_ifCond_ne_7, x_ifCond_ne_8, x_if_icmp_ge_12, x_if_icmp_ge_3, x_if_icmp_ne_10, x_if_icmp_ne_9, x_iinc7, x_iload1, x_iload3, x_iload4, x_iload5, x_iload6, x_iload7, x_iload8, x_istore8, x_lastore, klp_0, klp_1, klp_2, klp_3, klp_9, KC_0, KC_1, KC_2, KC_3, KC_4, ne_eq, not_false_eq_true, not_true_eq_false, true_and, and_true, and_self, implies_true, eq_self, true_imp_iff, false_implies, Int.reduceEq, Int.reduceNe, Int.reduceMod, Int.reduceMul, Int.reduceAdd, Int.reduceSub, Int.reduceLT, Int.reduceLE, Nat.reduceAdd, Nat.reduceLeDiff, Nat.reduceLT, Nat.reduceSub, reduceIte, wds_n, wds_0, wds_1, wds_2, wds_3, or_true, true_or, or_false, false_or, or_self, false_and, and_false, d_pos, d_s1, d_s2, d_s3, d_s4, d_s5, d_s6, d_s7, d_s8, Classical.not_not, z6603_37, z10592_l, z6603_38, z10657_l, z6603_42, z10848_l, z6603_43, z10912_l, r11 hS, r11l hS, r11k hS, r12 hS, r12l hS, r12k hS, r13 hS, r13l hS, r13k hS, TR_0 hS, TR_k hS, hs_ne, hcell, hcel1, t36, u36, e9, t1, t2, en, el, c0, x, k0, k1, k2, le_sub1, le_T, le_F, lt_T, lt_F, eq_F, w32_T, bz0, bz1, lc_le, lc_ge, lc_lt, lc_gt, lc_eq]
      refine cont _ _ ⟨by rw [show ((k + 1 : Nat) : Int) = (k : Int) + 1 by omega, l8_1 (by omega) x], ?_⟩
      rw [show ((k + 1 : Nat) : Int) = (k : Int) + 1 by omega, ← s]
    · rw [if_neg x, if_neg x] at s
      simp (implicitDefEqProofs := false) (disch := omega) only [b382_2, b382_3, b382_4, b382_5, b382_6, b382_7, b382_8, b382_9, b382_10, b382_11, q382_3, q382_4, q382_5, q382_6, q382_7, q382_8, q382_9, q382_10, q382_11, x_aload0, x_bipush, x_gc_11563, x_gc_11571, x_gc_12379, x_gc_12387, x_gf_11339, x_goto_11, x_goto_2, x_goto_4, x_goto_6, x_i2l, x_iaload, x_iastore, x_iconst, x_ifCond_eq_5, x_ifCond_ne_7, x_ifCond_ne_8, x_if_icmp_ge_12, x_if_icmp_ge_3, x_if_icmp_ne_10, x_if_icmp_ne_9, x_iinc7, x_iload1, x_iload3, x_iload4, x_iload5, x_iload6, x_iload7, x_iload8, x_istore8, x_lastore, klp_0, klp_1, klp_2, klp_3, klp_9, KC_0, KC_1, KC_2, KC_3, KC_4, ne_eq, not_false_eq_true, not_true_eq_false, true_and, and_true, and_self, implies_true, eq_self, true_imp_iff, false_implies, Int.reduceEq, Int.reduceNe, Int.reduceMod, Int.reduceMul, Int.reduceAdd, Int.reduceSub, Int.reduceLT, Int.reduceLE, Nat.reduceAdd, Nat.reduceLeDiff, Nat.reduceLT, Nat.reduceSub, reduceIte, wds_n, wds_0, wds_1, wds_2, wds_3, or_true, true_or, or_false, false_or, or_self, false_and, and_false, d_pos, d_s1, d_s2, d_s3, d_s4, d_s5, d_s6, d_s7, d_s8, Classical.not_not, z6603_37, z10592_l, z6603_38, z10657_l, z6603_42, z10848_l, z6603_43, z10912_l, r11 hS, r11l hS, r11k hS, r12 hS, r12l hS, r12k hS, r13 hS, r13l hS, r13k hS, TR_0 hS, TR_k hS, hs_ne, hcell, hcel1, t36, u36, e9, t1, t2, en, el, c0, x, le_sub1, le_T, le_F, lt_T, lt_F, eq_F, w32_T, bz0, bz1, lc_le, lc_ge, lc_lt, lc_gt, lc_eq]
      refine cont _ _ ⟨by rw [show ((k + 1 : Nat) : Int) = (k : Int) + 1 by omega, l8_2 (by omega) x], ?_⟩
      rw [show ((k + 1 : Nat) : Int) = (k : Int) + 1 by omega, ← s]
  · intro ls h' ⟨e1, e2⟩
    subst e1; subst e2
    rw [show ((sl.toNat : Nat) : Int) = sl by omega]
    rw [q382_2]
    have t36 : tldH H nm a b c e sl 6603 = H 6603 := tld_ne (by decide) (by decide)
    have t2 : tldH H nm a b c e sl (h 6603 9 + 852) = h (h 6603 9 + 852) := by rw [tld_ne kS.2.2.2.1.2.1 kS.2.2.2.2.2.1, n2]
    have t3 : tldH H nm a b c e sl (h 6603 9 + 916) = h (h 6603 9 + 916) := by rw [tld_ne kS.2.2.2.1.2.2 kS.2.2.2.2.2.2, n3]
    simp (implicitDefEqProofs := false) (disch := omega) only [b382_2, b382_12, q382_12, x_aload0, x_gc_12379, x_gc_12387, x_gc_12395, x_gf_11339, x_goto_13, x_goto_4, x_iaload, x_iconst, x_if_icmp_ge_12, x_if_icmp_ge_3, x_iload1, x_iload7, x_pf_11680, x_pf_11716, klp_0, klp_1, klp_2, klp_3, klp_9, KC_0, KC_1, KC_2, KC_3, KC_4, ne_eq, not_false_eq_true, not_true_eq_false, true_and, and_true, and_self, implies_true, eq_self, true_imp_iff, false_implies, Int.reduceEq, Int.reduceNe, Int.reduceMod, Int.reduceMul, Int.reduceAdd, Int.reduceSub, Int.reduceLT, Int.reduceLE, Nat.reduceAdd, Nat.reduceLeDiff, Nat.reduceLT, Nat.reduceSub, reduceIte, wds_n, wds_0, wds_1, wds_2, wds_3, or_true, true_or, or_false, false_or, or_self, false_and, and_false, d_pos, d_s1, d_s2, d_s3, d_s4, d_s5, d_s6, d_s7, d_s8, Classical.not_not, z6603_37, z10592_l, z6603_38, z10657_l, z6603_42, z10848_l, z6603_43, z10912_l, r11 hS, r11l hS, r11k hS, r12 hS, r12l hS, r12k hS, r13 hS, r13l hS, r13k hS, TR_0 hS, TR_k hS, hs_ne, hcell, hcel1, t36, e9, t2, t3, el, Int.lt_irrefl, le_sub1, le_T, le_F, lt_T, lt_F, eq_F, w32_T, bz0, bz1, lc_le, lc_ge, lc_lt, lc_gt, lc_eq]
    exact g
theorem agV_I {a b c e k : Int} (ha : I32 a) (hb : I32 b) (hc : I32 c) (he : I32 e) : I32 (agV a b c e k) := by
  unfold agV
  split
  · exact ha
  · split
    · exact hb
    · split
      · exact hc
      · exact he
section VM
variable {K h hr : HV} {q most a b c e : Int}
theorem run_R2 {d : Nat} (N : ENV K h hr) (S : STA h hr h hr) (h15 : h 1157 15 = hr 6603 55 ∧ 0 ≤ h 1157 15 ∧ h 1157 15 ≤ 10000) (hq : 0 ≤ q ∧ q < K 12 0) (hm : 1 ≤ most ∧ most ≤ 3000) (ia : I32 a) (ib : I32 b) (ic : I32 c) (ie : I32 e) :
    R2 (fun P => Sp fz1 (d + 8) 166 [(3, 1157), (0, q), (0, most), (0, a), (0, b), (0, c), (0, e)] h P) (fun P => Sp fz1 (d + 8) 382 [(3, 6603), (0, q), (0, most), (0, a), (0, b), (0, c), (0, e)] hr P) (POST h hr) := by
  have O := N.1
  have V := S.2.2.1
  have ar := V.ar
  have q12 : 0 ≤ q ∧ q < 12 := by have := O.1; omega
  have cc := N.2.2.2.1.2 _ hq.1 hq.2
  have cr := N.2.2.2.2.2.2.2.2.1.2 _ hq.1 hq.2
  have c6 := N.2.2.2.1.1
  obtain ⟨hT, hl, hK⟩ := N.cd
  have hS := N.S
  have kq := O.2 q hq.1 hq.2
  by_cases f : h 1157 15 = 10000
  · -- no failure is left
    have C1 : CCG h (hset h 1157 17 0) := cg_set V (by decide) (by decide) (fun _ => by decide)
    have C2 := C1.tr (cg_set (o := 1157) (i := 16) (v := most) (C1.V V) (by decide) (by decide) (fun _ => by decide))
    have C := C2.tr (cg_set (o := 1157) (i := 20) (v := 0) (C2.V V) (by decide) (by decide) (fun _ => by decide))
    have R : RCG hr (hset (bgR hr most) 6603 57 (-23)) := by
      unfold bgR
      exact (((((((((rg_set (.inr ⟨rfl, by decide⟩)).tr (rg_set (.inr ⟨rfl, by decide⟩))).tr (rg_set (.inr ⟨rfl, by decide⟩))).tr (rg_set (.inr ⟨rfl, by decide⟩))).tr (rg_set (.inr ⟨rfl, by decide⟩))).tr (rg_set (.inl (by decide)))).tr (rg_set (.inl (by decide)))).tr (rg_set (.inr ⟨rfl, by decide⟩))).tr (rg_set (.inr ⟨rfl, by decide⟩))).tr (rg_set (.inr ⟨rfl, by decide⟩))
    refine R2_eq (fun P => s166f (d := d + 7) f) (fun P => v382s (d := d + 7) (by omega)) (R2_fin ⟨rfl, hcel1, S.cg C R, ?_, ?_, .inl ⟨by decide, hcel1, ?_, ?_⟩⟩)
    · unfold bgR
      rw [hcell (by decide), hcell (by decide), hcel1, hcell (by decide), hcell (by decide), hcell (by decide), hs_ne (by decide), hs_ne (by decide), hcell (by decide), hcell (by decide), hcell (by decide), hcel1]
      omega
    · unfold bgR
      rw [hcell (by decide), hcell (by decide), hcell (by decide), hcell (by decide), hcell (by decide), hcell (by decide), hs_ne (by decide), hs_ne (by decide), hcell (by decide), hcell (by decide), hcell (by decide), hcell (by decide), hcell (by decide)]
      exact h15
    · unfold bgR
      rw [hcell (by decide), hcell (by decide), hcel1]
    · unfold bgR
      rw [hcell (by decide), hcel1]
  · -- the class
    have C1 : CCG h (hset h 1157 17 0) := cg_set V (by decide) (by decide) (fun _ => by decide)
    have C2 := C1.tr (cg_set (o := 1157) (i := 16) (v := most) (C1.V V) (by decide) (by decide) (fun _ => by decide))
    have C3 := C2.tr (cg_set (o := 1157) (i := 20) (v := 0) (C2.V V) (by decide) (by decide) (fun _ => by decide))
    have C4 := C3.tr (cg_set (o := 1157) (i := 19) (v := 100) (C3.V V) (by decide) (by decide) (fun _ => by decide))
    have C5 := C4.tr (cg_set (o := 1157) (i := 18) (v := 0) (C4.V V) (by decide) (by decide) (fun _ => by decide))
    have C6 := C5.tr (cg_set (o := 1157) (i := 8) (v := 0) (C5.V V) (by decide) (by decide) (fun _ => by decide))
    have C7 := C6.tr (cg_set (o := 1157) (i := 5) (v := -1) (C6.V V) (by decide) (by decide) (fun _ => by decide))
    have V7 := C7.V V
    have z7 := cut_3 (m := hset (hset (hset (hset (hset (hset (hset h 1157 17 0) 1157 16 most) 1157 20 0) 1157 19 100) 1157 18 0) 1157 8 0) 1157 5 (-1) 1222 2) V7 ⟨V7.2.2.2.1.1, Int.le_refl _⟩
    rw [Int.sub_self] at z7
    have eb : cutH (hset (hset (hset (hset (hset (hset (hset h 1157 17 0) 1157 16 most) 1157 20 0) 1157 19 100) 1157 18 0) 1157 8 0) 1157 5 (-1)) 0 = bgC h most := rfl
    rw [eb] at z7
    have Cb : CCG h (bgC h most) := C7.tr z7.1
    have Vb := Cb.V V
    have b12 := z7.2.1
    have bs : ∀ s, bgC h most 1157 s = hset (hset (hset (hset (hset (hset (hset h 1157 17 0) 1157 16 most) 1157 20 0) 1157 19 100) 1157 18 0) 1157 8 0) 1157 5 (-1) 1157 s := fun s => by rw [z7.2.2.2.2 1157 (by decide)]
    have b17 : bgC h most 1157 17 = 0 := by rw [bs, hcell (by decide), hcell (by decide), hcell (by decide), hcell (by decide), hcell (by decide), hcell (by decide), hcel1]
    have b16 : bgC h most 1157 16 = most := by rw [bs, hcell (by decide), hcell (by decide), hcell (by decide), hcell (by decide), hcell (by decide), hcel1]
    have b20 : bgC h most 1157 20 = 0 := by rw [bs, hcell (by decide), hcell (by decide), hcell (by decide), hcell (by decide), hcel1]
    have b19 : bgC h most 1157 19 = 100 := by rw [bs, hcell (by decide), hcell (by decide), hcell (by decide), hcel1]
    have b18 : bgC h most 1157 18 = 0 := by rw [bs, hcell (by decide), hcell (by decide), hcel1]
    have b8 : bgC h most 1157 8 = 0 := by rw [bs, hcell (by decide), hcel1]
    have b5 : bgC h most 1157 5 = -1 := by rw [bs, hcel1]
    have b15 : bgC h most 1157 15 = h 1157 15 := by rw [bs, hcell (by decide), hcell (by decide), hcell (by decide), hcell (by decide), hcell (by decide), hcell (by decide), hcell (by decide)]
    have RV := S.2.2.2.2.2.2.1
    unfold RVl at RV
    rw [mx_c (show ¬ (6603 ≤ (1222 : Int) ∧ (1222 : Int) < 13056) by decide), mx_c (show ¬ (6603 ≤ h 1222 0 ∧ h 1222 0 < 13056) by omega)] at RV
    have l256 : 256 ≤ cK (bgC h most) (-1) := by rw [Cb.2.2.2.1.1]; exact RV.2.2.2.2.1.1
    have ps := psN_2 (a := a) (b := b) (c := c) (e := e) Vb b12 l256 (K 8 q).toNat (by omega)
    obtain ⟨Cp, p2, pK, pB, po⟩ := ps
    have ek8 : (((K 8 q).toNat : Nat) : Int) = K 8 q := by omega
    rw [ek8] at p2 pK pB
    have eqC : ∀ P : Int → HV → Prop, Sp fz1 (d + 8) 166 [(3, 1157), (0, q), (0, most), (0, a), (0, b), (0, c), (0, e)] h P = Sp fz1 (d + 7) 169 [(3, 1157), (0, q), (0, K 8 q)] (psN (bgC h most) a b c e (K 8 q).toNat) (fun _ h1 => LPC d (0, q) (0, most) (0, a) (0, b) (0, c) (0, e) (K 8 q) 0 h1 P) := fun P =>
      (s166p (d := d + 6) hT (by omega) ⟨hq.1, q12.2, by rw [c6]; exact hq.2⟩ cc.2.1).trans (s166l Vb b12 l256 (by omega))
    have CH := Cb.tr Cp
    have VH := CH.V V
    have arb := Vb.ar
    have pm : ∀ o, 1440 ≤ o → o ≤ 1926 → psN (bgC h most) a b c e (K 8 q).toNat o = bgC h most o := fun o u v => po o (by omega) (by omega) (by omega)
    have p57 : psN (bgC h most) a b c e (K 8 q).toNat 1157 = bgC h most 1157 := po 1157 (by decide) (by omega) (by omega)
    generalize psN (bgC h most) a b c e (K 8 q).toNat = H at *
    have S1 : STA h hr H hr := S.cg CH RCG.id
    have N1 := S1.env N
    obtain ⟨hT1, hl1, -⟩ := N1.cd
    have cc1 := N1.2.2.2.1.2 _ hq.1 hq.2
    have lH : 256 ≤ H (H 1222 0) (-1) := by
      have u := CH.2.2.2.1.1
      unfold cK at u
      rw [u]
      exact RV.2.2.2.2.1.1
    obtain ⟨h1, EN, e1⟩ := Sp_ex (d := d + 7) (m := 169) (as := [(3, 1157), (0, q), (0, K 8 q)]) (h := H) (P := fun h1 => ENT H h1 (H (H 1157 3 + 1238) q) (H (H 1157 3 + 1366) q - K 8 q) (K 8 q)) (s169 (d := d + 5) VH hT1 (by rw [N1.2.2.2.1.1]; omega) (by rw [p57, b5]; decide) (by omega) (by rw [cc1.2.2]; omega) (by omega) lH (fun h1 EN => ⟨rfl, EN⟩))
    rw [cc1.1, cc1.2.2] at EN
    obtain ⟨V1, x2, x3, x4, x5, x6, x7, x8, x9, x10, x11, x12, x13, x14, x15, x16, x17, x18⟩ := EN
    rw [p57] at x13 x15 x16 x17 x18
    rw [b5] at x15 x16 x17 x18
    -- the reference
    generalize eR : hset (hset (tldH (bgR hr most) (K 8 q) a b c e (K 7 q)) 6603 52 (hr (hr 6603 9 + 916) q)) 6603 56 1 = HR
    have eqR : ∀ P : Int → HV → Prop, LPR d q most a b c e (0, K 7 q) (l8F (K 8 q) (K 7 q)) HR P → Sp fz1 (d + 8) 382 [(3, 6603), (0, q), (0, most), (0, a), (0, b), (0, c), (0, e)] hr P := fun P g => by
      refine v382b (d := d + 7) hS q12 (by omega) cr.1 cr.2.1 (by omega) ?_
      rw [eR]
      exact g
    have tb : ∀ s, HR 6603 s = hset (hset (bgR hr most) 6603 52 (hr (hr 6603 9 + 916) q)) 6603 56 1 6603 s := fun s => by
      rw [← eR]
      by_cases u : s = 56
      · subst u; rw [hcel1, hcel1]
      · rw [hcell u, hcell u]
        by_cases v : s = 52
        · subst v; rw [hcel1, hcel1]
        · rw [hcell v, hcell v, tld_ne (by decide) (by decide)]
    have to : ∀ o, o ≠ 6603 → o ≠ 10592 → o ≠ 10657 → HR o = bgR hr most o := fun o u v w => by rw [← eR, hs_ne u, hs_ne u, tld_ne v w]
    have r36 : HR 6603 36 = 0 := by rw [tb]; unfold bgR; rw [hcell (by decide), hcell (by decide), hcell (by decide), hcell (by decide), hs_ne (by decide), hs_ne (by decide), hcell (by decide), hcell (by decide), hcel1]
    have r41 : HR 6603 41 = 1 := by rw [tb]; unfold bgR; rw [hcell (by decide), hcell (by decide), hcell (by decide), hcell (by decide), hs_ne (by decide), hs_ne (by decide), hcel1]
    have r44 : HR 6603 44 = 0 := by rw [tb]; unfold bgR; rw [hcell (by decide), hcell (by decide), hcell (by decide), hcell (by decide), hs_ne (by decide), hs_ne (by decide), hcell (by decide), hcel1]
    have r53 : HR 6603 53 = 0 := by rw [tb]; unfold bgR; rw [hcell (by decide), hcell (by decide), hcell (by decide), hcell (by decide), hs_ne (by decide), hs_ne (by decide), hcell (by decide), hcell (by decide), hcell (by decide), hcel1]
    have r54 : HR 6603 54 = most := by rw [tb]; unfold bgR; rw [hcell (by decide), hcell (by decide), hcell (by decide), hcell (by decide), hs_ne (by decide), hs_ne (by decide), hcell (by decide), hcell (by decide), hcell (by decide), hcell (by decide), hcel1]
    have r58 : HR 6603 58 = 0 := by rw [tb]; unfold bgR; rw [hcell (by decide), hcell (by decide), hcell (by decide), hcel1]
    have r59 : HR 6603 59 = 0 := by rw [tb]; unfold bgR; rw [hcell (by decide), hcell (by decide), hcel1]
    have r56 : HR 6603 56 = 1 := by rw [tb, hcel1]
    have r52 : HR 6603 52 = K 10 q := by rw [tb, hcell (by decide), hcel1]; exact cr.2.2
    have rs : ∀ s, s ≠ 36 → s ≠ 41 → s ≠ 44 → ¬ (52 ≤ s ∧ s ≤ 59) → HR 6603 s = hr 6603 s := fun s u1 u2 u3 u4 => by
      rw [tb]
      unfold bgR
      rw [hcell (by omega), hcell (by omega), hcell (by omega), hcell (by omega), hs_ne (by decide), hs_ne (by decide), hcell (by omega), hcell (by omega), hcell (by omega), hcell (by omega), hcell (by omega)]
    have r55 : HR 6603 55 = hr 6603 55 := by
      rw [tb]
      unfold bgR
      rw [hcell (by decide), hcell (by decide), hcell (by decide), hcell (by decide), hs_ne (by decide), hs_ne (by decide), hcell (by decide), hcell (by decide), hcell (by decide), hcell (by decide), hcell (by decide)]
    have r12 : HR 10912 0 = 0 := by
      rw [to 10912 (by decide) (by decide) (by decide)]
      unfold bgR
      rw [hs_ne (by decide), hs_ne (by decide), hs_ne (by decide), hcel1]
    have R : RCG hr HR := by
      refine ⟨fun o u v => ?_, rs⟩
      rw [to o u (by omega) (by omega)]
      unfold bgR
      rw [hs_ne u, hs_ne u, hs_ne (by omega), hs_ne (by omega), hs_ne u, hs_ne u, hs_ne u, hs_ne u, hs_ne u]
    have r92 : ∀ v, 0 ≤ v → v < K 7 q → HR 10592 v = (if v < K 8 q then 1 else 0) ∧ HR 10657 v = (if v < K 8 q then agV a b c e v else 0) := fun v v0 v1 => by
      rw [← eR, hs_ne (by decide), hs_ne (by decide), hs_ne (by decide), hs_ne (by decide)]
      unfold tldH fl2
      refine ⟨?_, ?_⟩
      · rw [if_pos ⟨rfl, v0, v1⟩]
      · rw [if_neg (show ¬ ((10657 : Int) = 10592 ∧ 0 ≤ v ∧ v < K 7 q) from fun w => absurd w.1 (by decide)), if_pos ⟨rfl, v0, v1⟩]
    clear eR tb to
    have S2 : STA h hr h1 HR := by
      refine S1.grow V1 R (fun o u v w w2 w3 => x6 o (by omega) v (by omega) (by omega) (by omega) w w2 w3) (fun s u => ?_) x7 x8 x9 x10 x11 x12
      rw [x13 s (by omega) (by omega), p57]
    obtain ⟨k2, mk⟩ := kq.2.2.2.2 1200800
    have kb := mem_b (by decide) mk
    have mv : STA h hr h1 HR := S2
    have VM1 : VMS K h hr h1 HR 1200800 [(q, [], 0, k2)] := by
      refine ⟨S2, ⟨by show 1 ≤ 1 ∧ 1 ≤ 8; decide, by rw [x15]; rfl, ?_, r36, r41, by rw [x13 8 (by decide) (by decide)]; exact b8, r44, ?_, ?_, ⟨r56, r58, r59⟩, by rw [x13 20 (by decide) (by decide)]; exact b20, by rw [x13 19 (by decide) (by decide)]; exact b19, by rw [x13 18 (by decide) (by decide)]; exact b18⟩, ⟨⟨?_, r12⟩, hq, by show (0 : Int) ≤ 0 ∧ (0 : Int) ≤ 36; decide, by show 0 ≤ 12; decide, ?_, kb.2.1, ?_, fun i a b => absurd (show i < 0 from b) (by omega), trivial, trivial⟩, trivial⟩
      · rw [x5]
        show _ = 0 + (K 7 q + 2 * 0 + 0)
        omega
      · rw [x13 17 (by decide) (by decide), x13 16 (by decide) (by decide), b17, b16, r53, r54]
        omega
      · rw [x13 15 (by decide) (by decide), b15, r55]
        exact h15
      · show h1 1440 0 = 0
        have u := x17
        rw [show (-1 : Int) + 1 = 0 by decide] at u
        rw [u]
        omega
      · show 0 + K 7 q + 64 ≤ cK h1 (-1)
        have u : H 1222 2 + (K 7 q - K 8 q) + 64 ≤ cK h1 (-1) := x2
        omega
      · intro v v0 v1
        have v1 : v < K 7 q := v1
        have m0 := kq.2.1 v v0 v1
        show VVh h1 HR (cK h1 (0 + v)) (cB h1 (0 + v)) (HR 10592 (420 * 0 + K 11 (512 * q + v))) (HR 10657 (420 * 0 + K 11 (512 * q + v)))
        have w := r92 (K 11 (512 * q + v)) m0.1 m0.2
        rw [show (420 : Int) * 0 + K 11 (512 * q + v) = K 11 (512 * q + v) by omega, w.1, w.2, Int.zero_add]
        by_cases u : v < K 8 q
        · have sm := kq.2.2.2.1 v v0 u
          have e3 := x3 v v0 (by omega)
          rw [sm, if_pos u, if_pos u, show cK h1 v = 1 from (e3.1.trans (by have := pK v; unfold cK at this; rw [this, if_pos ⟨v0, u⟩])), show cB h1 v = agV a b c e v from (e3.2.trans (by have := pB v; unfold cB at this; rw [this, if_pos ⟨v0, u⟩]))]
          exact vv_1 (agV_I ia ib ic ie)
        · have sm : ¬ K 11 (512 * q + v) < K 8 q := fun u1 => by
            have u2 := kq.2.2.2.1 (K 11 (512 * q + v)) m0.1 u1
            have := kq.2.2.1 v (K 11 (512 * q + v)) v0 v1 m0.1 m0.2 u2.symm
            omega
          rw [if_neg sm, if_neg sm, show cK h1 v = 0 from x4 v (by omega) (by omega)]
          exact vv_0
    have g := sim_all (g := ((d, (0, q), (0, most), (0, a), (0, b), (0, c), (0, e), K 8 q), (d, q, most, a, b, c, e, (0, K 7 q), l8F (K 8 q) (K 7 q)))) rfl N 1200800 1200800 (Nat.le_refl _) 0 h1 HR [(q, [], 0, k2)] ⟨VM1, fun f m => ?_, ?_, ?_, by decide, by decide⟩
    · exact R2_mono (fun P w => by rw [eqC P, e1]; exact w) (fun P w => eqR P w) g
    · rcases List.mem_cons.mp m with u | u
      · subst u; exact kb.2.2.2.2
      · cases u
    · show MEM K (VS K q) (CLS K) 1200800 _ _ [] 0 k2
      rw [x14, r52]
      exact mk
    · rw [x13 17 (by decide) (by decide), x13 16 (by decide) (by decide), b17, b16]
      show 400 * (most - 0) + (0 + k2) + 1 ≤ 1200800
      have := kb.2.1
      omega
end VM
