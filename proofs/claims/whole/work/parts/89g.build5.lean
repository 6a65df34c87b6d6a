/-! THE PURE SIDE, 77: build, the class's search: printed by wip/tools/gen89g.py -/
theorem k262 {d : Nat} {h K : HV} {Q : Int → HV → Prop} {i nd fd bw : Int} {nx bt : Int → Int} (S : SBd h) (E : RelE h K nd fd bw bt) (M : RelM h K i nx) (N : RelN h K i nx) (W : PWU h nx i) (hi : 0 ≤ i ∧ i < h (h 64 8) 11) (hv : 0 ≤ nx i ∧ nx i < plB h) (hnd : 0 ≤ nd ∧ nd < 10000)
    (qA : (fiK h nx i (nx i) i.toNat = 0 ∨ fd ≠ 0 ∧ bw ≤ smU h nx i.toNat + wiU h i (nx i) + leU h (i + 1)) → ∀ K2, RelE h K2 (nd + 1) fd bw bt → RelM h K2 i (up nx i (nx i + 1)) → RelN h K2 i (up nx i (nx i + 1)) → Q i K2)
    (qB : ¬ (fiK h nx i (nx i) i.toNat = 0 ∨ fd ≠ 0 ∧ bw ≤ smU h nx i.toNat + wiU h i (nx i) + leU h (i + 1)) → i + 1 < h (h 64 8) 11 → PWU h (up (up nx i (nx i + 1)) (i + 1) 0) (i + 1) → ∀ K2, RelE h K2 (nd + 1) fd bw bt → RelM h K2 (i + 1) (up (up nx i (nx i + 1)) (i + 1) 0) → RelN h K2 (i + 1) (up (up nx i (nx i + 1)) (i + 1) 0) → Q (i + 1) K2)
    (qC : ¬ (fiK h nx i (nx i) i.toNat = 0 ∨ fd ≠ 0 ∧ bw ≤ smU h nx i.toNat + wiU h i (nx i) + leU h (i + 1)) → ¬ i + 1 < h (h 64 8) 11 → PWU h (up nx i (nx i + 1)) (i + 1) → ∀ K2, RelE h K2 (nd + 1) 1 (smU h nx i.toNat + wiU h i (nx i)) (fun u => up nx i (nx i + 1) u - 1) → RelM h K2 i (up nx i (nx i + 1)) → RelN h K2 i (up nx i (nx i + 1)) → Q i K2) : Sp fz1 (d + 5) 262 [(3, 1927), (0, i)] K Q := by
  have hT := S.1.1
  have hN := S.2.1.1
  have ub := un_b4 S hi
  have pb := pv_b S hv
  have D := S.2.2.1
  have wb := wi_b S hi hv
  have lb := le_b S (u := i + 1) (by omega)
  have sb := sm_b S (nx := nx) i.toNat (by omega) (fun u a b => W.1 u a (by omega))
  have p20 : 0 ≤ perF h (nx i) ∧ perF h (nx i) < 20 := by omega
  have ni := N i hi.1 (Int.le_refl _)
  obtain ⟨K1, hK1⟩ : ∃ K1, hset (hset K 2208 i (nx i + 1)) 1927 15 (nd + 1) = K1 := ⟨_, rfl⟩
  have f1 : ∀ a, a ≠ 1927 → a ≠ 2208 → K1 a = K a := fun a a1 a2 => by rw [← hK1, hs_ne a1, hs_ne a2]
  have s1 : ∀ s, s ≠ 15 → K1 1927 s = K 1927 s := fun s hs => by rw [← hK1, hset_v, if_neg (fun w => hs w.2), hs_ne (by decide)]
  have eN : ∀ u, K1 2208 u = if u = i then nx i + 1 else K 2208 u := fun u => by
    rw [← hK1, hs_ne (by decide), hset_v]
    by_cases q : u = i
    · rw [if_pos ⟨rfl, q⟩, if_pos q]
    · rw [if_neg (fun w => q w.2), if_neg q]
  have E0 := E
  obtain ⟨F, e14, e15, e13, efd, e12, eL⟩ := E
  have F1 : BKp h K1 := ⟨fun a q => by rw [f1 a q.1 q.2.2.1]; exact F.1 a q, fun s a b c e f => by rw [s1 s f]; exact F.2 s a b c e f⟩
  have E1 : RelE h K1 (nd + 1) fd bw bt := ⟨F1, by rw [s1 _ (by decide)]; exact e14, by rw [← hK1, hset_v, if_pos ⟨rfl, rfl⟩], by rw [s1 _ (by decide)]; exact e13, efd, fun w => by rw [s1 _ (by decide), f1 2528 (by decide) (by decide)]; exact e12 w, fun u a b => by rw [f1 _ (by decide) (by decide)]; exact eL u a b⟩
  have nE : ∀ u, 0 ≤ u → u < i → up nx i (nx i + 1) u = nx u := fun u a b => up_ne (by omega)
  have M1 : RelM h K1 i (up nx i (nx i + 1)) := rm_c hi.1 M (s1 _ (by decide)) (f1 _ (by decide) (by decide)) (f1 _ (by decide) (by decide)) (f1 _ (by decide) (by decide)) (f1 _ (by decide) (by decide)) nE
  have M0 : RelM h K1 i nx := rm_c hi.1 M (s1 _ (by decide)) (f1 _ (by decide) (by decide)) (f1 _ (by decide) (by decide)) (f1 _ (by decide) (by decide)) (f1 _ (by decide) (by decide)) (fun _ _ _ => rfl)
  have N1 : RelN h K1 i (up nx i (nx i + 1)) := fun u a b => by
    rw [eN]
    by_cases q : u = i
    · rw [if_pos q, q, up_eq]
    · rw [if_neg q, up_ne q]; exact N u a b
  have h15 : hset K 2208 i (nx i + 1) 1927 15 = nd := by rw [hs_ne (by decide)]; exact e15
  have g0 := bk_0 S F1
  have gU := bk_U S F1
  have gl : K1 (h 64 8 + 1174) i = lsU h i := by rw [bk_T S F1 (by decide) (by decide)]; rfl
  have wE : h 2080 (lsU h i * 20 + perF h (nx i)) = wiU h i (nx i) := rfl
  have g10 : K1 1927 10 = smU h nx i.toNat := M0.1
  have g13 : K1 1927 13 = fd := E1.2.2.2.1
  have gL : K1 2144 (i + 1) = leU h (i + 1) := E1.2.2.2.2.2.2 _ (by omega) (by omega)
  have fci := fc_iff S M0 hi hv
  have fib := fi_b h nx i (nx i) i.toNat
  have i36 : 0 ≤ i ∧ i < 36 := by omega
  have hw1 : -4000 ≤ K1 1927 10 ∧ K1 1927 10 ≤ 4000 := by omega
  have stay := fun (hyp : fiK h nx i (nx i) i.toNat = 0 ∨ fd ≠ 0 ∧ bw ≤ smU h nx i.toNat + wiU h i (nx i) + leU h (i + 1)) => qA hyp K1 E1 M1 N1
  -- to the question whether it fits
  rcases k263 (d := d + 2) (Q := KC fz1 (d + 5) 262 Q [Instr.ifCond .eq 1, Instr.aload 0, Instr.ifnull 7276, Instr.ifCond .eq 2, Instr.aload 0, Instr.ifnull 7248, Instr.iload 3, Instr.iadd, Instr.aload 0, Instr.ifnonnull 7203, Instr.iload 1, Instr.iconst 1, Instr.iadd, Instr.iaload, Instr.iadd, Instr.aload 0, Instr.ifnull 7264, Instr.if_icmp .lt 2, Instr.goto 1] [(3, 1927), (0, i), (0, nx i), (0, wiU h i (nx i))] [] 0) S F1 hi hv with ⟨c, r⟩ | ⟨c, r⟩
  · have fk : fiK h nx i (nx i) i.toNat = 1 := fci.1 c
    have W1 : PWU h (up nx i (nx i + 1)) (i + 1) := PW_s hi.1 W hv fk
    have r258 := fun (d : Nat) (Q : Int → HV → Prop) => (k258 (d := d) (Q := Q) S F1 hi hv hw1).1
    have goon : ¬ (fd ≠ 0 ∧ bw ≤ smU h nx i.toNat + wiU h i (nx i) + leU h (i + 1)) → G fz1 (d + 5) 262 2 [(3, 1927), (0, i), (0, nx i), (0, wiU h i (nx i))] [] K1 Q := fun hyp => by
      have nhyp : ¬ (fiK h nx i (nx i) i.toNat = 0 ∨ fd ≠ 0 ∧ bw ≤ smU h nx i.toNat + wiU h i (nx i) + leU h (i + 1)) := fun w => w.elim (fun x => by omega) hyp
      obtain ⟨K2, hK2⟩ : ∃ K2, K2 = tkB h K1 i (nx i) (K1 1927 10 + wiU h i (nx i)) := ⟨_, rfl⟩
      have M2 : RelM h K2 (i + 1) (up nx i (nx i + 1)) := by rw [hK2]; exact rm_on S M0 hi hv W1 nE (up_eq _ _ _)
      have E2 : RelE h K2 (nd + 1) fd bw bt := by rw [hK2]; exact re_tk E1
      have N2 : RelN h K2 i (up nx i (nx i + 1)) := by rw [hK2]; exact rn_tk N1
      have F2 := E2.1
      have t0 := bk_0 S F2
      have tU := bk_U S F2
      refine G_in ?_
      by_cases q : i + 1 < h (h 64 8) 11
      · simp (implicitDefEqProofs := false) (disch := omega) only [b262_2, q262_2, x_aload0, y_call258, x_gc_7211, x_gf_10328, x_gf_7171, x_iadd, x_iastore, x_iconst, x_if_icmp_ge_3, x_iload1, x_iload2, x_ireturn, klp_0, klp_1, klp_2, klp_3, klp_9, KC_0, KC_1, KC_2, KC_3, KC_4, ne_eq, not_false_eq_true, not_true_eq_false, true_and, and_true, and_self, implies_true, eq_self, true_imp_iff, false_implies, Int.reduceEq, Int.reduceNe, Int.reduceMod, Int.reduceMul, Int.reduceAdd, Int.reduceSub, Int.reduceLT, Int.reduceLE, Nat.reduceAdd, Nat.reduceLeDiff, Nat.reduceLT, Nat.reduceSub, reduceIte, wds_n, wds_0, wds_1, wds_2, wds_3, or_true, true_or, or_false, false_or, or_self, false_and, and_false, d_pos, d_s1, d_s2, d_s3, d_s4, d_s5, d_s6, d_s7, d_s8, Classical.not_not, r258, ← hK2, t0, TC_0 hT, TC_k hT, tU, z1927_5, z2208_l, le_T, le_F, lt_T, lt_F, w32_T]
        have e2 : ∀ u, 0 ≤ u → u < i + 1 → up (up nx i (nx i + 1)) (i + 1) 0 u = up nx i (nx i + 1) u := fun u a b => up_ne (by omega)
        refine qB nhyp q (PW_c W1 (Int.le_refl _) e2) _ ?_ ?_ ?_
        · obtain ⟨z1, z2, z3, z4, z5, z6, z7⟩ := E2
          exact ⟨⟨fun a w => by rw [hs_ne w.2.2.1]; exact z1.1 a w, fun s a b c e f => by rw [hs_ne (by decide)]; exact z1.2 s a b c e f⟩, by rw [hs_ne (by decide)]; exact z2, by rw [hs_ne (by decide)]; exact z3, by rw [hs_ne (by decide)]; exact z4, z5, fun w => by rw [hs_ne (by decide), hs_ne (by decide)]; exact z6 w, fun u a b => by rw [hs_ne (by decide)]; exact z7 u a b⟩
        · exact rm_c (by omega) M2 (by rw [hs_ne (by decide)]) (hs_ne (by decide)) (hs_ne (by decide)) (hs_ne (by decide)) (hs_ne (by decide)) e2
        · intro u a b
          rw [hset_v]
          by_cases z : u = i + 1
          · rw [if_pos ⟨rfl, z⟩, z, up_eq]
          · rw [if_neg (fun w => z w.2), up_ne z]
            exact N2 u a (by omega)
      · simp (implicitDefEqProofs := false) (disch := omega) only [b262_2, q262_2, x_aload0, y_call258, x_gc_7211, x_gf_10328, x_gf_7171, x_iadd, x_iastore, x_iconst, x_if_icmp_ge_3, x_iload1, x_iload2, x_ireturn, klp_0, klp_1, klp_2, klp_3, klp_9, KC_0, KC_1, KC_2, KC_3, KC_4, ne_eq, not_false_eq_true, not_true_eq_false, true_and, and_true, and_self, implies_true, eq_self, true_imp_iff, false_implies, Int.reduceEq, Int.reduceNe, Int.reduceMod, Int.reduceMul, Int.reduceAdd, Int.reduceSub, Int.reduceLT, Int.reduceLE, Nat.reduceAdd, Nat.reduceLeDiff, Nat.reduceLT, Nat.reduceSub, reduceIte, wds_n, wds_0, wds_1, wds_2, wds_3, or_true, true_or, or_false, false_or, or_self, false_and, and_false, d_pos, d_s1, d_s2, d_s3, d_s4, d_s5, d_s6, d_s7, d_s8, Classical.not_not, r258, ← hK2, t0, TC_0 hT, TC_k hT, tU, le_T, le_F, lt_T, lt_F, w32_T]
        have pl120 : ∀ u, 0 ≤ u → u < h (h 64 8) 11 → 0 ≤ up nx i (nx i + 1) u ∧ up nx i (nx i + 1) u ≤ 200 := fun u a b => by
          have := W1.1 u a (by omega)
          have pz := pv_b S (v := up nx i (nx i + 1) u - 1) (by omega)
          omega
        refine G_in ?_
        simp (implicitDefEqProofs := false) (disch := omega) only [b262_3, q262_3, x_aload0, y_call256, y_call257, x_iload1, x_ireturn, klp_0, klp_1, klp_2, klp_3, klp_9, KC_0, KC_1, KC_2, KC_3, KC_4, ne_eq, not_false_eq_true, not_true_eq_false, true_and, and_true, and_self, implies_true, eq_self, true_imp_iff, false_implies, Int.reduceEq, Int.reduceNe, Int.reduceMod, Int.reduceMul, Int.reduceAdd, Int.reduceSub, Int.reduceLT, Int.reduceLE, Nat.reduceAdd, Nat.reduceLeDiff, Nat.reduceLT, Nat.reduceSub, reduceIte, wds_n, wds_0, wds_1, wds_2, wds_3, or_true, true_or, or_false, false_or, or_self, false_and, and_false, d_pos, d_s1, d_s2, d_s3, d_s4, d_s5, d_s6, d_s7, d_s8, Classical.not_not]
        refine k256 (nx := up nx i (nx i + 1)) S F2 (fun u a b => ⟨N2 u a (by omega), pl120 u a b⟩) (fun K3 g1 g2 g3 => ?_)
        have F3 : BKp h K3 := ⟨fun a w => by rw [g1 a w.1 w.2.2.2.2.2.2.2]; exact F2.1 a w, fun s a b c e f => by rw [g2, if_neg b, if_neg c]; exact F2.2 s a b c e f⟩
        have w3 : K3 1927 10 = smU h nx i.toNat + wiU h i (nx i) := by
          rw [g2, if_neg (by decide), if_neg (by decide), hK2, tk_f.2.2.1, g10]
        have w2 : K2 1927 10 = smU h nx i.toNat + wiU h i (nx i) := by rw [hK2, tk_f.2.2.1, g10]
        have n3 : K3 2208 i = nx i + 1 := by rw [g1 _ (by decide) (by decide), N2 i hi.1 (Int.le_refl _), up_eq]
        have r257 := fun (d : Nat) (Q : Int → HV → Prop) => k257 (d := d) (Q := Q) S F3 hi n3 (by omega) (by omega)
        simp (implicitDefEqProofs := false) (disch := omega) only [b262_3, q262_3, x_aload0, y_call256, y_call257, x_iload1, x_ireturn, klp_0, klp_1, klp_2, klp_3, klp_9, KC_0, KC_1, KC_2, KC_3, KC_4, ne_eq, not_false_eq_true, not_true_eq_false, true_and, and_true, and_self, implies_true, eq_self, true_imp_iff, false_implies, Int.reduceEq, Int.reduceNe, Int.reduceMod, Int.reduceMul, Int.reduceAdd, Int.reduceSub, Int.reduceLT, Int.reduceLE, Nat.reduceAdd, Nat.reduceLeDiff, Nat.reduceLT, Nat.reduceSub, reduceIte, wds_n, wds_0, wds_1, wds_2, wds_3, or_true, true_or, or_false, false_or, or_self, false_and, and_false, d_pos, d_s1, d_s2, d_s3, d_s4, d_s5, d_s6, d_s7, d_s8, Classical.not_not, r257]
        have M3 : RelM h K3 (i + 1) (up nx i (nx i + 1)) := rm_c (by omega) M2 (by rw [g2, if_neg (by decide), if_neg (by decide)]) (g1 _ (by decide) (by decide)) (g1 _ (by decide) (by decide)) (g1 _ (by decide) (by decide)) (g1 _ (by decide) (by decide)) (fun _ _ _ => rfl)
        have off := rm_off S M3 hi W1
        rw [up_eq] at off
        have E3 : RelE h K3 (nd + 1) 1 (smU h nx i.toNat + wiU h i (nx i)) (fun u => up nx i (nx i + 1) u - 1) := by
          obtain ⟨z1, z2, z3, z4, z5, z6, z7⟩ := E2
          exact ⟨F3, by rw [g2, if_neg (by decide), if_neg (by decide)]; exact z2, by rw [g2, if_neg (by decide), if_neg (by decide)]; exact z3, by rw [g2, if_neg (by decide), if_pos rfl], .inr rfl, fun _ => ⟨by rw [g2, if_pos rfl]; exact w2, g3⟩, fun u a b => by rw [g1 _ (by decide) (by decide)]; exact z7 u a b⟩
        have N3 : RelN h K3 i (up nx i (nx i + 1)) := fun u a b => by rw [g1 _ (by decide) (by decide)]; exact N2 u a b
        exact qC nhyp q W1 _ (re_tk E3) off (rn_tk N3)
    by_cases f0 : fd = 0
    · simp (implicitDefEqProofs := false) (disch := omega) only [sp262, b262_0, x_aload0, y_call251, y_call259, y_call263, x_dup0, x_dup203, x_dup21, x_dup3, x_gc_10323, x_gc_7203, x_gc_7211, x_gf_7171, x_gf_7248, x_gf_7264, x_gf_7276, x_gf_7288, x_goto_1, x_iadd, x_iaload, x_iastore, x_iconst, x_ifCond_eq_1, x_ifCond_eq_2, x_if_icmp_lt_2, x_iload1, x_iload2, x_iload3, x_istore2, x_istore3, x_pf_7288, klp_0, klp_1, klp_2, klp_3, klp_9, KC_0, KC_1, KC_2, KC_3, KC_4, ne_eq, not_false_eq_true, not_true_eq_false, true_and, and_true, and_self, implies_true, eq_self, true_imp_iff, false_implies, Int.reduceEq, Int.reduceNe, Int.reduceMod, Int.reduceMul, Int.reduceAdd, Int.reduceSub, Int.reduceLT, Int.reduceLE, Nat.reduceAdd, Nat.reduceLeDiff, Nat.reduceLT, Nat.reduceSub, reduceIte, wds_n, wds_0, wds_1, wds_2, wds_3, or_true, true_or, or_false, false_or, or_self, false_and, and_false, d_pos, d_s1, d_s2, d_s3, d_s4, d_s5, d_s6, d_s7, d_s8, Classical.not_not, z1927_5, z2208_l, ni, h15, hK1, g0, TC_0 hT, TC_k hT, c10 hT, c10l hT, c10k hT, gl, k259 S F1, k251 F1, wE, r, g13, f0, le_T, le_F, lt_T, lt_F, w32_T]
      exact goon (fun w => w.1 f0)
    · have g12 : K1 1927 12 = bw := (E1.2.2.2.2.2.1 f0).1
      by_cases q : bw ≤ smU h nx i.toNat + wiU h i (nx i) + leU h (i + 1)
      · simp (implicitDefEqProofs := false) (disch := omega) only [sp262, b262_0, b262_1, q262_1, x_aload0, y_call251, y_call259, y_call263, x_dup0, x_dup203, x_dup21, x_dup3, x_gc_10323, x_gc_7203, x_gc_7211, x_gf_7171, x_gf_7248, x_gf_7264, x_gf_7276, x_gf_7288, x_goto_1, x_iadd, x_iaload, x_iastore, x_iconst, x_ifCond_eq_1, x_ifCond_eq_2, x_if_icmp_lt_2, x_iload1, x_iload2, x_iload3, x_ireturn, x_istore2, x_istore3, x_pf_7288, klp_0, klp_1, klp_2, klp_3, klp_9, KC_0, KC_1, KC_2, KC_3, KC_4, ne_eq, not_false_eq_true, not_true_eq_false, true_and, and_true, and_self, implies_true, eq_self, true_imp_iff, false_implies, Int.reduceEq, Int.reduceNe, Int.reduceMod, Int.reduceMul, Int.reduceAdd, Int.reduceSub, Int.reduceLT, Int.reduceLE, Nat.reduceAdd, Nat.reduceLeDiff, Nat.reduceLT, Nat.reduceSub, reduceIte, wds_n, wds_0, wds_1, wds_2, wds_3, or_true, true_or, or_false, false_or, or_self, false_and, and_false, d_pos, d_s1, d_s2, d_s3, d_s4, d_s5, d_s6, d_s7, d_s8, Classical.not_not, z1927_5, z2208_l, ni, h15, hK1, g0, TC_0 hT, TC_k hT, c10 hT, c10l hT, c10k hT, gl, k259 S F1, k251 F1, wE, r, g13, f0, g10, z1927_4, z2144_l, gL, g12, le_T, le_F, lt_T, lt_F, w32_T]
        exact stay (.inr ⟨f0, q⟩)
      · simp (implicitDefEqProofs := false) (disch := omega) only [sp262, b262_0, x_aload0, y_call251, y_call259, y_call263, x_dup0, x_dup203, x_dup21, x_dup3, x_gc_10323, x_gc_7203, x_gc_7211, x_gf_7171, x_gf_7248, x_gf_7264, x_gf_7276, x_gf_7288, x_goto_1, x_iadd, x_iaload, x_iastore, x_iconst, x_ifCond_eq_1, x_ifCond_eq_2, x_if_icmp_lt_2, x_iload1, x_iload2, x_iload3, x_istore2, x_istore3, x_pf_7288, klp_0, klp_1, klp_2, klp_3, klp_9, KC_0, KC_1, KC_2, KC_3, KC_4, ne_eq, not_false_eq_true, not_true_eq_false, true_and, and_true, and_self, implies_true, eq_self, true_imp_iff, false_implies, Int.reduceEq, Int.reduceNe, Int.reduceMod, Int.reduceMul, Int.reduceAdd, Int.reduceSub, Int.reduceLT, Int.reduceLE, Nat.reduceAdd, Nat.reduceLeDiff, Nat.reduceLT, Nat.reduceSub, reduceIte, wds_n, wds_0, wds_1, wds_2, wds_3, or_true, true_or, or_false, false_or, or_self, false_and, and_false, d_pos, d_s1, d_s2, d_s3, d_s4, d_s5, d_s6, d_s7, d_s8, Classical.not_not, z1927_5, z2208_l, ni, h15, hK1, g0, TC_0 hT, TC_k hT, c10 hT, c10l hT, c10k hT, gl, k259 S F1, k251 F1, wE, r, g13, f0, g10, z1927_4, z2144_l, gL, g12, le_T, le_F, lt_T, lt_F, w32_T]
        exact goon (fun w => q w.2)
  · have fk : fiK h nx i (nx i) i.toNat = 0 := fib.resolve_right (fun w => c (fci.2 w))
    simp (implicitDefEqProofs := false) (disch := omega) only [sp262, b262_0, b262_1, q262_1, x_aload0, y_call251, y_call259, y_call263, x_dup0, x_dup203, x_dup21, x_dup3, x_gc_10323, x_gc_7203, x_gc_7211, x_gf_7171, x_gf_7248, x_gf_7264, x_gf_7276, x_gf_7288, x_goto_1, x_iadd, x_iaload, x_iastore, x_iconst, x_ifCond_eq_1, x_ifCond_eq_2, x_if_icmp_lt_2, x_iload1, x_iload2, x_iload3, x_ireturn, x_istore2, x_istore3, x_pf_7288, klp_0, klp_1, klp_2, klp_3, klp_9, KC_0, KC_1, KC_2, KC_3, KC_4, ne_eq, not_false_eq_true, not_true_eq_false, true_and, and_true, and_self, implies_true, eq_self, true_imp_iff, false_implies, Int.reduceEq, Int.reduceNe, Int.reduceMod, Int.reduceMul, Int.reduceAdd, Int.reduceSub, Int.reduceLT, Int.reduceLE, Nat.reduceAdd, Nat.reduceLeDiff, Nat.reduceLT, Nat.reduceSub, reduceIte, wds_n, wds_0, wds_1, wds_2, wds_3, or_true, true_or, or_false, false_or, or_self, false_and, and_false, d_pos, d_s1, d_s2, d_s3, d_s4, d_s5, d_s6, d_s7, d_s8, Classical.not_not, z1927_5, z2208_l, ni, h15, hK1, g0, TC_0 hT, TC_k hT, c10 hT, c10l hT, c10k hT, gl, k259 S F1, k251 F1, wE, r, le_T, le_F, lt_T, lt_F, w32_T]
    exact stay (.inl fk)
