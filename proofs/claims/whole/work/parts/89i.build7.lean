/-! THE PURE SIDE, 79: build, the class; the reference: what fits: printed by wip/tools/gen89i.py -/
def bldR (h : HV) (most : Int) : Int × Int × Int × Int × (Int → Int) := if h (h 64 8) 11 = 0 then (0, 0, 1, 0, fun _ => -1) else runB h most 20037 0 (fun _ => 0) 0 0 0 (fun _ => 0)
def Yb (h : HV) : HV := fillH (fillH (fillH (fillH (hset (hset (hset (hset (hset (hset h 1927 13 0) 1927 14 0) 1927 14 1) 1927 15 0) 1927 10 0) 2208 0 0) 2272 6 0) 2336 8 0) 2400 10 0) 2464 12 0
theorem yb_7 {h : HV} (s : Int) : Yb h 1927 s = if s = 10 then 0 else if s = 15 then 0 else if s = 14 then 1 else if s = 13 then 0 else h 1927 s := by
  unfold Yb
  rw [fillH_ne (by decide), fillH_ne (by decide), fillH_ne (by decide), fillH_ne (by decide), hs_ne (by decide)]
  have g : ∀ (M : HV) (x y r : Int), hset M 1927 x y 1927 r = if r = x then y else M 1927 r := fun M x y r => by
    rw [hset_v]
    by_cases q : r = x
    · rw [if_pos ⟨rfl, q⟩, if_pos q]
    · rw [if_neg (fun w => q w.2), if_neg q]
  rw [g, g, g, g, g]
  by_cases a : s = 10
  · rw [if_pos a, if_pos a]
  · rw [if_neg a, if_neg a]
    by_cases b : s = 15
    · rw [if_pos b, if_pos b]
    · rw [if_neg b, if_neg b]
      by_cases c : s = 14
      · rw [if_pos c, if_pos c]
      · rw [if_neg c, if_neg c, if_neg c]
theorem yb_f {h : HV} {a : Int} (q : a ≠ 1927 ∧ a ≠ 2144 ∧ a ≠ 2208 ∧ a ≠ 2272 ∧ a ≠ 2336 ∧ a ≠ 2400 ∧ a ≠ 2464 ∧ a ≠ 2528) : Yb h a = h a := by
  unfold Yb
  rw [fillH_ne q.2.2.2.2.2.2.1, fillH_ne q.2.2.2.2.2.1, fillH_ne q.2.2.2.2.1, fillH_ne q.2.2.2.1, hs_ne q.2.2.1, hs_ne q.1, hs_ne q.1, hs_ne q.1, hs_ne q.1, hs_ne q.1]
theorem s254 {d : Nat} {h : HV} {Q : Int → HV → Prop} (S : SBd h) (ex : ∀ K, RelE h K 0 0 0 (fun _ => 0) → RelM h K 0 (fun _ => 0) → RelN h K 0 (fun _ => 0) → Q 0 K) : Sp fz1 (d + 4) 254 [(3, 1927)] h Q := by
  have hT := S.1.1
  have hN := S.2.1.1
  have y0 : Yb h 1927 0 = h 64 8 := by rw [yb_7, if_neg (by decide), if_neg (by decide), if_neg (by decide), if_neg (by decide)]; exact S.2.2.2.2.2.2
  have yU : Yb h (h 64 8) = h (h 64 8) := yb_f (by rcases hT with w | w <;> omega)
  have yE : fillH (fillH (fillH (fillH (hset (hset (hset (hset (hset (hset h 1927 13 0) 1927 14 0) 1927 14 1) 1927 15 0) 1927 10 0) 2208 0 0) 2272 6 0) 2336 8 0) 2400 10 0) 2464 12 0 = Yb h := rfl
  have zU : hset (Yb h) 2144 (h (h 64 8) 11) 0 (h 64 8) = h (h 64 8) := by rw [hs_ne (by rcases hT with w | w <;> omega)]; exact yU
  have z0 : hset (Yb h) 2144 (h (h 64 8) 11) 0 1927 0 = h 64 8 := by rw [hs_ne (by decide)]; exact y0
  simp (implicitDefEqProofs := false) (disch := omega) only [sp254, b254_0, x_aload0, y_call14, y_call15, x_gc_7203, x_gc_7211, x_gc_7219, x_gc_7227, x_gc_7235, x_gc_7243, x_gf_10328, x_gf_7171, x_goto_1, x_iastore, x_iconst, x_istore1, x_isub, x_pf_7248, x_pf_7284, x_pf_7288, klp_0, klp_1, klp_2, klp_3, klp_9, KC_0, KC_1, KC_2, KC_3, KC_4, ne_eq, not_false_eq_true, not_true_eq_false, true_and, and_true, and_self, implies_true, eq_self, true_imp_iff, false_implies, Int.reduceEq, Int.reduceNe, Int.reduceMod, Int.reduceMul, Int.reduceAdd, Int.reduceSub, Int.reduceLT, Int.reduceLE, Nat.reduceAdd, Nat.reduceLeDiff, Nat.reduceLT, Nat.reduceSub, reduceIte, wds_n, wds_0, wds_1, wds_2, wds_3, or_true, true_or, or_false, false_or, or_self, false_and, and_false, d_pos, d_s1, d_s2, d_s3, d_s4, d_s5, d_s6, d_s7, d_s8, Classical.not_not, s15e, z1927_5, z2208_l, z1927_6, z1927_7, z1927_8, z1927_9, f2272, f2336, f2400, f2464, yE, y0, yU, TC_0 hT, TC_k hT, z1927_4, z2144_l, z0, zU, le_T, le_F, lt_T, lt_F, w32_T]
  have F : BKp h (hset (Yb h) 2144 (h (h 64 8) 11) 0) := ⟨fun a q => by rw [hs_ne q.2.1]; exact yb_f q, fun s a b c e f => by rw [hs_ne (by decide), yb_7, if_neg a, if_neg f, if_neg e, if_neg c]⟩
  refine lp254 S F (by rw [hset_v, if_pos ⟨rfl, rfl⟩]) (fun K fr vl => ?_)
  have k7 : ∀ s, K 1927 s = Yb h 1927 s := fun s => by rw [fr _ (by decide), hs_ne (by decide)]
  have kf : ∀ a, a ≠ 2144 → K a = Yb h a := fun a ha => by rw [fr a ha, hs_ne ha]
  refine ex K ⟨⟨fun a q => by rw [fr a q.2.1]; exact F.1 a q, fun s a b c e f => by rw [fr _ (by decide)]; exact F.2 s a b c e f⟩, by rw [k7, yb_7]; rfl, by rw [k7, yb_7]; rfl, by rw [k7, yb_7]; rfl, .inl rfl, fun w => absurd rfl w, vl⟩ ⟨by rw [k7, yb_7]; rfl, ?_, ?_, ?_, ?_⟩ (fun u a b => ?_)
  · refine MB_0 (fun r r0 r1 => ?_)
    rw [kf _ (by decide)]
    unfold Yb
    rw [fillH_ne (by decide), fillH_ne (by decide), fillH_ne (by decide), fillH_v, if_pos ⟨rfl, r0, r1⟩]
  · refine MB_0 (fun r r0 r1 => ?_)
    rw [kf _ (by decide)]
    unfold Yb
    rw [fillH_ne (by decide), fillH_ne (by decide), fillH_v, if_pos ⟨rfl, r0, r1⟩]
  · refine MB_0 (fun r r0 r1 => ?_)
    rw [kf _ (by decide)]
    unfold Yb
    rw [fillH_ne (by decide), fillH_v, if_pos ⟨rfl, r0, r1⟩]
  · refine MB_0 (fun r r0 r1 => ?_)
    rw [kf _ (by decide)]
    unfold Yb
    rw [fillH_v, if_pos ⟨rfl, r0, r1⟩]
  · rw [kf _ (by decide), show u = 0 by omega]
    unfold Yb
    rw [fillH_ne (by decide), fillH_ne (by decide), fillH_ne (by decide), fillH_ne (by decide), hset_v, if_pos ⟨rfl, rfl⟩]
theorem pl_w {h : HV} (S : SBd h) : w32 (5 * h 1927 1 * h (h 64 8 + 598) 1) = plB h ∧ 0 ≤ plB h ∧ plB h ≤ 120 := by
  have D := S.2.2.1
  have X1 := rtx_1 S.1
  have p0 : 0 ≤ plB h := Int.mul_nonneg (by omega) (by omega)
  have p1 : plB h ≤ 20 * 6 := Int.mul_le_mul (by omega) (by omega) (by omega) (by omega)
  refine ⟨?_, p0, by omega⟩
  show w32 (plB h) = plB h
  generalize plB h = x at *
  unfold w32
  omega
theorem s253 {d : Nat} {h : HV} {Q : Int → HV → Prop} {most : Int} (S : SBd h) (hm : 1 ≤ most ∧ most ≤ 10000) (hQ : ∀ K2, RelE h K2 (bldR h most).2.1 (bldR h most).2.2.1 (bldR h most).2.2.2.1 (bldR h most).2.2.2.2 → GBt h (bldR h most).2.2.1 (bldR h most).2.2.2.2 → Q (bldR h most).1 K2) : Sp fz1 (d + 6) 253 [(3, 1927), (0, most)] h Q := by
  have hT := S.1.1
  have hN := S.2.1.1
  have pw := pl_w S
  simp (implicitDefEqProofs := false) (disch := omega) only [sp253, b253_0, x_aload0, y_call247, y_call254, y_call256, y_call55, x_gf_10328, x_gf_7171, x_goto_1, x_iconst, x_ifCond_ne_1, x_imul, x_istore2, x_istore3, klp_0, klp_1, klp_2, klp_3, klp_9, KC_0, KC_1, KC_2, KC_3, KC_4, ne_eq, not_false_eq_true, not_true_eq_false, true_and, and_true, and_self, implies_true, eq_self, true_imp_iff, false_implies, Int.reduceEq, Int.reduceNe, Int.reduceMod, Int.reduceMul, Int.reduceAdd, Int.reduceSub, Int.reduceLT, Int.reduceLE, Nat.reduceAdd, Nat.reduceLeDiff, Nat.reduceLT, Nat.reduceSub, reduceIte, wds_n, wds_0, wds_1, wds_2, wds_3, or_true, true_or, or_false, false_or, or_self, false_and, and_false, d_pos, d_s1, d_s2, d_s3, d_s4, d_s5, d_s6, d_s7, d_s8, Classical.not_not]
  refine s254 S (fun K E M N => ?_)
  have F := E.1
  have k0 := bk_0 S F
  have kU := bk_U S F
  have kS : K (h 64 8 + 598) = h (h 64 8 + 598) := bk_T S F (by decide) (by decide)
  have k1 := bk_1 F
  have kp : 1 ≤ K 1927 1 ∧ K 1927 1 ≤ 4 := by rw [k1]; exact S.2.2.1
  have z1 : (if (0 : Int) ≤ 1 ∧ (1 : Int) < 7 then h (h 64 8 + 598) 1 else 0) = h (h 64 8 + 598) 1 := if_pos (by decide)
  by_cases q : h (h 64 8) 11 = 0
  · unfold bldR at hQ
    rw [if_pos q] at hQ
    simp (implicitDefEqProofs := false) (disch := omega) only [b253_0, x_aload0, y_call247, y_call254, y_call256, y_call55, x_gf_10328, x_gf_7171, x_goto_1, x_iconst, x_ifCond_ne_1, x_imul, x_istore2, x_istore3, klp_0, klp_1, klp_2, klp_3, klp_9, KC_0, KC_1, KC_2, KC_3, KC_4, ne_eq, not_false_eq_true, not_true_eq_false, true_and, and_true, and_self, implies_true, eq_self, true_imp_iff, false_implies, Int.reduceEq, Int.reduceNe, Int.reduceMod, Int.reduceMul, Int.reduceAdd, Int.reduceSub, Int.reduceLT, Int.reduceLE, Nat.reduceAdd, Nat.reduceLeDiff, Nat.reduceLT, Nat.reduceSub, reduceIte, wds_n, wds_0, wds_1, wds_2, wds_3, or_true, true_or, or_false, false_or, or_self, false_and, and_false, d_pos, d_s1, d_s2, d_s3, d_s4, d_s5, d_s6, d_s7, d_s8, Classical.not_not, s247 kp, k1, k0, TC_0 hT, TC_k hT, s55 hT, kS, z1, pw.1, kU, q, le_T, le_F, lt_T, lt_F]
    have k10 : K 1927 10 = 0 := by rw [M.1]; rfl
    refine k256 (nx := fun _ => 0) S F (fun u a b => by omega) (fun K2 g1 g2 g3 => ?_)
    have E2 : RelE h K2 0 1 0 (fun _ => -1) := by
      obtain ⟨z1, z2, z3, z4, z5, z6, z7⟩ := E
      exact ⟨⟨fun a w => by rw [g1 a w.1 w.2.2.2.2.2.2.2]; exact z1.1 a w, fun s a b c e f => by rw [g2, if_neg b, if_neg c]; exact z1.2 s a b c e f⟩, by rw [g2, if_neg (by decide), if_neg (by decide)]; exact z2, by rw [g2, if_neg (by decide), if_neg (by decide)]; exact z3, by rw [g2, if_neg (by decide), if_pos rfl], .inr rfl, fun _ => ⟨by rw [g2, if_pos rfl]; exact k10, fun u a b => by omega⟩, fun u a b => by rw [g1 _ (by decide) (by decide)]; exact z7 u a b⟩
    have c0 := bk_0 S E2.1
    have cU := bk_U S E2.1
    have c13 : K2 1927 13 = 1 := E2.2.2.2.1
    simp (implicitDefEqProofs := false) (disch := omega) only [b253_0, b253_1, q253_1, x_aload0, y_call247, y_call254, y_call256, y_call55, x_gf_10328, x_gf_7171, x_goto_1, x_goto_2, x_iconst, x_ifCond_ne_1, x_imul, x_istore2, x_istore3, x_istore4, x_istore5, klp_0, klp_1, klp_2, klp_3, klp_9, KC_0, KC_1, KC_2, KC_3, KC_4, ne_eq, not_false_eq_true, not_true_eq_false, true_and, and_true, and_self, implies_true, eq_self, true_imp_iff, false_implies, Int.reduceEq, Int.reduceNe, Int.reduceMod, Int.reduceMul, Int.reduceAdd, Int.reduceSub, Int.reduceLT, Int.reduceLE, Nat.reduceAdd, Nat.reduceLeDiff, Nat.reduceLT, Nat.reduceSub, reduceIte, wds_n, wds_0, wds_1, wds_2, wds_3, or_true, true_or, or_false, false_or, or_self, false_and, and_false, d_pos, d_s1, d_s2, d_s3, d_s4, d_s5, d_s6, d_s7, d_s8, Classical.not_not]
    refine G_in ?_
    simp (implicitDefEqProofs := false) (disch := omega) only [b253_2, b253_6, b253_7, b253_8, b253_10, q253_6, q253_7, q253_8, q253_10, x_aload0, y_call257, x_gc_7211, x_gf_10328, x_gf_7171, x_gf_7276, x_goto_10, x_goto_5, x_goto_8, x_iadd, x_iaload, x_iconst, x_ifCond_eq_7, x_ifCond_eq_9, x_ifCond_lt_5, x_ifCond_lt_6, x_ifCond_ne_6, x_if_icmp_ge_6, x_if_icmp_lt_3, x_iinc3, x_iload2, x_iload3, x_iload4, x_iload5, x_ireturn, klp_0, klp_1, klp_2, klp_3, klp_9, KC_0, KC_1, KC_2, KC_3, KC_4, ne_eq, not_false_eq_true, not_true_eq_false, true_and, and_true, and_self, implies_true, eq_self, true_imp_iff, false_implies, Int.reduceEq, Int.reduceNe, Int.reduceMod, Int.reduceMul, Int.reduceAdd, Int.reduceSub, Int.reduceLT, Int.reduceLE, Nat.reduceAdd, Nat.reduceLeDiff, Nat.reduceLT, Nat.reduceSub, reduceIte, wds_n, wds_0, wds_1, wds_2, wds_3, or_true, true_or, or_false, false_or, or_self, false_and, and_false, d_pos, d_s1, d_s2, d_s3, d_s4, d_s5, d_s6, d_s7, d_s8, Classical.not_not, c0, TC_0 hT, TC_k hT, cU, q, c13, le_T, le_F, lt_T, lt_F, w32_T]
    exact hQ K2 E2 (fun _ => ⟨fun u a b => by omega, fun u v a b c => by omega⟩)
  · unfold bldR at hQ
    rw [if_neg q] at hQ
    simp (implicitDefEqProofs := false) (disch := omega) only [b253_0, b253_1, q253_1, x_aload0, y_call247, y_call254, y_call256, y_call55, x_gf_10328, x_gf_7171, x_goto_1, x_goto_2, x_iconst, x_ifCond_ne_1, x_imul, x_istore2, x_istore3, x_istore4, x_istore5, klp_0, klp_1, klp_2, klp_3, klp_9, KC_0, KC_1, KC_2, KC_3, KC_4, ne_eq, not_false_eq_true, not_true_eq_false, true_and, and_true, and_self, implies_true, eq_self, true_imp_iff, false_implies, Int.reduceEq, Int.reduceNe, Int.reduceMod, Int.reduceMul, Int.reduceAdd, Int.reduceSub, Int.reduceLT, Int.reduceLE, Nat.reduceAdd, Nat.reduceLeDiff, Nat.reduceLT, Nat.reduceSub, reduceIte, wds_n, wds_0, wds_1, wds_2, wds_3, or_true, true_or, or_false, false_or, or_self, false_and, and_false, d_pos, d_s1, d_s2, d_s3, d_s4, d_s5, d_s6, d_s7, d_s8, Classical.not_not, s247 kp, k1, k0, TC_0 hT, TC_k hT, s55 hT, kS, z1, pw.1, kU, q, le_T, le_F, lt_T, lt_F]
    exact lp253 (d := d) S hm.2 20037 0 0 0 0 0 _ _ K (by decide) (by omega) (by decide) (by omega) (by decide) (by decide) (by omega) E (fun _ => ⟨M, N, ⟨fun u a b => by omega, fun u v a b c => by omega⟩, by decide, pw.2.1⟩) (fun w => absurd rfl w) hQ
/-- what the class's search has left alone -/
def CLb (a : Int) : Prop := a ≠ 1927 ∧ a ≠ 2144 ∧ a ≠ 2208 ∧ a ≠ 2272 ∧ a ≠ 2336 ∧ a ≠ 2400 ∧ a ≠ 2464 ∧ a ≠ 2528 ∧ a ≠ 2568
def RLb (a : Int) : Prop := a ≠ 6603 ∧ a ≠ 12000 ∧ a ≠ 12064 ∧ a ≠ 12128 ∧ a ≠ 12192 ∧ a ≠ 12256 ∧ a ≠ 12320 ∧ a ≠ 11872 ∧ a ≠ 11936
def RFr (h K0 K : HV) : Prop := (∀ a, RLb a → K a = K0 a) ∧ (∀ s, s ≠ 69 → s ≠ 70 → s ≠ 71 → s ≠ 72 → s ≠ 73 → K 6603 s = h 6603 s) ∧ (∀ u, 0 ≤ u → u < h (h 64 8) 11 → K 12000 u = lsU h u) ∧ (∀ a, CLb a → K0 a = h a)
/-- the school for both halves -/
def SRb (h : HV) : Prop := SBd h ∧ RTg h ∧ RTb h
theorem rf_a {h K0 K : HV} (F : RFr h K0 K) {a : Int} (q : RLb a) (q2 : CLb a) : K a = h a := by rw [F.1 a q, F.2.2.2 a q2]
theorem rf_R {h K0 K : HV} (S : SRb h) (F : RFr h K0 K) {x : Int} (x0 : 0 ≤ x) (x1 : x < 1200) : K (h 6603 9 + x) = h (h 6603 9 + x) := rf_a F (by unfold RLb; rcases S.1.1.2.1 with w | w <;> omega) (by unfold CLb; rcases S.1.1.2.1 with w | w <;> omega)
theorem lp423 {d : Nat} {h K0 K : HV} {Q : Int → HV → Prop} {i v : Int} {nx : Int → Int} (S : SRb h) (F : RFr h K0 K) (hi : 0 ≤ i ∧ i < h (h 64 8) 11) (hP : ∀ u, 0 ≤ u → u < i → K 12064 u = perF h (nx u - 1) ∧ K 12128 u = rooF h (nx u - 1)) (hQ : Q (fiK h nx i v i.toNat) K) : ∀ (n k : Nat) (y8 y9 : AV), k + n = i.toNat → G fz1 d 423 3 [(3, 6603), (0, i), (0, perF h v), (0, rooF h v), (0, lsU h i), (0, stU h i), (0, fiK h nx i v k), (0, (k : Int)), y8, y9] [] K Q
  | 0, k, y8, y9, he => by
    have fb := fi_b h nx i v k
    rw [show i.toNat = k by omega] at hQ
    refine G_in ?_
    simp (implicitDefEqProofs := false) (disch := omega) only [b423_3, b423_10, q423_10, x_aload0, x_freturn, x_gc_11875, x_gc_11883, x_goto_5, x_iaload, x_iconst, x_ifCond_eq_10, x_if_icmp_ge_10, x_if_icmp_ne_4, x_iload1, x_iload2, x_iload6, x_iload7, x_istore8, klp_0, klp_1, klp_2, klp_3, klp_9, KC_0, KC_1, KC_2, KC_3, KC_4, ne_eq, not_false_eq_true, not_true_eq_false, true_and, and_true, and_self, implies_true, eq_self, true_imp_iff, false_implies, Int.reduceEq, Int.reduceNe, Int.reduceMod, Int.reduceMul, Int.reduceAdd, Int.reduceSub, Int.reduceLT, Int.reduceLE, Nat.reduceAdd, Nat.reduceLeDiff, Nat.reduceLT, Nat.reduceSub, reduceIte, wds_n, wds_0, wds_1, wds_2, wds_3, or_true, true_or, or_false, false_or, or_self, false_and, and_false, d_pos, d_s1, d_s2, d_s3, d_s4, d_s5, d_s6, d_s7, d_s8, Classical.not_not, le_T, le_F, lt_T, lt_F, w32_T]
    have e2 : fiK h nx i v k % 2 = fiK h nx i v k := by omega
    rw [e2]
    exact hQ
  | n + 1, k, y8, y9, he => by
    have hS := S.1.1.2.1
    have hN := S.1.2.1.1
    have D := S.2.2.2.1
    have d65 : K 6603 65 = h 1927 1 := by rw [F.2.1 65 (by decide) (by decide) (by decide) (by decide) (by decide)]; exact S.2.2.1
    have d9 : K 6603 9 = h 6603 9 := F.2.1 9 (by decide) (by decide) (by decide) (by decide) (by decide)
    have kI : 0 ≤ (k : Int) ∧ (k : Int) < h (h 64 8) 11 := by omega
    have lbk := les_b S.1.1 S.1.2.1 kI
    have lbi := les_b S.1.1 S.1.2.1 hi
    have ubk := un_b4 S.1 kI
    have ubi := un_b4 S.1 hi
    have l12 := F.2.2.1 k kI.1 kI.2
    obtain ⟨pk, rk⟩ := hP k kI.1 (by omega)
    have gk : K (h 6603 9 + 532) (lsU h k) = grU h k := by rw [rf_R S F (by decide) (by decide)]; exact (S.1.2.2.2.2.1.2 _ lbk.1 lbk.2).1
    have gi : K (h 6603 9 + 532) (lsU h i) = grU h i := by rw [rf_R S F (by decide) (by decide)]; exact (S.1.2.2.2.2.1.2 _ lbi.1 lbi.2).1
    have sk : K (h 6603 9 + 596) (lsU h k) = stU h k := by rw [rf_R S F (by decide) (by decide)]; exact (S.1.2.2.2.1.2 _ lbk.1 lbk.2).2.2.1
    have dk : w32 (Int.tdiv (perF h (nx k - 1)) (h 1927 1)) = dyF h (perF h (nx k - 1)) := rfl
    have di : w32 (Int.tdiv (perF h v) (h 1927 1)) = dyF h (perF h v) := rfl
    have fb := fi_b h nx i v k
    have fE : fiK h nx i v (k + 1) = if fiK h nx i v k = 1 ∧ cpU h k (nx k - 1) i v then 1 else 0 := rfl
    have ih := lp423 (d := d) S F hi hP hQ n (k + 1)
    rw [fE] at ih
    rcases fb with f0 | f1
    · have fz : ∀ j : Nat, fiK h nx i v (k + j) = 0 := fun j => by
        induction j with
        | zero => exact f0
        | succ j jh => rw [show k + (j + 1) = (k + j) + 1 by omega, fiK, jh, if_neg (fun w => by omega)]
      have hz : fiK h nx i v i.toNat = 0 := by
        have := fz (i.toNat - k)
        rw [show k + (i.toNat - k) = i.toNat by omega] at this
        exact this
      rw [hz] at hQ
      rw [f0]
      refine G_in ?_
      simp (implicitDefEqProofs := false) (disch := omega) only [b423_3, b423_10, q423_10, x_aload0, x_freturn, x_gc_11875, x_gc_11883, x_goto_5, x_iaload, x_iconst, x_ifCond_eq_10, x_if_icmp_ge_10, x_if_icmp_ne_4, x_iload1, x_iload2, x_iload6, x_iload7, x_istore8, klp_0, klp_1, klp_2, klp_3, klp_9, KC_0, KC_1, KC_2, KC_3, KC_4, ne_eq, not_false_eq_true, not_true_eq_false, true_and, and_true, and_self, implies_true, eq_self, true_imp_iff, false_implies, Int.reduceEq, Int.reduceNe, Int.reduceMod, Int.reduceMul, Int.reduceAdd, Int.reduceSub, Int.reduceLT, Int.reduceLE, Nat.reduceAdd, Nat.reduceLeDiff, Nat.reduceLT, Nat.reduceSub, reduceIte, wds_n, wds_0, wds_1, wds_2, wds_3, or_true, true_or, or_false, false_or, or_self, false_and, and_false, d_pos, d_s1, d_s2, d_s3, d_s4, d_s5, d_s6, d_s7, d_s8, Classical.not_not, le_T, le_F, lt_T, lt_F, w32_T]
      exact hQ
    · rw [f1] at ih ⊢
      have bad : ¬ cpU h k (nx k - 1) i v → ∀ y8 y9 : AV, G fz1 d 423 3 [(3, 6603), (0, i), (0, perF h v), (0, rooF h v), (0, lsU h i), (0, stU h i), (0, 0), (0, ((k + 1 : Nat) : Int)), y8, y9] [] K Q := fun hb y8 y9 => by
        have := ih y8 y9 (by omega)
        rw [if_neg (fun w => hb w.2)] at this
        exact this
      have good : cpU h k (nx k - 1) i v → ∀ y8 y9 : AV, G fz1 d 423 3 [(3, 6603), (0, i), (0, perF h v), (0, rooF h v), (0, lsU h i), (0, stU h i), (0, 1), (0, ((k + 1 : Nat) : Int)), y8, y9] [] K Q := fun hb y8 y9 => by
        have := ih y8 y9 (by omega)
        rw [if_pos ⟨rfl, hb⟩] at this
        exact this
      clear ih fE
      have dz : ¬ h 1927 1 = 0 := by omega
      have b8 : ¬ cpU h k (nx k - 1) i v → ∀ y9 : AV, G fz1 d 423 8 [(3, 6603), (0, i), (0, perF h v), (0, rooF h v), (0, lsU h i), (0, stU h i), (0, 1), (0, (k : Int)), (0, lsU h k), y9] [] K Q := fun hb y9 => by
        refine G_in ?_
        simp (implicitDefEqProofs := false) (disch := omega) only [b423_8, b423_9, q423_8, q423_9, x_goto_3, x_goto_9, x_iconst, x_iinc7, x_istore6, klp_0, klp_1, klp_2, klp_3, klp_9, KC_0, KC_1, KC_2, KC_3, KC_4, ne_eq, not_false_eq_true, not_true_eq_false, true_and, and_true, and_self, implies_true, eq_self, true_imp_iff, false_implies, Int.reduceEq, Int.reduceNe, Int.reduceMod, Int.reduceMul, Int.reduceAdd, Int.reduceSub, Int.reduceLT, Int.reduceLE, Nat.reduceAdd, Nat.reduceLeDiff, Nat.reduceLT, Nat.reduceSub, reduceIte, wds_n, wds_0, wds_1, wds_2, wds_3, or_true, true_or, or_false, false_or, or_self, false_and, and_false, d_pos, d_s1, d_s2, d_s3, d_s4, d_s5, d_s6, d_s7, d_s8, Classical.not_not, le_T, le_F, lt_T, lt_F, w32_T]
        exact bad hb _ _
      have b7 : cpU h k (nx k - 1) i v → ∀ y9 : AV, G fz1 d 423 7 [(3, 6603), (0, i), (0, perF h v), (0, rooF h v), (0, lsU h i), (0, stU h i), (0, 1), (0, (k : Int)), (0, lsU h k), y9] [] K Q := fun hb y9 => by
        refine G_in ?_
        simp (implicitDefEqProofs := false) (disch := omega) only [b423_7, b423_9, q423_7, q423_9, x_goto_3, x_goto_9, x_iconst, x_iinc7, x_istore6, klp_0, klp_1, klp_2, klp_3, klp_9, KC_0, KC_1, KC_2, KC_3, KC_4, ne_eq, not_false_eq_true, not_true_eq_false, true_and, and_true, and_self, implies_true, eq_self, true_imp_iff, false_implies, Int.reduceEq, Int.reduceNe, Int.reduceMod, Int.reduceMul, Int.reduceAdd, Int.reduceSub, Int.reduceLT, Int.reduceLE, Nat.reduceAdd, Nat.reduceLeDiff, Nat.reduceLT, Nat.reduceSub, reduceIte, wds_n, wds_0, wds_1, wds_2, wds_3, or_true, true_or, or_false, false_or, or_self, false_and, and_false, d_pos, d_s1, d_s2, d_s3, d_s4, d_s5, d_s6, d_s7, d_s8, Classical.not_not, le_T, le_F, lt_T, lt_F, w32_T]
        exact good hb _ _
      clear bad good
      have days : ∀ y9 : AV, (perF h (nx k - 1) = perF h v → rooF h (nx k - 1) ≠ rooF h v ∧ grU h k ≠ grU h i ∧ stU h k ≠ stU h i) → G fz1 d 423 6 [(3, 6603), (0, i), (0, perF h v), (0, rooF h v), (0, lsU h i), (0, stU h i), (0, 1), (0, (k : Int)), (0, lsU h k), y9] [] K Q := fun y9 hc => by
        refine G_in ?_
        by_cases q : lsU h k = lsU h i
        · by_cases q2 : dyF h (perF h (nx k - 1)) = dyF h (perF h v)
          · simp (implicitDefEqProofs := false) (disch := omega) only [b423_6, q423_6, x_aload0, x_gc_11883, x_gf_11784, x_goto_7, x_iaload, x_idiv, x_if_icmp_eq_8, x_if_icmp_ne_7, x_iload2, x_iload4, x_iload7, x_iload8, klp_0, klp_1, klp_2, klp_3, klp_9, KC_0, KC_1, KC_2, KC_3, KC_4, ne_eq, not_false_eq_true, not_true_eq_false, true_and, and_true, and_self, implies_true, eq_self, true_imp_iff, false_implies, Int.reduceEq, Int.reduceNe, Int.reduceMod, Int.reduceMul, Int.reduceAdd, Int.reduceSub, Int.reduceLT, Int.reduceLE, Nat.reduceAdd, Nat.reduceLeDiff, Nat.reduceLT, Nat.reduceSub, reduceIte, wds_n, wds_0, wds_1, wds_2, wds_3, or_true, true_or, or_false, false_or, or_self, false_and, and_false, d_pos, d_s1, d_s2, d_s3, d_s4, d_s5, d_s6, d_s7, d_s8, Classical.not_not, eq_true q, z6603_77, z12064_l, pk, d65, dz, dk, di, eq_true q2, le_T, le_F, lt_T, lt_F, w32_T]
            exact b8 (fun w => w.2 q q2) _
          · simp (implicitDefEqProofs := false) (disch := omega) only [b423_6, q423_6, x_aload0, x_gc_11883, x_gf_11784, x_goto_7, x_iaload, x_idiv, x_if_icmp_eq_8, x_if_icmp_ne_7, x_iload2, x_iload4, x_iload7, x_iload8, klp_0, klp_1, klp_2, klp_3, klp_9, KC_0, KC_1, KC_2, KC_3, KC_4, ne_eq, not_false_eq_true, not_true_eq_false, true_and, and_true, and_self, implies_true, eq_self, true_imp_iff, false_implies, Int.reduceEq, Int.reduceNe, Int.reduceMod, Int.reduceMul, Int.reduceAdd, Int.reduceSub, Int.reduceLT, Int.reduceLE, Nat.reduceAdd, Nat.reduceLeDiff, Nat.reduceLT, Nat.reduceSub, reduceIte, wds_n, wds_0, wds_1, wds_2, wds_3, or_true, true_or, or_false, false_or, or_self, false_and, and_false, d_pos, d_s1, d_s2, d_s3, d_s4, d_s5, d_s6, d_s7, d_s8, Classical.not_not, eq_true q, z6603_77, z12064_l, pk, d65, dz, dk, di, q2, le_T, le_F, lt_T, lt_F, w32_T]
            exact b7 ⟨hc, fun _ => q2⟩ _
        · simp (implicitDefEqProofs := false) (disch := omega) only [b423_6, q423_6, x_aload0, x_gc_11883, x_gf_11784, x_goto_7, x_iaload, x_idiv, x_if_icmp_eq_8, x_if_icmp_ne_7, x_iload2, x_iload4, x_iload7, x_iload8, klp_0, klp_1, klp_2, klp_3, klp_9, KC_0, KC_1, KC_2, KC_3, KC_4, ne_eq, not_false_eq_true, not_true_eq_false, true_and, and_true, and_self, implies_true, eq_self, true_imp_iff, false_implies, Int.reduceEq, Int.reduceNe, Int.reduceMod, Int.reduceMul, Int.reduceAdd, Int.reduceSub, Int.reduceLT, Int.reduceLE, Nat.reduceAdd, Nat.reduceLeDiff, Nat.reduceLT, Nat.reduceSub, reduceIte, wds_n, wds_0, wds_1, wds_2, wds_3, or_true, true_or, or_false, false_or, or_self, false_and, and_false, d_pos, d_s1, d_s2, d_s3, d_s4, d_s5, d_s6, d_s7, d_s8, Classical.not_not, q, le_T, le_F, lt_T, lt_F, w32_T]
          exact b7 ⟨hc, fun w => absurd w q⟩ _
      refine G_in ?_
      by_cases q : perF h (nx k - 1) = perF h v
      · simp (implicitDefEqProofs := false) (disch := omega) only [b423_3, x_aload0, x_gc_11875, x_gc_11883, x_goto_5, x_iaload, x_iconst, x_ifCond_eq_10, x_if_icmp_ge_10, x_if_icmp_ne_4, x_iload1, x_iload2, x_iload6, x_iload7, x_istore8, klp_0, klp_1, klp_2, klp_3, klp_9, KC_0, KC_1, KC_2, KC_3, KC_4, ne_eq, not_false_eq_true, not_true_eq_false, true_and, and_true, and_self, implies_true, eq_self, true_imp_iff, false_implies, Int.reduceEq, Int.reduceNe, Int.reduceMod, Int.reduceMul, Int.reduceAdd, Int.reduceSub, Int.reduceLT, Int.reduceLE, Nat.reduceAdd, Nat.reduceLeDiff, Nat.reduceLT, Nat.reduceSub, reduceIte, wds_n, wds_0, wds_1, wds_2, wds_3, or_true, true_or, or_false, false_or, or_self, false_and, and_false, d_pos, d_s1, d_s2, d_s3, d_s4, d_s5, d_s6, d_s7, d_s8, Classical.not_not, z6603_76, z12000_l, l12, z6603_77, z12064_l, pk, eq_true q, le_T, le_F, lt_T, lt_F, w32_T]
        refine G_in ?_
        simp (implicitDefEqProofs := false) (disch := omega) only [b423_5, q423_5, x_aload0, x_gc_11891, x_gc_12347, x_gc_12355, x_gf_11339, x_goto_6, x_iaload, x_ifCond_eq_6, x_if_icmp_eq_8, x_iload3, x_iload4, x_iload5, x_iload7, x_iload8, x_iload9, x_istore9, klp_0, klp_1, klp_2, klp_3, klp_9, KC_0, KC_1, KC_2, KC_3, KC_4, ne_eq, not_false_eq_true, not_true_eq_false, true_and, and_true, and_self, implies_true, eq_self, true_imp_iff, false_implies, Int.reduceEq, Int.reduceNe, Int.reduceMod, Int.reduceMul, Int.reduceAdd, Int.reduceSub, Int.reduceLT, Int.reduceLE, Nat.reduceAdd, Nat.reduceLeDiff, Nat.reduceLT, Nat.reduceSub, reduceIte, wds_n, wds_0, wds_1, wds_2, wds_3, or_true, true_or, or_false, false_or, or_self, false_and, and_false, d_pos, d_s1, d_s2, d_s3, d_s4, d_s5, d_s6, d_s7, d_s8, Classical.not_not, z6603_78, z12128_l, rk, d9, r7 hS, r7l hS, r7k hS, r8 hS, r8l hS, r8k hS, TR_0 hS, TR_k hS, gk, gi, sk, le_T, le_F, lt_T, lt_F, w32_T]
        by_cases r1 : rooF h (nx k - 1) = rooF h v
        · exact ⟨fun _ => b8 (fun w => (w.1 q).1 r1) _, fun w => absurd r1 w⟩
        · refine ⟨fun w => absurd w r1, fun _ => ?_⟩
          by_cases r2 : grU h k = grU h i
          · exact ⟨fun _ => b8 (fun w => (w.1 q).2.1 r2) _, fun w => absurd r2 w⟩
          · refine ⟨fun w => absurd w r2, fun _ => ?_⟩
            by_cases r3 : stU h k = stU h i
            · exact ⟨fun _ => b8 (fun w => (w.1 q).2.2 r3) _, fun w => absurd r3 w⟩
            · exact ⟨fun w => absurd w r3, fun _ => days _ (fun _ => ⟨r1, r2, r3⟩)⟩
      · simp (implicitDefEqProofs := false) (disch := omega) only [b423_3, b423_4, q423_4, x_aload0, x_gc_11875, x_gc_11883, x_goto_5, x_iaload, x_iconst, x_ifCond_eq_10, x_if_icmp_ge_10, x_if_icmp_ne_4, x_iload1, x_iload2, x_iload6, x_iload7, x_istore8, klp_0, klp_1, klp_2, klp_3, klp_9, KC_0, KC_1, KC_2, KC_3, KC_4, ne_eq, not_false_eq_true, not_true_eq_false, true_and, and_true, and_self, implies_true, eq_self, true_imp_iff, false_implies, Int.reduceEq, Int.reduceNe, Int.reduceMod, Int.reduceMul, Int.reduceAdd, Int.reduceSub, Int.reduceLT, Int.reduceLE, Nat.reduceAdd, Nat.reduceLeDiff, Nat.reduceLT, Nat.reduceSub, reduceIte, wds_n, wds_0, wds_1, wds_2, wds_3, or_true, true_or, or_false, false_or, or_self, false_and, and_false, d_pos, d_s1, d_s2, d_s3, d_s4, d_s5, d_s6, d_s7, d_s8, Classical.not_not, z6603_76, z12000_l, l12, z6603_77, z12064_l, pk, q, le_T, le_F, lt_T, lt_F, w32_T]
        refine G_in ?_
        simp (implicitDefEqProofs := false) (disch := omega) only [b423_5, q423_5, x_aload0, x_gc_11891, x_gc_12347, x_gc_12355, x_gf_11339, x_goto_6, x_iaload, x_ifCond_eq_6, x_if_icmp_eq_8, x_iload3, x_iload4, x_iload5, x_iload7, x_iload8, x_iload9, x_istore9, klp_0, klp_1, klp_2, klp_3, klp_9, KC_0, KC_1, KC_2, KC_3, KC_4, ne_eq, not_false_eq_true, not_true_eq_false, true_and, and_true, and_self, implies_true, eq_self, true_imp_iff, false_implies, Int.reduceEq, Int.reduceNe, Int.reduceMod, Int.reduceMul, Int.reduceAdd, Int.reduceSub, Int.reduceLT, Int.reduceLE, Nat.reduceAdd, Nat.reduceLeDiff, Nat.reduceLT, Nat.reduceSub, reduceIte, wds_n, wds_0, wds_1, wds_2, wds_3, or_true, true_or, or_false, false_or, or_self, false_and, and_false, d_pos, d_s1, d_s2, d_s3, d_s4, d_s5, d_s6, d_s7, d_s8, Classical.not_not, le_T, le_F, lt_T, lt_F, w32_T]
        exact days _ (fun w => absurd w q)
theorem s423 {d : Nat} {h K0 K : HV} {Q : Int → HV → Prop} {i v : Int} {nx : Int → Int} (S : SRb h) (F : RFr h K0 K) (hi : 0 ≤ i ∧ i < h (h 64 8) 11) (hv : 0 ≤ v ∧ v < plB h) (hP : ∀ u, 0 ≤ u → u < i → K 12064 u = perF h (nx u - 1) ∧ K 12128 u = rooF h (nx u - 1)) : Sp fz1 d 423 [(3, 6603), (0, i), (0, perF h v), (0, rooF h v)] K Q = Q (fiK h nx i v i.toNat) K := by
  have hS := S.1.1.2.1
  have hN := S.1.2.1.1
  have X1 := rtx_1 S.1.1
  have X3 := rtx_3 S.1.1
  have d9 : K 6603 9 = h 6603 9 := F.2.1 9 (by decide) (by decide) (by decide) (by decide) (by decide)
  have lbi := les_b S.1.1 S.1.2.1 hi
  have ubi := un_b4 S.1 hi
  have pb := pv_b S.1 hv
  have l12 := F.2.2.1 i hi.1 hi.2
  have gb3 := (S.1.2.2.2.2.1.2 _ lbi.1 lbi.2).2
  have gi : K (h 6603 9 + 532) (lsU h i) = grU h i := by rw [rf_R S F (by decide) (by decide)]; exact (S.1.2.2.2.2.1.2 _ lbi.1 lbi.2).1
  have si : K (h 6603 9 + 596) (lsU h i) = stU h i := by rw [rf_R S F (by decide) (by decide)]; exact (S.1.2.2.2.1.2 _ lbi.1 lbi.2).2.2.1
  have rp : K (h 6603 9 + 212) (rooF h v) = h (h 64 8 + 662) (rooF h v) := by rw [rf_R S F (by decide) (by decide)]; exact S.1.2.2.2.2.1.1 _ pb.2.2.1.1 pb.2.2.1.2
  have gz : K (h 6603 9 + 404) (grU h i) = h (h 64 8 + 854) (grU h i) := by rw [rf_R S F (by decide) (by decide)]; exact S.2.1 _ gb3.1 gb3.2
  have bE : K 11680 (stU h i) = h 2016 (stU h i) := by rw [rf_a F (by unfold RLb; decide) (by unfold CLb; decide)]; exact S.2.2.2.2.1 _ ubi.2.1.1 (by omega)
  refine Sp_is ?_ Q
  have lp := lp423 (d := d) (Q := fun r h' => r = fiK h nx i v i.toNat ∧ h' = K) S F hi hP ⟨rfl, rfl⟩ i.toNat 0
  have f0 : fiK h nx i v 0 = if h (h 64 8 + 854) (grU h i) ≤ h (h 64 8 + 662) (rooF h v) ∧ i_and (i_shr (h 2016 (stU h i)) (perF h v)) 1 = 0 then 1 else 0 := rfl
  rw [f0] at lp
  by_cases a1 : h (h 64 8 + 854) (grU h i) ≤ h (h 64 8 + 662) (rooF h v)
  · by_cases a2 : i_and (i_shr (h 2016 (stU h i)) (perF h v)) 1 = 0
    · rw [if_pos ⟨a1, a2⟩] at lp
      simp (implicitDefEqProofs := false) (disch := omega) only [sp423, b423_0, b423_1, b423_2, q423_1, q423_2, x_aload0, x_gc_11795, x_gc_11875, x_gc_12307, x_gc_12331, x_gc_12347, x_gc_12355, x_gf_11339, x_goto_2, x_goto_3, x_iaload, x_iand, x_iconst, x_ifCond_ne_1, x_if_icmp_lt_1, x_iload1, x_iload2, x_iload3, x_iload4, x_iload5, x_ishr, x_istore4, x_istore5, x_istore6, x_istore7, klp_0, klp_1, klp_2, klp_3, klp_9, KC_0, KC_1, KC_2, KC_3, KC_4, ne_eq, not_false_eq_true, not_true_eq_false, true_and, and_true, and_self, implies_true, eq_self, true_imp_iff, false_implies, Int.reduceEq, Int.reduceNe, Int.reduceMod, Int.reduceMul, Int.reduceAdd, Int.reduceSub, Int.reduceLT, Int.reduceLE, Nat.reduceAdd, Nat.reduceLeDiff, Nat.reduceLT, Nat.reduceSub, reduceIte, wds_n, wds_0, wds_1, wds_2, wds_3, or_true, true_or, or_false, false_or, or_self, false_and, and_false, d_pos, d_s1, d_s2, d_s3, d_s4, d_s5, d_s6, d_s7, d_s8, Classical.not_not, z6603_76, z12000_l, l12, d9, r8 hS, r8l hS, r8k hS, r2 hS, r2l hS, r2k hS, r5 hS, r5l hS, r5k hS, r7 hS, r7l hS, r7k hS, TR_0 hS, TR_k hS, si, gi, rp, gz, z6603_66, z11680_l, bE, a2, le_T, le_F, lt_T, lt_F, w32_T]
      exact lp _ _ (by omega)
    · rw [if_neg (fun w => a2 w.2)] at lp
      simp (implicitDefEqProofs := false) (disch := omega) only [sp423, b423_0, b423_1, b423_2, q423_1, q423_2, x_aload0, x_gc_11795, x_gc_11875, x_gc_12307, x_gc_12331, x_gc_12347, x_gc_12355, x_gf_11339, x_goto_2, x_goto_3, x_iaload, x_iand, x_iconst, x_ifCond_ne_1, x_if_icmp_lt_1, x_iload1, x_iload2, x_iload3, x_iload4, x_iload5, x_ishr, x_istore4, x_istore5, x_istore6, x_istore7, klp_0, klp_1, klp_2, klp_3, klp_9, KC_0, KC_1, KC_2, KC_3, KC_4, ne_eq, not_false_eq_true, not_true_eq_false, true_and, and_true, and_self, implies_true, eq_self, true_imp_iff, false_implies, Int.reduceEq, Int.reduceNe, Int.reduceMod, Int.reduceMul, Int.reduceAdd, Int.reduceSub, Int.reduceLT, Int.reduceLE, Nat.reduceAdd, Nat.reduceLeDiff, Nat.reduceLT, Nat.reduceSub, reduceIte, wds_n, wds_0, wds_1, wds_2, wds_3, or_true, true_or, or_false, false_or, or_self, false_and, and_false, d_pos, d_s1, d_s2, d_s3, d_s4, d_s5, d_s6, d_s7, d_s8, Classical.not_not, z6603_76, z12000_l, l12, d9, r8 hS, r8l hS, r8k hS, r2 hS, r2l hS, r2k hS, r5 hS, r5l hS, r5k hS, r7 hS, r7l hS, r7k hS, TR_0 hS, TR_k hS, si, gi, rp, gz, z6603_66, z11680_l, bE, a2, le_T, le_F, lt_T, lt_F, w32_T]
      exact lp _ _ (by omega)
  · rw [if_neg (fun w => a1 w.1)] at lp
    simp (implicitDefEqProofs := false) (disch := omega) only [sp423, b423_0, b423_1, b423_2, q423_1, q423_2, x_aload0, x_gc_11795, x_gc_11875, x_gc_12307, x_gc_12331, x_gc_12347, x_gc_12355, x_gf_11339, x_goto_2, x_goto_3, x_iaload, x_iand, x_iconst, x_ifCond_ne_1, x_if_icmp_lt_1, x_iload1, x_iload2, x_iload3, x_iload4, x_iload5, x_ishr, x_istore4, x_istore5, x_istore6, x_istore7, klp_0, klp_1, klp_2, klp_3, klp_9, KC_0, KC_1, KC_2, KC_3, KC_4, ne_eq, not_false_eq_true, not_true_eq_false, true_and, and_true, and_self, implies_true, eq_self, true_imp_iff, false_implies, Int.reduceEq, Int.reduceNe, Int.reduceMod, Int.reduceMul, Int.reduceAdd, Int.reduceSub, Int.reduceLT, Int.reduceLE, Nat.reduceAdd, Nat.reduceLeDiff, Nat.reduceLT, Nat.reduceSub, reduceIte, wds_n, wds_0, wds_1, wds_2, wds_3, or_true, true_or, or_false, false_or, or_self, false_and, and_false, d_pos, d_s1, d_s2, d_s3, d_s4, d_s5, d_s6, d_s7, d_s8, Classical.not_not, z6603_76, z12000_l, l12, d9, r8 hS, r8l hS, r8k hS, r2 hS, r2l hS, r2k hS, r5 hS, r5l hS, r5k hS, r7 hS, r7l hS, r7k hS, TR_0 hS, TR_k hS, si, gi, rp, gz, z6603_66, z11680_l, bE, le_T, le_F, lt_T, lt_F, w32_T]
    exact lp _ _ (by omega)
