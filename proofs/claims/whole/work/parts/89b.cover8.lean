/-! THE PURE SIDE, 72: cover: printed by wip/tools/gen89b.py -/
/-- what both halves read of the school when they cover -/
def EC (h K : HV) : Prop := K 64 = h 64 ∧ K 2528 = h 2528 ∧ K 2656 = h 2656 ∧ K 2016 = h 2016 ∧ K (h 64 8 + 598) = h (h 64 8 + 598) ∧ K (h 64 8 + 1174) = h (h 64 8 + 1174) ∧ K (h 64 8 + 1046) = h (h 64 8 + 1046) ∧ K (h 6603 9 + 340) = h (h 6603 9 + 340) ∧ K (h 6603 9 + 468) = h (h 6603 9 + 468) ∧ K 6603 9 = h 6603 9 ∧ K (h 64 8) = h (h 64 8)
theorem ec_pe {h K : HV} (E : EC h K) (u : Int) : peU K u = peU h u := by
  obtain ⟨e1, e2, e3, e4, e5, e6, e7, e8, e9, e10, e11⟩ := E
  unfold peU perF
  rw [e1, e2, e5]
theorem ec_ls {h K : HV} (E : EC h K) (u : Int) : lsU K u = lsU h u := by
  obtain ⟨e1, e2, e3, e4, e5, e6, e7, e8, e9, e10, e11⟩ := E
  unfold lsU
  rw [e1, e6]
theorem ec_st {h K : HV} (E : EC h K) (u : Int) : stU K u = stU h u := by
  have l := ec_ls E u
  obtain ⟨e1, e2, e3, e4, e5, e6, e7, e8, e9, e10, e11⟩ := E
  unfold stU
  rw [l, e1, e7]
theorem ec_ab {h K : HV} (E : EC h K) (p s : Int) : abB K p s = abB h p s := by unfold abB; rw [E.2.2.1]
theorem ec_bb {h K : HV} (E : EC h K) (p s : Int) : baB K p s = baB h p s := by unfold baB; rw [E.2.2.2.1]
theorem ec_cn {h K : HV} (E : EC h K) (p : Int) : ∀ j : Nat, cnO K p j = cnO h p j
  | 0 => rfl
  | j + 1 => by rw [cnO, cnO, ec_pe E, ec_st E, ec_ab E, ec_cn E p j]
theorem ec_ar {h K : HV} (E : EC h K) (p : Int) : ∀ (j : Nat) (k : Int), arO K p j k = arO h p j k
  | 0, _ => rfl
  | j + 1, k => by rw [arO, arO, ec_pe E, ec_st E, ec_ab E, ec_cn E, ec_ar E p j]
theorem ec_fr {h K : HV} (E : EC h K) (p s : Int) : ∀ j : Nat, frN K p s j = frN h p s j
  | 0 => by rw [frN, frN, ec_ab E, ec_bb E]
  | j + 1 => by rw [frN, frN, ec_fr E p s j, ec_pe E, ec_st E]
theorem ec_mk {h K : HV} (E : EC h K) (p : Int) (n : Nat) : ∀ s : Nat, mkN K p n s = mkN h p n s
  | 0 => rfl
  | s + 1 => by rw [mkN, mkN, ec_fr E, ec_mk E p n s]
theorem ec_n {h K : HV} (E : EC h K) (p : Int) : nO K p = nO h p := by
  unfold nO
  rw [E.1, E.2.2.2.2.2.2.2.2.2.2, ec_cn E]
theorem ec_m {h K : HV} (E : EC h K) (p : Int) : mO K p = mO h p := by
  unfold mO
  rw [E.1, E.2.2.2.2.2.2.2.2.2.2, E.2.2.2.2.1, ec_mk E]
theorem ec_t {h K : HV} (E : EC h K) (p : Int) : tO K p = tO h p := by
  funext r s
  unfold tO tCv
  rw [ec_ls E, ec_ar E, ec_n E, E.1, E.2.2.2.2.2.2.2.2.2.2, E.2.2.2.2.2.2.2.2.2.1, E.2.2.2.2.2.2.2.1, E.2.2.2.2.2.2.2.2.1]
theorem ec_coA {h K : HV} (E : EC h K) (p : Int) (n N : Nat) (t : Nat → Nat → Int) (m : Nat) : ∀ (k : Nat) (u : Int), coA K p n N t m k u = coA h p n N t m k u
  | 0, _ => rfl
  | k + 1, u => by rw [coA, coA, ec_ar E, ec_coA E p n N t m k u]
theorem ec_co {h K : HV} (E : EC h K) (p : Int) (k : Nat) (u : Int) : cO K p k u = cO h p k u := by
  unfold cO
  rw [ec_coA E, ec_n E, ec_t E, ec_m E, E.1, E.2.2.2.2.2.2.2.2.2.2]
theorem s440 {d : Nat} {h K : HV} {Q : Int → HV → Prop} {p : Int} (hp : 0 ≤ p ∧ p < 5 * h 6603 65) (h65 : 1 ≤ h 6603 65 ∧ h 6603 65 ≤ 4) (hf : ¬ h 6603 69 = 0) (X : RTx h) (U : RTu h) (eK : K = unP h (h (h 64 8) 11)) (C : CvK K)
    (nx : ∀ H : HV, (∀ a, a ≠ 6603 ∧ a ≠ 12896 ∧ a ≠ 12960 ∧ a ≠ 13024 → H a = K a) → (∀ s, s ≠ 93 → s ≠ 71 → H 6603 s = K 6603 s) → H 6603 71 = 1 → (∀ u, 0 ≤ u → u < K (K 64 8) 11 → H 12896 u = cO K p (nO K p) u) → Q ((nO K p : Int) - FCv (tO K p) (nO K p) (mO K p)) H) : Sp fz1 (d + 2) 440 [(3, 6603), (0, p)] h Q := by
  have hS := X.2.1
  have hT := X.1
  have X2 := rtx_2 X
  have n6 := no_6 (p := p) C
  have hN := U.1
  have uA : RTx (hset h 6603 93 0) ∧ RTu (hset h 6603 93 0) ∧ (hset h 6603 93 0) (hset h 6603 93 0 64 8) 11 = h (h 64 8) 11 := by
    have a1 : hset h 6603 93 0 64 = h 64 := hs_ne (by decide)
    have a2 : hset h 6603 93 0 6603 9 = h 6603 9 := by rw [hset_v, if_neg (by omega)]
    have a3 : hset h 6603 93 0 (h 64 8) = h (h 64 8) := hs_ne (by rcases hT with w | w <;> omega)
    have a4 : hset h 6603 93 0 (h 64 8 + 598) = h (h 64 8 + 598) := hs_ne (by rcases hT with w | w <;> omega)
    have a5 : hset h 6603 93 0 (h 64 8 + 1174) = h (h 64 8 + 1174) := hs_ne (by rcases hT with w | w <;> omega)
    have a6 : hset h 6603 93 0 (h 6603 9 + 84) = h (h 6603 9 + 84) := hs_ne (by rcases hS with w | w <;> omega)
    have a7 : hset h 6603 93 0 (h 6603 9 + 660) = h (h 6603 9 + 660) := hs_ne (by rcases hS with w | w <;> omega)
    have a8 : lsT (hset h 6603 93 0) = lsT h := by funext l; unfold lsT; rw [a2, a7]
    refine ⟨?_, ?_, by rw [a1, a3]⟩
    · unfold RTx
      rw [a1, a2, a4, a6]
      exact X
    · unfold RTu
      rw [a8, a1, a3, a4, a5]
      exact U
  have k64 : K 64 = h 64 := by rw [eK]; exact unP_ne (by decide)
  have kU : K (K 64 8) 11 = h (h 64 8) 11 := by rw [k64, eK, unP_ne (by rcases hT with w | w <;> omega)]
  obtain ⟨K0, hK0⟩ : ∃ K0, K0 = unP (hset h 6603 93 0) (h (h 64 8) 11) := ⟨_, rfl⟩
  have fK0 : ∀ a, a ≠ 6603 → K0 a = K a := fun a ha => by
    funext i
    have hT1 : hset h 6603 93 0 64 = h 64 := hs_ne (by decide)
    rw [hK0, eK, unP_v, unP_v, hT1, hs_ne (a := h 64 8 + 1174) (by rcases hT with w | w <;> omega), hs_ne ha]
  have F0 : RvF K K0 := ⟨fun a q => fK0 a q.1, fun s hs => by
    rw [hK0, eK, unP_ne (by decide), unP_ne (by decide), hset_v, if_neg (fun w => hs w.2)]⟩
  have z0 : K0 6603 93 = 0 := by rw [hK0, unP_ne (by decide), hset_v, if_pos ⟨rfl, rfl⟩]
  have g1 : (if (0 : Int) ≤ p ∧ p ≤ 5 * h 6603 65 - 1 then (1 : Int) else 0) = 1 := if_pos (by omega)
  have rU := s422 (d := d + 1) (Q := KC fz1 (d + 2) 440 Q [Instr.istore 2, Instr.iconst 0, Instr.istore 3, Instr.goto 3] [(3, 6603), (0, p), (9, 0), (9, 0), (9, 0), (9, 0), (9, 0), (9, 0), (9, 0)] [] 0) uA.1 uA.2.1
  rw [uA.2.2, ← hK0] at rU
  simp (implicitDefEqProofs := false) (disch := omega) only [sp440, b440_0, b440_1, b440_2, q440_1, q440_2, x_aload0, y_call369, y_call422, x_gf_11784, x_gf_11820, x_goto_3, x_iconst, x_ifCond_ne_1, x_ifCond_ne_2, x_iload1, x_imul, x_ireturn, x_istore2, x_istore3, x_isub, x_pf_12008, klp_0, klp_1, klp_2, klp_3, klp_9, KC_0, KC_1, KC_2, KC_3, KC_4, ne_eq, not_false_eq_true, not_true_eq_false, true_and, and_true, and_self, implies_true, eq_self, true_imp_iff, false_implies, Int.reduceEq, Int.reduceNe, Int.reduceMod, Int.reduceMul, Int.reduceAdd, Int.reduceSub, Int.reduceLT, Int.reduceLE, Nat.reduceAdd, Nat.reduceLeDiff, Nat.reduceLT, Nat.reduceSub, reduceIte, wds_n, wds_0, wds_1, wds_2, wds_3, or_true, true_or, or_false, false_or, or_self, false_and, and_false, d_pos, d_s1, d_s2, d_s3, d_s4, d_s5, d_s6, d_s7, d_s8, Classical.not_not, s369, g1, hf, le_T, le_F, lt_T, lt_F, w32_T]
  rw [rU]
  simp (implicitDefEqProofs := false) (disch := omega) only [b440_2, q440_2, x_aload0, y_call422, x_goto_3, x_iconst, x_istore2, x_istore3, x_pf_12008, klp_0, klp_1, klp_2, klp_3, klp_9, KC_0, KC_1, KC_2, KC_3, KC_4, ne_eq, not_false_eq_true, not_true_eq_false, true_and, and_true, and_self, implies_true, eq_self, true_imp_iff, false_implies, Int.reduceEq, Int.reduceNe, Int.reduceMod, Int.reduceMul, Int.reduceAdd, Int.reduceSub, Int.reduceLT, Int.reduceLE, Nat.reduceAdd, Nat.reduceLeDiff, Nat.reduceLT, Nat.reduceSub, reduceIte, wds_n, wds_0, wds_1, wds_2, wds_3, or_true, true_or, or_false, false_or, or_self, false_and, and_false, d_pos, d_s1, d_s2, d_s3, d_s4, d_s5, d_s6, d_s7, d_s8, Classical.not_not, le_T, le_F, lt_T, lt_F, w32_T]
  rw [← kU]
  have p31 : 0 ≤ p ∧ p < 31 := by omega
  refine lp440o p31 C F0 z0 (fun H F e6 eA e9 z => ?_)
  have O : RvO K H p := ⟨F, e6, eA⟩
  have f441 : CvK H := by
    obtain ⟨c1, c2, c3, c4, c5, c6, c7, c8, c9⟩ := C
    have kT := c1.1
    have kS := c1.2.1
    have a0 : H 64 = K 64 := F.1 _ (by decide)
    have a1 : H 6603 9 = K 6603 9 := F.2 9 (by decide)
    have tf : ∀ x, 0 ≤ x → x < 1200 → H (K 64 8 + x) = K (K 64 8 + x) := fun x x0 x1 => F.1 _ (by rcases kT with w | w <;> omega)
    have a9 : H (K 64 8) = K (K 64 8) := by have := tf 0 (by decide) (by decide); rw [Int.add_zero] at this; exact this
    have rf : ∀ x, 0 ≤ x → x < 1200 → H (K 6603 9 + x) = K (K 6603 9 + x) := fun x x0 x1 => F.1 _ (by rcases kS with w | w <;> omega)
    have l0 : lsT H = lsT K := by funext l; unfold lsT; rw [a1, rf 660 (by decide) (by decide)]
    have p0 : ∀ u, peU H u = peU K u := fun u => by unfold peU perF; rw [a0, tf 598 (by decide) (by decide), F.1 2528 (by decide)]
    refine ⟨?_, ?_, ?_, ?_, ?_, ?_, ?_, ?_, ?_⟩
    · unfold RTx; rw [a0, a1, tf 598 (by decide) (by decide), rf 84 (by decide) (by decide)]; exact c1
    · unfold RTu; rw [l0, a0, a9, tf 598 (by decide) (by decide), tf 1174 (by decide) (by decide)]; exact c2
    · rw [a0, a9]
      funext a i
      rw [unP_v, a0, tf 1174 (by decide) (by decide)]
      by_cases q : a = 12000 ∧ 0 ≤ i ∧ i < K (K 64 8) 11
      · rw [if_pos q, q.1, F.1 12000 (by decide)]
        exact (cvk_12 ⟨c1, c2, c3, c4, c5, c6, c7, c8, c9⟩ q.2).symm
      · rw [if_neg q]
    · unfold RTl; rw [a0, a1, tf 598 (by decide) (by decide), tf 790 (by decide) (by decide), tf 918 (by decide) (by decide), tf 1046 (by decide) (by decide), rf 340 (by decide) (by decide), rf 468 (by decide) (by decide), rf 596 (by decide) (by decide)]; exact c4
    · rw [F.1 11744 (by decide), F.1 2656 (by decide)]; exact c5
    · rw [F.1 11680 (by decide), F.1 2016 (by decide)]; exact c6
    · rw [a0, a9, F.1 11872 (by decide)]; exact fun u u0 u1 => by rw [p0]; exact c7 u u0 u1
    · unfold RTi; rw [a0, a9, F.1 1927 (by decide), F.1 2528 (by decide), tf 598 (by decide) (by decide)]; exact c8
    · rw [F.1 1927 (by decide)]; exact c9
  have mE : mkN H p (H (H 64 8) 11).toNat (H (H 64 8 + 598) 2).toNat = mO K p := by
    have kT := C.1.1
    have kS := C.1.2.1
    have E : EC K H := ⟨F.1 _ (by decide), F.1 _ (by decide), F.1 _ (by decide), F.1 _ (by decide), F.1 _ (by rcases kT with w | w <;> omega), F.1 _ (by rcases kT with w | w <;> omega), F.1 _ (by rcases kT with w | w <;> omega), F.1 _ (by rcases kS with w | w <;> omega), F.1 _ (by rcases kS with w | w <;> omega), F.2 9 (by decide), F.1 _ (by rcases kT with w | w <;> omega)⟩
    exact ec_m E p
  have r441 := fun (Q : Int → HV → Prop) => s441 (d := d) (Q := Q) (p := p) f441
  rw [mE] at r441
  have m1024 : mO K p < 1024 := mk_lt _ (by have := rtx_2 C.1; omega)
  have o6 := O.2.1
  refine G_in ?_
  simp (implicitDefEqProofs := false) (disch := omega) only [b440_5, q440_5, x_aload0, y_call441, x_gf_12008, x_goto_6, x_iload1, x_istore3, x_istore4, klp_0, klp_1, klp_2, klp_3, klp_9, KC_0, KC_1, KC_2, KC_3, KC_4, ne_eq, not_false_eq_true, not_true_eq_false, true_and, and_true, and_self, implies_true, eq_self, true_imp_iff, false_implies, Int.reduceEq, Int.reduceNe, Int.reduceMod, Int.reduceMul, Int.reduceAdd, Int.reduceSub, Int.reduceLT, Int.reduceLE, Nat.reduceAdd, Nat.reduceLeDiff, Nat.reduceLT, Nat.reduceSub, reduceIte, wds_n, wds_0, wds_1, wds_2, wds_3, or_true, true_or, or_false, false_or, or_self, false_and, and_false, d_pos, d_s1, d_s2, d_s3, d_s4, d_s5, d_s6, d_s7, d_s8, Classical.not_not, r441, o6, le_T, le_F, lt_T, lt_F, w32_T]
  have dp := lp440d (d := d + 1) (Q := Q) (p := p) (l2 := K (K 64 8) 11) (l3 := (mO K p : Int)) C (nO K p + 1) H
  rw [show ((nO K p + 1 : Nat) : Int) - 1 = nO K p by omega] at dp
  refine dp _ _ _ _ (Nat.le_refl _) O (fun i' m' a1 a2 a3 => by omega) (fun H2 O2 D2 e2 y4 y5 y6 y7 y8 => ?_)
  have v0 := D2 0 (mO K p) (Nat.le_refl _) (by omega) m1024
  rw [show 1024 * ((0 : Nat) : Int) + (mO K p : Int) = mO K p by omega, Nat.sub_zero] at v0
  have fb := FCv_b (t := tO K p) (nO K p) (mO K p)
  refine G_in ?_
  simp (implicitDefEqProofs := false) (disch := omega) only [b440_16, q440_16, x_aload0, x_gc_12019, x_goto_17, x_iaload, x_iconst, x_iload3, x_iload4, x_istore4, x_istore5, x_istore6, klp_0, klp_1, klp_2, klp_3, klp_9, KC_0, KC_1, KC_2, KC_3, KC_4, ne_eq, not_false_eq_true, not_true_eq_false, true_and, and_true, and_self, implies_true, eq_self, true_imp_iff, false_implies, Int.reduceEq, Int.reduceNe, Int.reduceMod, Int.reduceMul, Int.reduceAdd, Int.reduceSub, Int.reduceLT, Int.reduceLE, Nat.reduceAdd, Nat.reduceLeDiff, Nat.reduceLT, Nat.reduceSub, reduceIte, wds_n, wds_0, wds_1, wds_2, wds_3, or_true, true_or, or_false, false_or, or_self, false_and, and_false, d_pos, d_s1, d_s2, d_s3, d_s4, d_s5, d_s6, d_s7, d_s8, Classical.not_not, z6603_94, z13024_l, v0, le_T, le_F, lt_T, lt_F, w32_T]
  refine lp440f C m1024 O2 D2 (fun u u0 u1 => by rw [e2]; exact e9 u u0 u1) (fun H3 f3 v3 y3 y5 y6 y7 y8 => ?_)
  have o63 : H3 6603 93 = nO K p := by rw [f3 _ (by decide)]; exact O2.2.1
  have q63 : hset H3 6603 71 1 6603 93 = nO K p := by rw [hset_v, if_neg (by omega)]; exact o63
  refine G_in ?_
  simp (implicitDefEqProofs := false) (disch := omega) only [b440_21, q440_21, x_aload0, x_gf_12008, x_iconst, x_iload4, x_ireturn, x_isub, x_pf_11836, klp_0, klp_1, klp_2, klp_3, klp_9, KC_0, KC_1, KC_2, KC_3, KC_4, ne_eq, not_false_eq_true, not_true_eq_false, true_and, and_true, and_self, implies_true, eq_self, true_imp_iff, false_implies, Int.reduceEq, Int.reduceNe, Int.reduceMod, Int.reduceMul, Int.reduceAdd, Int.reduceSub, Int.reduceLT, Int.reduceLE, Nat.reduceAdd, Nat.reduceLeDiff, Nat.reduceLT, Nat.reduceSub, reduceIte, wds_n, wds_0, wds_1, wds_2, wds_3, or_true, true_or, or_false, false_or, or_self, false_and, and_false, d_pos, d_s1, d_s2, d_s3, d_s4, d_s5, d_s6, d_s7, d_s8, Classical.not_not, q63, le_T, le_F, lt_T, lt_F, w32_T]
  refine nx _ (fun a q => by rw [hs_ne q.1, f3 a q.2.1]; exact O2.1.1 a q) (fun s s1 s2 => by rw [hset_v, if_neg (fun w => s2 w.2), f3 _ (by decide)]; exact O2.1.2 s s1) (by rw [hset_v, if_pos ⟨rfl, rfl⟩]) (fun u u0 u1 => by rw [hs_ne (by decide)]; exact v3 u u0 u1)
theorem s308a {d : Nat} {h : HV} {Q : Int → HV → Prop} {p : Int} (hp : 1 ≤ h 1927 1 ∧ h 1927 1 ≤ 4) (hg : ¬ (0 ≤ p ∧ p < 5 * h 1927 1)) : Sp fz1 (d + 2) 308 [(3, 64), (0, p)] h Q = Q (-1) h := by
  simp (implicitDefEqProofs := false) (disch := omega) only [sp308, b308_0, b308_1, b308_2, q308_1, q308_2, x_aload0, y_call246, y_call265, y_call309, x_gc_43, x_gc_51, x_iconst, x_ifCond_ne_1, x_ifCond_ne_2, x_iload1, x_ireturn, klp_0, klp_1, klp_2, klp_3, klp_9, KC_0, KC_1, KC_2, KC_3, KC_4, ne_eq, not_false_eq_true, not_true_eq_false, true_and, and_true, and_self, implies_true, eq_self, true_imp_iff, false_implies, Int.reduceEq, Int.reduceNe, Int.reduceMod, Int.reduceMul, Int.reduceAdd, Int.reduceSub, Int.reduceLT, Int.reduceLE, Nat.reduceAdd, Nat.reduceLeDiff, Nat.reduceLT, Nat.reduceSub, reduceIte, wds_n, wds_0, wds_1, wds_2, wds_3, or_true, true_or, or_false, false_or, or_self, false_and, and_false, d_pos, d_s1, d_s2, d_s3, d_s4, d_s5, d_s6, d_s7, d_s8, Classical.not_not, z64_5, z64_6, s246 hp, if_neg hg, le_sub1, le_T, le_F, lt_T, lt_F, eq_F, w32_T, bz0, bz1, lc_le, lc_ge, lc_lt, lc_gt, lc_eq] <;> first | rfl | (rw [if_pos (by omega)] <;> rfl) | (rw [if_neg (by omega)] <;> rfl) | (exfalso; omega)
theorem s308b {d : Nat} {h : HV} {Q : Int → HV → Prop} {p : Int} (hp : 1 ≤ h 1927 1 ∧ h 1927 1 ≤ 4) (hg : 0 ≤ p ∧ p < 5 * h 1927 1) (hf : 0 ≤ h 1927 13 ∧ h 1927 13 ≤ 1) (h0 : h 1927 13 = 0) : Sp fz1 (d + 2) 308 [(3, 64), (0, p)] h Q = Q (-2) h := by
  simp (implicitDefEqProofs := false) (disch := omega) only [sp308, b308_0, b308_1, b308_2, q308_1, q308_2, x_aload0, y_call246, y_call265, y_call309, x_gc_43, x_gc_51, x_iconst, x_ifCond_ne_1, x_ifCond_ne_2, x_iload1, x_ireturn, klp_0, klp_1, klp_2, klp_3, klp_9, KC_0, KC_1, KC_2, KC_3, KC_4, ne_eq, not_false_eq_true, not_true_eq_false, true_and, and_true, and_self, implies_true, eq_self, true_imp_iff, false_implies, Int.reduceEq, Int.reduceNe, Int.reduceMod, Int.reduceMul, Int.reduceAdd, Int.reduceSub, Int.reduceLT, Int.reduceLE, Nat.reduceAdd, Nat.reduceLeDiff, Nat.reduceLT, Nat.reduceSub, reduceIte, wds_n, wds_0, wds_1, wds_2, wds_3, or_true, true_or, or_false, false_or, or_self, false_and, and_false, d_pos, d_s1, d_s2, d_s3, d_s4, d_s5, d_s6, d_s7, d_s8, Classical.not_not, z64_5, z64_6, s246 hp, if_pos hg, s265e hf, h0, le_sub1, le_T, le_F, lt_T, lt_F, eq_F, w32_T, bz0, bz1, lc_le, lc_ge, lc_lt, lc_gt, lc_eq] <;> first | rfl | (rw [if_pos (by omega)] <;> rfl) | (rw [if_neg (by omega)] <;> rfl) | (exfalso; omega)
theorem s440a {d : Nat} {h : HV} {Q : Int → HV → Prop} {p : Int} (hp : 1 ≤ h 6603 65 ∧ h 6603 65 ≤ 4) (hg : ¬ (0 ≤ p ∧ p < 5 * h 6603 65)) : Sp fz1 (d + 2) 440 [(3, 6603), (0, p)] h Q = Q (-1) h := by
  simp (implicitDefEqProofs := false) (disch := omega) only [sp440, b440_0, b440_1, b440_2, b440_3, b440_4, b440_5, b440_6, b440_7, b440_8, b440_9, b440_10, b440_11, b440_12, b440_13, b440_14, b440_15, b440_16, b440_17, b440_18, b440_19, b440_20, b440_21, x_aload0, y_call369, y_call422, y_call441, y_call442, x_dup0, x_dup3, x_gc_11803, x_gc_11859, x_gc_11875, x_gc_11995, x_gc_12003, x_gc_12019, x_gc_12355, x_gf_11339, x_gf_11784, x_gf_11820, x_gf_12008, x_goto_10, x_goto_12, x_goto_13, x_goto_17, x_goto_18, x_goto_19, x_goto_3, x_goto_4, x_goto_6, x_goto_7, x_goto_9, x_iadd, x_iaload, x_iand, x_iastore, x_iconst, x_ifCond_eq_13, x_ifCond_eq_19, x_ifCond_lt_16, x_ifCond_ne_1, x_ifCond_ne_2, x_if_icmp_ge_14, x_if_icmp_ge_15, x_if_icmp_ge_20, x_if_icmp_ge_21, x_if_icmp_ge_5, x_if_icmp_le_11, x_if_icmp_ne_13, x_if_icmp_ne_19, x_if_icmp_ne_20, x_if_icmp_ne_4, x_if_icmp_ne_8, x_iinc3, x_iinc4, x_iinc5, x_iinc6, x_iinc7, x_iinc8, x_iload1, x_iload2, x_iload3, x_iload4, x_iload5, x_iload6, x_iload7, x_iload8, x_imul, x_ireturn, x_ishl, x_ishr, x_istore2, x_istore3, x_istore4, x_istore5, x_istore6, x_istore7, x_istore8, x_isub, x_ixor, x_pf_11836, x_pf_12008, klp_0, klp_1, klp_2, klp_3, klp_9, KC_0, KC_1, KC_2, KC_3, KC_4, ne_eq, not_false_eq_true, not_true_eq_false, true_and, and_true, and_self, implies_true, eq_self, true_imp_iff, false_implies, Int.reduceEq, Int.reduceNe, Int.reduceMod, Int.reduceMul, Int.reduceAdd, Int.reduceSub, Int.reduceLT, Int.reduceLE, Nat.reduceAdd, Nat.reduceLeDiff, Nat.reduceLT, Nat.reduceSub, reduceIte, wds_n, wds_0, wds_1, wds_2, wds_3, or_true, true_or, or_false, false_or, or_self, false_and, and_false, d_pos, d_s1, d_s2, d_s3, d_s4, d_s5, d_s6, d_s7, d_s8, Classical.not_not, z6603_67, z11744_l, z6603_74, z11872_l, z6603_76, z12000_l, z6603_91, z12896_l, z6603_92, z12960_l, z6603_94, z13024_l, s369, if_neg hg, le_sub1, le_T, le_F, lt_T, lt_F, eq_F, w32_T, bz0, bz1, lc_le, lc_ge, lc_lt, lc_gt, lc_eq] <;> first | rfl | (rw [if_pos (by omega)] <;> rfl) | (rw [if_neg (by omega)] <;> rfl) | (exfalso; omega)
theorem s440b {d : Nat} {h : HV} {Q : Int → HV → Prop} {p : Int} (hp : 1 ≤ h 6603 65 ∧ h 6603 65 ≤ 4) (hg : 0 ≤ p ∧ p ≤ 5 * h 6603 65 - 1) (h0 : h 6603 69 = 0) : Sp fz1 (d + 2) 440 [(3, 6603), (0, p)] h Q = Q (-2) h := by
  simp (implicitDefEqProofs := false) (disch := omega) only [sp440, b440_0, b440_1, b440_2, b440_3, b440_4, b440_5, b440_6, b440_7, b440_8, b440_9, b440_10, b440_11, b440_12, b440_13, b440_14, b440_15, b440_16, b440_17, b440_18, b440_19, b440_20, b440_21, q440_1, x_aload0, y_call369, y_call422, y_call441, y_call442, x_dup0, x_dup3, x_gc_11803, x_gc_11859, x_gc_11875, x_gc_11995, x_gc_12003, x_gc_12019, x_gc_12355, x_gf_11339, x_gf_11784, x_gf_11820, x_gf_12008, x_goto_10, x_goto_12, x_goto_13, x_goto_17, x_goto_18, x_goto_19, x_goto_3, x_goto_4, x_goto_6, x_goto_7, x_goto_9, x_iadd, x_iaload, x_iand, x_iastore, x_iconst, x_ifCond_eq_13, x_ifCond_eq_19, x_ifCond_lt_16, x_ifCond_ne_1, x_ifCond_ne_2, x_if_icmp_ge_14, x_if_icmp_ge_15, x_if_icmp_ge_20, x_if_icmp_ge_21, x_if_icmp_ge_5, x_if_icmp_le_11, x_if_icmp_ne_13, x_if_icmp_ne_19, x_if_icmp_ne_20, x_if_icmp_ne_4, x_if_icmp_ne_8, x_iinc3, x_iinc4, x_iinc5, x_iinc6, x_iinc7, x_iinc8, x_iload1, x_iload2, x_iload3, x_iload4, x_iload5, x_iload6, x_iload7, x_iload8, x_imul, x_ireturn, x_ishl, x_ishr, x_istore2, x_istore3, x_istore4, x_istore5, x_istore6, x_istore7, x_istore8, x_isub, x_ixor, x_pf_11836, x_pf_12008, klp_0, klp_1, klp_2, klp_3, klp_9, KC_0, KC_1, KC_2, KC_3, KC_4, ne_eq, not_false_eq_true, not_true_eq_false, true_and, and_true, and_self, implies_true, eq_self, true_imp_iff, false_implies, Int.reduceEq, Int.reduceNe, Int.reduceMod, Int.reduceMul, Int.reduceAdd, Int.reduceSub, Int.reduceLT, Int.reduceLE, Nat.reduceAdd, Nat.reduceLeDiff, Nat.reduceLT, Nat.reduceSub, reduceIte, wds_n, wds_0, wds_1, wds_2, wds_3, or_true, true_or, or_false, false_or, or_self, false_and, and_false, d_pos, d_s1, d_s2, d_s3, d_s4, d_s5, d_s6, d_s7, d_s8, Classical.not_not, z6603_67, z11744_l, z6603_74, z11872_l, z6603_76, z12000_l, z6603_91, z12896_l, z6603_92, z12960_l, z6603_94, z13024_l, s369, if_pos hg, h0, le_sub1, le_T, le_F, lt_T, lt_F, eq_F, w32_T, bz0, bz1, lc_le, lc_ge, lc_lt, lc_gt, lc_eq] <;> first | rfl | (rw [if_pos (by omega)] <;> rfl) | (rw [if_neg (by omega)] <;> rfl) | (exfalso; omega)

def MCv (a : Int) : Prop := a ≠ 2568 ∧ a ≠ 2720 ∧ a ≠ 2784 ∧ a ≠ 2848 ∧ a ≠ 2912 ∧ a ≠ 12000 ∧ a ≠ 6603 ∧ a ≠ 12896 ∧ a ≠ 12960 ∧ a ≠ 13024
theorem op_cover {d : Nat} {h : HV} {p : Int} (X : RTx h) (U : RTu h) (B : RTb h) (A : RTa h) (T : RTt h) (L : RTl h) (I : RTi h) (hA : ∀ s, 0 ≤ s → s < 10 → h 11744 s = h 2656 s) (V : RCv h) (h1 : h 2568 1 = h 64 8) : Sp fz1 (d + 16) 308 [(3, 64), (0, p)] h (fun x h1 => h1 50 = h 50 ∧ Sp fz1 (d + 16) 440 [(3, 6603), (0, p)] h1 (fun y h2 => x = y ∧ RCv h2 ∧ (∀ a, MCv a → h2 a = h a) ∧ (∀ s, s ≠ 4 → s ≠ 6 → s ≠ 9 → s ≠ 10 → h2 2568 s = h 2568 s) ∧ (∀ s, s ≠ 93 → s ≠ 71 → h2 6603 s = h 6603 s) ∧ (h2 12000 = h 12000 ∨ h2 12000 = unP h (h (h 64 8) 11) 12000))) := by
  have b1 := B.2.1
  have hT := X.1
  have hS := X.2.1
  have hN := U.1
  by_cases g : 0 ≤ p ∧ p < 5 * h 1927 1
  · by_cases f0 : h 1927 13 = 0
    · rw [s308b b1 g A.1 f0]
      refine ⟨rfl, ?_⟩
      rw [s440b (by rw [B.1]; exact b1) (by rw [B.1]; omega) (by rw [A.2.2.1]; exact f0)]
      exact ⟨rfl, V, fun _ _ => rfl, fun _ _ _ _ _ => rfl, fun _ _ _ => rfl, .inl rfl⟩
    · have f1 : h 1927 13 = 1 := by have := A.1; omega
      simp (implicitDefEqProofs := false) (disch := omega) only [sp308, b308_0, b308_1, b308_2, q308_1, q308_2, x_aload0, y_call246, y_call265, y_call309, x_gc_43, x_gc_51, x_iconst, x_ifCond_ne_1, x_ifCond_ne_2, x_iload1, x_ireturn, klp_0, klp_1, klp_2, klp_3, klp_9, KC_0, KC_1, KC_2, KC_3, KC_4, ne_eq, not_false_eq_true, not_true_eq_false, true_and, and_true, and_self, implies_true, eq_self, true_imp_iff, false_implies, Int.reduceEq, Int.reduceNe, Int.reduceMod, Int.reduceMul, Int.reduceAdd, Int.reduceSub, Int.reduceLT, Int.reduceLE, Nat.reduceAdd, Nat.reduceLeDiff, Nat.reduceLT, Nat.reduceSub, reduceIte, wds_n, wds_0, wds_1, wds_2, wds_3, or_true, true_or, or_false, false_or, or_self, false_and, and_false, d_pos, d_s1, d_s2, d_s3, d_s4, d_s5, d_s6, d_s7, d_s8, Classical.not_not, z64_5, z64_6, s246 b1, if_pos g, s265e A.1, f1, le_T, le_F, lt_T, lt_F, w32_T]
      refine s309 X U L I T.1 h1 f1 (fun K fr f25 e4 v => ?_)
      simp (implicitDefEqProofs := false) (disch := omega) only [sp308, b308_0, b308_1, b308_2, q308_1, q308_2, x_aload0, y_call246, y_call265, y_call309, x_gc_43, x_gc_51, x_iconst, x_ifCond_ne_1, x_ifCond_ne_2, x_iload1, x_ireturn, klp_0, klp_1, klp_2, klp_3, klp_9, KC_0, KC_1, KC_2, KC_3, KC_4, ne_eq, not_false_eq_true, not_true_eq_false, true_and, and_true, and_self, implies_true, eq_self, true_imp_iff, false_implies, Int.reduceEq, Int.reduceNe, Int.reduceMod, Int.reduceMul, Int.reduceAdd, Int.reduceSub, Int.reduceLT, Int.reduceLE, Nat.reduceAdd, Nat.reduceLeDiff, Nat.reduceLT, Nat.reduceSub, reduceIte, wds_n, wds_0, wds_1, wds_2, wds_3, or_true, true_or, or_false, false_or, or_self, false_and, and_false, d_pos, d_s1, d_s2, d_s3, d_s4, d_s5, d_s6, d_s7, d_s8, Classical.not_not]
      refine ⟨fr _ (by decide), ?_⟩
      obtain ⟨M, hM⟩ : ∃ M, M = unP K (K (K 64 8) 11) := ⟨_, rfl⟩
      have k64 : K 64 = h 64 := fr _ (by decide)
      have k6603 : K 6603 = h 6603 := fr _ (by decide)
      have tf : ∀ x, 0 ≤ x → x < 1200 → K (h 64 8 + x) = h (h 64 8 + x) := fun x x0 x1 => fr _ (by rcases hT with w | w <;> omega)
      have rf : ∀ x, 0 ≤ x → x < 1200 → K (h 6603 9 + x) = h (h 6603 9 + x) := fun x x0 x1 => fr _ (by rcases hS with w | w <;> omega)
      have t0 : K (h 64 8) = h (h 64 8) := by have := tf 0 (by decide) (by decide); rw [Int.add_zero] at this; exact this
      have kl : lsT K = lsT h := by funext l; unfold lsT; rw [k6603, rf 660 (by decide) (by decide)]
      have XK : RTx K := by unfold RTx; rw [k64, k6603, tf 598 (by decide) (by decide), rf 84 (by decide) (by decide)]; exact X
      have UK : RTu K := by unfold RTu; rw [kl, k64, t0, tf 598 (by decide) (by decide), tf 1174 (by decide) (by decide)]; exact U
      have mf : ∀ a, a ≠ 12000 → M a = K a := fun a ha => by rw [hM]; exact unP_ne ha
      have m64 : M 64 = h 64 := by rw [mf _ (by decide)]; exact k64
      have m66 : M 6603 = h 6603 := by rw [mf _ (by decide)]; exact k6603
      have mtf : ∀ x, 0 ≤ x → x < 1200 → M (h 64 8 + x) = h (h 64 8 + x) := fun x x0 x1 => by rw [mf _ (by rcases hT with w | w <;> omega)]; exact tf x x0 x1
      have mrf : ∀ x, 0 ≤ x → x < 1200 → M (h 6603 9 + x) = h (h 6603 9 + x) := fun x x0 x1 => by rw [mf _ (by rcases hS with w | w <;> omega)]; exact rf x x0 x1
      have mt0 : M (h 64 8) = h (h 64 8) := by have := mtf 0 (by decide) (by decide); rw [Int.add_zero] at this; exact this
      have ml : lsT M = lsT h := by funext l; unfold lsT; rw [m66, mrf 660 (by decide) (by decide)]
      have mo : ∀ a, a ≠ 2568 ∧ a ≠ 2720 ∧ a ≠ 2784 ∧ a ≠ 2848 ∧ a ≠ 2912 → a ≠ 12000 → M a = h a := fun a q q2 => by rw [mf a q2]; exact fr a q
      have E : EC h M := ⟨m64, mo _ (by decide) (by decide), mo _ (by decide) (by decide), mo _ (by decide) (by decide), mtf 598 (by decide) (by decide), mtf 1174 (by decide) (by decide), mtf 1046 (by decide) (by decide), mrf 340 (by decide) (by decide), mrf 468 (by decide) (by decide), by rw [m66], mt0⟩
      have C : CvK M := by
        refine ⟨?_, ?_, ?_, ?_, ?_, ?_, ?_, ?_, ?_⟩
        · unfold RTx; rw [m64, m66, mtf 598 (by decide) (by decide), mrf 84 (by decide) (by decide)]; exact X
        · unfold RTu; rw [ml, m64, mt0, mtf 598 (by decide) (by decide), mtf 1174 (by decide) (by decide)]; exact U
        · rw [m64, mt0]
          funext a i
          rw [unP_v, m64, mtf 1174 (by decide) (by decide)]
          by_cases q : a = 12000 ∧ 0 ≤ i ∧ i < h (h 64 8) 11
          · rw [if_pos q, hM, unP_v, k64, t0, if_pos q, tf 1174 (by decide) (by decide)]
          · rw [if_neg q]
        · unfold RTl; rw [m64, m66, mtf 598 (by decide) (by decide), mtf 790 (by decide) (by decide), mtf 918 (by decide) (by decide), mtf 1046 (by decide) (by decide), mrf 340 (by decide) (by decide), mrf 468 (by decide) (by decide), mrf 596 (by decide) (by decide)]; exact L
        · rw [mo 11744 (by decide) (by decide), mo 2656 (by decide) (by decide)]; exact hA
        · rw [mo 11680 (by decide) (by decide), mo 2016 (by decide) (by decide)]; exact B.2.2.1
        · rw [m64, mt0, mo 11872 (by decide) (by decide)]
          exact fun u u0 u1 => by rw [ec_pe E]; exact (T.2 f1 u u0 u1).1
        · unfold RTi; rw [m64, mt0, mo 1927 (by decide) (by decide), mo 2528 (by decide) (by decide), mtf 598 (by decide) (by decide)]; exact I
        · rw [mo 1927 (by decide) (by decide)]; exact f1
      refine s440 (d := d + 14) (K := M) (by rw [k6603, B.1]; exact g) (by rw [k6603, B.1]; exact b1) (by rw [k6603, A.2.2.1]; omega) XK UK hM C (fun H f2 g2 e71 v2 => ?_)
      have hf : ∀ a, MCv a → H a = h a := fun a q => by
        unfold MCv at q
        rw [f2 a (by omega)]
        exact mo a (by omega) (by omega)
      have h2568 : H 2568 = K 2568 := by rw [f2 _ (by decide), mf _ (by decide)]
      refine ⟨by rw [ec_n E, ec_t E, ec_m E], ⟨by rw [h2568, e4]; decide, ?_, fun _ u u0 u1 => ?_⟩, hf, fun s a b c e => by rw [h2568]; exact f25 s a b c e, fun s a b => by rw [g2 s a b, m66], .inr ?_⟩
      · rw [e71, h2568, e4, hf 1927 (by unfold MCv; decide), f1]
        exact ⟨fun _ => ⟨rfl, rfl⟩, fun _ => by decide⟩
      · have u1' : u < h (h 64 8) 11 := by
          rw [hf 64 (by unfold MCv; decide), hf _ (by unfold MCv; rcases hT with w | w <;> omega)] at u1
          exact u1
        rw [v2 u u0 (by rw [m64, mt0]; exact u1'), f2 2720 (by decide), mf 2720 (by decide), v u u0 u1', ec_n E, ec_co E]
      · rw [f2 12000 (by decide), hM]
        funext i
        rw [unP_v, unP_v, k64, t0, tf 1174 (by decide) (by decide), fr 12000 (by decide)]
  · rw [s308a b1 g]
    refine ⟨rfl, ?_⟩
    rw [s440a (by rw [B.1]; exact b1) (by rw [B.1]; omega)]
    exact ⟨rfl, V, fun _ _ => rfl, fun _ _ _ _ _ => rfl, fun _ _ _ => rfl, .inl rfl⟩
