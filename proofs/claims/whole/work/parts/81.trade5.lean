/-! THE PURE SIDE, 62: trades, the reference to its end: printed by wip/tools/gen81.py -/
theorem rT_b {h : HV} {pl : Int → Int} {p : Int} : ∀ (n : Nat) (q : Int), (0 ≤ q ∧ q < h 836 4) → wT h pl q = 1 → 0 ≤ rT h pl p n q ∧ rT h pl p n q < h 836 4
  | 0, q, hq, hw => hq
  | n + 1, q, hq, hw => by
    rw [rT]
    split
    · exact hq
    · have g := gT_b (p := q) hq hw
      exact rT_b n _ g.1 g.2
theorem ip435 {d : Nat} {h K : HV} {pl : Int → Int} {Q : Int → HV → Prop} {p : Int} (B : BT h) (V : ∀ p, 0 ≤ p → p < h 836 4 → K 12640 p = akT h pl p) (F : ∀ c, 0 ≤ c → c < h (h 64 8 + 598) 5 → K 12832 c = n9 (fsT h pl c (h 836 4).toNat)) : ∀ (n : Nat) (i q : Int), 0 ≤ i → i + n = 24 → (0 ≤ q ∧ q < h 836 4) → wT h pl q = 1 → (∀ z, G fz1 (d + 2) 435 28 [(3, 6603), (0, 0), (0, p), (0, rT h pl p n q), z] [] K Q) → G fz1 (d + 2) 435 27 [(3, 6603), (0, 0), (0, p), (0, q), (0, i)] [] K Q
  | 0, i, q, h0, he, hq, hw, nx => by
    refine G_in ?_
    simp (implicitDefEqProofs := false) (disch := omega) only [b435_27, x_aload0, x_gc_11963, x_gc_11987, x_goto_27, x_iaload, x_iconst, x_if_icmp_eq_28, x_if_icmp_ge_28, x_iinc4, x_iload2, x_iload3, x_iload4, x_istore3, klp_0, klp_1, klp_2, klp_3, klp_9, KC_0, KC_1, KC_2, KC_3, KC_4, ne_eq, not_false_eq_true, not_true_eq_false, true_and, and_true, and_self, implies_true, eq_self, true_imp_iff, false_implies, Int.reduceEq, Int.reduceNe, Int.reduceMod, Int.reduceMul, Int.reduceAdd, Int.reduceSub, Int.reduceLT, Int.reduceLE, Nat.reduceAdd, Nat.reduceLeDiff, Nat.reduceLT, Nat.reduceSub, reduceIte, wds_n, wds_0, wds_1, wds_2, wds_3, or_true, true_or, or_false, false_or, or_self, false_and, and_false, d_pos, d_s1, d_s2, d_s3, d_s4, d_s5, d_s6, d_s7, d_s8, Classical.not_not, le_T, le_F, lt_T, lt_F, w32_T]
    exact nx _
  | n + 1, i, q, h0, he, hq, hw, nx => by
    rw [rT] at nx
    have q9 : ¬ q = -9 := by omega
    by_cases e : q = p
    · rw [if_pos e] at nx
      refine G_in ?_
      simp (implicitDefEqProofs := false) (disch := omega) only [b435_27, x_aload0, x_gc_11963, x_gc_11987, x_goto_27, x_iaload, x_iconst, x_if_icmp_eq_28, x_if_icmp_ge_28, x_iinc4, x_iload2, x_iload3, x_iload4, x_istore3, klp_0, klp_1, klp_2, klp_3, klp_9, KC_0, KC_1, KC_2, KC_3, KC_4, ne_eq, not_false_eq_true, not_true_eq_false, true_and, and_true, and_self, implies_true, eq_self, true_imp_iff, false_implies, Int.reduceEq, Int.reduceNe, Int.reduceMod, Int.reduceMul, Int.reduceAdd, Int.reduceSub, Int.reduceLT, Int.reduceLE, Nat.reduceAdd, Nat.reduceLeDiff, Nat.reduceLT, Nat.reduceSub, reduceIte, wds_n, wds_0, wds_1, wds_2, wds_3, or_true, true_or, or_false, false_or, or_self, false_and, and_false, d_pos, d_s1, d_s2, d_s3, d_s4, d_s5, d_s6, d_s7, d_s8, Classical.not_not, q9, eq_true e, le_T, le_F, lt_T, lt_F, w32_T]
      exact nx _
    · rw [if_neg e] at nx
      have h24 := B.1
      have m8 := B.2.2.2.1
      have g := gT_b (p := q) hq hw
      have ak := (akT_9 (pl := pl) B hq).2 hw
      have v := V q hq.1 hq.2
      have f : K 12832 (akT h pl q) = gT h pl q := by
        rw [F _ ak.1 ak.2.1, ak.2.2]
        show n9 (gT h pl q) = gT h pl q
        unfold n9
        rw [if_neg (by omega)]
      refine G_in ?_
      simp (implicitDefEqProofs := false) (disch := omega) only [b435_27, x_aload0, x_gc_11963, x_gc_11987, x_goto_27, x_iaload, x_iconst, x_if_icmp_eq_28, x_if_icmp_ge_28, x_iinc4, x_iload2, x_iload3, x_iload4, x_istore3, klp_0, klp_1, klp_2, klp_3, klp_9, KC_0, KC_1, KC_2, KC_3, KC_4, ne_eq, not_false_eq_true, not_true_eq_false, true_and, and_true, and_self, implies_true, eq_self, true_imp_iff, false_implies, Int.reduceEq, Int.reduceNe, Int.reduceMod, Int.reduceMul, Int.reduceAdd, Int.reduceSub, Int.reduceLT, Int.reduceLE, Nat.reduceAdd, Nat.reduceLeDiff, Nat.reduceLT, Nat.reduceSub, reduceIte, wds_n, wds_0, wds_1, wds_2, wds_3, or_true, true_or, or_false, false_or, or_self, false_and, and_false, d_pos, d_s1, d_s2, d_s3, d_s4, d_s5, d_s6, d_s7, d_s8, Classical.not_not, q9, e, z6603_90, z12832_l, z6603_87, z12640_l, v, f, le_T, le_F, lt_T, lt_F, w32_T]
      exact ip435 B V F n (i + 1) _ (by omega) (by omega) g.1 g.2 nx
theorem l435d {d : Nat} {h K : HV} {pl : Int → Int} {Q : Int → HV → Prop} {y2 y3 y4 : AV} (B : BT h) (R : BR h) (C : RK h K pl) (V : ∀ p, 0 ≤ p → p < h 836 4 → K 12640 p = akT h pl p) (F : ∀ c, 0 ≤ c → c < h (h 64 8 + 598) 5 → K 12832 c = n9 (fsT h pl c (h 836 4).toNat))
    (nx : ∀ K2 : HV, (∀ a, a ≠ 12772 → K2 a = K a) → (∀ p, 0 ≤ p → p < h 836 4 → K2 12772 p = rgT h pl p) → ∀ y2 y3 y4, G fz1 (d + 2) 435 31 [(3, 6603), (0, 0), y2, y3, y4] [] K2 Q) : G fz1 (d + 2) 435 23 [(3, 6603), (0, 0), y2, y3, y4] [] K Q := by
  have h24 := B.1
  have r25 := R.2.1
  have b2 : bst 12772 0 = 0 := by decide
  have b3 : bst 12772 1 = 1 := by decide
  refine G_in ?_
  simp (implicitDefEqProofs := false) (disch := omega) only [b435_23, q435_23, x_goto_24, x_iconst, x_istore2, klp_0, klp_1, klp_2, klp_3, klp_9, KC_0, KC_1, KC_2, KC_3, KC_4, ne_eq, not_false_eq_true, not_true_eq_false, true_and, and_true, and_self, implies_true, eq_self, true_imp_iff, false_implies, Int.reduceEq, Int.reduceNe, Int.reduceMod, Int.reduceMul, Int.reduceAdd, Int.reduceSub, Int.reduceLT, Int.reduceLE, Nat.reduceAdd, Nat.reduceLeDiff, Nat.reduceLT, Nat.reduceSub, reduceIte, wds_n, wds_0, wds_1, wds_2, wds_3, or_true, true_or, or_false, false_or, or_self, false_and, and_false, d_pos, d_s1, d_s2, d_s3, d_s4, d_s5, d_s6, d_s7, d_s8, Classical.not_not]
  refine forG (N := (h 836 4).toNat) (I := fun j ls h' => (∃ z w, ls = [(3, 6603), (0, 0), (0, (j : Int)), z, w]) ∧ (∀ a, a ≠ 12772 → h' a = K a) ∧ (∀ p, 0 ≤ p → p < (j : Int) → h' 12772 p = rgT h pl p)) ?_ ?_ (j := 0) (Nat.zero_le _) ⟨⟨_, _, rfl⟩, fun _ _ => rfl, fun p a b => by omega⟩
  · rintro j ls h' hj ⟨⟨z, w, rfl⟩, fr, vl⟩ n2
    have hjn : 0 ≤ (j : Int) ∧ (j : Int) < h 836 4 := by omega
    have m8 := B.2.2.2.1
    have C' := rk_f C (fun a _ _ q _ => fr a q)
    have k6 := rk_6 C'
    have V' : ∀ p, 0 ≤ p → p < h 836 4 → h' 12640 p = akT h pl p := fun p p0 p1 => by rw [fr _ (by decide)]; exact V p p0 p1
    have F' : ∀ c, 0 ≤ c → c < h (h 64 8 + 598) 5 → h' 12832 c = n9 (fsT h pl c (h 836 4).toNat) := fun p p0 p1 => by rw [fr _ (by decide)]; exact F p p0 p1
    have fin : ∀ v : Int, v = rgT h pl j → (∀ a, a ≠ 12772 → hset h' 12772 j v a = K a) ∧ (∀ p, 0 ≤ p → p < ((j + 1 : Nat) : Int) → hset h' 12772 j v 12772 p = rgT h pl p) := fun v hv => ⟨fun a ha => by rw [hs_ne ha, fr a ha], fun p p0 p1 => by
      rw [hset_v]
      by_cases q : p = j
      · rw [if_pos ⟨rfl, q⟩, q, hv]
      · rw [if_neg (fun w => q w.2)]
        exact vl p p0 (by omega)⟩
    have aj := V' j hjn.1 hjn.2
    rcases wT_b h pl j with w0 | w1
    · have aj9 : h' 12640 j = -9 := by rw [aj]; exact (akT_9 (pl := pl) B hjn).1.2 w0
      refine G_in ?_
      simp (implicitDefEqProofs := false) (disch := omega) only [b435_24, b435_25, b435_26, q435_25, q435_26, x_aload0, x_gc_11963, x_gc_11987, x_gf_11464, x_goto_26, x_goto_27, x_iaload, x_iconst, x_if_icmp_ge_31, x_if_icmp_ne_25, x_iload2, x_istore3, x_istore4, klp_0, klp_1, klp_2, klp_3, klp_9, KC_0, KC_1, KC_2, KC_3, KC_4, ne_eq, not_false_eq_true, not_true_eq_false, true_and, and_true, and_self, implies_true, eq_self, true_imp_iff, false_implies, Int.reduceEq, Int.reduceNe, Int.reduceMod, Int.reduceMul, Int.reduceAdd, Int.reduceSub, Int.reduceLT, Int.reduceLE, Nat.reduceAdd, Nat.reduceLeDiff, Nat.reduceLT, Nat.reduceSub, reduceIte, wds_n, wds_0, wds_1, wds_2, wds_3, or_true, true_or, or_false, false_or, or_self, false_and, and_false, d_pos, d_s1, d_s2, d_s3, d_s4, d_s5, d_s6, d_s7, d_s8, Classical.not_not, k6, r25, z6603_87, z12640_l, aj9, le_T, le_F, lt_T, lt_F, w32_T]
      refine G_in ?_
      simp (implicitDefEqProofs := false) (disch := omega) only [b435_27, x_aload0, x_gc_11963, x_gc_11987, x_goto_27, x_iaload, x_iconst, x_if_icmp_eq_28, x_if_icmp_ge_28, x_iinc4, x_iload2, x_iload3, x_iload4, x_istore3, klp_0, klp_1, klp_2, klp_3, klp_9, KC_0, KC_1, KC_2, KC_3, KC_4, ne_eq, not_false_eq_true, not_true_eq_false, true_and, and_true, and_self, implies_true, eq_self, true_imp_iff, false_implies, Int.reduceEq, Int.reduceNe, Int.reduceMod, Int.reduceMul, Int.reduceAdd, Int.reduceSub, Int.reduceLT, Int.reduceLE, Nat.reduceAdd, Nat.reduceLeDiff, Nat.reduceLT, Nat.reduceSub, reduceIte, wds_n, wds_0, wds_1, wds_2, wds_3, or_true, true_or, or_false, false_or, or_self, false_and, and_false, d_pos, d_s1, d_s2, d_s3, d_s4, d_s5, d_s6, d_s7, d_s8, Classical.not_not, le_T, le_F, lt_T, lt_F, w32_T]
      refine G_in ?_
      simp (implicitDefEqProofs := false) (disch := omega) only [b435_28, b435_29, b435_30, q435_28, q435_29, q435_30, x_aload0, x_bastore, x_gc_11979, x_goto_24, x_goto_30, x_iconst, x_if_icmp_eq_29, x_if_icmp_ne_29, x_iinc2, x_iload2, x_iload3, klp_0, klp_1, klp_2, klp_3, klp_9, KC_0, KC_1, KC_2, KC_3, KC_4, ne_eq, not_false_eq_true, not_true_eq_false, true_and, and_true, and_self, implies_true, eq_self, true_imp_iff, false_implies, Int.reduceEq, Int.reduceNe, Int.reduceMod, Int.reduceMul, Int.reduceAdd, Int.reduceSub, Int.reduceLT, Int.reduceLE, Nat.reduceAdd, Nat.reduceLeDiff, Nat.reduceLT, Nat.reduceSub, reduceIte, wds_n, wds_0, wds_1, wds_2, wds_3, or_true, true_or, or_false, false_or, or_self, false_and, and_false, d_pos, d_s1, d_s2, d_s3, d_s4, d_s5, d_s6, d_s7, d_s8, Classical.not_not, z6603_89, z12772_l, b2, le_T, le_F, lt_T, lt_F, w32_T]
      exact n2 _ _ ⟨⟨_, _, rfl⟩, fin _ (by unfold rgT; rw [if_neg (fun w => by omega)])⟩
    · have ak := (akT_9 (pl := pl) B hjn).2 w1
      have a9 : ¬ akT h pl j = -9 := by omega
      have g := gT_b (p := j) hjn w1
      have f : h' 12832 (akT h pl j) = gT h pl j := by
        rw [F' _ ak.1 ak.2.1, ak.2.2]
        show n9 (gT h pl j) = gT h pl j
        unfold n9
        rw [if_neg (by omega)]
      refine G_in ?_
      simp (implicitDefEqProofs := false) (disch := omega) only [b435_24, b435_25, b435_26, q435_25, q435_26, x_aload0, x_gc_11963, x_gc_11987, x_gf_11464, x_goto_26, x_goto_27, x_iaload, x_iconst, x_if_icmp_ge_31, x_if_icmp_ne_25, x_iload2, x_istore3, x_istore4, klp_0, klp_1, klp_2, klp_3, klp_9, KC_0, KC_1, KC_2, KC_3, KC_4, ne_eq, not_false_eq_true, not_true_eq_false, true_and, and_true, and_self, implies_true, eq_self, true_imp_iff, false_implies, Int.reduceEq, Int.reduceNe, Int.reduceMod, Int.reduceMul, Int.reduceAdd, Int.reduceSub, Int.reduceLT, Int.reduceLE, Nat.reduceAdd, Nat.reduceLeDiff, Nat.reduceLT, Nat.reduceSub, reduceIte, wds_n, wds_0, wds_1, wds_2, wds_3, or_true, true_or, or_false, false_or, or_self, false_and, and_false, d_pos, d_s1, d_s2, d_s3, d_s4, d_s5, d_s6, d_s7, d_s8, Classical.not_not, k6, r25, z6603_87, z12640_l, z6603_90, z12832_l, aj, a9, f, le_T, le_F, lt_T, lt_F, w32_T]
      refine ip435 B V' F' 24 0 _ (by decide) (by decide) g.1 g.2 (fun z2 => ?_)
      have rb := rT_b (p := j) 24 _ g.1 g.2
      have re := ring_eq h24.2 hjn w1
      generalize rT h pl j 24 (gT h pl j) = r at *
      have r9 : ¬ r = -9 := by omega
      refine G_in ?_
      by_cases q : r = j
      · simp (implicitDefEqProofs := false) (disch := omega) only [b435_28, b435_29, b435_30, q435_28, q435_29, q435_30, x_aload0, x_bastore, x_gc_11979, x_goto_24, x_goto_30, x_iconst, x_if_icmp_eq_29, x_if_icmp_ne_29, x_iinc2, x_iload2, x_iload3, klp_0, klp_1, klp_2, klp_3, klp_9, KC_0, KC_1, KC_2, KC_3, KC_4, ne_eq, not_false_eq_true, not_true_eq_false, true_and, and_true, and_self, implies_true, eq_self, true_imp_iff, false_implies, Int.reduceEq, Int.reduceNe, Int.reduceMod, Int.reduceMul, Int.reduceAdd, Int.reduceSub, Int.reduceLT, Int.reduceLE, Nat.reduceAdd, Nat.reduceLeDiff, Nat.reduceLT, Nat.reduceSub, reduceIte, wds_n, wds_0, wds_1, wds_2, wds_3, or_true, true_or, or_false, false_or, or_self, false_and, and_false, d_pos, d_s1, d_s2, d_s3, d_s4, d_s5, d_s6, d_s7, d_s8, Classical.not_not, z6603_89, z12772_l, r9, eq_true q, b3, le_T, le_F, lt_T, lt_F, w32_T]
        exact n2 _ _ ⟨⟨_, _, rfl⟩, fin _ (by unfold rgT; rw [if_pos ⟨w1, re.1 q⟩])⟩
      · simp (implicitDefEqProofs := false) (disch := omega) only [b435_28, b435_29, b435_30, q435_28, q435_29, q435_30, x_aload0, x_bastore, x_gc_11979, x_goto_24, x_goto_30, x_iconst, x_if_icmp_eq_29, x_if_icmp_ne_29, x_iinc2, x_iload2, x_iload3, klp_0, klp_1, klp_2, klp_3, klp_9, KC_0, KC_1, KC_2, KC_3, KC_4, ne_eq, not_false_eq_true, not_true_eq_false, true_and, and_true, and_self, implies_true, eq_self, true_imp_iff, false_implies, Int.reduceEq, Int.reduceNe, Int.reduceMod, Int.reduceMul, Int.reduceAdd, Int.reduceSub, Int.reduceLT, Int.reduceLE, Nat.reduceAdd, Nat.reduceLeDiff, Nat.reduceLT, Nat.reduceSub, reduceIte, wds_n, wds_0, wds_1, wds_2, wds_3, or_true, true_or, or_false, false_or, or_self, false_and, and_false, d_pos, d_s1, d_s2, d_s3, d_s4, d_s5, d_s6, d_s7, d_s8, Classical.not_not, z6603_89, z12772_l, r9, q, b2, le_T, le_F, lt_T, lt_F, w32_T]
        exact n2 _ _ ⟨⟨_, _, rfl⟩, fin _ (by unfold rgT; rw [if_neg (fun w => q (re.2 w.2))])⟩
  · rintro ls h' ⟨⟨z, w, rfl⟩, fr, vl⟩
    have k6 : h' 6603 = h 6603 := by rw [fr _ (by decide)]; exact rk_6 C
    refine G_in ?_
    simp (implicitDefEqProofs := false) (disch := omega) only [b435_24, x_aload0, x_gc_11963, x_gf_11464, x_goto_26, x_iaload, x_iconst, x_if_icmp_ge_31, x_if_icmp_ne_25, x_iload2, klp_0, klp_1, klp_2, klp_3, klp_9, KC_0, KC_1, KC_2, KC_3, KC_4, ne_eq, not_false_eq_true, not_true_eq_false, true_and, and_true, and_self, implies_true, eq_self, true_imp_iff, false_implies, Int.reduceEq, Int.reduceNe, Int.reduceMod, Int.reduceMul, Int.reduceAdd, Int.reduceSub, Int.reduceLT, Int.reduceLE, Nat.reduceAdd, Nat.reduceLeDiff, Nat.reduceLT, Nat.reduceSub, reduceIte, wds_n, wds_0, wds_1, wds_2, wds_3, or_true, true_or, or_false, false_or, or_self, false_and, and_false, d_pos, d_s1, d_s2, d_s3, d_s4, d_s5, d_s6, d_s7, d_s8, Classical.not_not, k6, r25, le_T, le_F, lt_T, lt_F, w32_T]
    exact nx h' fr (fun p p0 p1 => vl p p0 (by omega)) _ _ _
theorem l435e {d : Nat} {h K : HV} {pl : Int → Int} {Q : Int → HV → Prop} {y2 y3 y4 : AV} (B : BT h) (R : BR h) (C : RK h K pl) (V : ∀ p, 0 ≤ p → p < h 836 4 → K 12640 p = akT h pl p) (F : ∀ p, 0 ≤ p → p < h 836 4 → K 12772 p = rgT h pl p)
    (nx : ∀ K2 : HV, RK h K2 (trT h pl) → K2 12708 = K 12708 → ∀ y2 y3 y4, G fz1 (d + 2) 435 5 [(3, 6603), (0, anT h pl (h 836 4).toNat), y2, y3, y4] [] K2 Q) : G fz1 (d + 2) 435 31 [(3, 6603), (0, 0), y2, y3, y4] [] K Q := by
  have h24 := B.1
  have r25 := R.2.1
  refine G_in ?_
  simp (implicitDefEqProofs := false) (disch := omega) only [b435_31, q435_31, x_goto_32, x_iconst, x_istore2, klp_0, klp_1, klp_2, klp_3, klp_9, KC_0, KC_1, KC_2, KC_3, KC_4, ne_eq, not_false_eq_true, not_true_eq_false, true_and, and_true, and_self, implies_true, eq_self, true_imp_iff, false_implies, Int.reduceEq, Int.reduceNe, Int.reduceMod, Int.reduceMul, Int.reduceAdd, Int.reduceSub, Int.reduceLT, Int.reduceLE, Nat.reduceAdd, Nat.reduceLeDiff, Nat.reduceLT, Nat.reduceSub, reduceIte, wds_n, wds_0, wds_1, wds_2, wds_3, or_true, true_or, or_false, false_or, or_self, false_and, and_false, d_pos, d_s1, d_s2, d_s3, d_s4, d_s5, d_s6, d_s7, d_s8, Classical.not_not]
  refine forG (N := (h 836 4).toNat) (I := fun j ls h' => ls = [(3, 6603), (0, anT h pl j), (0, (j : Int)), y3, y4] ∧ RK h h' (ptr h pl j) ∧ h' 12640 = K 12640 ∧ h' 12772 = K 12772 ∧ h' 12708 = K 12708) ?_ ?_ (j := 0) (Nat.zero_le _) ⟨rfl, by rw [show ((0 : Nat) : Int) = 0 from rfl, ptr_0]; exact C, rfl, rfl, rfl⟩
  · rintro j ls h' hj ⟨rfl, C', e1, e2, e3⟩ n2
    have hjn : 0 ≤ (j : Int) ∧ (j : Int) < h 836 4 := by omega
    have k6 := rk_6 C'
    have PS := ptr_s h pl j hjn.1
    have jc : ((j + 1 : Nat) : Int) = (j : Int) + 1 := by omega
    have an : anT h pl (j + 1) = if anT h pl j ≠ 0 ∨ rgT h pl j = 1 then 1 else 0 := rfl
    by_cases rg : rgT h pl j = 1
    · have w := (rgT_c rg).1
      have ak := (akT_9 (pl := pl) B hjn).2 w
      have vj : h' 12640 j = cwT h pl j := by rw [e1, V j hjn.1 hjn.2]; exact ak.2.2
      have fj : h' 12772 j = 1 := by rw [e2, F j hjn.1 hjn.2]; exact rg
      rw [if_pos (.inr rg)] at an
      rw [an] at n2
      refine G_in ?_
      simp (implicitDefEqProofs := false) (disch := omega) only [b435_32, b435_33, q435_33, x_aload0, x_baload, x_gc_11947, x_gc_11963, x_gc_11979, x_gf_11464, x_goto_32, x_goto_33, x_iaload, x_iastore, x_iconst, x_ifCond_eq_33, x_if_icmp_ge_34, x_iinc2, x_iload2, x_istore1, klp_0, klp_1, klp_2, klp_3, klp_9, KC_0, KC_1, KC_2, KC_3, KC_4, ne_eq, not_false_eq_true, not_true_eq_false, true_and, and_true, and_self, implies_true, eq_self, true_imp_iff, false_implies, Int.reduceEq, Int.reduceNe, Int.reduceMod, Int.reduceMul, Int.reduceAdd, Int.reduceSub, Int.reduceLT, Int.reduceLE, Nat.reduceAdd, Nat.reduceLeDiff, Nat.reduceLT, Nat.reduceSub, reduceIte, wds_n, wds_0, wds_1, wds_2, wds_3, or_true, true_or, or_false, false_or, or_self, false_and, and_false, d_pos, d_s1, d_s2, d_s3, d_s4, d_s5, d_s6, d_s7, d_s8, Classical.not_not, k6, r25, z6603_87, z12640_l, z6603_89, z12772_l, z6603_85, z12576_l, vj, fj, le_T, le_F, lt_T, lt_F, w32_T]
      refine n2 _ _ ⟨rfl, ⟨fun a q => by rw [hs_ne q.1]; exact C'.1 a q, fun p p0 p1 => ?_⟩, by rw [hs_ne (by decide)]; exact e1, by rw [hs_ne (by decide)]; exact e2, by rw [hs_ne (by decide)]; exact e3⟩
      rw [jc, PS, if_pos rg, hset_v]
      by_cases q : p = j
      · rw [if_pos ⟨rfl, q⟩, if_pos q]
      · rw [if_neg (fun w => q w.2), if_neg q]
        exact C'.2 p p0 p1
    · have r0 : rgT h pl j = 0 := by unfold rgT at rg ⊢; split at rg <;> omega
      have fj : h' 12772 j = 0 := by rw [e2, F j hjn.1 hjn.2]; exact r0
      have ae : anT h pl (j + 1) = anT h pl j := by
        have := anT_b (h := h) (pl := pl) j
        rw [an]
        by_cases q : anT h pl j = 0
        · rw [if_neg (fun w => w.elim (fun x => x q) rg), q]
        · rw [if_pos (.inl q)]; omega
      rw [ae] at n2
      refine G_in ?_
      simp (implicitDefEqProofs := false) (disch := omega) only [b435_32, b435_33, q435_33, x_aload0, x_baload, x_gc_11947, x_gc_11963, x_gc_11979, x_gf_11464, x_goto_32, x_goto_33, x_iaload, x_iastore, x_iconst, x_ifCond_eq_33, x_if_icmp_ge_34, x_iinc2, x_iload2, x_istore1, klp_0, klp_1, klp_2, klp_3, klp_9, KC_0, KC_1, KC_2, KC_3, KC_4, ne_eq, not_false_eq_true, not_true_eq_false, true_and, and_true, and_self, implies_true, eq_self, true_imp_iff, false_implies, Int.reduceEq, Int.reduceNe, Int.reduceMod, Int.reduceMul, Int.reduceAdd, Int.reduceSub, Int.reduceLT, Int.reduceLE, Nat.reduceAdd, Nat.reduceLeDiff, Nat.reduceLT, Nat.reduceSub, reduceIte, wds_n, wds_0, wds_1, wds_2, wds_3, or_true, true_or, or_false, false_or, or_self, false_and, and_false, d_pos, d_s1, d_s2, d_s3, d_s4, d_s5, d_s6, d_s7, d_s8, Classical.not_not, k6, r25, z6603_87, z12640_l, z6603_89, z12772_l, z6603_85, z12576_l, fj, le_T, le_F, lt_T, lt_F, w32_T]
      have pe : ptr h pl ((j + 1 : Nat) : Int) = ptr h pl j := by
        funext y
        rw [jc, PS, if_neg rg]
        by_cases q : y = j
        · rw [if_pos q, q]; unfold ptr; rw [if_neg (fun w => by omega)]
        · rw [if_neg q]
      exact n2 _ _ ⟨rfl, by rw [pe]; exact C', e1, e2, e3⟩
  · rintro ls h' ⟨rfl, C', e1, e2, e3⟩
    have k6 := rk_6 C'
    rw [show (((h 836 4).toNat : Nat) : Int) = h 836 4 by omega, ptr_N] at C'
    refine G_in ?_
    simp (implicitDefEqProofs := false) (disch := omega) only [b435_32, b435_34, q435_34, x_aload0, x_baload, x_gc_11947, x_gc_11963, x_gc_11979, x_gf_11464, x_goto_33, x_goto_5, x_iaload, x_iastore, x_iconst, x_ifCond_eq_33, x_if_icmp_ge_34, x_iload2, x_istore1, klp_0, klp_1, klp_2, klp_3, klp_9, KC_0, KC_1, KC_2, KC_3, KC_4, ne_eq, not_false_eq_true, not_true_eq_false, true_and, and_true, and_self, implies_true, eq_self, true_imp_iff, false_implies, Int.reduceEq, Int.reduceNe, Int.reduceMod, Int.reduceMul, Int.reduceAdd, Int.reduceSub, Int.reduceLT, Int.reduceLE, Nat.reduceAdd, Nat.reduceLeDiff, Nat.reduceLT, Nat.reduceSub, reduceIte, wds_n, wds_0, wds_1, wds_2, wds_3, or_true, true_or, or_false, false_or, or_self, false_and, and_false, d_pos, d_s1, d_s2, d_s3, d_s4, d_s5, d_s6, d_s7, d_s8, Classical.not_not, k6, r25, le_T, le_F, lt_T, lt_F, w32_T]
    exact nx h' C' e3 _ _ _
theorem un_b {h : HV} {pl : Int → Int} (h24 : 0 ≤ h 836 4 ∧ h 836 4 ≤ 24) : 0 ≤ unT h pl ∧ unT h pl ≤ 24 := by
  have sb := sumI_b (f := fun p => isE (pl p) (-9)) (fun i => isE_b _ _) (h 836 4).toNat
  unfold unT
  omega
theorem lp435 {d : Nat} {h : HV} {Q : Int → HV → Prop} (B : BT h) (R : BR h) (ex : ∀ K, RK h K (itT h 25) → Q 0 K) : ∀ (m n : Nat) (K : HV) (y2 y3 y4 : AV), n + m ≤ 25 → unT h (itT h n) < m → RK h K (itT h n) → AW h K (itT h n) → G fz1 (d + 2) 435 5 [(3, 6603), (0, 1), y2, y3, y4] [] K Q
  | 0, n, K, y2, y3, y4, he, hu, C, W => by
    have := un_b (h := h) (pl := itT h n) B.1
    omega
  | m + 1, n, K, y2, y3, y4, he, hu, C, W => by
    have h24 := B.1
    refine G_in ?_
    simp (implicitDefEqProofs := false) (disch := omega) only [b435_5, x_goto_6, x_iconst, x_ifCond_eq_35, x_iload1, x_istore1, x_istore2, klp_0, klp_1, klp_2, klp_3, klp_9, KC_0, KC_1, KC_2, KC_3, KC_4, ne_eq, not_false_eq_true, not_true_eq_false, true_and, and_true, and_self, implies_true, eq_self, true_imp_iff, false_implies, Int.reduceEq, Int.reduceNe, Int.reduceMod, Int.reduceMul, Int.reduceAdd, Int.reduceSub, Int.reduceLT, Int.reduceLE, Nat.reduceAdd, Nat.reduceLeDiff, Nat.reduceLT, Nat.reduceSub, reduceIte, wds_n, wds_0, wds_1, wds_2, wds_3, or_true, true_or, or_false, false_or, or_self, false_and, and_false, d_pos, d_s1, d_s2, d_s3, d_s4, d_s5, d_s6, d_s7, d_s8, Classical.not_not, le_T, le_F, lt_T, lt_F, w32_T]
    refine l435a B R C W (fun K1 f1 v1 => ?_)
    have C1 := rk_f C (fun a q _ _ _ => f1 a q)
    refine l435b B R C1 (fun p p0 p1 w => W p p0 p1 (by rw [← f1 12708 (by decide)]; exact w)) v1 (fun K2 f2 v2 y => ?_)
    have C2 := rk_f C1 (fun a _ q r _ => f2 a q r)
    refine l435c B R C2 v2 (fun K3 f3 v3 z2 z3 z4 => ?_)
    have C3 := rk_f C2 (fun a _ _ _ q => f3 a q)
    have V3 : ∀ p, 0 ≤ p → p < h 836 4 → K3 12640 p = akT h (itT h n) p := fun p p0 p1 => by rw [f3 _ (by decide), f2 _ (by decide) (by decide)]; exact v1 p p0 p1
    refine l435d B R C3 V3 v3 (fun K4 f4 v4 z2 z3 z4 => ?_)
    have C4 := rk_f C3 (fun a _ _ q _ => f4 a q)
    refine l435e B R C4 (fun p p0 p1 => by rw [f4 _ (by decide)]; exact V3 p p0 p1) v4 (fun K5 C5 e5 z2 z3 z4 => ?_)
    have ab := anT_b (h := h) (pl := itT h n) (h 836 4).toNat
    by_cases q : anT h (itT h n) (h 836 4).toNat = 0
    · have tf := tr_fix h24.1 q
      have e25 : itT h 25 = itT h n := by
        obtain ⟨k, hk⟩ : ∃ k, 25 = n + k := ⟨25 - n, by omega⟩
        rw [hk]
        exact it_fix tf _
      rw [tf, ← e25] at C5
      rw [q]
      refine G_in ?_
      simp (implicitDefEqProofs := false) (disch := omega) only [b435_5, b435_35, q435_35, x_goto_6, x_iconst, x_ifCond_eq_35, x_iload1, x_istore1, x_istore2, x_return, klp_0, klp_1, klp_2, klp_3, klp_9, KC_0, KC_1, KC_2, KC_3, KC_4, ne_eq, not_false_eq_true, not_true_eq_false, true_and, and_true, and_self, implies_true, eq_self, true_imp_iff, false_implies, Int.reduceEq, Int.reduceNe, Int.reduceMod, Int.reduceMul, Int.reduceAdd, Int.reduceSub, Int.reduceLT, Int.reduceLE, Nat.reduceAdd, Nat.reduceLeDiff, Nat.reduceLT, Nat.reduceSub, reduceIte, wds_n, wds_0, wds_1, wds_2, wds_3, or_true, true_or, or_false, false_or, or_self, false_and, and_false, d_pos, d_s1, d_s2, d_s3, d_s4, d_s5, d_s6, d_s7, d_s8, Classical.not_not, le_T, le_F, lt_T, lt_F, w32_T]
      exact ex K5 C5
    · have q1 : anT h (itT h n) (h 836 4).toNat = 1 := by omega
      rw [q1]
      have ul := un_lt h24.1 (fun p k p0 p1 k0 k1 => (B.2.2.1 p k p0 p1 k0 k1).1) B.2.1 q
      refine lp435 B R ex m (n + 1) K5 _ _ _ (by omega) ?_ C5 (fun p p0 p1 w => ?_)
      · show unT h (trT h (itT h n)) < m
        omega
      · rw [e5, f4 _ (by decide), f3 _ (by decide), v2 p p0 p1] at w
        have w3 : itT h n p = -9 ∧ wT h (itT h n) p = 0 := by
          unfold awT at w
          by_cases z : itT h n p = -9 ∧ wT h (itT h n) p = 0
          · exact z
          · rw [if_neg z] at w; exact absurd rfl w
        exact wT_stop (B.2.1 p p0 p1) (fun j j0 j1 => (B.2.2.1 p j p0 p1 j0 j1).1) w3.1 w3.2
theorem s435 {d : Nat} {h K : HV} {Q : Int → HV → Prop} (B : BT h) (R : BR h) (kz : ∀ p, 0 ≤ p → p < h 836 4 → h 10016 p ≠ 0 → h 3104 p = 0) (C : RK h K (itT h 0)) (ex : ∀ K, RK h K (itT h 25) → Q 0 K) : Sp fz1 (d + 2) 435 [(3, 6603)] K Q := by
  have h24 := B.1
  have r25 := R.2.1
  have b0 : bst 12708 0 = 0 := by decide
  have b1 : bst 12708 1 = 1 := by decide
  simp (implicitDefEqProofs := false) (disch := omega) only [sp435, b435_0, x_goto_1, x_iconst, x_istore1, klp_0, klp_1, klp_2, klp_3, klp_9, KC_0, KC_1, KC_2, KC_3, KC_4, ne_eq, not_false_eq_true, not_true_eq_false, true_and, and_true, and_self, implies_true, eq_self, true_imp_iff, false_implies, Int.reduceEq, Int.reduceNe, Int.reduceMod, Int.reduceMul, Int.reduceAdd, Int.reduceSub, Int.reduceLT, Int.reduceLE, Nat.reduceAdd, Nat.reduceLeDiff, Nat.reduceLT, Nat.reduceSub, reduceIte, wds_n, wds_0, wds_1, wds_2, wds_3, or_true, true_or, or_false, false_or, or_self, false_and, and_false, d_pos, d_s1, d_s2, d_s3, d_s4, d_s5, d_s6, d_s7, d_s8, Classical.not_not]
  refine forG (N := (h 836 4).toNat) (I := fun j ls h' => (∃ y2 y3 y4, ls = [(3, 6603), (0, (j : Int)), y2, y3, y4]) ∧ (∀ a, a ≠ 12708 → h' a = K a) ∧ (∀ p, 0 ≤ p → p < (j : Int) → h' 12708 p ≠ 0 → h 10016 p ≠ 0)) ?_ ?_ (j := 0) (Nat.zero_le _) ⟨⟨_, _, _, rfl⟩, fun _ _ => rfl, fun p a b => by omega⟩
  · rintro j ls h' hj ⟨⟨y2, y3, y4, rfl⟩, fr, vl⟩ n2
    have hjn : 0 ≤ (j : Int) ∧ (j : Int) < h 836 4 := by omega
    have C' := rk_f C (fun a _ q _ _ => fr a q)
    have k6 := rk_6 C'
    have ka : h' 10016 = h 10016 := C'.1 _ (by decide)
    refine G_in ?_
    by_cases q : h 10016 j = 0
    · simp (implicitDefEqProofs := false) (disch := omega) only [b435_1, b435_2, b435_3, q435_2, q435_3, x_aload0, x_bastore, x_gc_11475, x_gc_11971, x_gf_11464, x_goto_1, x_goto_3, x_iaload, x_iconst, x_ifCond_eq_2, x_if_icmp_ge_4, x_iinc1, x_iload1, klp_0, klp_1, klp_2, klp_3, klp_9, KC_0, KC_1, KC_2, KC_3, KC_4, ne_eq, not_false_eq_true, not_true_eq_false, true_and, and_true, and_self, implies_true, eq_self, true_imp_iff, false_implies, Int.reduceEq, Int.reduceNe, Int.reduceMod, Int.reduceMul, Int.reduceAdd, Int.reduceSub, Int.reduceLT, Int.reduceLE, Nat.reduceAdd, Nat.reduceLeDiff, Nat.reduceLT, Nat.reduceSub, reduceIte, wds_n, wds_0, wds_1, wds_2, wds_3, or_true, true_or, or_false, false_or, or_self, false_and, and_false, d_pos, d_s1, d_s2, d_s3, d_s4, d_s5, d_s6, d_s7, d_s8, Classical.not_not, k6, r25, z6603_88, z12708_l, z6603_26, z10016_l, ka, eq_true q, b0, le_T, le_F, lt_T, lt_F, w32_T]
      refine n2 _ _ ⟨⟨_, _, _, rfl⟩, fun a ha => by rw [hs_ne ha, fr a ha], fun p p0 p1 w => ?_⟩
      rw [hset_v] at w
      by_cases e : p = j
      · rw [if_pos ⟨rfl, e⟩] at w; exact absurd rfl w
      · rw [if_neg (fun z => e z.2)] at w
        exact vl p p0 (by omega) w
    · simp (implicitDefEqProofs := false) (disch := omega) only [b435_1, b435_2, b435_3, q435_2, q435_3, x_aload0, x_bastore, x_gc_11475, x_gc_11971, x_gf_11464, x_goto_1, x_goto_3, x_iaload, x_iconst, x_ifCond_eq_2, x_if_icmp_ge_4, x_iinc1, x_iload1, klp_0, klp_1, klp_2, klp_3, klp_9, KC_0, KC_1, KC_2, KC_3, KC_4, ne_eq, not_false_eq_true, not_true_eq_false, true_and, and_true, and_self, implies_true, eq_self, true_imp_iff, false_implies, Int.reduceEq, Int.reduceNe, Int.reduceMod, Int.reduceMul, Int.reduceAdd, Int.reduceSub, Int.reduceLT, Int.reduceLE, Nat.reduceAdd, Nat.reduceLeDiff, Nat.reduceLT, Nat.reduceSub, reduceIte, wds_n, wds_0, wds_1, wds_2, wds_3, or_true, true_or, or_false, false_or, or_self, false_and, and_false, d_pos, d_s1, d_s2, d_s3, d_s4, d_s5, d_s6, d_s7, d_s8, Classical.not_not, k6, r25, z6603_88, z12708_l, z6603_26, z10016_l, ka, q, b1, le_T, le_F, lt_T, lt_F, w32_T]
      refine n2 _ _ ⟨⟨_, _, _, rfl⟩, fun a ha => by rw [hs_ne ha, fr a ha], fun p p0 p1 w => ?_⟩
      by_cases e : p = j
      · rw [e]; exact q
      · rw [hset_v, if_neg (fun z => e z.2)] at w
        exact vl p p0 (by omega) w
  · rintro ls h' ⟨⟨y2, y3, y4, rfl⟩, fr, vl⟩
    have C' := rk_f C (fun a _ q _ _ => fr a q)
    have k6 := rk_6 C'
    refine G_in ?_
    simp (implicitDefEqProofs := false) (disch := omega) only [b435_1, b435_4, q435_4, x_aload0, x_gc_11475, x_gc_11971, x_gf_11464, x_goto_3, x_goto_5, x_iaload, x_iconst, x_ifCond_eq_2, x_if_icmp_ge_4, x_iload1, x_istore1, klp_0, klp_1, klp_2, klp_3, klp_9, KC_0, KC_1, KC_2, KC_3, KC_4, ne_eq, not_false_eq_true, not_true_eq_false, true_and, and_true, and_self, implies_true, eq_self, true_imp_iff, false_implies, Int.reduceEq, Int.reduceNe, Int.reduceMod, Int.reduceMul, Int.reduceAdd, Int.reduceSub, Int.reduceLT, Int.reduceLE, Nat.reduceAdd, Nat.reduceLeDiff, Nat.reduceLT, Nat.reduceSub, reduceIte, wds_n, wds_0, wds_1, wds_2, wds_3, or_true, true_or, or_false, false_or, or_self, false_and, and_false, d_pos, d_s1, d_s2, d_s3, d_s4, d_s5, d_s6, d_s7, d_s8, Classical.not_not, k6, r25, le_T, le_F, lt_T, lt_F, w32_T]
    refine lp435 B R ex 25 0 h' _ _ _ (by decide) (by have := un_b (h := h) (pl := itT h 0) h24; omega) C' (fun p p0 p1 w => ⟨rfl, ?_⟩)
    have z := kz p p0 p1 (vl p p0 (by omega) w)
    have k := (kT_spec (h := h) (pl := itT h 0) (p := p) 8 0 (by omega) (by omega)).1
    unfold wT
    rw [if_neg (fun w => by omega)]
