/-! THE PURE SIDE, 59: trades, the class's pointing and way round: printed by wip/tools/gen78.py -/
theorem hs_id (h : HV) (o i : Int) : hset h o i (h o i) = h := by
  funext a b
  rw [hset_v]
  by_cases q : a = o ∧ b = i
  · rw [if_pos q, q.1, q.2]
  · rw [if_neg q]
/-- what stays in match: the choices' bounds -/
def BT (h : HV) : Prop := (0 ≤ h 836 4 ∧ h 836 4 ≤ 24) ∧ (∀ p, 0 ≤ p → p < h 836 4 → 0 ≤ h 3104 p ∧ h 3104 p ≤ 8) ∧ (∀ p k : Int, 0 ≤ p → p < h 836 4 → 0 ≤ k → k < h 3104 p → 0 ≤ h 3040 (p * 8 + k) ∧ h 3040 (p * 8 + k) < h (h 64 8 + 598) 5) ∧ (0 ≤ h (h 64 8 + 598) 5 ∧ h (h 64 8 + 598) 5 ≤ 8) ∧ (∀ c, 0 ≤ c → c < h (h 64 8 + 598) 5 → 0 ≤ h (h 64 8 + 1110) c ∧ h (h 64 8 + 1110) c ≤ 1000)
theorem lfT_b {h : HV} {pl : Int → Int} {c : Int} (B : BT h) (hc : 0 ≤ c ∧ c < h (h 64 8 + 598) 5) : -24 ≤ lfT h pl c ∧ lfT h pl c ≤ 1000 := by
  have b5 := B.2.2.2.2 c hc.1 hc.2
  have sb := sumI_b (f := fun p => isE (pl p) c) (fun i => isE_b _ _) (h 836 4).toNat
  have := B.1
  unfold lfT
  omega
theorem cwT_b {h : HV} {pl : Int → Int} {p : Int} (B : BT h) (hp : 0 ≤ p ∧ p < h 836 4) (hw : wT h pl p = 1) : 0 ≤ cwT h pl p ∧ cwT h pl p < h (h 64 8 + 598) 5 := by
  have w := wT_c hw
  have k0 := (kT_spec (h := h) (pl := pl) (p := p) 8 0 (B.2.1 p hp.1 hp.2).1 (by have := (B.2.1 p hp.1 hp.2).2; omega)).1
  exact B.2.2.1 p _ hp.1 hp.2 k0.1 w.2
theorem s295 {d : Nat} {h : HV} {Q : Int → HV → Prop} {p : Int} (hp : 0 ≤ p ∧ p < 24) : Sp fz1 d 295 [(3, 2953), (0, p)] h Q = Q (if h 3232 p = -9 ∧ h 3296 p < h 3104 p then 1 else 0) h := by
  by_cases a1 : h 3232 p = -9 <;> by_cases a2 : h 3296 p < h 3104 p <;> (try (exfalso; omega)) <;> simp (implicitDefEqProofs := false) (disch := omega) only [sp295, b295_0, b295_1, b295_2, q295_1, q295_2, x_aload0, x_freturn, x_gc_9243, x_gc_9259, x_gc_9275, x_goto_2, x_iaload, x_iconst, x_if_icmp_ge_1, x_if_icmp_ne_1, x_iload1, klp_0, klp_1, klp_2, klp_3, klp_9, KC_0, KC_1, KC_2, KC_3, KC_4, ne_eq, not_false_eq_true, not_true_eq_false, true_and, and_true, and_self, implies_true, eq_self, true_imp_iff, false_implies, Int.reduceEq, Int.reduceNe, Int.reduceMod, Int.reduceMul, Int.reduceAdd, Int.reduceSub, Int.reduceLT, Int.reduceLE, Nat.reduceAdd, Nat.reduceLeDiff, Nat.reduceLT, Nat.reduceSub, reduceIte, wds_n, wds_0, wds_1, wds_2, wds_3, or_true, true_or, or_false, false_or, or_self, false_and, and_false, d_pos, d_s1, d_s2, d_s3, d_s4, d_s5, d_s6, d_s7, d_s8, Classical.not_not, z2953_3, z3104_l, z2953_5, z3232_l, z2953_7, z3296_l, a1, a2, le_sub1, le_T, le_F, lt_T, lt_F, eq_F, w32_T, bz0, bz1, lc_le, lc_ge, lc_lt, lc_gt, lc_eq] <;> first | rfl | (rw [if_pos ⟨a1, a2⟩] <;> rfl) | (rw [if_neg (fun w => a1 w.1)] <;> rfl) | (rw [if_neg (fun w => a2 w.2)] <;> rfl) | (exfalso; omega)

/-- the class's heap in a round of trades -/
def CT (h K : HV) (pl : Int → Int) : Prop := (∀ a, a ≠ 3232 ∧ a ≠ 3296 ∧ a ≠ 3360 ∧ a ≠ 3428 → K a = h a) ∧ (∀ p, 0 ≤ p → p < h 836 4 → K 3232 p = pl p) ∧ (∀ c, 0 ≤ c → c < h (h 64 8 + 598) 5 → K 3360 c = lfT h pl c) ∧ ∀ p, h 836 4 ≤ p → p < 24 → K 3232 p = -9
theorem ip294 {d : Nat} {h K : HV} {pl : Int → Int} {Q : Int → HV → Prop} {p : Int} (B : BT h) (C : CT h K pl) (hp : 0 ≤ p ∧ p < h 836 4) (h9 : pl p = -9) : ∀ (n : Nat) (i k : Int) (M : HV), M = hset K 3296 p k → 0 ≤ i → i + n = 8 → 0 ≤ k → k ≤ h 3104 p → (∀ z, G fz1 (d + 2) 294 3 [(3, 2953), (0, p), z] [] (hset K 3296 p (kT h pl p n k)) Q) → G fz1 (d + 2) 294 2 [(3, 2953), (0, p), (0, i)] [] M Q
  | 0, i, k, M, hM, h0, he, k0, k1, nx => by
    refine G_in ?_
    simp (implicitDefEqProofs := false) (disch := omega) only [b294_2, x_aload0, y_call274, y_call288, y_call295, x_dup203, x_dup21, x_gc_9275, x_goto_2, x_iadd, x_iaload, x_iastore, x_iconst, x_ifCond_eq_3, x_ifCond_ne_3, x_if_icmp_ge_3, x_iinc2, x_iload1, x_iload2, klp_0, klp_1, klp_2, klp_3, klp_9, KC_0, KC_1, KC_2, KC_3, KC_4, ne_eq, not_false_eq_true, not_true_eq_false, true_and, and_true, and_self, implies_true, eq_self, true_imp_iff, false_implies, Int.reduceEq, Int.reduceNe, Int.reduceMod, Int.reduceMul, Int.reduceAdd, Int.reduceSub, Int.reduceLT, Int.reduceLE, Nat.reduceAdd, Nat.reduceLeDiff, Nat.reduceLT, Nat.reduceSub, reduceIte, wds_n, wds_0, wds_1, wds_2, wds_3, or_true, true_or, or_false, false_or, or_self, false_and, and_false, d_pos, d_s1, d_s2, d_s3, d_s4, d_s5, d_s6, d_s7, d_s8, Classical.not_not, le_T, le_F, lt_T, lt_F, w32_T]
    rw [hM]
    exact nx _
  | n + 1, i, k, M, hM, h0, he, k0, k1, nx => by
    have ih := fun (z : k + 1 ≤ h 3104 p) (e : kT h pl p (n + 1) k = kT h pl p n (k + 1)) (M2 : HV) (e2 : M2 = hset M 3296 p (k + 1)) => ip294 (d := d) (Q := Q) B C hp h9 n (i + 1) (k + 1) M2 (by rw [e2, hM, hset_hset]) (by omega) (by omega) (by omega) z (by rw [← e]; exact nx)
    have h24 := B.1
    have p24 : 0 ≤ p ∧ p < 24 := by omega
    have rc8 := B.2.1 p hp.1 hp.2
    have m0 : M 3296 p = k := by rw [hM, hset_v, if_pos ⟨rfl, rfl⟩]
    have mf : ∀ a, a ≠ 3296 → M a = K a := fun a ha => by rw [hM, hs_ne ha]
    have m1 : M 3232 p = -9 := by rw [mf _ (by decide), C.2.1 p hp.1 hp.2]; exact h9
    have m2 : M 3104 = h 3104 := by rw [mf _ (by decide), C.1 _ (by decide)]
    have m3 : M 3040 = h 3040 := by rw [mf _ (by decide), C.1 _ (by decide)]
    by_cases q1 : k < h 3104 p
    · have w1 : M 3232 p = -9 ∧ M 3296 p < M 3104 p := ⟨m1, by rw [m0, m2]; exact q1⟩
      have cr := B.2.2.1 p k hp.1 hp.2 k0 q1
      have a1 : 0 ≤ M 3296 p ∧ M 3296 p < M 3104 p := by rw [m0, m2]; omega
      have a1k : 0 ≤ k ∧ k < M 3104 p := by rw [m2]; omega
      have cmk : M 3040 (p * 8 + k) = h 3040 (p * 8 + k) := by rw [m3]
      have a2 : M 3104 p ≤ 8 := by rw [m2]; omega
      have cm : M 3040 (p * 8 + M 3296 p) = h 3040 (p * 8 + k) := by rw [m0, m3]
      have m8 := B.2.2.2.1
      have c8 : 0 ≤ h 3040 (p * 8 + k) ∧ h 3040 (p * 8 + k) < 8 := by omega
      have ml : M 3360 (h 3040 (p * 8 + k)) = lfT h pl (h 3040 (p * 8 + k)) := by rw [mf _ (by decide)]; exact C.2.2.1 _ cr.1 cr.2
      by_cases q2 : 0 < lfT h pl (h 3040 (p * 8 + k))
      · refine G_in ?_
        simp (implicitDefEqProofs := false) (disch := omega) only [b294_2, x_aload0, y_call274, y_call288, y_call295, x_dup203, x_dup21, x_gc_9275, x_goto_2, x_iadd, x_iaload, x_iastore, x_iconst, x_ifCond_eq_3, x_ifCond_ne_3, x_if_icmp_ge_3, x_iinc2, x_iload1, x_iload2, klp_0, klp_1, klp_2, klp_3, klp_9, KC_0, KC_1, KC_2, KC_3, KC_4, ne_eq, not_false_eq_true, not_true_eq_false, true_and, and_true, and_self, implies_true, eq_self, true_imp_iff, false_implies, Int.reduceEq, Int.reduceNe, Int.reduceMod, Int.reduceMul, Int.reduceAdd, Int.reduceSub, Int.reduceLT, Int.reduceLE, Nat.reduceAdd, Nat.reduceLeDiff, Nat.reduceLT, Nat.reduceSub, reduceIte, wds_n, wds_0, wds_1, wds_2, wds_3, or_true, true_or, or_false, false_or, or_self, false_and, and_false, d_pos, d_s1, d_s2, d_s3, d_s4, d_s5, d_s6, d_s7, d_s8, Classical.not_not, z2953_7, z3296_l, s295 p24, if_pos w1, eq_true m1, s274 p24 a1 a2, cm, s288 c8, ml, if_pos q2, le_T, le_F, lt_T, lt_F, w32_T]
        have e : kT h pl p (n + 1) k = k := by rw [kT, if_neg (fun w => w.2 q2)]
        rw [e] at nx
        rw [hM]
        exact nx _
      · refine G_in ?_
        simp (implicitDefEqProofs := false) (disch := omega) only [b294_2, x_aload0, y_call274, y_call288, y_call295, x_dup203, x_dup21, x_gc_9275, x_goto_2, x_iadd, x_iaload, x_iastore, x_iconst, x_ifCond_eq_3, x_ifCond_ne_3, x_if_icmp_ge_3, x_iinc2, x_iload1, x_iload2, klp_0, klp_1, klp_2, klp_3, klp_9, KC_0, KC_1, KC_2, KC_3, KC_4, ne_eq, not_false_eq_true, not_true_eq_false, true_and, and_true, and_self, implies_true, eq_self, true_imp_iff, false_implies, Int.reduceEq, Int.reduceNe, Int.reduceMod, Int.reduceMul, Int.reduceAdd, Int.reduceSub, Int.reduceLT, Int.reduceLE, Nat.reduceAdd, Nat.reduceLeDiff, Nat.reduceLT, Nat.reduceSub, reduceIte, wds_n, wds_0, wds_1, wds_2, wds_3, or_true, true_or, or_false, false_or, or_self, false_and, and_false, d_pos, d_s1, d_s2, d_s3, d_s4, d_s5, d_s6, d_s7, d_s8, Classical.not_not, z2953_7, z3296_l, s295 p24, if_pos w1, eq_true m1, s274 p24 a1k a2, cmk, s288 c8, ml, if_neg q2, m0, le_T, le_F, lt_T, lt_F, w32_T]
        exact ih (by omega) (by rw [kT, if_pos ⟨q1, q2⟩]) _ rfl
    · have w1 : ¬ (M 3232 p = -9 ∧ M 3296 p < M 3104 p) := fun w => q1 (by have := w.2; rw [m0, m2] at this; exact this)
      refine G_in ?_
      simp (implicitDefEqProofs := false) (disch := omega) only [b294_2, x_aload0, y_call274, y_call288, y_call295, x_dup203, x_dup21, x_gc_9275, x_goto_2, x_iadd, x_iaload, x_iastore, x_iconst, x_ifCond_eq_3, x_ifCond_ne_3, x_if_icmp_ge_3, x_iinc2, x_iload1, x_iload2, klp_0, klp_1, klp_2, klp_3, klp_9, KC_0, KC_1, KC_2, KC_3, KC_4, ne_eq, not_false_eq_true, not_true_eq_false, true_and, and_true, and_self, implies_true, eq_self, true_imp_iff, false_implies, Int.reduceEq, Int.reduceNe, Int.reduceMod, Int.reduceMul, Int.reduceAdd, Int.reduceSub, Int.reduceLT, Int.reduceLE, Nat.reduceAdd, Nat.reduceLeDiff, Nat.reduceLT, Nat.reduceSub, reduceIte, wds_n, wds_0, wds_1, wds_2, wds_3, or_true, true_or, or_false, false_or, or_self, false_and, and_false, d_pos, d_s1, d_s2, d_s3, d_s4, d_s5, d_s6, d_s7, d_s8, Classical.not_not, z2953_7, z3296_l, s295 p24, if_neg w1, le_T, le_F, lt_T, lt_F, w32_T]
      have e : kT h pl p (n + 1) k = k := by rw [kT, if_neg (fun w => q1 w.1)]
      rw [e] at nx
      rw [hM]
      exact nx _
/-- when the pupils before j have pointed -/
def ptH (h K : HV) (pl : Int → Int) (j : Int) : HV := fun o i => if o = 3296 ∧ (0 ≤ i ∧ i < j) ∧ pl i = -9 then kT h pl i 8 0 else K o i
theorem ptH_v (h K : HV) (pl : Int → Int) (j o i : Int) : ptH h K pl j o i = if o = 3296 ∧ (0 ≤ i ∧ i < j) ∧ pl i = -9 then kT h pl i 8 0 else K o i := rfl
theorem ptH_ne {h K : HV} {pl : Int → Int} {j o : Int} (ho : o ≠ 3296) : ptH h K pl j o = K o := by
  funext i
  rw [ptH_v, if_neg (fun q => ho q.1)]
theorem ptH_0 (h K : HV) (pl : Int → Int) : ptH h K pl 0 = K := by
  funext o i
  rw [ptH_v, if_neg (fun q => by omega)]
theorem ptH_s {h K : HV} {pl : Int → Int} {j : Int} (hj : 0 ≤ j) : (if pl j = -9 then hset (ptH h K pl j) 3296 j (kT h pl j 8 0) else ptH h K pl j) = ptH h K pl (j + 1) := by
  funext o i
  by_cases q : pl j = -9
  · rw [if_pos q, hset_v, ptH_v, ptH_v]
    by_cases e : o = 3296 ∧ i = j
    · rw [if_pos e, if_pos ⟨e.1, by omega, by rw [e.2]; exact q⟩, e.2]
    · rw [if_neg e]
      by_cases e2 : o = 3296 ∧ (0 ≤ i ∧ i < j) ∧ pl i = -9
      · rw [if_pos e2, if_pos ⟨e2.1, by omega, e2.2.2⟩]
      · rw [if_neg e2, if_neg (fun w => e2 ⟨w.1, by
          have : i ≠ j := fun z => e ⟨w.1, z⟩
          omega, w.2.2⟩)]
  · rw [if_neg q, ptH_v, ptH_v]
    by_cases e2 : o = 3296 ∧ (0 ≤ i ∧ i < j) ∧ pl i = -9
    · rw [if_pos e2, if_pos ⟨e2.1, by omega, e2.2.2⟩]
    · rw [if_neg e2, if_neg (fun w => e2 ⟨w.1, by
        have : i ≠ j := fun z => q (by rw [← z]; exact w.2.2)
        omega, w.2.2⟩)]
/-- where the pupils stand in their rows -/
def CA (h K : HV) (pl : Int → Int) : Prop := ∀ p, 0 ≤ p → p < h 836 4 → (0 ≤ K 3296 p ∧ K 3296 p ≤ h 3104 p) ∧ (pl p = -9 → ∀ j, 0 ≤ j → j < K 3296 p → ¬ 0 < lfT h pl (h 3040 (p * 8 + j)))
theorem pt_C {h K : HV} {pl : Int → Int} {j : Int} (C : CT h K pl) : CT h (ptH h K pl j) pl := by
  refine ⟨fun a q => by rw [ptH_ne q.2.1]; exact C.1 a q, fun p p0 p1 => by rw [ptH_ne (by decide)]; exact C.2.1 p p0 p1, fun c c0 c1 => by rw [ptH_ne (by decide)]; exact C.2.2.1 c c0 c1, fun p p0 p1 => by rw [ptH_ne (by decide)]; exact C.2.2.2 p p0 p1⟩
theorem s294 {d : Nat} {h K : HV} {pl : Int → Int} {Q : Int → HV → Prop} (B : BT h) (C : CT h K pl) (A : CA h K pl) (hQ : Q 0 (ptH h K pl (h 836 4))) : Sp fz1 (d + 2) 294 [(3, 2953)] K Q := by
  have h24 := B.1
  simp (implicitDefEqProofs := false) (disch := omega) only [sp294, b294_0, x_goto_1, x_iconst, x_istore1, klp_0, klp_1, klp_2, klp_3, klp_9, KC_0, KC_1, KC_2, KC_3, KC_4, ne_eq, not_false_eq_true, not_true_eq_false, true_and, and_true, and_self, implies_true, eq_self, true_imp_iff, false_implies, Int.reduceEq, Int.reduceNe, Int.reduceMod, Int.reduceMul, Int.reduceAdd, Int.reduceSub, Int.reduceLT, Int.reduceLE, Nat.reduceAdd, Nat.reduceLeDiff, Nat.reduceLT, Nat.reduceSub, reduceIte, wds_n, wds_0, wds_1, wds_2, wds_3, or_true, true_or, or_false, false_or, or_self, false_and, and_false, d_pos, d_s1, d_s2, d_s3, d_s4, d_s5, d_s6, d_s7, d_s8, Classical.not_not]
  refine forG (N := (h 836 4).toNat) (I := fun j ls h' => (∃ z, ls = [(3, 2953), (0, (j : Int)), z]) ∧ h' = ptH h K pl j) ?_ ?_ (j := 0) (Nat.zero_le _) ⟨⟨_, rfl⟩, (ptH_0 h K pl).symm⟩
  · rintro j ls h' hj ⟨⟨z, rfl⟩, rfl⟩ nx
    have CP := pt_C (j := (j : Int)) C
    have a836 : ptH h K pl j 836 = h 836 := CP.1 _ (by decide)
    have hjn : 0 ≤ (j : Int) ∧ (j : Int) < h 836 4 := by omega
    have j24 : 0 ≤ (j : Int) ∧ (j : Int) < 24 := by omega
    have hA : ptH h K pl j 3296 j = K 3296 j := by rw [ptH_v, if_neg (fun w => by omega)]
    have AJ := A j hjn.1 hjn.2
    have E := ptH_s (h := h) (K := K) (pl := pl) (j := j) hjn.1
    have nx2 : ∀ z, G fz1 (d + 2) 294 3 [(3, 2953), (0, (j : Int)), z] [] (ptH h K pl ((j : Int) + 1)) Q := fun z => by
      refine G_in ?_
      simp (implicitDefEqProofs := false) (disch := omega) only [b294_3, q294_3, x_goto_1, x_iinc1, klp_0, klp_1, klp_2, klp_3, klp_9, KC_0, KC_1, KC_2, KC_3, KC_4, ne_eq, not_false_eq_true, not_true_eq_false, true_and, and_true, and_self, implies_true, eq_self, true_imp_iff, false_implies, Int.reduceEq, Int.reduceNe, Int.reduceMod, Int.reduceMul, Int.reduceAdd, Int.reduceSub, Int.reduceLT, Int.reduceLE, Nat.reduceAdd, Nat.reduceLeDiff, Nat.reduceLT, Nat.reduceSub, reduceIte, wds_n, wds_0, wds_1, wds_2, wds_3, or_true, true_or, or_false, false_or, or_self, false_and, and_false, d_pos, d_s1, d_s2, d_s3, d_s4, d_s5, d_s6, d_s7, d_s8, Classical.not_not, le_T, le_F, lt_T, lt_F, w32_T]
      exact nx _ _ ⟨⟨_, rfl⟩, rfl⟩
    refine G_in ?_
    by_cases q : pl j = -9
    · rw [if_pos q] at E
      simp (implicitDefEqProofs := false) (disch := omega) only [b294_1, x_aload0, y_call132, x_gc_9219, x_goto_2, x_iconst, x_if_icmp_ge_4, x_iload1, x_istore2, klp_0, klp_1, klp_2, klp_3, klp_9, KC_0, KC_1, KC_2, KC_3, KC_4, ne_eq, not_false_eq_true, not_true_eq_false, true_and, and_true, and_self, implies_true, eq_self, true_imp_iff, false_implies, Int.reduceEq, Int.reduceNe, Int.reduceMod, Int.reduceMul, Int.reduceAdd, Int.reduceSub, Int.reduceLT, Int.reduceLE, Nat.reduceAdd, Nat.reduceLeDiff, Nat.reduceLT, Nat.reduceSub, reduceIte, wds_n, wds_0, wds_1, wds_2, wds_3, or_true, true_or, or_false, false_or, or_self, false_and, and_false, d_pos, d_s1, d_s2, d_s3, d_s4, d_s5, d_s6, d_s7, d_s8, Classical.not_not, z2953_0, s132, a836, le_T, le_F, lt_T, lt_F, w32_T]
      refine ip294 B CP hjn q 8 0 (K 3296 j) _ (by rw [← hA]; exact (hs_id _ _ _).symm) (by decide) (by decide) AJ.1.1 AJ.1.2 (fun z => ?_)
      rw [kT_same (B.2.1 j hjn.1 hjn.2) AJ.1 (AJ.2 q), E]
      exact nx2 z
    · rw [if_neg q] at E
      have w1 : ¬ (ptH h K pl j 3232 j = -9 ∧ ptH h K pl j 3296 j < ptH h K pl j 3104 j) := fun w => q (by rw [← CP.2.1 j hjn.1 hjn.2]; exact w.1)
      simp (implicitDefEqProofs := false) (disch := omega) only [b294_1, b294_2, q294_2, x_aload0, y_call132, y_call274, y_call288, y_call295, x_dup203, x_dup21, x_gc_9219, x_gc_9275, x_goto_2, x_iadd, x_iaload, x_iastore, x_iconst, x_ifCond_eq_3, x_ifCond_ne_3, x_if_icmp_ge_3, x_if_icmp_ge_4, x_iinc2, x_iload1, x_iload2, x_istore2, klp_0, klp_1, klp_2, klp_3, klp_9, KC_0, KC_1, KC_2, KC_3, KC_4, ne_eq, not_false_eq_true, not_true_eq_false, true_and, and_true, and_self, implies_true, eq_self, true_imp_iff, false_implies, Int.reduceEq, Int.reduceNe, Int.reduceMod, Int.reduceMul, Int.reduceAdd, Int.reduceSub, Int.reduceLT, Int.reduceLE, Nat.reduceAdd, Nat.reduceLeDiff, Nat.reduceLT, Nat.reduceSub, reduceIte, wds_n, wds_0, wds_1, wds_2, wds_3, or_true, true_or, or_false, false_or, or_self, false_and, and_false, d_pos, d_s1, d_s2, d_s3, d_s4, d_s5, d_s6, d_s7, d_s8, Classical.not_not, z2953_0, s132, a836, s295 j24, if_neg w1, le_T, le_F, lt_T, lt_F, w32_T]
      rw [E]
      exact nx2 _
  · rintro ls h' ⟨⟨z, rfl⟩, rfl⟩
    have CP := pt_C (j := (((h 836 4).toNat : Nat) : Int)) C
    have a836 : ptH h K pl ((h 836 4).toNat : Nat) 836 = h 836 := CP.1 _ (by decide)
    rw [show (((h 836 4).toNat : Nat) : Int) = h 836 4 by omega] at a836 ⊢
    refine G_in ?_
    simp (implicitDefEqProofs := false) (disch := omega) only [b294_1, b294_4, q294_4, x_aload0, y_call132, x_gc_9219, x_goto_2, x_iconst, x_if_icmp_ge_4, x_iload1, x_istore2, x_return, klp_0, klp_1, klp_2, klp_3, klp_9, KC_0, KC_1, KC_2, KC_3, KC_4, ne_eq, not_false_eq_true, not_true_eq_false, true_and, and_true, and_self, implies_true, eq_self, true_imp_iff, false_implies, Int.reduceEq, Int.reduceNe, Int.reduceMod, Int.reduceMul, Int.reduceAdd, Int.reduceSub, Int.reduceLT, Int.reduceLE, Nat.reduceAdd, Nat.reduceLeDiff, Nat.reduceLT, Nat.reduceSub, reduceIte, wds_n, wds_0, wds_1, wds_2, wds_3, or_true, true_or, or_false, false_or, or_self, false_and, and_false, d_pos, d_s1, d_s2, d_s3, d_s4, d_s5, d_s6, d_s7, d_s8, Classical.not_not, z2953_0, s132, a836, le_T, le_F, lt_T, lt_F, w32_T]
    exact hQ
/-- the class's heap when all have pointed -/
def CP (h K : HV) (pl : Int → Int) : Prop := CT h K pl ∧ ∀ p, 0 ≤ p → p < h 836 4 → pl p = -9 → K 3296 p = kT h pl p 8 0
theorem s295p {d : Nat} {h K : HV} {pl : Int → Int} {Q : Int → HV → Prop} {p : Int} (B : BT h) (C : CP h K pl) (hp : 0 ≤ p ∧ p < h 836 4) : Sp fz1 d 295 [(3, 2953), (0, p)] K Q = Q (wT h pl p) K := by
  have := B.1
  rw [s295 (by omega), C.1.2.1 p hp.1 hp.2, C.1.1 3104 (by decide)]
  have e : (if pl p = -9 ∧ K 3296 p < h 3104 p then (1 : Int) else 0) = wT h pl p := by
    unfold wT
    by_cases q : pl p = -9
    · rw [C.2 p hp.1 hp.2 q]
    · rw [if_neg (fun w => q w.1), if_neg (fun w => q w.1)]
  rw [e]
theorem s274p {d : Nat} {h K : HV} {pl : Int → Int} {Q : Int → HV → Prop} {p : Int} (B : BT h) (C : CP h K pl) (hp : 0 ≤ p ∧ p < h 836 4) (hw : wT h pl p = 1) : Sp fz1 d 274 [(3, 2953), (0, p), (0, K 3296 p)] K Q = Q (cwT h pl p) K := by
  have h24 := B.1
  have rc := B.2.1 p hp.1 hp.2
  have w := wT_c hw
  have k0 := (kT_spec (h := h) (pl := pl) (p := p) 8 0 rc.1 (by omega)).1
  have e := C.2 p hp.1 hp.2 w.1
  rw [s274 (by omega) (by rw [e, C.1.1 3104 (by decide)]; exact ⟨k0.1, w.2⟩) (by rw [C.1.1 3104 (by decide)]; exact rc.2), e, C.1.1 3040 (by decide)]
  rfl
theorem s298 {d : Nat} {h K : HV} {pl : Int → Int} {Q : Int → HV → Prop} {c : Int} (B : BT h) (C : CP h K pl) (hc : 0 ≤ c ∧ c < 8) : Sp fz1 (d + 3) 298 [(3, 2953), (0, c)] K Q = Q (fsT h pl c (h 836 4).toNat) K := by
  have h24 := B.1
  have a836 : K 836 = h 836 := C.1.1 _ (by decide)
  have a3168 : K 3168 = h 3168 := C.1.1 _ (by decide)
  refine Sp_is ?_ Q
  simp (implicitDefEqProofs := false) (disch := omega) only [sp298, b298_0, x_goto_1, x_iconst, x_istore2, x_istore3, klp_0, klp_1, klp_2, klp_3, klp_9, KC_0, KC_1, KC_2, KC_3, KC_4, ne_eq, not_false_eq_true, not_true_eq_false, true_and, and_true, and_self, implies_true, eq_self, true_imp_iff, false_implies, Int.reduceEq, Int.reduceNe, Int.reduceMod, Int.reduceMul, Int.reduceAdd, Int.reduceSub, Int.reduceLT, Int.reduceLE, Nat.reduceAdd, Nat.reduceLeDiff, Nat.reduceLT, Nat.reduceSub, reduceIte, wds_n, wds_0, wds_1, wds_2, wds_3, or_true, true_or, or_false, false_or, or_self, false_and, and_false, d_pos, d_s1, d_s2, d_s3, d_s4, d_s5, d_s6, d_s7, d_s8, Classical.not_not]
  refine forG (N := (h 836 4).toNat) (I := fun j ls h' => ls = [(3, 2953), (0, c), (0, fsT h pl c j), (0, (j : Int))] ∧ h' = K) ?_ ?_ (j := 0) (Nat.zero_le _) ⟨rfl, rfl⟩
  · rintro j ls h' hj ⟨rfl, rfl⟩ nx
    have e : fsT h pl c (j + 1) = if wT h pl j = 1 ∧ (fsT h pl c j < 0 ∨ bfF (fun x => h 3168 (x * 8 + c)) j (fsT h pl c j) ≠ 0) then (j : Int) else fsT h pl c j := rfl
    rw [e] at nx
    have lb := fsT_b (h := h) (pl := pl) (c := c) j
    generalize fsT h pl c j = l at *
    have hjn : 0 ≤ (j : Int) ∧ (j : Int) < h 836 4 := by omega
    have j24 : 0 ≤ (j : Int) ∧ (j : Int) < 24 := by omega
    refine G_in ?_
    rcases wT_b h pl j with w0 | w1
    · rw [if_neg (fun w => by omega)] at nx
      simp (implicitDefEqProofs := false) (disch := omega) only [b298_1, b298_2, b298_3, q298_2, q298_3, x_aload0, y_call132, y_call291, y_call295, x_gc_9219, x_goto_1, x_goto_2, x_goto_3, x_ifCond_eq_3, x_ifCond_lt_2, x_if_icmp_ge_4, x_iinc3, x_iload1, x_iload2, x_iload3, x_istore2, klp_0, klp_1, klp_2, klp_3, klp_9, KC_0, KC_1, KC_2, KC_3, KC_4, ne_eq, not_false_eq_true, not_true_eq_false, true_and, and_true, and_self, implies_true, eq_self, true_imp_iff, false_implies, Int.reduceEq, Int.reduceNe, Int.reduceMod, Int.reduceMul, Int.reduceAdd, Int.reduceSub, Int.reduceLT, Int.reduceLE, Nat.reduceAdd, Nat.reduceLeDiff, Nat.reduceLT, Nat.reduceSub, reduceIte, wds_n, wds_0, wds_1, wds_2, wds_3, or_true, true_or, or_false, false_or, or_self, false_and, and_false, d_pos, d_s1, d_s2, d_s3, d_s4, d_s5, d_s6, d_s7, d_s8, Classical.not_not, z2953_0, s132, a836, s295p B C hjn, w0, le_T, le_F, lt_T, lt_F, w32_T]
      exact nx _ _ ⟨rfl, rfl⟩
    · by_cases hl : l < 0
      · rw [if_pos ⟨w1, .inl hl⟩] at nx
        simp (implicitDefEqProofs := false) (disch := omega) only [b298_1, b298_2, b298_3, q298_2, q298_3, x_aload0, y_call132, y_call291, y_call295, x_gc_9219, x_goto_1, x_goto_2, x_goto_3, x_ifCond_eq_3, x_ifCond_lt_2, x_if_icmp_ge_4, x_iinc3, x_iload1, x_iload2, x_iload3, x_istore2, klp_0, klp_1, klp_2, klp_3, klp_9, KC_0, KC_1, KC_2, KC_3, KC_4, ne_eq, not_false_eq_true, not_true_eq_false, true_and, and_true, and_self, implies_true, eq_self, true_imp_iff, false_implies, Int.reduceEq, Int.reduceNe, Int.reduceMod, Int.reduceMul, Int.reduceAdd, Int.reduceSub, Int.reduceLT, Int.reduceLE, Nat.reduceAdd, Nat.reduceLeDiff, Nat.reduceLT, Nat.reduceSub, reduceIte, wds_n, wds_0, wds_1, wds_2, wds_3, or_true, true_or, or_false, false_or, or_self, false_and, and_false, d_pos, d_s1, d_s2, d_s3, d_s4, d_s5, d_s6, d_s7, d_s8, Classical.not_not, z2953_0, s132, a836, s295p B C hjn, w1, le_T, le_F, lt_T, lt_F, w32_T]
        exact nx _ _ ⟨rfl, rfl⟩
      · have l24 : 0 ≤ l ∧ l < 24 := by omega
        by_cases hb : bfF (fun x => h 3168 (x * 8 + c)) j l = 0
        · rw [if_neg (fun w => w.2.elim hl (fun x => x hb))] at nx
          simp (implicitDefEqProofs := false) (disch := omega) only [b298_1, b298_2, b298_3, q298_2, q298_3, x_aload0, y_call132, y_call291, y_call295, x_gc_9219, x_goto_1, x_goto_2, x_goto_3, x_ifCond_eq_3, x_ifCond_lt_2, x_if_icmp_ge_4, x_iinc3, x_iload1, x_iload2, x_iload3, x_istore2, klp_0, klp_1, klp_2, klp_3, klp_9, KC_0, KC_1, KC_2, KC_3, KC_4, ne_eq, not_false_eq_true, not_true_eq_false, true_and, and_true, and_self, implies_true, eq_self, true_imp_iff, false_implies, Int.reduceEq, Int.reduceNe, Int.reduceMod, Int.reduceMul, Int.reduceAdd, Int.reduceSub, Int.reduceLT, Int.reduceLE, Nat.reduceAdd, Nat.reduceLeDiff, Nat.reduceLT, Nat.reduceSub, reduceIte, wds_n, wds_0, wds_1, wds_2, wds_3, or_true, true_or, or_false, false_or, or_self, false_and, and_false, d_pos, d_s1, d_s2, d_s3, d_s4, d_s5, d_s6, d_s7, d_s8, Classical.not_not, z2953_0, s132, a836, a3168, s295p B C hjn, w1, s291 j24 l24 hc, hb, le_T, le_F, lt_T, lt_F, w32_T]
          exact nx _ _ ⟨rfl, rfl⟩
        · rw [if_pos ⟨w1, .inr hb⟩] at nx
          simp (implicitDefEqProofs := false) (disch := omega) only [b298_1, b298_2, b298_3, q298_2, q298_3, x_aload0, y_call132, y_call291, y_call295, x_gc_9219, x_goto_1, x_goto_2, x_goto_3, x_ifCond_eq_3, x_ifCond_lt_2, x_if_icmp_ge_4, x_iinc3, x_iload1, x_iload2, x_iload3, x_istore2, klp_0, klp_1, klp_2, klp_3, klp_9, KC_0, KC_1, KC_2, KC_3, KC_4, ne_eq, not_false_eq_true, not_true_eq_false, true_and, and_true, and_self, implies_true, eq_self, true_imp_iff, false_implies, Int.reduceEq, Int.reduceNe, Int.reduceMod, Int.reduceMul, Int.reduceAdd, Int.reduceSub, Int.reduceLT, Int.reduceLE, Nat.reduceAdd, Nat.reduceLeDiff, Nat.reduceLT, Nat.reduceSub, reduceIte, wds_n, wds_0, wds_1, wds_2, wds_3, or_true, true_or, or_false, false_or, or_self, false_and, and_false, d_pos, d_s1, d_s2, d_s3, d_s4, d_s5, d_s6, d_s7, d_s8, Classical.not_not, z2953_0, s132, a836, a3168, s295p B C hjn, w1, s291 j24 l24 hc, hb, le_T, le_F, lt_T, lt_F, w32_T]
          exact nx _ _ ⟨rfl, rfl⟩
  · rintro ls h' ⟨rfl, rfl⟩
    refine G_in ?_
    simp (implicitDefEqProofs := false) (disch := omega) only [b298_1, b298_4, q298_4, x_aload0, y_call132, y_call291, y_call295, x_gc_9219, x_goto_2, x_ifCond_eq_3, x_ifCond_lt_2, x_if_icmp_ge_4, x_iload1, x_iload2, x_iload3, x_ireturn, klp_0, klp_1, klp_2, klp_3, klp_9, KC_0, KC_1, KC_2, KC_3, KC_4, ne_eq, not_false_eq_true, not_true_eq_false, true_and, and_true, and_self, implies_true, eq_self, true_imp_iff, false_implies, Int.reduceEq, Int.reduceNe, Int.reduceMod, Int.reduceMul, Int.reduceAdd, Int.reduceSub, Int.reduceLT, Int.reduceLE, Nat.reduceAdd, Nat.reduceLeDiff, Nat.reduceLT, Nat.reduceSub, reduceIte, wds_n, wds_0, wds_1, wds_2, wds_3, or_true, true_or, or_false, false_or, or_self, false_and, and_false, d_pos, d_s1, d_s2, d_s3, d_s4, d_s5, d_s6, d_s7, d_s8, Classical.not_not, z2953_0, s132, a836, le_T, le_F, lt_T, lt_F, w32_T]
theorem lp297 {d : Nat} {h K : HV} {pl : Int → Int} {Q : Int → HV → Prop} {p : Int} (B : BT h) (C : CP h K pl) : ∀ (n : Nat) (i a : Int), 0 ≤ i → i + n = 24 → (0 ≤ a ∧ a < h 836 4) → wT h pl a = 1 → Q (cbT h pl p n a) K → G fz1 (d + 4) 297 1 [(3, 2953), (0, p), (0, a), (0, i)] [] K Q
  | 0, i, a, h0, he, ha, hw, hQ => by
    refine G_in ?_
    simp (implicitDefEqProofs := false) (disch := omega) only [b297_1, b297_3, q297_3, x_aload0, y_call274, y_call298, x_freturn, x_gc_9275, x_iaload, x_iconst, x_ifCond_lt_3, x_if_icmp_ge_3, x_if_icmp_ne_2, x_iload1, x_iload2, x_iload3, x_istore2, klp_0, klp_1, klp_2, klp_3, klp_9, KC_0, KC_1, KC_2, KC_3, KC_4, ne_eq, not_false_eq_true, not_true_eq_false, true_and, and_true, and_self, implies_true, eq_self, true_imp_iff, false_implies, Int.reduceEq, Int.reduceNe, Int.reduceMod, Int.reduceMul, Int.reduceAdd, Int.reduceSub, Int.reduceLT, Int.reduceLE, Nat.reduceAdd, Nat.reduceLeDiff, Nat.reduceLT, Nat.reduceSub, reduceIte, wds_n, wds_0, wds_1, wds_2, wds_3, or_true, true_or, or_false, false_or, or_self, false_and, and_false, d_pos, d_s1, d_s2, d_s3, d_s4, d_s5, d_s6, d_s7, d_s8, Classical.not_not, le_T, le_F, lt_T, lt_F, w32_T]
    exact hQ
  | n + 1, i, a, h0, he, ha, hw, hQ => by
    have h24 := B.1
    have cb := cwT_b B ha hw
    have m8 := B.2.2.2.1
    have c8 : 0 ≤ cwT h pl a ∧ cwT h pl a < 8 := by omega
    have g := gT_b (p := a) ha hw
    have gE : fsT h pl (cwT h pl a) (h 836 4).toNat = gT h pl a := rfl
    rw [cbT] at hQ
    refine G_in ?_
    by_cases q : gT h pl a = p
    · rw [if_pos q] at hQ
      simp (implicitDefEqProofs := false) (disch := omega) only [b297_1, b297_2, q297_2, x_aload0, y_call274, y_call298, x_freturn, x_gc_9275, x_goto_1, x_iaload, x_iconst, x_ifCond_lt_3, x_if_icmp_ge_3, x_if_icmp_ne_2, x_iinc3, x_iload1, x_iload2, x_iload3, x_istore2, klp_0, klp_1, klp_2, klp_3, klp_9, KC_0, KC_1, KC_2, KC_3, KC_4, ne_eq, not_false_eq_true, not_true_eq_false, true_and, and_true, and_self, implies_true, eq_self, true_imp_iff, false_implies, Int.reduceEq, Int.reduceNe, Int.reduceMod, Int.reduceMul, Int.reduceAdd, Int.reduceSub, Int.reduceLT, Int.reduceLE, Nat.reduceAdd, Nat.reduceLeDiff, Nat.reduceLT, Nat.reduceSub, reduceIte, wds_n, wds_0, wds_1, wds_2, wds_3, or_true, true_or, or_false, false_or, or_self, false_and, and_false, d_pos, d_s1, d_s2, d_s3, d_s4, d_s5, d_s6, d_s7, d_s8, Classical.not_not, z2953_7, z3296_l, s274p B C ha hw, s298 B C c8, gE, eq_true q, le_T, le_F, lt_T, lt_F, w32_T]
      exact hQ
    · rw [if_neg q] at hQ
      simp (implicitDefEqProofs := false) (disch := omega) only [b297_1, b297_2, q297_2, x_aload0, y_call274, y_call298, x_freturn, x_gc_9275, x_goto_1, x_iaload, x_iconst, x_ifCond_lt_3, x_if_icmp_ge_3, x_if_icmp_ne_2, x_iinc3, x_iload1, x_iload2, x_iload3, x_istore2, klp_0, klp_1, klp_2, klp_3, klp_9, KC_0, KC_1, KC_2, KC_3, KC_4, ne_eq, not_false_eq_true, not_true_eq_false, true_and, and_true, and_self, implies_true, eq_self, true_imp_iff, false_implies, Int.reduceEq, Int.reduceNe, Int.reduceMod, Int.reduceMul, Int.reduceAdd, Int.reduceSub, Int.reduceLT, Int.reduceLE, Nat.reduceAdd, Nat.reduceLeDiff, Nat.reduceLT, Nat.reduceSub, reduceIte, wds_n, wds_0, wds_1, wds_2, wds_3, or_true, true_or, or_false, false_or, or_self, false_and, and_false, d_pos, d_s1, d_s2, d_s3, d_s4, d_s5, d_s6, d_s7, d_s8, Classical.not_not, z2953_7, z3296_l, s274p B C ha hw, s298 B C c8, gE, q, le_T, le_F, lt_T, lt_F, w32_T]
      exact lp297 B C n (i + 1) _ (by omega) (by omega) g.1 g.2 hQ
theorem s297 {d : Nat} {h K : HV} {pl : Int → Int} {Q : Int → HV → Prop} {p : Int} (B : BT h) (C : CP h K pl) (hp : 0 ≤ p ∧ p < h 836 4) (hw : wT h pl p = 1) : Sp fz1 (d + 4) 297 [(3, 2953), (0, p)] K Q = Q (cbT h pl p 24 p) K := by
  refine Sp_is ?_ Q
  simp (implicitDefEqProofs := false) (disch := omega) only [sp297, b297_0, x_goto_1, x_iconst, x_iload1, x_istore2, x_istore3, klp_0, klp_1, klp_2, klp_3, klp_9, KC_0, KC_1, KC_2, KC_3, KC_4, ne_eq, not_false_eq_true, not_true_eq_false, true_and, and_true, and_self, implies_true, eq_self, true_imp_iff, false_implies, Int.reduceEq, Int.reduceNe, Int.reduceMod, Int.reduceMul, Int.reduceAdd, Int.reduceSub, Int.reduceLT, Int.reduceLE, Nat.reduceAdd, Nat.reduceLeDiff, Nat.reduceLT, Nat.reduceSub, reduceIte, wds_n, wds_0, wds_1, wds_2, wds_3, or_true, true_or, or_false, false_or, or_self, false_and, and_false, d_pos, d_s1, d_s2, d_s3, d_s4, d_s5, d_s6, d_s7, d_s8, Classical.not_not]
  exact lp297 B C 24 0 p (by decide) (by decide) hp hw ⟨rfl, rfl⟩
