/-! THE PURE SIDE, 56: match, a round of the reference's offers: printed by wip/tools/gen75.py -/
/-- the worst of p and those in c -/
def wrF (pl t : Int → Int) (c p : Int) : Nat → Int
  | 0 => p
  | n + 1 => if pl n = c ∧ bfF t (wrF pl t c p n) n ≠ 0 then n else wrF pl t c p n
theorem wrF_max {pl t : Int → Int} {c p : Int} (hp : pl p = c) : ∀ n : Nat, (wrF pl t c p n = p ∨ 0 ≤ wrF pl t c p n ∧ wrF pl t c p n < n) ∧ pl (wrF pl t c p n) = c ∧ (p = wrF pl t c p n ∨ (t p < t (wrF pl t c p n) ∨ t p = t (wrF pl t c p n) ∧ p < wrF pl t c p n)) ∧ ∀ q : Int, 0 ≤ q → q < (n : Int) → pl q = c → q = wrF pl t c p n ∨ (t q < t (wrF pl t c p n) ∨ t q = t (wrF pl t c p n) ∧ q < wrF pl t c p n)
  | 0 => ⟨.inl rfl, hp, .inl rfl, fun q a b => by omega⟩
  | n + 1 => by
    have ih := wrF_max (pl := pl) (t := t) (c := c) hp n
    rw [wrF]
    generalize wrF pl t c p n = w at *
    obtain ⟨e1, e2, e3, f⟩ := ih
    by_cases hn : pl n = c ∧ bfF t w n ≠ 0
    · rw [if_pos hn]
      have hb := bf_iff.1 hn.2
      refine ⟨.inr ⟨by omega, by omega⟩, hn.1, ?_, fun q q0 q1 qc => ?_⟩
      · right
        rcases e3 with e3 | e3
        · rw [e3]; exact hb
        · omega
      · by_cases e4 : q = n
        · exact .inl e4
        · right
          rcases f q q0 (by omega) qc with e5 | e5
          · rw [e5]; exact hb
          · omega
    · rw [if_neg hn]
      refine ⟨by omega, e2, e3, fun q q0 q1 qc => ?_⟩
      by_cases e4 : q = n
      · have nb : ¬ bfF t w n ≠ 0 := fun x => hn ⟨by rw [← e4]; exact qc, x⟩
        rw [bf_iff] at nb
        rw [e4]
        omega
      · exact f q q0 (by omega) qc
def wsR (h : HV) (c p : Int) (n : Nat) : Int := wrF (h 12576) (fun x => h 12512 (8 * x + c)) c p n
theorem wsR_b {h : HV} {c p : Int} (hp : 0 ≤ p ∧ p < 24) : ∀ n : Nat, n ≤ 24 → 0 ≤ wsR h c p n ∧ wsR h c p n < 24
  | 0, _ => hp
  | n + 1, hn => by
    have ih := wsR_b (h := h) (c := c) hp n (by omega)
    unfold wsR at ih ⊢
    rw [wrF]
    split <;> omega
theorem lw432 {d : Nat} {h : HV} {Q : Int → HV → Prop} {f p c : Int} (hc : 0 ≤ h 6603 25 ∧ h 6603 25 ≤ 24) (hp : 0 ≤ p ∧ p < 24) (hc8 : 0 ≤ c ∧ c < 8)
    (nx : ∀ z, G fz1 (d + 1) 432 2 [(3, 6603), (0, f), (0, p + 1), (0, c), (0, wsR h c p (h 6603 25).toNat), z] [] (hset h 12576 (wsR h c p (h 6603 25).toNat) (-9)) Q) : G fz1 (d + 1) 432 3 [(3, 6603), (0, f), (0, p), (0, c), (0, p), (0, 0)] [] h Q := by
  refine forG (N := (h 6603 25).toNat) (I := fun j ls h' => ls = [(3, 6603), (0, f), (0, p), (0, c), (0, wsR h c p j), (0, (j : Int))] ∧ h' = h) ?_ ?_ (j := 0) (Nat.zero_le _) ⟨rfl, rfl⟩
  · rintro j ls h' hj ⟨rfl, rfl⟩ n2
    have e : wsR h' c p (j + 1) = if h' 12576 j = c ∧ bfF (fun x => h' 12512 (8 * x + c)) (wsR h' c p j) j ≠ 0 then (j : Int) else wsR h' c p j := rfl
    have wb := wsR_b (h := h') (c := c) hp j (by omega)
    rw [e] at n2
    generalize wsR h' c p j = w at *
    have j24 : 0 ≤ (j : Int) ∧ (j : Int) < 24 := by omega
    refine G_in ?_
    by_cases h1 : h' 12576 j = c
    · by_cases hb : bfF (fun x => h' 12512 (8 * x + c)) w j = 0
      · rw [if_neg (fun x => x.2 hb)] at n2
        simp (implicitDefEqProofs := false) (disch := omega) only [b432_3, b432_4, b432_5, q432_4, q432_5, x_aload0, y_call434, x_gc_11947, x_gf_11464, x_goto_3, x_goto_5, x_iaload, x_ifCond_eq_4, x_if_icmp_ge_6, x_if_icmp_ne_4, x_iinc5, x_iload3, x_iload4, x_iload5, x_istore4, klp_0, klp_1, klp_2, klp_3, klp_9, KC_0, KC_1, KC_2, KC_3, KC_4, ne_eq, not_false_eq_true, not_true_eq_false, true_and, and_true, and_self, implies_true, eq_self, true_imp_iff, false_implies, Int.reduceEq, Int.reduceNe, Int.reduceMod, Int.reduceMul, Int.reduceAdd, Int.reduceSub, Int.reduceLT, Int.reduceLE, Nat.reduceAdd, Nat.reduceLeDiff, Nat.reduceLT, Nat.reduceSub, reduceIte, wds_n, wds_0, wds_1, wds_2, wds_3, or_true, true_or, or_false, false_or, or_self, false_and, and_false, d_pos, d_s1, d_s2, d_s3, d_s4, d_s5, d_s6, d_s7, d_s8, Classical.not_not, z6603_85, z12576_l, s434b wb j24 hc8, eq_true h1, hb, le_T, le_F, lt_T, lt_F, w32_T]
        exact n2 _ _ ⟨rfl, rfl⟩
      · rw [if_pos ⟨h1, hb⟩] at n2
        simp (implicitDefEqProofs := false) (disch := omega) only [b432_3, b432_4, b432_5, q432_4, q432_5, x_aload0, y_call434, x_gc_11947, x_gf_11464, x_goto_3, x_goto_5, x_iaload, x_ifCond_eq_4, x_if_icmp_ge_6, x_if_icmp_ne_4, x_iinc5, x_iload3, x_iload4, x_iload5, x_istore4, klp_0, klp_1, klp_2, klp_3, klp_9, KC_0, KC_1, KC_2, KC_3, KC_4, ne_eq, not_false_eq_true, not_true_eq_false, true_and, and_true, and_self, implies_true, eq_self, true_imp_iff, false_implies, Int.reduceEq, Int.reduceNe, Int.reduceMod, Int.reduceMul, Int.reduceAdd, Int.reduceSub, Int.reduceLT, Int.reduceLE, Nat.reduceAdd, Nat.reduceLeDiff, Nat.reduceLT, Nat.reduceSub, reduceIte, wds_n, wds_0, wds_1, wds_2, wds_3, or_true, true_or, or_false, false_or, or_self, false_and, and_false, d_pos, d_s1, d_s2, d_s3, d_s4, d_s5, d_s6, d_s7, d_s8, Classical.not_not, z6603_85, z12576_l, s434b wb j24 hc8, eq_true h1, hb, le_T, le_F, lt_T, lt_F, w32_T]
        exact n2 _ _ ⟨rfl, rfl⟩
    · rw [if_neg (fun x => h1 x.1)] at n2
      simp (implicitDefEqProofs := false) (disch := omega) only [b432_3, b432_4, b432_5, q432_4, q432_5, x_aload0, y_call434, x_gc_11947, x_gf_11464, x_goto_3, x_goto_5, x_iaload, x_ifCond_eq_4, x_if_icmp_ge_6, x_if_icmp_ne_4, x_iinc5, x_iload3, x_iload4, x_iload5, x_istore4, klp_0, klp_1, klp_2, klp_3, klp_9, KC_0, KC_1, KC_2, KC_3, KC_4, ne_eq, not_false_eq_true, not_true_eq_false, true_and, and_true, and_self, implies_true, eq_self, true_imp_iff, false_implies, Int.reduceEq, Int.reduceNe, Int.reduceMod, Int.reduceMul, Int.reduceAdd, Int.reduceSub, Int.reduceLT, Int.reduceLE, Nat.reduceAdd, Nat.reduceLeDiff, Nat.reduceLT, Nat.reduceSub, reduceIte, wds_n, wds_0, wds_1, wds_2, wds_3, or_true, true_or, or_false, false_or, or_self, false_and, and_false, d_pos, d_s1, d_s2, d_s3, d_s4, d_s5, d_s6, d_s7, d_s8, Classical.not_not, z6603_85, z12576_l, s434b wb j24 hc8, h1, le_T, le_F, lt_T, lt_F, w32_T]
      exact n2 _ _ ⟨rfl, rfl⟩
  · rintro ls h' ⟨rfl, rfl⟩
    have wb := wsR_b (h := h') (c := c) hp (h' 6603 25).toNat (by omega)
    generalize wsR h' c p (h' 6603 25).toNat = w at *
    refine G_in ?_
    simp (implicitDefEqProofs := false) (disch := omega) only [b432_3, b432_6, b432_7, q432_6, q432_7, x_aload0, y_call434, x_gc_11947, x_gf_11464, x_goto_2, x_goto_5, x_goto_7, x_iaload, x_iastore, x_iconst, x_ifCond_eq_4, x_if_icmp_ge_6, x_if_icmp_ne_4, x_iinc2, x_iload3, x_iload4, x_iload5, klp_0, klp_1, klp_2, klp_3, klp_9, KC_0, KC_1, KC_2, KC_3, KC_4, ne_eq, not_false_eq_true, not_true_eq_false, true_and, and_true, and_self, implies_true, eq_self, true_imp_iff, false_implies, Int.reduceEq, Int.reduceNe, Int.reduceMod, Int.reduceMul, Int.reduceAdd, Int.reduceSub, Int.reduceLT, Int.reduceLE, Nat.reduceAdd, Nat.reduceLeDiff, Nat.reduceLT, Nat.reduceSub, reduceIte, wds_n, wds_0, wds_1, wds_2, wds_3, or_true, true_or, or_false, false_or, or_self, false_and, and_false, d_pos, d_s1, d_s2, d_s3, d_s4, d_s5, d_s6, d_s7, d_s8, Classical.not_not, z6603_85, z12576_l, le_T, le_F, lt_T, lt_F, w32_T]
    exact nx _
/-- who asks -/
def asR (h : HV) (p : Int) : Prop := h 10016 p = 0 ∧ h 12576 p = -9 ∧ h 12640 p < h 12384 p
theorem rd432n {d : Nat} {h : HV} {Q : Int → HV → Prop} {f p : Int} {y3 y4 y5 : AV} (hc : 0 ≤ h 6603 25 ∧ h 6603 25 ≤ 24) (hp : 0 ≤ p ∧ p < h 6603 25) (hn : ¬ asR h p) (nx : G fz1 d 432 2 [(3, 6603), (0, f), (0, p + 1), y3, y4, y5] [] h Q) : G fz1 d 432 2 [(3, 6603), (0, f), (0, p), y3, y4, y5] [] h Q := by
  refine G_in ?_
  by_cases h1 : h 10016 p = 0
  · by_cases h2 : h 12576 p = -9
    · have h3 : ¬ h 12640 p < h 12384 p := fun w => hn ⟨h1, h2, w⟩
      simp (implicitDefEqProofs := false) (disch := omega) only [b432_2, b432_7, q432_7, x_aload0, y_call433, x_dup203, x_dup21, x_gc_11475, x_gc_11923, x_gc_11931, x_gc_11947, x_gc_11963, x_gc_12371, x_gf_11339, x_gf_11464, x_goto_2, x_goto_3, x_iadd, x_iaload, x_iastore, x_iconst, x_ifCond_ne_7, x_if_icmp_ge_7, x_if_icmp_ge_8, x_if_icmp_le_7, x_if_icmp_ne_7, x_iinc2, x_iload2, x_iload3, x_imul, x_istore1, x_istore3, x_istore4, x_istore5, klp_0, klp_1, klp_2, klp_3, klp_9, KC_0, KC_1, KC_2, KC_3, KC_4, ne_eq, not_false_eq_true, not_true_eq_false, true_and, and_true, and_self, implies_true, eq_self, true_imp_iff, false_implies, Int.reduceEq, Int.reduceNe, Int.reduceMod, Int.reduceMul, Int.reduceAdd, Int.reduceSub, Int.reduceLT, Int.reduceLE, Nat.reduceAdd, Nat.reduceLeDiff, Nat.reduceLT, Nat.reduceSub, reduceIte, wds_n, wds_0, wds_1, wds_2, wds_3, or_true, true_or, or_false, false_or, or_self, false_and, and_false, d_pos, d_s1, d_s2, d_s3, d_s4, d_s5, d_s6, d_s7, d_s8, Classical.not_not, z6603_26, z10016_l, z6603_85, z12576_l, z6603_87, z12640_l, z6603_82, z12384_l, eq_true h1, eq_true h2, le_T, le_F, lt_T, lt_F, w32_T]
      exact nx
    · simp (implicitDefEqProofs := false) (disch := omega) only [b432_2, b432_7, q432_7, x_aload0, y_call433, x_dup203, x_dup21, x_gc_11475, x_gc_11923, x_gc_11931, x_gc_11947, x_gc_11963, x_gc_12371, x_gf_11339, x_gf_11464, x_goto_2, x_goto_3, x_iadd, x_iaload, x_iastore, x_iconst, x_ifCond_ne_7, x_if_icmp_ge_7, x_if_icmp_ge_8, x_if_icmp_le_7, x_if_icmp_ne_7, x_iinc2, x_iload2, x_iload3, x_imul, x_istore1, x_istore3, x_istore4, x_istore5, klp_0, klp_1, klp_2, klp_3, klp_9, KC_0, KC_1, KC_2, KC_3, KC_4, ne_eq, not_false_eq_true, not_true_eq_false, true_and, and_true, and_self, implies_true, eq_self, true_imp_iff, false_implies, Int.reduceEq, Int.reduceNe, Int.reduceMod, Int.reduceMul, Int.reduceAdd, Int.reduceSub, Int.reduceLT, Int.reduceLE, Nat.reduceAdd, Nat.reduceLeDiff, Nat.reduceLT, Nat.reduceSub, reduceIte, wds_n, wds_0, wds_1, wds_2, wds_3, or_true, true_or, or_false, false_or, or_self, false_and, and_false, d_pos, d_s1, d_s2, d_s3, d_s4, d_s5, d_s6, d_s7, d_s8, Classical.not_not, z6603_26, z10016_l, z6603_85, z12576_l, z6603_87, z12640_l, z6603_82, z12384_l, eq_true h1, h2, le_T, le_F, lt_T, lt_F, w32_T]
      exact nx
  · simp (implicitDefEqProofs := false) (disch := omega) only [b432_2, b432_7, q432_7, x_aload0, y_call433, x_dup203, x_dup21, x_gc_11475, x_gc_11923, x_gc_11931, x_gc_11947, x_gc_11963, x_gc_12371, x_gf_11339, x_gf_11464, x_goto_2, x_goto_3, x_iadd, x_iaload, x_iastore, x_iconst, x_ifCond_ne_7, x_if_icmp_ge_7, x_if_icmp_ge_8, x_if_icmp_le_7, x_if_icmp_ne_7, x_iinc2, x_iload2, x_iload3, x_imul, x_istore1, x_istore3, x_istore4, x_istore5, klp_0, klp_1, klp_2, klp_3, klp_9, KC_0, KC_1, KC_2, KC_3, KC_4, ne_eq, not_false_eq_true, not_true_eq_false, true_and, and_true, and_self, implies_true, eq_self, true_imp_iff, false_implies, Int.reduceEq, Int.reduceNe, Int.reduceMod, Int.reduceMul, Int.reduceAdd, Int.reduceSub, Int.reduceLT, Int.reduceLE, Nat.reduceAdd, Nat.reduceLeDiff, Nat.reduceLT, Nat.reduceSub, reduceIte, wds_n, wds_0, wds_1, wds_2, wds_3, or_true, true_or, or_false, false_or, or_self, false_and, and_false, d_pos, d_s1, d_s2, d_s3, d_s4, d_s5, d_s6, d_s7, d_s8, Classical.not_not, z6603_26, z10016_l, z6603_85, z12576_l, z6603_87, z12640_l, z6603_82, z12384_l, h1, le_T, le_F, lt_T, lt_F, w32_T]
    exact nx
theorem rd432 {d : Nat} {h K : HV} {Q : Int → HV → Prop} {f p c : Int} {y3 y4 y5 : AV} (hS : TR (h 6603 9)) (hc : 0 ≤ h 6603 25 ∧ h 6603 25 ≤ 24) (hp : 0 ≤ p ∧ p < h 6603 25) (ha : asR h p) (h0 : 0 ≤ h 12640 p ∧ h 12384 p ≤ 8) (hcc : h 12448 (8 * p + h 12640 p) = c) (hc8 : 0 ≤ c ∧ c < 8)
    (hK : K = hset (hset h 12640 p (h 12640 p + 1)) 12576 p c)
    (n1 : sumI (fun x => isE (K 12576 x) c) (h 6603 25).toNat ≤ h (h 6603 9 + 724) c → ∀ z1 z2 z3, G fz1 (d + 1) 432 2 [(3, 6603), (0, 1), (0, p + 1), z1, z2, z3] [] K Q)
    (n2 : ¬ sumI (fun x => isE (K 12576 x) c) (h 6603 25).toNat ≤ h (h 6603 9 + 724) c → ∀ z1 z2 z3, G fz1 (d + 1) 432 2 [(3, 6603), (0, 1), (0, p + 1), z1, z2, z3] [] (hset K 12576 (wsR K c p (h 6603 25).toNat) (-9)) Q) : G fz1 (d + 1) 432 2 [(3, 6603), (0, f), (0, p), y3, y4, y5] [] h Q := by
  obtain ⟨h1, h2, h3⟩ := ha
  have T4 : h 6603 9 + 724 ≠ 12576 ∧ h 6603 9 + 724 ≠ 12640 := by rcases hS with w | w <;> omega
  have k1 : K 6603 = h 6603 := by rw [hK, hs_ne (by decide), hs_ne (by decide)]
  have k2 : K (h 6603 9 + 724) = h (h 6603 9 + 724) := by rw [hK, hs_ne T4.1, hs_ne T4.2]
  have hcK : 0 ≤ K 6603 25 ∧ K 6603 25 ≤ 24 := by rw [k1]; exact hc
  refine G_in ?_
  simp (implicitDefEqProofs := false) (disch := omega) only [b432_2, x_aload0, y_call433, x_dup203, x_dup21, x_gc_11475, x_gc_11923, x_gc_11931, x_gc_11947, x_gc_11963, x_gc_12371, x_gf_11339, x_gf_11464, x_goto_3, x_iadd, x_iaload, x_iastore, x_iconst, x_ifCond_ne_7, x_if_icmp_ge_7, x_if_icmp_ge_8, x_if_icmp_le_7, x_if_icmp_ne_7, x_iload2, x_iload3, x_imul, x_istore1, x_istore3, x_istore4, x_istore5, klp_0, klp_1, klp_2, klp_3, klp_9, KC_0, KC_1, KC_2, KC_3, KC_4, ne_eq, not_false_eq_true, not_true_eq_false, true_and, and_true, and_self, implies_true, eq_self, true_imp_iff, false_implies, Int.reduceEq, Int.reduceNe, Int.reduceMod, Int.reduceMul, Int.reduceAdd, Int.reduceSub, Int.reduceLT, Int.reduceLE, Nat.reduceAdd, Nat.reduceLeDiff, Nat.reduceLT, Nat.reduceSub, reduceIte, wds_n, wds_0, wds_1, wds_2, wds_3, or_true, true_or, or_false, false_or, or_self, false_and, and_false, d_pos, d_s1, d_s2, d_s3, d_s4, d_s5, d_s6, d_s7, d_s8, Classical.not_not, z6603_26, z10016_l, z6603_85, z12576_l, z6603_87, z12640_l, z6603_82, z12384_l, z6603_83, z12448_l, eq_true h1, eq_true h2, hs_ne, hcc, ← hK, s433 hcK, k1, k2, r10 hS, r10l hS, r10k hS, TR_0 hS, TR_k hS, le_T, le_F, lt_T, lt_F, w32_T]
  refine ⟨fun w => ?_, fun w => ?_⟩
  · refine G_in ?_
    simp (implicitDefEqProofs := false) (disch := omega) only [b432_7, q432_7, x_goto_2, x_iinc2, klp_0, klp_1, klp_2, klp_3, klp_9, KC_0, KC_1, KC_2, KC_3, KC_4, ne_eq, not_false_eq_true, not_true_eq_false, true_and, and_true, and_self, implies_true, eq_self, true_imp_iff, false_implies, Int.reduceEq, Int.reduceNe, Int.reduceMod, Int.reduceMul, Int.reduceAdd, Int.reduceSub, Int.reduceLT, Int.reduceLE, Nat.reduceAdd, Nat.reduceLeDiff, Nat.reduceLT, Nat.reduceSub, reduceIte, wds_n, wds_0, wds_1, wds_2, wds_3, or_true, true_or, or_false, false_or, or_self, false_and, and_false, d_pos, d_s1, d_s2, d_s3, d_s4, d_s5, d_s6, d_s7, d_s8, Classical.not_not, w32_T]
    exact n1 (by omega) _ _ _
  · refine lw432 hcK (by omega) hc8 (fun z => ?_)
    rw [k1]
    exact n2 (by omega) _ _ _
