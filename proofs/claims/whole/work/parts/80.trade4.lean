/-! THE PURE SIDE, 61: trades, the reference's rounds: printed by wip/tools/gen80.py -/
/-- what both halves know alike of the choices -/
def BR (h : HV) : Prop := TR (h 6603 9) ∧ h 6603 25 = h 836 4 ∧ h (h 6603 9 + 84) 5 = h (h 64 8 + 598) 5 ∧ (∀ p, 0 ≤ p → p < h 836 4 → h 12384 p = h 3104 p ∧ (∀ k, 0 ≤ k → k < h 3104 p → h 12448 (8 * p + k) = h 3040 (p * 8 + k)) ∧ (∀ c, 0 ≤ c → c < h (h 64 8 + 598) 5 → h 12512 (8 * p + c) = h 3168 (p * 8 + c))) ∧ (∀ c, 0 ≤ c → c < h (h 64 8 + 598) 5 → h (h 6603 9 + 724) c = h (h 64 8 + 1110) c)
/-- the reference's heap in a round of trades -/
def RK (h K : HV) (pl : Int → Int) : Prop := (∀ a, a ≠ 12576 ∧ a ≠ 12640 ∧ a ≠ 12708 ∧ a ≠ 12772 ∧ a ≠ 12832 → K a = h a) ∧ ∀ p, 0 ≤ p → p < h 836 4 → K 12576 p = pl p
theorem rk_f {h K M : HV} {pl : Int → Int} (C : RK h K pl) (e : ∀ a, a ≠ 12640 → a ≠ 12708 → a ≠ 12772 → a ≠ 12832 → M a = K a) : RK h M pl := ⟨fun a q => by rw [e a q.2.1 q.2.2.1 q.2.2.2.1 q.2.2.2.2]; exact C.1 a q, fun p p0 p1 => by rw [e _ (by decide) (by decide) (by decide) (by decide)]; exact C.2 p p0 p1⟩
theorem rk_6 {h K : HV} {pl : Int → Int} (C : RK h K pl) : K 6603 = h 6603 := C.1 _ (by decide)
theorem rk_m {h K : HV} {pl : Int → Int} (R : BR h) (C : RK h K pl) : K (h 6603 9 + 84) = h (h 6603 9 + 84) ∧ K (h 6603 9 + 724) = h (h 6603 9 + 724) := by
  constructor
  · refine C.1 _ ?_
    rcases R.1 with w | w <;> omega
  · refine C.1 _ ?_
    rcases R.1 with w | w <;> omega
theorem hld {h K : HV} {pl : Int → Int} {c : Int} (B : BT h) (R : BR h) (C : RK h K pl) (hc : 0 ≤ c ∧ c < h (h 64 8 + 598) 5) : sumI (fun p => isE (K 12576 p) c) (K 6603 25).toNat = K (K 6603 9 + 724) c - lfT h pl c := by
  have b1 := B.1
  rw [rk_6 C, R.2.1, (rk_m R C).2, R.2.2.2.2 c hc.1 hc.2]
  unfold lfT
  rw [sumI_c (f := fun p => isE (K 12576 p) c) (g := fun p => isE (pl p) c) _ (fun x x0 x1 => by
    show isE (K 12576 x) c = isE (pl x) c
    rw [C.2 x x0 (by omega)])]
  omega
def waR (h : HV) (pl : Int → Int) (p k : Int) : Int := if k < h 3104 p then h 3040 (p * 8 + k) else -9
theorem lp436 {d : Nat} {h K : HV} {pl : Int → Int} {Q : Int → HV → Prop} {p : Int} (B : BT h) (R : BR h) (C : RK h K pl) (hp : 0 ≤ p ∧ p < h 836 4) : ∀ (n : Nat) (i : Int) (z : AV), 0 ≤ i → i + n = 8 → Q (waR h pl p (kT h pl p n i)) K → G fz1 (d + 1) 436 1 [(3, 6603), (0, p), (0, i), z] [] K Q
  | 0, i, z, h0, he, hQ => by
    have rc := B.2.1 p hp.1 hp.2
    have c1 := (R.2.2.2.1 p hp.1 hp.2).1
    have a1 : K 12384 = h 12384 := C.1 _ (by decide)
    have b1 := B.1
    rw [kT] at hQ
    unfold waR at hQ
    rw [if_neg (by omega)] at hQ
    refine G_in ?_
    simp (implicitDefEqProofs := false) (disch := omega) only [b436_1, b436_3, q436_3, x_aload0, y_call433, x_gc_11923, x_gc_11931, x_gc_12371, x_gf_11339, x_iadd, x_iaload, x_iconst, x_if_icmp_ge_2, x_if_icmp_ge_3, x_iload1, x_iload2, x_iload3, x_imul, x_ireturn, x_istore3, klp_0, klp_1, klp_2, klp_3, klp_9, KC_0, KC_1, KC_2, KC_3, KC_4, ne_eq, not_false_eq_true, not_true_eq_false, true_and, and_true, and_self, implies_true, eq_self, true_imp_iff, false_implies, Int.reduceEq, Int.reduceNe, Int.reduceMod, Int.reduceMul, Int.reduceAdd, Int.reduceSub, Int.reduceLT, Int.reduceLE, Nat.reduceAdd, Nat.reduceLeDiff, Nat.reduceLT, Nat.reduceSub, reduceIte, wds_n, wds_0, wds_1, wds_2, wds_3, or_true, true_or, or_false, false_or, or_self, false_and, and_false, d_pos, d_s1, d_s2, d_s3, d_s4, d_s5, d_s6, d_s7, d_s8, Classical.not_not, z6603_82, z12384_l, a1, c1, le_T, le_F, lt_T, lt_F, w32_T]
    exact hQ
  | n + 1, i, z, h0, he, hQ => by
    have rc := B.2.1 p hp.1 hp.2
    obtain ⟨c1, c2, c3⟩ := R.2.2.2.1 p hp.1 hp.2
    have a1 : K 12384 = h 12384 := C.1 _ (by decide)
    have a2 : K 12448 = h 12448 := C.1 _ (by decide)
    have b1 := B.1
    have b4 := B.2.2.2.1
    rw [kT] at hQ
    by_cases q1 : i < h 3104 p
    · have cr := B.2.2.1 p i hp.1 hp.2 h0 q1
      have hK : 0 ≤ K 6603 25 ∧ K 6603 25 ≤ 24 := by rw [rk_6 C, R.2.1]; exact b1
      have hS : TR (K 6603 9) := by rw [rk_6 C]; exact R.1
      have e2 := c2 i h0 q1
      have H := hld B R C cr
      by_cases q2 : 0 < lfT h pl (h 3040 (p * 8 + i))
      · rw [if_neg (fun w => w.2 q2)] at hQ
        unfold waR at hQ
        rw [if_pos q1] at hQ
        refine G_in ?_
        simp (implicitDefEqProofs := false) (disch := omega) only [b436_1, x_aload0, y_call433, x_gc_11923, x_gc_11931, x_gc_12371, x_gf_11339, x_iadd, x_iaload, x_iconst, x_if_icmp_ge_2, x_if_icmp_ge_3, x_iload1, x_iload2, x_iload3, x_imul, x_ireturn, x_istore3, klp_0, klp_1, klp_2, klp_3, klp_9, KC_0, KC_1, KC_2, KC_3, KC_4, ne_eq, not_false_eq_true, not_true_eq_false, true_and, and_true, and_self, implies_true, eq_self, true_imp_iff, false_implies, Int.reduceEq, Int.reduceNe, Int.reduceMod, Int.reduceMul, Int.reduceAdd, Int.reduceSub, Int.reduceLT, Int.reduceLE, Nat.reduceAdd, Nat.reduceLeDiff, Nat.reduceLT, Nat.reduceSub, reduceIte, wds_n, wds_0, wds_1, wds_2, wds_3, or_true, true_or, or_false, false_or, or_self, false_and, and_false, d_pos, d_s1, d_s2, d_s3, d_s4, d_s5, d_s6, d_s7, d_s8, Classical.not_not, z6603_82, z12384_l, z6603_83, z12448_l, r10 hS, r10l hS, r10k hS, TR_0 hS, TR_k hS, a1, a2, c1, e2, s433 hK, H, le_T, le_F, lt_T, lt_F, w32_T]
        exact hQ
      · rw [if_pos ⟨q1, q2⟩] at hQ
        refine G_in ?_
        simp (implicitDefEqProofs := false) (disch := omega) only [b436_1, b436_2, q436_2, x_aload0, y_call433, x_gc_11923, x_gc_11931, x_gc_12371, x_gf_11339, x_goto_1, x_iadd, x_iaload, x_iconst, x_if_icmp_ge_2, x_if_icmp_ge_3, x_iinc2, x_iload1, x_iload2, x_iload3, x_imul, x_ireturn, x_istore3, klp_0, klp_1, klp_2, klp_3, klp_9, KC_0, KC_1, KC_2, KC_3, KC_4, ne_eq, not_false_eq_true, not_true_eq_false, true_and, and_true, and_self, implies_true, eq_self, true_imp_iff, false_implies, Int.reduceEq, Int.reduceNe, Int.reduceMod, Int.reduceMul, Int.reduceAdd, Int.reduceSub, Int.reduceLT, Int.reduceLE, Nat.reduceAdd, Nat.reduceLeDiff, Nat.reduceLT, Nat.reduceSub, reduceIte, wds_n, wds_0, wds_1, wds_2, wds_3, or_true, true_or, or_false, false_or, or_self, false_and, and_false, d_pos, d_s1, d_s2, d_s3, d_s4, d_s5, d_s6, d_s7, d_s8, Classical.not_not, z6603_82, z12384_l, z6603_83, z12448_l, r10 hS, r10l hS, r10k hS, TR_0 hS, TR_k hS, a1, a2, c1, e2, s433 hK, H, le_T, le_F, lt_T, lt_F, w32_T]
        exact lp436 B R C hp n (i + 1) _ (by omega) (by omega) hQ
    · rw [if_neg (fun w => q1 w.1)] at hQ
      unfold waR at hQ
      rw [if_neg q1] at hQ
      refine G_in ?_
      simp (implicitDefEqProofs := false) (disch := omega) only [b436_1, b436_3, q436_3, x_aload0, y_call433, x_gc_11923, x_gc_11931, x_gc_12371, x_gf_11339, x_iadd, x_iaload, x_iconst, x_if_icmp_ge_2, x_if_icmp_ge_3, x_iload1, x_iload2, x_iload3, x_imul, x_ireturn, x_istore3, klp_0, klp_1, klp_2, klp_3, klp_9, KC_0, KC_1, KC_2, KC_3, KC_4, ne_eq, not_false_eq_true, not_true_eq_false, true_and, and_true, and_self, implies_true, eq_self, true_imp_iff, false_implies, Int.reduceEq, Int.reduceNe, Int.reduceMod, Int.reduceMul, Int.reduceAdd, Int.reduceSub, Int.reduceLT, Int.reduceLE, Nat.reduceAdd, Nat.reduceLeDiff, Nat.reduceLT, Nat.reduceSub, reduceIte, wds_n, wds_0, wds_1, wds_2, wds_3, or_true, true_or, or_false, false_or, or_self, false_and, and_false, d_pos, d_s1, d_s2, d_s3, d_s4, d_s5, d_s6, d_s7, d_s8, Classical.not_not, z6603_82, z12384_l, a1, c1, le_T, le_F, lt_T, lt_F, w32_T]
      exact hQ
/-- what a pupil asks for -/
def akT (h : HV) (pl : Int → Int) (p : Int) : Int := if wT h pl p = 1 then cwT h pl p else -9
theorem s436 {d : Nat} {h K : HV} {pl : Int → Int} {Q : Int → HV → Prop} {p : Int} (B : BT h) (R : BR h) (C : RK h K pl) (hp : 0 ≤ p ∧ p < h 836 4) (h9 : pl p = -9) : Sp fz1 (d + 1) 436 [(3, 6603), (0, p)] K Q = Q (akT h pl p) K := by
  have e : waR h pl p (kT h pl p 8 0) = akT h pl p := by
    unfold waR akT wT
    by_cases q : kT h pl p 8 0 < h 3104 p
    · rw [if_pos q, if_pos (show pl p = -9 ∧ kT h pl p 8 0 < h 3104 p from ⟨h9, q⟩), if_pos rfl]
      rfl
    · rw [if_neg q, if_neg (fun w : pl p = -9 ∧ kT h pl p 8 0 < h 3104 p => q w.2), if_neg (by decide)]
  refine Sp_is ?_ Q
  simp (implicitDefEqProofs := false) (disch := omega) only [sp436, b436_0, x_goto_1, x_iconst, x_istore2, klp_0, klp_1, klp_2, klp_3, klp_9, KC_0, KC_1, KC_2, KC_3, KC_4, ne_eq, not_false_eq_true, not_true_eq_false, true_and, and_true, and_self, implies_true, eq_self, true_imp_iff, false_implies, Int.reduceEq, Int.reduceNe, Int.reduceMod, Int.reduceMul, Int.reduceAdd, Int.reduceSub, Int.reduceLT, Int.reduceLE, Nat.reduceAdd, Nat.reduceLeDiff, Nat.reduceLT, Nat.reduceSub, reduceIte, wds_n, wds_0, wds_1, wds_2, wds_3, or_true, true_or, or_false, false_or, or_self, false_and, and_false, d_pos, d_s1, d_s2, d_s3, d_s4, d_s5, d_s6, d_s7, d_s8, Classical.not_not]
  exact lp436 B R C hp 8 0 _ (by decide) (by decide) ⟨e, rfl⟩
/-- who is away, is not waiting -/
def AW (h K : HV) (pl : Int → Int) : Prop := ∀ p, 0 ≤ p → p < h 836 4 → K 12708 p ≠ 0 → pl p = -9 ∧ wT h pl p = 0
theorem l435a {d : Nat} {h K : HV} {pl : Int → Int} {Q : Int → HV → Prop} {y3 y4 : AV} (B : BT h) (R : BR h) (C : RK h K pl) (W : AW h K pl)
    (nx : ∀ K2 : HV, (∀ a, a ≠ 12640 → K2 a = K a) → (∀ p, 0 ≤ p → p < h 836 4 → K2 12640 p = akT h pl p) → G fz1 (d + 2) 435 9 [(3, 6603), (0, 0), (0, h 836 4), y3, y4] [] K2 Q) : G fz1 (d + 2) 435 6 [(3, 6603), (0, 0), (0, 0), y3, y4] [] K Q := by
  have h24 := B.1
  have r25 := R.2.1
  refine forG (N := (h 836 4).toNat) (I := fun j ls h' => ls = [(3, 6603), (0, 0), (0, (j : Int)), y3, y4] ∧ (∀ a, a ≠ 12640 → h' a = K a) ∧ (∀ p, 0 ≤ p → p < (j : Int) → h' 12640 p = akT h pl p)) ?_ ?_ (j := 0) (Nat.zero_le _) ⟨rfl, fun _ _ => rfl, fun p a b => by omega⟩
  · rintro j ls h' hj ⟨rfl, fr, vl⟩ n2
    have hjn : 0 ≤ (j : Int) ∧ (j : Int) < h 836 4 := by omega
    have C' := rk_f C (fun a q _ _ _ => fr a q)
    have k6 := rk_6 C'
    have pj := C'.2 j hjn.1 hjn.2
    have fin : ∀ v : Int, v = akT h pl j → (∀ a, a ≠ 12640 → hset h' 12640 j v a = K a) ∧ (∀ p, 0 ≤ p → p < ((j + 1 : Nat) : Int) → hset h' 12640 j v 12640 p = akT h pl p) := fun v hv => ⟨fun a ha => by rw [hs_ne ha, fr a ha], fun p p0 p1 => by
      rw [hset_v]
      by_cases q : p = j
      · rw [if_pos ⟨rfl, q⟩, q, hv]
      · rw [if_neg (fun w => q w.2)]
        exact vl p p0 (by omega)⟩
    have f8 : fr = fr := rfl
    have wj := W j hjn.1 hjn.2
    rw [← fr 12708 (by decide)] at wj
    refine G_in ?_
    by_cases q1 : pl j = -9
    · by_cases q2 : h' 12708 j = 0
      · simp (implicitDefEqProofs := false) (disch := omega) only [b435_6, b435_7, b435_8, q435_7, q435_8, x_aload0, x_baload, y_call436, x_gc_11947, x_gc_11963, x_gc_11971, x_gf_11464, x_goto_6, x_goto_8, x_iaload, x_iastore, x_iconst, x_ifCond_ne_7, x_if_icmp_ge_9, x_if_icmp_ne_7, x_iinc2, x_iload2, klp_0, klp_1, klp_2, klp_3, klp_9, KC_0, KC_1, KC_2, KC_3, KC_4, ne_eq, not_false_eq_true, not_true_eq_false, true_and, and_true, and_self, implies_true, eq_self, true_imp_iff, false_implies, Int.reduceEq, Int.reduceNe, Int.reduceMod, Int.reduceMul, Int.reduceAdd, Int.reduceSub, Int.reduceLT, Int.reduceLE, Nat.reduceAdd, Nat.reduceLeDiff, Nat.reduceLT, Nat.reduceSub, reduceIte, wds_n, wds_0, wds_1, wds_2, wds_3, or_true, true_or, or_false, false_or, or_self, false_and, and_false, d_pos, d_s1, d_s2, d_s3, d_s4, d_s5, d_s6, d_s7, d_s8, Classical.not_not, k6, r25, z6603_87, z12640_l, z6603_85, z12576_l, z6603_88, z12708_l, pj, eq_true q1, eq_true q2, s436 B R C' hjn q1, le_T, le_F, lt_T, lt_F, w32_T]
        exact n2 _ _ ⟨rfl, fin _ rfl⟩
      · have w := wj q2
        simp (implicitDefEqProofs := false) (disch := omega) only [b435_6, b435_7, b435_8, q435_7, q435_8, x_aload0, x_baload, y_call436, x_gc_11947, x_gc_11963, x_gc_11971, x_gf_11464, x_goto_6, x_goto_8, x_iaload, x_iastore, x_iconst, x_ifCond_ne_7, x_if_icmp_ge_9, x_if_icmp_ne_7, x_iinc2, x_iload2, klp_0, klp_1, klp_2, klp_3, klp_9, KC_0, KC_1, KC_2, KC_3, KC_4, ne_eq, not_false_eq_true, not_true_eq_false, true_and, and_true, and_self, implies_true, eq_self, true_imp_iff, false_implies, Int.reduceEq, Int.reduceNe, Int.reduceMod, Int.reduceMul, Int.reduceAdd, Int.reduceSub, Int.reduceLT, Int.reduceLE, Nat.reduceAdd, Nat.reduceLeDiff, Nat.reduceLT, Nat.reduceSub, reduceIte, wds_n, wds_0, wds_1, wds_2, wds_3, or_true, true_or, or_false, false_or, or_self, false_and, and_false, d_pos, d_s1, d_s2, d_s3, d_s4, d_s5, d_s6, d_s7, d_s8, Classical.not_not, k6, r25, z6603_87, z12640_l, z6603_85, z12576_l, z6603_88, z12708_l, pj, eq_true q1, q2, le_T, le_F, lt_T, lt_F, w32_T]
        exact n2 _ _ ⟨rfl, fin _ (by unfold akT; rw [if_neg (by omega)])⟩
    · have w : wT h pl j ≠ 1 := fun z => q1 (wT_c z).1
      simp (implicitDefEqProofs := false) (disch := omega) only [b435_6, b435_7, b435_8, q435_7, q435_8, x_aload0, x_baload, y_call436, x_gc_11947, x_gc_11963, x_gc_11971, x_gf_11464, x_goto_6, x_goto_8, x_iaload, x_iastore, x_iconst, x_ifCond_ne_7, x_if_icmp_ge_9, x_if_icmp_ne_7, x_iinc2, x_iload2, klp_0, klp_1, klp_2, klp_3, klp_9, KC_0, KC_1, KC_2, KC_3, KC_4, ne_eq, not_false_eq_true, not_true_eq_false, true_and, and_true, and_self, implies_true, eq_self, true_imp_iff, false_implies, Int.reduceEq, Int.reduceNe, Int.reduceMod, Int.reduceMul, Int.reduceAdd, Int.reduceSub, Int.reduceLT, Int.reduceLE, Nat.reduceAdd, Nat.reduceLeDiff, Nat.reduceLT, Nat.reduceSub, reduceIte, wds_n, wds_0, wds_1, wds_2, wds_3, or_true, true_or, or_false, false_or, or_self, false_and, and_false, d_pos, d_s1, d_s2, d_s3, d_s4, d_s5, d_s6, d_s7, d_s8, Classical.not_not, k6, r25, z6603_87, z12640_l, z6603_85, z12576_l, z6603_88, z12708_l, pj, q1, le_T, le_F, lt_T, lt_F, w32_T]
      exact n2 _ _ ⟨rfl, fin _ (by unfold akT; rw [if_neg w])⟩
  · rintro ls h' ⟨rfl, fr, vl⟩
    have k6 : h' 6603 = h 6603 := by rw [fr _ (by decide)]; exact rk_6 C
    rw [show (((h 836 4).toNat : Nat) : Int) = h 836 4 by omega] at vl ⊢
    refine G_in ?_
    simp (implicitDefEqProofs := false) (disch := omega) only [b435_6, x_aload0, x_baload, y_call436, x_gc_11947, x_gc_11963, x_gc_11971, x_gf_11464, x_goto_8, x_iaload, x_iconst, x_ifCond_ne_7, x_if_icmp_ge_9, x_if_icmp_ne_7, x_iload2, klp_0, klp_1, klp_2, klp_3, klp_9, KC_0, KC_1, KC_2, KC_3, KC_4, ne_eq, not_false_eq_true, not_true_eq_false, true_and, and_true, and_self, implies_true, eq_self, true_imp_iff, false_implies, Int.reduceEq, Int.reduceNe, Int.reduceMod, Int.reduceMul, Int.reduceAdd, Int.reduceSub, Int.reduceLT, Int.reduceLE, Nat.reduceAdd, Nat.reduceLeDiff, Nat.reduceLT, Nat.reduceSub, reduceIte, wds_n, wds_0, wds_1, wds_2, wds_3, or_true, true_or, or_false, false_or, or_self, false_and, and_false, d_pos, d_s1, d_s2, d_s3, d_s4, d_s5, d_s6, d_s7, d_s8, Classical.not_not, k6, r25, le_T, le_F, lt_T, lt_F, w32_T]
    exact nx h' fr vl
def awT (h : HV) (pl : Int → Int) (p : Int) : Int := if pl p = -9 ∧ wT h pl p = 0 then 1 else 0
theorem akT_9 {h : HV} {pl : Int → Int} {p : Int} (B : BT h) (hp : 0 ≤ p ∧ p < h 836 4) : (akT h pl p = -9 ↔ wT h pl p = 0) ∧ (wT h pl p = 1 → 0 ≤ akT h pl p ∧ akT h pl p < h (h 64 8 + 598) 5 ∧ akT h pl p = cwT h pl p) := by
  unfold akT
  rcases wT_b h pl p with w | w
  · rw [w, if_neg (by decide)]
    exact ⟨⟨fun _ => rfl, fun _ => rfl⟩, fun x => by omega⟩
  · have := cwT_b B hp w
    rw [w, if_pos rfl]
    exact ⟨⟨fun x => by omega, fun x => by omega⟩, fun _ => ⟨this.1, this.2, rfl⟩⟩
theorem l435b {d : Nat} {h K : HV} {pl : Int → Int} {Q : Int → HV → Prop} {y2 y3 y4 : AV} (B : BT h) (R : BR h) (C : RK h K pl) (W : AW h K pl) (V : ∀ p, 0 ≤ p → p < h 836 4 → K 12640 p = akT h pl p)
    (nx : ∀ K2 : HV, (∀ a, a ≠ 12708 → a ≠ 12772 → K2 a = K a) → (∀ p, 0 ≤ p → p < h 836 4 → K2 12708 p = awT h pl p) → ∀ y, G fz1 (d + 2) 435 14 [(3, 6603), (0, 0), y, y3, y4] [] K2 Q) : G fz1 (d + 2) 435 9 [(3, 6603), (0, 0), y2, y3, y4] [] K Q := by
  have h24 := B.1
  have r25 := R.2.1
  have b0 : bst 12708 0 = 0 := by decide
  have b1 : bst 12708 1 = 1 := by decide
  have b2 : bst 12772 0 = 0 := by decide
  refine G_in ?_
  simp (implicitDefEqProofs := false) (disch := omega) only [b435_9, q435_9, x_goto_10, x_iconst, x_istore2, klp_0, klp_1, klp_2, klp_3, klp_9, KC_0, KC_1, KC_2, KC_3, KC_4, ne_eq, not_false_eq_true, not_true_eq_false, true_and, and_true, and_self, implies_true, eq_self, true_imp_iff, false_implies, Int.reduceEq, Int.reduceNe, Int.reduceMod, Int.reduceMul, Int.reduceAdd, Int.reduceSub, Int.reduceLT, Int.reduceLE, Nat.reduceAdd, Nat.reduceLeDiff, Nat.reduceLT, Nat.reduceSub, reduceIte, wds_n, wds_0, wds_1, wds_2, wds_3, or_true, true_or, or_false, false_or, or_self, false_and, and_false, d_pos, d_s1, d_s2, d_s3, d_s4, d_s5, d_s6, d_s7, d_s8, Classical.not_not]
  refine forG (N := (h 836 4).toNat) (I := fun j ls h' => ls = [(3, 6603), (0, 0), (0, (j : Int)), y3, y4] ∧ (∀ a, a ≠ 12708 → a ≠ 12772 → h' a = K a) ∧ (∀ p, 0 ≤ p → p < (j : Int) → h' 12708 p = awT h pl p) ∧ (∀ p, (j : Int) ≤ p → h' 12708 p = K 12708 p)) ?_ ?_ (j := 0) (Nat.zero_le _) ⟨rfl, fun _ _ _ => rfl, fun p a b => by omega, fun _ _ => rfl⟩
  · rintro j ls h' hj ⟨rfl, fr, vl, ol⟩ n2
    have hjn : 0 ≤ (j : Int) ∧ (j : Int) < h 836 4 := by omega
    have C' := rk_f C (fun a _ q r _ => fr a q r)
    have k6 := rk_6 C'
    have pj := C'.2 j hjn.1 hjn.2
    have vj : h' 12640 j = akT h pl j := by rw [fr _ (by decide) (by decide)]; exact V j hjn.1 hjn.2
    have a9 := (akT_9 (pl := pl) B hjn).1
    have fin : ∀ v : Int, v = awT h pl j → (∀ a, a ≠ 12708 → a ≠ 12772 → hset (hset h' 12708 j v) 12772 j 0 a = K a) ∧ (∀ p, 0 ≤ p → p < ((j + 1 : Nat) : Int) → hset (hset h' 12708 j v) 12772 j 0 12708 p = awT h pl p) ∧ (∀ p, ((j + 1 : Nat) : Int) ≤ p → hset (hset h' 12708 j v) 12772 j 0 12708 p = K 12708 p) := fun v hv => ⟨fun a ha hb => by rw [hs_ne hb, hs_ne ha, fr a ha hb], fun p p0 p1 => by
      rw [hs_ne (by decide), hset_v]
      by_cases q : p = j
      · rw [if_pos ⟨rfl, q⟩, q, hv]
      · rw [if_neg (fun w => q w.2)]
        exact vl p p0 (by omega), fun p p1 => by
      rw [hs_ne (by decide), hset_v, if_neg (fun w => by omega)]
      exact ol p (by omega)⟩
    have wj := W j hjn.1 hjn.2
    rw [← ol j (Int.le_refl _)] at wj
    refine G_in ?_
    by_cases q2 : h' 12708 j = 0
    · by_cases q1 : pl j = -9
      · by_cases q3 : akT h pl j = -9
        · simp (implicitDefEqProofs := false) (disch := omega) only [b435_10, b435_11, b435_12, b435_13, q435_11, q435_12, q435_13, x_aload0, x_baload, x_bastore, x_gc_11947, x_gc_11963, x_gc_11971, x_gc_11979, x_gf_11464, x_goto_10, x_goto_11, x_goto_13, x_iaload, x_iconst, x_ifCond_ne_11, x_if_icmp_ge_14, x_if_icmp_ne_12, x_iinc2, x_iload2, klp_0, klp_1, klp_2, klp_3, klp_9, KC_0, KC_1, KC_2, KC_3, KC_4, ne_eq, not_false_eq_true, not_true_eq_false, true_and, and_true, and_self, implies_true, eq_self, true_imp_iff, false_implies, Int.reduceEq, Int.reduceNe, Int.reduceMod, Int.reduceMul, Int.reduceAdd, Int.reduceSub, Int.reduceLT, Int.reduceLE, Nat.reduceAdd, Nat.reduceLeDiff, Nat.reduceLT, Nat.reduceSub, reduceIte, wds_n, wds_0, wds_1, wds_2, wds_3, or_true, true_or, or_false, false_or, or_self, false_and, and_false, d_pos, d_s1, d_s2, d_s3, d_s4, d_s5, d_s6, d_s7, d_s8, Classical.not_not, k6, r25, z6603_87, z12640_l, z6603_85, z12576_l, z6603_88, z12708_l, z6603_89, z12772_l, b0, b1, b2, pj, vj, eq_true q1, eq_true q2, eq_true q3, le_T, le_F, lt_T, lt_F, w32_T]
          exact n2 _ _ ⟨rfl, fin _ (by unfold awT; rw [if_pos ⟨q1, a9.1 q3⟩])⟩
        · simp (implicitDefEqProofs := false) (disch := omega) only [b435_10, b435_11, b435_12, b435_13, q435_11, q435_12, q435_13, x_aload0, x_baload, x_bastore, x_gc_11947, x_gc_11963, x_gc_11971, x_gc_11979, x_gf_11464, x_goto_10, x_goto_11, x_goto_13, x_iaload, x_iconst, x_ifCond_ne_11, x_if_icmp_ge_14, x_if_icmp_ne_12, x_iinc2, x_iload2, klp_0, klp_1, klp_2, klp_3, klp_9, KC_0, KC_1, KC_2, KC_3, KC_4, ne_eq, not_false_eq_true, not_true_eq_false, true_and, and_true, and_self, implies_true, eq_self, true_imp_iff, false_implies, Int.reduceEq, Int.reduceNe, Int.reduceMod, Int.reduceMul, Int.reduceAdd, Int.reduceSub, Int.reduceLT, Int.reduceLE, Nat.reduceAdd, Nat.reduceLeDiff, Nat.reduceLT, Nat.reduceSub, reduceIte, wds_n, wds_0, wds_1, wds_2, wds_3, or_true, true_or, or_false, false_or, or_self, false_and, and_false, d_pos, d_s1, d_s2, d_s3, d_s4, d_s5, d_s6, d_s7, d_s8, Classical.not_not, k6, r25, z6603_87, z12640_l, z6603_85, z12576_l, z6603_88, z12708_l, z6603_89, z12772_l, b0, b1, b2, pj, vj, eq_true q1, eq_true q2, q3, le_T, le_F, lt_T, lt_F, w32_T]
          exact n2 _ _ ⟨rfl, fin _ (by unfold awT; rw [if_neg (fun w => q3 (a9.2 w.2))])⟩
      · simp (implicitDefEqProofs := false) (disch := omega) only [b435_10, b435_11, b435_12, b435_13, q435_11, q435_12, q435_13, x_aload0, x_baload, x_bastore, x_gc_11947, x_gc_11963, x_gc_11971, x_gc_11979, x_gf_11464, x_goto_10, x_goto_11, x_goto_13, x_iaload, x_iconst, x_ifCond_ne_11, x_if_icmp_ge_14, x_if_icmp_ne_12, x_iinc2, x_iload2, klp_0, klp_1, klp_2, klp_3, klp_9, KC_0, KC_1, KC_2, KC_3, KC_4, ne_eq, not_false_eq_true, not_true_eq_false, true_and, and_true, and_self, implies_true, eq_self, true_imp_iff, false_implies, Int.reduceEq, Int.reduceNe, Int.reduceMod, Int.reduceMul, Int.reduceAdd, Int.reduceSub, Int.reduceLT, Int.reduceLE, Nat.reduceAdd, Nat.reduceLeDiff, Nat.reduceLT, Nat.reduceSub, reduceIte, wds_n, wds_0, wds_1, wds_2, wds_3, or_true, true_or, or_false, false_or, or_self, false_and, and_false, d_pos, d_s1, d_s2, d_s3, d_s4, d_s5, d_s6, d_s7, d_s8, Classical.not_not, k6, r25, z6603_87, z12640_l, z6603_85, z12576_l, z6603_88, z12708_l, z6603_89, z12772_l, b0, b1, b2, pj, vj, q1, eq_true q2, le_T, le_F, lt_T, lt_F, w32_T]
        exact n2 _ _ ⟨rfl, fin _ (by unfold awT; rw [if_neg (fun w => q1 w.1)])⟩
    · simp (implicitDefEqProofs := false) (disch := omega) only [b435_10, b435_11, b435_12, b435_13, q435_11, q435_12, q435_13, x_aload0, x_baload, x_bastore, x_gc_11947, x_gc_11963, x_gc_11971, x_gc_11979, x_gf_11464, x_goto_10, x_goto_11, x_goto_13, x_iaload, x_iconst, x_ifCond_ne_11, x_if_icmp_ge_14, x_if_icmp_ne_12, x_iinc2, x_iload2, klp_0, klp_1, klp_2, klp_3, klp_9, KC_0, KC_1, KC_2, KC_3, KC_4, ne_eq, not_false_eq_true, not_true_eq_false, true_and, and_true, and_self, implies_true, eq_self, true_imp_iff, false_implies, Int.reduceEq, Int.reduceNe, Int.reduceMod, Int.reduceMul, Int.reduceAdd, Int.reduceSub, Int.reduceLT, Int.reduceLE, Nat.reduceAdd, Nat.reduceLeDiff, Nat.reduceLT, Nat.reduceSub, reduceIte, wds_n, wds_0, wds_1, wds_2, wds_3, or_true, true_or, or_false, false_or, or_self, false_and, and_false, d_pos, d_s1, d_s2, d_s3, d_s4, d_s5, d_s6, d_s7, d_s8, Classical.not_not, k6, r25, z6603_87, z12640_l, z6603_85, z12576_l, z6603_88, z12708_l, z6603_89, z12772_l, b0, b1, b2, pj, vj, q2, le_T, le_F, lt_T, lt_F, w32_T]
      exact n2 _ _ ⟨rfl, fin _ (by unfold awT; rw [if_pos (wj q2)])⟩
  · rintro ls h' ⟨rfl, fr, vl, ol⟩
    have k6 : h' 6603 = h 6603 := by rw [fr _ (by decide) (by decide)]; exact rk_6 C
    refine G_in ?_
    simp (implicitDefEqProofs := false) (disch := omega) only [b435_10, x_aload0, x_baload, x_gc_11947, x_gc_11963, x_gc_11971, x_gf_11464, x_goto_11, x_iaload, x_iconst, x_ifCond_ne_11, x_if_icmp_ge_14, x_if_icmp_ne_12, x_iload2, klp_0, klp_1, klp_2, klp_3, klp_9, KC_0, KC_1, KC_2, KC_3, KC_4, ne_eq, not_false_eq_true, not_true_eq_false, true_and, and_true, and_self, implies_true, eq_self, true_imp_iff, false_implies, Int.reduceEq, Int.reduceNe, Int.reduceMod, Int.reduceMul, Int.reduceAdd, Int.reduceSub, Int.reduceLT, Int.reduceLE, Nat.reduceAdd, Nat.reduceLeDiff, Nat.reduceLT, Nat.reduceSub, reduceIte, wds_n, wds_0, wds_1, wds_2, wds_3, or_true, true_or, or_false, false_or, or_self, false_and, and_false, d_pos, d_s1, d_s2, d_s3, d_s4, d_s5, d_s6, d_s7, d_s8, Classical.not_not, k6, r25, le_T, le_F, lt_T, lt_F, w32_T]
    exact nx h' fr (fun p p0 p1 => vl p p0 (by omega)) _
def n9 (x : Int) : Int := if x < 0 then -9 else x
theorem l435c1 {d : Nat} {h K : HV} {pl : Int → Int} {Q : Int → HV → Prop} {c : Int} {y4 : AV} (B : BT h) (R : BR h) (C : RK h K pl) (V : ∀ p, 0 ≤ p → p < h 836 4 → K 12708 p = awT h pl p) (hc : 0 ≤ c ∧ c < h (h 64 8 + 598) 5)
    (nx : ∀ K2 : HV, (∀ a, a ≠ 12832 → K2 a = K a) → (∀ i, K2 12832 i = if i = c then n9 (fsT h pl c (h 836 4).toNat) else K 12832 i) → ∀ y3 y4, G fz1 (d + 2) 435 22 [(3, 6603), (0, 0), (0, c), y3, y4] [] K2 Q) : G fz1 (d + 2) 435 16 [(3, 6603), (0, 0), (0, c), (0, 0), y4] [] (hset K 12832 c (-9)) Q := by
  have h24 := B.1
  have r25 := R.2.1
  have m8 := B.2.2.2.1
  have c8 : 0 ≤ c ∧ c < 8 := by omega
  refine forG (N := (h 836 4).toNat) (I := fun j ls h' => (∃ z, ls = [(3, 6603), (0, 0), (0, c), (0, (j : Int)), z]) ∧ (∀ a, a ≠ 12832 → h' a = K a) ∧ (∀ i, h' 12832 i = if i = c then n9 (fsT h pl c j) else K 12832 i)) ?_ ?_ (j := 0) (Nat.zero_le _) ⟨⟨_, rfl⟩, fun a ha => hs_ne ha, fun i => by
    rw [hset_v]
    by_cases q : i = c
    · rw [if_pos ⟨rfl, q⟩, if_pos q]; rfl
    · rw [if_neg (fun w => q w.2), if_neg q]⟩
  · rintro j ls h' hj ⟨⟨z, rfl⟩, fr, vl⟩ n2
    have hjn : 0 ≤ (j : Int) ∧ (j : Int) < h 836 4 := by omega
    have j24 : 0 ≤ (j : Int) ∧ (j : Int) < 24 := by omega
    have C' := rk_f C (fun a _ _ _ q => fr a q)
    have k6 := rk_6 C'
    have pj := C'.2 j hjn.1 hjn.2
    have vj : h' 12708 j = awT h pl j := by rw [fr _ (by decide)]; exact V j hjn.1 hjn.2
    have e : fsT h pl c (j + 1) = if wT h pl j = 1 ∧ (fsT h pl c j < 0 ∨ bfF (fun x => h 3168 (x * 8 + c)) j (fsT h pl c j) ≠ 0) then (j : Int) else fsT h pl c j := rfl
    have lb := fsT_b (h := h) (pl := pl) (c := c) j
    have fc := vl c
    rw [if_pos rfl] at fc
    rw [e] at n2
    generalize fsT h pl c j = l at *
    have fin : ∀ v l2 : Int, v = n9 l2 → (∀ a, a ≠ 12832 → hset h' 12832 c v a = K a) ∧ (∀ i, hset h' 12832 c v 12832 i = if i = c then n9 l2 else K 12832 i) := fun v l2 hv => ⟨fun a ha => by rw [hs_ne ha, fr a ha], fun i => by
      rw [hset_v]
      by_cases q : i = c
      · rw [if_pos ⟨rfl, q⟩, if_pos q, hv]
      · rw [if_neg (fun w => q w.2), if_neg q, vl, if_neg q]⟩
    refine G_in ?_
    by_cases q1 : pl j = -9
    · rcases wT_b h pl j with w0 | w1
      · have av : awT h pl j = 1 := by unfold awT; rw [if_pos ⟨q1, w0⟩]
        rw [if_neg (fun w => by omega)] at n2
        simp (implicitDefEqProofs := false) (disch := omega) only [b435_16, b435_17, b435_18, b435_19, b435_20, b435_21, q435_17, q435_18, q435_19, q435_20, q435_21, x_aload0, x_baload, y_call434, x_gc_11947, x_gc_11971, x_gc_11987, x_gf_11464, x_goto_16, x_goto_18, x_goto_19, x_goto_21, x_iaload, x_iastore, x_iconst, x_ifCond_eq_20, x_ifCond_ne_17, x_if_icmp_eq_19, x_if_icmp_ge_22, x_if_icmp_ne_17, x_iinc3, x_iload2, x_iload3, x_iload4, x_istore4, klp_0, klp_1, klp_2, klp_3, klp_9, KC_0, KC_1, KC_2, KC_3, KC_4, ne_eq, not_false_eq_true, not_true_eq_false, true_and, and_true, and_self, implies_true, eq_self, true_imp_iff, false_implies, Int.reduceEq, Int.reduceNe, Int.reduceMod, Int.reduceMul, Int.reduceAdd, Int.reduceSub, Int.reduceLT, Int.reduceLE, Nat.reduceAdd, Nat.reduceLeDiff, Nat.reduceLT, Nat.reduceSub, reduceIte, wds_n, wds_0, wds_1, wds_2, wds_3, or_true, true_or, or_false, false_or, or_self, false_and, and_false, d_pos, d_s1, d_s2, d_s3, d_s4, d_s5, d_s6, d_s7, d_s8, Classical.not_not, k6, r25, z6603_85, z12576_l, z6603_88, z12708_l, z6603_90, z12832_l, pj, vj, eq_true q1, av, le_T, le_F, lt_T, lt_F, w32_T]
        exact n2 _ _ ⟨⟨_, rfl⟩, fin _ _ fc⟩
      · have av : awT h pl j = 0 := by unfold awT; rw [if_neg (fun w => by omega)]
        by_cases hl : l < 0
        · have nl : n9 l = -9 := by unfold n9; rw [if_pos hl]
          rw [if_pos ⟨w1, .inl hl⟩] at n2
          simp (implicitDefEqProofs := false) (disch := omega) only [b435_16, b435_17, b435_18, b435_19, b435_20, b435_21, q435_17, q435_18, q435_19, q435_20, q435_21, x_aload0, x_baload, y_call434, x_gc_11947, x_gc_11971, x_gc_11987, x_gf_11464, x_goto_16, x_goto_18, x_goto_19, x_goto_21, x_iaload, x_iastore, x_iconst, x_ifCond_eq_20, x_ifCond_ne_17, x_if_icmp_eq_19, x_if_icmp_ge_22, x_if_icmp_ne_17, x_iinc3, x_iload2, x_iload3, x_iload4, x_istore4, klp_0, klp_1, klp_2, klp_3, klp_9, KC_0, KC_1, KC_2, KC_3, KC_4, ne_eq, not_false_eq_true, not_true_eq_false, true_and, and_true, and_self, implies_true, eq_self, true_imp_iff, false_implies, Int.reduceEq, Int.reduceNe, Int.reduceMod, Int.reduceMul, Int.reduceAdd, Int.reduceSub, Int.reduceLT, Int.reduceLE, Nat.reduceAdd, Nat.reduceLeDiff, Nat.reduceLT, Nat.reduceSub, reduceIte, wds_n, wds_0, wds_1, wds_2, wds_3, or_true, true_or, or_false, false_or, or_self, false_and, and_false, d_pos, d_s1, d_s2, d_s3, d_s4, d_s5, d_s6, d_s7, d_s8, Classical.not_not, k6, r25, z6603_85, z12576_l, z6603_88, z12708_l, z6603_90, z12832_l, pj, vj, eq_true q1, av, fc, nl, le_T, le_F, lt_T, lt_F, w32_T]
          exact n2 _ _ ⟨⟨_, rfl⟩, fin _ _ (by unfold n9; rw [if_neg (by omega)])⟩
        · have nl : n9 l = l := by unfold n9; rw [if_neg hl]
          have l24 : 0 ≤ l ∧ l < 24 := by omega
          have ln : ¬ l = -9 := by omega
          have bc : bfF (fun x => h' 12512 (8 * x + c)) j l = bfF (fun x => h 3168 (x * 8 + c)) j l := by
            rw [C'.1 12512 (by decide)]
            exact bf_c (t := fun x => h 12512 (8 * x + c)) (s := fun x => h 3168 (x * 8 + c)) ((R.2.2.2.1 j hjn.1 hjn.2).2.2 c hc.1 hc.2) ((R.2.2.2.1 l l24.1 (by omega)).2.2 c hc.1 hc.2)
          by_cases hb : bfF (fun x => h 3168 (x * 8 + c)) j l = 0
          · rw [if_neg (fun w => w.2.elim hl (fun x => x hb))] at n2
            rw [hb] at bc
            simp (implicitDefEqProofs := false) (disch := omega) only [b435_16, b435_17, b435_18, b435_19, b435_20, b435_21, q435_17, q435_18, q435_19, q435_20, q435_21, x_aload0, x_baload, y_call434, x_gc_11947, x_gc_11971, x_gc_11987, x_gf_11464, x_goto_16, x_goto_18, x_goto_19, x_goto_21, x_iaload, x_iastore, x_iconst, x_ifCond_eq_20, x_ifCond_ne_17, x_if_icmp_eq_19, x_if_icmp_ge_22, x_if_icmp_ne_17, x_iinc3, x_iload2, x_iload3, x_iload4, x_istore4, klp_0, klp_1, klp_2, klp_3, klp_9, KC_0, KC_1, KC_2, KC_3, KC_4, ne_eq, not_false_eq_true, not_true_eq_false, true_and, and_true, and_self, implies_true, eq_self, true_imp_iff, false_implies, Int.reduceEq, Int.reduceNe, Int.reduceMod, Int.reduceMul, Int.reduceAdd, Int.reduceSub, Int.reduceLT, Int.reduceLE, Nat.reduceAdd, Nat.reduceLeDiff, Nat.reduceLT, Nat.reduceSub, reduceIte, wds_n, wds_0, wds_1, wds_2, wds_3, or_true, true_or, or_false, false_or, or_self, false_and, and_false, d_pos, d_s1, d_s2, d_s3, d_s4, d_s5, d_s6, d_s7, d_s8, Classical.not_not, k6, r25, z6603_85, z12576_l, z6603_88, z12708_l, z6603_90, z12832_l, pj, vj, eq_true q1, av, fc, nl, ln, s434b j24 l24 c8, bc, le_T, le_F, lt_T, lt_F, w32_T]
            exact n2 _ _ ⟨⟨_, rfl⟩, fin _ _ nl.symm⟩
          · rw [if_pos ⟨w1, .inr hb⟩] at n2
            simp (implicitDefEqProofs := false) (disch := omega) only [b435_16, b435_17, b435_18, b435_19, b435_20, b435_21, q435_17, q435_18, q435_19, q435_20, q435_21, x_aload0, x_baload, y_call434, x_gc_11947, x_gc_11971, x_gc_11987, x_gf_11464, x_goto_16, x_goto_18, x_goto_19, x_goto_21, x_iaload, x_iastore, x_iconst, x_ifCond_eq_20, x_ifCond_ne_17, x_if_icmp_eq_19, x_if_icmp_ge_22, x_if_icmp_ne_17, x_iinc3, x_iload2, x_iload3, x_iload4, x_istore4, klp_0, klp_1, klp_2, klp_3, klp_9, KC_0, KC_1, KC_2, KC_3, KC_4, ne_eq, not_false_eq_true, not_true_eq_false, true_and, and_true, and_self, implies_true, eq_self, true_imp_iff, false_implies, Int.reduceEq, Int.reduceNe, Int.reduceMod, Int.reduceMul, Int.reduceAdd, Int.reduceSub, Int.reduceLT, Int.reduceLE, Nat.reduceAdd, Nat.reduceLeDiff, Nat.reduceLT, Nat.reduceSub, reduceIte, wds_n, wds_0, wds_1, wds_2, wds_3, or_true, true_or, or_false, false_or, or_self, false_and, and_false, d_pos, d_s1, d_s2, d_s3, d_s4, d_s5, d_s6, d_s7, d_s8, Classical.not_not, k6, r25, z6603_85, z12576_l, z6603_88, z12708_l, z6603_90, z12832_l, pj, vj, eq_true q1, av, fc, nl, ln, s434b j24 l24 c8, bc, hb, le_T, le_F, lt_T, lt_F, w32_T]
            exact n2 _ _ ⟨⟨_, rfl⟩, fin _ _ (by unfold n9; rw [if_neg (by omega)])⟩
    · have w : wT h pl j ≠ 1 := fun z => q1 (wT_c z).1
      rw [if_neg (fun z => w z.1)] at n2
      simp (implicitDefEqProofs := false) (disch := omega) only [b435_16, b435_17, b435_18, b435_19, b435_20, b435_21, q435_17, q435_18, q435_19, q435_20, q435_21, x_aload0, x_baload, y_call434, x_gc_11947, x_gc_11971, x_gc_11987, x_gf_11464, x_goto_16, x_goto_18, x_goto_19, x_goto_21, x_iaload, x_iastore, x_iconst, x_ifCond_eq_20, x_ifCond_ne_17, x_if_icmp_eq_19, x_if_icmp_ge_22, x_if_icmp_ne_17, x_iinc3, x_iload2, x_iload3, x_iload4, x_istore4, klp_0, klp_1, klp_2, klp_3, klp_9, KC_0, KC_1, KC_2, KC_3, KC_4, ne_eq, not_false_eq_true, not_true_eq_false, true_and, and_true, and_self, implies_true, eq_self, true_imp_iff, false_implies, Int.reduceEq, Int.reduceNe, Int.reduceMod, Int.reduceMul, Int.reduceAdd, Int.reduceSub, Int.reduceLT, Int.reduceLE, Nat.reduceAdd, Nat.reduceLeDiff, Nat.reduceLT, Nat.reduceSub, reduceIte, wds_n, wds_0, wds_1, wds_2, wds_3, or_true, true_or, or_false, false_or, or_self, false_and, and_false, d_pos, d_s1, d_s2, d_s3, d_s4, d_s5, d_s6, d_s7, d_s8, Classical.not_not, k6, r25, z6603_85, z12576_l, z6603_88, z12708_l, z6603_90, z12832_l, pj, vj, q1, le_T, le_F, lt_T, lt_F, w32_T]
      exact n2 _ _ ⟨⟨_, rfl⟩, fin _ _ fc⟩
  · rintro ls h' ⟨⟨z, rfl⟩, fr, vl⟩
    have k6 : h' 6603 = h 6603 := by rw [fr _ (by decide)]; exact rk_6 C
    refine G_in ?_
    simp (implicitDefEqProofs := false) (disch := omega) only [b435_16, x_aload0, x_baload, x_gc_11947, x_gc_11971, x_gf_11464, x_goto_18, x_iaload, x_iconst, x_ifCond_ne_17, x_if_icmp_ge_22, x_if_icmp_ne_17, x_iload3, klp_0, klp_1, klp_2, klp_3, klp_9, KC_0, KC_1, KC_2, KC_3, KC_4, ne_eq, not_false_eq_true, not_true_eq_false, true_and, and_true, and_self, implies_true, eq_self, true_imp_iff, false_implies, Int.reduceEq, Int.reduceNe, Int.reduceMod, Int.reduceMul, Int.reduceAdd, Int.reduceSub, Int.reduceLT, Int.reduceLE, Nat.reduceAdd, Nat.reduceLeDiff, Nat.reduceLT, Nat.reduceSub, reduceIte, wds_n, wds_0, wds_1, wds_2, wds_3, or_true, true_or, or_false, false_or, or_self, false_and, and_false, d_pos, d_s1, d_s2, d_s3, d_s4, d_s5, d_s6, d_s7, d_s8, Classical.not_not, k6, r25, le_T, le_F, lt_T, lt_F, w32_T]
    exact nx h' fr vl _ _
theorem l435c {d : Nat} {h K : HV} {pl : Int → Int} {Q : Int → HV → Prop} {y2 y3 y4 : AV} (B : BT h) (R : BR h) (C : RK h K pl) (V : ∀ p, 0 ≤ p → p < h 836 4 → K 12708 p = awT h pl p)
    (nx : ∀ K2 : HV, (∀ a, a ≠ 12832 → K2 a = K a) → (∀ c, 0 ≤ c → c < h (h 64 8 + 598) 5 → K2 12832 c = n9 (fsT h pl c (h 836 4).toNat)) → ∀ y2 y3 y4, G fz1 (d + 2) 435 23 [(3, 6603), (0, 0), y2, y3, y4] [] K2 Q) : G fz1 (d + 2) 435 14 [(3, 6603), (0, 0), y2, y3, y4] [] K Q := by
  have h24 := B.1
  have r25 := R.2.1
  have m8 := B.2.2.2.1
  have m5 := R.2.2.1
  refine G_in ?_
  simp (implicitDefEqProofs := false) (disch := omega) only [b435_14, q435_14, x_goto_15, x_iconst, x_istore2, klp_0, klp_1, klp_2, klp_3, klp_9, KC_0, KC_1, KC_2, KC_3, KC_4, ne_eq, not_false_eq_true, not_true_eq_false, true_and, and_true, and_self, implies_true, eq_self, true_imp_iff, false_implies, Int.reduceEq, Int.reduceNe, Int.reduceMod, Int.reduceMul, Int.reduceAdd, Int.reduceSub, Int.reduceLT, Int.reduceLE, Nat.reduceAdd, Nat.reduceLeDiff, Nat.reduceLT, Nat.reduceSub, reduceIte, wds_n, wds_0, wds_1, wds_2, wds_3, or_true, true_or, or_false, false_or, or_self, false_and, and_false, d_pos, d_s1, d_s2, d_s3, d_s4, d_s5, d_s6, d_s7, d_s8, Classical.not_not]
  refine forG (N := (h (h 64 8 + 598) 5).toNat) (I := fun j ls h' => (∃ z w, ls = [(3, 6603), (0, 0), (0, (j : Int)), z, w]) ∧ (∀ a, a ≠ 12832 → h' a = K a) ∧ (∀ c, 0 ≤ c → c < (j : Int) → h' 12832 c = n9 (fsT h pl c (h 836 4).toNat))) ?_ ?_ (j := 0) (Nat.zero_le _) ⟨⟨_, _, rfl⟩, fun _ _ => rfl, fun p a b => by omega⟩
  · rintro j ls h' hj ⟨⟨z, w, rfl⟩, fr, vl⟩ n2
    have hjm : 0 ≤ (j : Int) ∧ (j : Int) < h (h 64 8 + 598) 5 := by omega
    have C' := rk_f C (fun a _ _ _ q => fr a q)
    have k6 := rk_6 C'
    have hS := R.1
    have km := (rk_m R C').1
    refine G_in ?_
    simp (implicitDefEqProofs := false) (disch := omega) only [b435_15, x_aload0, x_gc_11987, x_gc_12291, x_gf_11339, x_goto_16, x_iaload, x_iastore, x_iconst, x_if_icmp_ge_23, x_iload2, x_istore3, klp_0, klp_1, klp_2, klp_3, klp_9, KC_0, KC_1, KC_2, KC_3, KC_4, ne_eq, not_false_eq_true, not_true_eq_false, true_and, and_true, and_self, implies_true, eq_self, true_imp_iff, false_implies, Int.reduceEq, Int.reduceNe, Int.reduceMod, Int.reduceMul, Int.reduceAdd, Int.reduceSub, Int.reduceLT, Int.reduceLE, Nat.reduceAdd, Nat.reduceLeDiff, Nat.reduceLT, Nat.reduceSub, reduceIte, wds_n, wds_0, wds_1, wds_2, wds_3, or_true, true_or, or_false, false_or, or_self, false_and, and_false, d_pos, d_s1, d_s2, d_s3, d_s4, d_s5, d_s6, d_s7, d_s8, Classical.not_not, r0 hS, r0l hS, r0k hS, TR_0 hS, TR_k hS, k6, km, m5, z6603_90, z12832_l, le_T, le_F, lt_T, lt_F, w32_T]
    refine l435c1 B R C' (fun p p0 p1 => by rw [fr _ (by decide)]; exact V p p0 p1) hjm (fun K2 f2 v2 y3 y4 => ?_)
    refine G_in ?_
    simp (implicitDefEqProofs := false) (disch := omega) only [b435_22, q435_22, x_goto_15, x_iinc2, klp_0, klp_1, klp_2, klp_3, klp_9, KC_0, KC_1, KC_2, KC_3, KC_4, ne_eq, not_false_eq_true, not_true_eq_false, true_and, and_true, and_self, implies_true, eq_self, true_imp_iff, false_implies, Int.reduceEq, Int.reduceNe, Int.reduceMod, Int.reduceMul, Int.reduceAdd, Int.reduceSub, Int.reduceLT, Int.reduceLE, Nat.reduceAdd, Nat.reduceLeDiff, Nat.reduceLT, Nat.reduceSub, reduceIte, wds_n, wds_0, wds_1, wds_2, wds_3, or_true, true_or, or_false, false_or, or_self, false_and, and_false, d_pos, d_s1, d_s2, d_s3, d_s4, d_s5, d_s6, d_s7, d_s8, Classical.not_not, le_T, le_F, lt_T, lt_F, w32_T]
    refine n2 _ _ ⟨⟨_, _, rfl⟩, fun a ha => by rw [f2 a ha, fr a ha], fun c q0 q1 => ?_⟩
    rw [v2]
    by_cases q : c = j
    · rw [if_pos q, q]
    · rw [if_neg q]
      exact vl c q0 (by omega)
  · rintro ls h' ⟨⟨z, w, rfl⟩, fr, vl⟩
    have C' := rk_f C (fun a _ _ _ q => fr a q)
    have k6 := rk_6 C'
    have hS := R.1
    have km := (rk_m R C').1
    refine G_in ?_
    simp (implicitDefEqProofs := false) (disch := omega) only [b435_15, x_aload0, x_gc_11987, x_gc_12291, x_gf_11339, x_goto_16, x_iaload, x_iastore, x_iconst, x_if_icmp_ge_23, x_iload2, x_istore3, klp_0, klp_1, klp_2, klp_3, klp_9, KC_0, KC_1, KC_2, KC_3, KC_4, ne_eq, not_false_eq_true, not_true_eq_false, true_and, and_true, and_self, implies_true, eq_self, true_imp_iff, false_implies, Int.reduceEq, Int.reduceNe, Int.reduceMod, Int.reduceMul, Int.reduceAdd, Int.reduceSub, Int.reduceLT, Int.reduceLE, Nat.reduceAdd, Nat.reduceLeDiff, Nat.reduceLT, Nat.reduceSub, reduceIte, wds_n, wds_0, wds_1, wds_2, wds_3, or_true, true_or, or_false, false_or, or_self, false_and, and_false, d_pos, d_s1, d_s2, d_s3, d_s4, d_s5, d_s6, d_s7, d_s8, Classical.not_not, r0 hS, r0l hS, r0k hS, TR_0 hS, TR_k hS, k6, km, m5, le_T, le_F, lt_T, lt_F, w32_T]
    exact nx h' fr (fun c q0 q1 => vl c q0 (by omega)) _ _ _
