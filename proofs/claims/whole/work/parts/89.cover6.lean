/-! THE PURE SIDE, 70: cover, the reference's table of ways: printed by wip/tools/gen89.py -/
/-- the reference's heap on its way: open units told -/
def RvO (K H : HV) (p : Int) : Prop := RvF K H ∧ H 6603 93 = nO K p ∧ ∀ k : Nat, k < nO K p → H 12960 k = arO K p (K (K 64 8) 11).toNat k
theorem rvo_f {K H M : HV} {p : Int} (O : RvO K H p) (e : ∀ a, a ≠ 13024 → a ≠ 12896 → M a = H a) : RvO K M p := ⟨⟨fun a q => by rw [e a q.2.2.2 q.2.1]; exact O.1.1 a q, fun s a => by rw [e _ (by decide) (by decide)]; exact O.1.2 s a⟩, by rw [e _ (by decide) (by decide)]; exact O.2.1, fun k hk => by rw [e _ (by decide) (by decide)]; exact O.2.2 k hk⟩
theorem no_6 {K : HV} {p : Int} (C : CvK K) : nO K p ≤ 6 := by
  have := C.2.1.1
  exact cn_6 (p := p) C.1 C.2.2.2.2.2.2.2.1 C.2.2.2.2.2.2.2.2 (j := (K (K 64 8) 11).toNat) (by omega)
/-- whether staff s teaches the i-th open unit -/
theorem te_row {d : Nat} {K H : HV} {Q : Int → HV → Prop} {p : Int} {i s : Nat} (C : CvK K) (O : RvO K H p) (hi : i < nO K p) (hs : s < 10) : Sp fz1 d 442 [(3, 6603), (0, (s : Int)), (0, arO K p (K (K 64 8) 11).toNat i)] H Q = Q (if tO K p (nO K p - 1 - i) s = 1 then 1 else 0) H := by
  have C0 := C
  obtain ⟨X, U, hU, L, A, B, T, I, hf⟩ := C
  have hS := X.2.1
  have hN := U.1
  have X4 := rtx_4 X
  have a := ar_b (h := K) (p := p) (K (K 64 8) 11).toNat i (by omega) (by show (i : Int) < (nO K p : Int); omega)
  have uI : 0 ≤ arO K p (K (K 64 8) 11).toNat i ∧ arO K p (K (K 64 8) 11).toNat i < K (K 64 8) 11 := by omega
  have lb := les_b X U uI
  have c12 := cvk_12 C0 uI
  have h9 : H 6603 9 = K 6603 9 := O.1.2 9 (by decide)
  have e1 : H (K 6603 9 + 340) = K (K 6603 9 + 340) := O.1.1 _ (by rcases hS with w | w <;> omega)
  have e2 : H (K 6603 9 + 468) = K (K 6603 9 + 468) := O.1.1 _ (by rcases hS with w | w <;> omega)
  have e3 : H 12000 = K 12000 := O.1.1 _ (by decide)
  have tE : tO K p (nO K p - 1 - i) s = i_and (i_shr (K (K 6603 9 + 340) s) (K (K 6603 9 + 468) (lsU K (arO K p (K (K 64 8) 11).toNat i)))) 1 := by
    unfold tO tCv
    rw [show nO K p - 1 - (nO K p - 1 - i) = i by omega]
  rw [tE, s442 (by rw [h9]; exact hS) (by omega) (by omega) (by rw [e3, c12]; omega), h9, e1, e2, e3, c12]
theorem lp440m {d : Nat} {K H : HV} {Q : Int → HV → Prop} {p l2 l3 : Int} {i m : Nat} (C : CvK K) (O : RvO K H p) (hi : i < nO K p) (hm : m < 1024) (V : ∀ m' : Nat, m' < 1024 → H 13024 (1024 * ((i : Int) + 1) + m') = FCv (tO K p) (nO K p - 1 - i) m')
    (nx : ∀ z y, G fz1 (d + 1) 440 14 [(3, 6603), (0, p), (0, l2), (0, l3), (0, (i : Int)), (0, (m : Int)), (0, FCv (tO K p) (nO K p - 1 - i + 1) m), z, y] [] H Q) : ∀ y8, G fz1 (d + 1) 440 10 [(3, 6603), (0, p), (0, l2), (0, l3), (0, (i : Int)), (0, (m : Int)), (0, FCv (tO K p) (nO K p - 1 - i) m), (0, 0), y8] [] H Q := by
  intro y8
  have n6 := no_6 (p := p) C
  generalize hr : nO K p - 1 - i = r at *
  refine forG (N := 10) (I := fun s ls h' => (∃ z, ls = [(3, 6603), (0, p), (0, l2), (0, l3), (0, (i : Int)), (0, (m : Int)), (0, mxR (tO K p) r m s), (0, (s : Int)), z]) ∧ h' = H) ?_ ?_ (j := 0) (Nat.zero_le _) ⟨⟨_, by rw [mxR_0]; rfl⟩, rfl⟩
  · rintro s ls h' hs ⟨⟨z, rfl⟩, rfl⟩ n2
    have o6 := O.2.1
    have oi := O.2.2 i hi
    have te := fun (d : Nat) (Q : Int → HV → Prop) => te_row (d := d) (Q := Q) C O hi hs
    rw [hr] at te
    have bt := bit_t (m := m) (s := s) (by omega) (by omega)
    have bx := bit_xor (m := m) (s := s) hm hs
    have bl := xor_lt hm hs
    have mb := mxR_b (tO K p) r m s (by omega)
    have mS := mxR_s (tO K p) r m s
    rw [mS] at n2
    have vx := V (m ^^^ 2 ^ s) bl
    have fb := FCv_b (t := tO K p) r (m ^^^ 2 ^ s)
    have wE : wC (tO K p) r m s = 1 + FCv (tO K p) r (m ^^^ 2 ^ s) := rfl
    rw [wE] at n2
    generalize FCv (tO K p) r (m ^^^ 2 ^ s) = f at *
    generalize m ^^^ 2 ^ s = m2 at *
    generalize mxR (tO K p) r m s = v at *
    have r6 : r ≤ 6 := by omega
    refine G_in ?_
    by_cases c1 : m.testBit s = true
    · rw [if_pos c1] at bt
      by_cases c2 : tO K p r s = 1
      · have ok : okF (tO K p r) m s = 1 := by unfold okF; rw [if_pos ⟨c1, c2⟩]
        have e2 : (if tO K p r s = 1 then (1 : Int) else 0) = 1 := if_pos c2
        by_cases c3 : v < 1 + f
        · rw [if_pos ⟨ok, c3⟩] at n2
          simp (implicitDefEqProofs := false) (disch := omega) only [b440_10, b440_11, b440_12, b440_13, q440_11, q440_12, q440_13, x_aload0, y_call442, x_gc_12003, x_gc_12019, x_gf_12008, x_goto_10, x_goto_12, x_goto_13, x_iadd, x_iaload, x_iand, x_iconst, x_ifCond_eq_13, x_if_icmp_ge_14, x_if_icmp_le_11, x_if_icmp_ne_13, x_iinc7, x_iload4, x_iload5, x_iload6, x_iload7, x_iload8, x_imul, x_ishl, x_ishr, x_istore6, x_istore8, x_ixor, klp_0, klp_1, klp_2, klp_3, klp_9, KC_0, KC_1, KC_2, KC_3, KC_4, ne_eq, not_false_eq_true, not_true_eq_false, true_and, and_true, and_self, implies_true, eq_self, true_imp_iff, false_implies, Int.reduceEq, Int.reduceNe, Int.reduceMod, Int.reduceMul, Int.reduceAdd, Int.reduceSub, Int.reduceLT, Int.reduceLE, Nat.reduceAdd, Nat.reduceLeDiff, Nat.reduceLT, Nat.reduceSub, reduceIte, wds_n, wds_0, wds_1, wds_2, wds_3, or_true, true_or, or_false, false_or, or_self, false_and, and_false, d_pos, d_s1, d_s2, d_s3, d_s4, d_s5, d_s6, d_s7, d_s8, Classical.not_not, o6, bt, z6603_92, z12960_l, oi, te, e2, z6603_94, z13024_l, bx, vx, le_T, le_F, lt_T, lt_F, w32_T]
          exact n2 _ _ ⟨⟨_, rfl⟩, rfl⟩
        · rw [if_neg (fun w => c3 w.2)] at n2
          simp (implicitDefEqProofs := false) (disch := omega) only [b440_10, b440_11, b440_12, b440_13, q440_11, q440_12, q440_13, x_aload0, y_call442, x_gc_12003, x_gc_12019, x_gf_12008, x_goto_10, x_goto_12, x_goto_13, x_iadd, x_iaload, x_iand, x_iconst, x_ifCond_eq_13, x_if_icmp_ge_14, x_if_icmp_le_11, x_if_icmp_ne_13, x_iinc7, x_iload4, x_iload5, x_iload6, x_iload7, x_iload8, x_imul, x_ishl, x_ishr, x_istore6, x_istore8, x_ixor, klp_0, klp_1, klp_2, klp_3, klp_9, KC_0, KC_1, KC_2, KC_3, KC_4, ne_eq, not_false_eq_true, not_true_eq_false, true_and, and_true, and_self, implies_true, eq_self, true_imp_iff, false_implies, Int.reduceEq, Int.reduceNe, Int.reduceMod, Int.reduceMul, Int.reduceAdd, Int.reduceSub, Int.reduceLT, Int.reduceLE, Nat.reduceAdd, Nat.reduceLeDiff, Nat.reduceLT, Nat.reduceSub, reduceIte, wds_n, wds_0, wds_1, wds_2, wds_3, or_true, true_or, or_false, false_or, or_self, false_and, and_false, d_pos, d_s1, d_s2, d_s3, d_s4, d_s5, d_s6, d_s7, d_s8, Classical.not_not, o6, bt, z6603_92, z12960_l, oi, te, e2, z6603_94, z13024_l, bx, vx, le_T, le_F, lt_T, lt_F, w32_T]
          exact n2 _ _ ⟨⟨_, rfl⟩, rfl⟩
      · have ok : okF (tO K p r) m s ≠ 1 := by unfold okF; rw [if_neg (fun w => c2 w.2)]; decide
        have e2 : (if tO K p r s = 1 then (1 : Int) else 0) = 0 := if_neg c2
        rw [if_neg (fun w => ok w.1)] at n2
        simp (implicitDefEqProofs := false) (disch := omega) only [b440_10, b440_13, q440_13, x_aload0, y_call442, x_gc_12003, x_gc_12019, x_gf_12008, x_goto_10, x_goto_12, x_iadd, x_iaload, x_iand, x_iconst, x_ifCond_eq_13, x_if_icmp_ge_14, x_if_icmp_le_11, x_if_icmp_ne_13, x_iinc7, x_iload4, x_iload5, x_iload6, x_iload7, x_iload8, x_imul, x_ishl, x_ishr, x_istore8, x_ixor, klp_0, klp_1, klp_2, klp_3, klp_9, KC_0, KC_1, KC_2, KC_3, KC_4, ne_eq, not_false_eq_true, not_true_eq_false, true_and, and_true, and_self, implies_true, eq_self, true_imp_iff, false_implies, Int.reduceEq, Int.reduceNe, Int.reduceMod, Int.reduceMul, Int.reduceAdd, Int.reduceSub, Int.reduceLT, Int.reduceLE, Nat.reduceAdd, Nat.reduceLeDiff, Nat.reduceLT, Nat.reduceSub, reduceIte, wds_n, wds_0, wds_1, wds_2, wds_3, or_true, true_or, or_false, false_or, or_self, false_and, and_false, d_pos, d_s1, d_s2, d_s3, d_s4, d_s5, d_s6, d_s7, d_s8, Classical.not_not, o6, bt, z6603_92, z12960_l, oi, te, e2, le_T, le_F, lt_T, lt_F, w32_T]
        exact n2 _ _ ⟨⟨_, rfl⟩, rfl⟩
    · rw [if_neg c1] at bt
      have ok : okF (tO K p r) m s ≠ 1 := by unfold okF; rw [if_neg (fun w => c1 w.1)]; decide
      rw [if_neg (fun w => ok w.1)] at n2
      simp (implicitDefEqProofs := false) (disch := omega) only [b440_10, b440_13, q440_13, x_aload0, y_call442, x_gc_12003, x_gc_12019, x_gf_12008, x_goto_10, x_goto_12, x_iadd, x_iaload, x_iand, x_iconst, x_ifCond_eq_13, x_if_icmp_ge_14, x_if_icmp_le_11, x_if_icmp_ne_13, x_iinc7, x_iload4, x_iload5, x_iload6, x_iload7, x_iload8, x_imul, x_ishl, x_ishr, x_istore8, x_ixor, klp_0, klp_1, klp_2, klp_3, klp_9, KC_0, KC_1, KC_2, KC_3, KC_4, ne_eq, not_false_eq_true, not_true_eq_false, true_and, and_true, and_self, implies_true, eq_self, true_imp_iff, false_implies, Int.reduceEq, Int.reduceNe, Int.reduceMod, Int.reduceMul, Int.reduceAdd, Int.reduceSub, Int.reduceLT, Int.reduceLE, Nat.reduceAdd, Nat.reduceLeDiff, Nat.reduceLT, Nat.reduceSub, reduceIte, wds_n, wds_0, wds_1, wds_2, wds_3, or_true, true_or, or_false, false_or, or_self, false_and, and_false, d_pos, d_s1, d_s2, d_s3, d_s4, d_s5, d_s6, d_s7, d_s8, Classical.not_not, o6, bt, le_T, le_F, lt_T, lt_F, w32_T]
      exact n2 _ _ ⟨⟨_, rfl⟩, rfl⟩
  · rintro ls h' ⟨⟨z, rfl⟩, rfl⟩
    refine G_in ?_
    simp (implicitDefEqProofs := false) (disch := omega) only [b440_10, x_aload0, y_call442, x_gc_12003, x_gc_12019, x_gf_12008, x_goto_12, x_iadd, x_iaload, x_iand, x_iconst, x_ifCond_eq_13, x_if_icmp_ge_14, x_if_icmp_le_11, x_if_icmp_ne_13, x_iload4, x_iload5, x_iload6, x_iload7, x_iload8, x_imul, x_ishl, x_ishr, x_istore8, x_ixor, klp_0, klp_1, klp_2, klp_3, klp_9, KC_0, KC_1, KC_2, KC_3, KC_4, ne_eq, not_false_eq_true, not_true_eq_false, true_and, and_true, and_self, implies_true, eq_self, true_imp_iff, false_implies, Int.reduceEq, Int.reduceNe, Int.reduceMod, Int.reduceMul, Int.reduceAdd, Int.reduceSub, Int.reduceLT, Int.reduceLE, Nat.reduceAdd, Nat.reduceLeDiff, Nat.reduceLT, Nat.reduceSub, reduceIte, wds_n, wds_0, wds_1, wds_2, wds_3, or_true, true_or, or_false, false_or, or_self, false_and, and_false, d_pos, d_s1, d_s2, d_s3, d_s4, d_s5, d_s6, d_s7, d_s8, Classical.not_not, le_T, le_F, lt_T, lt_F, w32_T]
    exact nx _ _
/-- rows from i on are told -/
def DPs (K H : HV) (p : Int) (i : Nat) : Prop := ∀ i' m' : Nat, i ≤ i' → i' ≤ nO K p → m' < 1024 → H 13024 (1024 * (i' : Int) + m') = FCv (tO K p) (nO K p - i') m'
theorem lp440r {d : Nat} {K H0 : HV} {Q : Int → HV → Prop} {p l2 l3 : Int} {i : Nat} {y6 y7 y8 : AV} (C : CvK K) (O0 : RvO K H0 p) (hi : i ≤ nO K p) (D0 : DPs K H0 p (i + 1)) (e0 : H0 12896 = K 12896 ∨ True)
    (nx : ∀ H : HV, RvO K H p → DPs K H p i → H 12896 = H0 12896 → ∀ y5 y6 y7 y8, G fz1 (d + 1) 440 6 [(3, 6603), (0, p), (0, l2), (0, l3), (0, (i : Int) - 1), y5, y6, y7, y8] [] H Q) : G fz1 (d + 1) 440 7 [(3, 6603), (0, p), (0, l2), (0, l3), (0, (i : Int)), (0, 0), y6, y7, y8] [] H0 Q := by
  clear e0
  have n6 := no_6 (p := p) C
  refine forG (N := 1024) (I := fun m ls h' => (∃ a b c, ls = [(3, 6603), (0, p), (0, l2), (0, l3), (0, (i : Int)), (0, (m : Int)), a, b, c]) ∧ RvO K h' p ∧ h' 12896 = H0 12896 ∧ DPs K h' p (i + 1) ∧ ∀ m' : Nat, m' < m → h' 13024 (1024 * (i : Int) + m') = FCv (tO K p) (nO K p - i) m') ?_ ?_ (j := 0) (Nat.zero_le _) ⟨⟨_, _, _, rfl⟩, O0, rfl, D0, fun m' h => by omega⟩
  · rintro m ls h' hm ⟨⟨a, b, c, rfl⟩, O, e9, D, V⟩ n2
    have o6 := O.2.1
    have fin : ∀ v : Int, v = FCv (tO K p) (nO K p - i) m → ∀ b c, G fz1 (d + 1) 440 14 [(3, 6603), (0, p), (0, l2), (0, l3), (0, (i : Int)), (0, (m : Int)), (0, v), b, c] [] h' Q := fun v hv b c => by
      refine G_in ?_
      simp (implicitDefEqProofs := false) (disch := omega) only [b440_14, q440_14, x_aload0, x_gc_12019, x_goto_7, x_iadd, x_iastore, x_iconst, x_iinc5, x_iload4, x_iload5, x_iload6, x_imul, klp_0, klp_1, klp_2, klp_3, klp_9, KC_0, KC_1, KC_2, KC_3, KC_4, ne_eq, not_false_eq_true, not_true_eq_false, true_and, and_true, and_self, implies_true, eq_self, true_imp_iff, false_implies, Int.reduceEq, Int.reduceNe, Int.reduceMod, Int.reduceMul, Int.reduceAdd, Int.reduceSub, Int.reduceLT, Int.reduceLE, Nat.reduceAdd, Nat.reduceLeDiff, Nat.reduceLT, Nat.reduceSub, reduceIte, wds_n, wds_0, wds_1, wds_2, wds_3, or_true, true_or, or_false, false_or, or_self, false_and, and_false, d_pos, d_s1, d_s2, d_s3, d_s4, d_s5, d_s6, d_s7, d_s8, Classical.not_not, z6603_94, z13024_l, le_T, le_F, lt_T, lt_F, w32_T]
      refine n2 _ _ ⟨⟨_, _, _, rfl⟩, rvo_f O (fun a q _ => hs_ne q), by rw [hs_ne (by decide)]; exact e9, fun i' m' a1 a2 a3 => ?_, fun m' hm' => ?_⟩
      · rw [hset_v, if_neg (fun w => by omega)]
        exact D i' m' a1 a2 a3
      · rw [hset_v]
        by_cases q : m' = m
        · rw [if_pos ⟨rfl, by omega⟩, q, hv]
        · rw [if_neg (fun w => by omega)]
          exact V m' (by omega)
    refine G_in ?_
    by_cases q : i = nO K p
    · have qI : (i : Int) = nO K p := by omega
      have z : FCv (tO K p) (nO K p - i) m = 0 := by rw [q, Nat.sub_self]; rfl
      simp (implicitDefEqProofs := false) (disch := omega) only [b440_7, b440_8, b440_9, q440_7, q440_8, q440_9, x_aload0, x_gc_12019, x_gf_12008, x_goto_10, x_goto_9, x_iadd, x_iaload, x_iconst, x_if_icmp_ge_15, x_if_icmp_ne_8, x_iload4, x_iload5, x_imul, x_istore6, x_istore7, klp_0, klp_1, klp_2, klp_3, klp_9, KC_0, KC_1, KC_2, KC_3, KC_4, ne_eq, not_false_eq_true, not_true_eq_false, true_and, and_true, and_self, implies_true, eq_self, true_imp_iff, false_implies, Int.reduceEq, Int.reduceNe, Int.reduceMod, Int.reduceMul, Int.reduceAdd, Int.reduceSub, Int.reduceLT, Int.reduceLE, Nat.reduceAdd, Nat.reduceLeDiff, Nat.reduceLT, Nat.reduceSub, reduceIte, wds_n, wds_0, wds_1, wds_2, wds_3, or_true, true_or, or_false, false_or, or_self, false_and, and_false, d_pos, d_s1, d_s2, d_s3, d_s4, d_s5, d_s6, d_s7, d_s8, Classical.not_not, o6, eq_true qI, le_T, le_F, lt_T, lt_F, w32_T]
      refine G_in ?_
      simp (implicitDefEqProofs := false) (disch := omega) only [b440_10, x_aload0, y_call442, x_gc_12003, x_gc_12019, x_gf_12008, x_goto_12, x_iadd, x_iaload, x_iand, x_iconst, x_ifCond_eq_13, x_if_icmp_ge_14, x_if_icmp_le_11, x_if_icmp_ne_13, x_iload4, x_iload5, x_iload6, x_iload7, x_iload8, x_imul, x_ishl, x_ishr, x_istore8, x_ixor, klp_0, klp_1, klp_2, klp_3, klp_9, KC_0, KC_1, KC_2, KC_3, KC_4, ne_eq, not_false_eq_true, not_true_eq_false, true_and, and_true, and_self, implies_true, eq_self, true_imp_iff, false_implies, Int.reduceEq, Int.reduceNe, Int.reduceMod, Int.reduceMul, Int.reduceAdd, Int.reduceSub, Int.reduceLT, Int.reduceLE, Nat.reduceAdd, Nat.reduceLeDiff, Nat.reduceLT, Nat.reduceSub, reduceIte, wds_n, wds_0, wds_1, wds_2, wds_3, or_true, true_or, or_false, false_or, or_self, false_and, and_false, d_pos, d_s1, d_s2, d_s3, d_s4, d_s5, d_s6, d_s7, d_s8, Classical.not_not, o6, le_T, le_F, lt_T, lt_F, w32_T]
      exact fin 0 z.symm _ _
    · have qI : ¬ (i : Int) = nO K p := by omega
      have v0 := D (i + 1) m (by omega) (by omega) hm
      rw [show (((i + 1 : Nat)) : Int) = (i : Int) + 1 by omega, show nO K p - (i + 1) = nO K p - 1 - i by omega] at v0
      simp (implicitDefEqProofs := false) (disch := omega) only [b440_7, b440_8, b440_9, q440_7, q440_8, q440_9, x_aload0, x_gc_12019, x_gf_12008, x_goto_10, x_goto_9, x_iadd, x_iaload, x_iconst, x_if_icmp_ge_15, x_if_icmp_ne_8, x_iload4, x_iload5, x_imul, x_istore6, x_istore7, klp_0, klp_1, klp_2, klp_3, klp_9, KC_0, KC_1, KC_2, KC_3, KC_4, ne_eq, not_false_eq_true, not_true_eq_false, true_and, and_true, and_self, implies_true, eq_self, true_imp_iff, false_implies, Int.reduceEq, Int.reduceNe, Int.reduceMod, Int.reduceMul, Int.reduceAdd, Int.reduceSub, Int.reduceLT, Int.reduceLE, Nat.reduceAdd, Nat.reduceLeDiff, Nat.reduceLT, Nat.reduceSub, reduceIte, wds_n, wds_0, wds_1, wds_2, wds_3, or_true, true_or, or_false, false_or, or_self, false_and, and_false, d_pos, d_s1, d_s2, d_s3, d_s4, d_s5, d_s6, d_s7, d_s8, Classical.not_not, o6, qI, z6603_94, z13024_l, v0, le_T, le_F, lt_T, lt_F, w32_T]
      refine lp440m (i := i) (m := m) C O (by omega) hm (fun m' hm' => ?_) (fun z y => ?_) _
      · have := D (i + 1) m' (by omega) (by omega) hm'
        rw [show (((i + 1 : Nat)) : Int) = (i : Int) + 1 by omega, show nO K p - (i + 1) = nO K p - 1 - i by omega] at this
        exact this
      · rw [show nO K p - 1 - i + 1 = nO K p - i by omega]
        exact fin _ rfl _ _
  · rintro ls h' ⟨⟨a, b, c, rfl⟩, O, e9, D, V⟩
    refine G_in ?_
    simp (implicitDefEqProofs := false) (disch := omega) only [b440_7, b440_15, q440_15, x_aload0, x_gf_12008, x_goto_6, x_goto_9, x_iconst, x_if_icmp_ge_15, x_if_icmp_ne_8, x_iinc4, x_iload4, x_iload5, klp_0, klp_1, klp_2, klp_3, klp_9, KC_0, KC_1, KC_2, KC_3, KC_4, ne_eq, not_false_eq_true, not_true_eq_false, true_and, and_true, and_self, implies_true, eq_self, true_imp_iff, false_implies, Int.reduceEq, Int.reduceNe, Int.reduceMod, Int.reduceMul, Int.reduceAdd, Int.reduceSub, Int.reduceLT, Int.reduceLE, Nat.reduceAdd, Nat.reduceLeDiff, Nat.reduceLT, Nat.reduceSub, reduceIte, wds_n, wds_0, wds_1, wds_2, wds_3, or_true, true_or, or_false, false_or, or_self, false_and, and_false, d_pos, d_s1, d_s2, d_s3, d_s4, d_s5, d_s6, d_s7, d_s8, Classical.not_not, le_T, le_F, lt_T, lt_F, w32_T]
    refine nx h' O (fun i' m' a1 a2 a3 => ?_) e9 _ _ _ _
    by_cases q : i' = i
    · rw [q]; exact V m' a3
    · exact D i' m' (by omega) a2 a3
theorem lp440d {d : Nat} {K : HV} {Q : Int → HV → Prop} {p l2 l3 : Int} (C : CvK K)  : ∀ (i : Nat) (H : HV) (y5 y6 y7 y8 : AV), i ≤ nO K p + 1 → RvO K H p → DPs K H p i → (∀ H2 : HV, RvO K H2 p → DPs K H2 p 0 → H2 12896 = H 12896 → ∀ y4 y5 y6 y7 y8, G fz1 (d + 1) 440 16 [(3, 6603), (0, p), (0, l2), (0, l3), y4, y5, y6, y7, y8] [] H2 Q) → G fz1 (d + 1) 440 6 [(3, 6603), (0, p), (0, l2), (0, l3), (0, (i : Int) - 1), y5, y6, y7, y8] [] H Q
  | 0, H, y5, y6, y7, y8, hi, O, D, nx => by
    refine G_in ?_
    simp (implicitDefEqProofs := false) (disch := omega) only [b440_6, q440_6, x_goto_7, x_iconst, x_ifCond_lt_16, x_iload4, x_istore5, klp_0, klp_1, klp_2, klp_3, klp_9, KC_0, KC_1, KC_2, KC_3, KC_4, ne_eq, not_false_eq_true, not_true_eq_false, true_and, and_true, and_self, implies_true, eq_self, true_imp_iff, false_implies, Int.reduceEq, Int.reduceNe, Int.reduceMod, Int.reduceMul, Int.reduceAdd, Int.reduceSub, Int.reduceLT, Int.reduceLE, Nat.reduceAdd, Nat.reduceLeDiff, Nat.reduceLT, Nat.reduceSub, reduceIte, wds_n, wds_0, wds_1, wds_2, wds_3, or_true, true_or, or_false, false_or, or_self, false_and, and_false, d_pos, d_s1, d_s2, d_s3, d_s4, d_s5, d_s6, d_s7, d_s8, Classical.not_not, le_T, le_F, lt_T, lt_F, w32_T]
    exact nx H O D rfl _ _ _ _ _
  | i + 1, H, y5, y6, y7, y8, hi, O, D, nx => by
    have n6 := no_6 (p := p) C
    have ci : ((i + 1 : Nat) : Int) - 1 = (i : Int) := by omega
    rw [ci]
    refine G_in ?_
    simp (implicitDefEqProofs := false) (disch := omega) only [b440_6, q440_6, x_goto_7, x_iconst, x_ifCond_lt_16, x_iload4, x_istore5, klp_0, klp_1, klp_2, klp_3, klp_9, KC_0, KC_1, KC_2, KC_3, KC_4, ne_eq, not_false_eq_true, not_true_eq_false, true_and, and_true, and_self, implies_true, eq_self, true_imp_iff, false_implies, Int.reduceEq, Int.reduceNe, Int.reduceMod, Int.reduceMul, Int.reduceAdd, Int.reduceSub, Int.reduceLT, Int.reduceLE, Nat.reduceAdd, Nat.reduceLeDiff, Nat.reduceLT, Nat.reduceSub, reduceIte, wds_n, wds_0, wds_1, wds_2, wds_3, or_true, true_or, or_false, false_or, or_self, false_and, and_false, d_pos, d_s1, d_s2, d_s3, d_s4, d_s5, d_s6, d_s7, d_s8, Classical.not_not, le_T, le_F, lt_T, lt_F, w32_T]
    refine lp440r C O (by omega) D (.inr trivial) (fun H2 O2 D2 e2 y5 y6 y7 y8 => ?_)
    refine lp440d C i H2 _ _ _ _ (by omega) O2 D2 (fun H3 O3 D3 e3 => ?_)
    exact nx H3 O3 D3 (by rw [e3, e2])
