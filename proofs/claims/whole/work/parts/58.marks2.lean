/-! THE PURE SIDE, 39: a new row on both sides, and the marks of a pupil: printed by wip/tools/gen58.py -/
/-- a row of the reference -/
def nrH (h : HV) (t n : Int) : HV := filR (hset (hset (hset h 6603 30 (h 6603 30 + 1)) 10272 (h 6603 30) t) 10336 (h 6603 30) n) 10401 (64 * h 6603 30) n (if 5 < t then -9 else 0)
theorem s377 {d : Nat} {h : HV} {Q : Int → HV → Prop} {t n : Int} (hr : 0 ≤ h 6603 30 ∧ h 6603 30 < 6000) (hn : 0 ≤ n ∧ n ≤ 64) : Sp fz1 d 377 [(3, 6603), (0, t), (0, n)] h Q = Q (h 6603 30) (nrH h t n) := by
  refine Sp_is ?_ Q
  unfold nrH
  generalize hc4 : h 6603 30 = r at *
  simp (implicitDefEqProofs := false) (disch := omega) only [sp377, b377_0, b377_1, b377_2, b377_3, b377_4, q377_2, q377_3, q377_4, x_aload0, x_bipush, x_dup0, x_dup3, x_gc_11515, x_gc_11523, x_gc_11531, x_gf_11504, x_goto_1, x_goto_3, x_iadd, x_iastore, x_iconst, x_if_icmp_ge_4, x_if_icmp_le_2, x_iinc4, x_iload1, x_iload2, x_iload3, x_iload4, x_imul, x_ireturn, x_istore3, x_istore4, x_lastore, x_pf_11504, klp_0, klp_1, klp_2, klp_3, klp_9, KC_0, KC_1, KC_2, KC_3, KC_4, ne_eq, not_false_eq_true, not_true_eq_false, true_and, and_true, and_self, implies_true, eq_self, true_imp_iff, false_implies, Int.reduceEq, Int.reduceNe, Int.reduceMod, Int.reduceMul, Int.reduceAdd, Int.reduceSub, Int.reduceLT, Int.reduceLE, Nat.reduceAdd, Nat.reduceLeDiff, Nat.reduceLT, Nat.reduceSub, reduceIte, wds_n, wds_0, wds_1, wds_2, wds_3, or_true, true_or, or_false, false_or, or_self, false_and, and_false, d_pos, d_s1, d_s2, d_s3, d_s4, d_s5, d_s6, d_s7, d_s8, Classical.not_not, z6603_31, z6603_32, z10272_l, z10336_l, hset_v, hc4, le_T, le_F, lt_T, lt_F, w32_T]
  generalize (hset (hset (hset h 6603 30 (r + 1)) 10272 r t) 10336 r n) = H
  refine forG (N := n.toNat) (I := fun j ls h' => ls = [(3, 6603), (0, t), (0, n), (0, r), (0, (j : Int))] ∧ h' = filR H 10401 (64 * r) j (if 5 < t then -9 else 0)) ?_ ?_ (j := 0) (Nat.zero_le _) ⟨rfl, (filR_0 _ _ _ _).symm⟩
  · rintro j ls h' hj ⟨rfl, rfl⟩ nx
    have b1 : (j : Int) < n := by omega
    refine G_in ?_
    by_cases ht : 5 < t
    · rw [if_pos ht] at *
      simp (implicitDefEqProofs := false) (disch := omega) only [b377_1, b377_2, b377_3, q377_2, q377_3, x_aload0, x_bipush, x_gc_11531, x_goto_1, x_goto_3, x_iadd, x_iconst, x_if_icmp_ge_4, x_if_icmp_le_2, x_iinc4, x_iload1, x_iload2, x_iload3, x_iload4, x_imul, x_lastore, klp_0, klp_1, klp_2, klp_3, klp_9, KC_0, KC_1, KC_2, KC_3, KC_4, ne_eq, not_false_eq_true, not_true_eq_false, true_and, and_true, and_self, implies_true, eq_self, true_imp_iff, false_implies, Int.reduceEq, Int.reduceNe, Int.reduceMod, Int.reduceMul, Int.reduceAdd, Int.reduceSub, Int.reduceLT, Int.reduceLE, Nat.reduceAdd, Nat.reduceLeDiff, Nat.reduceLT, Nat.reduceSub, reduceIte, wds_n, wds_0, wds_1, wds_2, wds_3, or_true, true_or, or_false, false_or, or_self, false_and, and_false, d_pos, d_s1, d_s2, d_s3, d_s4, d_s5, d_s6, d_s7, d_s8, Classical.not_not, z6603_33, z10401_l, le_T, le_F, lt_T, lt_F, w32_T]
      exact nx _ _ ⟨rfl, filR_s _ (by omega)⟩
    · rw [if_neg ht] at *
      simp (implicitDefEqProofs := false) (disch := omega) only [b377_1, b377_2, b377_3, q377_2, q377_3, x_aload0, x_bipush, x_gc_11531, x_goto_1, x_goto_3, x_iadd, x_iconst, x_if_icmp_ge_4, x_if_icmp_le_2, x_iinc4, x_iload1, x_iload2, x_iload3, x_iload4, x_imul, x_lastore, klp_0, klp_1, klp_2, klp_3, klp_9, KC_0, KC_1, KC_2, KC_3, KC_4, ne_eq, not_false_eq_true, not_true_eq_false, true_and, and_true, and_self, implies_true, eq_self, true_imp_iff, false_implies, Int.reduceEq, Int.reduceNe, Int.reduceMod, Int.reduceMul, Int.reduceAdd, Int.reduceSub, Int.reduceLT, Int.reduceLE, Nat.reduceAdd, Nat.reduceLeDiff, Nat.reduceLT, Nat.reduceSub, reduceIte, wds_n, wds_0, wds_1, wds_2, wds_3, or_true, true_or, or_false, false_or, or_self, false_and, and_false, d_pos, d_s1, d_s2, d_s3, d_s4, d_s5, d_s6, d_s7, d_s8, Classical.not_not, z6603_33, z10401_l, le_T, le_F, lt_T, lt_F, w32_T]
      exact nx _ _ ⟨rfl, filR_s _ (by omega)⟩
  · rintro ls h' ⟨rfl, rfl⟩
    refine G_in ?_
    simp (implicitDefEqProofs := false) (disch := omega) only [b377_1, b377_4, q377_4, x_aload0, x_bipush, x_gc_11531, x_goto_3, x_iadd, x_iconst, x_if_icmp_ge_4, x_if_icmp_le_2, x_iload1, x_iload2, x_iload3, x_iload4, x_imul, x_ireturn, klp_0, klp_1, klp_2, klp_3, klp_9, KC_0, KC_1, KC_2, KC_3, KC_4, ne_eq, not_false_eq_true, not_true_eq_false, true_and, and_true, and_self, implies_true, eq_self, true_imp_iff, false_implies, Int.reduceEq, Int.reduceNe, Int.reduceMod, Int.reduceMul, Int.reduceAdd, Int.reduceSub, Int.reduceLT, Int.reduceLE, Nat.reduceAdd, Nat.reduceLeDiff, Nat.reduceLT, Nat.reduceSub, reduceIte, wds_n, wds_0, wds_1, wds_2, wds_3, or_true, true_or, or_false, false_or, or_self, false_and, and_false, d_pos, d_s1, d_s2, d_s3, d_s4, d_s5, d_s6, d_s7, d_s8, Classical.not_not, le_T, le_F, lt_T, lt_F, w32_T]
    rw [show ((n.toNat : Nat) : Int) = n by omega]
theorem nrH_ne {h : HV} {t n o : Int} (h1 : o ≠ 10401) (h2 : o ≠ 10336) (h3 : o ≠ 10272) (h4 : o ≠ 6603) : nrH h t n o = h o := by
  unfold nrH
  rw [filR_ne h1, hs_ne h2, hs_ne h3, hs_ne h4]
theorem nrH_6603 {h : HV} {t n i : Int} : nrH h t n 6603 i = if i = 30 then h 6603 30 + 1 else h 6603 i := by
  unfold nrH
  rw [filR_ne (by decide), hs_ne (by decide), hs_ne (by decide), hset_v]
  by_cases e : i = 30
  · rw [if_pos ⟨rfl, e⟩, if_pos e]
  · rw [if_neg (fun w => e w.2), if_neg e]
theorem nrH_t {h : HV} {t n i : Int} : nrH h t n 10272 i = if i = h 6603 30 then t else h 10272 i := by
  unfold nrH
  rw [filR_ne (by decide), hs_ne (by decide), hset_v, hs_ne (by decide)]
  by_cases e : i = h 6603 30
  · rw [if_pos ⟨rfl, e⟩, if_pos e]
  · rw [if_neg (fun w => e w.2), if_neg e]
theorem nrH_z {h : HV} {t n i : Int} : nrH h t n 10336 i = if i = h 6603 30 then n else h 10336 i := by
  unfold nrH
  rw [filR_ne (by decide), hset_v, hs_ne (by decide), hs_ne (by decide)]
  by_cases e : i = h 6603 30
  · rw [if_pos ⟨rfl, e⟩, if_pos e]
  · rw [if_neg (fun w => e w.2), if_neg e]
theorem nrH_i {h : HV} {t n i : Int} : nrH h t n 10401 i = if 64 * h 6603 30 ≤ i ∧ i < 64 * h 6603 30 + n then (if 5 < t then -9 else 0) else h 10401 i := by
  unfold nrH
  rw [filR_v, hs_ne (by decide), hs_ne (by decide), hs_ne (by decide)]
  by_cases e : 64 * h 6603 30 ≤ i ∧ i < 64 * h 6603 30 + n
  · rw [if_pos ⟨rfl, e⟩, if_pos e]
  · rw [if_neg (fun w => e w.2), if_neg e]
/-- a row more on both sides: what holds of it, and what stays -/
def TWO (h h2 : HV) (n v t : Int) : Prop := RRw h2 ∧ h2 643 2 = h 643 2 + 1 ∧ h2 643 3 = h 643 3 + 1 ∧ rb h2 = rb h ∧ (∀ j, j < h 643 3 → h2 10272 j = h 10272 j) ∧ h2 10272 (h 643 3) = t ∧ (∀ r, 0 ≤ r → r < h 643 2 → rwZ h2 r = rwZ h r ∧ ∀ i, 0 ≤ i → i < rwZ h r → rwI h2 r i = rwI h r i) ∧ rwZ h2 (h 643 2) = n ∧ (∀ i, 0 ≤ i → i < n → rwI h2 (h 643 2) i = v) ∧
  (∀ o, o ≠ 643 → o ≠ h 643 0 → o ≠ h 643 1 → o ≠ 10401 → o ≠ 10336 → o ≠ 10272 → o ≠ 6603 → o < 64 * h 0 0 → o ≠ 0 → h2 o = h o) ∧ (∀ i, i ≠ 30 → h2 6603 i = h 6603 i) ∧ h 0 0 ≤ h2 0 0 ∧ 64 * (h2 0 0 - h 0 0) ≤ rm h2 - rm h ∧ h2 0 1 - h 0 1 ≤ 2 * (rm h2 - rm h) ∧ (h2 643 0 = h 643 0 ∨ 64 * h 0 0 ≤ h2 643 0) ∧ (h2 643 1 = h 643 1 ∨ 64 * h 0 0 ≤ h2 643 1)
theorem MK_two {h h1 : HV} {n v t : Int} (W : RRw h) (M : MK h h1 n v) (hv : v = if 5 < t then -9 else 0) (hm : h 643 3 < 6000) (hn : 0 ≤ n ∧ n ≤ 64) : TWO h (nrH h1 t n) n v t := by
  obtain ⟨R1, m1, m2, m3, m4, m5, m6, m7, m8, m9, m10, m11⟩ := M
  have R := W.1
  have S := R.st
  have I := R.it
  have S1 := R1.st
  have I1 := R1.it
  have s0 : 204 ≤ h 0 0 := R.1.2.2.2.2
  have a6603 : h1 6603 = h 6603 := m6 _ (by decide) (by omega) (by omega) (by omega) (by decide)
  have a10272 : h1 10272 = h 10272 := m6 _ (by decide) (by omega) (by omega) (by omega) (by decide)
  have a10336 : h1 10336 = h 10336 := m6 _ (by decide) (by omega) (by omega) (by omega) (by decide)
  have a10401 : h1 10401 = h 10401 := m6 _ (by decide) (by omega) (by omega) (by omega) (by decide)
  have e30 : h1 6603 30 = h 643 3 := by rw [a6603]; exact W.2.1
  have N : ∀ o, o ≠ 10401 → o ≠ 10336 → o ≠ 10272 → o ≠ 6603 → nrH h1 t n o = h1 o := fun o q1 q2 q3 q4 => nrH_ne q1 q2 q3 q4
  have e643 : nrH h1 t n 643 = h1 643 := N _ (by decide) (by decide) (by decide) (by decide)
  have e0 : nrH h1 t n 0 = h1 0 := N _ (by decide) (by decide) (by decide) (by decide)
  have eS : nrH h1 t n (h1 643 0) = h1 (h1 643 0) := N _ (by omega) (by omega) (by omega) (by omega)
  have eI : nrH h1 t n (h1 643 1) = h1 (h1 643 1) := N _ (by omega) (by omega) (by omega) (by omega)
  have eZ : ∀ s, rwZ (nrH h1 t n) s = rwZ h1 s := fun s => by unfold rwZ; rw [e643, eS]
  have eJ : ∀ s j, rwI (nrH h1 t n) s j = rwI h1 s j := fun s j => by unfold rwI; rw [e643, eS, eI]
  have eb : rb (nrH h1 t n) = rb h := by unfold rb; rw [e643, m1, m2]; omega
  have em : rm (nrH h1 t n) = rm h1 := by unfold rm; rw [e643, eS, eI]
  have bb : ∀ j, j + rb h = h 643 3 ↔ j = h 643 2 := fun j => by unfold rb; omega
  refine ⟨⟨?_, ?_, ?_⟩, ?_, ?_, eb, ?_, ?_, ?_, ?_, ?_, ?_, ?_, ?_, ?_, ?_, ?_, ?_⟩
  · exact RW_eq R1 e0 e643 eS eI
  · rw [nrH_6603, if_pos rfl, e643, m2, e30]
  · rw [e643, m1, eb]
    intro j j0 j1
    rw [nrH_z, e30, eZ]
    by_cases e : j = h 643 2
    · rw [if_pos ((bb j).2 e)]
      subst e
      refine ⟨m4.symm, fun i i0 i1 => ?_⟩
      rw [m4] at i1
      rw [nrH_i, e30, (bb _).2 rfl, if_pos (by omega), eJ, m5 i i0 i1, hv]
    · rw [if_neg (fun w => e ((bb j).1 w)), a10336, (m3 j j0 (by omega)).1]
      obtain ⟨w1, w2⟩ := W.2.2 j j0 (by omega)
      refine ⟨w1, fun i i0 i1 => ?_⟩
      have z := (R.z j0 (by omega : j < h 643 2)).2
      have q : j + rb h < h 643 3 := by unfold rb; omega
      rw [nrH_i, e30, if_neg (by omega), eJ, a10401, (m3 j j0 (by omega)).2 i i0 i1]
      exact w2 i i0 i1
  · rw [e643, m1]
  · rw [e643, m2]
  · intro j hj
    rw [nrH_t, e30, if_neg (by omega), a10272]
  · rw [nrH_t, e30, if_pos rfl]
  · intro r r0 r1
    obtain ⟨w1, w2⟩ := m3 r r0 r1
    refine ⟨by rw [eZ, w1], fun i i0 i1 => by rw [eJ, w2 i i0 i1]⟩
  · rw [eZ, m4]
  · intro i i0 i1
    rw [eJ, m5 i i0 i1]
  · intro o o1 o2 o3 o4 o5 o6 o7 o8 o9
    rw [N o o4 o5 o6 o7, m6 o o1 o2 o3 o8 o9]
  · intro i hi
    rw [nrH_6603, if_neg hi, a6603]
  · rw [e0]; exact m7
  · rw [e0, em]; exact m8
  · rw [e0, em]; exact m9
  · rw [e643]; exact m10
  · rw [e643]; exact m11
