/-! THE PURE SIDE, 39: a new row on both sides, and the marks of a pupil: printed by wip/tools/gen58.py -/
/-- a row of the reference -/
def nrH (h : HV) (t n : Int) : HV := filR (hset (hset (hset h 6603 30 (h 6603 30 + 1)) 10272 (h 6603 30) t) 10336 (h 6603 30) n) 10401 (64 * h 6603 30) n (if 5 < t then -9 else 0)
theorem s377 {d : Nat} {h : HV} {Q : Int → HV → Prop} {t n : Int} (hr : 0 ≤ h 6603 30 ∧ h 6603 30 < 6000) (hn : 0 ≤ n ∧ n ≤ 64) : Sp fz1 d 377 [(3, 6603), (0, t), (0, n)] h Q = Q (h 6603 30) (nrH h t n) := by
  refine Sp_is ?_ Q
  unfold nrH
  generalize hc4 : h 6603 30 = r at *
  simp (implicitDefEqProofs := false) (disch := omega) only [sp377, b377_0, b377_1, b377_2, b377_3, b377_4, q377_2, q377_3, q377_4, x_aload0, x_bipush, x_dup0, x_dup3, x_gc_11515, x_gc_11523, x_gc_11531, x_gf_11504, x_goto_1, x_goto_3, x_iadd, x_iastore, x_iconst, x_if_icmp_ge_4, x_if_icmp_le_2, x_iinc4, x_iload1, x_iload2, x_iload3, x_iload4, x_imul, x_ireturn, x_istore3, x_istore4, x_lastore, x_pf_11504, klp_0, klp_1, klp_2, klp_3, klp_9, KC_0, KC_1, KC_2, KC_3, KC_4, ne_eq, not_false_eq_true, not_true_eq_false, true_and, and_true, and_self, implies_true, eq_self, true_imp_iff, false_implies, Int.reduceEq, Int.reduceNe, Int.reduceMod, Int.reduceMul, Int.reduceAdd, Int.reduceSub, Int.reduceLT, Int.reduceLE, Nat.reduceAdd, Nat.reduceLeDiff, Nat.reduceLT, Nat.reduceSub, reduceIte, wds_n, wds_0, wds_1, wds_2, wds_3, or_true, true_or, or_false, false_or, or_self, false_and, and_false, d_pos, d_s1, d_s2, d_s3, d_s4, d_s5, d_s6, d_s7, d_s8, Classical.not_not, z6603_31, z6603_32, z10272_l, z10336_l, hset_v, hc4, le_T, le_F, lt_T, lt_F, w32_T]
  generalize (hset (hset (hset h 6603 30 (r + 1)) 10272 r t) 10336 r n) = H
  refine forG (N := n.toNat) (I := fun j ls h' => ls = [(3, 6603), (0, t), (0, n), (0, r), (0, (j : Int))] ∧ h' = filR H 10401 (64 * r) j (if 5 < t then -9 else 0)) ?_ ?_ (j := 0) (Nat.zero_le _) ⟨rfl, (filR_0 _ _ _ _).symm⟩
  · rintro j ls h' hj ⟨rfl, rfl⟩ nx
    have b1 : (j : Int) < n := by omega
    refine G_in ?_
    by_cases ht : 5 < t
    · rw [if_pos ht] at *
      simp (implicitDefEqProofs := false) (disch := omega) only [b377_1, b377_2, b377_3, q377_2, q377_3, x_aload0, x_bipush, x_gc_11531, x_goto_1, x_goto_3, x_iadd, x_iconst, x_if_icmp_ge_4, x_if_icmp_le_2, x_iinc4, x_iload1, x_iload2, x_iload3, x_iload4, x_imul, x_lastore, klp_0, klp_1, klp_2, klp_3, klp_9, KC_0, KC_1, KC_2, KC_3, KC_4, ne_eq, not_false_eq_true, not_true_eq_false, true_and, and_true, and_self, implies_true, eq_self, true_imp_iff, false_implies, Int.reduceEq, Int.reduceNe, Int.reduceMod, Int.reduceMul, Int.reduceAdd, Int.reduceSub, Int.reduceLT, Int.reduceLE, Nat.reduceAdd, Nat.reduceLeDiff, Nat.reduceLT, Nat.reduceSub, reduceIte, wds_n, wds_0, wds_1, wds_2, wds_3, or_true, true_or, or_false, false_or, or_self, false_and, and_false, d_pos, d_s1, d_s2, d_s3, d_s4, d_s5, d_s6, d_s7, d_s8, Classical.not_not, z6603_33, z10401_l, le_T, le_F, lt_T, lt_F, w32_T]
      exact nx _ _ ⟨rfl, filR_s _ (by omega)⟩
    · rw [if_neg ht] at *
      simp (implicitDefEqProofs := false) (disch := omega) only [b377_1, b377_2, b377_3, q377_2, q377_3, x_aload0, x_bipush, x_gc_11531, x_goto_1, x_goto_3, x_iadd, x_iconst, x_if_icmp_ge_4, x_if_icmp_le_2, x_iinc4, x_iload1, x_iload2, x_iload3, x_iload4, x_imul, x_lastore, klp_0, klp_1, klp_2, klp_3, klp_9, KC_0, KC_1, KC_2, KC_3, KC_4, ne_eq, not_false_eq_true, not_true_eq_false, true_and, and_true, and_self, implies_true, eq_self, true_imp_iff, false_implies, Int.reduceEq, Int.reduceNe, Int.reduceMod, Int.reduceMul, Int.reduceAdd, Int.reduceSub, Int.reduceLT, Int.reduceLE, Nat.reduceAdd, Nat.reduceLeDiff, Nat.reduceLT, Nat.reduceSub, reduceIte, wds_n, wds_0, wds_1, wds_2, wds_3, or_true, true_or, or_false, false_or, or_self, false_and, and_false, d_pos, d_s1, d_s2, d_s3, d_s4, d_s5, d_s6, d_s7, d_s8, Classical.not_not, z6603_33, z10401_l, le_T, le_F, lt_T, lt_F, w32_T]
      exact nx _ _ ⟨rfl, filR_s _ (by omega)⟩
  · rintro ls h' ⟨rfl, rfl⟩
    refine G_in ?_
    simp (implicitDefEqProofs := false) (disch := omega) only [b377_1, b377_4, q377_4, x_aload0, x_bipush, x_gc_11531, x_goto_3, x_iadd, x_iconst, x_if_icmp_ge_4, x_if_icmp_le_2, x_iload1, x_iload2, x_iload3, x_iload4, x_imul, x_ireturn, klp_0, klp_1, klp_2, klp_3, klp_9, KC_0, KC_1, KC_2, KC_3, KC_4, ne_eq, not_false_eq_true, not_true_eq_false, true_and, and_true, and_self, implies_true, eq_self, true_imp_iff, false_implies, Int.reduceEq, Int.reduceNe, Int.reduceMod, Int.reduceMul, Int.reduceAdd, Int.reduceSub, Int.reduceLT, Int.reduceLE, Nat.reduceAdd, Nat.reduceLeDiff, Nat.reduceLT, Nat.reduceSub, reduceIte, wds_n, wds_0, wds_1, wds_2, wds_3, or_true, true_or, or_false, false_or, or_self, false_and, and_false, d_pos, d_s1, d_s2, d_s3, d_s4, d_s5, d_s6, d_s7, d_s8, Classical.not_not, le_T, le_F, lt_T, lt_F, w32_T]
    rw [show ((n.toNat : Nat) : Int) = n by omega]
theorem nrH_ne {h : HV} {t n o : Int} (h1 : o ≠ 10401) (h2 : o ≠ 10336) (h3 : o ≠ 10272) (h4 : o ≠ 6603) : nrH h t n o = h o := by
  unfold nrH
  rw [filR_ne h1, hs_ne h2, hs_ne h3, hs_ne h4]
theorem nrH_6603 {h : HV} {t n i : Int} : nrH h t n 6603 i = if i = 30 then h 6603 30 + 1 else h 6603 i := by
  unfold nrH
  rw [filR_ne (by decide), hs_ne (by decide), hs_ne (by decide), hset_v]
  by_cases e : i = 30
  · rw [if_pos ⟨rfl, e⟩, if_pos e]
  · rw [if_neg (fun w => e w.2), if_neg e]
theorem nrH_t {h : HV} {t n i : Int} : nrH h t n 10272 i = if i = h 6603 30 then t else h 10272 i := by
  unfold nrH
  rw [filR_ne (by decide), hs_ne (by decide), hset_v, hs_ne (by decide)]
  by_cases e : i = h 6603 30
  · rw [if_pos ⟨rfl, e⟩, if_pos e]
  · rw [if_neg (fun w => e w.2), if_neg e]
theorem nrH_z {h : HV} {t n i : Int} : nrH h t n 10336 i = if i = h 6603 30 then n else h 10336 i := by
  unfold nrH
  rw [filR_ne (by decide), hset_v, hs_ne (by decide), hs_ne (by decide)]
  by_cases e : i = h 6603 30
  · rw [if_pos ⟨rfl, e⟩, if_pos e]
  · rw [if_neg (fun w => e w.2), if_neg e]
theorem nrH_i {h : HV} {t n i : Int} : nrH h t n 10401 i = if 64 * h 6603 30 ≤ i ∧ i < 64 * h 6603 30 + n then (if 5 < t then -9 else 0) else h 10401 i := by
  unfold nrH
  rw [filR_v, hs_ne (by decide), hs_ne (by decide), hs_ne (by decide)]
  by_cases e : 64 * h 6603 30 ≤ i ∧ i < 64 * h 6603 30 + n
  · rw [if_pos ⟨rfl, e⟩, if_pos e]
  · rw [if_neg (fun w => e w.2), if_neg e]
/-- a row more on both sides: what holds of it, and what stays -/
def TWO (h h2 : HV) (n v t : Int) : Prop := RRw h2 ∧ h2 643 2 = h 643 2 + 1 ∧ h2 643 3 = h 643 3 + 1 ∧ rb h2 = rb h ∧ (∀ j, j < h 643 3 → h2 10272 j = h 10272 j) ∧ h2 10272 (h 643 3) = t ∧ (∀ r, 0 ≤ r → r < h 643 2 → rwZ h2 r = rwZ h r ∧ ∀ i, 0 ≤ i → i < rwZ h r → rwI h2 r i = rwI h r i) ∧ rwZ h2 (h 643 2) = n ∧ (∀ i, 0 ≤ i → i < n → rwI h2 (h 643 2) i = v) ∧
  (∀ o, o ≠ 643 → o ≠ h 643 0 → o ≠ h 643 1 → o ≠ 10401 → o ≠ 10336 → o ≠ 10272 → o ≠ 6603 → o < 64 * h 0 0 → o ≠ 0 → h2 o = h o) ∧ (∀ i, i ≠ 30 → h2 6603 i = h 6603 i) ∧ h 0 0 ≤ h2 0 0 ∧ 64 * (h2 0 0 - h 0 0) ≤ rm h2 - rm h ∧ h2 0 1 - h 0 1 ≤ 2 * (rm h2 - rm h) ∧ (h2 643 0 = h 643 0 ∨ 64 * h 0 0 ≤ h2 643 0) ∧ (h2 643 1 = h 643 1 ∨ 64 * h 0 0 ≤ h2 643 1)
theorem MK_two {h h1 : HV} {n v t : Int} (W : RRw h) (M : MK h h1 n v) (hv : v = if 5 < t then -9 else 0) (hm : h 643 3 < 6000) (hn : 0 ≤ n ∧ n ≤ 64) : TWO h (nrH h1 t n) n v t := by
  obtain ⟨R1, m1, m2, m3, m4, m5, m6, m7, m8, m9, m10, m11⟩ := M
  have R := W.1
  have S := R.st
  have I := R.it
  have S1 := R1.st
  have I1 := R1.it
  have s0 : 204 ≤ h 0 0 := R.1.2.2.2.2
  have a6603 : h1 6603 = h 6603 := m6 _ (by decide) (by omega) (by omega) (by omega) (by decide)
  have a10272 : h1 10272 = h 10272 := m6 _ (by decide) (by omega) (by omega) (by omega) (by decide)
  have a10336 : h1 10336 = h 10336 := m6 _ (by decide) (by omega) (by omega) (by omega) (by decide)
  have a10401 : h1 10401 = h 10401 := m6 _ (by decide) (by omega) (by omega) (by omega) (by decide)
  have e30 : h1 6603 30 = h 643 3 := by rw [a6603]; exact W.2.1
  have N : ∀ o, o ≠ 10401 → o ≠ 10336 → o ≠ 10272 → o ≠ 6603 → nrH h1 t n o = h1 o := fun o q1 q2 q3 q4 => nrH_ne q1 q2 q3 q4
  have e643 : nrH h1 t n 643 = h1 643 := N _ (by decide) (by decide) (by decide) (by decide)
  have e0 : nrH h1 t n 0 = h1 0 := N _ (by decide) (by decide) (by decide) (by decide)
  have eS : nrH h1 t n (h1 643 0) = h1 (h1 643 0) := N _ (by omega) (by omega) (by omega) (by omega)
  have eI : nrH h1 t n (h1 643 1) = h1 (h1 643 1) := N _ (by omega) (by omega) (by omega) (by omega)
  have eZ : ∀ s, rwZ (nrH h1 t n) s = rwZ h1 s := fun s => by unfold rwZ; rw [e643, eS]
  have eJ : ∀ s j, rwI (nrH h1 t n) s j = rwI h1 s j := fun s j => by unfold rwI; rw [e643, eS, eI]
  have eb : rb (nrH h1 t n) = rb h := by unfold rb; rw [e643, m1, m2]; omega
  have em : rm (nrH h1 t n) = rm h1 := by unfold rm; rw [e643, eS, eI]
  have bb : ∀ j, j + rb h = h 643 3 ↔ j = h 643 2 := fun j => by unfold rb; omega
  refine ⟨⟨?_, ?_, ?_⟩, ?_, ?_, eb, ?_, ?_, ?_, ?_, ?_, ?_, ?_, ?_, ?_, ?_, ?_, ?_⟩
  · exact RW_eq R1 e0 e643 eS eI
  · rw [nrH_6603, if_pos rfl, e643, m2, e30]
  · rw [e643, m1, eb]
    intro j j0 j1
    rw [nrH_z, e30, eZ]
    by_cases e : j = h 643 2
    · rw [if_pos ((bb j).2 e)]
      subst e
      refine ⟨m4.symm, fun i i0 i1 => ?_⟩
      rw [m4] at i1
      rw [nrH_i, e30, (bb _).2 rfl, if_pos (by omega), eJ, m5 i i0 i1, hv]
    · rw [if_neg (fun w => e ((bb j).1 w)), a10336, (m3 j j0 (by omega)).1]
      obtain ⟨w1, w2⟩ := W.2.2 j j0 (by omega)
      refine ⟨w1, fun i i0 i1 => ?_⟩
      have z := (R.z j0 (by omega : j < h 643 2)).2
      have q : j + rb h < h 643 3 := by unfold rb; omega
      rw [nrH_i, e30, if_neg (by omega), eJ, a10401, (m3 j j0 (by omega)).2 i i0 i1]
      exact w2 i i0 i1
  · rw [e643, m1]
  · rw [e643, m2]
  · intro j hj
    rw [nrH_t, e30, if_neg (by omega), a10272]
  · rw [nrH_t, e30, if_pos rfl]
  · intro r r0 r1
    obtain ⟨w1, w2⟩ := m3 r r0 r1
    refine ⟨by rw [eZ, w1], fun i i0 i1 => by rw [eJ, w2 i i0 i1]⟩
  · rw [eZ, m4]
  · intro i i0 i1
    rw [eJ, m5 i i0 i1]
  · intro o o1 o2 o3 o4 o5 o6 o7 o8 o9
    rw [N o o4 o5 o6 o7, m6 o o1 o2 o3 o8 o9]
  · intro i hi
    rw [nrH_6603, if_neg hi, a6603]
  · rw [e0]; exact m7
  · rw [e0, em]; exact m8
  · rw [e0, em]; exact m9
  · rw [e643]; exact m10
  · rw [e643]; exact m11
theorem s151g {d : Nat} {h : HV} {Q : Int → HV → Prop} {p c n : Int} (hT : TC (h 64 8)) (h24 : h 836 4 ≤ 24) (hg : ¬ ((0 ≤ p ∧ p < h 836 4) ∧ 0 ≤ c ∧ c < h (h 64 8 + 598) 5)) : Sp fz1 (d + 3) 151 [(3, 64), (0, p), (0, c), (0, n)] h Q = Q (-1) h := by
  simp (implicitDefEqProofs := false) (disch := omega) only [sp151, b151_0, b151_1, b151_2, b151_3, b151_4, q151_1, q151_2, q151_3, q151_4, x_aload0, x_bipush, y_call138, y_call152, y_call153, y_call156, x_gc_19, x_gc_27, x_goto_1, x_iconst, x_ifCond_eq_1, x_ifCond_ge_4, x_ifCond_lt_4, x_ifCond_ne_3, x_if_icmp_le_2, x_if_icmp_lt_1, x_iload1, x_iload2, x_iload3, x_iload4, x_ireturn, x_istore4, klp_0, klp_1, klp_2, klp_3, klp_9, KC_0, KC_1, KC_2, KC_3, KC_4, ne_eq, not_false_eq_true, not_true_eq_false, true_and, and_true, and_self, implies_true, eq_self, true_imp_iff, false_implies, Int.reduceEq, Int.reduceNe, Int.reduceMod, Int.reduceMul, Int.reduceAdd, Int.reduceSub, Int.reduceLT, Int.reduceLE, Nat.reduceAdd, Nat.reduceLeDiff, Nat.reduceLT, Nat.reduceSub, reduceIte, wds_n, wds_0, wds_1, wds_2, wds_3, or_true, true_or, or_false, false_or, or_self, false_and, and_false, d_pos, d_s1, d_s2, d_s3, d_s4, d_s5, d_s6, d_s7, d_s8, Classical.not_not, z64_2, z64_3, s152 hT, hg, le_sub1, le_T, le_F, lt_T, lt_F, eq_F, w32_T, bz0, bz1, lc_le, lc_ge, lc_lt, lc_gt, lc_eq] <;> first | rfl | (rw [if_pos (by omega)] <;> rfl) | (rw [if_neg (by omega)] <;> rfl) | (exfalso; omega)
theorem s151n {d : Nat} {h : HV} {Q : Int → HV → Prop} {p c n : Int} (hT : TC (h 64 8)) (h24 : h 836 4 ≤ 24) (hg : ((0 ≤ p ∧ p < h 836 4) ∧ 0 ≤ c ∧ c < h (h 64 8 + 598) 5)) (hn : ¬ (-1 ≤ n ∧ n ≤ 64)) : Sp fz1 (d + 3) 151 [(3, 64), (0, p), (0, c), (0, n)] h Q = Q (-1) h := by
  by_cases a1 : n < -1 <;> by_cases a2 : n ≤ 64 <;> (try (exfalso; omega)) <;> simp (implicitDefEqProofs := false) (disch := omega) only [sp151, b151_0, b151_1, b151_2, b151_3, b151_4, q151_1, q151_3, q151_4, x_aload0, x_bipush, y_call138, y_call152, y_call153, y_call156, x_gc_19, x_gc_27, x_goto_1, x_iconst, x_ifCond_eq_1, x_ifCond_ge_4, x_ifCond_lt_4, x_ifCond_ne_3, x_if_icmp_le_2, x_if_icmp_lt_1, x_iload1, x_iload2, x_iload3, x_iload4, x_ireturn, x_istore4, klp_0, klp_1, klp_2, klp_3, klp_9, KC_0, KC_1, KC_2, KC_3, KC_4, ne_eq, not_false_eq_true, not_true_eq_false, true_and, and_true, and_self, implies_true, eq_self, true_imp_iff, false_implies, Int.reduceEq, Int.reduceNe, Int.reduceMod, Int.reduceMul, Int.reduceAdd, Int.reduceSub, Int.reduceLT, Int.reduceLE, Nat.reduceAdd, Nat.reduceLeDiff, Nat.reduceLT, Nat.reduceSub, reduceIte, wds_n, wds_0, wds_1, wds_2, wds_3, or_true, true_or, or_false, false_or, or_self, false_and, and_false, d_pos, d_s1, d_s2, d_s3, d_s4, d_s5, d_s6, d_s7, d_s8, Classical.not_not, z64_2, z64_3, s152 hT, if_pos hg, a1, a2, le_sub1, le_T, le_F, lt_T, lt_F, eq_F, w32_T, bz0, bz1, lc_le, lc_ge, lc_lt, lc_gt, lc_eq] <;> first | rfl | (rw [if_pos (by omega)] <;> rfl) | (rw [if_neg (by omega)] <;> rfl) | (exfalso; omega)
theorem s151k {d : Nat} {h : HV} {Q : Int → HV → Prop} {p c n : Int} (hT : TC (h 64 8)) (h24 : h 836 4 ≤ 24) (hg : ((0 ≤ p ∧ p < h 836 4) ∧ 0 ≤ c ∧ c < h (h 64 8 + 598) 5)) (hp : 0 ≤ p ∧ p < h 836 4) (hc : 0 ≤ c ∧ c < 8) (hn : -1 ≤ n ∧ n ≤ 64) (hk : ¬ h 928 p = 0) : Sp fz1 (d + 3) 151 [(3, 64), (0, p), (0, c), (0, n)] h Q = Q (-2) h := by
  simp (implicitDefEqProofs := false) (disch := omega) only [sp151, b151_0, b151_1, b151_2, b151_3, b151_4, q151_1, q151_2, q151_3, q151_4, x_aload0, x_bipush, y_call138, y_call152, y_call153, y_call156, x_gc_19, x_gc_27, x_goto_1, x_iconst, x_ifCond_eq_1, x_ifCond_ge_4, x_ifCond_lt_4, x_ifCond_ne_3, x_if_icmp_le_2, x_if_icmp_lt_1, x_iload1, x_iload2, x_iload3, x_iload4, x_ireturn, x_istore4, klp_0, klp_1, klp_2, klp_3, klp_9, KC_0, KC_1, KC_2, KC_3, KC_4, ne_eq, not_false_eq_true, not_true_eq_false, true_and, and_true, and_self, implies_true, eq_self, true_imp_iff, false_implies, Int.reduceEq, Int.reduceNe, Int.reduceMod, Int.reduceMul, Int.reduceAdd, Int.reduceSub, Int.reduceLT, Int.reduceLE, Nat.reduceAdd, Nat.reduceLeDiff, Nat.reduceLT, Nat.reduceSub, reduceIte, wds_n, wds_0, wds_1, wds_2, wds_3, or_true, true_or, or_false, false_or, or_self, false_and, and_false, d_pos, d_s1, d_s2, d_s3, d_s4, d_s5, d_s6, d_s7, d_s8, Classical.not_not, z64_2, z64_3, s152 hT, if_pos hg, s138 h24, eq_true hp.1, eq_true hp.2, hk, le_sub1, le_T, le_F, lt_T, lt_F, eq_F, w32_T, bz0, bz1, lc_le, lc_ge, lc_lt, lc_gt, lc_eq] <;> first | rfl | (rw [if_pos (by omega)] <;> rfl) | (rw [if_neg (by omega)] <;> rfl) | (exfalso; omega)
theorem s151m {d : Nat} {h : HV} {Q : Int → HV → Prop} {p c : Int} (hT : TC (h 64 8)) (h24 : h 836 4 ≤ 24) (hg : ((0 ≤ p ∧ p < h 836 4) ∧ 0 ≤ c ∧ c < h (h 64 8 + 598) 5)) (hp : 0 ≤ p ∧ p < h 836 4) (hc : 0 ≤ c ∧ c < 8) (hk : h 928 p = 0) : Sp fz1 (d + 3) 151 [(3, 64), (0, p), (0, c), (0, -1)] h Q = Q (0) (hset h 1120 (p * 8 + c) (-1)) := by
  simp (implicitDefEqProofs := false) (disch := omega) only [sp151, b151_0, b151_1, b151_2, b151_3, b151_4, q151_1, q151_2, q151_3, q151_4, x_aload0, x_bipush, y_call138, y_call152, y_call153, y_call156, x_gc_19, x_gc_27, x_goto_1, x_iconst, x_ifCond_eq_1, x_ifCond_ge_4, x_ifCond_lt_4, x_ifCond_ne_3, x_if_icmp_le_2, x_if_icmp_lt_1, x_iload1, x_iload2, x_iload3, x_iload4, x_ireturn, x_istore4, klp_0, klp_1, klp_2, klp_3, klp_9, KC_0, KC_1, KC_2, KC_3, KC_4, ne_eq, not_false_eq_true, not_true_eq_false, true_and, and_true, and_self, implies_true, eq_self, true_imp_iff, false_implies, Int.reduceEq, Int.reduceNe, Int.reduceMod, Int.reduceMul, Int.reduceAdd, Int.reduceSub, Int.reduceLT, Int.reduceLE, Nat.reduceAdd, Nat.reduceLeDiff, Nat.reduceLT, Nat.reduceSub, reduceIte, wds_n, wds_0, wds_1, wds_2, wds_3, or_true, true_or, or_false, false_or, or_self, false_and, and_false, d_pos, d_s1, d_s2, d_s3, d_s4, d_s5, d_s6, d_s7, d_s8, Classical.not_not, z64_2, z64_3, s152 hT, if_pos hg, s138 h24, eq_true hp.1, eq_true hp.2, eq_true hk, s156 h24 hp hc, le_sub1, le_T, le_F, lt_T, lt_F, eq_F, w32_T, bz0, bz1, lc_le, lc_ge, lc_lt, lc_gt, lc_eq] <;> first | rfl | (rw [if_pos (by omega)] <;> rfl) | (rw [if_neg (by omega)] <;> rfl) | (exfalso; omega)
theorem s151f {d : Nat} {h : HV} {Q : Int → HV → Prop} {p c n : Int} (hT : TC (h 64 8)) (h24 : h 836 4 ≤ 24) (hg : ((0 ≤ p ∧ p < h 836 4) ∧ 0 ≤ c ∧ c < h (h 64 8 + 598) 5)) (hp : 0 ≤ p ∧ p < h 836 4) (hc : 0 ≤ c ∧ c < 8) (hn : -1 ≤ n ∧ n ≤ 64) (hk : h 928 p = 0) (h0 : 0 ≤ n) (hf : 6000 ≤ h 643 3 ∨ n < 0 ∨ 64 < n) : Sp fz1 (d + 3) 151 [(3, 64), (0, p), (0, c), (0, n)] h Q = Q (-3) h := by
  simp (implicitDefEqProofs := false) (disch := omega) only [sp151, b151_0, b151_1, b151_2, b151_3, b151_4, q151_1, q151_2, q151_3, q151_4, x_aload0, x_bipush, y_call138, y_call152, y_call153, y_call156, x_gc_19, x_gc_27, x_goto_1, x_iconst, x_ifCond_eq_1, x_ifCond_ge_4, x_ifCond_lt_4, x_ifCond_ne_3, x_if_icmp_le_2, x_if_icmp_lt_1, x_iload1, x_iload2, x_iload3, x_iload4, x_ireturn, x_istore4, klp_0, klp_1, klp_2, klp_3, klp_9, KC_0, KC_1, KC_2, KC_3, KC_4, ne_eq, not_false_eq_true, not_true_eq_false, true_and, and_true, and_self, implies_true, eq_self, true_imp_iff, false_implies, Int.reduceEq, Int.reduceNe, Int.reduceMod, Int.reduceMul, Int.reduceAdd, Int.reduceSub, Int.reduceLT, Int.reduceLE, Nat.reduceAdd, Nat.reduceLeDiff, Nat.reduceLT, Nat.reduceSub, reduceIte, wds_n, wds_0, wds_1, wds_2, wds_3, or_true, true_or, or_false, false_or, or_self, false_and, and_false, d_pos, d_s1, d_s2, d_s3, d_s4, d_s5, d_s6, d_s7, d_s8, Classical.not_not, z64_2, z64_3, s152 hT, if_pos hg, s138 h24, eq_true hp.1, eq_true hp.2, eq_true hk, s153f hf, le_sub1, le_T, le_F, lt_T, lt_F, eq_F, w32_T, bz0, bz1, lc_le, lc_ge, lc_lt, lc_gt, lc_eq] <;> first | rfl | (rw [if_pos (by omega)] <;> rfl) | (rw [if_neg (by omega)] <;> rfl) | (exfalso; omega)
theorem s151a {d : Nat} {h : HV} {Q : Int → HV → Prop} {p c n : Int} (hT : TC (h 64 8)) (h24 : h 836 4 ≤ 24) (hg : ((0 ≤ p ∧ p < h 836 4) ∧ 0 ≤ c ∧ c < h (h 64 8 + 598) 5)) (hp : 0 ≤ p ∧ p < h 836 4) (hc : 0 ≤ c ∧ c < 8) (hn : -1 ≤ n ∧ n ≤ 64) (hk : h 928 p = 0) (h0 : 0 ≤ n) (R : RW h) (hm : h 643 3 < 6000) (hQ : ∀ h1, MK h h1 n 0 → Q 0 (hset h1 1120 (p * 8 + c) (h 643 2))) : Sp fz1 (d + 3) 151 [(3, 64), (0, p), (0, c), (0, n)] h Q := by
  have b2 : 0 ≤ h 643 2 := R.2.2.1.1
  have b3 := R.2.2.1
  have S := R.st
  have I := R.it
  have s0 : 204 ≤ h 0 0 := R.1.2.2.2.2
  simp (implicitDefEqProofs := false) (disch := omega) only [sp151, b151_0, b151_1, b151_2, b151_3, b151_4, q151_1, q151_2, q151_3, q151_4, x_aload0, x_bipush, y_call138, y_call152, y_call153, y_call156, x_gc_19, x_gc_27, x_goto_1, x_iconst, x_ifCond_eq_1, x_ifCond_ge_4, x_ifCond_lt_4, x_ifCond_ne_3, x_if_icmp_le_2, x_if_icmp_lt_1, x_iload1, x_iload2, x_iload3, x_iload4, x_ireturn, x_istore4, klp_0, klp_1, klp_2, klp_3, klp_9, KC_0, KC_1, KC_2, KC_3, KC_4, ne_eq, not_false_eq_true, not_true_eq_false, true_and, and_true, and_self, implies_true, eq_self, true_imp_iff, false_implies, Int.reduceEq, Int.reduceNe, Int.reduceMod, Int.reduceMul, Int.reduceAdd, Int.reduceSub, Int.reduceLT, Int.reduceLE, Nat.reduceAdd, Nat.reduceLeDiff, Nat.reduceLT, Nat.reduceSub, reduceIte, wds_n, wds_0, wds_1, wds_2, wds_3, or_true, true_or, or_false, false_or, or_self, false_and, and_false, d_pos, d_s1, d_s2, d_s3, d_s4, d_s5, d_s6, d_s7, d_s8, Classical.not_not, z64_2, z64_3, s152 hT, if_pos hg, s138 h24, eq_true hp.1, eq_true hp.2, eq_true hk, le_T, le_F, lt_T, lt_F, w32_T]
  refine s153 R ⟨h0, hn.2⟩ hm (fun h1 M => ?_)
  have e836 : h1 836 = h 836 := M.2.2.2.2.2.2.1 _ (by decide) (by omega) (by omega) (by omega) (by decide)
  have q1 : h1 836 4 ≤ 24 := by rw [e836]; exact h24
  have q2 : 0 ≤ p ∧ p < h1 836 4 := by rw [e836]; exact hp
  simp (implicitDefEqProofs := false) (disch := omega) only [b151_3, b151_4, q151_3, q151_4, x_aload0, x_bipush, y_call153, y_call156, x_gc_19, x_gc_27, x_iconst, x_ifCond_ge_4, x_ifCond_lt_4, x_iload1, x_iload2, x_iload3, x_iload4, x_ireturn, x_istore4, klp_0, klp_1, klp_2, klp_3, klp_9, KC_0, KC_1, KC_2, KC_3, KC_4, ne_eq, not_false_eq_true, not_true_eq_false, true_and, and_true, and_self, implies_true, eq_self, true_imp_iff, false_implies, Int.reduceEq, Int.reduceNe, Int.reduceMod, Int.reduceMul, Int.reduceAdd, Int.reduceSub, Int.reduceLT, Int.reduceLE, Nat.reduceAdd, Nat.reduceLeDiff, Nat.reduceLT, Nat.reduceSub, reduceIte, wds_n, wds_0, wds_1, wds_2, wds_3, or_true, true_or, or_false, false_or, or_self, false_and, and_false, d_pos, d_s1, d_s2, d_s3, d_s4, d_s5, d_s6, d_s7, d_s8, Classical.not_not, z64_3, s156 q1 q2 hc, le_T, le_F, lt_T, lt_F, w32_T]
  exact hQ h1 M
theorem s375g {d : Nat} {h : HV} {Q : Int → HV → Prop} {p c n : Int} (hS : TR (h 6603 9)) (hm : 0 ≤ h (h 6603 9 + 84) 5 ∧ h (h 6603 9 + 84) 5 ≤ 8) (hc : 0 ≤ h 6603 25 ∧ h 6603 25 ≤ 24) (hg : ¬ ((0 ≤ p ∧ p < h 6603 25) ∧ 0 ≤ c ∧ c < h (h 6603 9 + 84) 5)) : Sp fz1 (d + 2) 375 [(3, 6603), (0, p), (0, c), (0, n)] h Q = Q (-1) h := by
  by_cases a1 : 0 ≤ p ∧ p < h 6603 25 <;> by_cases a2 : 0 ≤ c ∧ c < h (h 6603 9 + 84) 5 <;> (try (exfalso; omega)) <;> simp (implicitDefEqProofs := false) (disch := omega) only [sp375, b375_0, b375_1, b375_2, b375_3, b375_4, b375_5, b375_6, q375_1, x_aload0, y_call369, y_call372, y_call376, y_call377, x_gc_11475, x_gc_11499, x_gf_11504, x_goto_1, x_goto_6, x_iadd, x_iaload, x_iastore, x_iconst, x_ifCond_eq_1, x_ifCond_eq_3, x_ifCond_ge_5, x_ifCond_lt_4, x_ifCond_ne_2, x_if_icmp_ne_4, x_iload1, x_iload2, x_iload3, x_imul, x_ireturn, klp_0, klp_1, klp_2, klp_3, klp_9, KC_0, KC_1, KC_2, KC_3, KC_4, ne_eq, not_false_eq_true, not_true_eq_false, true_and, and_true, and_self, implies_true, eq_self, true_imp_iff, false_implies, Int.reduceEq, Int.reduceNe, Int.reduceMod, Int.reduceMul, Int.reduceAdd, Int.reduceSub, Int.reduceLT, Int.reduceLE, Nat.reduceAdd, Nat.reduceLeDiff, Nat.reduceLT, Nat.reduceSub, reduceIte, wds_n, wds_0, wds_1, wds_2, wds_3, or_true, true_or, or_false, false_or, or_self, false_and, and_false, d_pos, d_s1, d_s2, d_s3, d_s4, d_s5, d_s6, d_s7, d_s8, Classical.not_not, z6603_26, z10016_l, z6603_29, z10208_l, s372 hc, s376 hS hm, s369, a1, a2, le_sub1, le_T, le_F, lt_T, lt_F, eq_F, w32_T, bz0, bz1, lc_le, lc_ge, lc_lt, lc_gt, lc_eq] <;> first | rfl | (rw [if_pos (by omega)] <;> rfl) | (rw [if_neg (by omega)] <;> rfl) | (exfalso; omega)
theorem s375n {d : Nat} {h : HV} {Q : Int → HV → Prop} {p c n : Int} (hS : TR (h 6603 9)) (hm : 0 ≤ h (h 6603 9 + 84) 5 ∧ h (h 6603 9 + 84) 5 ≤ 8) (hc : 0 ≤ h 6603 25 ∧ h 6603 25 ≤ 24) (hg : ((0 ≤ p ∧ p < h 6603 25) ∧ 0 ≤ c ∧ c < h (h 6603 9 + 84) 5)) (hn : ¬ (-1 ≤ n ∧ n ≤ 64)) : Sp fz1 (d + 2) 375 [(3, 6603), (0, p), (0, c), (0, n)] h Q = Q (-1) h := by
  simp (implicitDefEqProofs := false) (disch := omega) only [sp375, b375_0, b375_1, b375_2, b375_3, b375_4, b375_5, b375_6, q375_1, x_aload0, y_call369, y_call372, y_call376, y_call377, x_gc_11475, x_gc_11499, x_gf_11504, x_goto_1, x_goto_6, x_iadd, x_iaload, x_iastore, x_iconst, x_ifCond_eq_1, x_ifCond_eq_3, x_ifCond_ge_5, x_ifCond_lt_4, x_ifCond_ne_2, x_if_icmp_ne_4, x_iload1, x_iload2, x_iload3, x_imul, x_ireturn, klp_0, klp_1, klp_2, klp_3, klp_9, KC_0, KC_1, KC_2, KC_3, KC_4, ne_eq, not_false_eq_true, not_true_eq_false, true_and, and_true, and_self, implies_true, eq_self, true_imp_iff, false_implies, Int.reduceEq, Int.reduceNe, Int.reduceMod, Int.reduceMul, Int.reduceAdd, Int.reduceSub, Int.reduceLT, Int.reduceLE, Nat.reduceAdd, Nat.reduceLeDiff, Nat.reduceLT, Nat.reduceSub, reduceIte, wds_n, wds_0, wds_1, wds_2, wds_3, or_true, true_or, or_false, false_or, or_self, false_and, and_false, d_pos, d_s1, d_s2, d_s3, d_s4, d_s5, d_s6, d_s7, d_s8, Classical.not_not, z6603_26, z10016_l, z6603_29, z10208_l, s372 hc, s376 hS hm, s369, eq_true hg.1.1, eq_true hg.1.2, eq_true hg.2.1, eq_true hg.2.2, hn, le_sub1, le_T, le_F, lt_T, lt_F, eq_F, w32_T, bz0, bz1, lc_le, lc_ge, lc_lt, lc_gt, lc_eq] <;> first | rfl | (rw [if_pos (by omega)] <;> rfl) | (rw [if_neg (by omega)] <;> rfl) | (exfalso; omega)
theorem s375k {d : Nat} {h : HV} {Q : Int → HV → Prop} {p c n : Int} (hS : TR (h 6603 9)) (hm : 0 ≤ h (h 6603 9 + 84) 5 ∧ h (h 6603 9 + 84) 5 ≤ 8) (hc : 0 ≤ h 6603 25 ∧ h 6603 25 ≤ 24) (hg : ((0 ≤ p ∧ p < h 6603 25) ∧ 0 ≤ c ∧ c < h (h 6603 9 + 84) 5)) (hc8 : 0 ≤ c ∧ c < 8) (hn : -1 ≤ n ∧ n ≤ 64) (hk : ¬ h 10016 p = 0) : Sp fz1 (d + 2) 375 [(3, 6603), (0, p), (0, c), (0, n)] h Q = Q (-2) h := by
  simp (implicitDefEqProofs := false) (disch := omega) only [sp375, b375_0, b375_1, b375_2, b375_3, b375_4, b375_5, b375_6, q375_1, q375_2, x_aload0, y_call369, y_call372, y_call376, y_call377, x_gc_11475, x_gc_11499, x_gf_11504, x_goto_1, x_goto_6, x_iadd, x_iaload, x_iastore, x_iconst, x_ifCond_eq_1, x_ifCond_eq_3, x_ifCond_ge_5, x_ifCond_lt_4, x_ifCond_ne_2, x_if_icmp_ne_4, x_iload1, x_iload2, x_iload3, x_imul, x_ireturn, klp_0, klp_1, klp_2, klp_3, klp_9, KC_0, KC_1, KC_2, KC_3, KC_4, ne_eq, not_false_eq_true, not_true_eq_false, true_and, and_true, and_self, implies_true, eq_self, true_imp_iff, false_implies, Int.reduceEq, Int.reduceNe, Int.reduceMod, Int.reduceMul, Int.reduceAdd, Int.reduceSub, Int.reduceLT, Int.reduceLE, Nat.reduceAdd, Nat.reduceLeDiff, Nat.reduceLT, Nat.reduceSub, reduceIte, wds_n, wds_0, wds_1, wds_2, wds_3, or_true, true_or, or_false, false_or, or_self, false_and, and_false, d_pos, d_s1, d_s2, d_s3, d_s4, d_s5, d_s6, d_s7, d_s8, Classical.not_not, z6603_26, z10016_l, z6603_29, z10208_l, s372 hc, s376 hS hm, s369, eq_true hg.1.1, eq_true hg.1.2, eq_true hg.2.1, eq_true hg.2.2, eq_true hn.1, eq_true hn.2, hk, le_sub1, le_T, le_F, lt_T, lt_F, eq_F, w32_T, bz0, bz1, lc_le, lc_ge, lc_lt, lc_gt, lc_eq] <;> first | rfl | (rw [if_pos (by omega)] <;> rfl) | (rw [if_neg (by omega)] <;> rfl) | (exfalso; omega)
theorem s375m {d : Nat} {h : HV} {Q : Int → HV → Prop} {p c : Int} (hS : TR (h 6603 9)) (hm : 0 ≤ h (h 6603 9 + 84) 5 ∧ h (h 6603 9 + 84) 5 ≤ 8) (hc : 0 ≤ h 6603 25 ∧ h 6603 25 ≤ 24) (hg : ((0 ≤ p ∧ p < h 6603 25) ∧ 0 ≤ c ∧ c < h (h 6603 9 + 84) 5)) (hc8 : 0 ≤ c ∧ c < 8) (hk : h 10016 p = 0) : Sp fz1 (d + 2) 375 [(3, 6603), (0, p), (0, c), (0, -1)] h Q = Q (0) (hset h 10208 (8 * p + c) (-9)) := by
  simp (implicitDefEqProofs := false) (disch := omega) only [sp375, b375_0, b375_1, b375_2, b375_3, b375_4, b375_5, b375_6, q375_1, q375_2, q375_3, q375_4, q375_5, q375_6, x_aload0, y_call369, y_call372, y_call376, y_call377, x_gc_11475, x_gc_11499, x_gf_11504, x_goto_1, x_goto_6, x_iadd, x_iaload, x_iastore, x_iconst, x_ifCond_eq_1, x_ifCond_eq_3, x_ifCond_ge_5, x_ifCond_lt_4, x_ifCond_ne_2, x_if_icmp_ne_4, x_iload1, x_iload2, x_iload3, x_imul, x_ireturn, klp_0, klp_1, klp_2, klp_3, klp_9, KC_0, KC_1, KC_2, KC_3, KC_4, ne_eq, not_false_eq_true, not_true_eq_false, true_and, and_true, and_self, implies_true, eq_self, true_imp_iff, false_implies, Int.reduceEq, Int.reduceNe, Int.reduceMod, Int.reduceMul, Int.reduceAdd, Int.reduceSub, Int.reduceLT, Int.reduceLE, Nat.reduceAdd, Nat.reduceLeDiff, Nat.reduceLT, Nat.reduceSub, reduceIte, wds_n, wds_0, wds_1, wds_2, wds_3, or_true, true_or, or_false, false_or, or_self, false_and, and_false, d_pos, d_s1, d_s2, d_s3, d_s4, d_s5, d_s6, d_s7, d_s8, Classical.not_not, z6603_26, z10016_l, z6603_29, z10208_l, s372 hc, s376 hS hm, s369, eq_true hg.1.1, eq_true hg.1.2, eq_true hg.2.1, eq_true hg.2.2, eq_true hk, le_sub1, le_T, le_F, lt_T, lt_F, eq_F, w32_T, bz0, bz1, lc_le, lc_ge, lc_lt, lc_gt, lc_eq] <;> first | rfl | (rw [if_pos (by omega)] <;> rfl) | (rw [if_neg (by omega)] <;> rfl) | (exfalso; omega)
theorem s375f {d : Nat} {h : HV} {Q : Int → HV → Prop} {p c n : Int} (hS : TR (h 6603 9)) (hm : 0 ≤ h (h 6603 9 + 84) 5 ∧ h (h 6603 9 + 84) 5 ≤ 8) (hc : 0 ≤ h 6603 25 ∧ h 6603 25 ≤ 24) (hg : ((0 ≤ p ∧ p < h 6603 25) ∧ 0 ≤ c ∧ c < h (h 6603 9 + 84) 5)) (hc8 : 0 ≤ c ∧ c < 8) (hn : -1 ≤ n ∧ n ≤ 64) (hk : h 10016 p = 0) (h0 : 0 ≤ n) (hf : h 6603 30 = 6000) : Sp fz1 (d + 2) 375 [(3, 6603), (0, p), (0, c), (0, n)] h Q = Q (-3) h := by
  simp (implicitDefEqProofs := false) (disch := omega) only [sp375, b375_0, b375_1, b375_2, b375_3, b375_4, b375_5, b375_6, q375_1, q375_2, q375_3, q375_4, q375_5, q375_6, x_aload0, y_call369, y_call372, y_call376, y_call377, x_gc_11475, x_gc_11499, x_gf_11504, x_goto_1, x_goto_6, x_iadd, x_iaload, x_iastore, x_iconst, x_ifCond_eq_1, x_ifCond_eq_3, x_ifCond_ge_5, x_ifCond_lt_4, x_ifCond_ne_2, x_if_icmp_ne_4, x_iload1, x_iload2, x_iload3, x_imul, x_ireturn, klp_0, klp_1, klp_2, klp_3, klp_9, KC_0, KC_1, KC_2, KC_3, KC_4, ne_eq, not_false_eq_true, not_true_eq_false, true_and, and_true, and_self, implies_true, eq_self, true_imp_iff, false_implies, Int.reduceEq, Int.reduceNe, Int.reduceMod, Int.reduceMul, Int.reduceAdd, Int.reduceSub, Int.reduceLT, Int.reduceLE, Nat.reduceAdd, Nat.reduceLeDiff, Nat.reduceLT, Nat.reduceSub, reduceIte, wds_n, wds_0, wds_1, wds_2, wds_3, or_true, true_or, or_false, false_or, or_self, false_and, and_false, d_pos, d_s1, d_s2, d_s3, d_s4, d_s5, d_s6, d_s7, d_s8, Classical.not_not, z6603_26, z10016_l, z6603_29, z10208_l, s372 hc, s376 hS hm, s369, eq_true hg.1.1, eq_true hg.1.2, eq_true hg.2.1, eq_true hg.2.2, eq_true hn.1, eq_true hn.2, eq_true hk, eq_true hf, le_sub1, le_T, le_F, lt_T, lt_F, eq_F, w32_T, bz0, bz1, lc_le, lc_ge, lc_lt, lc_gt, lc_eq] <;> first | rfl | (rw [if_pos (by omega)] <;> rfl) | (rw [if_neg (by omega)] <;> rfl) | (exfalso; omega)
theorem s375a {d : Nat} {h : HV} {Q : Int → HV → Prop} {p c n : Int} (hS : TR (h 6603 9)) (hm : 0 ≤ h (h 6603 9 + 84) 5 ∧ h (h 6603 9 + 84) 5 ≤ 8) (hc : 0 ≤ h 6603 25 ∧ h 6603 25 ≤ 24) (hg : ((0 ≤ p ∧ p < h 6603 25) ∧ 0 ≤ c ∧ c < h (h 6603 9 + 84) 5)) (hc8 : 0 ≤ c ∧ c < 8) (hn : -1 ≤ n ∧ n ≤ 64) (hk : h 10016 p = 0) (h0 : 0 ≤ n ∧ n ≤ 64) (hr : 0 ≤ h 6603 30 ∧ h 6603 30 < 6000) (hf : ¬ h 6603 30 = 6000) : Sp fz1 (d + 2) 375 [(3, 6603), (0, p), (0, c), (0, n)] h Q = Q (0) (hset (nrH h 4 n) 10208 (8 * p + c) (h 6603 30)) := by
  simp (implicitDefEqProofs := false) (disch := omega) only [sp375, b375_0, b375_1, b375_2, b375_3, b375_4, b375_5, b375_6, q375_1, q375_2, q375_3, q375_4, q375_5, q375_6, x_aload0, y_call369, y_call372, y_call376, y_call377, x_gc_11475, x_gc_11499, x_gf_11504, x_goto_1, x_goto_6, x_iadd, x_iaload, x_iastore, x_iconst, x_ifCond_eq_1, x_ifCond_eq_3, x_ifCond_ge_5, x_ifCond_lt_4, x_ifCond_ne_2, x_if_icmp_ne_4, x_iload1, x_iload2, x_iload3, x_imul, x_ireturn, klp_0, klp_1, klp_2, klp_3, klp_9, KC_0, KC_1, KC_2, KC_3, KC_4, ne_eq, not_false_eq_true, not_true_eq_false, true_and, and_true, and_self, implies_true, eq_self, true_imp_iff, false_implies, Int.reduceEq, Int.reduceNe, Int.reduceMod, Int.reduceMul, Int.reduceAdd, Int.reduceSub, Int.reduceLT, Int.reduceLE, Nat.reduceAdd, Nat.reduceLeDiff, Nat.reduceLT, Nat.reduceSub, reduceIte, wds_n, wds_0, wds_1, wds_2, wds_3, or_true, true_or, or_false, false_or, or_self, false_and, and_false, d_pos, d_s1, d_s2, d_s3, d_s4, d_s5, d_s6, d_s7, d_s8, Classical.not_not, z6603_26, z10016_l, z6603_29, z10208_l, s372 hc, s376 hS hm, s369, eq_true hg.1.1, eq_true hg.1.2, eq_true hg.2.1, eq_true hg.2.2, eq_true hn.1, eq_true hn.2, eq_true hk, hf, s377 hr h0, le_sub1, le_T, le_F, lt_T, lt_F, eq_F, w32_T, bz0, bz1, lc_le, lc_ge, lc_lt, lc_gt, lc_eq] <;> first | rfl | (rw [if_pos (by omega)] <;> rfl) | (rw [if_neg (by omega)] <;> rfl) | (exfalso; omega)
theorem nrH_set {H : HV} {t n i v : Int} : nrH (hset H 1120 i v) t n = hset (nrH H t n) 1120 i v := by
  funext o j
  have e : hset H 1120 i v 6603 = H 6603 := hs_ne (by decide)
  by_cases ho : o = 1120
  · subst ho
    rw [nrH_ne (by decide) (by decide) (by decide) (by decide), hset_v, hset_v, nrH_ne (by decide) (by decide) (by decide) (by decide)]
  · rw [hs_ne ho]
    unfold nrH
    rw [e]
    simp (implicitDefEqProofs := false) only [filR_v, hset_v, ho, false_and, if_false]
theorem RRw_set {h : HV} {o i v : Int} (W : RRw h) (h1 : o ≠ 0) (h2 : o ≠ 643) (h3 : o ≠ h 643 0) (h4 : o ≠ h 643 1) (h5 : o ≠ 6603) (h6 : o ≠ 10336) (h7 : o ≠ 10401) : RRw (hset h o i v) := by
  have e643 : hset h o i v 643 = h 643 := hs_ne (Ne.symm h2)
  have eS : hset h o i v (h 643 0) = h (h 643 0) := hs_ne (Ne.symm h3)
  have eI : hset h o i v (h 643 1) = h (h 643 1) := hs_ne (Ne.symm h4)
  refine ⟨RW_eq W.1 (hs_ne (Ne.symm h1)) e643 eS eI, ?_, ?_⟩
  · rw [hs_ne (Ne.symm h5), e643]; exact W.2.1
  · unfold rb rwZ rwI
    rw [e643, hs_ne (Ne.symm h6), hs_ne (Ne.symm h7), eS, eI]
    exact W.2.2
theorem RMk_new {h hm : HV} {p c cl rf : Int} (M : RMk h) (e836 : hm 836 = h 836) (e928 : hm 928 = h 928) (e1 : hm 1120 = h 1120) (e2 : hm 10208 = h 10208) (eb : rb hm = rb h) (e3 : h 643 2 ≤ hm 643 2) (e4 : ∀ j, j < h 643 3 → hm 10272 j = h 10272 j) (hc : 0 ≤ c ∧ c < 8) (hn : (cl = -1 ∧ rf = -9) ∨ (h 928 p = 0 ∧ (0 ≤ cl ∧ cl < hm 643 2) ∧ rf = cl + rb h ∧ hm 10272 (cl + rb h) = 4)) : RMk (hset (hset hm 1120 (8 * p + c) cl) 10208 (8 * p + c) rf) := by
  unfold RMk
  have f643 : hset (hset hm 1120 (8 * p + c) cl) 10208 (8 * p + c) rf 643 = hm 643 := by rw [hs_ne (by decide), hs_ne (by decide)]
  have fb : rb (hset (hset hm 1120 (8 * p + c) cl) 10208 (8 * p + c) rf) = rb h := by rw [← eb]; unfold rb; rw [f643]
  rw [fb, f643, show hset (hset hm 1120 (8 * p + c) cl) 10208 (8 * p + c) rf 836 = h 836 by rw [hs_ne (by decide), hs_ne (by decide), e836], show hset (hset hm 1120 (8 * p + c) cl) 10208 (8 * p + c) rf 928 = h 928 by rw [hs_ne (by decide), hs_ne (by decide), e928], show hset (hset hm 1120 (8 * p + c) cl) 10208 (8 * p + c) rf 10272 = hm 10272 by rw [hs_ne (by decide), hs_ne (by decide)]]
  intro q q0 q1 k k0 k1
  have v1 : hset (hset hm 1120 (8 * p + c) cl) 10208 (8 * p + c) rf 1120 (8 * q + k) = if q = p ∧ k = c then cl else h 1120 (8 * q + k) := by
    rw [hs_ne (by decide), hset_v, e1]
    by_cases e : q = p ∧ k = c
    · rw [if_pos e, if_pos ⟨rfl, by rw [e.1, e.2]⟩]
    · rw [if_neg e, if_neg (fun w => e (by have := w.2; omega))]
  have v2 : hset (hset hm 1120 (8 * p + c) cl) 10208 (8 * p + c) rf 10208 (8 * q + k) = if q = p ∧ k = c then rf else h 10208 (8 * q + k) := by
    rw [hset_v, hs_ne (by decide), e2]
    by_cases e : q = p ∧ k = c
    · rw [if_pos e, if_pos ⟨rfl, by rw [e.1, e.2]⟩]
    · rw [if_neg e, if_neg (fun w => e (by have := w.2; omega))]
  rw [v1, v2]
  by_cases e : q = p ∧ k = c
  · rw [if_pos e, if_pos e, e.1]
    exact hn
  · rw [if_neg e, if_neg e]
    rcases M q q0 q1 k k0 k1 with m | ⟨m0, m1, m2, m3⟩
    · exact .inl m
    · refine .inr ⟨m0, by omega, m2, ?_⟩
      rw [e4 _ (by unfold rb; omega), m3]
theorem op_marks {d : Nat} {h : HV} {p c n : Int} (X : RTx h) (P : RPp h) (W : RRw h) (M : RMk h) : Sp fz1 (d + 3) 151 [(3, 64), (0, p), (0, c), (0, n)] h (fun x h1 => h1 50 = h 50 ∧ Sp fz1 (d + 3) 375 [(3, 6603), (0, p), (0, c), (0, n)] h1 (fun y h2 => x = y ∧ RRw h2 ∧ RMk h2 ∧ (h2 = h ∨ h2 = hset (hset h 1120 (8 * p + c) (-1)) 10208 (8 * p + c) (-9) ∨ ∃ hm, TWO h hm n 0 4 ∧ h2 = hset (hset hm 1120 (8 * p + c) (h 643 2)) 10208 (8 * p + c) (h 643 3)))) := by
  have X5 := rtx_5 X
  have P2 := P.2.1
  have P1 := P.1
  have R := W.1
  have I := R.it
  have S := R.st
  have s0 : 204 ≤ h 0 0 := R.1.2.2.2.2
  have r3 := R.2.2.1
  by_cases hg : (0 ≤ p ∧ p < h 836 4) ∧ 0 ≤ c ∧ c < h (h 64 8 + 598) 5
  · have hg2 : (0 ≤ p ∧ p < h 6603 25) ∧ 0 ≤ c ∧ c < h (h 6603 9 + 84) 5 := by rw [P1, X5.1]; exact hg
    have hc8 : 0 ≤ c ∧ c < 8 := by omega
    have q := P.2.2 p hg.1.1 hg.1.2
    have e8 : p * 8 + c = 8 * p + c := by omega
    by_cases hn : -1 ≤ n ∧ n ≤ 64
    · by_cases hk : h 928 p = 0
      · by_cases hn1 : n = -1
        · subst hn1
          rw [s151m X.1 P2.2 hg hg.1 hc8 hk, e8]
          have e1 : ∀ a, a ≠ 1120 → hset h 1120 (8 * p + c) (-1) a = h a := fun a ha => hs_ne ha
          refine ⟨e1 _ (by decide), ?_⟩
          have T : h 6603 9 + 84 ≠ 1120 := by rcases X.2.1 with t | t <;> omega
          have a1 := e1 6603 (by decide)
          rw [s375m (d := d + 1) (by rw [a1]; exact X.2.1) (by rw [a1, e1 _ T]; omega) (by rw [a1]; omega) (by rw [a1, e1 _ T]; exact hg2) hc8 (by rw [e1 _ (by decide), q.1]; exact hk)]
          refine ⟨rfl, ?_, ?_, .inr (.inl rfl)⟩
          · refine RRw_set (RRw_set W (by decide) (by decide) (by omega) (by omega) (by decide) (by decide) (by decide)) (by decide) (by decide) ?_ ?_ (by decide) (by decide) (by decide)
            · rw [hs_ne (by decide)]; omega
            · rw [hs_ne (by decide)]; omega
          · exact RMk_new M rfl rfl rfl rfl rfl (Int.le_refl _) (fun _ _ => rfl) hc8 (.inl ⟨rfl, rfl⟩)
        · have h0 : 0 ≤ n := by omega
          by_cases hm : h 643 3 < 6000
          · refine s151a X.1 P2.2 hg hg.1 hc8 hn hk h0 R hm (fun h1 K => ?_)
            rw [e8]
            have TW := MK_two (t := 4) W K (by decide) hm ⟨h0, hn.2⟩
            have k6 := K.2.2.2.2.2.2.1
            have e1 : ∀ a, a ≠ 643 → a ≠ h 643 0 → a ≠ h 643 1 → a < 64 * h 0 0 → a ≠ 0 → a ≠ 1120 → hset h1 1120 (8 * p + c) (h 643 2) a = h a := fun a q1 q2 q3 q4 q5 q6 => by rw [hs_ne q6, k6 a q1 q2 q3 q4 q5]
            refine ⟨e1 50 (by decide) (by omega) (by omega) (by omega) (by decide) (by decide), ?_⟩
            have a1 := e1 6603 (by decide) (by omega) (by omega) (by omega) (by decide) (by decide)
            have a2 := e1 10016 (by decide) (by omega) (by omega) (by omega) (by decide) (by decide)
            have a3 : hset h1 1120 (8 * p + c) (h 643 2) (h 6603 9 + 84) = h (h 6603 9 + 84) := by
              refine e1 _ ?_ ?_ ?_ ?_ ?_ ?_ <;> (rcases X.2.1 with t | t <;> omega)
            rw [s375a (d := d + 1) (by rw [a1]; exact X.2.1) (by rw [a1, a3]; omega) (by rw [a1]; omega) (by rw [a1, a3]; exact hg2) hc8 hn (by rw [a2, q.1]; exact hk) ⟨h0, hn.2⟩ (by rw [a1, W.2.1]; omega) (by rw [a1, W.2.1]; omega), a1, W.2.1, nrH_set]
            have TW0 := TW
            obtain ⟨t1, t2, t3, t4, t5, t6, t7, t8, t9, t10, t11, t12, t13, t14, t15, t16⟩ := TW
            refine ⟨rfl, ?_, ?_, .inr (.inr ⟨_, TW0, rfl⟩)⟩
            · refine RRw_set (RRw_set t1 (by decide) (by decide) (by omega) (by omega) (by decide) (by decide) (by decide)) (by decide) (by decide) ?_ ?_ (by decide) (by decide) (by decide)
              · rw [hs_ne (by decide)]; omega
              · rw [hs_ne (by decide)]; omega
            · refine RMk_new M (t10 _ ?_ ?_ ?_ ?_ ?_ ?_ ?_ ?_ ?_) (t10 _ ?_ ?_ ?_ ?_ ?_ ?_ ?_ ?_ ?_) (t10 _ ?_ ?_ ?_ ?_ ?_ ?_ ?_ ?_ ?_) (t10 _ ?_ ?_ ?_ ?_ ?_ ?_ ?_ ?_ ?_) t4 (by omega) t5 hc8 (.inr ⟨hk, by omega, by unfold rb; omega, ?_⟩)
              all_goals first | omega | (rw [show h 643 2 + rb h = h 643 3 by unfold rb; omega]; exact t6)
          · rw [s151f X.1 P2.2 hg hg.1 hc8 hn hk h0 (.inl (by omega))]
            refine ⟨rfl, ?_⟩
            rw [s375f (d := d + 1) X.2.1 (by omega) (by omega) hg2 hc8 hn (by rw [q.1]; exact hk) h0 (by rw [W.2.1]; omega)]
            exact ⟨rfl, W, M, .inl rfl⟩
      · rw [s151k X.1 P2.2 hg hg.1 hc8 hn hk]
        refine ⟨rfl, ?_⟩
        rw [s375k (d := d + 1) X.2.1 (by omega) (by omega) hg2 hc8 hn (by rw [q.1]; exact hk)]
        exact ⟨rfl, W, M, .inl rfl⟩
    · rw [s151n X.1 P2.2 hg hn]
      refine ⟨rfl, ?_⟩
      rw [s375n (d := d + 1) X.2.1 (by omega) (by omega) hg2 hn]
      exact ⟨rfl, W, M, .inl rfl⟩
  · rw [s151g X.1 P2.2 hg]
    refine ⟨rfl, ?_⟩
    rw [s375g (d := d + 1) X.2.1 (by omega) (by omega) (by rw [P1, X5.1]; exact hg)]
    exact ⟨rfl, W, M, .inl rfl⟩
