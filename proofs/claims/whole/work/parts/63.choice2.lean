/-! THE PURE SIDE, 44: the small methods of choices, both sides: printed by wip/tools/gen63.py -/
def isE (a b : Int) : Int := if a = b then 1 else 0
theorem isE_b (a b : Int) : 0 ≤ isE a b ∧ isE a b ≤ 1 := by unfold isE; split <;> decide
/-- the places left in courses before m, when the pupils before r are counted -/
def lfH (h : HV) (m : Int) (r : Nat) : HV := fun o i => if o = 3360 ∧ 0 ≤ i ∧ i < m then h (h 64 8 + 1110) i - sumI (fun p => isE (h 3232 p) i) r else h o i
theorem lfH_v (h : HV) (m : Int) (r : Nat) (o i : Int) : lfH h m r o i = if o = 3360 ∧ 0 ≤ i ∧ i < m then h (h 64 8 + 1110) i - sumI (fun p => isE (h 3232 p) i) r else h o i := rfl
theorem lfH_ne {h : HV} {m : Int} {r : Nat} {o : Int} (ho : o ≠ 3360) : lfH h m r o = h o := by
  funext i
  rw [lfH_v, if_neg (fun q => ho q.1)]
theorem lfH_0 (h : HV) (r : Nat) : lfH h 0 r = h := by
  funext o i
  rw [lfH_v, if_neg (fun q => by omega)]
theorem lfH_s1 {h : HV} {j : Int} (hj : 0 ≤ j) : hset (lfH h j 0) 3360 j (h (h 64 8 + 1110) j) = lfH h (j + 1) 0 := by
  funext o i
  rw [hset_v, lfH_v, lfH_v]
  by_cases q : o = 3360 ∧ i = j
  · rw [if_pos q, if_pos ⟨q.1, by omega⟩, q.2]
    exact (Int.sub_zero _).symm
  · rw [if_neg q]
    by_cases q2 : o = 3360 ∧ 0 ≤ i ∧ i < j
    · rw [if_pos q2, if_pos ⟨q2.1, by omega⟩]
    · rw [if_neg q2, if_neg (fun w => q2 ⟨w.1, by have : i ≠ j := fun e => q ⟨w.1, e⟩; omega⟩)]
theorem lfH_s2 {h : HV} {m : Int} {r : Nat} (hp : 0 ≤ h 3232 r ∧ h 3232 r < m) : hset (lfH h m r) 3360 (h 3232 r) (lfH h m r 3360 (h 3232 r) - 1) = lfH h m (r + 1) := by
  funext o i
  rw [hset_v, lfH_v, lfH_v, lfH_v]
  by_cases q : o = 3360 ∧ i = h 3232 r
  · obtain ⟨rfl, rfl⟩ := q
    rw [if_pos ⟨rfl, rfl⟩, if_pos ⟨rfl, hp⟩, if_pos ⟨rfl, hp⟩, sumI]
    show _ = _ - (_ + isE (h 3232 r) (h 3232 r))
    rw [show isE (h 3232 r) (h 3232 r) = 1 by rw [isE, if_pos rfl]]
    omega
  · rw [if_neg q]
    by_cases q2 : o = 3360 ∧ 0 ≤ i ∧ i < m
    · rw [if_pos q2, if_pos q2, sumI]
      show _ = _ - (_ + isE (h 3232 r) i)
      rw [show isE (h 3232 r) i = 0 by rw [isE, if_neg (fun e => q ⟨q2.1, e.symm⟩)], Int.add_zero]
    · rw [if_neg q2, if_neg q2]
theorem lfH_s3 {h : HV} {m : Int} {r : Nat} (hp : h 3232 r = -9) : lfH h m r = lfH h m (r + 1) := by
  funext o i
  rw [lfH_v, lfH_v]
  by_cases q2 : o = 3360 ∧ 0 ≤ i ∧ i < m
  · rw [if_pos q2, if_pos q2, sumI]
    show _ = _ - (_ + isE (h 3232 r) i)
    rw [show isE (h 3232 r) i = 0 by rw [isE, if_neg (by omega)], Int.add_zero]
  · rw [if_neg q2, if_neg q2]
/-- the courses have room for so many; who is placed, is placed in one of them -/
def RPc (h : HV) : Prop := h 2953 1 = h 64 8 ∧ (∀ c, 0 ≤ c → c < h (h 64 8 + 598) 5 → 0 ≤ h (h 64 8 + 1110) c ∧ h (h 64 8 + 1110) c ≤ 1000 ∧ h (h 6603 9 + 724) c = h (h 64 8 + 1110) c) ∧ ∀ p, 0 ≤ p → p < h 836 4 → h 3232 p = -9 ∨ 0 ≤ h 3232 p ∧ h 3232 p < h (h 64 8 + 598) 5
theorem s285 {d : Nat} {h : HV} {Q : Int → HV → Prop} (X : RTx h) (hc : 0 ≤ h 836 4 ∧ h 836 4 ≤ 24) (C : RPc h) : Sp fz1 (d + 1) 285 [(3, 2953)] h Q = Q 0 (lfH h (h (h 64 8 + 598) 5) (h 836 4).toNat) := by
  refine Sp_is ?_ Q
  have hT := X.1
  have X5 := rtx_5 X
  obtain ⟨ht, hP, hL⟩ := C
  have T1 : h 64 8 + 598 ≠ 3360 := by rcases hT with w | w <;> omega
  have T2 : h 64 8 + 1110 ≠ 3360 := by rcases hT with w | w <;> omega
  simp (implicitDefEqProofs := false) (disch := omega) only [sp285, b285_0, b285_1, b285_2, b285_3, b285_4, b285_5, q285_2, q285_4, q285_5, x_aload0, y_call132, y_call281, y_call55, x_dup203, x_dup21, x_gc_10315, x_gc_9219, x_gc_9259, x_gc_9283, x_gf_9227, x_goto_1, x_goto_3, x_goto_4, x_iaload, x_iastore, x_iconst, x_ifCond_eq_4, x_if_icmp_ge_2, x_if_icmp_ge_5, x_iinc1, x_iload1, x_istore1, x_isub, x_return, klp_0, klp_1, klp_2, klp_3, klp_9, KC_0, KC_1, KC_2, KC_3, KC_4, ne_eq, not_false_eq_true, not_true_eq_false, true_and, and_true, and_self, implies_true, eq_self, true_imp_iff, false_implies, Int.reduceEq, Int.reduceNe, Int.reduceMod, Int.reduceMul, Int.reduceAdd, Int.reduceSub, Int.reduceLT, Int.reduceLE, Nat.reduceAdd, Nat.reduceLeDiff, Nat.reduceLT, Nat.reduceSub, reduceIte, wds_n, wds_0, wds_1, wds_2, wds_3, or_true, true_or, or_false, false_or, or_self, false_and, and_false, d_pos, d_s1, d_s2, d_s3, d_s4, d_s5, d_s6, d_s7, d_s8, Classical.not_not]
  refine forG (N := (h (h 64 8 + 598) 5).toNat) (I := fun j ls h' => ls = [(3, 2953), (0, (j : Int))] ∧ h' = lfH h j 0) ?_ ?_ (j := 0) (Nat.zero_le _) ⟨rfl, (lfH_0 _ _).symm⟩
  · rintro j ls h' hj ⟨rfl, rfl⟩ nx
    have b1 : (j : Int) < h (h 64 8 + 598) 5 := by omega
    have q1 : lfH h (j : Int) 0 2953 = h 2953 := lfH_ne (by decide)
    have q2 : lfH h (j : Int) 0 (h 64 8 + 598) = h (h 64 8 + 598) := lfH_ne T1
    have q3 : lfH h (j : Int) 0 (h 64 8 + 1110) = h (h 64 8 + 1110) := lfH_ne T2
    refine G_in ?_
    simp (implicitDefEqProofs := false) (disch := omega) only [b285_1, x_aload0, y_call55, x_gc_10315, x_gc_9283, x_gf_9227, x_goto_1, x_iaload, x_iastore, x_iconst, x_if_icmp_ge_2, x_iinc1, x_iload1, klp_0, klp_1, klp_2, klp_3, klp_9, KC_0, KC_1, KC_2, KC_3, KC_4, ne_eq, not_false_eq_true, not_true_eq_false, true_and, and_true, and_self, implies_true, eq_self, true_imp_iff, false_implies, Int.reduceEq, Int.reduceNe, Int.reduceMod, Int.reduceMul, Int.reduceAdd, Int.reduceSub, Int.reduceLT, Int.reduceLE, Nat.reduceAdd, Nat.reduceLeDiff, Nat.reduceLT, Nat.reduceSub, reduceIte, wds_n, wds_0, wds_1, wds_2, wds_3, or_true, true_or, or_false, false_or, or_self, false_and, and_false, d_pos, d_s1, d_s2, d_s3, d_s4, d_s5, d_s6, d_s7, d_s8, Classical.not_not, z2953_8, z3360_l, q1, q2, q3, ht, s55 (T := h 64 8) hT, c9 hT, c9l hT, c9k hT, TC_0 hT, TC_k hT, le_T, le_F, lt_T, lt_F, w32_T]
    exact nx _ _ ⟨rfl, lfH_s1 (by omega)⟩
  · rintro ls h' ⟨rfl, rfl⟩
    rw [show (((h (h 64 8 + 598) 5).toNat : Nat) : Int) = h (h 64 8 + 598) 5 by omega]
    generalize hM : h (h 64 8 + 598) 5 = m at *
    have q1 : lfH h m 0 2953 = h 2953 := lfH_ne (by decide)
    have q2 : lfH h m 0 (h 64 8 + 598) = h (h 64 8 + 598) := lfH_ne T1
    refine G_in ?_
    simp (implicitDefEqProofs := false) (disch := omega) only [b285_1, b285_2, q285_2, x_aload0, y_call55, x_gc_10315, x_gc_9283, x_gf_9227, x_goto_1, x_goto_3, x_iaload, x_iastore, x_iconst, x_if_icmp_ge_2, x_iinc1, x_iload1, x_istore1, klp_0, klp_1, klp_2, klp_3, klp_9, KC_0, KC_1, KC_2, KC_3, KC_4, ne_eq, not_false_eq_true, not_true_eq_false, true_and, and_true, and_self, implies_true, eq_self, true_imp_iff, false_implies, Int.reduceEq, Int.reduceNe, Int.reduceMod, Int.reduceMul, Int.reduceAdd, Int.reduceSub, Int.reduceLT, Int.reduceLE, Nat.reduceAdd, Nat.reduceLeDiff, Nat.reduceLT, Nat.reduceSub, reduceIte, wds_n, wds_0, wds_1, wds_2, wds_3, or_true, true_or, or_false, false_or, or_self, false_and, and_false, d_pos, d_s1, d_s2, d_s3, d_s4, d_s5, d_s6, d_s7, d_s8, Classical.not_not, q1, q2, hM, ht, s55 (T := h 64 8) hT, TC_0 hT, TC_k hT, le_T, le_F, lt_T, lt_F, w32_T]
    refine forG (N := (h 836 4).toNat) (I := fun j ls h' => ls = [(3, 2953), (0, (j : Int))] ∧ h' = lfH h m j) ?_ ?_ (j := 0) (Nat.zero_le _) ⟨rfl, rfl⟩
    · rintro j ls h' hj ⟨rfl, rfl⟩ nx
      have b1 : (j : Int) < h 836 4 := by omega
      have p1 : lfH h m j 836 = h 836 := lfH_ne (by decide)
      have p2 : lfH h m j 3232 = h 3232 := lfH_ne (by decide)
      have sb := sumI_b (f := fun p => isE (h 3232 p) (h 3232 j)) (fun i => isE_b _ _) j
      rcases hL j (by omega) b1 with e | e
      · refine G_in ?_
        simp (implicitDefEqProofs := false) (disch := omega) only [b285_3, b285_4, q285_4, x_aload0, y_call132, y_call281, x_dup203, x_dup21, x_gc_9219, x_gc_9259, x_gc_9283, x_goto_3, x_goto_4, x_iaload, x_iastore, x_iconst, x_ifCond_eq_4, x_if_icmp_ge_5, x_iinc1, x_iload1, x_isub, klp_0, klp_1, klp_2, klp_3, klp_9, KC_0, KC_1, KC_2, KC_3, KC_4, ne_eq, not_false_eq_true, not_true_eq_false, true_and, and_true, and_self, implies_true, eq_self, true_imp_iff, false_implies, Int.reduceEq, Int.reduceNe, Int.reduceMod, Int.reduceMul, Int.reduceAdd, Int.reduceSub, Int.reduceLT, Int.reduceLE, Nat.reduceAdd, Nat.reduceLeDiff, Nat.reduceLT, Nat.reduceSub, reduceIte, wds_n, wds_0, wds_1, wds_2, wds_3, or_true, true_or, or_false, false_or, or_self, false_and, and_false, d_pos, d_s1, d_s2, d_s3, d_s4, d_s5, d_s6, d_s7, d_s8, Classical.not_not, z2953_0, z2953_5, z3232_l, s132, s281, p1, p2, e, le_T, le_F, lt_T, lt_F, w32_T]
        exact nx _ _ ⟨rfl, lfH_s3 e⟩
      · have hV : lfH h m j 3360 (h 3232 j) = h (h 64 8 + 1110) (h 3232 j) - sumI (fun p => isE (h 3232 p) (h 3232 j)) j := by rw [lfH_v, if_pos ⟨rfl, e⟩]
        have pb := hP _ e.1 e.2
        have st := lfH_s2 (h := h) (m := m) (r := j) e
        refine G_in ?_
        have e8 : h 3232 j < 8 := by omega
        obtain ⟨e0, e1⟩ := e
        generalize hpl : h 3232 j = pl at *
        simp (implicitDefEqProofs := false) (disch := omega) only [b285_3, b285_4, q285_4, x_aload0, y_call132, y_call281, x_dup203, x_dup21, x_gc_9219, x_gc_9259, x_gc_9283, x_goto_3, x_goto_4, x_iaload, x_iastore, x_iconst, x_ifCond_eq_4, x_if_icmp_ge_5, x_iinc1, x_iload1, x_isub, klp_0, klp_1, klp_2, klp_3, klp_9, KC_0, KC_1, KC_2, KC_3, KC_4, ne_eq, not_false_eq_true, not_true_eq_false, true_and, and_true, and_self, implies_true, eq_self, true_imp_iff, false_implies, Int.reduceEq, Int.reduceNe, Int.reduceMod, Int.reduceMul, Int.reduceAdd, Int.reduceSub, Int.reduceLT, Int.reduceLE, Nat.reduceAdd, Nat.reduceLeDiff, Nat.reduceLT, Nat.reduceSub, reduceIte, wds_n, wds_0, wds_1, wds_2, wds_3, or_true, true_or, or_false, false_or, or_self, false_and, and_false, d_pos, d_s1, d_s2, d_s3, d_s4, d_s5, d_s6, d_s7, d_s8, Classical.not_not, z2953_0, z2953_5, z2953_8, z3232_l, z3360_l, s132, s281, p1, p2, hpl, le_T, le_F, lt_T, lt_F, w32_T]
        exact nx _ _ ⟨rfl, st⟩
    · rintro ls h' ⟨rfl, rfl⟩
      have p1 : lfH h m ((h 836 4).toNat) 836 = h 836 := lfH_ne (by decide)
      refine G_in ?_
      simp (implicitDefEqProofs := false) (disch := omega) only [b285_3, b285_5, q285_5, x_aload0, y_call132, y_call281, x_dup203, x_dup21, x_gc_9219, x_gc_9259, x_gc_9283, x_goto_4, x_iaload, x_iastore, x_iconst, x_ifCond_eq_4, x_if_icmp_ge_5, x_iload1, x_isub, x_return, klp_0, klp_1, klp_2, klp_3, klp_9, KC_0, KC_1, KC_2, KC_3, KC_4, ne_eq, not_false_eq_true, not_true_eq_false, true_and, and_true, and_self, implies_true, eq_self, true_imp_iff, false_implies, Int.reduceEq, Int.reduceNe, Int.reduceMod, Int.reduceMul, Int.reduceAdd, Int.reduceSub, Int.reduceLT, Int.reduceLE, Nat.reduceAdd, Nat.reduceLeDiff, Nat.reduceLT, Nat.reduceSub, reduceIte, wds_n, wds_0, wds_1, wds_2, wds_3, or_true, true_or, or_false, false_or, or_self, false_and, and_false, d_pos, d_s1, d_s2, d_s3, d_s4, d_s5, d_s6, d_s7, d_s8, Classical.not_not, z2953_0, s132, p1, le_T, le_F, lt_T, lt_F, w32_T]
theorem s288 {d : Nat} {h : HV} {Q : Int → HV → Prop} {c : Int} (hc : 0 ≤ c ∧ c < 8) : Sp fz1 (d + 1) 288 [(3, 2953), (0, c)] h Q = Q (if 0 < h 3360 c then 1 else 0) h := by
  by_cases a1 : h 3360 c ≤ 0 <;> (try (exfalso; omega)) <;> simp (implicitDefEqProofs := false) (disch := omega) only [sp288, b288_0, b288_1, b288_2, q288_1, q288_2, x_aload0, y_call281, x_freturn, x_gc_9283, x_goto_2, x_iaload, x_iconst, x_ifCond_eq_1, x_ifCond_le_1, x_iload1, klp_0, klp_1, klp_2, klp_3, klp_9, KC_0, KC_1, KC_2, KC_3, KC_4, ne_eq, not_false_eq_true, not_true_eq_false, true_and, and_true, and_self, implies_true, eq_self, true_imp_iff, false_implies, Int.reduceEq, Int.reduceNe, Int.reduceMod, Int.reduceMul, Int.reduceAdd, Int.reduceSub, Int.reduceLT, Int.reduceLE, Nat.reduceAdd, Nat.reduceLeDiff, Nat.reduceLT, Nat.reduceSub, reduceIte, wds_n, wds_0, wds_1, wds_2, wds_3, or_true, true_or, or_false, false_or, or_self, false_and, and_false, d_pos, d_s1, d_s2, d_s3, d_s4, d_s5, d_s6, d_s7, d_s8, Classical.not_not, z2953_8, z3360_l, s281, if_pos hc, a1, le_sub1, le_T, le_F, lt_T, lt_F, eq_F, w32_T, bz0, bz1, lc_le, lc_ge, lc_lt, lc_gt, lc_eq] <;> first | rfl | (rw [if_pos (by omega)] <;> rfl) | (rw [if_neg (by omega)] <;> rfl) | (exfalso; omega)
/-- who of two is ahead in a course -/
def bfF (t : Int → Int) (r q : Int) : Int := if t r < t q ∨ t r = t q ∧ r < q then 1 else 0
theorem s291 {d : Nat} {h : HV} {Q : Int → HV → Prop} {r q c : Int} (hr : 0 ≤ r ∧ r < 24) (hq : 0 ≤ q ∧ q < 24) (hc : 0 ≤ c ∧ c < 8) : Sp fz1 (d + 2) 291 [(3, 2953), (0, r), (0, q), (0, c)] h Q = Q (bfF (fun p => h 3168 (p * 8 + c)) r q) h := by
  by_cases a1 : h 3168 (r * 8 + c) = h 3168 (q * 8 + c) <;> by_cases a2 : h 3168 (r * 8 + c) < h 3168 (q * 8 + c) <;> by_cases a3 : r < q <;> (try (exfalso; omega)) <;> simp (implicitDefEqProofs := false) (disch := omega) only [sp291, b291_0, b291_1, b291_2, b291_3, b291_4, q291_1, q291_2, q291_3, q291_4, x_aload0, y_call280, x_freturn, x_goto_4, x_iconst, x_if_icmp_eq_2, x_if_icmp_ge_1, x_if_icmp_ge_3, x_iload1, x_iload2, x_iload3, x_iload4, x_iload5, x_istore4, x_istore5, klp_0, klp_1, klp_2, klp_3, klp_9, KC_0, KC_1, KC_2, KC_3, KC_4, ne_eq, not_false_eq_true, not_true_eq_false, true_and, and_true, and_self, implies_true, eq_self, true_imp_iff, false_implies, Int.reduceEq, Int.reduceNe, Int.reduceMod, Int.reduceMul, Int.reduceAdd, Int.reduceSub, Int.reduceLT, Int.reduceLE, Nat.reduceAdd, Nat.reduceLeDiff, Nat.reduceLT, Nat.reduceSub, reduceIte, wds_n, wds_0, wds_1, wds_2, wds_3, or_true, true_or, or_false, false_or, or_self, false_and, and_false, d_pos, d_s1, d_s2, d_s3, d_s4, d_s5, d_s6, d_s7, d_s8, Classical.not_not, s280 hr hc, s280 hq hc, bfF, a1, a2, a3, le_sub1, le_T, le_F, lt_T, lt_F, eq_F, w32_T, bz0, bz1, lc_le, lc_ge, lc_lt, lc_gt, lc_eq] <;> first | rfl | (rw [if_pos (by omega)] <;> rfl) | (rw [if_neg (by omega)] <;> rfl) | (exfalso; omega)
/-- the last in a course -/
def lsF (pl : Int → Int) (t : Int → Int) (c : Int) : Nat → Int
  | 0 => -1
  | n + 1 => if pl n = c ∧ (lsF pl t c n < 0 ∨ bfF t (lsF pl t c n) n = 1) then (n : Int) else lsF pl t c n
theorem lsF_b {pl t : Int → Int} {c : Int} : ∀ n, lsF pl t c n = -1 ∨ 0 ≤ lsF pl t c n ∧ lsF pl t c n < n
  | 0 => .inl rfl
  | n + 1 => by
    have := lsF_b (pl := pl) (t := t) (c := c) n
    rw [lsF]
    split
    · exact .inr (by omega)
    · rcases this with e | e
      · exact .inl e
      · exact .inr (by omega)
theorem s290 {d : Nat} {h : HV} {Q : Int → HV → Prop} {c : Int} (hc : 0 ≤ h 836 4 ∧ h 836 4 ≤ 24) (hc8 : 0 ≤ c ∧ c < 8) : Sp fz1 (d + 3) 290 [(3, 2953), (0, c)] h Q = Q (lsF (h 3232) (fun p => h 3168 (p * 8 + c)) c (h 836 4).toNat) h := by
  refine Sp_is ?_ Q
  simp (implicitDefEqProofs := false) (disch := omega) only [sp290, b290_0, b290_1, b290_2, b290_3, b290_4, q290_2, q290_3, q290_4, x_aload0, y_call132, y_call291, x_gc_9219, x_gc_9259, x_goto_1, x_goto_2, x_goto_3, x_iaload, x_iconst, x_ifCond_eq_3, x_ifCond_lt_2, x_if_icmp_ge_4, x_if_icmp_ne_3, x_iinc3, x_iload1, x_iload2, x_iload3, x_ireturn, x_istore2, x_istore3, klp_0, klp_1, klp_2, klp_3, klp_9, KC_0, KC_1, KC_2, KC_3, KC_4, ne_eq, not_false_eq_true, not_true_eq_false, true_and, and_true, and_self, implies_true, eq_self, true_imp_iff, false_implies, Int.reduceEq, Int.reduceNe, Int.reduceMod, Int.reduceMul, Int.reduceAdd, Int.reduceSub, Int.reduceLT, Int.reduceLE, Nat.reduceAdd, Nat.reduceLeDiff, Nat.reduceLT, Nat.reduceSub, reduceIte, wds_n, wds_0, wds_1, wds_2, wds_3, or_true, true_or, or_false, false_or, or_self, false_and, and_false, d_pos, d_s1, d_s2, d_s3, d_s4, d_s5, d_s6, d_s7, d_s8, Classical.not_not]
  refine forG (N := (h 836 4).toNat) (I := fun j ls h' => ls = [(3, 2953), (0, c), (0, lsF (h 3232) (fun p => h 3168 (p * 8 + c)) c j), (0, (j : Int))] ∧ h' = h) ?_ ?_ (j := 0) (Nat.zero_le _) ⟨rfl, rfl⟩
  · rintro j ls h' hj ⟨rfl, rfl⟩ nx
    have b1 : (j : Int) < h' 836 4 := by omega
    have lb := lsF_b (pl := h' 3232) (t := fun p => h' 3168 (p * 8 + c)) (c := c) j
    have e : lsF (h' 3232) (fun p => h' 3168 (p * 8 + c)) c (j + 1) = if h' 3232 j = c ∧ (lsF (h' 3232) (fun p => h' 3168 (p * 8 + c)) c j < 0 ∨ bfF (fun p => h' 3168 (p * 8 + c)) (lsF (h' 3232) (fun p => h' 3168 (p * 8 + c)) c j) j = 1) then (j : Int) else lsF (h' 3232) (fun p => h' 3168 (p * 8 + c)) c j := rfl
    rw [e] at nx
    generalize lsF (h' 3232) (fun p => h' 3168 (p * 8 + c)) c j = l at *
    refine G_in ?_
    by_cases hp : h' 3232 j = c
    · by_cases hl : l < 0
      · rw [if_pos ⟨hp, .inl hl⟩] at nx
        simp (implicitDefEqProofs := false) (disch := omega) only [b290_1, b290_2, b290_3, q290_2, q290_3, x_aload0, y_call132, y_call291, x_gc_9219, x_gc_9259, x_goto_1, x_goto_2, x_goto_3, x_iaload, x_ifCond_eq_3, x_ifCond_lt_2, x_if_icmp_ge_4, x_if_icmp_ne_3, x_iinc3, x_iload1, x_iload2, x_iload3, x_istore2, klp_0, klp_1, klp_2, klp_3, klp_9, KC_0, KC_1, KC_2, KC_3, KC_4, ne_eq, not_false_eq_true, not_true_eq_false, true_and, and_true, and_self, implies_true, eq_self, true_imp_iff, false_implies, Int.reduceEq, Int.reduceNe, Int.reduceMod, Int.reduceMul, Int.reduceAdd, Int.reduceSub, Int.reduceLT, Int.reduceLE, Nat.reduceAdd, Nat.reduceLeDiff, Nat.reduceLT, Nat.reduceSub, reduceIte, wds_n, wds_0, wds_1, wds_2, wds_3, or_true, true_or, or_false, false_or, or_self, false_and, and_false, d_pos, d_s1, d_s2, d_s3, d_s4, d_s5, d_s6, d_s7, d_s8, Classical.not_not, z2953_0, z2953_5, z3232_l, s132, eq_true hp, le_T, le_F, lt_T, lt_F, w32_T]
        exact nx _ _ ⟨rfl, rfl⟩
      · have l24 : 0 ≤ l ∧ l < 24 := by omega
        have j24 : 0 ≤ (j : Int) ∧ (j : Int) < 24 := by omega
        by_cases hb : bfF (fun p => h' 3168 (p * 8 + c)) l j = 1
        · rw [if_pos ⟨hp, .inr hb⟩] at nx
          simp (implicitDefEqProofs := false) (disch := omega) only [b290_1, b290_2, b290_3, q290_2, q290_3, x_aload0, y_call132, y_call291, x_gc_9219, x_gc_9259, x_goto_1, x_goto_2, x_goto_3, x_iaload, x_ifCond_eq_3, x_ifCond_lt_2, x_if_icmp_ge_4, x_if_icmp_ne_3, x_iinc3, x_iload1, x_iload2, x_iload3, x_istore2, klp_0, klp_1, klp_2, klp_3, klp_9, KC_0, KC_1, KC_2, KC_3, KC_4, ne_eq, not_false_eq_true, not_true_eq_false, true_and, and_true, and_self, implies_true, eq_self, true_imp_iff, false_implies, Int.reduceEq, Int.reduceNe, Int.reduceMod, Int.reduceMul, Int.reduceAdd, Int.reduceSub, Int.reduceLT, Int.reduceLE, Nat.reduceAdd, Nat.reduceLeDiff, Nat.reduceLT, Nat.reduceSub, reduceIte, wds_n, wds_0, wds_1, wds_2, wds_3, or_true, true_or, or_false, false_or, or_self, false_and, and_false, d_pos, d_s1, d_s2, d_s3, d_s4, d_s5, d_s6, d_s7, d_s8, Classical.not_not, z2953_0, z2953_5, z3232_l, s132, s291 l24 j24 hc8, hb, eq_true hp, le_T, le_F, lt_T, lt_F, w32_T]
          exact nx _ _ ⟨rfl, rfl⟩
        · rw [if_neg (fun w => w.2.elim (fun x => hl x) hb)] at nx
          have hb0 : bfF (fun p => h' 3168 (p * 8 + c)) l j = 0 := by
            revert hb
            unfold bfF
            split
            · intro w; exact absurd rfl w
            · intro _; rfl
          simp (implicitDefEqProofs := false) (disch := omega) only [b290_1, b290_2, b290_3, q290_2, q290_3, x_aload0, y_call132, y_call291, x_gc_9219, x_gc_9259, x_goto_1, x_goto_2, x_goto_3, x_iaload, x_ifCond_eq_3, x_ifCond_lt_2, x_if_icmp_ge_4, x_if_icmp_ne_3, x_iinc3, x_iload1, x_iload2, x_iload3, x_istore2, klp_0, klp_1, klp_2, klp_3, klp_9, KC_0, KC_1, KC_2, KC_3, KC_4, ne_eq, not_false_eq_true, not_true_eq_false, true_and, and_true, and_self, implies_true, eq_self, true_imp_iff, false_implies, Int.reduceEq, Int.reduceNe, Int.reduceMod, Int.reduceMul, Int.reduceAdd, Int.reduceSub, Int.reduceLT, Int.reduceLE, Nat.reduceAdd, Nat.reduceLeDiff, Nat.reduceLT, Nat.reduceSub, reduceIte, wds_n, wds_0, wds_1, wds_2, wds_3, or_true, true_or, or_false, false_or, or_self, false_and, and_false, d_pos, d_s1, d_s2, d_s3, d_s4, d_s5, d_s6, d_s7, d_s8, Classical.not_not, z2953_0, z2953_5, z3232_l, s132, s291 l24 j24 hc8, hb0, eq_true hp, le_T, le_F, lt_T, lt_F, w32_T]
          exact nx _ _ ⟨rfl, rfl⟩
    · rw [if_neg (fun w => hp w.1)] at nx
      simp (implicitDefEqProofs := false) (disch := omega) only [b290_1, b290_2, b290_3, q290_2, q290_3, x_aload0, y_call132, y_call291, x_gc_9219, x_gc_9259, x_goto_1, x_goto_2, x_goto_3, x_iaload, x_ifCond_eq_3, x_ifCond_lt_2, x_if_icmp_ge_4, x_if_icmp_ne_3, x_iinc3, x_iload1, x_iload2, x_iload3, x_istore2, klp_0, klp_1, klp_2, klp_3, klp_9, KC_0, KC_1, KC_2, KC_3, KC_4, ne_eq, not_false_eq_true, not_true_eq_false, true_and, and_true, and_self, implies_true, eq_self, true_imp_iff, false_implies, Int.reduceEq, Int.reduceNe, Int.reduceMod, Int.reduceMul, Int.reduceAdd, Int.reduceSub, Int.reduceLT, Int.reduceLE, Nat.reduceAdd, Nat.reduceLeDiff, Nat.reduceLT, Nat.reduceSub, reduceIte, wds_n, wds_0, wds_1, wds_2, wds_3, or_true, true_or, or_false, false_or, or_self, false_and, and_false, d_pos, d_s1, d_s2, d_s3, d_s4, d_s5, d_s6, d_s7, d_s8, Classical.not_not, z2953_0, z2953_5, z3232_l, s132, hp, le_T, le_F, lt_T, lt_F, w32_T]
      exact nx _ _ ⟨rfl, rfl⟩
  · rintro ls h' ⟨rfl, rfl⟩
    refine G_in ?_
    simp (implicitDefEqProofs := false) (disch := omega) only [b290_1, b290_4, q290_4, x_aload0, y_call132, y_call291, x_gc_9219, x_gc_9259, x_goto_2, x_iaload, x_ifCond_eq_3, x_ifCond_lt_2, x_if_icmp_ge_4, x_if_icmp_ne_3, x_iload1, x_iload2, x_iload3, x_ireturn, klp_0, klp_1, klp_2, klp_3, klp_9, KC_0, KC_1, KC_2, KC_3, KC_4, ne_eq, not_false_eq_true, not_true_eq_false, true_and, and_true, and_self, implies_true, eq_self, true_imp_iff, false_implies, Int.reduceEq, Int.reduceNe, Int.reduceMod, Int.reduceMul, Int.reduceAdd, Int.reduceSub, Int.reduceLT, Int.reduceLE, Nat.reduceAdd, Nat.reduceLeDiff, Nat.reduceLT, Nat.reduceSub, reduceIte, wds_n, wds_0, wds_1, wds_2, wds_3, or_true, true_or, or_false, false_or, or_self, false_and, and_false, d_pos, d_s1, d_s2, d_s3, d_s4, d_s5, d_s6, d_s7, d_s8, Classical.not_not, z2953_0, s132, le_T, le_F, lt_T, lt_F, w32_T]
theorem s433 {d : Nat} {h : HV} {Q : Int → HV → Prop} {c : Int} (hc : 0 ≤ h 6603 25 ∧ h 6603 25 ≤ 24) : Sp fz1 d 433 [(3, 6603), (0, c)] h Q = Q (sumI (fun p => isE (h 12576 p) c) (h 6603 25).toNat) h := by
  refine Sp_is ?_ Q
  simp (implicitDefEqProofs := false) (disch := omega) only [sp433, b433_0, b433_1, b433_2, b433_3, b433_4, q433_2, q433_3, q433_4, x_aload0, x_gc_11947, x_gf_11464, x_goto_1, x_goto_3, x_iadd, x_iaload, x_iconst, x_if_icmp_ge_4, x_if_icmp_ne_2, x_iinc3, x_iload1, x_iload2, x_iload3, x_ireturn, x_istore2, x_istore3, klp_0, klp_1, klp_2, klp_3, klp_9, KC_0, KC_1, KC_2, KC_3, KC_4, ne_eq, not_false_eq_true, not_true_eq_false, true_and, and_true, and_self, implies_true, eq_self, true_imp_iff, false_implies, Int.reduceEq, Int.reduceNe, Int.reduceMod, Int.reduceMul, Int.reduceAdd, Int.reduceSub, Int.reduceLT, Int.reduceLE, Nat.reduceAdd, Nat.reduceLeDiff, Nat.reduceLT, Nat.reduceSub, reduceIte, wds_n, wds_0, wds_1, wds_2, wds_3, or_true, true_or, or_false, false_or, or_self, false_and, and_false, d_pos, d_s1, d_s2, d_s3, d_s4, d_s5, d_s6, d_s7, d_s8, Classical.not_not]
  refine forG (N := (h 6603 25).toNat) (I := fun j ls h' => ls = [(3, 6603), (0, c), (0, sumI (fun p => isE (h 12576 p) c) j), (0, (j : Int))] ∧ h' = h) ?_ ?_ (j := 0) (Nat.zero_le _) ⟨rfl, rfl⟩
  · rintro j ls h' hj ⟨rfl, rfl⟩ nx
    have sb := sumI_b (f := fun p => isE (h' 12576 p) c) (fun i => isE_b _ _) j
    have e : sumI (fun p => isE (h' 12576 p) c) (j + 1) = sumI (fun p => isE (h' 12576 p) c) j + isE (h' 12576 j) c := rfl
    rw [e] at nx
    generalize sumI (fun p => isE (h' 12576 p) c) j = s at *
    refine G_in ?_
    by_cases hp : h' 12576 j = c
    · rw [show isE (h' 12576 j) c = 1 by rw [isE, if_pos hp]] at nx
      simp (implicitDefEqProofs := false) (disch := omega) only [b433_1, b433_2, b433_3, q433_2, q433_3, x_aload0, x_gc_11947, x_gf_11464, x_goto_1, x_goto_3, x_iadd, x_iaload, x_iconst, x_if_icmp_ge_4, x_if_icmp_ne_2, x_iinc3, x_iload1, x_iload2, x_iload3, x_istore2, klp_0, klp_1, klp_2, klp_3, klp_9, KC_0, KC_1, KC_2, KC_3, KC_4, ne_eq, not_false_eq_true, not_true_eq_false, true_and, and_true, and_self, implies_true, eq_self, true_imp_iff, false_implies, Int.reduceEq, Int.reduceNe, Int.reduceMod, Int.reduceMul, Int.reduceAdd, Int.reduceSub, Int.reduceLT, Int.reduceLE, Nat.reduceAdd, Nat.reduceLeDiff, Nat.reduceLT, Nat.reduceSub, reduceIte, wds_n, wds_0, wds_1, wds_2, wds_3, or_true, true_or, or_false, false_or, or_self, false_and, and_false, d_pos, d_s1, d_s2, d_s3, d_s4, d_s5, d_s6, d_s7, d_s8, Classical.not_not, z6603_85, z12576_l, eq_true hp, le_T, le_F, lt_T, lt_F, w32_T]
      exact nx _ _ ⟨rfl, rfl⟩
    · rw [show isE (h' 12576 j) c = 0 by rw [isE, if_neg hp], Int.add_zero] at nx
      simp (implicitDefEqProofs := false) (disch := omega) only [b433_1, b433_2, b433_3, q433_2, q433_3, x_aload0, x_gc_11947, x_gf_11464, x_goto_1, x_goto_3, x_iadd, x_iaload, x_iconst, x_if_icmp_ge_4, x_if_icmp_ne_2, x_iinc3, x_iload1, x_iload2, x_iload3, x_istore2, klp_0, klp_1, klp_2, klp_3, klp_9, KC_0, KC_1, KC_2, KC_3, KC_4, ne_eq, not_false_eq_true, not_true_eq_false, true_and, and_true, and_self, implies_true, eq_self, true_imp_iff, false_implies, Int.reduceEq, Int.reduceNe, Int.reduceMod, Int.reduceMul, Int.reduceAdd, Int.reduceSub, Int.reduceLT, Int.reduceLE, Nat.reduceAdd, Nat.reduceLeDiff, Nat.reduceLT, Nat.reduceSub, reduceIte, wds_n, wds_0, wds_1, wds_2, wds_3, or_true, true_or, or_false, false_or, or_self, false_and, and_false, d_pos, d_s1, d_s2, d_s3, d_s4, d_s5, d_s6, d_s7, d_s8, Classical.not_not, z6603_85, z12576_l, hp, le_T, le_F, lt_T, lt_F, w32_T]
      exact nx _ _ ⟨by rw [Int.add_zero]; rfl, rfl⟩
  · rintro ls h' ⟨rfl, rfl⟩
    refine G_in ?_
    simp (implicitDefEqProofs := false) (disch := omega) only [b433_1, b433_4, q433_4, x_aload0, x_gc_11947, x_gf_11464, x_goto_3, x_iaload, x_iconst, x_if_icmp_ge_4, x_if_icmp_ne_2, x_iload1, x_iload2, x_iload3, x_ireturn, klp_0, klp_1, klp_2, klp_3, klp_9, KC_0, KC_1, KC_2, KC_3, KC_4, ne_eq, not_false_eq_true, not_true_eq_false, true_and, and_true, and_self, implies_true, eq_self, true_imp_iff, false_implies, Int.reduceEq, Int.reduceNe, Int.reduceMod, Int.reduceMul, Int.reduceAdd, Int.reduceSub, Int.reduceLT, Int.reduceLE, Nat.reduceAdd, Nat.reduceLeDiff, Nat.reduceLT, Nat.reduceSub, reduceIte, wds_n, wds_0, wds_1, wds_2, wds_3, or_true, true_or, or_false, false_or, or_self, false_and, and_false, d_pos, d_s1, d_s2, d_s3, d_s4, d_s5, d_s6, d_s7, d_s8, Classical.not_not, le_T, le_F, lt_T, lt_F, w32_T]
