/-! THE PURE SIDE, 35: the lottery, both sides: printed by wip/tools/gen54.py -/
/-- the sum of f 0 to f (n - 1) -/
def sumI (f : Int → Int) : Nat → Int
  | 0 => 0
  | n + 1 => sumI f n + f n
theorem sumI_b {f : Int → Int} (hf : ∀ i, 0 ≤ f i ∧ f i ≤ 1) : ∀ n, 0 ≤ sumI f n ∧ sumI f n ≤ n
  | 0 => ⟨Int.le_refl _, Int.le_refl _⟩
  | n + 1 => by
    have := sumI_b hf n
    have := hf n
    rw [sumI]
    omega
theorem sumI_c {f g : Int → Int} : ∀ n : Nat, (∀ i : Int, 0 ≤ i → i < (n : Int) → f i = g i) → sumI f n = sumI g n
  | 0, _ => rfl
  | n + 1, h => by rw [sumI, sumI, sumI_c n (fun i q1 q2 => h i q1 (by omega)), h n (by omega) (by omega)]
def isZ (v : Int) : Int := if v = 0 then 1 else 0
theorem isZ_b (v : Int) : 0 ≤ isZ v ∧ isZ v ≤ 1 := by unfold isZ; split <;> decide
/-- the number drawn -/
def drA (s p c : Int) : Int := i_xor s (w32 ((16 * p + c) * NV_1640531535))
def drB (s p c : Int) : Int := w32 (i_xor (drA s p c) (i_ushr (drA s p c) 15) * NV_2048144777)
def drF (s p c : Int) : Int := i_xor (drB s p c) (i_ushr (drB s p c) 13)
/-- the tickets drawn: of all before n, and of n those before k -/
def tkH (ar kd : Int) (h : HV) (s m n k : Int) : HV := fun o i => if o = ar ∧ 0 ≤ i ∧ h kd (i / 8) = 0 ∧ (i / 8 < n ∧ i % 8 < m ∨ i / 8 = n ∧ i % 8 < k) then drF s (i / 8) (i % 8) else h o i
theorem tkH_v (ar kd : Int) (h : HV) (s m n k o i : Int) : tkH ar kd h s m n k o i = if o = ar ∧ 0 ≤ i ∧ h kd (i / 8) = 0 ∧ (i / 8 < n ∧ i % 8 < m ∨ i / 8 = n ∧ i % 8 < k) then drF s (i / 8) (i % 8) else h o i := rfl
theorem tkH_ne {ar kd : Int} {h : HV} {s m n k o : Int} (ho : o ≠ ar) : tkH ar kd h s m n k o = h o := by
  funext i
  rw [tkH_v, if_neg (fun q => ho q.1)]
theorem tkH_0 (ar kd : Int) (h : HV) (s m : Int) : tkH ar kd h s m 0 0 = h := by
  funext o i
  rw [tkH_v, if_neg (fun q => by omega)]
theorem tkH_e (ar kd : Int) (h : HV) (s m n : Int) : tkH ar kd h s m n m = tkH ar kd h s m (n + 1) 0 := by
  funext o i
  rw [tkH_v, tkH_v]
  by_cases hz : o = ar ∧ 0 ≤ i ∧ h kd (i / 8) = 0
  · by_cases q : i / 8 < n ∧ i % 8 < m ∨ i / 8 = n ∧ i % 8 < m
    · rw [if_pos ⟨hz.1, hz.2.1, hz.2.2, q⟩, if_pos ⟨hz.1, hz.2.1, hz.2.2, by omega⟩]
    · rw [if_neg (fun w => q w.2.2.2), if_neg (fun w => q (by have := w.2.2.2; omega))]
  · rw [if_neg (fun w => hz ⟨w.1, w.2.1, w.2.2.1⟩), if_neg (fun w => hz ⟨w.1, w.2.1, w.2.2.1⟩)]
theorem tkH_n {ar kd : Int} {h : HV} {s m n : Int} (hk : ¬ h kd n = 0) : tkH ar kd h s m n 0 = tkH ar kd h s m (n + 1) 0 := by
  funext o i
  rw [tkH_v, tkH_v]
  by_cases hz : o = ar ∧ 0 ≤ i ∧ h kd (i / 8) = 0
  · have hn : i / 8 ≠ n := fun e => hk (by rw [← e]; exact hz.2.2)
    by_cases q : i / 8 < n ∧ i % 8 < m
    · rw [if_pos ⟨hz.1, hz.2.1, hz.2.2, .inl q⟩, if_pos ⟨hz.1, hz.2.1, hz.2.2, by omega⟩]
    · rw [if_neg (fun w => by have := w.2.2.2; omega), if_neg (fun w => by have := w.2.2.2; omega)]
  · rw [if_neg (fun w => hz ⟨w.1, w.2.1, w.2.2.1⟩), if_neg (fun w => hz ⟨w.1, w.2.1, w.2.2.1⟩)]
theorem tkH_s {ar kd : Int} {h : HV} {s m n k x v : Int} (hn : 0 ≤ n) (hk : h kd n = 0) (hj : 0 ≤ k ∧ k < 8) (hx : x = 8 * n + k) (hv : v = drF s n k) : hset (tkH ar kd h s m n k) ar x v = tkH ar kd h s m n (k + 1) := by
  subst hx hv
  funext o i
  rw [hset_v, tkH_v, tkH_v]
  by_cases e : o = ar ∧ i = 8 * n + k
  · have e1 : i / 8 = n := by omega
    have e2 : i % 8 = k := by omega
    rw [if_pos e, if_pos ⟨e.1, by omega, by rw [e1]; exact hk, .inr ⟨e1, by omega⟩⟩, e1, e2]
  · rw [if_neg e]
    by_cases hz : o = ar ∧ 0 ≤ i ∧ h kd (i / 8) = 0
    · have hn : i ≠ 8 * n + k := fun w => e ⟨hz.1, w⟩
      by_cases q : i / 8 < n ∧ i % 8 < m ∨ i / 8 = n ∧ i % 8 < k
      · rw [if_pos ⟨hz.1, hz.2.1, hz.2.2, q⟩, if_pos ⟨hz.1, hz.2.1, hz.2.2, by omega⟩]
      · rw [if_neg (fun w => q w.2.2.2), if_neg (fun w => by have := w.2.2.2; omega)]
    · rw [if_neg (fun w => hz ⟨w.1, w.2.1, w.2.2.1⟩), if_neg (fun w => hz ⟨w.1, w.2.1, w.2.2.1⟩)]
theorem s278 {d : Nat} {h : HV} {Q : Int → HV → Prop} {s p c : Int} (hp : 0 ≤ p ∧ p < 24) (hc : 0 ≤ c ∧ c < 8) : Sp fz1 d 278 [(0, s), (0, p), (0, c)] h Q = Q (drF s p c) h := by
  simp (implicitDefEqProofs := false) (disch := omega) only [sp278, n278_0, x_iadd, x_iconst, x_iload0, x_iload1, x_iload2, x_iload3, x_imul, x_ireturn, x_istore3, x_iushr, x_ixor, klp_0, klp_1, klp_2, klp_3, klp_9, KC_0, KC_1, KC_2, KC_3, KC_4, ne_eq, not_false_eq_true, not_true_eq_false, true_and, and_true, and_self, implies_true, eq_self, true_imp_iff, false_implies, Int.reduceEq, Int.reduceNe, Int.reduceMod, Int.reduceMul, Int.reduceAdd, Int.reduceSub, Int.reduceLT, Int.reduceLE, Nat.reduceAdd, Nat.reduceLeDiff, Nat.reduceLT, Nat.reduceSub, reduceIte, wds_n, wds_0, wds_1, wds_2, wds_3, or_true, true_or, or_false, false_or, or_self, false_and, and_false, d_pos, d_s1, d_s2, d_s3, d_s4, d_s5, d_s6, d_s7, d_s8, Classical.not_not, drF, drB, drA, le_sub1, le_T, le_F, lt_T, lt_F, eq_F, w32_T, bz0, bz1, lc_le, lc_ge, lc_lt, lc_gt, lc_eq] <;> first | rfl | (rw [if_pos (by omega)] <;> rfl) | (rw [if_neg (by omega)] <;> rfl) | (exfalso; omega)
theorem in277 {d : Nat} {h : HV} {Q : Int → HV → Prop} {s c r : Int} (hr : 0 ≤ r ∧ r < 24) (hk : h 928 r = 0) (nx : G fz1 (d + 1) 277 4 [(3, 2953), (0, s), (0, c), (0, r), (0, 8)] [] (tkH 3168 928 h s 8 (r + 1) 0) Q) : G fz1 (d + 1) 277 3 [(3, 2953), (0, s), (0, c), (0, r), (0, 0)] [] (tkH 3168 928 h s 8 r 0) Q := by
  refine forG (N := 8) (I := fun j ls h' => ls = [(3, 2953), (0, s), (0, c), (0, r), (0, (j : Int))] ∧ h' = tkH 3168 928 h s 8 r j) ?_ ?_ (j := 0) (by decide) ⟨rfl, rfl⟩
  · rintro j ls h' hj ⟨rfl, rfl⟩ n2
    refine G_in ?_
    simp (implicitDefEqProofs := false) (disch := omega) only [b277_3, x_aload0, y_call278, x_gc_9251, x_goto_3, x_iadd, x_iastore, x_iconst, x_if_icmp_ge_4, x_iinc4, x_iload1, x_iload3, x_iload4, x_imul, klp_0, klp_1, klp_2, klp_3, klp_9, KC_0, KC_1, KC_2, KC_3, KC_4, ne_eq, not_false_eq_true, not_true_eq_false, true_and, and_true, and_self, implies_true, eq_self, true_imp_iff, false_implies, Int.reduceEq, Int.reduceNe, Int.reduceMod, Int.reduceMul, Int.reduceAdd, Int.reduceSub, Int.reduceLT, Int.reduceLE, Nat.reduceAdd, Nat.reduceLeDiff, Nat.reduceLT, Nat.reduceSub, reduceIte, wds_n, wds_0, wds_1, wds_2, wds_3, or_true, true_or, or_false, false_or, or_self, false_and, and_false, d_pos, d_s1, d_s2, d_s3, d_s4, d_s5, d_s6, d_s7, d_s8, Classical.not_not, z2953_4, z3168_l, s278, le_T, le_F, lt_T, lt_F, w32_T]
    exact n2 _ _ ⟨rfl, tkH_s hr.1 hk (by omega) (by omega) rfl⟩
  · rintro ls h' ⟨rfl, rfl⟩
    refine G_in ?_
    simp (implicitDefEqProofs := false) (disch := omega) only [b277_3, x_aload0, y_call278, x_gc_9251, x_goto_3, x_iadd, x_iastore, x_iconst, x_if_icmp_ge_4, x_iinc4, x_iload1, x_iload3, x_iload4, x_imul, klp_0, klp_1, klp_2, klp_3, klp_9, KC_0, KC_1, KC_2, KC_3, KC_4, ne_eq, not_false_eq_true, not_true_eq_false, true_and, and_true, and_self, implies_true, eq_self, true_imp_iff, false_implies, Int.reduceEq, Int.reduceNe, Int.reduceMod, Int.reduceMul, Int.reduceAdd, Int.reduceSub, Int.reduceLT, Int.reduceLE, Nat.reduceAdd, Nat.reduceLeDiff, Nat.reduceLT, Nat.reduceSub, reduceIte, wds_n, wds_0, wds_1, wds_2, wds_3, or_true, true_or, or_false, false_or, or_self, false_and, and_false, d_pos, d_s1, d_s2, d_s3, d_s4, d_s5, d_s6, d_s7, d_s8, Classical.not_not, le_T, le_F, lt_T, lt_F, w32_T]
    have e := tkH_e 3168 928 h s 8 r
    rw [show (((8 : Nat) : Int)) = 8 from rfl, e]
    exact nx
theorem s277 {d : Nat} {h : HV} {Q : Int → HV → Prop} {s : Int} (hc : 0 ≤ h 836 4 ∧ h 836 4 ≤ 24) : Sp fz1 (d + 3) 277 [(3, 2953), (0, s)] h Q = Q (sumI (fun r => isZ (h 928 r)) (h 836 4).toNat) (tkH 3168 928 h s 8 (h 836 4) 0) := by
  refine Sp_is ?_ Q
  simp (implicitDefEqProofs := false) (disch := omega) only [sp277, b277_0, b277_1, b277_2, b277_3, b277_4, b277_5, q277_2, q277_3, q277_4, q277_5, x_aload0, y_call132, y_call138, y_call278, x_gc_9219, x_gc_9251, x_goto_1, x_goto_3, x_goto_4, x_iadd, x_iastore, x_iconst, x_ifCond_ne_2, x_if_icmp_ge_4, x_if_icmp_ge_5, x_iinc2, x_iinc3, x_iinc4, x_iload1, x_iload2, x_iload3, x_iload4, x_imul, x_ireturn, x_istore2, x_istore3, x_istore4, klp_0, klp_1, klp_2, klp_3, klp_9, KC_0, KC_1, KC_2, KC_3, KC_4, ne_eq, not_false_eq_true, not_true_eq_false, true_and, and_true, and_self, implies_true, eq_self, true_imp_iff, false_implies, Int.reduceEq, Int.reduceNe, Int.reduceMod, Int.reduceMul, Int.reduceAdd, Int.reduceSub, Int.reduceLT, Int.reduceLE, Nat.reduceAdd, Nat.reduceLeDiff, Nat.reduceLT, Nat.reduceSub, reduceIte, wds_n, wds_0, wds_1, wds_2, wds_3, or_true, true_or, or_false, false_or, or_self, false_and, and_false, d_pos, d_s1, d_s2, d_s3, d_s4, d_s5, d_s6, d_s7, d_s8, Classical.not_not]
  refine forG (N := (h 836 4).toNat) (I := fun j ls h' => (∃ k, ls = [(3, 2953), (0, s), (0, sumI (fun r => isZ (h 928 r)) j), (0, (j : Int)), k]) ∧ h' = tkH 3168 928 h s 8 j 0) ?_ ?_ (j := 0) (Nat.zero_le _) ⟨⟨_, rfl⟩, (tkH_0 _ _ _ _ _).symm⟩
  · rintro j ls h' hj ⟨⟨k, rfl⟩, rfl⟩ nx
    have q1 : tkH 3168 928 h s 8 (j : Int) 0 836 = h 836 := tkH_ne (by decide)
    have q2 : tkH 3168 928 h s 8 (j : Int) 0 928 = h 928 := tkH_ne (by decide)
    have q3 : tkH 3168 928 h s 8 (j : Int) 0 836 4 ≤ 24 := by rw [q1]; exact hc.2
    have b1 : 0 ≤ (j : Int) := by omega
    have b2 : (j : Int) < h 836 4 := by omega
    have b3 := sumI_b (f := fun r => isZ (h 928 r)) (fun i => isZ_b _) j
    have e : sumI (fun r => isZ (h 928 r)) (j + 1) = sumI (fun r => isZ (h 928 r)) j + isZ (h 928 j) := rfl
    rw [e] at nx
    generalize sumI (fun r => isZ (h 928 r)) j = c at *
    by_cases hk : h 928 j = 0
    · rw [show isZ (h 928 j) = 1 by rw [isZ, if_pos hk]] at nx
      refine G_in ?_
      simp (implicitDefEqProofs := false) (disch := omega) only [b277_1, b277_2, q277_2, x_aload0, y_call132, y_call138, x_gc_9219, x_goto_3, x_goto_4, x_iconst, x_ifCond_ne_2, x_if_icmp_ge_5, x_iinc2, x_iload3, x_istore4, klp_0, klp_1, klp_2, klp_3, klp_9, KC_0, KC_1, KC_2, KC_3, KC_4, ne_eq, not_false_eq_true, not_true_eq_false, true_and, and_true, and_self, implies_true, eq_self, true_imp_iff, false_implies, Int.reduceEq, Int.reduceNe, Int.reduceMod, Int.reduceMul, Int.reduceAdd, Int.reduceSub, Int.reduceLT, Int.reduceLE, Nat.reduceAdd, Nat.reduceLeDiff, Nat.reduceLT, Nat.reduceSub, reduceIte, wds_n, wds_0, wds_1, wds_2, wds_3, or_true, true_or, or_false, false_or, or_self, false_and, and_false, d_pos, d_s1, d_s2, d_s3, d_s4, d_s5, d_s6, d_s7, d_s8, Classical.not_not, z2953_0, s132, s138 q3, q1, q2, hk, eq_true b1, eq_true b2, lc_lt, lc_ge, bz0, bz1, le_T, le_F, lt_T, lt_F, w32_T]
      refine in277 (d := d + 2) (by omega) hk ?_
      refine G_in ?_
      simp (implicitDefEqProofs := false) (disch := omega) only [b277_4, q277_4, x_goto_1, x_iinc3, klp_0, klp_1, klp_2, klp_3, klp_9, KC_0, KC_1, KC_2, KC_3, KC_4, ne_eq, not_false_eq_true, not_true_eq_false, true_and, and_true, and_self, implies_true, eq_self, true_imp_iff, false_implies, Int.reduceEq, Int.reduceNe, Int.reduceMod, Int.reduceMul, Int.reduceAdd, Int.reduceSub, Int.reduceLT, Int.reduceLE, Nat.reduceAdd, Nat.reduceLeDiff, Nat.reduceLT, Nat.reduceSub, reduceIte, wds_n, wds_0, wds_1, wds_2, wds_3, or_true, true_or, or_false, false_or, or_self, false_and, and_false, d_pos, d_s1, d_s2, d_s3, d_s4, d_s5, d_s6, d_s7, d_s8, Classical.not_not, w32_T]
      exact nx _ _ ⟨⟨_, rfl⟩, rfl⟩
    · rw [show isZ (h 928 j) = 0 by rw [isZ, if_neg hk], Int.add_zero] at nx
      refine G_in ?_
      simp (implicitDefEqProofs := false) (disch := omega) only [b277_1, b277_2, b277_4, q277_2, q277_4, x_aload0, y_call132, y_call138, x_gc_9219, x_goto_1, x_goto_3, x_goto_4, x_iconst, x_ifCond_ne_2, x_if_icmp_ge_5, x_iinc2, x_iinc3, x_iload3, x_istore4, klp_0, klp_1, klp_2, klp_3, klp_9, KC_0, KC_1, KC_2, KC_3, KC_4, ne_eq, not_false_eq_true, not_true_eq_false, true_and, and_true, and_self, implies_true, eq_self, true_imp_iff, false_implies, Int.reduceEq, Int.reduceNe, Int.reduceMod, Int.reduceMul, Int.reduceAdd, Int.reduceSub, Int.reduceLT, Int.reduceLE, Nat.reduceAdd, Nat.reduceLeDiff, Nat.reduceLT, Nat.reduceSub, reduceIte, wds_n, wds_0, wds_1, wds_2, wds_3, or_true, true_or, or_false, false_or, or_self, false_and, and_false, d_pos, d_s1, d_s2, d_s3, d_s4, d_s5, d_s6, d_s7, d_s8, Classical.not_not, z2953_0, s132, s138 q3, q1, q2, hk, eq_true b1, eq_true b2, lc_lt, lc_ge, bz0, bz1, le_T, le_F, lt_T, lt_F, w32_T]
      refine nx _ _ ⟨⟨_, rfl⟩, tkH_n hk⟩
  · rintro ls h' ⟨⟨k, rfl⟩, rfl⟩
    have q1 : tkH 3168 928 h s 8 ((h 836 4).toNat : Int) 0 836 = h 836 := tkH_ne (by decide)
    have b1 : ((h 836 4).toNat : Int) = h 836 4 := by omega
    refine G_in ?_
    simp (implicitDefEqProofs := false) (disch := omega) only [b277_1, b277_5, q277_5, x_aload0, y_call132, y_call138, x_gc_9219, x_goto_4, x_ifCond_ne_2, x_if_icmp_ge_5, x_iload2, x_iload3, x_ireturn, klp_0, klp_1, klp_2, klp_3, klp_9, KC_0, KC_1, KC_2, KC_3, KC_4, ne_eq, not_false_eq_true, not_true_eq_false, true_and, and_true, and_self, implies_true, eq_self, true_imp_iff, false_implies, Int.reduceEq, Int.reduceNe, Int.reduceMod, Int.reduceMul, Int.reduceAdd, Int.reduceSub, Int.reduceLT, Int.reduceLE, Nat.reduceAdd, Nat.reduceLeDiff, Nat.reduceLT, Nat.reduceSub, reduceIte, wds_n, wds_0, wds_1, wds_2, wds_3, or_true, true_or, or_false, false_or, or_self, false_and, and_false, d_pos, d_s1, d_s2, d_s3, d_s4, d_s5, d_s6, d_s7, d_s8, Classical.not_not, z2953_0, s132, q1, le_T, le_F, lt_T, lt_F, w32_T]
    rw [b1]
theorem in428 {d : Nat} {h : HV} {Q : Int → HV → Prop} {s c r : Int} {x : AV} (hS : TR (h 6603 9)) (hm : 0 ≤ h (h 6603 9 + 84) 5 ∧ h (h 6603 9 + 84) 5 ≤ 8) (hr : 0 ≤ r ∧ r < 24) (hk : h 10016 r = 0) (nx : ∀ y z, G fz1 d 428 3 [(3, 6603), (0, s), (0, c), (0, r), y, z] [] (tkH 12512 10016 h s (h (h 6603 9 + 84) 5) (r + 1) 0) Q) : G fz1 d 428 2 [(3, 6603), (0, s), (0, c), (0, r), (0, 0), x] [] (tkH 12512 10016 h s (h (h 6603 9 + 84) 5) r 0) Q := by
  generalize hM : h (h 6603 9 + 84) 5 = m at *
  have Tn : h 6603 9 + 84 ≠ 12512 := by rcases hS with w | w <;> omega
  refine forG (N := m.toNat) (I := fun j ls h' => (∃ y, ls = [(3, 6603), (0, s), (0, c), (0, r), (0, (j : Int)), y]) ∧ h' = tkH 12512 10016 h s m r j) ?_ ?_ (j := 0) (by omega) ⟨⟨_, rfl⟩, rfl⟩
  · rintro j ls h' hj ⟨⟨y, rfl⟩, rfl⟩ n2
    have q1 : tkH 12512 10016 h s m r (j : Int) 6603 = h 6603 := tkH_ne (by decide)
    have q2 : tkH 12512 10016 h s m r (j : Int) (h 6603 9 + 84) = h (h 6603 9 + 84) := tkH_ne Tn
    refine G_in ?_
    simp (implicitDefEqProofs := false) (disch := omega) only [n428_2, x_aload0, x_gc_11939, x_gc_12291, x_gf_11339, x_goto_2, x_iadd, x_iaload, x_iastore, x_iconst, x_if_icmp_ge_3, x_iinc4, x_iload1, x_iload3, x_iload4, x_iload5, x_imul, x_istore5, x_iushr, x_ixor, klp_0, klp_1, klp_2, klp_3, klp_9, KC_0, KC_1, KC_2, KC_3, KC_4, ne_eq, not_false_eq_true, not_true_eq_false, true_and, and_true, and_self, implies_true, eq_self, true_imp_iff, false_implies, Int.reduceEq, Int.reduceNe, Int.reduceMod, Int.reduceMul, Int.reduceAdd, Int.reduceSub, Int.reduceLT, Int.reduceLE, Nat.reduceAdd, Nat.reduceLeDiff, Nat.reduceLT, Nat.reduceSub, reduceIte, wds_n, wds_0, wds_1, wds_2, wds_3, or_true, true_or, or_false, false_or, or_self, false_and, and_false, d_pos, d_s1, d_s2, d_s3, d_s4, d_s5, d_s6, d_s7, d_s8, Classical.not_not, z6603_84, z12512_l, r0 hS, r0l hS, r0k hS, TR_0 hS, TR_k hS, q1, q2, hM, le_T, le_F, lt_T, lt_F, w32_T]
    exact n2 _ _ ⟨⟨_, rfl⟩, tkH_s hr.1 hk (by omega) (by omega) rfl⟩
  · rintro ls h' ⟨⟨y, rfl⟩, rfl⟩
    have q1 : tkH 12512 10016 h s m r (m.toNat : Int) 6603 = h 6603 := tkH_ne (by decide)
    have q2 : tkH 12512 10016 h s m r (m.toNat : Int) (h 6603 9 + 84) = h (h 6603 9 + 84) := tkH_ne Tn
    refine G_in ?_
    simp (implicitDefEqProofs := false) (disch := omega) only [n428_2, x_aload0, x_gc_11939, x_gc_12291, x_gf_11339, x_goto_2, x_iadd, x_iaload, x_iastore, x_iconst, x_if_icmp_ge_3, x_iinc4, x_iload1, x_iload3, x_iload4, x_iload5, x_imul, x_istore5, x_iushr, x_ixor, klp_0, klp_1, klp_2, klp_3, klp_9, KC_0, KC_1, KC_2, KC_3, KC_4, ne_eq, not_false_eq_true, not_true_eq_false, true_and, and_true, and_self, implies_true, eq_self, true_imp_iff, false_implies, Int.reduceEq, Int.reduceNe, Int.reduceMod, Int.reduceMul, Int.reduceAdd, Int.reduceSub, Int.reduceLT, Int.reduceLE, Nat.reduceAdd, Nat.reduceLeDiff, Nat.reduceLT, Nat.reduceSub, reduceIte, wds_n, wds_0, wds_1, wds_2, wds_3, or_true, true_or, or_false, false_or, or_self, false_and, and_false, d_pos, d_s1, d_s2, d_s3, d_s4, d_s5, d_s6, d_s7, d_s8, Classical.not_not, r0 hS, r0l hS, r0k hS, TR_0 hS, TR_k hS, q1, q2, hM, le_T, le_F, lt_T, lt_F, w32_T]
    rw [show ((m.toNat : Nat) : Int) = m by omega, tkH_e]
    exact nx _ _
theorem s428 {d : Nat} {h : HV} {Q : Int → HV → Prop} {s : Int} (hS : TR (h 6603 9)) (hm : 0 ≤ h (h 6603 9 + 84) 5 ∧ h (h 6603 9 + 84) 5 ≤ 8) (hc : 0 ≤ h 6603 25 ∧ h 6603 25 ≤ 24) : Sp fz1 d 428 [(3, 6603), (0, s)] h Q = Q (sumI (fun r => isZ (h 10016 r)) (h 6603 25).toNat) (tkH 12512 10016 h s (h (h 6603 9 + 84) 5) (h 6603 25) 0) := by
  refine Sp_is ?_ Q
  have Tn : h 6603 9 + 84 ≠ 12512 := by rcases hS with w | w <;> omega
  simp (implicitDefEqProofs := false) (disch := omega) only [sp428, b428_0, b428_1, n428_2, b428_3, b428_4, b428_5, q428_2, q428_3, q428_4, q428_5, x_aload0, x_gc_11475, x_gc_11939, x_gc_12291, x_gf_11339, x_gf_11464, x_goto_1, x_goto_2, x_goto_4, x_iadd, x_iaload, x_iastore, x_iconst, x_ifCond_ne_4, x_if_icmp_ge_3, x_if_icmp_ge_5, x_iinc2, x_iinc3, x_iinc4, x_iload1, x_iload2, x_iload3, x_iload4, x_iload5, x_imul, x_ireturn, x_istore2, x_istore3, x_istore4, x_istore5, x_iushr, x_ixor, klp_0, klp_1, klp_2, klp_3, klp_9, KC_0, KC_1, KC_2, KC_3, KC_4, ne_eq, not_false_eq_true, not_true_eq_false, true_and, and_true, and_self, implies_true, eq_self, true_imp_iff, false_implies, Int.reduceEq, Int.reduceNe, Int.reduceMod, Int.reduceMul, Int.reduceAdd, Int.reduceSub, Int.reduceLT, Int.reduceLE, Nat.reduceAdd, Nat.reduceLeDiff, Nat.reduceLT, Nat.reduceSub, reduceIte, wds_n, wds_0, wds_1, wds_2, wds_3, or_true, true_or, or_false, false_or, or_self, false_and, and_false, d_pos, d_s1, d_s2, d_s3, d_s4, d_s5, d_s6, d_s7, d_s8, Classical.not_not]
  refine forG (N := (h 6603 25).toNat) (I := fun j ls h' => (∃ y z, ls = [(3, 6603), (0, s), (0, sumI (fun r => isZ (h 10016 r)) j), (0, (j : Int)), y, z]) ∧ h' = tkH 12512 10016 h s (h (h 6603 9 + 84) 5) j 0) ?_ ?_ (j := 0) (Nat.zero_le _) ⟨⟨_, _, rfl⟩, (tkH_0 _ _ _ _ _).symm⟩
  · rintro j ls h' hj ⟨⟨y, z, rfl⟩, rfl⟩ nx
    have q1 : tkH 12512 10016 h s (h (h 6603 9 + 84) 5) (j : Int) 0 6603 = h 6603 := tkH_ne (by decide)
    have q2 : tkH 12512 10016 h s (h (h 6603 9 + 84) 5) (j : Int) 0 10016 = h 10016 := tkH_ne (by decide)
    have b3 := sumI_b (f := fun r => isZ (h 10016 r)) (fun i => isZ_b _) j
    have e : sumI (fun r => isZ (h 10016 r)) (j + 1) = sumI (fun r => isZ (h 10016 r)) j + isZ (h 10016 j) := rfl
    rw [e] at nx
    generalize sumI (fun r => isZ (h 10016 r)) j = c at *
    by_cases hk : h 10016 j = 0
    · rw [show isZ (h 10016 j) = 1 by rw [isZ, if_pos hk]] at nx
      refine G_in ?_
      simp (implicitDefEqProofs := false) (disch := omega) only [b428_1, x_aload0, x_gc_11475, x_gf_11464, x_goto_2, x_iaload, x_iconst, x_ifCond_ne_4, x_if_icmp_ge_5, x_iload3, x_istore4, klp_0, klp_1, klp_2, klp_3, klp_9, KC_0, KC_1, KC_2, KC_3, KC_4, ne_eq, not_false_eq_true, not_true_eq_false, true_and, and_true, and_self, implies_true, eq_self, true_imp_iff, false_implies, Int.reduceEq, Int.reduceNe, Int.reduceMod, Int.reduceMul, Int.reduceAdd, Int.reduceSub, Int.reduceLT, Int.reduceLE, Nat.reduceAdd, Nat.reduceLeDiff, Nat.reduceLT, Nat.reduceSub, reduceIte, wds_n, wds_0, wds_1, wds_2, wds_3, or_true, true_or, or_false, false_or, or_self, false_and, and_false, d_pos, d_s1, d_s2, d_s3, d_s4, d_s5, d_s6, d_s7, d_s8, Classical.not_not, z6603_26, z10016_l, q1, q2, eq_true hk, le_T, le_F, lt_T, lt_F, w32_T]
      refine in428 hS hm (by omega) hk (fun y z => ?_)
      refine G_in ?_
      simp (implicitDefEqProofs := false) (disch := omega) only [b428_3, b428_4, q428_3, q428_4, x_goto_1, x_goto_4, x_iinc2, x_iinc3, klp_0, klp_1, klp_2, klp_3, klp_9, KC_0, KC_1, KC_2, KC_3, KC_4, ne_eq, not_false_eq_true, not_true_eq_false, true_and, and_true, and_self, implies_true, eq_self, true_imp_iff, false_implies, Int.reduceEq, Int.reduceNe, Int.reduceMod, Int.reduceMul, Int.reduceAdd, Int.reduceSub, Int.reduceLT, Int.reduceLE, Nat.reduceAdd, Nat.reduceLeDiff, Nat.reduceLT, Nat.reduceSub, reduceIte, wds_n, wds_0, wds_1, wds_2, wds_3, or_true, true_or, or_false, false_or, or_self, false_and, and_false, d_pos, d_s1, d_s2, d_s3, d_s4, d_s5, d_s6, d_s7, d_s8, Classical.not_not, w32_T]
      exact nx _ _ ⟨⟨_, _, rfl⟩, rfl⟩
    · rw [show isZ (h 10016 j) = 0 by rw [isZ, if_neg hk], Int.add_zero] at nx
      refine G_in ?_
      simp (implicitDefEqProofs := false) (disch := omega) only [b428_1, b428_4, q428_4, x_aload0, x_gc_11475, x_gf_11464, x_goto_1, x_goto_2, x_iaload, x_iconst, x_ifCond_ne_4, x_if_icmp_ge_5, x_iinc3, x_iload3, x_istore4, klp_0, klp_1, klp_2, klp_3, klp_9, KC_0, KC_1, KC_2, KC_3, KC_4, ne_eq, not_false_eq_true, not_true_eq_false, true_and, and_true, and_self, implies_true, eq_self, true_imp_iff, false_implies, Int.reduceEq, Int.reduceNe, Int.reduceMod, Int.reduceMul, Int.reduceAdd, Int.reduceSub, Int.reduceLT, Int.reduceLE, Nat.reduceAdd, Nat.reduceLeDiff, Nat.reduceLT, Nat.reduceSub, reduceIte, wds_n, wds_0, wds_1, wds_2, wds_3, or_true, true_or, or_false, false_or, or_self, false_and, and_false, d_pos, d_s1, d_s2, d_s3, d_s4, d_s5, d_s6, d_s7, d_s8, Classical.not_not, z6603_26, z10016_l, q1, q2, hk, le_T, le_F, lt_T, lt_F, w32_T]
      refine nx _ _ ⟨⟨_, _, rfl⟩, tkH_n hk⟩
  · rintro ls h' ⟨⟨y, z, rfl⟩, rfl⟩
    have q1 : tkH 12512 10016 h s (h (h 6603 9 + 84) 5) ((h 6603 25).toNat : Int) 0 6603 = h 6603 := tkH_ne (by decide)
    refine G_in ?_
    simp (implicitDefEqProofs := false) (disch := omega) only [b428_1, b428_5, q428_5, x_aload0, x_gc_11475, x_gf_11464, x_goto_2, x_iaload, x_iconst, x_ifCond_ne_4, x_if_icmp_ge_5, x_iload2, x_iload3, x_ireturn, x_istore4, klp_0, klp_1, klp_2, klp_3, klp_9, KC_0, KC_1, KC_2, KC_3, KC_4, ne_eq, not_false_eq_true, not_true_eq_false, true_and, and_true, and_self, implies_true, eq_self, true_imp_iff, false_implies, Int.reduceEq, Int.reduceNe, Int.reduceMod, Int.reduceMul, Int.reduceAdd, Int.reduceSub, Int.reduceLT, Int.reduceLE, Nat.reduceAdd, Nat.reduceLeDiff, Nat.reduceLT, Nat.reduceSub, reduceIte, wds_n, wds_0, wds_1, wds_2, wds_3, or_true, true_or, or_false, false_or, or_self, false_and, and_false, d_pos, d_s1, d_s2, d_s3, d_s4, d_s5, d_s6, d_s7, d_s8, Classical.not_not, q1, le_T, le_F, lt_T, lt_F, w32_T]
    rw [show ((h 6603 25).toNat : Int) = h 6603 25 by omega]
theorem s276 {d : Nat} {h : HV} {Q : Int → HV → Prop} {s : Int} (hc : 0 ≤ h 836 4 ∧ h 836 4 ≤ 24) : Sp fz1 (d + 4) 276 [(3, 64), (0, s)] h Q = Q (sumI (fun r => isZ (h 928 r)) (h 836 4).toNat) (tkH 3168 928 h s 8 (h 836 4) 0) := by
  simp (implicitDefEqProofs := false) (disch := omega) only [sp276, b276_0, x_aload0, y_call277, x_gc_59, x_iload1, x_ireturn, klp_0, klp_1, klp_2, klp_3, klp_9, KC_0, KC_1, KC_2, KC_3, KC_4, ne_eq, not_false_eq_true, not_true_eq_false, true_and, and_true, and_self, implies_true, eq_self, true_imp_iff, false_implies, Int.reduceEq, Int.reduceNe, Int.reduceMod, Int.reduceMul, Int.reduceAdd, Int.reduceSub, Int.reduceLT, Int.reduceLE, Nat.reduceAdd, Nat.reduceLeDiff, Nat.reduceLT, Nat.reduceSub, reduceIte, wds_n, wds_0, wds_1, wds_2, wds_3, or_true, true_or, or_false, false_or, or_self, false_and, and_false, d_pos, d_s1, d_s2, d_s3, d_s4, d_s5, d_s6, d_s7, d_s8, Classical.not_not, z64_7, s277 hc, le_sub1, le_T, le_F, lt_T, lt_F, eq_F, w32_T, bz0, bz1, lc_le, lc_ge, lc_lt, lc_gt, lc_eq] <;> first | rfl | (rw [if_pos (by omega)] <;> rfl) | (rw [if_neg (by omega)] <;> rfl) | (exfalso; omega)
theorem tkH_in {ar kd : Int} {h : HV} {s m n p c : Int} (hp : 0 ≤ p ∧ p < n) (hc : 0 ≤ c ∧ c < m) (h8 : c < 8) : tkH ar kd h s m n 0 ar (8 * p + c) = if h kd p = 0 then drF s p c else h ar (8 * p + c) := by
  rw [tkH_v, show (8 * p + c) / 8 = p by omega, show (8 * p + c) % 8 = c by omega]
  by_cases hk : h kd p = 0
  · rw [if_pos hk, if_pos ⟨rfl, by omega, hk, by omega⟩]
  · rw [if_neg hk, if_neg (fun w => hk w.2.2.1)]
theorem tkH_out {ar kd : Int} {h : HV} {s m n p c : Int} (hp : n ≤ p) (hc : 0 ≤ c ∧ c < 8) : tkH ar kd h s m n 0 ar (8 * p + c) = h ar (8 * p + c) := by
  rw [tkH_v, if_neg (fun w => by have := w.2.2.2; omega)]
theorem RCh_lot {h : HV} {s : Int} (X : RTx h) (P : RPp h) (C : RCh h) : RCh (tkH 12512 10016 (tkH 3168 928 h s 8 (h 836 4) 0) s (h (h 64 8 + 598) 5) (h 836 4) 0) := by
  have X5 := rtx_5 X
  have N : ∀ a, a ≠ 3168 → a ≠ 12512 → tkH 12512 10016 (tkH 3168 928 h s 8 (h 836 4) 0) s (h (h 64 8 + 598) 5) (h 836 4) 0 a = h a := fun a q1 q2 => by rw [tkH_ne q2, tkH_ne q1]
  have V1 : tkH 12512 10016 (tkH 3168 928 h s 8 (h 836 4) 0) s (h (h 64 8 + 598) 5) (h 836 4) 0 3168 = tkH 3168 928 h s 8 (h 836 4) 0 3168 := tkH_ne (by decide)
  have V2 : tkH 3168 928 h s 8 (h 836 4) 0 12512 = h 12512 := tkH_ne (by decide)
  have V3 : tkH 3168 928 h s 8 (h 836 4) 0 10016 = h 10016 := tkH_ne (by decide)
  have hT : h 64 8 + 598 ≠ 3168 ∧ h 64 8 + 598 ≠ 12512 := by rcases X.1 with q | q <;> omega
  obtain ⟨c1, c2, c3, c4, c5⟩ := C
  unfold RCh
  rw [N 64 (by decide) (by decide), N _ hT.1 hT.2, N 836 (by decide) (by decide), N 12384 (by decide) (by decide), N 3104 (by decide) (by decide), N 12448 (by decide) (by decide), N 3040 (by decide) (by decide), N 928 (by decide) (by decide), N 12576 (by decide) (by decide), N 3232 (by decide) (by decide), N 2953 (by decide) (by decide), N 6603 (by decide) (by decide), V1]
  refine ⟨fun p q1 q2 => ?_, fun p q1 q2 => ?_, c3, c4, c5⟩
  · obtain ⟨d1, d2, d3, d4, d5, d6⟩ := c1 p q1 q2
    obtain ⟨k1, _, _, _⟩ := P.2.2 p q1 q2
    refine ⟨d1, d2, d3, fun c e1 e2 => ?_, fun hk => ⟨(d5 hk).1, fun c e1 e2 => ?_⟩, d6⟩
    · rw [tkH_in ⟨q1, q2⟩ ⟨e1, e2⟩ (by omega), tkH_in ⟨q1, q2⟩ ⟨e1, by omega⟩ (by omega), V2, V3, k1, d4 c e1 e2]
    · rw [tkH_in ⟨q1, q2⟩ ⟨e1, by omega⟩ (by omega), if_neg hk]
      exact (d5 hk).2 c e1 e2
  · obtain ⟨d1, d2, d3⟩ := c2 p q1 q2
    refine ⟨d1, fun c e1 e2 => ?_, d3⟩
    rw [tkH_out q1 ⟨e1, e2⟩]
    exact d2 c e1 e2
theorem op_lottery {d : Nat} {h : HV} {s : Int} (X : RTx h) (P : RPp h) (C : RCh h) : Sp fz1 (d + 4) 276 [(3, 64), (0, s)] h (fun x h1 => h1 50 = h 50 ∧ Sp fz1 (d + 4) 428 [(3, 6603), (0, s)] h1 (fun y h2 => x = y ∧ RCh h2 ∧ (∀ a, a ≠ 3168 → a ≠ 12512 → h2 a = h a))) := by
  have X5 := rtx_5 X
  have Tn : h 6603 9 + 84 ≠ 3168 := by rcases X.2.1 with w | w <;> omega
  have e1 : ∀ a, a ≠ 3168 → tkH 3168 928 h s 8 (h 836 4) 0 a = h a := fun a q1 => tkH_ne q1
  rw [s276 P.2.1]
  refine ⟨e1 _ (by decide), ?_⟩
  have a1 := e1 6603 (by decide)
  have a2 := e1 10016 (by decide)
  rw [s428 (by rw [a1]; exact X.2.1) (by rw [a1, e1 _ Tn]; omega) (by rw [a1, P.1]; exact P.2.1), a1, a2, e1 _ Tn, P.1, X5.1]
  refine ⟨sumI_c _ (fun i q1 q2 => ?_), RCh_lot X P C, fun a q1 q2 => by rw [tkH_ne q2, tkH_ne q1]⟩
  show isZ (h 928 i) = isZ (h 10016 i)
  rw [(P.2.2 i q1 (by omega)).1]
