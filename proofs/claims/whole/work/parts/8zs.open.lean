/-! THE PURE SIDE, 201: the school is opened on both sides: printed by wip/tools/gen8zs.py -/
/-- n of staff are people -/
def pC (T : Int) (h : HV) : Nat → HV
  | 0 => h
  | n + 1 => addH (pC T h n) (h (T + 726) n) n (-9)
def pR (S : Int) (h : HV) : Nat → HV
  | 0 => h
  | n + 1 => entH (pR S h n) (h (S + 276) n) n (-9)
def opC (T : Int) (h : HV) : HV := hset (hset (hset (hset (hset (fillH (fillH (fillH (hset (hset (fillH (hset (hset (hset (fillH (fillH (hset (hset (h) 1157 3 T) 1927 0 T) 2016 10 0) 2080 240 0) 1927 13 0) 1927 14 0) 2568 1 T) 2656 10 0) 2568 4 0) 2953 1 T) 3104 24 0) 3168 192 0) 3232 24 (-9)) 2953 6 0) 64 10 0) 64 11 0) 64 12 0) 64 16 0
section SM
variable {T S : Int} {h hr g gr k kr : HV} {Q : Int → HV → Prop} {d : Nat}
theorem opad_o {a b c o : Int} (x1 : o ≠ 836) (x2 : o ≠ 928) (x3 : o ≠ 992) (x4 : o ≠ 1056) (x5 : o ≠ 1120) : addH h a b c o = h o := by
  unfold addH
  rw [hs_ne x1]
  funext i
  unfold filR
  rw [if_neg (fun u => x5 u.1), hs_ne x4, hs_ne x3, hs_ne x2]
theorem open_o {a b c o : Int} (x0 : o ≠ 6603) (x1 : o ≠ 10016) (x2 : o ≠ 10080) (x3 : o ≠ 10144) (x4 : o ≠ 10208) (x5 : o ≠ 12384) (x6 : o ≠ 12512) (x7 : o ≠ 12576) : entH h a b c o = h o := by
  unfold entH
  rw [hs_ne x7]
  funext i
  unfold filR
  rw [if_neg (fun u => x6 u.1), hs_ne x5, if_neg (fun u => x4 u.1), hs_ne x3, hs_ne x2, hs_ne x1, hs_ne x0]
theorem opad_v {a b c : Int} : addH h a b c 836 4 = h 836 4 + 1 ∧ (∀ i, i ≠ 4 → addH h a b c 836 i = h 836 i) ∧ (∀ i, addH h a b c 928 i = if i = h 836 4 then a else h 928 i) ∧ (∀ i, addH h a b c 992 i = if i = h 836 4 then b else h 992 i) ∧ (∀ i, addH h a b c 1056 i = if i = h 836 4 then c else h 1056 i) ∧ ∀ i, addH h a b c 1120 i = if h 836 4 * 8 ≤ i ∧ i < h 836 4 * 8 + 8 then -1 else h 1120 i := by
  unfold addH
  refine ⟨hcel1, fun i x => ?_, fun i => ?_, fun i => ?_, fun i => ?_, fun i => ?_⟩
  · rw [hcell x]
    unfold filR
    rw [if_neg (fun u => absurd u.1 (by decide)), hs_ne (by decide), hs_ne (by decide), hs_ne (by decide)]
  · rw [hs_ne (by decide)]
    unfold filR
    rw [if_neg (fun u => absurd u.1 (by decide)), hs_ne (by decide), hs_ne (by decide)]
    by_cases e : i = h 836 4
    · rw [if_pos e, e, hcel1]
    · rw [if_neg e, hcell e]
  · rw [hs_ne (by decide)]
    unfold filR
    rw [if_neg (fun u => absurd u.1 (by decide)), hs_ne (by decide)]
    by_cases e : i = h 836 4
    · rw [if_pos e, e, hcel1]
    · rw [if_neg e, hcell e, hs_ne (by decide)]
  · rw [hs_ne (by decide)]
    unfold filR
    rw [if_neg (fun u => absurd u.1 (by decide))]
    by_cases e : i = h 836 4
    · rw [if_pos e, e, hcel1]
    · rw [if_neg e, hcell e, hs_ne (by decide), hs_ne (by decide)]
  · rw [hs_ne (by decide)]
    unfold filR
    by_cases e : h 836 4 * 8 ≤ i ∧ i < h 836 4 * 8 + 8
    · rw [if_pos e, if_pos ⟨rfl, e⟩]
    · rw [if_neg e, if_neg (fun u => e u.2), hs_ne (by decide), hs_ne (by decide), hs_ne (by decide)]
theorem open_v {a b c : Int} : entH h a b c 6603 25 = h 6603 25 + 1 ∧ (∀ i, i ≠ 25 → entH h a b c 6603 i = h 6603 i) ∧ (∀ i, entH h a b c 10016 i = if i = h 6603 25 then a else h 10016 i) ∧ (∀ i, entH h a b c 10080 i = if i = h 6603 25 then b else h 10080 i) ∧ (∀ i, entH h a b c 10144 i = if i = h 6603 25 then c else h 10144 i) ∧ (∀ i, entH h a b c 10208 i = if 8 * h 6603 25 ≤ i ∧ i < 8 * h 6603 25 + 8 then -9 else h 10208 i) ∧ (∀ i, entH h a b c 12384 i = if i = h 6603 25 then 0 else h 12384 i) ∧ (∀ i, entH h a b c 12512 i = if 8 * h 6603 25 ≤ i ∧ i < 8 * h 6603 25 + 8 then 0 else h 12512 i) ∧ (∀ i, entH h a b c 12576 i = if i = h 6603 25 then -9 else h 12576 i) := by
  unfold entH filR
  refine ⟨?_, ?_, ?_, ?_, ?_, ?_, ?_, ?_, ?_⟩
  · rw [hs_ne (by decide), if_neg (fun u => absurd u.1 (by decide)), hs_ne (by decide), if_neg (fun u => absurd u.1 (by decide)), hs_ne (by decide), hs_ne (by decide), hs_ne (by decide), hcel1]
  · intro i x
    rw [hs_ne (by decide), if_neg (fun u => absurd u.1 (by decide)), hs_ne (by decide), if_neg (fun u => absurd u.1 (by decide)), hs_ne (by decide), hs_ne (by decide), hs_ne (by decide), hcell x]
  · intro i
    by_cases e : i = h 6603 25
    · rw [if_pos e, hs_ne (by decide), if_neg (fun u => absurd u.1 (by decide)), hs_ne (by decide), if_neg (fun u => absurd u.1 (by decide)), hs_ne (by decide), hs_ne (by decide)]
      rw [e, hcel1]
    · rw [if_neg e, hs_ne (by decide), if_neg (fun u => absurd u.1 (by decide)), hs_ne (by decide), if_neg (fun u => absurd u.1 (by decide)), hs_ne (by decide), hs_ne (by decide), hcell e, hs_ne (by decide)]
  · intro i
    by_cases e : i = h 6603 25
    · rw [if_pos e, hs_ne (by decide), if_neg (fun u => absurd u.1 (by decide)), hs_ne (by decide), if_neg (fun u => absurd u.1 (by decide)), hs_ne (by decide)]
      rw [e, hcel1]
    · rw [if_neg e, hs_ne (by decide), if_neg (fun u => absurd u.1 (by decide)), hs_ne (by decide), if_neg (fun u => absurd u.1 (by decide)), hs_ne (by decide), hcell e, hs_ne (by decide), hs_ne (by decide)]
  · intro i
    by_cases e : i = h 6603 25
    · rw [if_pos e, hs_ne (by decide), if_neg (fun u => absurd u.1 (by decide)), hs_ne (by decide), if_neg (fun u => absurd u.1 (by decide))]
      rw [e, hcel1]
    · rw [if_neg e, hs_ne (by decide), if_neg (fun u => absurd u.1 (by decide)), hs_ne (by decide), if_neg (fun u => absurd u.1 (by decide)), hcell e, hs_ne (by decide), hs_ne (by decide), hs_ne (by decide)]
  · intro i
    by_cases e : 8 * h 6603 25 ≤ i ∧ i < 8 * h 6603 25 + 8
    · rw [if_pos e, hs_ne (by decide), if_neg (fun u => absurd u.1 (by decide)), hs_ne (by decide), if_pos ⟨rfl, e⟩]
    · rw [if_neg e, hs_ne (by decide), if_neg (fun u => absurd u.1 (by decide)), hs_ne (by decide), if_neg (fun u => e u.2), hs_ne (by decide), hs_ne (by decide), hs_ne (by decide), hs_ne (by decide)]
  · intro i
    by_cases e : i = h 6603 25
    · rw [if_pos e, hs_ne (by decide), if_neg (fun u => absurd u.1 (by decide))]
      rw [e, hcel1]
    · rw [if_neg e, hs_ne (by decide), if_neg (fun u => absurd u.1 (by decide)), hcell e, if_neg (fun u => absurd u.1 (by decide)), hs_ne (by decide), hs_ne (by decide), hs_ne (by decide), hs_ne (by decide)]
  · intro i
    by_cases e : 8 * h 6603 25 ≤ i ∧ i < 8 * h 6603 25 + 8
    · rw [if_pos e, hs_ne (by decide), if_pos ⟨rfl, e⟩]
    · rw [if_neg e, hs_ne (by decide), if_neg (fun u => e u.2), hs_ne (by decide), if_neg (fun u => absurd u.1 (by decide)), hs_ne (by decide), hs_ne (by decide), hs_ne (by decide), hs_ne (by decide)]
  · intro i
    by_cases e : i = h 6603 25
    · rw [if_pos e, e, hcel1]
    · rw [if_neg e, hcell e, if_neg (fun u => absurd u.1 (by decide)), hs_ne (by decide), if_neg (fun u => absurd u.1 (by decide)), hs_ne (by decide), hs_ne (by decide), hs_ne (by decide), hs_ne (by decide)]
/-- the people of the new text, class -/
theorem pC_v (h0 : h 836 4 = 0) : ∀ n : Nat, (∀ o, o ≠ 836 → o ≠ 928 → o ≠ 992 → o ≠ 1056 → o ≠ 1120 → pC T h n o = h o) ∧ pC T h n 836 4 = n ∧ (∀ i, i ≠ 4 → pC T h n 836 i = h 836 i) ∧ ∀ p : Int, 0 ≤ p → p < n → (pC T h n 928 p = h (T + 726) p ∧ pC T h n 992 p = p ∧ pC T h n 1056 p = -9) ∧ ∀ c, 0 ≤ c → c < 8 → pC T h n 1120 (8 * p + c) = -1
  | 0 => ⟨fun o _ _ _ _ _ => rfl, h0, fun i _ => rfl, fun p a b => by omega⟩
  | n + 1 => by
    obtain ⟨a1, a2, a3, a4⟩ := pC_v h0 n
    obtain ⟨b1, b2, b3, b4, b5, b6⟩ := opad_v (h := pC T h n) (a := h (T + 726) n) (b := n) (c := -9)
    refine ⟨fun o x1 x2 x3 x4 x5 => by rw [pC, opad_o x1 x2 x3 x4 x5, a1 o x1 x2 x3 x4 x5], by rw [pC, b1, a2]; omega, fun i x => by rw [pC, b2 i x, a3 i x], fun p p0 p1 => ?_⟩
    rw [pC, b3, b4, b5, a2]
    by_cases e : p = n
    · rw [if_pos e, if_pos e, if_pos e, e]
      exact ⟨⟨rfl, rfl, rfl⟩, fun c c0 c1 => by rw [b6, a2, if_pos (by omega)]⟩
    · rw [if_neg e, if_neg e, if_neg e]
      obtain ⟨z1, z2⟩ := a4 p p0 (by omega)
      exact ⟨z1, fun c c0 c1 => by rw [b6, a2, if_neg (by omega)]; exact z2 c c0 c1⟩
/-- and the reference -/
theorem pR_v (h0 : h 6603 25 = 0) : ∀ n : Nat, (∀ o, o ≠ 6603 → o ≠ 10016 → o ≠ 10080 → o ≠ 10144 → o ≠ 10208 → o ≠ 12384 → o ≠ 12512 → o ≠ 12576 → pR S h n o = h o) ∧ pR S h n 6603 25 = n ∧ (∀ i, i ≠ 25 → pR S h n 6603 i = h 6603 i) ∧ ∀ p : Int, 0 ≤ p → p < n → (pR S h n 10016 p = h (S + 276) p ∧ pR S h n 10080 p = p ∧ pR S h n 10144 p = -9 ∧ pR S h n 12384 p = 0 ∧ pR S h n 12576 p = -9) ∧ ∀ c, 0 ≤ c → c < 8 → pR S h n 10208 (8 * p + c) = -9 ∧ pR S h n 12512 (8 * p + c) = 0
  | 0 => ⟨fun o _ _ _ _ _ _ _ _ => rfl, h0, fun i _ => rfl, fun p a b => by omega⟩
  | n + 1 => by
    obtain ⟨a1, a2, a3, a4⟩ := pR_v h0 n
    obtain ⟨b1, b2, b3, b4, b5, b6, b7, b8, b9⟩ := open_v (h := pR S h n) (a := h (S + 276) n) (b := n) (c := -9)
    refine ⟨fun o x1 x2 x3 x4 x5 x6 x7 x8 => by rw [pR, open_o x1 x2 x3 x4 x5 x6 x7 x8, a1 o x1 x2 x3 x4 x5 x6 x7 x8], by rw [pR, b1, a2]; omega, fun i x => by rw [pR, b2 i x, a3 i x], fun p p0 p1 => ?_⟩
    rw [pR, b3, b4, b5, b7, b9, a2]
    by_cases e : p = n
    · rw [if_pos e, if_pos e, if_pos e, if_pos e, if_pos e, e]
      exact ⟨⟨rfl, rfl, rfl, rfl, rfl⟩, fun c c0 c1 => by rw [b6, b8, a2, if_pos (by omega), if_pos (by omega)]; exact ⟨rfl, rfl⟩⟩
    · rw [if_neg e, if_neg e, if_neg e, if_neg e, if_neg e]
      obtain ⟨z1, z2⟩ := a4 p p0 (by omega)
      exact ⟨z1, fun c c0 c1 => by rw [b6, b8, a2, if_neg (by omega), if_neg (by omega)]; exact z2 c c0 c1⟩
theorem f14_2016 {v : Int} : Sp fz1 d 14 [(3, 2016), (0, v)] h Q = Q 0 (fillH h 2016 10 v) := s14e (by decide) z2016_l.symm (by decide) (by decide)
theorem f14_2080 {v : Int} : Sp fz1 d 14 [(3, 2080), (0, v)] h Q = Q 0 (fillH h 2080 240 v) := s14e (by decide) z2080_l.symm (by decide) (by decide)
theorem f14_2656 {v : Int} : Sp fz1 d 14 [(3, 2656), (0, v)] h Q = Q 0 (fillH h 2656 10 v) := s14e (by decide) z2656_l.symm (by decide) (by decide)
theorem f14_3104 {v : Int} : Sp fz1 d 14 [(3, 3104), (0, v)] h Q = Q 0 (fillH h 3104 24 v) := s14e (by decide) z3104_l.symm (by decide) (by decide)
theorem f14_3168 {v : Int} : Sp fz1 d 14 [(3, 3168), (0, v)] h Q = Q 0 (fillH h 3168 192 v) := s14e (by decide) z3168_l.symm (by decide) (by decide)
theorem f14_3232 {v : Int} : Sp fz1 d 14 [(3, 3232), (0, v)] h Q = Q 0 (fillH h 3232 24 v) := s14e (by decide) z3232_l.symm (by decide) (by decide)
/-- the class opens the school -/
theorem c127_1 {e : Nat} (hT : TC T) (e8 : ∀ n : Nat, pC T h n 64 8 = T) (h0 : h 836 4 = 0) (hc : 0 ≤ h (T + 598) 2 ∧ h (T + 598) 2 ≤ 10) : ∀ (N j : Nat), ((j + N : Nat) : Int) = h (T + 598) 2 → G fz1 (e + 4) 127 1 [(3, 64), (0, j)] [] (pC T h j) Q = G fz1 (e + 4) 127 2 [(3, 64), (0, h (T + 598) 2)] [] (pC T h (h (T + 598) 2).toNat) Q := by
  have kT := kTC hT
  intro N
  induction N with
  | zero =>
    intro j hj
    have ej : (j : Int) = h (T + 598) 2 := by omega
    have ej2 : (h (T + 598) 2).toNat = j := by omega
    have pv := (pC_v (T := T) h0 j).1
    have e8 := e8 j
    have hm : ∀ Q, Sp fz1 (e + 3) 55 [(3, T), (0, 2)] (pC T h j) Q = Q (h (T + 598) 2) (pC T h j) := fun Q => by rw [c55 hT (by decide), pv _ (by omega) (by omega) (by omega) (by omega) (by omega)]
    conv => lhs; rw [q127_1]
    rw [ej, ej2]
    simp (implicitDefEqProofs := false) (disch := omega) only [b127_1, x_aload0, y_call130, y_call55, x_gc_10267, x_gc_27, x_gf_67, x_goto_1, x_iaload, x_iconst, x_if_icmp_ge_2, x_iinc1, x_iload1, x_pop0, x_pop3, klp_0, klp_1, klp_2, klp_3, klp_9, KC_0, KC_1, KC_2, KC_3, KC_4, ne_eq, not_false_eq_true, not_true_eq_false, true_and, and_true, and_self, implies_true, eq_self, true_imp_iff, false_implies, Int.reduceEq, Int.reduceNe, Int.reduceMod, Int.reduceMul, Int.reduceAdd, Int.reduceSub, Int.reduceLT, Int.reduceLE, Nat.reduceAdd, Nat.reduceLeDiff, Nat.reduceLT, Nat.reduceSub, reduceIte, wds_n, wds_0, wds_1, wds_2, wds_3, or_true, true_or, or_false, false_or, or_self, false_and, and_false, d_pos, d_s1, d_s2, d_s3, d_s4, d_s5, d_s6, d_s7, d_s8, Classical.not_not, c3 hT, c3l hT, c3k hT, z64_2, z64_3, z64_4, z64_5, z64_6, z64_7, TC_0 hT, TC_k hT, e8, hm, d_s9, d_s10, d_s11, d_s12, d_s13, d_s14, d_s15, d_s16, d_s17, d_s18, d_s19, d_s20, d_s21, d_s22, d_s23, d_s24, d_s25, d_s26, d_s27, d_s28, d_s29, d_s30, hs_ne, hcell, hcel1, le_sub1, le_T, le_F, lt_T, lt_F, eq_F, w32_T, bz0, bz1, lc_le, lc_ge, lc_lt, lc_gt, lc_eq]
  | succ N ih =>
    intro j hj
    have pv := pC_v (T := T) h0 j
    have e8 := e8 j
    have hm : ∀ Q, Sp fz1 (e + 3) 55 [(3, T), (0, 2)] (pC T h j) Q = Q (h (T + 598) 2) (pC T h j) := fun Q => by rw [c55 hT (by decide), pv.1 _ (by omega) (by omega) (by omega) (by omega) (by omega)]
    have st : pC T h j (T + 726) j = h (T + 726) j := by rw [pv.1 _ (by omega) (by omega) (by omega) (by omega) (by omega)]
    have ad : ∀ Q, Sp fz1 (e + 3) 130 [(3, 836), (0, h (T + 726) j), (0, j), (0, -9)] (pC T h j) Q = Q (j : Int) (pC T h (j + 1)) := fun Q => by
      rw [s130 (by rw [pv.2.1]; omega), pv.2.1]
      rfl
    rw [← ih (j + 1) (by omega)]
    conv => lhs; rw [q127_1]
    have cj : ((j + 1 : Nat) : Int) = (j : Int) + 1 := by omega
    rw [cj]
    simp (implicitDefEqProofs := false) (disch := omega) only [b127_1, x_aload0, y_call130, y_call55, x_gc_10267, x_gc_27, x_gf_67, x_goto_1, x_iaload, x_iconst, x_if_icmp_ge_2, x_iinc1, x_iload1, x_pop0, x_pop3, klp_0, klp_1, klp_2, klp_3, klp_9, KC_0, KC_1, KC_2, KC_3, KC_4, ne_eq, not_false_eq_true, not_true_eq_false, true_and, and_true, and_self, implies_true, eq_self, true_imp_iff, false_implies, Int.reduceEq, Int.reduceNe, Int.reduceMod, Int.reduceMul, Int.reduceAdd, Int.reduceSub, Int.reduceLT, Int.reduceLE, Nat.reduceAdd, Nat.reduceLeDiff, Nat.reduceLT, Nat.reduceSub, reduceIte, wds_n, wds_0, wds_1, wds_2, wds_3, or_true, true_or, or_false, false_or, or_self, false_and, and_false, d_pos, d_s1, d_s2, d_s3, d_s4, d_s5, d_s6, d_s7, d_s8, Classical.not_not, c3 hT, c3l hT, c3k hT, z64_2, z64_3, z64_4, z64_5, z64_6, z64_7, TC_0 hT, TC_k hT, e8, hm, ad, st, d_s9, d_s10, d_s11, d_s12, d_s13, d_s14, d_s15, d_s16, d_s17, d_s18, d_s19, d_s20, d_s21, d_s22, d_s23, d_s24, d_s25, d_s26, d_s27, d_s28, d_s29, d_s30, hs_ne, hcell, hcel1, le_sub1, le_T, le_F, lt_T, lt_F, eq_F, w32_T, bz0, bz1, lc_le, lc_ge, lc_lt, lc_gt, lc_eq]
theorem c127 {e : Nat} (hT : TC T) (h8 : h 64 8 = T) (hc : 0 ≤ h (T + 598) 2 ∧ h (T + 598) 2 ≤ 10) : Sp fz1 (e + 4) 127 [(3, 64)] h Q = Q 0 (opC T (pC T (hset (hset h 643 2 0) 836 4 0) (h (T + 598) 2).toNat)) := by
  have kT := kTC hT
  have h0 : hset (hset h 643 2 0) 836 4 0 836 4 = 0 := hcel1
  have e598 : hset (hset h 643 2 0) 836 4 0 (T + 598) = h (T + 598) := by rw [hs_ne (by omega), hs_ne (by omega)]
  have e8 : ∀ n : Nat, pC T (hset (hset h 643 2 0) 836 4 0) n 64 8 = T := fun n => by rw [(pC_v h0 n).1 64 (by decide) (by decide) (by decide) (by decide) (by decide), hs_ne (by decide), hs_ne (by decide)]; exact h8
  have E := c127_1 (Q := Q) (e := e) (h := hset (hset h 643 2 0) 836 4 0) hT e8 h0 (by rw [e598]; exact hc) (h (T + 598) 2).toNat 0 (by rw [e598]; omega)
  rw [e598] at E
  have E : G fz1 (e + 4) 127 1 [(3, 64), (0, 0)] [] (hset (hset h 643 2 0) 836 4 0) Q = G fz1 (e + 4) 127 2 [(3, 64), (0, h (T + 598) 2)] [] (pC T (hset (hset h 643 2 0) 836 4 0) (h (T + 598) 2).toNat) Q := E
  have F : Sp fz1 (e + 4) 127 [(3, 64)] h Q = G fz1 (e + 4) 127 2 [(3, 64), (0, h (T + 598) 2)] [] (pC T (hset (hset h 643 2 0) 836 4 0) (h (T + 598) 2).toNat) Q := by
    simp (implicitDefEqProofs := false) (disch := omega) only [sp127, b127_0, x_aload0, y_call128, y_call129, x_gc_19, x_gc_27, x_goto_1, x_iconst, x_istore1, sp128, b128_0, x_pf_3088, x_return, sp129, b129_0, x_pf_4128, klp_0, klp_1, klp_2, klp_3, klp_9, KC_0, KC_1, KC_2, KC_3, KC_4, ne_eq, not_false_eq_true, not_true_eq_false, true_and, and_true, and_self, implies_true, eq_self, true_imp_iff, false_implies, Int.reduceEq, Int.reduceNe, Int.reduceMod, Int.reduceMul, Int.reduceAdd, Int.reduceSub, Int.reduceLT, Int.reduceLE, Nat.reduceAdd, Nat.reduceLeDiff, Nat.reduceLT, Nat.reduceSub, reduceIte, wds_n, wds_0, wds_1, wds_2, wds_3, or_true, true_or, or_false, false_or, or_self, false_and, and_false, d_pos, d_s1, d_s2, d_s3, d_s4, d_s5, d_s6, d_s7, d_s8, Classical.not_not, c3 hT, c3l hT, c3k hT, z64_2, z64_3, z64_4, z64_5, z64_6, z64_7, TC_0 hT, TC_k hT, E, d_s9, d_s10, d_s11, d_s12, d_s13, d_s14, d_s15, d_s16, d_s17, d_s18, d_s19, d_s20, d_s21, d_s22, d_s23, d_s24, d_s25, d_s26, d_s27, d_s28, d_s29, d_s30, hs_ne, hcell, hcel1, le_sub1, le_T, le_F, lt_T, lt_F, eq_F, w32_T, bz0, bz1, lc_le, lc_ge, lc_lt, lc_gt, lc_eq]
  rw [F]
  have e8 := e8 (h (T + 598) 2).toNat
  generalize pC T (hset (hset h 643 2 0) 836 4 0) (h (T + 598) 2).toNat = K at *
  unfold opC
  rw [q127_2]
  simp (implicitDefEqProofs := false) (disch := omega) only [b127_2, q127_2, x_aload0, x_bipush, y_call12, y_call16, y_call17, y_call20, x_gc_35, x_gc_43, x_gc_51, x_gc_59, x_gf_67, x_iconst, x_pf_128, x_pf_80, x_pf_89, x_pf_96, x_return, sp12, b12_0, x_aload1, y_call13, x_pf_7171, sp13, b13_0, y_call14, y_call15, x_gc_7187, x_gc_7195, sp15, b15_0, x_pf_7276, x_pf_7284, sp16, b16_0, x_pf_5147, sp17, b17_0, y_call18, x_pf_8203, sp18, b18_0, y_call19, x_gc_8211, sp19, b19_0, x_pf_8228, sp20, b20_0, x_gc_9243, x_gc_9251, x_gc_9259, x_pf_9227, x_pf_9268, klp_0, klp_1, klp_2, klp_3, klp_9, KC_0, KC_1, KC_2, KC_3, KC_4, ne_eq, not_false_eq_true, not_true_eq_false, true_and, and_true, and_self, implies_true, eq_self, true_imp_iff, false_implies, Int.reduceEq, Int.reduceNe, Int.reduceMod, Int.reduceMul, Int.reduceAdd, Int.reduceSub, Int.reduceLT, Int.reduceLE, Nat.reduceAdd, Nat.reduceLeDiff, Nat.reduceLT, Nat.reduceSub, reduceIte, wds_n, wds_0, wds_1, wds_2, wds_3, or_true, true_or, or_false, false_or, or_self, false_and, and_false, d_pos, d_s1, d_s2, d_s3, d_s4, d_s5, d_s6, d_s7, d_s8, Classical.not_not, c3 hT, c3l hT, c3k hT, z64_2, z64_3, z64_4, z64_5, z64_6, z64_7, z1927_2, z2016_l, z1927_3, z2080_l, z2568_2, z2656_l, z2953_3, z3104_l, z2953_4, z3168_l, z2953_5, z3232_l, TC_0 hT, TC_k hT, f14_2016, f14_2080, f14_2656, f14_3104, f14_3168, f14_3232, fillH_ne, e8, d_s9, d_s10, d_s11, d_s12, d_s13, d_s14, d_s15, d_s16, d_s17, d_s18, d_s19, d_s20, d_s21, d_s22, d_s23, d_s24, d_s25, d_s26, d_s27, d_s28, d_s29, d_s30, hs_ne, hcell, hcel1, le_sub1, le_T, le_F, lt_T, lt_F, eq_F, w32_T, bz0, bz1, lc_le, lc_ge, lc_lt, lc_gt, lc_eq]
end SM
