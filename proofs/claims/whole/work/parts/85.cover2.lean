/-! THE PURE SIDE, 66: cover, the class's search: printed by wip/tools/gen85.py -/
theorem s68 {d : Nat} {h : HV} {Q : Int → HV → Prop} {T s j : Int} (hT : TC T) (hs : 0 ≤ s ∧ s < h (T + 598) 2) (hj : 0 ≤ j) (hm : h (T + 598) 2 ≤ 10) : Sp fz1 (d + 2) 68 [(3, T), (0, s), (0, j)] h Q = Q (if i_and (i_shr (h (T + 790) s) j) 1 = 1 then 1 else 0) h := by
  by_cases a1 : i_and (i_shr (h (T + 790) s) j) 1 = 1 <;> (try (exfalso; omega)) <;> simp (implicitDefEqProofs := false) (disch := omega) only [sp68, b68_0, b68_1, b68_2, q68_1, q68_2, x_aload0, y_call69, x_freturn, x_gc_10275, x_goto_2, x_iaload, x_iand, x_iconst, x_ifCond_eq_1, x_ifCond_lt_1, x_if_icmp_ne_1, x_iload1, x_iload2, x_ishr, klp_0, klp_1, klp_2, klp_3, klp_9, KC_0, KC_1, KC_2, KC_3, KC_4, ne_eq, not_false_eq_true, not_true_eq_false, true_and, and_true, and_self, implies_true, eq_self, true_imp_iff, false_implies, Int.reduceEq, Int.reduceNe, Int.reduceMod, Int.reduceMul, Int.reduceAdd, Int.reduceSub, Int.reduceLT, Int.reduceLE, Nat.reduceAdd, Nat.reduceLeDiff, Nat.reduceLT, Nat.reduceSub, reduceIte, wds_n, wds_0, wds_1, wds_2, wds_3, or_true, true_or, or_false, false_or, or_self, false_and, and_false, d_pos, d_s1, d_s2, d_s3, d_s4, d_s5, d_s6, d_s7, d_s8, Classical.not_not, c4 hT, c4l hT, c4k hT, TC_0 hT, TC_k hT, s69 hT, if_pos hs, a1, le_sub1, le_T, le_F, lt_T, lt_F, eq_F, w32_T, bz0, bz1, lc_le, lc_ge, lc_lt, lc_gt, lc_eq] <;> first | rfl | (rw [if_pos (by omega)] <;> rfl) | (rw [if_neg (by omega)] <;> rfl) | (exfalso; omega)
theorem s311 {d : Nat} {h : HV} {Q : Int → HV → Prop} {s : Int} (hs : 0 ≤ s ∧ s < 10) : Sp fz1 d 311 [(3, 2568), (0, s)] h Q = Q (if i_and (i_shr (h 2656 s) (h 2568 10)) 1 = 1 then 1 else 0) h := by
  by_cases a1 : i_and (i_shr (h 2656 s) (h 2568 10)) 1 = 1 <;> (try (exfalso; omega)) <;> simp (implicitDefEqProofs := false) (disch := omega) only [sp311, b311_0, b311_1, b311_2, q311_1, q311_2, x_alen, x_aload0, x_freturn, x_gc_8211, x_gf_8272, x_goto_2, x_iaload, x_iand, x_iconst, x_ifCond_lt_1, x_if_icmp_ge_1, x_if_icmp_ne_1, x_iload1, x_ishr, klp_0, klp_1, klp_2, klp_3, klp_9, KC_0, KC_1, KC_2, KC_3, KC_4, ne_eq, not_false_eq_true, not_true_eq_false, true_and, and_true, and_self, implies_true, eq_self, true_imp_iff, false_implies, Int.reduceEq, Int.reduceNe, Int.reduceMod, Int.reduceMul, Int.reduceAdd, Int.reduceSub, Int.reduceLT, Int.reduceLE, Nat.reduceAdd, Nat.reduceLeDiff, Nat.reduceLT, Nat.reduceSub, reduceIte, wds_n, wds_0, wds_1, wds_2, wds_3, or_true, true_or, or_false, false_or, or_self, false_and, and_false, d_pos, d_s1, d_s2, d_s3, d_s4, d_s5, d_s6, d_s7, d_s8, Classical.not_not, z2568_2, z2656_l, a1, le_sub1, le_T, le_F, lt_T, lt_F, eq_F, w32_T, bz0, bz1, lc_le, lc_ge, lc_lt, lc_gt, lc_eq] <;> first | rfl | (rw [if_pos (by omega)] <;> rfl) | (rw [if_neg (by omega)] <;> rfl) | (exfalso; omega)
theorem s313 {d : Nat} {h : HV} {Q : Int → HV → Prop} {s p : Int} (hs : 0 ≤ s ∧ s < 10) : Sp fz1 d 313 [(3, 1927), (0, s), (0, p)] h Q = Q (if i_and (i_shr (h 2016 s) p) 1 = 1 then 1 else 0) h := by
  by_cases a1 : i_and (i_shr (h 2016 s) p) 1 = 1 <;> (try (exfalso; omega)) <;> simp (implicitDefEqProofs := false) (disch := omega) only [sp313, b313_0, b313_1, b313_2, q313_1, q313_2, x_aload0, x_freturn, x_gc_7187, x_goto_2, x_iaload, x_iand, x_iconst, x_ifCond_lt_1, x_if_icmp_ge_1, x_if_icmp_ne_1, x_iload1, x_iload2, x_ishr, klp_0, klp_1, klp_2, klp_3, klp_9, KC_0, KC_1, KC_2, KC_3, KC_4, ne_eq, not_false_eq_true, not_true_eq_false, true_and, and_true, and_self, implies_true, eq_self, true_imp_iff, false_implies, Int.reduceEq, Int.reduceNe, Int.reduceMod, Int.reduceMul, Int.reduceAdd, Int.reduceSub, Int.reduceLT, Int.reduceLE, Nat.reduceAdd, Nat.reduceLeDiff, Nat.reduceLT, Nat.reduceSub, reduceIte, wds_n, wds_0, wds_1, wds_2, wds_3, or_true, true_or, or_false, false_or, or_self, false_and, and_false, d_pos, d_s1, d_s2, d_s3, d_s4, d_s5, d_s6, d_s7, d_s8, Classical.not_not, z1927_2, z2016_l, a1, le_sub1, le_T, le_F, lt_T, lt_F, eq_F, w32_T, bz0, bz1, lc_le, lc_ge, lc_lt, lc_gt, lc_eq] <;> first | rfl | (rw [if_pos (by omega)] <;> rfl) | (rw [if_neg (by omega)] <;> rfl) | (exfalso; omega)

/-- the search's heap -/
def CvF (h K : HV) : Prop := (∀ a, a ≠ 2568 ∧ a ≠ 2848 ∧ a ≠ 2912 → K a = h a) ∧ ∀ s, s ≠ 9 → K 2568 s = h 2568 s
/-- the best so far -/
def SC (n i : Nat) (K K2 : HV) (x : Int) (g : Nat → Int) : Prop := (K 2568 9 < x ∧ K2 2568 9 = x ∧ ∀ k : Nat, k < n → K2 2912 k = if k < i then K 2848 k else g (k - i)) ∨ (¬ K 2568 9 < x ∧ K2 2568 9 = K 2568 9 ∧ K2 2912 = K 2912)
def gCv (a : Int) (g : Nat → Int) : Nat → Int
  | 0 => a
  | j + 1 => g j
theorem SC_tr {n i : Nat} {K K' K'' K2 : HV} {x y a : Int} {g g' : Nat → Int} (s1 : SC n i K K' x g) (e9 : K'' 2568 9 = K' 2568 9) (eB : K'' 2912 = K' 2912) (eT : ∀ k : Nat, k < i → K'' 2848 k = K 2848 k) (ea : K'' 2848 i = a) (s2 : SC n (i + 1) K'' K2 y g') : SC n i K K2 (if x < y then y else x) (if x < y then gCv a g' else g) := by
  have path : (∀ k : Nat, k < n → K2 2912 k = if k < i + 1 then K'' 2848 k else g' (k - (i + 1))) → ∀ k : Nat, k < n → K2 2912 k = if k < i then K 2848 k else gCv a g' (k - i) := fun w k hk => by
    rw [w k hk]
    by_cases c1 : k < i
    · rw [if_pos (by omega), if_pos c1]; exact eT k c1
    · rw [if_neg c1]
      by_cases c2 : k = i
      · rw [if_pos (by omega), c2, ea, Nat.sub_self]; rfl
      · rw [if_neg (by omega), show k - i = (k - (i + 1)) + 1 by omega]; rfl
  rcases s1 with ⟨p1, p2, p3⟩ | ⟨p1, p2, p3⟩
  · rcases s2 with ⟨q1, q2, q3⟩ | ⟨q1, q2, q3⟩
    · rw [e9, p2] at q1
      rw [if_pos q1, if_pos q1]
      exact .inl ⟨by omega, q2, path q3⟩
    · rw [e9, p2] at q1 q2
      rw [if_neg q1, if_neg q1]
      exact .inl ⟨p1, q2, fun k hk => by rw [q3, eB]; exact p3 k hk⟩
  · rcases s2 with ⟨q1, q2, q3⟩ | ⟨q1, q2, q3⟩
    · rw [e9, p2] at q1
      rw [if_pos (by omega), if_pos (by omega)]
      exact .inl ⟨q1, q2, path q3⟩
    · rw [e9, p2] at q1 q2
      by_cases c : x < y
      · rw [if_pos c, if_pos c]
        exact .inr ⟨q1, q2, by rw [q3, eB, p3]⟩
      · rw [if_neg c, if_neg c]
        exact .inr ⟨p1, q2, by rw [q3, eB, p3]⟩
/-- who is free, as the class sees it -/
def RlC (h : HV) (b m : Nat) : Prop := b < 1024 ∧ m < 1024 ∧ ∀ s : Nat, s < 10 → (m.testBit s = true ↔ (s : Int) < h (h 64 8 + 598) 2 ∧ b.testBit s = false ∧ i_and (i_shr (h 2656 s) (h 2568 10)) 1 = 0 ∧ i_and (i_shr (h 2016 s) (h 2568 10)) 1 = 0)
theorem RlC_s {h : HV} {b m s : Nat} (R : RlC h b m) (hs : s < 10) (hb : m.testBit s = true) : RlC h (b ||| 2 ^ s) (m ^^^ 2 ^ s) := by
  obtain ⟨r1, r2, r3⟩ := R
  refine ⟨or_lt r1 hs, xor_lt r2 hs, fun x hx => ?_⟩
  have R := r3 x hx
  rw [Nat.testBit_xor, Nat.testBit_or, Nat.testBit_two_pow]
  by_cases e : s = x
  · rw [← e]
    have hd : decide (s = s) = true := decide_eq_true rfl
    rw [hd, hb]
    constructor
    · intro w; exact absurd w (by decide)
    · rintro ⟨_, w, _⟩
      rw [Bool.or_true] at w
      exact absurd w (by decide)
  · have hd : decide (s = x) = false := decide_eq_false e
    rw [hd, Bool.xor_false, Bool.or_false]
    exact R
/-- the text's staff and lessons, as the search asks -/
def HtC (h : HV) (n : Nat) (t : Nat → Nat → Int) : Prop := h 2568 1 = h 64 8 ∧ (∀ k : Nat, k < n → (0 ≤ h 2784 k ∧ h 2784 k < 36) ∧ (0 ≤ h (h 64 8 + 1174) (h 2784 k) ∧ h (h 64 8 + 1174) (h 2784 k) < 12) ∧ 0 ≤ h (h 64 8 + 918) (h (h 64 8 + 1174) (h 2784 k))) ∧ ∀ r s : Nat, r < n → (s : Int) < h (h 64 8 + 598) 2 → t r s = i_and (i_shr (h (h 64 8 + 790) s) (h (h 64 8 + 918) (h (h 64 8 + 1174) (h 2784 ((n - 1 - r : Nat) : Int))))) 1
theorem cp312 {d : Nat} {h K : HV} {Q : Int → HV → Prop} {n : Nat} {c : Int} {y1 y2 y3 y5 : AV} (hn : n ≤ 6) (hn6 : K 2568 6 = n) (hc : 0 ≤ c) (F : CvF h K) (hb : K 2568 9 < c)
    (nx : ∀ K2 : HV, CvF h K2 → K2 2848 = K 2848 → K2 2568 9 = c → (∀ k : Nat, k < n → K2 2912 k = K 2848 k) → Q 0 K2) : G fz1 d 312 2 [(3, 2568), y1, y2, (0, c), y3, y5] [] K Q := by
  refine G_in ?_
  simp (implicitDefEqProofs := false) (disch := omega) only [b312_2, q312_2, x_aload0, x_goto_3, x_iconst, x_iload3, x_istore4, x_pf_8264, klp_0, klp_1, klp_2, klp_3, klp_9, KC_0, KC_1, KC_2, KC_3, KC_4, ne_eq, not_false_eq_true, not_true_eq_false, true_and, and_true, and_self, implies_true, eq_self, true_imp_iff, false_implies, Int.reduceEq, Int.reduceNe, Int.reduceMod, Int.reduceMul, Int.reduceAdd, Int.reduceSub, Int.reduceLT, Int.reduceLE, Nat.reduceAdd, Nat.reduceLeDiff, Nat.reduceLT, Nat.reduceSub, reduceIte, wds_n, wds_0, wds_1, wds_2, wds_3, or_true, true_or, or_false, false_or, or_self, false_and, and_false, d_pos, d_s1, d_s2, d_s3, d_s4, d_s5, d_s6, d_s7, d_s8, Classical.not_not]
  have kT : hset K 2568 9 c 2848 = K 2848 := hs_ne (by decide)
  refine forG (N := n) (I := fun j ls h' => ls = [(3, 2568), y1, y2, (0, c), (0, (j : Int)), y5] ∧ CvF h h' ∧ h' 2848 = K 2848 ∧ h' 2568 9 = c ∧ h' 2568 6 = n ∧ ∀ k : Nat, k < j → h' 2912 k = K 2848 k) ?_ ?_ (j := 0) (Nat.zero_le _) ⟨rfl, ⟨fun a q => by rw [hs_ne q.1]; exact F.1 a q, fun s hs => by rw [hset_v, if_neg (fun w => hs w.2)]; exact F.2 s hs⟩, kT, by rw [hset_v, if_pos ⟨rfl, rfl⟩], by rw [hset_v, if_neg (by omega)]; exact hn6, fun k hk => by omega⟩
  · rintro j ls h' hj ⟨rfl, f1, f2, f3, f4, f5⟩ n2
    refine G_in ?_
    simp (implicitDefEqProofs := false) (disch := omega) only [b312_3, x_aload0, x_gc_8251, x_gc_8259, x_gf_8240, x_goto_3, x_iaload, x_iastore, x_if_icmp_ge_4, x_iinc4, x_iload4, klp_0, klp_1, klp_2, klp_3, klp_9, KC_0, KC_1, KC_2, KC_3, KC_4, ne_eq, not_false_eq_true, not_true_eq_false, true_and, and_true, and_self, implies_true, eq_self, true_imp_iff, false_implies, Int.reduceEq, Int.reduceNe, Int.reduceMod, Int.reduceMul, Int.reduceAdd, Int.reduceSub, Int.reduceLT, Int.reduceLE, Nat.reduceAdd, Nat.reduceLeDiff, Nat.reduceLT, Nat.reduceSub, reduceIte, wds_n, wds_0, wds_1, wds_2, wds_3, or_true, true_or, or_false, false_or, or_self, false_and, and_false, d_pos, d_s1, d_s2, d_s3, d_s4, d_s5, d_s6, d_s7, d_s8, Classical.not_not, z2568_8, z2912_l, z2568_7, z2848_l, f4, f2, le_T, le_F, lt_T, lt_F, w32_T]
    refine n2 _ _ ⟨rfl, ⟨fun a q => by rw [hs_ne q.2.2]; exact f1.1 a q, fun s hs => by rw [hs_ne (by decide)]; exact f1.2 s hs⟩, by rw [hs_ne (by decide)]; exact f2, by rw [hs_ne (by decide)]; exact f3, by rw [hs_ne (by decide)]; exact f4, fun k hk => ?_⟩
    rw [hset_v]
    by_cases e : k = j
    · rw [if_pos ⟨rfl, by omega⟩, e]
    · rw [if_neg (fun w => by omega)]
      exact f5 k (by omega)
  · rintro ls h' ⟨rfl, f1, f2, f3, f4, f5⟩
    refine G_in ?_
    simp (implicitDefEqProofs := false) (disch := omega) only [b312_3, b312_4, q312_4, x_aload0, x_gc_8251, x_gc_8259, x_gf_8240, x_goto_3, x_iaload, x_iastore, x_if_icmp_ge_4, x_iinc4, x_iload4, x_return, klp_0, klp_1, klp_2, klp_3, klp_9, KC_0, KC_1, KC_2, KC_3, KC_4, ne_eq, not_false_eq_true, not_true_eq_false, true_and, and_true, and_self, implies_true, eq_self, true_imp_iff, false_implies, Int.reduceEq, Int.reduceNe, Int.reduceMod, Int.reduceMul, Int.reduceAdd, Int.reduceSub, Int.reduceLT, Int.reduceLE, Nat.reduceAdd, Nat.reduceLeDiff, Nat.reduceLT, Nat.reduceSub, reduceIte, wds_n, wds_0, wds_1, wds_2, wds_3, or_true, true_or, or_false, false_or, or_self, false_and, and_false, d_pos, d_s1, d_s2, d_s3, d_s4, d_s5, d_s6, d_s7, d_s8, Classical.not_not, f4, le_T, le_F, lt_T, lt_F, w32_T]
    exact nx h' f1 f2 f3 f5
theorem s312 {h : HV} {n : Nat} {t : Nat → Nat → Int} {d : Nat} (hn : n ≤ 6) (hn6 : h 2568 6 = n) (hT : TC (h 64 8)) (hS : 0 ≤ h (h 64 8 + 598) 2 ∧ h (h 64 8 + 598) 2 ≤ 10) (H : HtC h n t) : ∀ (r D i b m c : Nat) (K : HV) (Q : Int → HV → Prop), D = d + 3 + r → i + r = n → RlC h b m → CvF h K → -1 ≤ K 2568 9 ∧ K 2568 9 ≤ 6 → c ≤ i → (∀ K2 : HV, CvF h K2 → (-1 ≤ K2 2568 9 ∧ K2 2568 9 ≤ 6) → (∀ k : Nat, k < i → K2 2848 k = K 2848 k) → SC n i K K2 (c + FCv t r m) (paC t r m) → Q 0 K2) → Sp fz1 D 312 [(3, 2568), (0, (i : Int)), (0, (b : Int)), (0, (c : Int))] K Q
  | 0, D, i, b, m, c, K, Q, hD, hi, R, F, hb, hc, nx => by
    subst hD
    have k6 : K 2568 6 = n := by rw [F.2 6 (by decide)]; exact hn6
    show Sp fz1 (d + 2 + 1) 312 _ K Q
    rw [show FCv t 0 m = 0 from rfl, Int.add_zero] at nx
    by_cases q : (c : Int) ≤ K 2568 9
    · simp (implicitDefEqProofs := false) (disch := omega) only [sp312, b312_0, x_aload0, x_gf_8240, x_gf_8264, x_iadd, x_if_icmp_gt_1, x_iload1, x_iload3, x_isub, x_return, klp_0, klp_1, klp_2, klp_3, klp_9, KC_0, KC_1, KC_2, KC_3, KC_4, ne_eq, not_false_eq_true, not_true_eq_false, true_and, and_true, and_self, implies_true, eq_self, true_imp_iff, false_implies, Int.reduceEq, Int.reduceNe, Int.reduceMod, Int.reduceMul, Int.reduceAdd, Int.reduceSub, Int.reduceLT, Int.reduceLE, Nat.reduceAdd, Nat.reduceLeDiff, Nat.reduceLT, Nat.reduceSub, reduceIte, wds_n, wds_0, wds_1, wds_2, wds_3, or_true, true_or, or_false, false_or, or_self, false_and, and_false, d_pos, d_s1, d_s2, d_s3, d_s4, d_s5, d_s6, d_s7, d_s8, Classical.not_not, k6, le_T, le_F, lt_T, lt_F, w32_T]
      exact nx K F hb (fun _ _ => rfl) (.inr ⟨by omega, rfl, rfl⟩)
    · simp (implicitDefEqProofs := false) (disch := omega) only [sp312, b312_0, b312_1, q312_1, x_aload0, x_gf_8240, x_gf_8264, x_goto_2, x_iadd, x_iconst, x_if_icmp_ge_2, x_if_icmp_gt_1, x_if_icmp_lt_5, x_iload1, x_iload3, x_isub, x_return, klp_0, klp_1, klp_2, klp_3, klp_9, KC_0, KC_1, KC_2, KC_3, KC_4, ne_eq, not_false_eq_true, not_true_eq_false, true_and, and_true, and_self, implies_true, eq_self, true_imp_iff, false_implies, Int.reduceEq, Int.reduceNe, Int.reduceMod, Int.reduceMul, Int.reduceAdd, Int.reduceSub, Int.reduceLT, Int.reduceLE, Nat.reduceAdd, Nat.reduceLeDiff, Nat.reduceLT, Nat.reduceSub, reduceIte, wds_n, wds_0, wds_1, wds_2, wds_3, or_true, true_or, or_false, false_or, or_self, false_and, and_false, d_pos, d_s1, d_s2, d_s3, d_s4, d_s5, d_s6, d_s7, d_s8, Classical.not_not, k6, le_T, le_F, lt_T, lt_F, w32_T]
      refine cp312 hn k6 (by omega) F (by omega) (fun K2 g1 g2 g3 g4 => nx K2 g1 (by omega) (fun k _ => by rw [g2]) (.inl ⟨by omega, g3, fun k hk => by rw [if_pos (by omega)]; exact g4 k hk⟩))
  | r + 1, D, i, b, m, c, K, Q, hD, hi, R, F, hb, hc, nx => by
    obtain ⟨e, he⟩ : ∃ e, e = d + r := ⟨_, rfl⟩
    have hD2 : D = e + 4 := by omega
    subst hD2
    have ih := fun (i b m c : Nat) (K : HV) (Q : Int → HV → Prop) => s312 (d := d) hn hn6 hT hS H r (e + 3) i b m c K Q (by omega)
    have k6 : K 2568 6 = n := by rw [F.2 6 (by decide)]; exact hn6
    have fb := FCv_b (t := t) (r + 1) m
    by_cases q : (c : Int) + (r + 1) ≤ K 2568 9
    · simp (implicitDefEqProofs := false) (disch := omega) only [sp312, b312_0, x_aload0, x_gf_8240, x_gf_8264, x_iadd, x_if_icmp_gt_1, x_iload1, x_iload3, x_isub, x_return, klp_0, klp_1, klp_2, klp_3, klp_9, KC_0, KC_1, KC_2, KC_3, KC_4, ne_eq, not_false_eq_true, not_true_eq_false, true_and, and_true, and_self, implies_true, eq_self, true_imp_iff, false_implies, Int.reduceEq, Int.reduceNe, Int.reduceMod, Int.reduceMul, Int.reduceAdd, Int.reduceSub, Int.reduceLT, Int.reduceLE, Nat.reduceAdd, Nat.reduceLeDiff, Nat.reduceLT, Nat.reduceSub, reduceIte, wds_n, wds_0, wds_1, wds_2, wds_3, or_true, true_or, or_false, false_or, or_self, false_and, and_false, d_pos, d_s1, d_s2, d_s3, d_s4, d_s5, d_s6, d_s7, d_s8, Classical.not_not, k6, le_T, le_F, lt_T, lt_F, w32_T]
      exact nx K F hb (fun _ _ => rfl) (.inr ⟨by omega, rfl, rfl⟩)
    · have ki : K 2568 1 = h 64 8 := by rw [F.2 1 (by decide)]; exact H.1
      have k2784 : K 2784 = h 2784 := F.1 _ (by decide)
      have T5 : ∀ x, K (h 64 8 + x) = h (h 64 8 + x) ∨ True := fun _ => .inr trivial
      have kT1 : K (h 64 8 + 1174) = h (h 64 8 + 1174) := F.1 _ (by rcases hT with w | w <;> omega)
      have kT2 : K (h 64 8 + 918) = h (h 64 8 + 918) := F.1 _ (by rcases hT with w | w <;> omega)
      obtain ⟨u1, u2, u3⟩ := H.2.1 i (by omega)
      simp (implicitDefEqProofs := false) (disch := omega) only [sp312, b312_0, b312_1, b312_5, q312_1, q312_5, x_aload0, x_gc_10291, x_gc_10323, x_gc_8235, x_gf_8203, x_gf_8240, x_gf_8264, x_goto_2, x_goto_6, x_iadd, x_iaload, x_iconst, x_if_icmp_ge_2, x_if_icmp_gt_1, x_if_icmp_lt_5, x_iload1, x_iload3, x_istore4, x_istore5, x_isub, x_return, klp_0, klp_1, klp_2, klp_3, klp_9, KC_0, KC_1, KC_2, KC_3, KC_4, ne_eq, not_false_eq_true, not_true_eq_false, true_and, and_true, and_self, implies_true, eq_self, true_imp_iff, false_implies, Int.reduceEq, Int.reduceNe, Int.reduceMod, Int.reduceMul, Int.reduceAdd, Int.reduceSub, Int.reduceLT, Int.reduceLE, Nat.reduceAdd, Nat.reduceLeDiff, Nat.reduceLT, Nat.reduceSub, reduceIte, wds_n, wds_0, wds_1, wds_2, wds_3, or_true, true_or, or_false, false_or, or_self, false_and, and_false, d_pos, d_s1, d_s2, d_s3, d_s4, d_s5, d_s6, d_s7, d_s8, Classical.not_not, k6, ki, z2568_5, z2784_l, k2784, kT1, kT2, c10 hT, c10l hT, c10k hT, c6 hT, c6l hT, c6k hT, TC_0 hT, TC_k hT, le_T, le_F, lt_T, lt_F, w32_T]
      clear T5
      have tE : ∀ s : Nat, (s : Int) < h (h 64 8 + 598) 2 → t r s = i_and (i_shr (h (h 64 8 + 790) s) (h (h 64 8 + 918) (h (h 64 8 + 1174) (h 2784 i)))) 1 := fun s hs => by
        have := H.2.2 r s (by omega) hs
        rw [show n - 1 - r = i by omega] at this
        exact this
      generalize h (h 64 8 + 918) (h (h 64 8 + 1174) (h 2784 i)) = j at *
      have i6 : 0 ≤ (i : Int) ∧ (i : Int) < 6 := by omega
      -- the invariant
      refine forG (N := (h (h 64 8 + 598) 2).toNat) (I := fun s ls h' => ls = [(3, 2568), (0, (i : Int)), (0, (b : Int)), (0, (c : Int)), (0, j), (0, (s : Int))] ∧ CvF h h' ∧ (-1 ≤ h' 2568 9 ∧ h' 2568 9 ≤ 6) ∧ (∀ k : Nat, k < i → h' 2848 k = K 2848 k) ∧ SC n i K h' (if vS (okF (t r) m) (wC t r m) s < 0 then -1 else c + vS (okF (t r) m) (wC t r m) s) (gCv (aS (okF (t r) m) (wC t r m) s) (paC t r (m ^^^ 2 ^ (aS (okF (t r) m) (wC t r m) s).toNat)))) ?_ ?_ (j := 0) (Nat.zero_le _) ⟨rfl, F, hb, fun _ _ => rfl, .inr ⟨by rw [vS, if_pos (by decide)]; omega, rfl, rfl⟩⟩
      · rintro s ls h' hs ⟨rfl, g1, g2, g3, g4⟩ n2
        have s10 : s < 10 := by omega
        have sI : 0 ≤ (s : Int) ∧ (s : Int) < h (h 64 8 + 598) 2 := by omega
        have sI10 : 0 ≤ (s : Int) ∧ (s : Int) < 10 := by omega
        have hi1 : h' 2568 1 = h 64 8 := by rw [g1.2 1 (by decide)]; exact H.1
        have hTs : h' (h 64 8 + 598) = h (h 64 8 + 598) := g1.1 _ (by rcases hT with w | w <;> omega)
        have hT4 : h' (h 64 8 + 790) = h (h 64 8 + 790) := g1.1 _ (by rcases hT with w | w <;> omega)
        have h2656 : h' 2656 = h 2656 := g1.1 _ (by decide)
        have h2016 : h' 2016 = h 2016 := g1.1 _ (by decide)
        have h10 : h' 2568 10 = h 2568 10 := g1.2 10 (by decide)
        have Rs := R.2.2 s s10
        have bt := bit_t (m := b) (s := s) (by have := R.1; omega) (by omega)
        have te := tE s sI.2
        have z2 : (if (0 : Int) ≤ 2 ∧ (2 : Int) < 7 then h' (h 64 8 + 598) 2 else 0) = h (h 64 8 + 598) 2 := by rw [if_pos (by decide), hTs]
        have skip : okF (t r) m s ≠ 1 → G fz1 (e + 4) 312 6 [(3, 2568), (0, (i : Int)), (0, (b : Int)), (0, (c : Int)), (0, j), (0, ((s + 1 : Nat) : Int))] [] h' Q := fun no => by
          have v := vS_no (ok := okF (t r) m) (w := wC t r m) (k := s) 1 (fun x a b => by rw [show x = s by omega]; exact no)
          exact n2 _ _ ⟨rfl, g1, g2, g3, by rw [v.1, v.2]; exact g4⟩
        refine G_in ?_
        by_cases c1 : b.testBit s = true
        · rw [if_pos c1] at bt
          simp (implicitDefEqProofs := false) (disch := omega) only [b312_6, b312_8, q312_8, x_aload0, y_call311, y_call313, y_call55, y_call68, x_gc_8195, x_gf_8203, x_gf_8272, x_goto_6, x_goto_8, x_iand, x_iconst, x_ifCond_eq_7, x_ifCond_eq_8, x_ifCond_ne_8, x_if_icmp_eq_8, x_if_icmp_ge_9, x_iinc5, x_iload2, x_iload4, x_iload5, x_ishr, klp_0, klp_1, klp_2, klp_3, klp_9, KC_0, KC_1, KC_2, KC_3, KC_4, ne_eq, not_false_eq_true, not_true_eq_false, true_and, and_true, and_self, implies_true, eq_self, true_imp_iff, false_implies, Int.reduceEq, Int.reduceNe, Int.reduceMod, Int.reduceMul, Int.reduceAdd, Int.reduceSub, Int.reduceLT, Int.reduceLE, Nat.reduceAdd, Nat.reduceLeDiff, Nat.reduceLT, Nat.reduceSub, reduceIte, wds_n, wds_0, wds_1, wds_2, wds_3, or_true, true_or, or_false, false_or, or_self, false_and, and_false, d_pos, d_s1, d_s2, d_s3, d_s4, d_s5, d_s6, d_s7, d_s8, Classical.not_not, hi1, s55 hT, TC_0 hT, TC_k hT, z2, bt, le_T, le_F, lt_T, lt_F, w32_T]
          exact skip (fun w => by
            unfold okF at w
            by_cases z : m.testBit s = true ∧ t r s = 1
            · have := (Rs.1 z.1).2.1
              rw [c1] at this; exact absurd this (by decide)
            · rw [if_neg z] at w; omega)
        · rw [if_neg c1] at bt
          have hsT : 0 ≤ (s : Int) ∧ (s : Int) < h' (h 64 8 + 598) 2 := by rw [hTs]; exact sI
          have hm10 : h' (h 64 8 + 598) 2 ≤ 10 := by rw [hTs]; exact hS.2
          by_cases c2 : t r s = 1
          · have e2 : (if i_and (i_shr (h' (h 64 8 + 790) s) j) 1 = 1 then (1 : Int) else 0) = 1 := by rw [hT4, ← te, if_pos c2]
            by_cases c3 : i_and (i_shr (h 2656 s) (h 2568 10)) 1 = 1
            · have e3 : (if i_and (i_shr (h' 2656 s) (h 2568 10)) 1 = 1 then (1 : Int) else 0) = 1 := by rw [h2656, if_pos c3]
              simp (implicitDefEqProofs := false) (disch := omega) only [b312_6, b312_8, q312_8, x_aload0, y_call311, y_call313, y_call55, y_call68, x_gc_8195, x_gf_8203, x_gf_8272, x_goto_6, x_goto_8, x_iand, x_iconst, x_ifCond_eq_7, x_ifCond_eq_8, x_ifCond_ne_8, x_if_icmp_eq_8, x_if_icmp_ge_9, x_iinc5, x_iload2, x_iload4, x_iload5, x_ishr, klp_0, klp_1, klp_2, klp_3, klp_9, KC_0, KC_1, KC_2, KC_3, KC_4, ne_eq, not_false_eq_true, not_true_eq_false, true_and, and_true, and_self, implies_true, eq_self, true_imp_iff, false_implies, Int.reduceEq, Int.reduceNe, Int.reduceMod, Int.reduceMul, Int.reduceAdd, Int.reduceSub, Int.reduceLT, Int.reduceLE, Nat.reduceAdd, Nat.reduceLeDiff, Nat.reduceLT, Nat.reduceSub, reduceIte, wds_n, wds_0, wds_1, wds_2, wds_3, or_true, true_or, or_false, false_or, or_self, false_and, and_false, d_pos, d_s1, d_s2, d_s3, d_s4, d_s5, d_s6, d_s7, d_s8, Classical.not_not, hi1, s55 hT, TC_0 hT, TC_k hT, z2, bt, s68 hT hsT u3 hm10, e2, s311 sI10, h10, e3, le_T, le_F, lt_T, lt_F, w32_T]
              exact skip (fun w => by
                unfold okF at w
                by_cases z : m.testBit s = true ∧ t r s = 1
                · have := (Rs.1 z.1).2.2.1
                  omega
                · rw [if_neg z] at w; omega)
            · have e3 : (if i_and (i_shr (h' 2656 s) (h 2568 10)) 1 = 1 then (1 : Int) else 0) = 0 := by rw [h2656, if_neg c3]
              by_cases c4 : i_and (i_shr (h 2016 s) (h 2568 10)) 1 = 1
              · have e4 : (if i_and (i_shr (h' 2016 s) (h 2568 10)) 1 = 1 then (1 : Int) else 0) = 1 := by rw [h2016, if_pos c4]
                simp (implicitDefEqProofs := false) (disch := omega) only [b312_6, b312_8, q312_8, x_aload0, y_call311, y_call313, y_call55, y_call68, x_gc_8195, x_gf_8203, x_gf_8272, x_goto_6, x_goto_8, x_iand, x_iconst, x_ifCond_eq_7, x_ifCond_eq_8, x_ifCond_ne_8, x_if_icmp_eq_8, x_if_icmp_ge_9, x_iinc5, x_iload2, x_iload4, x_iload5, x_ishr, klp_0, klp_1, klp_2, klp_3, klp_9, KC_0, KC_1, KC_2, KC_3, KC_4, ne_eq, not_false_eq_true, not_true_eq_false, true_and, and_true, and_self, implies_true, eq_self, true_imp_iff, false_implies, Int.reduceEq, Int.reduceNe, Int.reduceMod, Int.reduceMul, Int.reduceAdd, Int.reduceSub, Int.reduceLT, Int.reduceLE, Nat.reduceAdd, Nat.reduceLeDiff, Nat.reduceLT, Nat.reduceSub, reduceIte, wds_n, wds_0, wds_1, wds_2, wds_3, or_true, true_or, or_false, false_or, or_self, false_and, and_false, d_pos, d_s1, d_s2, d_s3, d_s4, d_s5, d_s6, d_s7, d_s8, Classical.not_not, hi1, s55 hT, TC_0 hT, TC_k hT, z2, bt, s68 hT hsT u3 hm10, e2, s311 sI10, h10, e3, z2568_0, s313 sI10, e4, le_T, le_F, lt_T, lt_F, w32_T]
                exact skip (fun w => by
                  unfold okF at w
                  by_cases z : m.testBit s = true ∧ t r s = 1
                  · have := (Rs.1 z.1).2.2.2
                    omega
                  · rw [if_neg z] at w; omega)
              · have e4 : (if i_and (i_shr (h' 2016 s) (h 2568 10)) 1 = 1 then (1 : Int) else 0) = 0 := by rw [h2016, if_neg c4]
                have mb : m.testBit s = true := Rs.2 ⟨sI.2, by cases hx : b.testBit s with
                  | true => exact absurd hx c1
                  | false => rfl, (and1_01 _).resolve_right c3, (and1_01 _).resolve_right c4⟩
                have ok1 : okF (t r) m s = 1 := by unfold okF; rw [if_pos ⟨mb, c2⟩]
                have bo := bit_or (m := b) (s := s) R.1 s10
                have b1 := R.1
                simp (implicitDefEqProofs := false) (disch := omega) only [b312_6, b312_7, q312_7, x_aload0, y_call311, y_call312, y_call313, y_call55, y_call68, x_gc_8195, x_gc_8251, x_gf_8203, x_gf_8272, x_goto_8, x_iadd, x_iand, x_iastore, x_iconst, x_ifCond_eq_7, x_ifCond_eq_8, x_ifCond_ne_8, x_if_icmp_eq_8, x_if_icmp_ge_9, x_iload1, x_iload2, x_iload3, x_iload4, x_iload5, x_ior, x_ishl, x_ishr, klp_0, klp_1, klp_2, klp_3, klp_9, KC_0, KC_1, KC_2, KC_3, KC_4, ne_eq, not_false_eq_true, not_true_eq_false, true_and, and_true, and_self, implies_true, eq_self, true_imp_iff, false_implies, Int.reduceEq, Int.reduceNe, Int.reduceMod, Int.reduceMul, Int.reduceAdd, Int.reduceSub, Int.reduceLT, Int.reduceLE, Nat.reduceAdd, Nat.reduceLeDiff, Nat.reduceLT, Nat.reduceSub, reduceIte, wds_n, wds_0, wds_1, wds_2, wds_3, or_true, true_or, or_false, false_or, or_self, false_and, and_false, d_pos, d_s1, d_s2, d_s3, d_s4, d_s5, d_s6, d_s7, d_s8, Classical.not_not, hi1, s55 hT, TC_0 hT, TC_k hT, z2, bt, s68 hT hsT u3 hm10, e2, s311 sI10, h10, e3, z2568_0, s313 sI10, e4, z2568_7, z2848_l, bo, le_T, le_F, lt_T, lt_F, w32_T]
                have ci : (i : Int) + 1 = ((i + 1 : Nat) : Int) := by omega
                have cc : (c : Int) + 1 = ((c + 1 : Nat) : Int) := by omega
                rw [ci, cc]
                refine ih (i + 1) (b ||| 2 ^ s) (m ^^^ 2 ^ s) (c + 1) (hset h' 2848 i s) _ (by omega) (RlC_s R s10 mb) ⟨fun a q => by rw [hs_ne q.2.1]; exact g1.1 a q, fun x hx => by rw [hs_ne (by decide)]; exact g1.2 x hx⟩ (by rw [hs_ne (by decide)]; exact g2) (by omega) (fun K2 p1 p2 p3 p4 => ?_)
                simp (implicitDefEqProofs := false) (disch := omega) only [b312_7, b312_8, q312_7, q312_8, x_aload0, y_call312, x_gc_8251, x_goto_6, x_goto_8, x_iadd, x_iastore, x_iconst, x_iinc5, x_iload1, x_iload2, x_iload3, x_iload5, x_ior, x_ishl, klp_0, klp_1, klp_2, klp_3, klp_9, KC_0, KC_1, KC_2, KC_3, KC_4, ne_eq, not_false_eq_true, not_true_eq_false, true_and, and_true, and_self, implies_true, eq_self, true_imp_iff, false_implies, Int.reduceEq, Int.reduceNe, Int.reduceMod, Int.reduceMul, Int.reduceAdd, Int.reduceSub, Int.reduceLT, Int.reduceLE, Nat.reduceAdd, Nat.reduceLeDiff, Nat.reduceLT, Nat.reduceSub, reduceIte, wds_n, wds_0, wds_1, wds_2, wds_3, or_true, true_or, or_false, false_or, or_self, false_and, and_false, d_pos, d_s1, d_s2, d_s3, d_s4, d_s5, d_s6, d_s7, d_s8, Classical.not_not, w32_T]
                have tr := SC_tr (a := (s : Int)) g4 (by rw [hs_ne (by decide)]) (hs_ne (by decide)) (fun k hk => by rw [hset_v, if_neg (fun w => by omega)]; exact g3 k hk) (by rw [hset_v, if_pos ⟨rfl, rfl⟩]) p4
                have w0 := wC_0 (t := t) (r := r) (m := m) s
                have wE : ((c + 1 : Nat) : Int) + FCv t r (m ^^^ 2 ^ s) = c + wC t r m s := by
                  show ((c + 1 : Nat) : Int) + FCv t r (m ^^^ 2 ^ s) = c + (1 + FCv t r (m ^^^ 2 ^ s))
                  generalize FCv t r (m ^^^ 2 ^ s) = x
                  omega
                have cs : (s : Int) + 1 = ((s + 1 : Nat) : Int) := by omega
                rw [cs]
                refine n2 [(3, 2568), (0, (i : Int)), (0, (b : Int)), (0, (c : Int)), (0, j), (0, ((s + 1 : Nat) : Int))] K2 ⟨(by with_reducible rfl), p1, p2, fun k hk => ?_, ?_⟩
                · rw [p3 k (by omega), hset_v, if_neg (fun w => by omega)]
                  exact g3 k hk
                · rw [wE] at tr
                  by_cases z : vS (okF (t r) m) (wC t r m) s < wC t r m s
                  · have v1 : vS (okF (t r) m) (wC t r m) (s + 1) = wC t r m s := by rw [vS, if_pos (show okF (t r) m s = 1 ∧ vS (okF (t r) m) (wC t r m) s < wC t r m s from ⟨ok1, z⟩)]
                    have v2 : aS (okF (t r) m) (wC t r m) (s + 1) = s := by rw [aS, if_pos (show okF (t r) m s = 1 ∧ vS (okF (t r) m) (wC t r m) s < wC t r m s from ⟨ok1, z⟩)]
                    rw [v1, v2, if_neg (by omega), show ((s : Int)).toNat = s by omega]
                    rw [if_pos (by split <;> omega), if_pos (by split <;> omega)] at tr
                    exact tr
                  · have v1 : vS (okF (t r) m) (wC t r m) (s + 1) = vS (okF (t r) m) (wC t r m) s := by rw [vS, if_neg (show ¬ (okF (t r) m s = 1 ∧ vS (okF (t r) m) (wC t r m) s < wC t r m s) from fun y => z y.2)]
                    have v2 : aS (okF (t r) m) (wC t r m) (s + 1) = aS (okF (t r) m) (wC t r m) s := by rw [aS, if_neg (show ¬ (okF (t r) m s = 1 ∧ vS (okF (t r) m) (wC t r m) s < wC t r m s) from fun y => z y.2)]
                    rw [v1, v2]
                    rw [if_neg (by rw [if_neg (by omega)]; omega), if_neg (by omega), if_neg (by omega)] at tr
                    rw [if_neg (by omega)]
                    exact tr
          · have e2 : (if i_and (i_shr (h' (h 64 8 + 790) s) j) 1 = 1 then (1 : Int) else 0) = 0 := by rw [hT4, ← te, if_neg c2]
            simp (implicitDefEqProofs := false) (disch := omega) only [b312_6, b312_8, q312_8, x_aload0, y_call311, y_call313, y_call55, y_call68, x_gc_8195, x_gf_8203, x_gf_8272, x_goto_6, x_goto_8, x_iand, x_iconst, x_ifCond_eq_7, x_ifCond_eq_8, x_ifCond_ne_8, x_if_icmp_eq_8, x_if_icmp_ge_9, x_iinc5, x_iload2, x_iload4, x_iload5, x_ishr, klp_0, klp_1, klp_2, klp_3, klp_9, KC_0, KC_1, KC_2, KC_3, KC_4, ne_eq, not_false_eq_true, not_true_eq_false, true_and, and_true, and_self, implies_true, eq_self, true_imp_iff, false_implies, Int.reduceEq, Int.reduceNe, Int.reduceMod, Int.reduceMul, Int.reduceAdd, Int.reduceSub, Int.reduceLT, Int.reduceLE, Nat.reduceAdd, Nat.reduceLeDiff, Nat.reduceLT, Nat.reduceSub, reduceIte, wds_n, wds_0, wds_1, wds_2, wds_3, or_true, true_or, or_false, false_or, or_self, false_and, and_false, d_pos, d_s1, d_s2, d_s3, d_s4, d_s5, d_s6, d_s7, d_s8, Classical.not_not, hi1, s55 hT, TC_0 hT, TC_k hT, z2, bt, s68 hT hsT u3 hm10, e2, le_T, le_F, lt_T, lt_F, w32_T]
            exact skip (fun w => by
              unfold okF at w
              rw [if_neg (fun z => c2 z.2)] at w; omega)
      · rintro ls h' ⟨rfl, g1, g2, g3, g4⟩
        have hi1 : h' 2568 1 = h 64 8 := by rw [g1.2 1 (by decide)]; exact H.1
        have hTs : h' (h 64 8 + 598) = h (h 64 8 + 598) := g1.1 _ (by rcases hT with w | w <;> omega)
        have z2 : (if (0 : Int) ≤ 2 ∧ (2 : Int) < 7 then h' (h 64 8 + 598) 2 else 0) = h (h 64 8 + 598) 2 := by rw [if_pos (by decide), hTs]
        have v := vS_no (ok := okF (t r) m) (w := wC t r m) (k := (h (h 64 8 + 598) 2).toNat) (10 - (h (h 64 8 + 598) 2).toNat) (fun x a1 a2 w => by
          unfold okF at w
          by_cases z : m.testBit x = true ∧ t r x = 1
          · have := ((R.2.2 x (by omega)).1 z.1).1
            omega
          · rw [if_neg z] at w; omega)
        rw [show (h (h 64 8 + 598) 2).toNat + (10 - (h (h 64 8 + 598) 2).toNat) = 10 by omega] at v
        rw [← v.1, ← v.2] at g4
        have ci : (i : Int) + 1 = ((i + 1 : Nat) : Int) := by omega
        refine G_in ?_
        simp (implicitDefEqProofs := false) (disch := omega) only [b312_6, b312_9, q312_9, x_aload0, y_call311, y_call312, y_call313, y_call55, y_call68, x_gc_8195, x_gc_8251, x_gf_8203, x_gf_8272, x_goto_8, x_iadd, x_iand, x_iastore, x_iconst, x_ifCond_eq_7, x_ifCond_eq_8, x_ifCond_ne_8, x_if_icmp_eq_8, x_if_icmp_ge_9, x_iload1, x_iload2, x_iload3, x_iload4, x_iload5, x_ishr, x_return, klp_0, klp_1, klp_2, klp_3, klp_9, KC_0, KC_1, KC_2, KC_3, KC_4, ne_eq, not_false_eq_true, not_true_eq_false, true_and, and_true, and_self, implies_true, eq_self, true_imp_iff, false_implies, Int.reduceEq, Int.reduceNe, Int.reduceMod, Int.reduceMul, Int.reduceAdd, Int.reduceSub, Int.reduceLT, Int.reduceLE, Nat.reduceAdd, Nat.reduceLeDiff, Nat.reduceLT, Nat.reduceSub, reduceIte, wds_n, wds_0, wds_1, wds_2, wds_3, or_true, true_or, or_false, false_or, or_self, false_and, and_false, d_pos, d_s1, d_s2, d_s3, d_s4, d_s5, d_s6, d_s7, d_s8, Classical.not_not, hi1, s55 hT, TC_0 hT, TC_k hT, z2, z2568_7, z2848_l, le_T, le_F, lt_T, lt_F, w32_T]
        rw [ci]
        refine ih (i + 1) b m c (hset h' 2848 i (-9)) _ (by omega) R ⟨fun a q => by rw [hs_ne q.2.1]; exact g1.1 a q, fun x hx => by rw [hs_ne (by decide)]; exact g1.2 x hx⟩ (by rw [hs_ne (by decide)]; exact g2) (by omega) (fun K2 p1 p2 p3 p4 => ?_)
        simp (implicitDefEqProofs := false) (disch := omega) only [b312_9, q312_9, x_aload0, y_call312, x_gc_8251, x_iadd, x_iastore, x_iconst, x_iload1, x_iload2, x_iload3, x_return, klp_0, klp_1, klp_2, klp_3, klp_9, KC_0, KC_1, KC_2, KC_3, KC_4, ne_eq, not_false_eq_true, not_true_eq_false, true_and, and_true, and_self, implies_true, eq_self, true_imp_iff, false_implies, Int.reduceEq, Int.reduceNe, Int.reduceMod, Int.reduceMul, Int.reduceAdd, Int.reduceSub, Int.reduceLT, Int.reduceLE, Nat.reduceAdd, Nat.reduceLeDiff, Nat.reduceLT, Nat.reduceSub, reduceIte, wds_n, wds_0, wds_1, wds_2, wds_3, or_true, true_or, or_false, false_or, or_self, false_and, and_false, d_pos, d_s1, d_s2, d_s3, d_s4, d_s5, d_s6, d_s7, d_s8, Classical.not_not]
        have tr := SC_tr (a := (-9 : Int)) g4 (by rw [hs_ne (by decide)]) (hs_ne (by decide)) (fun k hk => by rw [hset_v, if_neg (fun w => by omega)]; exact g3 k hk) (by rw [hset_v, if_pos ⟨rfl, rfl⟩]) p4
        refine nx K2 p1 p2 (fun k hk => ?_) ?_
        · rw [p3 k (by omega), hset_v, if_neg (fun w => by omega)]
          exact g3 k hk
        · have f0 := (FCv_b (t := t) r m).1
          have pE : ∀ a : Int, chC t r m = a → (if a < 0 then m else m ^^^ 2 ^ a.toNat) = (if chC t r m < 0 then m else m ^^^ 2 ^ (chC t r m).toNat) := fun a ha => by rw [ha]
          rw [FCv_s]
          by_cases z : vS (okF (t r) m) (wC t r m) 10 < FCv t r m
          · have ch : chC t r m = -9 := by unfold chC; rw [if_pos z]
            rw [if_pos z]
            rw [if_pos (by split <;> omega), if_pos (by split <;> omega)] at tr
            have pg : paC t (r + 1) m = gCv (-9) (paC t r m) := by
              funext k
              cases k with
              | zero => exact ch
              | succ k =>
                show paC t r (if chC t r m < 0 then m else m ^^^ 2 ^ (chC t r m).toNat) k = paC t r m k
                rw [ch, if_pos (by decide)]
            rw [pg]
            exact tr
          · have ch : chC t r m = aS (okF (t r) m) (wC t r m) 10 := by unfold chC; rw [if_neg z]
            have cb := chC_b (t := t) (r := r) (m := m)
            rw [if_neg z]
            rw [if_neg (by rw [if_neg (by omega)]; omega), if_neg (by omega), if_neg (by omega)] at tr
            have c0 : 0 ≤ chC t r m := by
              rcases vS_spec (ok := okF (t r) m) (w := wC t r m) wC_0 10 with ⟨e1, _⟩ | ⟨e1, _⟩
              · omega
              · omega
            have pg : paC t (r + 1) m = gCv (aS (okF (t r) m) (wC t r m) 10) (paC t r (m ^^^ 2 ^ (aS (okF (t r) m) (wC t r m) 10).toNat)) := by
              funext k
              cases k with
              | zero => exact ch
              | succ k =>
                show paC t r (if chC t r m < 0 then m else m ^^^ 2 ^ (chC t r m).toNat) k = _
                rw [if_neg (by omega), ch]
                rfl
            rw [pg]
            exact tr
