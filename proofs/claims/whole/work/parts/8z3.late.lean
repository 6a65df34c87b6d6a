/-! THE PURE SIDE, 176: rules on both sides: what is found late: printed by wip/tools/gen8z3.py -/
/-- the place of what is found late -/
def rLt (l p : Int) : Int := if l < 0 ∨ p < l then p else l
def ltC (f : Int → Int) (l0 : Int) : Nat → Int
  | 0 => l0
  | n + 1 => if 0 ≤ f n then rLt (ltC f l0 n) (f n) else ltC f l0 n
def slF (h : HV) (w : Int) : Int := fnx (h 9505) w (-9) (h 6603 15).toNat 0
def rltR (h : HV) (l0 : Int) : Nat → Int
  | 0 => l0
  | n + 1 => if slF h (h 9569 n) = -9 then rLt (rltR h l0 n) (h 9632 n) else rltR h l0 n
/-- the least of some places, and what was found before -/
def LMIN (P : Int → Prop) (l0 L : Int) : Prop := (∀ p, P p → 0 ≤ L ∧ L ≤ p) ∧ (0 ≤ l0 → 0 ≤ L ∧ L ≤ l0) ∧ (L = l0 ∨ P L)
theorem LMIN.nil {P : Int → Prop} {l0 : Int} (h : ∀ p, ¬ P p) : LMIN P l0 l0 := ⟨fun p a => absurd a (h p), fun a => ⟨a, Int.le_refl _⟩, .inl rfl⟩
theorem LMIN.add {P P2 : Int → Prop} {l0 L p : Int} (M : LMIN P l0 L) (hp : 0 ≤ p) (h : ∀ q, P2 q ↔ P q ∨ q = p) : LMIN P2 l0 (rLt L p) := by
  obtain ⟨m1, m2, m3⟩ := M
  unfold rLt
  by_cases c : L < 0 ∨ p < L
  · rw [if_pos c]
    refine ⟨fun q a => ?_, fun a => ?_, .inr ((h p).mpr (.inr rfl))⟩
    · rcases (h q).mp a with b | b
      · have := m1 q b
        omega
      · omega
    · have := m2 a
      omega
  · rw [if_neg c]
    refine ⟨fun q a => ?_, m2, ?_⟩
    · rcases (h q).mp a with b | b
      · exact m1 q b
      · omega
    · rcases m3 with b | b
      · exact .inl b
      · exact .inr ((h L).mpr (.inl b))
theorem LMIN.same {P P2 : Int → Prop} {l0 L : Int} (M : LMIN P l0 L) (h : ∀ q, P2 q ↔ P q) : LMIN P2 l0 L := ⟨fun p a => M.1 p ((h p).mp a), M.2.1, M.2.2.imp id (h L).mpr⟩
theorem ltC_min {f : Int → Int} {l0 : Int} : ∀ n : Nat, LMIN (fun p => ∃ v : Int, (0 ≤ v ∧ v < n) ∧ f v = p ∧ 0 ≤ p) l0 (ltC f l0 n)
  | 0 => LMIN.nil (fun p ⟨v, a, _⟩ => by omega)
  | n + 1 => by
    have i := ltC_min (f := f) (l0 := l0) n
    rw [ltC]
    by_cases c : 0 ≤ f n
    · rw [if_pos c]
      refine i.add c (fun q => ⟨fun ⟨v, a, b, e⟩ => ?_, fun w => ?_⟩)
      · by_cases u : v = n
        · rw [u] at b
          exact .inr b.symm
        · exact .inl ⟨v, by omega, b, e⟩
      · rcases w with ⟨v, a, b, e⟩ | w
        · exact ⟨v, by omega, b, e⟩
        · exact ⟨n, by omega, w.symm, by omega⟩
    · rw [if_neg c]
      refine i.same (fun q => ⟨fun ⟨v, a, b, e⟩ => ?_, fun ⟨v, a, b, e⟩ => ⟨v, by omega, b, e⟩⟩)
      by_cases u : v = n
      · rw [u] at b
        omega
      · exact ⟨v, by omega, b, e⟩
theorem rltR_min' {h : HV} {l0 : Int} (h9 : ∀ k, 0 ≤ k → k < h 6603 19 → slF h (h 9569 k) = -9 → 0 ≤ h 9632 k) : ∀ n : Nat, (n : Int) ≤ h 6603 19 → LMIN (fun p => ∃ v : Int, (0 ≤ v ∧ v < n) ∧ slF h (h 9569 v) = -9 ∧ h 9632 v = p) l0 (rltR h l0 n)
  | 0, _ => LMIN.nil (fun p ⟨v, a, _⟩ => by omega)
  | n + 1, hn => by
    have i := rltR_min' (h := h) (l0 := l0) h9 n (by omega)
    rw [rltR]
    by_cases c : slF h (h 9569 n) = -9
    · rw [if_pos c]
      refine i.add (h9 n (by omega) (by omega) c) (fun q => ⟨fun ⟨v, a, b, e⟩ => ?_, fun w => ?_⟩)
      · by_cases u : v = n
        · rw [u] at e
          exact .inr e.symm
        · exact .inl ⟨v, by omega, b, e⟩
      · rcases w with ⟨v, a, b, e⟩ | w
        · exact ⟨v, by omega, b, e⟩
        · exact ⟨n, by omega, c, w.symm⟩
    · rw [if_neg c]
      refine i.same (fun q => ⟨fun ⟨v, a, b, e⟩ => ?_, fun ⟨v, a, b, e⟩ => ⟨v, by omega, b, e⟩⟩)
      by_cases u : v = n
      · rw [u] at b
        exact absurd b c
      · exact ⟨v, by omega, b, e⟩
/-- what was found late, on both sides -/
def LATX (c r : Int) : Prop := (c = -1 ∧ r = -9) ∨ (0 ≤ c ∧ r = c)
theorem late_both {A B : Int → Prop} {c0 r0 c r : Int} (L : LATX c0 r0) (MA : LMIN A c0 c) (MB : LMIN B r0 r) (ab : ∀ p, A p → B p) (ba : ∀ p, B p → ∃ q, A q ∧ q ≤ p) : LATX c r := by
  obtain ⟨a1, a2, a3⟩ := MA
  obtain ⟨b1, b2, b3⟩ := MB
  unfold LATX at *
  have e : 0 ≤ r → (B r → c ≤ r) := fun _ u => by
    obtain ⟨q, q1, q2⟩ := ba r u
    have := a1 q q1
    omega
  rcases a3 with a | a
  · rcases b3 with b | b
    · omega
    · obtain ⟨q, q1, q2⟩ := ba r b
      have := a1 q q1
      have := b1 r b
      omega
  · have x := b1 c (ab c a)
    have y := a1 c a
    rcases b3 with b | b
    · omega
    · obtain ⟨q, q1, q2⟩ := ba r b
      have := a1 q q1
      omega
theorem hs22 {h : HV} {a i v w : Int} : hset (hset h a i v) a i w = hset h a i w := by
  funext o j
  simp only [hset_v]
  split <;> rfl
section SM
variable {T S : Int} {h hr k kr : HV} {Q : Int → HV → Prop} {d : Nat}
theorem c123 {p : Int} : Sp fz1 d 123 [(3, 258), (0, p)] h Q = Q 0 (hset h 258 2 (rLt (h 258 2) p)) := by
  unfold rLt
  by_cases c1 : h 258 2 < 0
  · rw [if_pos (.inl c1)]
    simp (implicitDefEqProofs := false) (disch := omega) only [sp123, b123_0, b123_1, b123_2, q123_1, q123_2, x_aload0, x_gf_2064, x_goto_1, x_goto_2, x_ifCond_lt_1, x_if_icmp_ge_2, x_iload1, x_pf_2064, x_return, klp_0, klp_1, klp_2, klp_3, klp_9, KC_0, KC_1, KC_2, KC_3, KC_4, ne_eq, not_false_eq_true, not_true_eq_false, true_and, and_true, and_self, implies_true, eq_self, true_imp_iff, false_implies, Int.reduceEq, Int.reduceNe, Int.reduceMod, Int.reduceMul, Int.reduceAdd, Int.reduceSub, Int.reduceLT, Int.reduceLE, Nat.reduceAdd, Nat.reduceLeDiff, Nat.reduceLT, Nat.reduceSub, reduceIte, wds_n, wds_0, wds_1, wds_2, wds_3, or_true, true_or, or_false, false_or, or_self, false_and, and_false, d_pos, d_s1, d_s2, d_s3, d_s4, d_s5, d_s6, d_s7, d_s8, Classical.not_not, d_s9, d_s10, d_s11, d_s12, d_s13, d_s14, d_s15, d_s16, d_s17, d_s18, d_s19, d_s20, d_s21, d_s22, d_s23, d_s24, d_s25, d_s26, d_s27, d_s28, d_s29, d_s30, hs_ne, hcell, hcel1, le_sub1, le_T, le_F, lt_T, lt_F, eq_F, w32_T, bz0, bz1, lc_le, lc_ge, lc_lt, lc_gt, lc_eq]
  · by_cases c2 : p < h 258 2
    · rw [if_pos (.inr c2)]
      simp (implicitDefEqProofs := false) (disch := omega) only [sp123, b123_0, b123_1, b123_2, q123_1, q123_2, x_aload0, x_gf_2064, x_goto_1, x_goto_2, x_ifCond_lt_1, x_if_icmp_ge_2, x_iload1, x_pf_2064, x_return, klp_0, klp_1, klp_2, klp_3, klp_9, KC_0, KC_1, KC_2, KC_3, KC_4, ne_eq, not_false_eq_true, not_true_eq_false, true_and, and_true, and_self, implies_true, eq_self, true_imp_iff, false_implies, Int.reduceEq, Int.reduceNe, Int.reduceMod, Int.reduceMul, Int.reduceAdd, Int.reduceSub, Int.reduceLT, Int.reduceLE, Nat.reduceAdd, Nat.reduceLeDiff, Nat.reduceLT, Nat.reduceSub, reduceIte, wds_n, wds_0, wds_1, wds_2, wds_3, or_true, true_or, or_false, false_or, or_self, false_and, and_false, d_pos, d_s1, d_s2, d_s3, d_s4, d_s5, d_s6, d_s7, d_s8, Classical.not_not, d_s9, d_s10, d_s11, d_s12, d_s13, d_s14, d_s15, d_s16, d_s17, d_s18, d_s19, d_s20, d_s21, d_s22, d_s23, d_s24, d_s25, d_s26, d_s27, d_s28, d_s29, d_s30, hs_ne, hcell, hcel1, le_sub1, le_T, le_F, lt_T, lt_F, eq_F, w32_T, bz0, bz1, lc_le, lc_ge, lc_lt, lc_gt, lc_eq]
    · rw [if_neg (by omega), hset_as rfl]
      simp (implicitDefEqProofs := false) (disch := omega) only [sp123, b123_0, b123_1, b123_2, q123_1, q123_2, x_aload0, x_gf_2064, x_goto_1, x_goto_2, x_ifCond_lt_1, x_if_icmp_ge_2, x_iload1, x_pf_2064, x_return, klp_0, klp_1, klp_2, klp_3, klp_9, KC_0, KC_1, KC_2, KC_3, KC_4, ne_eq, not_false_eq_true, not_true_eq_false, true_and, and_true, and_self, implies_true, eq_self, true_imp_iff, false_implies, Int.reduceEq, Int.reduceNe, Int.reduceMod, Int.reduceMul, Int.reduceAdd, Int.reduceSub, Int.reduceLT, Int.reduceLE, Nat.reduceAdd, Nat.reduceLeDiff, Nat.reduceLT, Nat.reduceSub, reduceIte, wds_n, wds_0, wds_1, wds_2, wds_3, or_true, true_or, or_false, false_or, or_self, false_and, and_false, d_pos, d_s1, d_s2, d_s3, d_s4, d_s5, d_s6, d_s7, d_s8, Classical.not_not, d_s9, d_s10, d_s11, d_s12, d_s13, d_s14, d_s15, d_s16, d_s17, d_s18, d_s19, d_s20, d_s21, d_s22, d_s23, d_s24, d_s25, d_s26, d_s27, d_s28, d_s29, d_s30, hs_ne, hcell, hcel1, le_sub1, le_T, le_F, lt_T, lt_F, eq_F, w32_T, bz0, bz1, lc_le, lc_ge, lc_lt, lc_gt, lc_eq]
theorem lp72 {x l0 : Int} {e : Nat} (hv : 0 ≤ k 258 6 ∧ k 258 6 ≤ 404) : ∀ (m n : Nat), (n : Int) + m = k 258 6 → G fz1 (e + 10) 72 4 [(3, 258), (0, x), (0, (n : Int))] [] (hset k 258 2 (ltC (k 416) l0 n)) Q = Q 0 (hset k 258 2 (ltC (k 416) l0 (k 258 6).toNat))
  | 0, n, hn => by
    have e1 : (k 258 6).toNat = n := by omega
    rw [e1, q72_4]
    simp (implicitDefEqProofs := false) (disch := omega) only [b72_4, b72_6, q72_6, x_aload0, y_call123, x_gc_2091, x_gf_2096, x_goto_5, x_iaload, x_ifCond_lt_5, x_if_icmp_ge_6, x_iload2, x_return, klp_0, klp_1, klp_2, klp_3, klp_9, KC_0, KC_1, KC_2, KC_3, KC_4, ne_eq, not_false_eq_true, not_true_eq_false, true_and, and_true, and_self, implies_true, eq_self, true_imp_iff, false_implies, Int.reduceEq, Int.reduceNe, Int.reduceMod, Int.reduceMul, Int.reduceAdd, Int.reduceSub, Int.reduceLT, Int.reduceLE, Nat.reduceAdd, Nat.reduceLeDiff, Nat.reduceLT, Nat.reduceSub, reduceIte, wds_n, wds_0, wds_1, wds_2, wds_3, or_true, true_or, or_false, false_or, or_self, false_and, and_false, d_pos, d_s1, d_s2, d_s3, d_s4, d_s5, d_s6, d_s7, d_s8, Classical.not_not, z258_0, z258_5, z416_l, d_s9, d_s10, d_s11, d_s12, d_s13, d_s14, d_s15, d_s16, d_s17, d_s18, d_s19, d_s20, d_s21, d_s22, d_s23, d_s24, d_s25, d_s26, d_s27, d_s28, d_s29, d_s30, hs_ne, hcell, hcel1, le_sub1, le_T, le_F, lt_T, lt_F, eq_F, w32_T, bz0, bz1, lc_le, lc_ge, lc_lt, lc_gt, lc_eq]
  | m + 1, n, hn => by
    have i : G fz1 (e + 10) 72 4 [(3, 258), (0, x), (0, ((n + 1 : Nat) : Int))] [] (hset k 258 2 (ltC (k 416) l0 (n + 1))) Q = Q 0 (hset k 258 2 (ltC (k 416) l0 (k 258 6).toNat)) := lp72 hv m (n + 1) (by omega)
    have cs : ((n + 1 : Nat) : Int) = (n : Int) + 1 := by omega
    rw [cs, ltC] at i
    by_cases c : 0 ≤ k 416 n
    · rw [if_pos c] at i
      have r1 : ∀ Q, Sp fz1 (e + 9) 123 [(3, 258), (0, k 416 n)] (hset k 258 2 (ltC (k 416) l0 n)) Q = Q 0 (hset k 258 2 (rLt (ltC (k 416) l0 n) (k 416 n))) := fun Q => by rw [c123, hcel1, hs22]
      rw [q72_4]
      simp (implicitDefEqProofs := false) (disch := omega) only [b72_4, b72_5, q72_5, x_aload0, y_call123, x_gc_2091, x_gf_2096, x_goto_4, x_goto_5, x_iaload, x_ifCond_lt_5, x_if_icmp_ge_6, x_iinc2, x_iload2, klp_0, klp_1, klp_2, klp_3, klp_9, KC_0, KC_1, KC_2, KC_3, KC_4, ne_eq, not_false_eq_true, not_true_eq_false, true_and, and_true, and_self, implies_true, eq_self, true_imp_iff, false_implies, Int.reduceEq, Int.reduceNe, Int.reduceMod, Int.reduceMul, Int.reduceAdd, Int.reduceSub, Int.reduceLT, Int.reduceLE, Nat.reduceAdd, Nat.reduceLeDiff, Nat.reduceLT, Nat.reduceSub, reduceIte, wds_n, wds_0, wds_1, wds_2, wds_3, or_true, true_or, or_false, false_or, or_self, false_and, and_false, d_pos, d_s1, d_s2, d_s3, d_s4, d_s5, d_s6, d_s7, d_s8, Classical.not_not, z258_0, z258_5, z416_l, r1, i, d_s9, d_s10, d_s11, d_s12, d_s13, d_s14, d_s15, d_s16, d_s17, d_s18, d_s19, d_s20, d_s21, d_s22, d_s23, d_s24, d_s25, d_s26, d_s27, d_s28, d_s29, d_s30, hs_ne, hcell, hcel1, le_sub1, le_T, le_F, lt_T, lt_F, eq_F, w32_T, bz0, bz1, lc_le, lc_ge, lc_lt, lc_gt, lc_eq]
    · rw [if_neg c] at i
      rw [q72_4]
      simp (implicitDefEqProofs := false) (disch := omega) only [b72_4, b72_5, q72_5, x_aload0, y_call123, x_gc_2091, x_gf_2096, x_goto_4, x_goto_5, x_iaload, x_ifCond_lt_5, x_if_icmp_ge_6, x_iinc2, x_iload2, klp_0, klp_1, klp_2, klp_3, klp_9, KC_0, KC_1, KC_2, KC_3, KC_4, ne_eq, not_false_eq_true, not_true_eq_false, true_and, and_true, and_self, implies_true, eq_self, true_imp_iff, false_implies, Int.reduceEq, Int.reduceNe, Int.reduceMod, Int.reduceMul, Int.reduceAdd, Int.reduceSub, Int.reduceLT, Int.reduceLE, Nat.reduceAdd, Nat.reduceLeDiff, Nat.reduceLT, Nat.reduceSub, reduceIte, wds_n, wds_0, wds_1, wds_2, wds_3, or_true, true_or, or_false, false_or, or_self, false_and, and_false, d_pos, d_s1, d_s2, d_s3, d_s4, d_s5, d_s6, d_s7, d_s8, Classical.not_not, z258_0, z258_5, z416_l, i, d_s9, d_s10, d_s11, d_s12, d_s13, d_s14, d_s15, d_s16, d_s17, d_s18, d_s19, d_s20, d_s21, d_s22, d_s23, d_s24, d_s25, d_s26, d_s27, d_s28, d_s29, d_s30, hs_ne, hcell, hcel1, le_sub1, le_T, le_F, lt_T, lt_F, eq_F, w32_T, bz0, bz1, lc_le, lc_ge, lc_lt, lc_gt, lc_eq]
/-- the names noted, told as slots -/
def rfA (S : Int) (h : HV) : Nat → Int → Int
  | 0, i => h (S + 1044) i
  | n + 1, i => if i = h 9696 n then slF h (h 9569 n) else rfA S h n i
def rfH (S : Int) (h : HV) (n : Nat) (l : Int) : HV := fun o i => if o = S + 1044 then rfA S h n i else if o = 6603 ∧ i = 8 then l else h o i
theorem rf_s {n : Nat} {l l2 : Int} (hS : TR S) : hset (hset (rfH S h n l) 6603 8 l2) (S + 1044) (h 9696 n) (slF h (h 9569 n)) = rfH S h (n + 1) l2 := by
  have kS := kTR hS
  funext o i
  simp (implicitDefEqProofs := false) only [hset_v]
  unfold rfH
  by_cases a : o = S + 1044
  · rw [if_pos a]
    by_cases b : i = h 9696 n
    · rw [if_pos ⟨a, b⟩, if_pos a, rfA, if_pos b]
    · rw [if_neg (fun u => b u.2), if_neg (fun u => by omega), if_pos a, rfA, if_neg b]
  · rw [if_neg (fun u => a u.1), if_neg a]
    by_cases b : o = 6603 ∧ i = 8
    · rw [if_pos b, if_pos b, if_neg a]
    · simp (implicitDefEqProofs := false) only [if_neg b, if_neg a]
theorem rf_8 {n : Nat} {l : Int} (hS : TR S) : hset (rfH S h n l) 6603 8 l = rfH S h n l := hset_as (by
  have kS := kTR hS
  unfold rfH
  rw [if_neg (by omega), if_pos ⟨rfl, rfl⟩])
theorem rf_ne {n : Nat} {l o : Int} (a : o ≠ S + 1044) (b : o ≠ 6603) : rfH S h n l o = h o := by
  funext i
  unfold rfH
  rw [if_neg a, if_neg (fun u => b u.1)]
theorem rf_3 {n : Nat} {l i : Int} (hS : TR S) (b : i ≠ 8) : rfH S h n l 6603 i = h 6603 i := by
  have kS := kTR hS
  unfold rfH
  rw [if_neg (by omega), if_neg (fun u => b u.2)]
theorem rf_l {n : Nat} {l : Int} (hS : TR S) : rfH S h n l 6603 8 = l := by
  have kS := kTR hS
  unfold rfH
  rw [if_neg (by omega), if_pos ⟨rfl, rfl⟩]
theorem rf_0 : rfH S h 0 (h 6603 8) = h := by
  funext o i
  unfold rfH
  by_cases a : o = S + 1044
  · rw [if_pos a, a]
    rfl
  · rw [if_neg a]
    by_cases b : o = 6603 ∧ i = 8
    · rw [if_pos b, b.1, b.2]
    · rw [if_neg b]
theorem lp339 {y l0 : Int} {e2 : Nat} (hS : TR S) (h9 : k 6603 9 = S) (h7 : k 6603 7 < 0) (hm : k 6603 19 ≤ 402) (h15 : 0 ≤ k 6603 15 ∧ k 6603 15 ≤ 420) (hc : ∀ j, 0 ≤ j → j < k 6603 19 → 0 ≤ k 9696 j ∧ k 9696 j < 6000) : ∀ (m n : Nat) (l3 : AV), (n : Int) + m = k 6603 19 → ∃ n3 l4, G fz1 (e2 + 10) 339 3 [(3, 6603), (0, y), (0, (n : Int)), l3] [] (rfH S k n (rltR k l0 n)) Q = G fz1 (e2 + 10) 339 5 [(3, 6603), (0, y), n3, l4] [] (rfH S k (k 6603 19).toNat (rltR k l0 (k 6603 19).toNat)) Q
  | 0, n, l3, hn => by
    have kS := kTR hS
    have e1 : (k 6603 19).toNat = n := by omega
    have a3 : ∀ (n : Nat) l i, i ≠ 8 → rfH S k n l 6603 i = k 6603 i := fun n l i w => rf_3 hS w
    refine ⟨(0, (n : Int)), l3, ?_⟩
    rw [e1, q339_3]
    simp (implicitDefEqProofs := false) (disch := omega) only [b339_3, x_aload0, y_call325, y_call341, y_call365, x_gc_11395, x_gc_11403, x_gf_11416, x_goto_4, x_iaload, x_iconst, x_ifCond_eq_5, x_if_icmp_ge_5, x_if_icmp_ne_4, x_iload2, x_iload3, x_istore3, x_laload, klp_0, klp_1, klp_2, klp_3, klp_9, KC_0, KC_1, KC_2, KC_3, KC_4, ne_eq, not_false_eq_true, not_true_eq_false, true_and, and_true, and_self, implies_true, eq_self, true_imp_iff, false_implies, Int.reduceEq, Int.reduceNe, Int.reduceMod, Int.reduceMul, Int.reduceAdd, Int.reduceSub, Int.reduceLT, Int.reduceLE, Nat.reduceAdd, Nat.reduceLeDiff, Nat.reduceLT, Nat.reduceSub, reduceIte, wds_n, wds_0, wds_1, wds_2, wds_3, or_true, true_or, or_false, false_or, or_self, false_and, and_false, d_pos, d_s1, d_s2, d_s3, d_s4, d_s5, d_s6, d_s7, d_s8, Classical.not_not, z6603_16, z9569_l, z6603_17, z9632_l, z6603_18, z9696_l, r11 hS, r11l hS, r11k hS, r12 hS, r12l hS, r12k hS, r13 hS, r13l hS, r13k hS, r17 hS, r17l hS, r17k hS, TR_0 hS, TR_k hS, a3, d_s9, d_s10, d_s11, d_s12, d_s13, d_s14, d_s15, d_s16, d_s17, d_s18, d_s19, d_s20, d_s21, d_s22, d_s23, d_s24, d_s25, d_s26, d_s27, d_s28, d_s29, d_s30, hs_ne, hcell, hcel1, le_sub1, le_T, le_F, lt_T, lt_F, eq_F, w32_T, bz0, bz1, lc_le, lc_ge, lc_lt, lc_gt, lc_eq]
  | m + 1, n, l3, hn => by
    have kS := kTR hS
    have cs : ((n + 1 : Nat) : Int) = (n : Int) + 1 := by omega
    obtain ⟨n3, l4, i⟩ := lp339 hS h9 h7 hm h15 hc m (n + 1) (0, slF k (k 9569 n)) (by omega)
    refine ⟨n3, l4, ?_⟩
    rw [← i]
    have hcn := hc n (by omega) (by omega)
    have a3 : ∀ (n : Nat) l i, i ≠ 8 → rfH S k n l 6603 i = k 6603 i := fun n l i w => rf_3 hS w
    have an : ∀ (n : Nat) l o, o ≠ S + 1044 → o ≠ 6603 → rfH S k n l o = k o := fun n l o u w => rf_ne u w
    have gd : ∀ Q, Sp fz1 (e2 + 9) 325 [(3, 6603)] (rfH S k n (rltR k l0 n)) Q = Q 1 (rfH S k n (rltR k l0 n)) := fun Q => by rw [v325, a3 _ _ _ (by decide), if_pos h7]
    have so : ∀ Q, Sp fz1 (e2 + 9) 341 [(3, 6603), (1, k 9569 n)] (rfH S k n (rltR k l0 n)) Q = Q (slF k (k 9569 n)) (rfH S k n (rltR k l0 n)) := fun Q => by
      rw [v341 (by rw [a3 _ _ _ (by decide)]; exact h15), an _ _ _ (by omega) (by omega), a3 _ _ _ (by decide)]
      rfl
    have lt : ∀ Q, Sp fz1 (e2 + 9) 365 [(3, 6603), (0, k 9632 n)] (rfH S k n (rltR k l0 n)) Q = Q 0 (hset (rfH S k n (rltR k l0 n)) 6603 8 (rLt (rltR k l0 n) (k 9632 n))) := fun Q => by
      rw [v365n, rf_l hS]
      rfl
    rw [cs, rltR]
    by_cases c : slF k (k 9569 n) = -9
    · rw [if_pos c]
      have st := rf_s (h := k) (n := n) (l := rltR k l0 n) (l2 := rLt (rltR k l0 n) (k 9632 n)) hS
      rw [q339_3]
      rw [c] at so st ⊢
      simp (implicitDefEqProofs := false) (disch := omega) only [b339_3, b339_4, q339_4, x_aload0, y_call325, y_call341, y_call365, x_gc_11395, x_gc_11403, x_gc_11411, x_gc_12427, x_gf_11339, x_gf_11416, x_goto_3, x_goto_4, x_iaload, x_iastore, x_iconst, x_ifCond_eq_5, x_if_icmp_ge_5, x_if_icmp_ne_4, x_iinc2, x_iload2, x_iload3, x_istore3, x_laload, klp_0, klp_1, klp_2, klp_3, klp_9, KC_0, KC_1, KC_2, KC_3, KC_4, ne_eq, not_false_eq_true, not_true_eq_false, true_and, and_true, and_self, implies_true, eq_self, true_imp_iff, false_implies, Int.reduceEq, Int.reduceNe, Int.reduceMod, Int.reduceMul, Int.reduceAdd, Int.reduceSub, Int.reduceLT, Int.reduceLE, Nat.reduceAdd, Nat.reduceLeDiff, Nat.reduceLT, Nat.reduceSub, reduceIte, wds_n, wds_0, wds_1, wds_2, wds_3, or_true, true_or, or_false, false_or, or_self, false_and, and_false, d_pos, d_s1, d_s2, d_s3, d_s4, d_s5, d_s6, d_s7, d_s8, Classical.not_not, z6603_16, z9569_l, z6603_17, z9632_l, z6603_18, z9696_l, r11 hS, r11l hS, r11k hS, r12 hS, r12l hS, r12k hS, r13 hS, r13l hS, r13k hS, r17 hS, r17l hS, r17k hS, TR_0 hS, TR_k hS, a3, an, gd, so, lt, st, h9, d_s9, d_s10, d_s11, d_s12, d_s13, d_s14, d_s15, d_s16, d_s17, d_s18, d_s19, d_s20, d_s21, d_s22, d_s23, d_s24, d_s25, d_s26, d_s27, d_s28, d_s29, d_s30, hs_ne, hcell, hcel1, le_sub1, le_T, le_F, lt_T, lt_F, eq_F, w32_T, bz0, bz1, lc_le, lc_ge, lc_lt, lc_gt, lc_eq]
    · rw [if_neg c]
      have st := rf_s (h := k) (n := n) (l := rltR k l0 n) (l2 := rltR k l0 n) hS
      rw [rf_8 hS] at st
      rw [q339_3]
      simp (implicitDefEqProofs := false) (disch := omega) only [b339_3, b339_4, q339_4, x_aload0, y_call325, y_call341, y_call365, x_gc_11395, x_gc_11403, x_gc_11411, x_gc_12427, x_gf_11339, x_gf_11416, x_goto_3, x_goto_4, x_iaload, x_iastore, x_iconst, x_ifCond_eq_5, x_if_icmp_ge_5, x_if_icmp_ne_4, x_iinc2, x_iload2, x_iload3, x_istore3, x_laload, klp_0, klp_1, klp_2, klp_3, klp_9, KC_0, KC_1, KC_2, KC_3, KC_4, ne_eq, not_false_eq_true, not_true_eq_false, true_and, and_true, and_self, implies_true, eq_self, true_imp_iff, false_implies, Int.reduceEq, Int.reduceNe, Int.reduceMod, Int.reduceMul, Int.reduceAdd, Int.reduceSub, Int.reduceLT, Int.reduceLE, Nat.reduceAdd, Nat.reduceLeDiff, Nat.reduceLT, Nat.reduceSub, reduceIte, wds_n, wds_0, wds_1, wds_2, wds_3, or_true, true_or, or_false, false_or, or_self, false_and, and_false, d_pos, d_s1, d_s2, d_s3, d_s4, d_s5, d_s6, d_s7, d_s8, Classical.not_not, z6603_16, z9569_l, z6603_17, z9632_l, z6603_18, z9696_l, r11 hS, r11l hS, r11k hS, r12 hS, r12l hS, r12k hS, r13 hS, r13l hS, r13k hS, r17 hS, r17l hS, r17k hS, TR_0 hS, TR_k hS, a3, an, gd, so, c, st, h9, d_s9, d_s10, d_s11, d_s12, d_s13, d_s14, d_s15, d_s16, d_s17, d_s18, d_s19, d_s20, d_s21, d_s22, d_s23, d_s24, d_s25, d_s26, d_s27, d_s28, d_s29, d_s30, hs_ne, hcell, hcel1, le_sub1, le_T, le_F, lt_T, lt_F, eq_F, w32_T, bz0, bz1, lc_le, lc_ge, lc_lt, lc_gt, lc_eq]
end SM
