/-! THE PURE SIDE, 67: cover, the class's filling: printed by wip/tools/gen86.py -/
def lsU (h : HV) (u : Int) : Int := h (h 64 8 + 1174) u
def stU (h : HV) (u : Int) : Int := h (h 64 8 + 1046) (lsU h u)
def peU (h : HV) (u : Int) : Int := perF h (h 2528 u)
def abB (h : HV) (p s : Int) : Int := i_and (i_shr (h 2656 s) p) 1
def baB (h : HV) (p s : Int) : Int := i_and (i_shr (h 2016 s) p) 1
/-- open units -/
def cnO (h : HV) (p : Int) : Nat → Nat
  | 0 => 0
  | j + 1 => if peU h j = p ∧ abB h p (stU h j) = 1 then cnO h p j + 1 else cnO h p j
def arO (h : HV) (p : Int) : Nat → Int → Int
  | 0, _ => 0
  | j + 1, k => if (peU h j = p ∧ abB h p (stU h j) = 1) ∧ k = cnO h p j then j else arO h p j k
def buN (h : HV) (p : Int) : Nat → Nat
  | 0 => 0
  | j + 1 => if peU h j = p then buN h p j ||| 2 ^ (stU h j).toNat else buN h p j
/-- who is free -/
def frN (h : HV) (p s : Int) : Nat → Int
  | 0 => if abB h p s = 0 ∧ baB h p s = 0 then 1 else 0
  | u + 1 => if frN h p s u = 1 ∧ ¬ (peU h u = p ∧ stU h u = s) then 1 else 0
def mkN (h : HV) (p : Int) (n : Nat) : Nat → Nat
  | 0 => 0
  | s + 1 => if frN h p s n = 1 then mkN h p n s ||| 2 ^ s else mkN h p n s
/-- places of units are apart; lessons and staff alike in both texts -/
def RTi (h : HV) : Prop := h 1927 13 = 1 → ∀ u, 0 ≤ u → u < h (h 64 8) 11 → (0 ≤ h 2528 u ∧ h 2528 u < 120 ∧ 0 < h (h 64 8 + 598) 1) ∧ ∀ v, u < v → v < h (h 64 8) 11 → h 2528 u ≠ h 2528 v
def RTl (h : HV) : Prop := (∀ s, 0 ≤ s → s < h (h 64 8 + 598) 2 → h (h 6603 9 + 340) s = h (h 64 8 + 790) s) ∧ ∀ l, 0 ≤ l → l < h (h 64 8 + 598) 4 → h (h 6603 9 + 468) l = h (h 64 8 + 918) l ∧ (0 ≤ h (h 64 8 + 918) l ∧ h (h 64 8 + 918) l < 12) ∧ h (h 6603 9 + 596) l = h (h 64 8 + 1046) l ∧ (0 ≤ h (h 64 8 + 1046) l ∧ h (h 64 8 + 1046) l < h (h 64 8 + 598) 2)
theorem ex_les {f : Int → Int} : ∀ (n : Nat) (u : Int), (∀ l, 0 ≤ l → l < (n : Int) → 0 ≤ f l) → 0 ≤ u → u < sumI f n → ∃ (l : Nat) (k : Int), l < n ∧ 0 ≤ k ∧ k < f l ∧ u = sumI f l + k
  | 0, u, _, h0, h1 => by rw [sumI] at h1; omega
  | n + 1, u, hf, h0, h1 => by
    rw [sumI] at h1
    by_cases q : u < sumI f n
    · obtain ⟨l, k, a, b, c, d⟩ := ex_les n u (fun l a b => hf l a (by omega)) h0 q
      exact ⟨l, k, by omega, b, c, d⟩
    · exact ⟨n, u - sumI f n, by omega, by omega, by omega, by omega⟩
theorem les_b {h : HV} (X : RTx h) (U : RTu h) {u : Int} (hu : 0 ≤ u ∧ u < h (h 64 8) 11) : 0 ≤ lsU h u ∧ lsU h u < h (h 64 8 + 598) 4 := by
  obtain ⟨u1, u2, u3, u4⟩ := U
  rw [u2] at hu
  have X4 := rtx_4 X
  obtain ⟨l, k, a, b, c, e⟩ := ex_les (f := lsT h) _ u (fun l a b => u3 l a (by omega)) hu.1 hu.2
  have := u4 l k (by omega) (by omega) b c
  rw [show ((l : Int)).toNat = l by omega] at this
  unfold lsU
  rw [e, this]
  omega
theorem st_b {h : HV} (X : RTx h) (U : RTu h) (L : RTl h) {u : Int} (hu : 0 ≤ u ∧ u < h (h 64 8) 11) : 0 ≤ stU h u ∧ stU h u < h (h 64 8 + 598) 2 := by
  have lb := les_b X U hu
  exact (L.2 _ lb.1 lb.2).2.2.2
theorem ar_b {h : HV} {p : Int} : ∀ (j : Nat) (k : Int), 0 ≤ k → k < cnO h p j → (0 ≤ arO h p j k ∧ arO h p j k < j) ∧ peU h (arO h p j k) = p
  | 0, k, h0, h1 => by rw [cnO] at h1; omega
  | j + 1, k, h0, h1 => by
    rw [arO]
    rw [cnO] at h1
    by_cases q : (peU h j = p ∧ abB h p (stU h j) = 1) ∧ k = cnO h p j
    · rw [if_pos q]
      exact ⟨by omega, q.1.1⟩
    · rw [if_neg q]
      have := ar_b (h := h) (p := p) j k h0 (by
        by_cases z : peU h j = p ∧ abB h p (stU h j) = 1
        · rw [if_pos z] at h1
          have : k ≠ cnO h p j := fun w => q ⟨z, w⟩
          omega
        · rw [if_neg z] at h1; omega)
      exact ⟨by omega, this.2⟩
theorem ar_lt {h : HV} {p : Int} : ∀ (j : Nat) (k i : Int), 0 ≤ k → k < i → i < cnO h p j → arO h p j k < arO h p j i
  | 0, k, i, h0, h1, h2 => by rw [cnO] at h2; omega
  | j + 1, k, i, h0, h1, h2 => by
    rw [arO, arO]
    rw [cnO] at h2
    by_cases z : peU h j = p ∧ abB h p (stU h j) = 1
    · rw [if_pos z] at h2
      rw [if_neg (fun w => by omega)]
      by_cases q : i = cnO h p j
      · rw [if_pos ⟨z, q⟩]
        exact (ar_b (h := h) (p := p) j k h0 (by omega)).1.2
      · rw [if_neg (fun w => q w.2)]
        exact ar_lt j k i h0 h1 (by omega)
    · rw [if_neg z] at h2
      rw [if_neg (fun w => z w.1), if_neg (fun w => z w.1)]
      exact ar_lt j k i h0 h1 h2
theorem pe_eq {h : HV} {u : Int} (X : RTx h) (hv : 0 ≤ h 2528 u ∧ h 2528 u < 120 ∧ 0 < h (h 64 8 + 598) 1) : peU h u = h 2528 u / h (h 64 8 + 598) 1 := by
  have X1 := rtx_1 X
  unfold peU perF
  rw [if_pos hv.2.2, Int.tdiv_eq_ediv_of_nonneg hv.1]
  have a1 : 0 ≤ h 2528 u / h (h 64 8 + 598) 1 := Int.ediv_nonneg hv.1 (by omega)
  have a2 : h 2528 u / h (h 64 8 + 598) 1 ≤ h 2528 u := Int.ediv_le_self _ hv.1
  generalize h 2528 u / h (h 64 8 + 598) 1 = x at *
  unfold w32
  omega
theorem cn_6 {h : HV} {p : Int} (X : RTx h) (I : RTi h) (hf : h 1927 13 = 1) {j : Nat} (hj : (j : Int) ≤ h (h 64 8) 11) : cnO h p j ≤ 6 := by
  by_cases q : cnO h p j ≤ 6
  · exact q
  · exfalso
    have X1 := rtx_1 X
    have pl : ∀ i : Nat, i ≤ 6 → (0 ≤ h 2528 (arO h p j i) ∧ h 2528 (arO h p j i) < 120 ∧ 0 < h (h 64 8 + 598) 1) ∧ h 2528 (arO h p j i) / h (h 64 8 + 598) 1 = p := fun i hi => by
      have a := ar_b (h := h) (p := p) j i (by omega) (by omega)
      have b := (I hf _ a.1.1 (by omega)).1
      exact ⟨b, by rw [← pe_eq X b]; exact a.2⟩
    obtain ⟨x, y, b1, b2, b3⟩ := pigeonT 6 (fun i => (h 2528 (arO h p j i) % h (h 64 8 + 598) 1).toNat) (fun i hi => by
      have a := (pl i hi).1
      have m1 := Int.emod_nonneg (h 2528 (arO h p j i)) (b := h (h 64 8 + 598) 1) (by omega)
      have m2 := Int.emod_lt_of_pos (h 2528 (arO h p j i)) a.2.2
      show (h 2528 (arO h p j i) % h (h 64 8 + 598) 1).toNat < 6
      omega)
    change (h 2528 (arO h p j x) % h (h 64 8 + 598) 1).toNat = (h 2528 (arO h p j y) % h (h 64 8 + 598) 1).toNat at b3
    have px := pl x (by omega)
    have py := pl y b2
    have m1 := Int.emod_nonneg (h 2528 (arO h p j x)) (b := h (h 64 8 + 598) 1) (by omega)
    have m2 := Int.emod_nonneg (h 2528 (arO h p j y)) (b := h (h 64 8 + 598) 1) (by omega)
    have e : h 2528 (arO h p j x) % h (h 64 8 + 598) 1 = h 2528 (arO h p j y) % h (h 64 8 + 598) 1 := by omega
    have e2 : h 2528 (arO h p j x) = h 2528 (arO h p j y) := by
      rw [← Int.mul_ediv_add_emod (h 2528 (arO h p j x)) (h (h 64 8 + 598) 1), ← Int.mul_ediv_add_emod (h 2528 (arO h p j y)) (h (h 64 8 + 598) 1), px.2, py.2, e]
    have lt := ar_lt (h := h) (p := p) j x y (by omega) (by omega) (by omega)
    have ax := ar_b (h := h) (p := p) j x (by omega) (by omega)
    have ay := ar_b (h := h) (p := p) j y (by omega) (by omega)
    exact (I hf _ ax.1.1 (by omega)).2 _ lt (by omega) e2
theorem bu_lt {h : HV} {p : Int} : ∀ j : Nat, (∀ u : Int, 0 ≤ u → u < (j : Int) → 0 ≤ stU h u ∧ stU h u < 10) → buN h p j < 1024
  | 0, _ => by rw [buN]; decide
  | j + 1, hs => by
    rw [buN]
    have ih := bu_lt (h := h) (p := p) j (fun u a b => hs u a (by omega))
    have := hs j (by omega) (by omega)
    split
    · exact or_lt ih (by omega)
    · exact ih
theorem bu_t {h : HV} {p : Int} {s : Nat} : ∀ j : Nat, (∀ u : Int, 0 ≤ u → u < (j : Int) → 0 ≤ stU h u ∧ stU h u < 10) → ((buN h p j).testBit s = true ↔ ∃ u : Int, 0 ≤ u ∧ u < j ∧ peU h u = p ∧ stU h u = s)
  | 0, _ => by
    rw [buN, Nat.zero_testBit]
    exact ⟨fun w => absurd w (by decide), fun ⟨u, a, b, _⟩ => by omega⟩
  | j + 1, hs => by
    have ih := bu_t (h := h) (p := p) (s := s) j (fun u a b => hs u a (by omega))
    have sj := hs j (by omega) (by omega)
    rw [buN]
    by_cases q : peU h j = p
    · rw [if_pos q, Nat.testBit_or, Nat.testBit_two_pow, Bool.or_eq_true, decide_eq_true_iff, ih]
      constructor
      · rintro (⟨u, a, b, c, e⟩ | w)
        · exact ⟨u, a, by omega, c, e⟩
        · exact ⟨j, by omega, by omega, q, by omega⟩
      · rintro ⟨u, a, b, c, e⟩
        by_cases z : u = j
        · right; rw [z] at e; omega
        · exact .inl ⟨u, a, by omega, c, e⟩
    · rw [if_neg q, ih]
      constructor
      · rintro ⟨u, a, b, c, e⟩
        exact ⟨u, a, by omega, c, e⟩
      · rintro ⟨u, a, b, c, e⟩
        by_cases z : u = j
        · rw [z] at c; exact absurd c q
        · exact ⟨u, a, by omega, c, e⟩
theorem fr_t {h : HV} {p s : Int} : ∀ j : Nat, frN h p s j = 1 ↔ (abB h p s = 0 ∧ baB h p s = 0) ∧ ∀ u : Int, 0 ≤ u → u < j → ¬ (peU h u = p ∧ stU h u = s)
  | 0 => by
    rw [frN]
    by_cases q : abB h p s = 0 ∧ baB h p s = 0
    · rw [if_pos q]; exact ⟨fun _ => ⟨q, fun u a b => by omega⟩, fun _ => rfl⟩
    · rw [if_neg q]; exact ⟨fun w => by omega, fun w => absurd w.1 q⟩
  | j + 1 => by
    have ih := fr_t (h := h) (p := p) (s := s) j
    rw [frN]
    by_cases q : frN h p s j = 1 ∧ ¬ (peU h j = p ∧ stU h j = s)
    · rw [if_pos q]
      have w := ih.1 q.1
      refine ⟨fun _ => ⟨w.1, fun u a b => ?_⟩, fun _ => rfl⟩
      by_cases z : u = j
      · rw [z]; exact q.2
      · exact w.2 u a (by omega)
    · rw [if_neg q]
      refine ⟨fun w => by omega, fun w => absurd ⟨ih.2 ⟨w.1, fun u a b => w.2 u a (by omega)⟩, w.2 j (by omega) (by omega)⟩ q⟩
theorem fr_b (h : HV) (p s : Int) (j : Nat) : frN h p s j = 0 ∨ frN h p s j = 1 := by
  cases j with
  | zero => rw [frN]; split <;> omega
  | succ j => rw [frN]; split <;> omega
theorem mk_lt {h : HV} {p : Int} {n : Nat} : ∀ k : Nat, k ≤ 10 → mkN h p n k < 1024
  | 0, _ => by rw [mkN]; decide
  | k + 1, hk => by
    have ih := mk_lt (h := h) (p := p) (n := n) k (by omega)
    rw [mkN]
    split
    · exact or_lt ih (by omega)
    · exact ih
theorem mk_t {h : HV} {p : Int} {n s : Nat} : ∀ k : Nat, (mkN h p n k).testBit s = true ↔ s < k ∧ frN h p s n = 1
  | 0 => by
    rw [mkN, Nat.zero_testBit]
    exact ⟨fun w => absurd w (by decide), fun w => by omega⟩
  | k + 1 => by
    have ih := mk_t (h := h) (p := p) (n := n) (s := s) k
    rw [mkN]
    by_cases q : frN h p k n = 1
    · rw [if_pos q, Nat.testBit_or, Nat.testBit_two_pow, Bool.or_eq_true, decide_eq_true_iff, ih]
      constructor
      · rintro (w | w)
        · exact ⟨by omega, w.2⟩
        · exact ⟨by omega, by rw [← w]; exact q⟩
      · rintro ⟨a, b⟩
        by_cases z : k = s
        · exact .inr z
        · exact .inl ⟨by omega, b⟩
    · rw [if_neg q, ih]
      constructor
      · rintro ⟨a, b⟩
        exact ⟨by omega, b⟩
      · rintro ⟨a, b⟩
        by_cases z : s = k
        · rw [z] at b; exact absurd b q
        · exact ⟨by omega, b⟩
/-- who teaches what is open -/
def tCv (h : HV) (p : Int) (n N : Nat) (r s : Nat) : Int := i_and (i_shr (h (h 6603 9 + 340) s) (h (h 6603 9 + 468) (lsU h (arO h p N ((n - 1 - r : Nat) : Int))))) 1
/-- what is covered, when k of the open units are through -/
def coA (h : HV) (p : Int) (n N : Nat) (t : Nat → Nat → Int) (m : Nat) : Nat → Int → Int
  | 0, _ => -9
  | k + 1, u => if u = arO h p N k then paC t n m k else coA h p n N t m k u
theorem s310 {d : Nat} {h : HV} {Q : Int → HV → Prop} {u : Int} (hT : TC (h 64 8)) (ht : h 2568 1 = h 64 8) (hu : 0 ≤ u ∧ u < 36) (hl : 0 ≤ h (h 64 8 + 1174) u ∧ h (h 64 8 + 1174) u < 12) : Sp fz1 d 310 [(3, 2568), (0, u)] h Q = Q (stU h u) h := by
  simp (implicitDefEqProofs := false) (disch := omega) only [sp310, b310_0, x_aload0, x_gc_10307, x_gc_10323, x_gf_8203, x_iaload, x_iload1, x_ireturn, klp_0, klp_1, klp_2, klp_3, klp_9, KC_0, KC_1, KC_2, KC_3, KC_4, ne_eq, not_false_eq_true, not_true_eq_false, true_and, and_true, and_self, implies_true, eq_self, true_imp_iff, false_implies, Int.reduceEq, Int.reduceNe, Int.reduceMod, Int.reduceMul, Int.reduceAdd, Int.reduceSub, Int.reduceLT, Int.reduceLE, Nat.reduceAdd, Nat.reduceLeDiff, Nat.reduceLT, Nat.reduceSub, reduceIte, wds_n, wds_0, wds_1, wds_2, wds_3, or_true, true_or, or_false, false_or, or_self, false_and, and_false, d_pos, d_s1, d_s2, d_s3, d_s4, d_s5, d_s6, d_s7, d_s8, Classical.not_not, ht, c10 hT, c10l hT, c10k hT, c8 hT, c8l hT, c8k hT, TC_0 hT, TC_k hT, le_sub1, le_T, le_F, lt_T, lt_F, eq_F, w32_T, bz0, bz1, lc_le, lc_ge, lc_lt, lc_gt, lc_eq] <;> first | rfl | (rw [if_pos (by omega)] <;> rfl) | (rw [if_neg (by omega)] <;> rfl) | (exfalso; omega)
