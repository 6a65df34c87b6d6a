/-! THE PURE SIDE, 13: rounding -/
abbrev rr (s : Bool) (N D : Nat) (e : Int) : FP.Core.Datum := FP.Core.roundRatio FP.Core.b64 s N D e
theorem near_scale {a b c : Nat} (hc : 0 < c) : FP.Core.nearest (a * c) (b * c) = FP.Core.nearest a b := by
  unfold FP.Core.nearest
  rw [Nat.mul_mod_mul_right, Nat.mul_div_mul_right a b hc, ← Nat.mul_assoc]
  have h1 : (2 * (a % b) * c < b * c) = (2 * (a % b) < b) := propext ⟨fun h => Nat.lt_of_mul_lt_mul_right h, fun h => Nat.mul_lt_mul_of_pos_right h hc⟩
  have h2 : (b * c < 2 * (a % b) * c) = (b < 2 * (a % b)) := propext ⟨fun h => Nat.lt_of_mul_lt_mul_right h, fun h => Nat.mul_lt_mul_of_pos_right h hc⟩
  simp only [h1, h2]
theorem near_congr {a b c d : Nat} (hb : 0 < b) (hd : 0 < d) (h : a * d = b * c) : FP.Core.nearest a b = FP.Core.nearest c d := by
  rw [← near_scale (a := a) (b := b) hd, ← near_scale (a := c) (b := d) hb, h, Nat.mul_comm b c, Nat.mul_comm b d]
/-- k is the place of the leading digit of N / D -/
def LB (N D : Nat) (k : Int) : Prop := ∃ z w : Nat, (w : Int) = z + k ∧ D * 2 ^ w ≤ N * 2 ^ z ∧ N * 2 ^ z < D * 2 ^ (w + 1)
theorem LB_uniq {N D : Nat} {k k' : Int} (hD : 0 < D) (h : LB N D k) (h' : LB N D k') : k' ≤ k := by
  obtain ⟨z, w, e, h1, h2⟩ := h
  obtain ⟨z', w', e', h1', h2'⟩ := h'
  have q1 := Nat.mul_le_mul_right (2 ^ z) h1'
  have q2 := Nat.mul_lt_mul_of_pos_right h2 (Nat.two_pow_pos z')
  rw [Nat.mul_assoc, Nat.mul_assoc, ← Nat.pow_add, ← Nat.pow_add] at q1 q2
  rw [Nat.add_comm z z'] at q2
  have q3 := Nat.lt_of_le_of_lt q1 q2
  have q4 := Nat.lt_of_mul_lt_mul_left q3
  have q5 := (Nat.pow_lt_pow_iff_right (by decide)).mp q4
  omega
theorem LB_leading {N D : Nat} (hN : 0 < N) (hD : 0 < D) : LB N D (FP.Core.leading N D) := by
  have n1 := Nat.log2_self_le (show N ≠ 0 by omega)
  have n2 : N < 2 ^ (N.log2 + 1) := Nat.lt_log2_self
  have d1 := Nat.log2_self_le (show D ≠ 0 by omega)
  have d2 : D < 2 ^ (D.log2 + 1) := Nat.lt_log2_self
  unfold FP.Core.leading
  dsimp only
  generalize N.log2 = n at *
  generalize D.log2 = m at *
  split
  · rename_i hc
    refine ⟨(-((n : Int) - m)).toNat, ((n : Int) - m).toNat, by omega, hc, ?_⟩
    have q1 := Nat.mul_lt_mul_of_pos_right n2 (Nat.two_pow_pos (-((n : Int) - m)).toNat)
    have q2 := Nat.mul_le_mul_right (2 ^ (((n : Int) - m).toNat + 1)) d1
    rw [← Nat.pow_add] at q1 q2
    refine Nat.lt_of_lt_of_le q1 (Nat.le_trans (Nat.pow_le_pow_right (by decide) ?_) q2)
    omega
  · rename_i hc
    refine ⟨(-((n : Int) - m)).toNat + 1, ((n : Int) - m).toNat + 1 - 1 + 0, ?_, ?_, ?_⟩
    · omega
    · have q1 := Nat.mul_lt_mul_of_pos_right d2 (Nat.two_pow_pos ((n : Int) - m).toNat)
      have q2 := Nat.mul_le_mul_right (2 ^ ((-((n : Int) - m)).toNat + 1)) n1
      rw [← Nat.pow_add] at q1 q2
      refine Nat.le_of_lt (Nat.lt_of_lt_of_le q1 (Nat.le_trans (Nat.pow_le_pow_right (by decide) ?_) q2))
      omega
    · have q1 := Nat.lt_of_not_le hc
      have q2 := Nat.mul_lt_mul_of_pos_right q1 (show 0 < 2 by decide)
      rw [Nat.mul_assoc, Nat.mul_assoc, ← Nat.pow_succ, ← Nat.pow_succ] at q2
      exact q2
theorem leading_eq {N D : Nat} {k : Int} (hN : 0 < N) (hD : 0 < D) (h : LB N D k) : FP.Core.leading N D = k := by
  have h0 := LB_leading hN hD
  have h1 := LB_uniq hD h h0
  have h2 := LB_uniq hD h0 h
  omega
theorem two_pow_split (a b : Nat) : 2 ^ a * 2 ^ b = 2 ^ (a + b) := (Nat.pow_add 2 a b).symm
/-- two ways to write one number are rounded alike -/
theorem rr_congr {s : Bool} {N D N' D' : Nat} {e e' : Int} {x y : Nat} (hD : 0 < D) (hD' : 0 < D') (hx : (x : Int) - y = e - e') (h : N * D' * 2 ^ x = N' * D * 2 ^ y) : rr s N D e = rr s N' D' e' := by
  by_cases hN : N = 0
  · subst hN
    rw [Nat.zero_mul, Nat.zero_mul] at h
    have : N' = 0 := by
      rcases Nat.mul_eq_zero.mp h.symm with h1 | h1
      · rcases Nat.mul_eq_zero.mp h1 with h2 | h2
        · exact h2
        · omega
      · have := Nat.two_pow_pos y; omega
    subst this
    rfl
  have hN' : N' ≠ 0 := by
    intro q
    subst q
    rw [Nat.zero_mul, Nat.zero_mul] at h
    rcases Nat.mul_eq_zero.mp h with h1 | h1
    · rcases Nat.mul_eq_zero.mp h1 with h2 | h2 <;> omega
    · have := Nat.two_pow_pos x; omega
  have hl : FP.Core.leading N' D' = FP.Core.leading N D + (e - e') := by
    refine leading_eq (by omega) hD' ?_
    obtain ⟨z, w, e1, h1, h2⟩ := LB_leading (N := N) (D := D) (by omega) hD
    refine ⟨z + y, w + x, by omega, ?_, ?_⟩
    · have q := Nat.mul_le_mul_right (D' * 2 ^ x) h1
      have e2 : N * 2 ^ z * (D' * 2 ^ x) = D * (N' * 2 ^ (z + y)) := by
        rw [Nat.pow_add, show N * 2 ^ z * (D' * 2 ^ x) = (N * D' * 2 ^ x) * 2 ^ z by ac_rfl, h]
        ac_rfl
      have e3 : D * 2 ^ w * (D' * 2 ^ x) = D * (D' * 2 ^ (w + x)) := by rw [Nat.pow_add]; ac_rfl
      rw [e2, e3] at q
      exact Nat.le_of_mul_le_mul_left q hD
    · have q := Nat.mul_lt_mul_of_pos_right h2 (show 0 < D' * 2 ^ x from Nat.mul_pos hD' (Nat.two_pow_pos x))
      have e2 : N * 2 ^ z * (D' * 2 ^ x) = D * (N' * 2 ^ (z + y)) := by
        rw [Nat.pow_add, show N * 2 ^ z * (D' * 2 ^ x) = (N * D' * 2 ^ x) * 2 ^ z by ac_rfl, h]
        ac_rfl
      have e3 : D * 2 ^ (w + 1) * (D' * 2 ^ x) = D * (D' * 2 ^ (w + x + 1)) := by rw [show w + x + 1 = w + 1 + x by omega, Nat.pow_add 2 (w + 1)]; ac_rfl
      rw [e2, e3] at q
      exact Nat.lt_of_mul_lt_mul_left q
  unfold rr FP.Core.roundRatio
  rw [if_neg hN, if_neg hN']
  have hq : FP.Core.quantum FP.Core.b64 N' D' e' = FP.Core.quantum FP.Core.b64 N D e := by
    unfold FP.Core.quantum
    rw [hl]
    congr 1
    omega
  rw [hq]
  generalize FP.Core.quantum FP.Core.b64 N D e = q
  unfold FP.Core.roundAt FP.Core.unitsNum FP.Core.unitsDen
  rw [near_congr (c := N' * 2 ^ (e' - q).toNat) (d := D' * 2 ^ (q - e').toNat) (Nat.mul_pos hD (Nat.two_pow_pos _)) (Nat.mul_pos hD' (Nat.two_pow_pos _))]
  refine Nat.eq_of_mul_eq_mul_right (Nat.two_pow_pos y) ?_
  have e1 : (e - q).toNat + (q - e').toNat + y = (q - e).toNat + (e' - q).toNat + x := by omega
  calc N * 2 ^ (e - q).toNat * (D' * 2 ^ (q - e').toNat) * 2 ^ y = N * D' * (2 ^ (e - q).toNat * 2 ^ (q - e').toNat * 2 ^ y) := by ac_rfl
    _ = N * D' * 2 ^ x * (2 ^ (q - e).toNat * 2 ^ (e' - q).toNat) := by
      rw [two_pow_split, two_pow_split, two_pow_split, Nat.mul_assoc (N * D'), two_pow_split, e1, Nat.add_comm x]
    _ = D * 2 ^ (q - e).toNat * (N' * 2 ^ (e' - q).toNat) * 2 ^ y := by
      rw [h]
      ac_rfl
theorem or_one (x : Nat) : x ||| 1 = if x % 2 = 1 then x else x + 1 := by
  have h1 := Nat.shiftLeft_add_eq_or_of_lt (b := 1) (i := 1) (by decide) (x / 2)
  rw [Nat.shiftLeft_eq] at h1
  by_cases hx : x % 2 = 1
  · rw [if_pos hx]
    have e : x = x / 2 * 2 ^ 1 ||| 1 := by rw [← h1]; omega
    calc x ||| 1 = (x / 2 * 2 ^ 1 ||| 1) ||| 1 := by rw [← e]
      _ = x / 2 * 2 ^ 1 ||| (1 ||| 1) := Nat.or_assoc _ _ _
      _ = x := by rw [Nat.or_self]; exact e.symm
  · rw [if_neg hx]
    have e : x = x / 2 * 2 ^ 1 := by omega
    rw [show x ||| 1 = x / 2 * 2 ^ 1 ||| 1 by rw [← e], ← h1]
    omega
/-- an odd number stands for all between its neighbours -/
theorem rr_jam {s : Bool} {N D A : Nat} {e : Int} (hD : 0 < D) (hA : A % 2 = 1) (hb : 2 ^ 56 ≤ A) (h1 : (A - 1) * D < N) (h2 : N < (A + 1) * D) : rr s N D e = rr s A 1 e := by
  have hA0 : 0 < A := by omega
  have hN : 0 < N := by omega
  have a1 := Nat.log2_self_le (show A ≠ 0 by omega)
  have a2 : A < 2 ^ (A.log2 + 1) := Nat.lt_log2_self
  have a3 : 56 ≤ A.log2 := (Nat.le_log2 (by omega)).mpr hb
  generalize hk : A.log2 = k at a1 a2 a3
  have p1 : 2 ^ k % 2 = 0 := by rw [show k = (k - 1) + 1 by omega, Nat.pow_succ]; omega
  have p2 : 2 ^ (k + 1) % 2 = 0 := by rw [Nat.pow_succ]; omega
  have lA : FP.Core.leading A 1 = (k : Int) := leading_eq hA0 (by decide) ⟨0, k, by omega, by omega, by omega⟩
  have lN : FP.Core.leading N D = (k : Int) := by
    refine leading_eq hN hD ⟨0, k, by omega, ?_, ?_⟩
    · rw [Nat.pow_zero, Nat.mul_one, Nat.mul_comm]
      exact Nat.le_of_lt (Nat.lt_of_le_of_lt (Nat.mul_le_mul_right D (show 2 ^ k ≤ A - 1 by omega)) h1)
    · rw [Nat.pow_zero, Nat.mul_one, Nat.mul_comm]
      exact Nat.lt_of_lt_of_le h2 (Nat.mul_le_mul_right D (show A + 1 ≤ 2 ^ (k + 1) by omega))
  unfold rr FP.Core.roundRatio
  rw [if_neg (by omega), if_neg (by omega)]
  have hq : FP.Core.quantum FP.Core.b64 N D e = FP.Core.quantum FP.Core.b64 A 1 e := by unfold FP.Core.quantum; rw [lA, lN]
  rw [hq]
  have hge : e + 4 ≤ FP.Core.quantum FP.Core.b64 A 1 e := by
    unfold FP.Core.quantum
    rw [lA]
    show e + 4 ≤ max _ ((k : Int) + e - (53 - 1))
    omega
  generalize FP.Core.quantum FP.Core.b64 A 1 e = q at hge
  unfold FP.Core.roundAt FP.Core.unitsNum FP.Core.unitsDen
  rw [show (e - q).toNat = 0 by omega, Nat.pow_zero, Nat.mul_one, Nat.mul_one, Nat.one_mul]
  congr 1
  obtain ⟨t, ht⟩ : ∃ t, (q - e).toNat = t + 2 := ⟨(q - e).toNat - 2, by omega⟩
  rw [ht]
  -- in units of 2^(t+2): the half is even, the rest of A is odd
  have hT : 2 ^ (t + 2) = 4 * 2 ^ t := by rw [Nat.pow_succ, Nat.pow_succ]; omega
  generalize hH : 2 ^ t = H at hT
  have hH0 : 0 < H := by rw [← hH]; exact Nat.two_pow_pos t
  rw [hT]
  have r1 := Nat.div_add_mod A (4 * H)
  have r2 := Nat.mod_lt A (show 0 < 4 * H by omega)
  generalize hqa : A / (4 * H) = a at r1
  generalize hra : A % (4 * H) = r at r1 r2
  have ro : r % 2 = 1 := by
    have : 4 * H * a % 2 = 0 := by rw [show 4 * H * a = 2 * (2 * H * a) by rw [show (4 : Nat) = 2 * 2 from rfl]; ac_rfl]; omega
    omega
  -- N lies between
  have n1 : a * (D * (4 * H)) + (r - 1) * D < N := by
    have e1 : (A - 1) * D = a * (D * (4 * H)) + (r - 1) * D := by
      rw [show A - 1 = 4 * H * a + (r - 1) by omega, Nat.add_mul]
      congr 1
      ac_rfl
    omega
  have n2 : N < a * (D * (4 * H)) + (r + 1) * D := by
    have e1 : (A + 1) * D = a * (D * (4 * H)) + (r + 1) * D := by
      rw [show A + 1 = 4 * H * a + (r + 1) by omega, Nat.add_mul]
      congr 1
      ac_rfl
    omega
  have n3 : (r + 1) * D ≤ D * (4 * H) := by
    rw [Nat.mul_comm D]
    exact Nat.mul_le_mul_right D (by omega)
  have dN : N / (D * (4 * H)) = a := by
    refine Nat.div_eq_of_lt_le ?_ ?_
    · omega
    · rw [Nat.add_mul, Nat.one_mul]; omega
  have mN : N % (D * (4 * H)) = N - a * (D * (4 * H)) := by
    have := Nat.div_add_mod N (D * (4 * H))
    rw [dN, Nat.mul_comm] at this
    omega
  unfold FP.Core.nearest
  rw [dN, mN, hqa, hra]
  by_cases hr : r < 2 * H
  · have n4 : 2 * ((r + 1) * D) ≤ D * (4 * H) := by
      rw [Nat.mul_comm D, ← Nat.mul_assoc]
      exact Nat.mul_le_mul_right D (by omega)
    rw [if_pos (by omega), if_pos (by omega)]
  · have n4 : D * (4 * H) ≤ 2 * ((r - 1) * D) := by
      rw [Nat.mul_comm D, ← Nat.mul_assoc]
      exact Nat.mul_le_mul_right D (by omega)
    rw [if_neg (by omega), if_pos (by omega), if_neg (by omega), if_pos (by omega)]
/-- the whole part, with a 1 at its end where something is lost -/
theorem rr_stick {s : Bool} {N D : Nat} {e : Int} (hD : 0 < D) (hb : 2 ^ 56 ≤ N / D) : rr s N D e = rr s (N / D ||| (if N % D = 0 then 0 else 1)) 1 e := by
  have h0 := Nat.div_add_mod N D
  have h1 := Nat.mod_lt N hD
  by_cases hz : N % D = 0
  · rw [if_pos hz, Nat.or_zero]
    refine rr_congr (x := 0) (y := 0) hD (by decide) (by omega) ?_
    rw [hz] at h0
    rw [Nat.mul_one, Nat.mul_comm (N / D)]
    omega
  · rw [if_neg hz, or_one]
    have e1 : ∀ c : Nat, c * D = D * c := fun c => Nat.mul_comm _ _
    by_cases ho : N / D % 2 = 1
    · rw [if_pos ho]
      refine rr_jam hD ho hb ?_ ?_
      · have : (N / D - 1) * D ≤ D * (N / D) := by rw [e1]; exact Nat.mul_le_mul_left D (by omega)
        omega
      · rw [Nat.add_mul, Nat.one_mul, e1]
        omega
    · rw [if_neg ho]
      refine rr_jam hD (by omega) (by omega) ?_ ?_
      · rw [show N / D + 1 - 1 = N / D by omega, e1]
        omega
      · rw [Nat.add_mul, Nat.add_mul, Nat.one_mul, e1]
        omega
