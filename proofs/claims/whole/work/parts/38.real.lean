/-! THE PURE SIDE, 14: 64 bits as a number from 0 on, and the double that they stand for -/
def U (x : Int) : Nat := (x % 18446744073709551616).toNat
def UI (u : Nat) : Int := if u < 9223372036854775808 then (u : Int) else (u : Int) - 18446744073709551616
abbrev L64 (x : Int) : Prop := -9223372036854775808 ≤ x ∧ x ≤ 9223372036854775807
theorem U_lt (x : Int) : U x < 18446744073709551616 := by unfold U; omega
theorem U_UI {u : Nat} (h : u < 18446744073709551616) : U (UI u) = u := by unfold U UI; split <;> omega
theorem UI_U {x : Int} (h : L64 x) : UI (U x) = x := by unfold U UI; split <;> omega
theorem UI_L {u : Nat} (h : u < 18446744073709551616) : L64 (UI u) := by unfold UI; split <;> omega
theorem U_pos {x : Int} (h0 : 0 ≤ x) (h : x ≤ 9223372036854775807) : U x = x.toNat := by unfold U; omega
theorem UI_lo {u : Nat} (h : u < 9223372036854775808) : UI u = u := by unfold UI; rw [if_pos h]
theorem bv_U (x : Int) : (Int64.ofInt x).toBitVec.toNat = U x := by rw [Int64.toBitVec_ofInt, BitVec.toNat_ofInt]; rfl
theorem bv_UI (b : BitVec 64) : b.toInt = UI b.toNat := by
  have h := b.isLt
  rw [BitVec.toInt_eq_toNat_cond]
  unfold UI
  rw [show (2 : Nat) ^ 64 = 18446744073709551616 from rfl]
  split <;> split <;> omega
theorem l_and_U (x y : Int) : l_and x y = UI (U x &&& U y) := by
  unfold l_and
  rw [← Int64.toInt_toBitVec, bv_UI, Int64.toBitVec_and, BitVec.toNat_and, bv_U, bv_U]
theorem l_or_U (x y : Int) : l_or x y = UI (U x ||| U y) := by
  unfold l_or
  rw [← Int64.toInt_toBitVec, bv_UI, Int64.toBitVec_or, BitVec.toNat_or, bv_U, bv_U]
theorem l_xor_U (x y : Int) : l_xor x y = UI (U x ^^^ U y) := by
  unfold l_xor
  rw [← Int64.toInt_toBitVec, bv_UI, Int64.toBitVec_xor, BitVec.toNat_xor, bv_U, bv_U]
theorem sh_amtLU : ∀ n : Nat, n < 64 → (((Int32.ofInt (n : Int)).toInt64.toUInt64 &&& Int64.toUInt64 63).toBitVec % 64).toNat = n := by decide +kernel
theorem l_ushr_U (x : Int) {n : Nat} (hn : n < 64) : l_ushr x n = UI (U x / 2 ^ n) := by
  unfold l_ushr
  rw [← Int64.toInt_toBitVec, bv_UI]
  congr 1
  show ((Int64.ofInt x).toUInt64 >>> ((Int32.ofInt (n : Int)).toInt64.toUInt64 &&& Int64.toUInt64 63)).toBitVec.toNat = _
  rw [UInt64.toBitVec_shiftRight, BitVec.ushiftRight_eq', BitVec.toNat_ushiftRight, sh_amtLU n hn, Nat.shiftRight_eq_div_pow]
  show (Int64.ofInt x).toBitVec.toNat / 2 ^ n = _
  rw [bv_U]
theorem dU_nat (x : Int) : (d_U x).toNat = U x := bv_U x
theorem dU_dI (u : UInt64) : d_U (d_I u) = u := by
  unfold d_U d_I
  rw [Int64.ofInt_toInt]
  rfl
theorem dI_dU {x : Int} (h : L64 x) : d_I (d_U x) = x := by
  show (Int64.ofInt x).toInt = x
  exact Int64.toInt_ofInt_of_le (by omega) (by omega)
theorem dI_L (u : UInt64) : L64 (d_I u) := by
  have h := u.toInt64.toBitVec.isLt
  unfold d_I
  rw [← Int64.toInt_toBitVec, bv_UI]
  exact UI_L h
/-! the fields -/
abbrev dv (x : Int) : FP.Core.Datum := FP.Core.val64 (d_U x)
def mg (x : Int) : Nat := U x % 9223372036854775808
def ef (x : Int) : Nat := U x / 4503599627370496 % 2048
def tf (x : Int) : Nat := U x % 4503599627370496
def dg (x : Int) : Nat := if ef x = 0 then tf x else tf x + 4503599627370496
def pl (x : Int) : Int := max (ef x : Int) 1 - 1 - 1074
theorem U_sgn {x : Int} (h : L64 x) : U x = (if x < 0 then 9223372036854775808 else 0) + mg x := by
  unfold mg U
  split <;> omega
theorem mg_fields (x : Int) : mg x = ef x * 4503599627370496 + tf x := by unfold mg ef tf; omega
theorem ef_lt (x : Int) : ef x < 2048 := by unfold ef; omega
theorem tf_lt (x : Int) : tf x < 4503599627370496 := by unfold tf; omega
theorem dg_lt (x : Int) : dg x < 9007199254740992 := by
  have := tf_lt x
  unfold dg
  split <;> omega
theorem pl_rng (x : Int) : -1074 ≤ pl x ∧ pl x ≤ 972 := by
  have := ef_lt x
  unfold pl
  omega
theorem dg_0 (x : Int) : dg x = 0 ↔ mg x = 0 := by
  rw [mg_fields]
  unfold dg
  split <;> omega
theorem tails64 : FP.Core.b64.tails = 4503599627370496 := by decide
theorem exps64 : FP.Core.b64.exps = 2048 := by decide
theorem qmin64 : FP.Core.b64.qmin = -1074 := by decide
theorem qmax64 : FP.Core.b64.qmax = 971 := by decide
theorem p64 : FP.Core.b64.p = 53 := rfl
theorem dv_def {x : Int} (h : L64 x) : dv x = if ef x = 2047 then (if tf x = 0 then .inf (decide (x < 0)) else .nan) else if ef x = 0 then .fin (decide (x < 0)) (tf x) (-1074) else .fin (decide (x < 0)) (4503599627370496 + tf x) (-1074 + ((ef x : Int) - 1)) := by
  have hs : (U x / 4503599627370496 / 2048 % 2 == 1) = decide (x < 0) := by
    have h1 := U_sgn h
    have h2 : mg x < 9223372036854775808 := by unfold mg; omega
    by_cases hx : x < 0
    · rw [if_pos hx] at h1
      rw [decide_eq_true hx, beq_iff_eq]
      omega
    · rw [if_neg hx] at h1
      rw [decide_eq_false hx, beq_eq_false_iff_ne]
      omega
  unfold dv FP.Core.val64 FP.Core.decode FP.Core.fieldE FP.Core.fieldT FP.Core.fieldS
  rw [dU_nat, tails64, exps64, qmin64, hs]
  rfl
theorem dv_fin {x : Int} (h : L64 x) (hm : mg x < 9218868437227405312) : dv x = .fin (decide (x < 0)) (dg x) (pl x) := by
  have h1 := mg_fields x
  have h2 := tf_lt x
  rw [dv_def h, if_neg (by omega)]
  unfold dg pl
  split
  · rename_i h0
    rw [h0]
    rfl
  · rename_i h0
    rw [Nat.add_comm]
    congr 1
    omega
theorem dv_inf {x : Int} (h : L64 x) (hm : mg x = 9218868437227405312) : dv x = .inf (decide (x < 0)) := by
  have h1 := mg_fields x
  have h2 := tf_lt x
  have h3 := ef_lt x
  rw [dv_def h, if_pos (by omega), if_pos (by omega)]
theorem dv_nan {x : Int} (h : L64 x) (hm : 9218868437227405312 < mg x) : dv x = .nan := by
  have h1 := mg_fields x
  have h2 := tf_lt x
  have h3 := ef_lt x
  rw [dv_def h, if_pos (by omega), if_neg (by omega)]
theorem dv_fits (x : Int) : FP.Core.fits FP.Core.b64 (dv x) := FP.Core.val64_fits _
/-- sign and magnitude put together -/
def sm (s : Bool) (m : Nat) : Int := UI ((if s then 9223372036854775808 else 0) + m)
theorem sm_L {s : Bool} {m : Nat} (h : m < 9223372036854775808) : L64 (sm s m) := by
  unfold sm
  exact UI_L (by split <;> omega)
theorem U_sm {s : Bool} {m : Nat} (h : m < 9223372036854775808) : U (sm s m) = (if s then 9223372036854775808 else 0) + m := by
  unfold sm
  exact U_UI (by split <;> omega)
theorem sm_neg {s : Bool} {m : Nat} (h : m < 9223372036854775808) : decide (sm s m < 0) = s := by
  unfold sm UI
  cases s
  · simp only [Bool.false_eq_true, if_false, Nat.zero_add]
    rw [if_pos h]
    exact decide_eq_false (by omega)
  · simp only [if_true]
    rw [if_neg (by omega)]
    exact decide_eq_true (by omega)
theorem mg_sm {s : Bool} {m : Nat} (h : m < 9223372036854775808) : mg (sm s m) = m := by
  unfold mg
  rw [U_sm h]
  cases s
  · simp only [Bool.false_eq_true, if_false]; omega
  · simp only [if_true]; omega
theorem sm_of {x : Int} (h : L64 x) : sm (decide (x < 0)) (mg x) = x := by
  unfold sm
  have h1 := U_sgn h
  have h2 : (if decide (x < 0) = true then 9223372036854775808 else 0) + mg x = U x := by
    rw [h1]
    simp only [decide_eq_true_eq]
  rw [h2, UI_U h]
/-- what has the same datum and is a number is the same -/
theorem dv_inj {x : Int} {u : UInt64} (h : L64 x) (hn : FP.Core.val64 u ≠ .nan) (e : dv x = FP.Core.val64 u) : x = d_I u := by
  rw [FP.Core.val64_inj hn e.symm, dI_dU h]
/-! rounding: the magnitude's bits -/
def nrM (m : Nat) (p : Int) : Nat :=
  if 63 < max ((m.log2 : Int) - 52) (-1074 - p) then 0
  else if 971 < p + max ((m.log2 : Int) - 52) (-1074 - p) then 9218868437227405312
  else min ((p + max ((m.log2 : Int) - 52) (-1074 - p) + 1074).toNat * 4503599627370496 + FP.Core.nearest (m * 2 ^ (- max ((m.log2 : Int) - 52) (-1074 - p)).toNat) (2 ^ (max ((m.log2 : Int) - 52) (-1074 - p)).toNat)) 9218868437227405312
theorem nrM_le (m : Nat) (p : Int) : nrM m p ≤ 9218868437227405312 := by
  unfold nrM
  split
  · omega
  · split
    · omega
    · exact Nat.min_le_right _ _
theorem enc_inf (s : Bool) : FP.Core.encode FP.Core.b64 (.inf s) = (if s then 9223372036854775808 else 0) + 9218868437227405312 := by cases s <;> decide
theorem enc_fin (s : Bool) (c : Nat) (q : Int) (h : q = -1074 ∨ 4503599627370496 ≤ c) (hq : -1074 ≤ q) : FP.Core.encode FP.Core.b64 (.fin s c q) = (if s then 9223372036854775808 else 0) + ((q + 1074).toNat * 4503599627370496 + c) := by
  simp only [FP.Core.encode]
  rw [tails64, qmin64]
  unfold FP.Core.assemble
  rw [tails64, exps64]
  split
  · cases s
    · simp only [Bool.toNat_false, Bool.false_eq_true, if_false]; omega
    · simp only [Bool.toNat_true, if_true]; omega
  · cases s
    · simp only [Bool.toNat_false, Bool.false_eq_true, if_false]; omega
    · simp only [Bool.toNat_true, if_true]; omega
theorem nr_fin {c : Nat} {q : Int} (s : Bool) (hq : -1074 ≤ q) (hb : c ≤ 9007199254740992) (ha : q = -1074 ∨ 4503599627370496 ≤ c) (h971 : ¬ 971 < q) :
    FP.Core.encode FP.Core.b64 (FP.Core.settle FP.Core.b64 s c q) = (if s then 9223372036854775808 else 0) + min ((q + 1074).toNat * 4503599627370496 + c) 9218868437227405312 := by
  obtain ⟨n, hn⟩ : ∃ n : Nat, q = n - 1074 := ⟨(q + 1074).toNat, by omega⟩
  have hn2 : n ≤ 2045 := by omega
  have hn3 : (q + 1074).toNat = n := by omega
  unfold FP.Core.settle FP.Core.bound
  rw [p64, show (2 : Nat) ^ 53 = 9007199254740992 from rfl, qmax64, tails64, hn3]
  by_cases hc : c < 9007199254740992
  · have h1 : n * 4503599627370496 + c ≤ 9218868437227405312 := by
      have := Nat.mul_le_mul_right 4503599627370496 hn2
      exact Nat.le_trans (Nat.add_le_add this (Nat.le_of_lt hc)) (by decide)
    rw [if_pos hc, if_pos (by omega), enc_fin s c _ ha hq, hn3, Nat.min_eq_left h1]
  · have hc2 : c = 9007199254740992 := Nat.le_antisymm hb (Nat.le_of_not_lt hc)
    rw [if_neg hc, hc2]
    by_cases h0 : q + 1 ≤ 971
    · have h1 : n * 4503599627370496 + 9007199254740992 ≤ 9218868437227405312 := by
        have := Nat.mul_le_mul_right 4503599627370496 (show n ≤ 2044 by omega)
        exact Nat.le_trans (Nat.add_le_add_right this _) (by decide)
      have h2 : (n + 1) * 4503599627370496 + 4503599627370496 = n * 4503599627370496 + 9007199254740992 := by omega
      rw [if_pos h0, enc_fin s _ _ (.inr (Nat.le_refl _)) (by omega), Nat.min_eq_left h1, show (q + 1 + 1074).toNat = n + 1 by omega]
      exact congrArg _ h2
    · have h1 : n = 2045 := by omega
      rw [if_neg h0, enc_inf, h1, Nat.min_eq_right (by decide)]
theorem nr_enc {m : Nat} (h0 : 0 < m) (hm : m < 9223372036854775808) (s : Bool) (p : Int) : FP.Core.encode FP.Core.b64 (rr s m 1 p) = (if s then 9223372036854775808 else 0) + nrM m p := by
  have l1 : 2 ^ m.log2 ≤ m := Nat.log2_self_le (by omega)
  have l2 : m < 2 ^ (m.log2 + 1) := Nat.lt_log2_self
  have l3 : m.log2 < 63 := (Nat.log2_lt (by omega)).mpr (by simpa using hm)
  have hl : FP.Core.leading m 1 = (m.log2 : Int) := leading_eq h0 (by decide) ⟨0, m.log2, by omega, by omega, by omega⟩
  unfold nrM rr FP.Core.roundRatio
  rw [if_neg (by omega)]
  have hq : FP.Core.quantum FP.Core.b64 m 1 p = p + max ((m.log2 : Int) - 52) (-1074 - p) := by
    unfold FP.Core.quantum
    rw [hl, qmin64, p64]
    omega
  rw [hq]
  generalize hL : m.log2 = L at *
  generalize hc : max ((L : Int) - 52) (-1074 - p) = cut
  unfold FP.Core.roundAt FP.Core.unitsNum FP.Core.unitsDen
  rw [show (p - (p + cut)).toNat = (-cut).toNat by omega, show (p + cut - p).toNat = cut.toNat by omega, Nat.one_mul]
  -- the digits that are kept
  have hb : FP.Core.nearest (m * 2 ^ (-cut).toNat) (2 ^ cut.toNat) ≤ 9007199254740992 := by
    refine FP.Core.nearest_le (Nat.two_pow_pos _) ?_
    have e1 : 2 ^ (L + 1) * 2 ^ (-cut).toNat ≤ 9007199254740992 * 2 ^ cut.toNat := by
      rw [show (9007199254740992 : Nat) = 2 ^ 53 from rfl, ← Nat.pow_add, ← Nat.pow_add]
      exact Nat.pow_le_pow_right (by decide) (by omega)
    exact Nat.le_trans (Nat.mul_le_mul_right _ (Nat.le_of_lt l2)) e1
  have ha : p + cut = -1074 ∨ 4503599627370496 ≤ FP.Core.nearest (m * 2 ^ (-cut).toNat) (2 ^ cut.toNat) := by
    by_cases hc2 : cut = (L : Int) - 52
    · refine .inr (FP.Core.nearest_ge (Nat.two_pow_pos _) ?_)
      have e1 : 4503599627370496 * 2 ^ cut.toNat ≤ 2 ^ L * 2 ^ (-cut).toNat := by
        rw [show (4503599627370496 : Nat) = 2 ^ 52 from rfl, ← Nat.pow_add, ← Nat.pow_add]
        exact Nat.pow_le_pow_right (by decide) (by omega)
      exact Nat.le_trans e1 (Nat.mul_le_mul_right _ l1)
    · exact .inl (by omega)
  by_cases h63 : 63 < cut
  · rw [if_pos h63]
    have e0 : FP.Core.nearest (m * 2 ^ (-cut).toNat) (2 ^ cut.toNat) = 0 := by
      have e1 : (-cut).toNat = 0 := by omega
      have e2 : 18446744073709551616 ≤ 2 ^ cut.toNat := by
        rw [show (18446744073709551616 : Nat) = 2 ^ 64 from rfl]
        exact Nat.pow_le_pow_right (by decide) (by omega)
      rw [e1, Nat.pow_zero, Nat.mul_one]
      unfold FP.Core.nearest
      rw [Nat.mod_eq_of_lt (by omega), if_pos (by omega), Nat.div_eq_of_lt (by omega)]
    rw [e0]
    have e3 : p + cut = -1074 := by omega
    rw [e3, nr_fin s (by decide) (by decide) (.inl rfl) (by decide)]
    rfl
  · rw [if_neg h63]
    have hq2 : -1074 ≤ p + cut := by omega
    generalize FP.Core.nearest (m * 2 ^ (-cut).toNat) (2 ^ cut.toNat) = c at *
    by_cases h971 : 971 < p + cut
    · rw [if_pos h971]
      unfold FP.Core.settle FP.Core.bound
      rw [qmax64]
      split
      · rw [if_neg (by omega), enc_inf]
      · rw [if_neg (by omega), enc_inf]
    · rw [if_neg h971]
      exact nr_fin s hq2 hb ha h971
theorem nr_dv {m : Nat} (h0 : 0 < m) (hm : m < 9223372036854775808) (s : Bool) (p : Int) : dv (sm s (nrM m p)) = rr s m 1 p := by
  have h1 := nrM_le m p
  have h2 := FP.Core.decode_encode FP.Core.good_b64 (rr s m 1 p) (FP.Core.roundRatio_fits FP.Core.good_b64 s m (by decide) p)
  rw [nr_enc h0 hm s p] at h2
  unfold dv FP.Core.val64
  rw [dU_nat, U_sm (by omega)]
  exact h2
/-! sums, products, quotients, remainders: what the class reckons in whole numbers -/
def jm (m n : Nat) : Nat := m / 2 ^ n ||| (if m % 2 ^ n = 0 then 0 else 1)
theorem sgn_add (s t : Bool) (c d : Nat) (q r : Int) : FP.Core.round FP.Core.b64 (FP.Core.exactSum (.fin s c q) (.fin t d r)) = rr (FP.Core.sumSign s t (FP.Core.sumUnits s c q t d r (min q r))) (FP.Core.sumUnits s c q t d r (min q r)).natAbs 1 (min q r) := rfl
theorem jm_exact {m n : Nat} (h : m % 2 ^ n = 0) : jm m n = m / 2 ^ n := by unfold jm; rw [if_pos h, Nat.or_zero]
theorem jm_odd {m n : Nat} (h : m % 2 ^ n ≠ 0) : jm m n % 2 = 1 ∧ (jm m n - 1) * 2 ^ n < m ∧ m < (jm m n + 1) * 2 ^ n ∧ jm m n ≤ m / 2 ^ n + 1 := by
  unfold jm
  rw [if_neg h, or_one]
  have h0 := Nat.div_add_mod m (2 ^ n)
  have h1 := Nat.mod_lt m (Nat.two_pow_pos n)
  generalize m / 2 ^ n = y at *
  generalize m % 2 ^ n = z at *
  generalize 2 ^ n = p at *
  have e1 : ∀ c : Nat, c * p = p * c := fun c => Nat.mul_comm _ _
  split
  · rename_i ho
    refine ⟨ho, ?_, ?_, by omega⟩
    · have : (y - 1) * p ≤ p * y := by rw [e1]; exact Nat.mul_le_mul_left _ (by omega)
      omega
    · rw [Nat.add_mul, Nat.one_mul, e1]; omega
  · rename_i ho
    refine ⟨by omega, ?_, ?_, by omega⟩
    · rw [show y + 1 - 1 = y by omega, e1]; omega
    · rw [Nat.add_mul, Nat.add_mul, Nat.one_mul, e1]; omega
/-- the sum: the one with the greater place, in units of 2^(q - 8), and the other one, cut off there -/
theorem sum_rr {s t : Bool} {c d : Nat} {q r : Int} (hc : c < 9007199254740992) (hd : d < 9007199254740992) (hqr : r ≤ q) (hn : r < q → 4503599627370496 ≤ c)
    {W : Int} (hW : W = FP.Core.signed s (c * 256) + FP.Core.signed t (jm (d * 256) (q - r).toNat)) {V : Int} (hV : V = FP.Core.sumUnits s c q t d r r) :
    (W = 0 ↔ V = 0) ∧ (W < 0 ↔ V < 0) ∧ ∀ z : Bool, rr z V.natAbs 1 r = rr z W.natAbs 1 (q - 8) := by
  generalize hk : (q - r).toNat = k at *
  have hqk : q = r + k := by omega
  have hV2 : V = FP.Core.signed s (c * 2 ^ k) + FP.Core.signed t d := by
    rw [hV]
    unfold FP.Core.sumUnits FP.Core.inUnits
    rw [hk, show (r - r).toNat = 0 by omega, Nat.pow_zero, Nat.mul_one]
  have hp := Nat.two_pow_pos k
  by_cases hj : (d * 256) % 2 ^ k = 0
  · -- nothing is lost
    have hj2 := jm_exact hj
    have hdm := Nat.div_add_mod (d * 256) (2 ^ k)
    rw [hj, Nat.add_zero] at hdm
    rw [hj2] at hW
    generalize d * 256 / 2 ^ k = j at *
    have e : W * ((2 ^ k : Nat) : Int) = V * 256 := by
      have e1 : ((c * 256 : Nat) : Int) * ((2 ^ k : Nat) : Int) = ((c * 2 ^ k : Nat) : Int) * 256 := by
        rw [← Int.natCast_mul, show (256 : Int) = ((256 : Nat) : Int) from rfl, ← Int.natCast_mul]
        congr 1
        ac_rfl
      have e2 : (j : Int) * ((2 ^ k : Nat) : Int) = (d : Int) * 256 := by
        rw [← Int.natCast_mul, show (256 : Int) = ((256 : Nat) : Int) from rfl, ← Int.natCast_mul, Nat.mul_comm, hdm]
      rw [hW, hV2]
      unfold FP.Core.signed
      cases s <;> cases t <;> simp only [Bool.false_eq_true, if_false, if_true, Int.add_mul, Int.neg_mul, e1, e2]
    have hp2 : (0 : Int) < ((2 ^ k : Nat) : Int) := by exact_mod_cast hp
    have eN : W.natAbs * 2 ^ k = V.natAbs * 256 := by
      have := congrArg Int.natAbs e
      rw [Int.natAbs_mul, Int.natAbs_mul] at this
      exact this
    refine ⟨?_, ?_, fun z => ?_⟩
    · constructor
      · intro h; rw [h] at e; omega
      · intro h
        rw [h, Int.zero_mul] at e
        rcases Int.mul_eq_zero.mp e with h1 | h1
        · exact h1
        · omega
    · constructor
      · intro h
        have := Int.mul_neg_of_neg_of_pos h hp2
        omega
      · intro h
        by_cases h1 : W < 0
        · exact h1
        · have := Int.mul_nonneg (show 0 ≤ W by omega) (Int.le_of_lt hp2)
          omega
    · refine rr_congr (x := 8) (y := k) (by decide) (by decide) (by omega) ?_
      rw [Nat.mul_one, Nat.mul_one, eN]
  · -- something is lost: k is above 8
    have hk8 : 8 < k := by
      by_cases h : k ≤ 8
      · exfalso
        apply hj
        have : 256 = 2 ^ k * 2 ^ (8 - k) := by rw [← Nat.pow_add, show k + (8 - k) = 8 by omega]
        rw [this, Nat.mul_left_comm, Nat.mul_mod_right]
      · omega
    have hcn := hn (by omega)
    obtain ⟨j1, j2, j3, j4⟩ := jm_odd hj
    generalize jm (d * 256) k = j at *
    have hj5 : j ≤ 9007199254740993 := by
      have : d * 256 / 2 ^ k ≤ d * 256 / 256 := by
        apply Nat.div_le_div_left
        · rw [show 256 = 2 ^ 8 from rfl]; exact Nat.pow_le_pow_right (by decide) (by omega)
        · decide
      omega
    -- both have the sign of the greater one
    have hdk : d < 2 ^ k * 9007199254740992 := by
      have : 2 ^ k * 1 ≤ 2 ^ k * 9007199254740992 := Nat.mul_le_mul_left _ (by decide)
      have : 1 * 9007199254740992 ≤ 2 ^ k * 9007199254740992 := Nat.mul_le_mul_right _ hp
      omega
    have hck : 4503599627370496 * 2 ^ k ≤ c * 2 ^ k := Nat.mul_le_mul_right _ hcn
    have hk512 : 512 ≤ 2 ^ k := by rw [show 512 = 2 ^ 9 from rfl]; exact Nat.pow_le_pow_right (by decide) (by omega)
    have hbig : d < c * 2 ^ k := by
      have : 4503599627370496 * 512 ≤ 4503599627370496 * 2 ^ k := Nat.mul_le_mul_left _ hk512
      omega
    have hrr : ∀ (z : Bool) (N A : Nat), A % 2 = 1 → 2 ^ 56 ≤ A → (A - 1) * 2 ^ k < N * 256 → N * 256 < (A + 1) * 2 ^ k → rr z N 1 r = rr z A 1 (q - 8) := by
      intro z N A a1 a2 a3 a4
      rw [← rr_jam hp a1 a2 a3 a4]
      refine rr_congr (x := 8) (y := k) (by decide) hp (by omega) ?_
      rw [Nat.mul_one, show (2 : Nat) ^ 8 = 256 from rfl]
      ac_rfl
    have c1 : c * 256 * 2 ^ k = c * 2 ^ k * 256 := by ac_rfl
    have sub1 : ∀ x y : Nat, (x - y) * 2 ^ k = x * 2 ^ k - y * 2 ^ k := fun x y => Nat.sub_mul x y _
    have add1 : ∀ x y : Nat, (x + y) * 2 ^ k = x * 2 ^ k + y * 2 ^ k := fun x y => Nat.add_mul x y _
    rw [sub1, Nat.one_mul] at j2
    rw [add1, Nat.one_mul] at j3
    have j1' : 1 ≤ j := by omega
    have j6 : 2 ^ k ≤ j * 2 ^ k := by have := Nat.mul_le_mul_right (2 ^ k) j1'; omega
    have hjk : j * 2 ^ k ≤ c * 256 * 2 ^ k := Nat.mul_le_mul_right _ (by omega)
    have e56 : (2 : Nat) ^ 56 = 72057594037927936 := rfl
    by_cases hst : s = t
    · subst hst
      have hWa : W.natAbs = c * 256 + j := by rw [hW]; unfold FP.Core.signed; cases s <;> simp only [Bool.false_eq_true, if_false, if_true] <;> omega
      have hVa : V.natAbs = c * 2 ^ k + d := by rw [hV2]; unfold FP.Core.signed; cases s <;> simp only [Bool.false_eq_true, if_false, if_true] <;> omega
      refine ⟨?_, ?_, fun z => ?_⟩
      · omega
      · rw [hW, hV2]; unfold FP.Core.signed; cases s <;> simp only [Bool.false_eq_true, if_false, if_true] <;> omega
      · rw [hWa, hVa]
        refine hrr z _ _ (by omega) (by omega) ?_ ?_
        · rw [sub1, add1, Nat.one_mul, c1, Nat.add_mul]; omega
        · have e9 : (c * 256 + j + 1) * 2 ^ k = c * 2 ^ k * 256 + j * 2 ^ k + 2 ^ k := by rw [Nat.add_mul, Nat.add_mul, Nat.one_mul, c1]
          rw [e9, Nat.add_mul, Nat.add_assoc (c * 2 ^ k * 256)]
          exact Nat.add_lt_add_left j3 _
    · have hWa : W.natAbs = c * 256 - j := by rw [hW]; unfold FP.Core.signed; cases s <;> cases t <;> simp only [Bool.false_eq_true, if_false, if_true] <;> first | omega | exact absurd rfl hst
      have hVa : V.natAbs = c * 2 ^ k - d := by rw [hV2]; unfold FP.Core.signed; cases s <;> cases t <;> simp only [Bool.false_eq_true, if_false, if_true] <;> first | omega | exact absurd rfl hst
      refine ⟨?_, ?_, fun z => ?_⟩
      · omega
      · rw [hW, hV2]; unfold FP.Core.signed; cases s <;> cases t <;> simp only [Bool.false_eq_true, if_false, if_true] <;> first | omega | exact absurd rfl hst
      · rw [hWa, hVa]
        refine hrr z _ _ (by omega) (by omega) ?_ ?_
        · rw [sub1, sub1, Nat.one_mul, c1, Nat.sub_mul]; omega
        · have e9 : (c * 256 - j + 1) * 2 ^ k = c * 2 ^ k * 256 - j * 2 ^ k + 2 ^ k := by rw [Nat.add_mul, Nat.sub_mul, Nat.one_mul, c1]
          rw [e9, Nat.sub_mul]; omega
/-- digits brought to 53 -/
def lak (c : Nat) : Nat := 52 - c.log2
theorem lak_rng {c : Nat} (h0 : 0 < c) (hc : c < 9007199254740992) : 4503599627370496 ≤ c * 2 ^ lak c ∧ c * 2 ^ lak c < 9007199254740992 := by
  have l1 : 2 ^ c.log2 ≤ c := Nat.log2_self_le (by omega)
  have l2 : c < 2 ^ (c.log2 + 1) := Nat.lt_log2_self
  have l3 : c.log2 < 53 := (Nat.log2_lt (by omega)).mpr hc
  unfold lak
  have e1 : 2 ^ c.log2 * 2 ^ (52 - c.log2) = 4503599627370496 := by rw [← Nat.pow_add, show c.log2 + (52 - c.log2) = 52 by omega]
  have e2 : 2 ^ (c.log2 + 1) * 2 ^ (52 - c.log2) = 9007199254740992 := by rw [← Nat.pow_add, show c.log2 + 1 + (52 - c.log2) = 53 by omega]
  refine ⟨?_, ?_⟩
  · rw [← e1]; exact Nat.mul_le_mul_right _ l1
  · rw [← e2]; exact Nat.mul_lt_mul_of_pos_right l2 (Nat.two_pow_pos _)
/-- a product, by its upper digits -/
theorem mul_rr {s : Bool} {c d : Nat} {q r : Int} (hc0 : 0 < c) (hc : c < 9007199254740992) (hd0 : 0 < d) (hd : d < 9007199254740992) :
    rr s (c * d) 1 (q + r) = rr s (c * 2 ^ lak c * (d * 2 ^ lak d) / 17592186044416 ||| (if c * 2 ^ lak c * (d * 2 ^ lak d) % 17592186044416 = 0 then 0 else 1)) 1 (q - lak c + r - lak d + 44) := by
  have h1 := lak_rng hc0 hc
  have h2 := lak_rng hd0 hd
  rw [← rr_stick (e := q - lak c + r - lak d + 44) (by decide)]
  · refine rr_congr (x := lak c + lak d) (y := 44) (by decide) (by decide) (by omega) ?_
    rw [Nat.pow_add, Nat.mul_one, show (2 : Nat) ^ 44 = 17592186044416 from rfl]
    ac_rfl
  · have := Nat.mul_le_mul h1.1 h2.1
    rw [Nat.le_div_iff_mul_le (by decide)]
    omega
/-- a quotient -/
theorem div_rr {s : Bool} {c d : Nat} {q r : Int} (hc0 : 0 < c) (hc : c < 9007199254740992) (hd0 : 0 < d) (hd : d < 9007199254740992) :
    rr s c d (q - r) = rr s (c * 2 ^ lak c * 1152921504606846976 / (d * 2 ^ lak d) ||| (if c * 2 ^ lak c * 1152921504606846976 % (d * 2 ^ lak d) = 0 then 0 else 1)) 1 (q - lak c - r + lak d - 60) := by
  have h1 := lak_rng hc0 hc
  have h2 := lak_rng hd0 hd
  rw [← rr_stick (e := q - lak c - r + lak d - 60) (by omega)]
  · refine rr_congr (x := lak c + 60) (y := lak d) hd0 (by omega) (by omega) ?_
    rw [Nat.pow_add, show (2 : Nat) ^ 60 = 1152921504606846976 from rfl]
    ac_rfl
  · rw [Nat.le_div_iff_mul_le (by omega)]
    omega
/-- long division, ten digits a step -/
def dvS (by0 : Nat) : Nat → Nat × Nat → Nat × Nat
  | 0, p => p
  | n + 1, p => dvS by0 n (p.1 * 1024 + p.2 / by0, p.2 % by0 * 1024)
theorem dvS_eq {b : Nat} (hb : 0 < b) : ∀ (n X : Nat), dvS b n (X / b, X % b * 1024) = (X * 1024 ^ n / b, X * 1024 ^ n % b * 1024)
  | 0, X => by rw [dvS, Nat.pow_zero, Nat.mul_one]
  | n + 1, X => by
    have h0 := Nat.div_add_mod X b
    have e1 : X * 1024 = b * (X / b * 1024) + X % b * 1024 := by
      have := congrArg (· * 1024) h0
      simp only [Nat.add_mul] at this
      rw [← this]
      ac_rfl
    have e2 : X * 1024 / b = X / b * 1024 + X % b * 1024 / b := by rw [e1, Nat.mul_add_div hb]
    have e3 : X * 1024 % b = X % b * 1024 % b := by rw [e1, Nat.mul_add_mod]
    rw [dvS]
    show dvS b n (X / b * 1024 + X % b * 1024 / b, X % b * 1024 % b * 1024) = _
    rw [← e2, ← e3, dvS_eq hb n (X * 1024), Nat.pow_succ, Nat.mul_comm (1024 ^ n), ← Nat.mul_assoc]
/-- a remainder: the dividend is the lesser one -/
theorem rem_lt {s t : Bool} {c d : Nat} {q r : Int} (hf : FP.Core.fits FP.Core.b64 (.fin s c q)) (hc0 : 0 < c) (hc : c < 9007199254740992) (hd0 : 0 < d) (hd : d < 9007199254740992) (ha : q - lak c - r + lak d < 0) :
    FP.Core.round FP.Core.b64 (FP.Core.exactRemainder (.fin s c q) (.fin t d r)) = .fin s c q := by
  have h1 := lak_rng hc0 hc
  have h2 := lak_rng hd0 hd
  simp only [FP.Core.exactRemainder]
  rw [if_neg (by omega)]
  show rr s _ 1 _ = _
  have hlt : FP.Core.inUnits c q (min q r) < FP.Core.inUnits d r (min q r) := by
    unfold FP.Core.inUnits
    have e1 : 9007199254740992 * 2 ^ ((q - min q r).toNat + lak d) ≤ 4503599627370496 * 2 ^ ((r - min q r).toNat + lak c) := by
      rw [show (9007199254740992 : Nat) = 2 ^ 53 from rfl, show (4503599627370496 : Nat) = 2 ^ 52 from rfl, ← Nat.pow_add, ← Nat.pow_add]
      exact Nat.pow_le_pow_right (by decide) (by omega)
    have e2 : c * 2 ^ lak c * 2 ^ ((q - min q r).toNat + lak d) < 9007199254740992 * 2 ^ ((q - min q r).toNat + lak d) := Nat.mul_lt_mul_of_pos_right h1.2 (Nat.two_pow_pos _)
    have e3 : 4503599627370496 * 2 ^ ((r - min q r).toNat + lak c) ≤ d * 2 ^ lak d * 2 ^ ((r - min q r).toNat + lak c) := Nat.mul_le_mul_right _ h2.1
    have e4 := Nat.lt_of_lt_of_le e2 (Nat.le_trans e1 e3)
    rw [Nat.pow_add, Nat.pow_add] at e4
    have e5 : c * 2 ^ lak c * (2 ^ (q - min q r).toNat * 2 ^ lak d) = c * 2 ^ (q - min q r).toNat * (2 ^ lak c * 2 ^ lak d) := by ac_rfl
    have e6 : d * 2 ^ lak d * (2 ^ (r - min q r).toNat * 2 ^ lak c) = d * 2 ^ (r - min q r).toNat * (2 ^ lak c * 2 ^ lak d) := by ac_rfl
    rw [e5, e6] at e4
    exact Nat.lt_of_mul_lt_mul_right e4
  rw [Nat.mod_eq_of_lt hlt]
  refine FP.Core.roundRatio_exact FP.Core.good_b64 (by decide) hf ?_
  unfold FP.Core.inUnits
  rw [show (min q r - q).toNat = 0 by omega, Nat.pow_zero, Nat.mul_one, Nat.mul_one]
/-- a remainder -/
theorem rem_rr {s t : Bool} {c d : Nat} {q r : Int} (hd0 : 0 < d) (ha : 0 ≤ q - lak c - r + lak d) :
    FP.Core.round FP.Core.b64 (FP.Core.exactRemainder (.fin s c q) (.fin t d r)) = rr s (c * 2 ^ lak c * 2 ^ (q - lak c - r + lak d).toNat % (d * 2 ^ lak d)) 1 (r - lak d) := by
  simp only [FP.Core.exactRemainder]
  rw [if_neg (by omega)]
  show rr s _ 1 _ = _
  refine rr_congr (x := (min q r - (r - lak d)).toNat) (y := 0) (by decide) (by decide) (by omega) ?_
  unfold FP.Core.inUnits
  rw [Nat.pow_zero, Nat.mul_one, Nat.mul_one, Nat.mul_one, ← Nat.mul_mod_mul_right]
  congr 1
  · rw [Nat.mul_assoc, Nat.mul_assoc, ← Nat.pow_add, ← Nat.pow_add]
    congr 2
    omega
  · rw [Nat.mul_assoc, ← Nat.pow_add]
    congr 2
    omega
