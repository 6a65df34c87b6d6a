/-! NUMBERS: whole numbers and the machine's ints and longs -/
theorem w32_bmod (x : Int) : w32 x = x.bmod 4294967296 := by
  unfold w32
  rw [Int.bmod_def]
  split <;> omega
theorem w64_bmod (x : Int) : w64 x = x.bmod 18446744073709551616 := by
  unfold w64
  rw [Int.bmod_def]
  split <;> omega
theorem w8_bmod (x : Int) : w8 x = x.bmod 256 := by
  unfold w8
  rw [Int.bmod_def]
  split <;> omega
theorem w32_rng (x : Int) : -2147483648 ≤ w32 x ∧ w32 x ≤ 2147483647 := by unfold w32; omega
theorem w64_rng (x : Int) : -9223372036854775808 ≤ w64 x ∧ w64 x ≤ 9223372036854775807 := by unfold w64; omega
theorem w8_rng (x : Int) : -128 ≤ w8 x ∧ w8 x ≤ 127 := by unfold w8; omega
theorem w32_id {x : Int} (h : -2147483648 ≤ x ∧ x ≤ 2147483647) : w32 x = x := by unfold w32; omega
theorem w64_id {x : Int} (h : -9223372036854775808 ≤ x ∧ x ≤ 9223372036854775807) : w64 x = x := by unfold w64; omega
theorem i_of (x : Int) : (Int32.ofInt x).toInt = w32 x := by rw [w32_bmod]; exact Int32.toInt_ofInt
theorem l_of (x : Int) : (Int64.ofInt x).toInt = w64 x := by rw [w64_bmod]; exact Int64.toInt_ofInt
theorem i_ofr {x : Int} (h : -2147483648 ≤ x ∧ x ≤ 2147483647) : (Int32.ofInt x).toInt = x := by rw [i_of, w32_id h]
theorem l_ofr {x : Int} (h : -9223372036854775808 ≤ x ∧ x ≤ 9223372036854775807) : (Int64.ofInt x).toInt = x := by rw [l_of, w64_id h]
theorem i_rng (x : Int32) : -2147483648 ≤ x.toInt ∧ x.toInt ≤ 2147483647 := by
  have h1 := Int32.toInt_lt x
  have h2 := Int32.le_toInt x
  omega
theorem l_rng (x : Int64) : -9223372036854775808 ≤ x.toInt ∧ x.toInt ≤ 9223372036854775807 := by
  have h1 := Int64.toInt_lt x
  have h2 := Int64.le_toInt x
  omega
theorem i_eq {a : Int32} {x : Int} (h : a.toInt = w32 x) : a = Int32.ofInt x := Int32.toInt_inj.mp (h.trans (i_of x).symm)
theorem l_eq {a : Int64} {x : Int} (h : a.toInt = w64 x) : a = Int64.ofInt x := Int64.toInt_inj.mp (h.trans (l_of x).symm)
theorem w32_w32 (x : Int) : w32 (w32 x) = w32 x := w32_id (w32_rng x)
theorem w64_w64 (x : Int) : w64 (w64 x) = w64 x := w64_id (w64_rng x)
theorem i_w (x : Int) : Int32.ofInt (w32 x) = Int32.ofInt x := (i_eq (by rw [i_of, w32_w32]))
theorem l_w (x : Int) : Int64.ofInt (w64 x) = Int64.ofInt x := (l_eq (by rw [l_of, w64_w64]))
theorem i_addE (x y : Int) : Int32.ofInt x + Int32.ofInt y = Int32.ofInt (w32 (x + y)) := by
  rw [i_w]; apply i_eq
  rw [Int32.toInt_add, i_of, i_of, ← w32_bmod]
  unfold w32; omega
theorem i_subE (x y : Int) : Int32.ofInt x - Int32.ofInt y = Int32.ofInt (w32 (x - y)) := by
  rw [i_w]; apply i_eq
  rw [Int32.toInt_sub, i_of, i_of, ← w32_bmod]
  unfold w32; omega
theorem i_mulE (x y : Int) : Int32.ofInt x * Int32.ofInt y = Int32.ofInt (w32 (x * y)) := by
  rw [i_w]; apply i_eq
  rw [Int32.toInt_mul, i_of, i_of, w32_bmod, w32_bmod, w32_bmod, Int.bmod_mul_bmod, Int.mul_bmod_bmod]
theorem i_negE (x : Int) : -Int32.ofInt x = Int32.ofInt (w32 (-x)) := by
  rw [i_w]; apply i_eq
  rw [Int32.toInt_neg, i_of, ← w32_bmod]
  unfold w32; omega
theorem l_addE (x y : Int) : Int64.ofInt x + Int64.ofInt y = Int64.ofInt (w64 (x + y)) := by
  rw [l_w]; apply l_eq
  rw [Int64.toInt_add, l_of, l_of, ← w64_bmod]
  unfold w64; omega
theorem l_subE (x y : Int) : Int64.ofInt x - Int64.ofInt y = Int64.ofInt (w64 (x - y)) := by
  rw [l_w]; apply l_eq
  rw [Int64.toInt_sub, l_of, l_of, ← w64_bmod]
  unfold w64; omega
theorem l_mulE (x y : Int) : Int64.ofInt x * Int64.ofInt y = Int64.ofInt (w64 (x * y)) := by
  rw [l_w]; apply l_eq
  rw [Int64.toInt_mul, l_of, l_of, w64_bmod, w64_bmod, w64_bmod, Int.bmod_mul_bmod, Int.mul_bmod_bmod]
theorem l_negE (x : Int) : -Int64.ofInt x = Int64.ofInt (w64 (-x)) := by
  rw [l_w]; apply l_eq
  rw [Int64.toInt_neg, l_of, ← w64_bmod]
  unfold w64; omega
theorem i_divE {x y : Int} (hx : -2147483648 ≤ x ∧ x ≤ 2147483647) (hy : -2147483648 ≤ y ∧ y ≤ 2147483647) : Int32.ofInt x / Int32.ofInt y = Int32.ofInt (w32 (Int.tdiv x y)) := by
  rw [i_w]; apply i_eq
  rw [Int32.toInt_div, i_ofr hx, i_ofr hy, ← w32_bmod]
theorem l_divE {x y : Int} (hx : -9223372036854775808 ≤ x ∧ x ≤ 9223372036854775807) (hy : -9223372036854775808 ≤ y ∧ y ≤ 9223372036854775807) : Int64.ofInt x / Int64.ofInt y = Int64.ofInt (w64 (Int.tdiv x y)) := by
  rw [l_w]; apply l_eq
  rw [Int64.toInt_div, l_ofr hx, l_ofr hy, ← w64_bmod]
theorem tm_rng {x y : Int} {M : Int} (hx : -M - 1 ≤ x ∧ x ≤ M) : -M - 1 ≤ Int.tmod x y ∧ Int.tmod x y ≤ M := by
  rcases Int.le_total 0 x with h | h
  · have h1 := Int.tmod_nonneg y h
    have h2 : Int.tmod x y ≤ x := by
      have := Int.natAbs_tmod x y
      have h3 : (x.tmod y).natAbs ≤ x.natAbs := by rw [Int.natAbs_tmod]; exact Nat.mod_le _ _
      omega
    omega
  · have h3 : (x.tmod y).natAbs ≤ x.natAbs := by rw [Int.natAbs_tmod]; exact Nat.mod_le _ _
    have h4 : Int.tmod x y ≤ 0 := by
      have := Int.tmod_nonneg (a := -x) y (by omega)
      rw [Int.neg_tmod] at this
      omega
    omega
theorem i_remE {x y : Int} (hx : -2147483648 ≤ x ∧ x ≤ 2147483647) (hy : -2147483648 ≤ y ∧ y ≤ 2147483647) : Int32.ofInt x - Int32.ofInt x / Int32.ofInt y * Int32.ofInt y = Int32.ofInt (Int.tmod x y) := by
  apply i_eq
  rw [rem_toInt, i_ofr hx, i_ofr hy, w32_id (tm_rng (M := 2147483647) hx)]
theorem l_remE {x y : Int} (hx : -9223372036854775808 ≤ x ∧ x ≤ 9223372036854775807) (hy : -9223372036854775808 ≤ y ∧ y ≤ 9223372036854775807) : Int64.ofInt x - Int64.ofInt x / Int64.ofInt y * Int64.ofInt y = Int64.ofInt (Int.tmod x y) := by
  apply l_eq
  have e : Int64.ofInt x - Int64.ofInt x / Int64.ofInt y * Int64.ofInt y = Int64.ofInt x % Int64.ofInt y := by
    have h := Int64.toInt_inj (x := Int64.ofInt x - Int64.ofInt x / Int64.ofInt y * Int64.ofInt y) (y := Int64.ofInt x % Int64.ofInt y)
    refine h.mp ?_
    rw [Int64.toInt_sub, Int64.toInt_mul, Int64.toInt_div, Int64.toInt_mod]
    have ha := l_rng (Int64.ofInt x)
    generalize (Int64.ofInt x).toInt = a at ha ⊢
    generalize (Int64.ofInt y).toInt = b
    have e1 : ((a.tdiv b).bmod (2 ^ 64) * b).bmod (2 ^ 64) = (a.tdiv b * b).bmod (2 ^ 64) := Int.bmod_mul_bmod
    have e2 : (a - (a.tdiv b * b).bmod (2 ^ 64)).bmod (2 ^ 64) = (a - a.tdiv b * b).bmod (2 ^ 64) := Int.sub_bmod_bmod
    have e3 : a - a.tdiv b * b = a.tmod b := by rw [Int.tmod_def, Int.mul_comm]
    rw [e1, e2, e3]
    exact (w64_bmod _).symm.trans (w64_id (tm_rng (M := 9223372036854775807) ha))
  rw [e, Int64.toInt_mod, l_ofr hx, l_ofr hy, w64_id (tm_rng (M := 9223372036854775807) hx)]
theorem i_back (a : Int32) : Int32.ofInt a.toInt = a := Int32.ofInt_toInt a
theorem l_back (a : Int64) : Int64.ofInt a.toInt = a := Int64.ofInt_toInt a
theorem i_clamp {x : Int} (h : 0 ≤ x) (h2 : x ≤ 2147483647) : (Int32.ofInt x).toNatClampNeg = x.toNat := by
  rw [← Int32.toNat_toInt, i_ofr (by omega)]
theorem i_ltE {x y : Int} (hx : -2147483648 ≤ x ∧ x ≤ 2147483647) (hy : -2147483648 ≤ y ∧ y ≤ 2147483647) : Int32.ofInt x < Int32.ofInt y ↔ x < y := by
  rw [Int32.lt_iff_toInt_lt, i_ofr hx, i_ofr hy]
theorem i_leE {x y : Int} (hx : -2147483648 ≤ x ∧ x ≤ 2147483647) (hy : -2147483648 ≤ y ∧ y ≤ 2147483647) : Int32.ofInt x ≤ Int32.ofInt y ↔ x ≤ y := by
  rw [Int32.le_iff_toInt_le, i_ofr hx, i_ofr hy]
theorem i_eqE {x y : Int} (hx : -2147483648 ≤ x ∧ x ≤ 2147483647) (hy : -2147483648 ≤ y ∧ y ≤ 2147483647) : Int32.ofInt x = Int32.ofInt y ↔ x = y := by
  rw [← Int32.toInt_inj, i_ofr hx, i_ofr hy]
theorem l_ltE {x y : Int} (hx : -9223372036854775808 ≤ x ∧ x ≤ 9223372036854775807) (hy : -9223372036854775808 ≤ y ∧ y ≤ 9223372036854775807) : Int64.ofInt x < Int64.ofInt y ↔ x < y := by
  rw [Int64.lt_iff_toInt_lt, l_ofr hx, l_ofr hy]
theorem l_eqE {x y : Int} (hx : -9223372036854775808 ≤ x ∧ x ≤ 9223372036854775807) (hy : -9223372036854775808 ≤ y ∧ y ≤ 9223372036854775807) : Int64.ofInt x = Int64.ofInt y ↔ x = y := by
  rw [← Int64.toInt_inj, l_ofr hx, l_ofr hy]
theorem d_back (x : Int) (hx : -9223372036854775808 ≤ x ∧ x ≤ 9223372036854775807) : d_I (d_U x) = x := by
  unfold d_I d_U
  rw [Int64.toInt64_toUInt64, l_ofr hx]
theorem d_back2 (u : UInt64) : d_U (d_I u) = u := by
  unfold d_I d_U
  rw [l_back]
  first | exact UInt64.toUInt64_toInt64 u | simp
theorem d_rng (u : UInt64) : -9223372036854775808 ≤ d_I u ∧ d_I u ≤ 9223372036854775807 := l_rng _
theorem i2lE {x : Int} (hx : -2147483648 ≤ x ∧ x ≤ 2147483647) : (Int32.ofInt x).toInt64 = Int64.ofInt x := l_eq (by rw [Int32.toInt_toInt64, i_ofr hx, w64_id (by omega)])
theorem l2iE (x : Int) : (Int64.ofInt x).toInt32 = Int32.ofInt (w32 x) := by
  rw [i_w]
  apply i_eq
  rw [Int64.toInt_toInt32, l_of, ← w32_bmod]
  unfold w32 w64; omega
theorem i2bE (x : Int) : (Int32.ofInt x).toInt8.toInt32 = Int32.ofInt (w8 x) := by
  apply i_eq
  rw [Int8.toInt_toInt32, Int32.toInt_toInt8, i_of]
  show Int.bmod (w32 x) 256 = _
  rw [← w8_bmod]
  unfold w8 w32; omega
theorem i2cE (x : Int) : ((Int32.ofInt x).toUInt32 % 65536).toInt32 = Int32.ofInt (x % 65536) := by
  rw [pk_char]
  show Int32.ofNat _ = _
  rw [← Int32.ofInt_eq_ofNat]
  congr 1
  have h := i_of x
  have h2 : (Int32.ofInt x).toInt = ((Int32.ofInt x).toBitVec).toInt := rfl
  rw [h2, BitVec.toInt_eq_toNat_bmod, show (2 ^ 32 : Nat) = 4294967296 from rfl] at h
  have h3 := w32_bmod ((Int32.ofInt x).toBitVec.toNat : Int)
  unfold w32 at h h3
  omega
theorem i_and1 (v : Int) : Int32.ofInt v &&& 1 = Int32.ofInt (v % 2) := by
  apply i_eq
  have e : Int32.ofInt v &&& 1 = Int32.ofInt ((((Int32.ofInt v).toBitVec.toNat % 2 : Nat)) : Int) := by
    apply Int32.toBitVec_inj.mp
    apply BitVec.eq_of_toNat_eq
    rw [Int32.toBitVec_and, BitVec.toNat_and]
    show (Int32.ofInt v).toBitVec.toNat &&& 1 = _
    rw [Nat.and_one_is_mod]
    generalize (Int32.ofInt v).toBitVec.toNat = n
    rcases Nat.mod_two_eq_zero_or_one n with q | q <;> rw [q] <;> rfl
  rw [e, i_of]
  have h := i_of v
  have h2 : (Int32.ofInt v).toInt = ((Int32.ofInt v).toBitVec).toInt := rfl
  rw [h2, BitVec.toInt_eq_toNat_bmod, show (2 ^ 32 : Nat) = 4294967296 from rfl] at h
  have h3 := w32_bmod ((Int32.ofInt v).toBitVec.toNat : Int)
  unfold w32 at *
  omega
