/-! THE PURE SIDE, 10: bits -/
theorem w32_congr {a b : Int} (h : a % 4294967296 = b % 4294967296) : w32 a = w32 b := by unfold w32; omega
theorem w64_congr {a b : Int} (h : a % 18446744073709551616 = b % 18446744073709551616) : w64 a = w64 b := by unfold w64; omega
theorem I32_bv {x : Int} (h : -2147483648 ≤ x ∧ x ≤ 2147483647) : (Int32.ofInt x).toBitVec.toInt = x := by
  rw [Int32.toInt_toBitVec, Int32.toInt_ofInt_of_le (by omega) (by omega)]
theorem I64_bv {x : Int} (h : -9223372036854775808 ≤ x ∧ x ≤ 9223372036854775807) : (Int64.ofInt x).toBitVec.toInt = x := by
  rw [Int64.toInt_toBitVec, Int64.toInt_ofInt_of_le (by omega) (by omega)]
theorem sh_amt : ∀ n : Nat, n < 32 → ((Int32.ofInt (n : Int) &&& 31).toBitVec.smod 32).toNat = n := by decide +kernel
theorem sh_amtU : ∀ n : Nat, n < 32 → ((Int32.ofInt (n : Int)).toUInt32 &&& Int32.toUInt32 31).toBitVec.toNat % 32 = n := by decide +kernel
theorem sh_amtL : ∀ n : Nat, n < 64 → (((Int32.ofInt (n : Int)).toInt64 &&& 63).toBitVec.smod 64).toNat = n := by decide +kernel
theorem i_shr_eq {x : Int} {n : Nat} (hx : -2147483648 ≤ x ∧ x ≤ 2147483647) (hn : n < 32) : i_shr x n = x / ((2 ^ n : Nat) : Int) := by
  unfold i_shr
  rw [← Int32.toInt_toBitVec, Int32.toBitVec_shiftRight, BitVec.sshiftRight_eq', BitVec.toInt_sshiftRight, sh_amt n hn, I32_bv hx, Int.shiftRight_eq_div_pow]
theorem l_shr_eq {x : Int} {n : Nat} (hx : -9223372036854775808 ≤ x ∧ x ≤ 9223372036854775807) (hn : n < 64) : l_shr x n = x / ((2 ^ n : Nat) : Int) := by
  unfold l_shr
  rw [← Int64.toInt_toBitVec, Int64.toBitVec_shiftRight, BitVec.sshiftRight_eq', BitVec.toInt_sshiftRight, sh_amtL n hn, I64_bv hx, Int.shiftRight_eq_div_pow]
theorem shl_32 (x : BitVec 32) (n : Nat) : (x <<< n).toInt = w32 (x.toInt * ((2 ^ n : Nat) : Int)) := by
  have h1 : (x <<< n).toNat = x.toNat * 2 ^ n % 4294967296 := by rw [BitVec.toNat_shiftLeft, Nat.shiftLeft_eq]
  have h2 : (x <<< n).toInt = if 2 * (x <<< n).toNat < 4294967296 then ((x <<< n).toNat : Int) else ((x <<< n).toNat : Int) - 4294967296 := BitVec.toInt_eq_toNat_cond _
  have h3 : x.toInt = if 2 * x.toNat < 4294967296 then (x.toNat : Int) else (x.toNat : Int) - 4294967296 := BitVec.toInt_eq_toNat_cond _
  rw [h2, h3, h1]
  generalize x.toNat = a
  generalize hp : 2 ^ n = p
  have e1 : ((a : Int) - 4294967296) * (p : Int) = ((a * p : Nat) : Int) - 4294967296 * p := by rw [Int.sub_mul, Int.natCast_mul]
  have e2 : (a : Int) * (p : Int) = ((a * p : Nat) : Int) := (Int.natCast_mul a p).symm
  unfold w32
  split
  · split
    · rw [e2]; omega
    · rw [e1]; omega
  · split
    · rw [e2]; omega
    · rw [e1]; omega
theorem shl_64 (x : BitVec 64) (n : Nat) : (x <<< n).toInt = w64 (x.toInt * ((2 ^ n : Nat) : Int)) := by
  have h1 : (x <<< n).toNat = x.toNat * 2 ^ n % 18446744073709551616 := by rw [BitVec.toNat_shiftLeft, Nat.shiftLeft_eq]
  have h2 : (x <<< n).toInt = if 2 * (x <<< n).toNat < 18446744073709551616 then ((x <<< n).toNat : Int) else ((x <<< n).toNat : Int) - 18446744073709551616 := BitVec.toInt_eq_toNat_cond _
  have h3 : x.toInt = if 2 * x.toNat < 18446744073709551616 then (x.toNat : Int) else (x.toNat : Int) - 18446744073709551616 := BitVec.toInt_eq_toNat_cond _
  rw [h2, h3, h1]
  generalize x.toNat = a
  generalize hp : 2 ^ n = p
  have e1 : ((a : Int) - 18446744073709551616) * (p : Int) = ((a * p : Nat) : Int) - 18446744073709551616 * p := by rw [Int.sub_mul, Int.natCast_mul]
  have e2 : (a : Int) * (p : Int) = ((a * p : Nat) : Int) := (Int.natCast_mul a p).symm
  unfold w64
  split
  · split
    · rw [e2]; omega
    · rw [e1]; omega
  · split
    · rw [e2]; omega
    · rw [e1]; omega
theorem i_shl_eq {x : Int} {n : Nat} (hx : -2147483648 ≤ x ∧ x ≤ 2147483647) (hn : n < 32) : i_shl x n = w32 (x * ((2 ^ n : Nat) : Int)) := by
  unfold i_shl
  rw [← Int32.toInt_toBitVec, Int32.toBitVec_shiftLeft, BitVec.shiftLeft_eq', sh_amt n hn, shl_32, I32_bv hx]
theorem l_shl_eq {x : Int} {n : Nat} (hx : -9223372036854775808 ≤ x ∧ x ≤ 9223372036854775807) (hn : n < 64) : l_shl x n = w64 (x * ((2 ^ n : Nat) : Int)) := by
  unfold l_shl
  rw [← Int64.toInt_toBitVec, Int64.toBitVec_shiftLeft, BitVec.shiftLeft_eq', sh_amtL n hn, shl_64, I64_bv hx]
/-- of numbers not below 0 -/
theorem I32_nat {n : Nat} (h : n < 2147483648) : (Int32.ofInt (n : Int)).toBitVec.toNat = n := by
  rw [Int32.toBitVec_ofInt, BitVec.toNat_ofInt]
  show (((n : Int) % 4294967296)).toNat = n
  omega
theorem I64_nat {n : Nat} (h : n < 9223372036854775808) : (Int64.ofInt (n : Int)).toBitVec.toNat = n := by
  rw [Int64.toBitVec_ofInt, BitVec.toNat_ofInt]
  show (((n : Int) % 18446744073709551616)).toNat = n
  omega
theorem bv32_pos {x : BitVec 32} (h : x.toNat < 2147483648) : x.toInt = x.toNat := by
  rw [BitVec.toInt_eq_toNat_cond]
  rw [if_pos (by omega)]
theorem bv64_pos {x : BitVec 64} (h : x.toNat < 9223372036854775808) : x.toInt = x.toNat := by
  rw [BitVec.toInt_eq_toNat_cond]
  rw [if_pos (by omega)]
theorem i_and_nat {a b : Nat} (ha : a < 2147483648) (hb : b < 2147483648) : i_and a b = ((a &&& b : Nat) : Int) := by
  unfold i_and
  have e : (Int32.ofInt (a : Int) &&& Int32.ofInt (b : Int)).toBitVec.toNat = a &&& b := by rw [Int32.toBitVec_and, BitVec.toNat_and, I32_nat ha, I32_nat hb]
  rw [← Int32.toInt_toBitVec, bv32_pos (by rw [e]; exact Nat.lt_of_le_of_lt Nat.and_le_left ha), e]
theorem i_or_nat {a b : Nat} (ha : a < 2147483648) (hb : b < 2147483648) : i_or a b = ((a ||| b : Nat) : Int) := by
  unfold i_or
  have e : (Int32.ofInt (a : Int) ||| Int32.ofInt (b : Int)).toBitVec.toNat = a ||| b := by rw [Int32.toBitVec_or, BitVec.toNat_or, I32_nat ha, I32_nat hb]
  rw [← Int32.toInt_toBitVec, bv32_pos (by rw [e]; exact Nat.or_lt_two_pow (n := 31) ha hb), e]
theorem i_xor_nat {a b : Nat} (ha : a < 2147483648) (hb : b < 2147483648) : i_xor a b = ((a ^^^ b : Nat) : Int) := by
  unfold i_xor
  have e : (Int32.ofInt (a : Int) ^^^ Int32.ofInt (b : Int)).toBitVec.toNat = a ^^^ b := by rw [Int32.toBitVec_xor, BitVec.toNat_xor, I32_nat ha, I32_nat hb]
  rw [← Int32.toInt_toBitVec, bv32_pos (by rw [e]; exact Nat.xor_lt_two_pow (n := 31) ha hb), e]
theorem l_or_nat {a b : Nat} (ha : a < 9223372036854775808) (hb : b < 9223372036854775808) : l_or a b = ((a ||| b : Nat) : Int) := by
  unfold l_or
  have e : (Int64.ofInt (a : Int) ||| Int64.ofInt (b : Int)).toBitVec.toNat = a ||| b := by rw [Int64.toBitVec_or, BitVec.toNat_or, I64_nat ha, I64_nat hb]
  rw [← Int64.toInt_toBitVec, bv64_pos (by rw [e]; exact Nat.or_lt_two_pow (n := 63) ha hb), e]
theorem l_and_nat {a b : Nat} (ha : a < 9223372036854775808) (hb : b < 9223372036854775808) : l_and a b = ((a &&& b : Nat) : Int) := by
  unfold l_and
  have e : (Int64.ofInt (a : Int) &&& Int64.ofInt (b : Int)).toBitVec.toNat = a &&& b := by rw [Int64.toBitVec_and, BitVec.toNat_and, I64_nat ha, I64_nat hb]
  rw [← Int64.toInt_toBitVec, bv64_pos (by rw [e]; exact Nat.lt_of_le_of_lt Nat.and_le_left ha), e]
/-- a sign behind the packed ones -/
theorem l_pk {v c : Int} (hv : 0 ≤ v) (hv2 : v < 36028797018963968) (hc : 0 ≤ c) (hc2 : c < 256) : l_or (l_shl v 8) c = v * 256 + c := by
  have e : l_shl v 8 = ((v.toNat * 256 : Nat) : Int) := by
    have := l_shl_eq (x := v) (n := 8) (by omega) (by decide)
    rw [show ((8 : Nat) : Int) = 8 from rfl] at this
    rw [this, w64_id (by omega)]
    omega
  rw [e, show c = ((c.toNat : Nat) : Int) by omega, l_or_nat (by omega) (by omega)]
  have h1 := Nat.shiftLeft_add_eq_or_of_lt (b := c.toNat) (i := 8) (by omega) v.toNat
  rw [Nat.shiftLeft_eq] at h1
  rw [show v.toNat * 256 = v.toNat * 2 ^ 8 from rfl, ← h1]
  omega
theorem and_255 : ∀ n : Nat, n < 256 → i_and ((n : Int) - 128) 255 = ((n : Int) - 128) % 256 := by decide +kernel
theorem i_and_255 {c : Int} (h : -128 ≤ c ∧ c ≤ 127) : i_and c 255 = c % 256 := by
  have := and_255 (c + 128).toNat (by omega)
  rw [show (((c + 128).toNat : Nat) : Int) - 128 = c by omega] at this
  exact this
theorem i_shr_0 {x : Int} (hx : -2147483648 ≤ x ∧ x ≤ 2147483647) : i_shr x 0 = x := by
  have := i_shr_eq (n := 0) hx (by decide)
  rw [show ((0 : Nat) : Int) = 0 from rfl] at this
  rw [this]
  simp
