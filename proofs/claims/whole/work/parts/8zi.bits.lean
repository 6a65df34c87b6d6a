/-! THE PURE SIDE, 191: staff: bits of subjects: printed by wip/tools/gen8zi.py -/
theorem sub_shl {j : Nat} (hj : j < 12) : i_shl 1 (j : Int) = ((2 ^ j : Nat) : Int) := by
  have z : j = 0 ∨ j = 1 ∨ j = 2 ∨ j = 3 ∨ j = 4 ∨ j = 5 ∨ j = 6 ∨ j = 7 ∨ j = 8 ∨ j = 9 ∨ j = 10 ∨ j = 11 := by omega
  rcases z with rfl | rfl | rfl | rfl | rfl | rfl | rfl | rfl | rfl | rfl | rfl | rfl <;> decide +kernel
theorem sub_pow {j : Nat} (hj : j < 12) : 2 ^ j < 2 ^ 12 := Nat.pow_lt_pow_right (by decide) hj
theorem sub_lt {m j : Nat} (hm : m < 2 ^ 12) (hj : j < 12) : m ||| 2 ^ j < 2 ^ 12 := Nat.or_lt_two_pow hm (sub_pow hj)
theorem sub_or {m j : Nat} (hm : m < 2 ^ 12) (hj : j < 12) : i_or (m : Int) (i_shl 1 (j : Int)) = ((m ||| 2 ^ j : Nat) : Int) := by
  have a := sub_pow hj
  rw [sub_shl hj, i_or_nat (by omega) (by omega)]
theorem sub_bit {m j : Nat} (hm : m < 2 ^ 12) (hj : j < 12) : i_and (i_shr (m : Int) (j : Int)) 1 = if m.testBit j = true then 1 else 0 := bit_t (by omega) (by omega)
theorem sub_tb {m j i : Nat} : (m ||| 2 ^ j).testBit i = true ↔ m.testBit i = true ∨ j = i := tb_or
