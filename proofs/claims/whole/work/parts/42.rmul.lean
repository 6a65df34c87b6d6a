/-! THE PURE SIDE, 16: products, quotients, remainders: printed by wip/tools/gen40.py -/
section RL
variable {fz : Int → Int → Option Int} {d : Nat} {h : HV} {Q : Int → HV → Prop} {a b : Int}
theorem lack_lk {c : Nat} (h0 : 0 < c) (hc : c < 9007199254740992) : 53 - ((wd c : Nat) : Int) = ((lak c : Nat) : Int) := by
  have l3 : c.log2 < 53 := (Nat.log2_lt (by omega)).mpr hc
  unfold wd lak
  rw [if_neg (by omega)]
  omega
theorem shl_lk {c : Nat} (h0 : 0 < c) (hc : c < 9007199254740992) : l_shl (c : Int) ((lak c : Nat) : Int) = ((c * 2 ^ lak c : Nat) : Int) := by
  have h1 := lak_rng h0 hc
  have h2 : lak c < 64 := by unfold lak; omega
  rw [l_shl_eq (by omega) h2, ← Int.natCast_mul, w64_id (by omega)]
theorem lkr (c : Nat) : lak c ≤ 52 := by unfold lak; omega
theorem dv_zero (ha : L64 a) (hz : mg a = 0) : dv a = .fin (decide (a < 0)) 0 (-1074) := by
  rw [dv_fin ha (by omega), (dg_0 a).mpr hz]
  have : pl a = -1074 := by
    unfold pl
    rw [ef_mg, hz]
    rfl
  rw [this]
theorem prod_nan {x y : FP.Core.Datum} (h : x = .nan ∨ y = .nan) : FP.Core.round FP.Core.b64 (FP.Core.exactProduct x y) = .nan := by
  rcases h with e | e
  · rw [e]; rfl
  · rw [e]; cases x <;> rfl
theorem quot_nan {x y : FP.Core.Datum} (h : x = .nan ∨ y = .nan) : FP.Core.quotient FP.Core.b64 x y = .nan := by
  rcases h with e | e
  · rw [e]; rfl
  · rw [e]; cases x <;> rfl
theorem rem_nan {x y : FP.Core.Datum} (h : x = .nan ∨ y = .nan) : FP.Core.round FP.Core.b64 (FP.Core.exactRemainder x y) = .nan := by
  rcases h with e | e
  · rw [e]; rfl
  · rw [e]; cases x <;> rfl
/-- the digits of a product, from four halves -/
theorem halves (M N : Nat) : M * N = (M / 134217728 * (N / 134217728) * 1024 + (M / 134217728 * (N % 134217728) + M % 134217728 * (N / 134217728) + M % 134217728 * (N % 134217728) / 134217728) / 131072) * 17592186044416 + ((M / 134217728 * (N % 134217728) + M % 134217728 * (N / 134217728) + M % 134217728 * (N % 134217728) / 134217728) % 131072 * 134217728 + M % 134217728 * (N % 134217728) % 134217728) := by
  have hM := Nat.div_add_mod M 134217728
  have hN := Nat.div_add_mod N 134217728
  generalize M / 134217728 = p at *
  generalize M % 134217728 = q at *
  generalize N / 134217728 = r at *
  generalize N % 134217728 = s at *
  have e : M * N = p * r * 18014398509481984 + (p * s + q * r) * 134217728 + q * s := by
    rw [← hM, ← hN, Nat.add_mul, Nat.mul_add, Nat.mul_add, Nat.add_mul]
    have e1 : 134217728 * p * (134217728 * r) = p * r * 18014398509481984 := by
      rw [show 18014398509481984 = 134217728 * 134217728 from rfl]
      ac_rfl
    have e2 : 134217728 * p * s = p * s * 134217728 := by ac_rfl
    have e3 : q * (134217728 * r) = q * r * 134217728 := by ac_rfl
    rw [e1, e2, e3]
    omega
  rw [e]
  generalize p * r = X
  generalize p * s + q * r = Y
  generalize q * s = Z
  omega
theorem and27 {M : Nat} (h : M < 9223372036854775808) : l_and (M : Int) 134217727 = ((M % 134217728 : Nat) : Int) := and_low (n := 27) h (by decide)
theorem and17 {M : Nat} (h : M < 9223372036854775808) : l_and (M : Int) 131071 = ((M % 131072 : Nat) : Int) := and_low (n := 17) h (by decide)
theorem shr27 {M : Nat} (h : M < 9223372036854775808) : l_shr (M : Int) 27 = ((M / 134217728 : Nat) : Int) := by
  have := l_shr_eq (x := (M : Int)) (n := 27) (by omega) (by decide)
  rw [show ((27 : Nat) : Int) = 27 from rfl] at this
  rw [this]
  rfl
theorem shr17 {M : Nat} (h : M < 9223372036854775808) : l_shr (M : Int) 17 = ((M / 131072 : Nat) : Int) := by
  have := l_shr_eq (x := (M : Int)) (n := 17) (by omega) (by decide)
  rw [show ((17 : Nat) : Int) = 17 from rfl] at this
  rw [this]
  rfl
theorem shl10 {A : Nat} (h : A < 9007199254740992) : l_shl (A : Int) 10 = ((A * 1024 : Nat) : Int) := by
  have := l_shl_eq (x := (A : Int)) (n := 10) (by omega) (by decide)
  rw [show ((10 : Nat) : Int) = 10 from rfl] at this
  rw [this, show (2 : Nat) ^ 10 = 1024 from rfl, ← Int.natCast_mul]
  exact w64_id (by omega)
theorem wmul {x y : Nat} (h : x * y < 9223372036854775808) : w64 ((x : Int) * (y : Int)) = ((x * y : Nat) : Int) := by
  rw [← Int.natCast_mul]
  generalize x * y = z at *
  exact w64_id (by omega)
theorem wadd {x y : Nat} (h : x + y < 9223372036854775808) : w64 ((x : Int) + (y : Int)) = ((x + y : Nat) : Int) := by
  rw [← Int.natCast_add]
  generalize x + y = z at *
  exact w64_id (by omega)
theorem mul_b {x y X Y : Nat} (hx : x < X) (hy : y < Y) : x * y ≤ X * Y := Nat.mul_le_mul (Nat.le_of_lt hx) (Nat.le_of_lt hy)
/-- the halves' products, put together -/
theorem mul_parts {M N : Nat} (hM : M < 9007199254740992) (hN : N < 9007199254740992) : ∃ A D E : Nat,
    M / 134217728 * (N / 134217728) = A ∧ M / 134217728 * (N % 134217728) + M % 134217728 * (N / 134217728) + M % 134217728 * (N % 134217728) / 134217728 = D ∧ M % 134217728 * (N % 134217728) = E ∧
    A < 9007199254740992 ∧ D < 36028797018963968 ∧ E < 36028797018963968 ∧ A * 1024 + D / 131072 < 9223372036854775808 ∧
    M * N / 17592186044416 = A * 1024 + D / 131072 ∧ (M * N % 17592186044416 = 0 ↔ D % 131072 = 0 ∧ E % 134217728 = 0) ∧
    M / 134217728 * (N % 134217728) < 9223372036854775808 ∧ M % 134217728 * (N / 134217728) < 9223372036854775808 ∧ M / 134217728 * (N % 134217728) + M % 134217728 * (N / 134217728) < 9223372036854775808 := by
  have hH := halves M N
  have mh : M / 134217728 < 67108864 := by omega
  have nh : N / 134217728 < 67108864 := by omega
  have ml : M % 134217728 < 134217728 := Nat.mod_lt _ (by decide)
  have nl : N % 134217728 < 134217728 := Nat.mod_lt _ (by decide)
  have b1 := mul_b mh nh
  have b2 := mul_b mh nl
  have b3 := mul_b ml nh
  have b4 := mul_b ml nl
  refine ⟨_, _, _, rfl, rfl, rfl, ?_⟩
  generalize M * N = P at *
  generalize M / 134217728 * (N / 134217728) = A at *
  generalize M / 134217728 * (N % 134217728) = B at *
  generalize M % 134217728 * (N / 134217728) = C at *
  generalize M % 134217728 * (N % 134217728) = E at *
  clear mh nh ml nl hM hN
  generalize hD : B + C + E / 134217728 = D at *
  have d1 : D < 36028797018963968 := by omega
  have d2 : D / 131072 < 274877906944 := by omega
  have d3 : D % 131072 < 131072 := Nat.mod_lt _ (by decide)
  have d4 : E % 134217728 < 134217728 := Nat.mod_lt _ (by decide)
  refine ⟨by omega, d1, by omega, by omega, ?_, ?_, by omega, by omega, by omega⟩
  · generalize D / 131072 = x at *
    generalize D % 131072 = y at *
    generalize E % 134217728 = z at *
    clear hD d1 b1 b2 b3 b4
    omega
  · generalize D / 131072 = x at *
    generalize D % 131072 = y at *
    generalize E % 134217728 = z at *
    clear hD d1 b1 b2 b3 b4
    omega
theorem pl_mul {p q u v : Int} (hp : -1074 ≤ p ∧ p ≤ 972) (hq : -1074 ≤ q ∧ q ≤ 972) (hu : 0 ≤ u ∧ u ≤ 52) (hv : 0 ≤ v ∧ v ≤ 52) : w32 (w32 (w32 (w32 (p - u) + q) - v) + 44) = p - u + q - v + 44 := by
  rw [w32_id (x := p - u) (by omega), w32_id (x := p - u + q) (by omega), w32_id (x := p - u + q - v) (by omega), w32_id (by omega)]
theorem pl_div {p q u v : Int} (hp : -1074 ≤ p ∧ p ≤ 972) (hq : -1074 ≤ q ∧ q ≤ 972) (hu : 0 ≤ u ∧ u ≤ 52) (hv : 0 ≤ v ∧ v ≤ 52) : w32 (w32 (w32 (w32 (p - u) - q) + v) - 60) = p - u - q + v - 60 := by
  rw [w32_id (x := p - u) (by omega), w32_id (x := p - u - q) (by omega), w32_id (x := p - u - q + v) (by omega), w32_id (by omega)]
theorem pl_rem {p q u v : Int} (hp : -1074 ≤ p ∧ p ≤ 972) (hq : -1074 ≤ q ∧ q ≤ 972) (hu : 0 ≤ u ∧ u ≤ 52) (hv : 0 ≤ v ∧ v ≤ 52) : w32 (w32 (w32 (p - u) - q) + v) = p - u - q + v := by
  rw [w32_id (x := p - u) (by omega), w32_id (x := p - u - q) (by omega), w32_id (by omega)]
theorem lak_i (c : Nat) : 0 ≤ ((lak c : Nat) : Int) ∧ ((lak c : Nat) : Int) ≤ 52 := by have := lkr c; omega
theorem dg_pos (hz : ¬ mg a = 0) : 0 < dg a := Nat.pos_of_ne_zero (fun q => hz ((dg_0 a).mp q))
end RL
