/-! THE PURE SIDE, 65: cover, bits and ways: printed by wip/tools/gen84.py -/
theorem and1_01 (y : Int) : i_and y 1 = 0 ∨ i_and y 1 = 1 := by
  unfold i_and
  have e : (Int32.ofInt y &&& Int32.ofInt 1).toInt = ((Int32.ofInt y).toBitVec &&& 1#32).toInt := rfl
  rw [e]
  generalize (Int32.ofInt y).toBitVec = b
  rw [BitVec.and_one_eq_setWidth_ofBool_getLsbD]
  cases b.getLsbD 0
  · left; decide
  · right; decide
theorem bit_t {m s : Nat} (hm : m < 2147483648) (hs : s < 31) : i_and (i_shr m s) 1 = if m.testBit s = true then 1 else 0 := by
  rw [i_shr_eq (by omega) (by omega)]
  have e : ((m : Nat) : Int) / ((2 ^ s : Nat) : Int) = ((m / 2 ^ s : Nat) : Int) := by rw [Int.natCast_ediv]
  rw [e]
  have lt : m / 2 ^ s < 2147483648 := Nat.lt_of_le_of_lt (Nat.div_le_self _ _) hm
  have := i_and_nat (a := m / 2 ^ s) (b := 1) lt (by decide)
  rw [show ((1 : Nat) : Int) = 1 from rfl] at this
  rw [this, Nat.and_one_is_mod, Nat.testBit_eq_decide_div_mod_eq]
  by_cases q : m / 2 ^ s % 2 = 1
  · rw [if_pos (by rw [decide_eq_true_iff]; exact q), q]; rfl
  · rw [if_neg (by rw [decide_eq_true_iff]; exact q)]
    have := Nat.mod_two_eq_zero_or_one (m / 2 ^ s)
    rw [this.resolve_right q]; rfl
theorem pow_lt {s : Nat} (hs : s < 10) : (2 : Nat) ^ s < 1024 := Nat.pow_lt_pow_right (by decide) hs
theorem shl_1 {s : Nat} (hs : s < 10) : i_shl 1 s = ((2 ^ s : Nat) : Int) := by
  rw [i_shl_eq (by decide) (by omega), Int.one_mul]
  have := pow_lt hs
  generalize 2 ^ s = k at *
  unfold w32
  omega
theorem bit_or {m s : Nat} (hm : m < 1024) (hs : s < 10) : i_or m (i_shl 1 s) = ((m ||| 2 ^ s : Nat) : Int) := by
  rw [shl_1 hs]
  have := pow_lt hs
  exact i_or_nat (by omega) (by omega)
theorem bit_xor {m s : Nat} (hm : m < 1024) (hs : s < 10) : i_xor m (i_shl 1 s) = ((m ^^^ 2 ^ s : Nat) : Int) := by
  rw [shl_1 hs]
  have := pow_lt hs
  exact i_xor_nat (by omega) (by omega)
theorem or_lt {m s : Nat} (hm : m < 1024) (hs : s < 10) : m ||| 2 ^ s < 1024 := Nat.or_lt_two_pow (n := 10) hm (pow_lt hs)
theorem xor_lt {m s : Nat} (hm : m < 1024) (hs : s < 10) : m ^^^ 2 ^ s < 1024 := Nat.xor_lt_two_pow (n := 10) hm (pow_lt hs)
/-- the best of some ways, the first of them -/
def vS (ok w : Nat → Int) : Nat → Int
  | 0 => -1
  | k + 1 => if ok k = 1 ∧ vS ok w k < w k then w k else vS ok w k
def aS (ok w : Nat → Int) : Nat → Int
  | 0 => -9
  | k + 1 => if ok k = 1 ∧ vS ok w k < w k then k else aS ok w k
def okF (t : Nat → Int) (m : Nat) (s : Nat) : Int := if m.testBit s = true ∧ t s = 1 then 1 else 0
/-- how many can be covered, r to go, with these of staff -/
def FCv (t : Nat → Nat → Int) : Nat → Nat → Int
  | 0, _ => 0
  | r + 1, m => if vS (okF (t r) m) (fun s => 1 + FCv t r (m ^^^ 2 ^ s)) 10 < FCv t r m then FCv t r m else vS (okF (t r) m) (fun s => 1 + FCv t r (m ^^^ 2 ^ s)) 10
def wC (t : Nat → Nat → Int) (r m : Nat) (s : Nat) : Int := 1 + FCv t r (m ^^^ 2 ^ s)
theorem FCv_s (t : Nat → Nat → Int) (r m : Nat) : FCv t (r + 1) m = if vS (okF (t r) m) (wC t r m) 10 < FCv t r m then FCv t r m else vS (okF (t r) m) (wC t r m) 10 := rfl
def chC (t : Nat → Nat → Int) (r m : Nat) : Int := if vS (okF (t r) m) (wC t r m) 10 < FCv t r m then -9 else aS (okF (t r) m) (wC t r m) 10
/-- who covers what, j units further on -/
def paC (t : Nat → Nat → Int) : Nat → Nat → Nat → Int
  | 0, _, _ => -9
  | r + 1, m, 0 => chC t r m
  | r + 1, m, j + 1 => paC t r (if chC t r m < 0 then m else m ^^^ 2 ^ (chC t r m).toNat) j
theorem vS_spec {ok w : Nat → Int} (hw : ∀ s, 0 ≤ w s) : ∀ k : Nat, (vS ok w k = -1 ∧ aS ok w k = -9 ∧ ∀ s, s < k → ok s ≠ 1) ∨ (0 ≤ aS ok w k ∧ aS ok w k < k ∧ ok (aS ok w k).toNat = 1 ∧ w (aS ok w k).toNat = vS ok w k ∧ 0 ≤ vS ok w k ∧ (∀ s : Nat, (s : Int) < aS ok w k → ok s = 1 → w s < vS ok w k) ∧ ∀ s, s < k → ok s = 1 → w s ≤ vS ok w k)
  | 0 => .inl ⟨rfl, rfl, fun s h => by omega⟩
  | k + 1 => by
    have ih := vS_spec (ok := ok) (w := w) hw k
    rw [vS, aS]
    have hwk := hw k
    by_cases q : ok k = 1 ∧ vS ok w k < w k
    · rw [if_pos q, if_pos q]
      refine .inr ⟨by omega, by omega, by rw [show ((k : Int)).toNat = k by omega]; exact q.1, by rw [show ((k : Int)).toNat = k by omega], hwk, fun s hs h1 => ?_, fun s hs h1 => ?_⟩
      · rcases ih with ⟨_, _, f⟩ | ⟨_, _, _, _, _, _, f⟩
        · exact absurd h1 (f s (by omega))
        · have := f s (by omega) h1
          omega
      · by_cases e : s = k
        · rw [e]; exact Int.le_refl _
        · rcases ih with ⟨_, _, f⟩ | ⟨_, _, _, _, _, _, f⟩
          · exact absurd h1 (f s (by omega))
          · have := f s (by omega) h1
            omega
    · rw [if_neg q, if_neg q]
      rcases ih with ⟨e1, e2, f⟩ | ⟨e1, e2, e3, e4, e5, e6, f⟩
      · refine .inl ⟨e1, e2, fun s hs h1 => ?_⟩
        by_cases e : s = k
        · rw [e] at h1; exact q ⟨h1, by omega⟩
        · exact f s (by omega) h1
      · refine .inr ⟨e1, by omega, e3, e4, e5, e6, fun s hs h1 => ?_⟩
        by_cases e : s = k
        · rw [e] at h1 ⊢
          by_cases z : vS ok w k < w k
          · exact absurd ⟨h1, z⟩ q
          · omega
        · exact f s (by omega) h1
theorem vS_no {ok w : Nat → Int} {k : Nat} : ∀ j : Nat, (∀ s, k ≤ s → s < k + j → ok s ≠ 1) → vS ok w (k + j) = vS ok w k ∧ aS ok w (k + j) = aS ok w k
  | 0, _ => ⟨rfl, rfl⟩
  | j + 1, h => by
    have ih := vS_no (ok := ok) (w := w) j (fun s a b => h s a (by omega))
    have n := h (k + j) (by omega) (by omega)
    rw [show k + (j + 1) = (k + j) + 1 by omega, vS, aS, if_neg (fun z => n z.1), if_neg (fun z => n z.1)]
    exact ih
theorem FCv_b {t : Nat → Nat → Int} : ∀ (r m : Nat), 0 ≤ FCv t r m ∧ FCv t r m ≤ r
  | 0, _ => by rw [FCv]; exact ⟨Int.le_refl _, Int.le_refl _⟩
  | r + 1, m => by
    have ih := FCv_b (t := t) r m
    rw [FCv_s]
    have sp := vS_spec (ok := okF (t r) m) (w := wC t r m) (fun s => by have := (FCv_b (t := t) r (m ^^^ 2 ^ s)).1; unfold wC; omega) 10
    split
    · omega
    · rcases sp with ⟨e, _⟩ | ⟨_, _, _, e4, e5, _⟩
      · omega
      · have := (FCv_b (t := t) r (m ^^^ 2 ^ (aS (okF (t r) m) (wC t r m) 10).toNat)).2
        have e4' : 1 + FCv t r (m ^^^ 2 ^ (aS (okF (t r) m) (wC t r m) 10).toNat) = vS (okF (t r) m) (wC t r m) 10 := e4
        omega
theorem wC_0 {t : Nat → Nat → Int} {r m : Nat} (s : Nat) : 0 ≤ wC t r m s := by
  have := (FCv_b (t := t) r (m ^^^ 2 ^ s)).1
  unfold wC
  omega
theorem chC_b {t : Nat → Nat → Int} {r m : Nat} : chC t r m = -9 ∨ 0 ≤ chC t r m ∧ chC t r m < 10 := by
  unfold chC
  split
  · exact .inl rfl
  · rcases vS_spec (ok := okF (t r) m) (w := wC t r m) wC_0 10 with ⟨e1, e2, _⟩ | ⟨e1, e2, _⟩
    · exact .inl e2
    · exact .inr ⟨e1, by omega⟩
/-- the first of staff that is as good as the best -/
theorem ch_first {t : Nat → Nat → Int} {r m : Nat} : (chC t r m = -9 ∧ FCv t (r + 1) m = FCv t r m ∧ ∀ s, s < 10 → okF (t r) m s = 1 → wC t r m s ≠ FCv t (r + 1) m) ∨ (0 ≤ chC t r m ∧ chC t r m < 10 ∧ okF (t r) m (chC t r m).toNat = 1 ∧ wC t r m (chC t r m).toNat = FCv t (r + 1) m ∧ ∀ s : Nat, (s : Int) < chC t r m → okF (t r) m s = 1 → wC t r m s ≠ FCv t (r + 1) m) := by
  have fb := FCv_b (t := t) r m
  have sp := vS_spec (ok := okF (t r) m) (w := wC t r m) wC_0 10
  unfold chC
  rw [FCv_s]
  by_cases q : vS (okF (t r) m) (wC t r m) 10 < FCv t r m
  · rw [if_pos q, if_pos q]
    refine .inl ⟨rfl, rfl, fun s hs h1 => ?_⟩
    rcases sp with ⟨_, _, f⟩ | ⟨_, _, _, _, _, _, f⟩
    · exact absurd h1 (f s hs)
    · have := f s hs h1
      omega
  · rw [if_neg q, if_neg q]
    rcases sp with ⟨e1, _⟩ | ⟨e1, e2, e3, e4, e5, e6, f⟩
    · omega
    · refine .inr ⟨e1, by omega, e3, e4, fun s hs h1 => ?_⟩
      have := e6 s hs h1
      omega
/-- what the reference keeps on its way through staff -/
def mxR (t : Nat → Nat → Int) (r m : Nat) (k : Nat) : Int := if vS (okF (t r) m) (wC t r m) k < FCv t r m then FCv t r m else vS (okF (t r) m) (wC t r m) k
theorem mxR_0 (t : Nat → Nat → Int) (r m : Nat) : mxR t r m 0 = FCv t r m := by
  have := (FCv_b (t := t) r m).1
  unfold mxR
  rw [vS, if_pos (by omega)]
theorem mxR_10 (t : Nat → Nat → Int) (r m : Nat) : mxR t r m 10 = FCv t (r + 1) m := rfl
theorem mxR_s (t : Nat → Nat → Int) (r m k : Nat) : mxR t r m (k + 1) = if okF (t r) m k = 1 ∧ mxR t r m k < wC t r m k then wC t r m k else mxR t r m k := by
  unfold mxR
  rw [vS]
  generalize vS (okF (t r) m) (wC t r m) k = v
  generalize FCv t r m = f
  generalize wC t r m k = w
  by_cases q : okF (t r) m k = 1
  · by_cases a : v < w <;> by_cases b : v < f <;> by_cases c : w < f <;> simp (implicitDefEqProofs := false) only [q, a, b, c, true_and, if_true, if_false] <;> (try (by_cases d : f < w <;> simp (implicitDefEqProofs := false) only [d, if_true, if_false])) <;> omega
  · simp (implicitDefEqProofs := false) only [q, false_and, if_false]
theorem mxR_b (t : Nat → Nat → Int) (r m k : Nat) (hk : k ≤ 10) : 0 ≤ mxR t r m k ∧ mxR t r m k ≤ r + 1 := by
  have fb := FCv_b (t := t) r m
  unfold mxR
  split
  · omega
  · rcases vS_spec (ok := okF (t r) m) (w := wC t r m) wC_0 k with ⟨e, _⟩ | ⟨_, _, _, e4, e5, _⟩
    · omega
    · have := (FCv_b (t := t) r (m ^^^ 2 ^ (aS (okF (t r) m) (wC t r m) k).toNat)).2
      have e4' : 1 + FCv t r (m ^^^ 2 ^ (aS (okF (t r) m) (wC t r m) k).toNat) = vS (okF (t r) m) (wC t r m) k := e4
      omega
