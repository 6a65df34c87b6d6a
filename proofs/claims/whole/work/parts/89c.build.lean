/-! THE PURE SIDE, 73: build, bits and the pure search: printed by wip/tools/gen89c.py -/
def gb (y : Int) (p : Nat) : Bool := (Int32.ofInt y).toBitVec.getLsbD p
theorem gb_t {y : Int} {p : Nat} (hp : p < 32) : i_and (i_shr y p) 1 = if gb y p = true then 1 else 0 := by
  unfold i_and i_shr gb
  rw [Int32.ofInt_toInt]
  have e : (Int32.ofInt y >>> (Int32.ofInt (p : Int) &&& 31) &&& Int32.ofInt 1).toInt = ((Int32.ofInt y).toBitVec.sshiftRight p &&& 1#32).toInt := by
    rw [← Int32.toInt_toBitVec, Int32.toBitVec_and, Int32.toBitVec_shiftRight, BitVec.sshiftRight_eq', sh_amt p hp]
    rfl
  rw [e]
  generalize (Int32.ofInt y).toBitVec = b
  rw [BitVec.and_one_eq_setWidth_ofBool_getLsbD, BitVec.getLsbD_sshiftRight]
  have h1 : (!decide (32 ≤ 0)) = true := rfl
  rw [h1, Bool.true_and, if_pos (by omega), Nat.add_zero]
  cases b.getLsbD p
  · decide
  · decide
theorem gb_or (a b : Int) (p : Nat) : gb (i_or a b) p = (gb a p || gb b p) := by
  unfold gb i_or
  rw [Int32.ofInt_toInt, Int32.toBitVec_or, BitVec.getLsbD_or]
theorem gb_xor (a b : Int) (p : Nat) : gb (i_xor a b) p = (gb a p ^^ gb b p) := by
  unfold gb i_xor
  rw [Int32.ofInt_toInt, Int32.toBitVec_xor, BitVec.getLsbD_xor]
theorem gb_shl : ∀ s : Nat, s < 32 → ∀ p : Nat, p < 32 → gb (i_shl 1 (s : Int)) p = decide (s = p) := by decide +kernel
theorem gb_0 (p : Nat) : gb 0 p = false := by
  unfold gb
  have : (Int32.ofInt 0).toBitVec = 0#32 := by decide
  rw [this, BitVec.getLsbD_zero]
/-- which bits are put in: one for each of the first i -/
def MB (b : Int) (M A E : Int → Int) (i : Int) : Prop := ∀ (r : Int) (p : Nat), 0 ≤ r → r < b → p < 32 → (gb (M r) p = true ↔ ∃ u, (0 ≤ u ∧ u < i) ∧ A u = r ∧ E u = p)
theorem MB_0 {b : Int} {M A E : Int → Int} (h : ∀ r, 0 ≤ r → r < b → M r = 0) : MB b M A E 0 := fun r p r0 r1 _ => by
  rw [h r r0 r1, gb_0]
  exact ⟨fun w => absurd w (by decide), fun ⟨u, a, _⟩ => by omega⟩
theorem MB_c {b : Int} {M A E A' E' : Int → Int} {i : Int} (h : MB b M A E i) (eA : ∀ u, 0 ≤ u → u < i → A' u = A u) (eE : ∀ u, 0 ≤ u → u < i → E' u = E u) : MB b M A' E' i := fun r p r0 r1 hp => by
  rw [h r p r0 r1 hp]
  constructor
  · rintro ⟨u, a, b, c⟩; exact ⟨u, a, by rw [eA u a.1 a.2]; exact b, by rw [eE u a.1 a.2]; exact c⟩
  · rintro ⟨u, a, b, c⟩; exact ⟨u, a, by rw [← eA u a.1 a.2]; exact b, by rw [← eE u a.1 a.2]; exact c⟩
theorem MB_tog {y : Int} {s p : Nat} (hs : s < 32) (hp : p < 32) : gb (i_xor y (i_shl 1 (s : Int))) p = (gb y p ^^ decide (s = p)) := by rw [gb_xor, gb_shl s hs p hp]
theorem MB_on {b : Int} {M M' A E : Int → Int} {i : Int} {s : Nat} (h : MB b M A E i) (i0 : 0 ≤ i) (hs : s < 32) (es : E i = s) (hM : ∀ r, M' r = if r = A i then i_xor (M r) (i_shl 1 (s : Int)) else M r) (no : ∀ u, 0 ≤ u → u < i → ¬ (A u = A i ∧ E u = E i)) : MB b M' A E (i + 1) := fun r p r0 r1 hp => by
  rw [hM]
  have H := h r p r0 r1 hp
  by_cases q : r = A i
  · rw [if_pos q, MB_tog hs hp]
    by_cases q2 : s = p
    · have hf : gb (M r) p = false := by
        cases hx : gb (M r) p with
        | false => rfl
        | true =>
          obtain ⟨u, a, b, c⟩ := H.1 hx
          exact absurd ⟨by rw [b, q], by rw [c, es, q2]⟩ (no u a.1 a.2)
      rw [hf, decide_eq_true q2]
      exact ⟨fun _ => ⟨i, ⟨i0, by omega⟩, q.symm, by rw [es, q2]⟩, fun _ => rfl⟩
    · rw [decide_eq_false q2, Bool.xor_false, H]
      constructor
      · rintro ⟨u, a, b, c⟩; exact ⟨u, ⟨a.1, by omega⟩, b, c⟩
      · rintro ⟨u, a, b, c⟩
        by_cases z : u = i
        · rw [z, es] at c; omega
        · exact ⟨u, ⟨a.1, by omega⟩, b, c⟩
  · rw [if_neg q, H]
    constructor
    · rintro ⟨u, a, b, c⟩; exact ⟨u, ⟨a.1, by omega⟩, b, c⟩
    · rintro ⟨u, a, b, c⟩
      by_cases z : u = i
      · rw [z] at b; exact absurd b.symm q
      · exact ⟨u, ⟨a.1, by omega⟩, b, c⟩
theorem MB_off {b : Int} {M M' A E : Int → Int} {i : Int} {s : Nat} (h : MB b M A E (i + 1)) (i0 : 0 ≤ i) (hs : s < 32) (es : E i = s) (hM : ∀ r, M' r = if r = A i then i_xor (M r) (i_shl 1 (s : Int)) else M r) (no : ∀ u, 0 ≤ u → u < i → ¬ (A u = A i ∧ E u = E i)) : MB b M' A E i := fun r p r0 r1 hp => by
  rw [hM]
  have H := h r p r0 r1 hp
  by_cases q : r = A i
  · rw [if_pos q, MB_tog hs hp]
    by_cases q2 : s = p
    · have hf : gb (M r) p = true := H.2 ⟨i, ⟨i0, by omega⟩, q.symm, by rw [es, q2]⟩
      rw [hf, decide_eq_true q2]
      exact ⟨fun w => absurd w (by decide), fun ⟨u, a, b, c⟩ => absurd ⟨by rw [b, q], by rw [c, es, q2]⟩ (no u a.1 a.2)⟩
    · rw [decide_eq_false q2, Bool.xor_false, H]
      constructor
      · rintro ⟨u, a, b, c⟩
        by_cases z : u = i
        · rw [z, es] at c; omega
        · exact ⟨u, ⟨a.1, by omega⟩, b, c⟩
      · rintro ⟨u, a, b, c⟩; exact ⟨u, ⟨a.1, by omega⟩, b, c⟩
  · rw [if_neg q, H]
    constructor
    · rintro ⟨u, a, b, c⟩
      by_cases z : u = i
      · rw [z] at b; exact absurd b.symm q
      · exact ⟨u, ⟨a.1, by omega⟩, b, c⟩
    · rintro ⟨u, a, b, c⟩; exact ⟨u, ⟨a.1, by omega⟩, b, c⟩
/-- the pure search -/
def grU (h : HV) (u : Int) : Int := h (h 64 8 + 982) (lsU h u)
def dyF (h : HV) (q : Int) : Int := w32 (Int.tdiv q (h 1927 1))
def wiU (h : HV) (u v : Int) : Int := h 2080 (lsU h u * 20 + perF h v)
def plB (h : HV) : Int := 5 * h 1927 1 * h (h 64 8 + 598) 1
abbrev cpU (h : HV) (u a v b : Int) : Prop := (perF h a = perF h b → rooF h a ≠ rooF h b ∧ grU h u ≠ grU h v ∧ stU h u ≠ stU h v) ∧ (lsU h u = lsU h v → dyF h (perF h a) ≠ dyF h (perF h b))
abbrev okU (h : HV) (i v : Int) : Prop := h (h 64 8 + 854) (grU h i) ≤ h (h 64 8 + 662) (rooF h v) ∧ i_and (i_shr (h 2016 (stU h i)) (perF h v)) 1 = 0
def fiK (h : HV) (nx : Int → Int) (i v : Int) : Nat → Int
  | 0 => if okU h i v then 1 else 0
  | k + 1 => if fiK h nx i v k = 1 ∧ cpU h k (nx k - 1) i v then 1 else 0
def smU (h : HV) (nx : Int → Int) (i : Nat) : Int := sumI (fun u => wiU h u (nx u - 1)) i
def mnW (h : HV) (l : Int) : Nat → Int
  | 0 => h 2080 (l * 20)
  | k + 1 => min (mnW h l k) (h 2080 (l * 20 + (k + 1)))
/-- the least wishes of the last k units -/
def lsS (h : HV) : Nat → Int
  | 0 => 0
  | k + 1 => lsS h k + mnW h (lsU h (h (h 64 8) 11 - (k + 1))) (5 * h 1927 1 - 1).toNat
def leU (h : HV) (u : Int) : Int := lsS h (h (h 64 8) 11 - u).toNat
def up (f : Int → Int) (i v : Int) : Int → Int := fun x => if x = i then v else f x
def runB (h : HV) (most : Int) : Nat → Int → (Int → Int) → Int → Int → Int → (Int → Int) → Int × Int × Int × Int × (Int → Int)
  | 0, _, _, nd, fd, bw, bt => (-5, nd, fd, bw, bt)
  | f + 1, i, nx, nd, fd, bw, bt =>
    if i < 0 then (if fd = 0 then 2 else 0, nd, fd, bw, bt)
    else if plB h ≤ nx i then runB h most f (i - 1) nx nd fd bw bt
    else if most ≤ nd then (if fd = 0 then 3 else 1, nd, fd, bw, bt)
    else if fiK h nx i (nx i) i.toNat = 0 ∨ fd ≠ 0 ∧ bw ≤ smU h nx i.toNat + wiU h i (nx i) + leU h (i + 1) then runB h most f i (up nx i (nx i + 1)) (nd + 1) fd bw bt
    else if i + 1 < h (h 64 8) 11 then runB h most f (i + 1) (up (up nx i (nx i + 1)) (i + 1) 0) (nd + 1) fd bw bt
    else runB h most f i (up nx i (nx i + 1)) (nd + 1) 1 (smU h nx i.toNat + wiU h i (nx i)) (fun u => up nx i (nx i + 1) u - 1)
theorem up_eq (f : Int → Int) (i v : Int) : up f i v i = v := if_pos rfl
theorem up_ne {f : Int → Int} {i v x : Int} (hx : x ≠ i) : up f i v x = f x := if_neg hx
/-- what goes for a way: places in range, apart -/
def PWU (h : HV) (nx : Int → Int) (i : Int) : Prop := (∀ u, 0 ≤ u → u < i → 1 ≤ nx u ∧ nx u ≤ plB h) ∧ ∀ u v, 0 ≤ u → u < v → v < i → cpU h u (nx u - 1) v (nx v - 1)
theorem fi_b (h : HV) (nx : Int → Int) (i v : Int) (k : Nat) : fiK h nx i v k = 0 ∨ fiK h nx i v k = 1 := by
  cases k with
  | zero => rw [fiK]; split <;> omega
  | succ k => rw [fiK]; split <;> omega
theorem fi_t {h : HV} {nx : Int → Int} {i v : Int} : ∀ k : Nat, fiK h nx i v k = 1 ↔ okU h i v ∧ ∀ u : Int, 0 ≤ u → u < k → cpU h u (nx u - 1) i v
  | 0 => by
    rw [fiK]
    by_cases q : okU h i v
    · rw [if_pos q]; exact ⟨fun _ => ⟨q, fun u a b => by omega⟩, fun _ => rfl⟩
    · rw [if_neg q]; exact ⟨fun w => by omega, fun w => absurd w.1 q⟩
  | k + 1 => by
    have ih := fi_t (h := h) (nx := nx) (i := i) (v := v) k
    rw [fiK]
    by_cases q : fiK h nx i v k = 1 ∧ cpU h k (nx k - 1) i v
    · rw [if_pos q]
      have w := ih.1 q.1
      refine ⟨fun _ => ⟨w.1, fun u a b => ?_⟩, fun _ => rfl⟩
      by_cases z : u = k
      · rw [z]; exact q.2
      · exact w.2 u a (by omega)
    · rw [if_neg q]
      exact ⟨fun w => by omega, fun w => absurd ⟨ih.2 ⟨w.1, fun u a b => w.2 u a (by omega)⟩, w.2 k (by omega) (by omega)⟩ q⟩
theorem PW_s {h : HV} {nx : Int → Int} {i v : Int} (hi : 0 ≤ i) (W : PWU h nx i) (hv : 0 ≤ v ∧ v < plB h) (hf : fiK h nx i v i.toNat = 1) : PWU h (up nx i (v + 1)) (i + 1) := by
  have f := ((fi_t i.toNat).1 hf).2
  refine ⟨fun u u0 u1 => ?_, fun u w u0 u1 w1 => ?_⟩
  · by_cases q : u = i
    · rw [q, up_eq]; omega
    · rw [up_ne q]; exact W.1 u u0 (by omega)
  · rw [up_ne (show u ≠ i by omega)]
    by_cases q : w = i
    · rw [q, up_eq, show v + 1 - 1 = v by omega]
      exact f u u0 (by omega)
    · rw [up_ne q]
      exact W.2 u w u0 u1 (by omega)
theorem PW_c {h : HV} {nx nx' : Int → Int} {i j : Int} (W : PWU h nx i) (hj : j ≤ i) (e : ∀ u, 0 ≤ u → u < j → nx' u = nx u) : PWU h nx' j := ⟨fun u u0 u1 => by rw [e u u0 u1]; exact W.1 u u0 (by omega), fun u v u0 u1 v1 => by rw [e u u0 (by omega), e v (by omega) v1]; exact W.2 u v u0 u1 (by omega)⟩
theorem sm_c {h : HV} {nx nx' : Int → Int} {k : Nat} (e : ∀ u : Int, 0 ≤ u → u < k → nx' u = nx u) : smU h nx' k = smU h nx k := by
  unfold smU
  exact sumI_c _ (fun x x0 x1 => by
    show wiU h x (nx' x - 1) = wiU h x (nx x - 1)
    rw [e x x0 x1])
theorem fi_c {h : HV} {nx nx' : Int → Int} {i v : Int} : ∀ k : Nat, (∀ u : Int, 0 ≤ u → u < k → nx' u = nx u) → fiK h nx' i v k = fiK h nx i v k
  | 0, _ => rfl
  | k + 1, e => by rw [fiK, fiK, fi_c k (fun u a b => e u a (by omega)), e k (by omega) (by omega)]
