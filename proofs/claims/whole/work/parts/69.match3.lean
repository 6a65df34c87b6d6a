/-! THE PURE SIDE, 50: match, heaps and the pure offers: printed by wip/tools/gen69.py -/
theorem hd_sum {pl : Int → Int} {c : Int} : ∀ n : Nat, ((hd n (fun p => pl p) c : Nat) : Int) = sumI (fun p => isE (pl p) c) n
  | 0 => rfl
  | n + 1 => by
    have ih := hd_sum (pl := pl) (c := c) n
    unfold hd at ih ⊢
    rw [cnt, sumI, ← ih]
    show (((cnt (fun p : Nat => pl p = c) n + if pl n = c then 1 else 0 : Nat)) : Int) = (cnt (fun p : Nat => pl p = c) n : Int) + isE (pl n) c
    unfold isE
    split
    · omega
    · omega
/-- a heap as the pure machine's state -/
def abP (h : HV) (p : Nat) : Int := h 3232 p
def abA (h : HV) (p : Nat) : Nat := (h 3296 p).toNat
def rcA (h : HV) (p : Nat) : Nat := (h 3104 p).toNat
def rkA (h : HV) (p k : Nat) : Int := h 3040 ((p : Int) * 8 + k)
def cpA (h : HV) (c : Int) : Nat := (h (h 64 8 + 1110) c).toNat
def btA (h : HV) (c : Int) (q p : Nat) : Prop := bfF (fun x => h 3168 (x * 8 + c)) q p ≠ 0
/-- the places left are those that nobody has -/
def RLf (h : HV) : Prop := ∀ c, 0 ≤ c → c < h (h 64 8 + 598) 5 → h 3360 c = h (h 64 8 + 1110) c - sumI (fun p => isE (h 3232 p) c) (h 836 4).toNat
theorem bt_tr {h : HV} (c : Int) (p q r : Nat) (h1 : btA h c p q) (h2 : btA h c q r) : btA h c p r := by
  unfold btA at h1 h2 ⊢
  rw [bf_iff] at h1 h2 ⊢
  omega
theorem bt_as {h : HV} (c : Int) (p q : Nat) (h1 : btA h c p q) : ¬ btA h c q p := by
  unfold btA at h1 ⊢
  rw [bf_iff] at h1 ⊢
  omega
