/-! THE PURE SIDE, 52: match, the places left are kept: printed by wip/tools/gen71.py -/
theorem sumI_upd {f : Int → Int} {p v : Int} (h0 : 0 ≤ p) : ∀ n : Nat, sumI (fun x => if x = p then v else f x) n = sumI f n + (if p < n then v - f p else 0)
  | 0 => by rw [if_neg (by omega)]; rfl
  | n + 1 => by
    have ih := sumI_upd (f := f) (v := v) h0 n
    rw [sumI, sumI, ih]
    show sumI f n + (if p < (n : Int) then v - f p else 0) + (if (n : Int) = p then v else f n) = sumI f n + f n + (if p < ((n + 1 : Nat) : Int) then v - f p else 0)
    by_cases e : (n : Int) = p
    · rw [if_pos e, if_neg (by omega), if_pos (by omega), e]
      omega
    · rw [if_neg e]
      by_cases q : p < (n : Int)
      · rw [if_pos q, if_pos (by omega)]; omega
      · rw [if_neg q, if_neg (by omega)]; omega
theorem cnt_upd {g : Int → Int} {p c i : Int} {n : Nat} (h0 : 0 ≤ p) (hp : p < n) : sumI (fun x => isE (if x = p then c else g x) i) n = sumI (fun x => isE (g x) i) n + isE c i - isE (g p) i := by
  have e := sumI_upd (f := fun x => isE (g x) i) (v := isE c i) h0 n
  rw [if_pos hp] at e
  rw [← sumI_c (f := fun x => if x = p then isE c i else isE (g x) i) n (fun x _ _ => by
    show (if x = p then isE c i else isE (g x) i) = isE (if x = p then c else g x) i
    split <;> rfl), e]
  omega
/-- one more placed, one place less -/
theorem RLf_a {h K : HV} {p c : Int} (L : RLf h) (h24 : 0 ≤ h 836 4 ∧ h 836 4 ≤ 24) (hp : 0 ≤ p ∧ p < h 836 4) (h1 : h 3232 p = -9) (e64 : K 64 = h 64) (e836 : K 836 = h 836) (eT : K (h 64 8 + 598) = h (h 64 8 + 598)) (eP : K (h 64 8 + 1110) = h (h 64 8 + 1110)) (e1 : ∀ x, K 3232 x = if x = p then c else h 3232 x) (e2 : ∀ x, K 3360 x = if x = c then h 3360 c - 1 else h 3360 x) : RLf K := by
  intro i i0 i1
  rw [e64, eT] at i1
  rw [e64, eP, e836, e2]
  have s : sumI (fun x => isE (K 3232 x) i) (h 836 4).toNat = sumI (fun x => isE (h 3232 x) i) (h 836 4).toNat + isE c i - isE (h 3232 p) i := by
    rw [← cnt_upd (g := h 3232) (c := c) hp.1 (by omega)]
    refine sumI_c _ (fun x _ _ => ?_)
    show isE (K 3232 x) i = isE (if x = p then c else h 3232 x) i
    rw [e1]
  rw [s, h1, show isE (-9) i = 0 by rw [isE, if_neg (by omega)]]
  by_cases q : i = c
  · rw [if_pos q, q, show isE c c = 1 by rw [isE, if_pos rfl], L c (by omega) (by omega)]
    omega
  · rw [if_neg q, show isE c i = 0 by rw [isE, if_neg (fun w => q w.symm)], L i i0 i1]
    omega
/-- one goes, one comes -/
theorem RLf_d {h K : HV} {p w c : Int} (L : RLf h) (h24 : 0 ≤ h 836 4 ∧ h 836 4 ≤ 24) (hp : 0 ≤ p ∧ p < h 836 4) (hw : 0 ≤ w ∧ w < h 836 4) (hpw : p ≠ w) (h1 : h 3232 p = -9) (h2 : h 3232 w = c) (e64 : K 64 = h 64) (e836 : K 836 = h 836) (eT : K (h 64 8 + 598) = h (h 64 8 + 598)) (eP : K (h 64 8 + 1110) = h (h 64 8 + 1110)) (e1 : ∀ x, K 3232 x = if x = p then c else if x = w then -9 else h 3232 x) (e2 : K 3360 = h 3360) : RLf K := by
  intro i i0 i1
  rw [e64, eT] at i1
  rw [e64, eP, e836, e2, L i i0 i1]
  have s1 := cnt_upd (g := fun x => if x = w then -9 else h 3232 x) (c := c) (i := i) (n := (h 836 4).toNat) hp.1 (by omega)
  have s2 := cnt_upd (g := h 3232) (c := -9) (i := i) (n := (h 836 4).toNat) hw.1 (by omega)
  have s3 : sumI (fun x => isE (K 3232 x) i) (h 836 4).toNat = sumI (fun x => isE (if x = p then c else (fun x => if x = w then -9 else h 3232 x) x) i) (h 836 4).toNat := sumI_c _ (fun x _ _ => by
    show isE (K 3232 x) i = isE (if x = p then c else if x = w then -9 else h 3232 x) i
    rw [e1])
  rw [s3, s1]
  change sumI (fun x => isE (if x = w then -9 else h 3232 x) i) (h 836 4).toNat = _ at s2
  show _ = _ - (sumI (fun x => isE (if x = w then -9 else h 3232 x) i) (h 836 4).toNat + isE c i - isE (if p = w then -9 else h 3232 p) i)
  rw [s2, if_neg hpw, h1, h2]
  omega
