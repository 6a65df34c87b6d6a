/-! THE PURE SIDE, 208: the relation at the start; what is to be shown of every script: printed by wip/tools/gen8zz.py -/
theorem neg_M2 : ∀ q ∈ M_2, 0 ≤ q.1 := by decide +kernel
theorem sts_start (L : Nat) (xs : Nat → Int32) : STS (HR (hI0 L xs) M_2 204 509953) := by
  intro a w
  funext i
  rw [HR_v (by omega)]
  have n : lk M_2 a i = none := by
    cases hc : lk M_2 a i with
    | none => rfl
    | some v =>
      have z : 0 ≤ a := neg_M2 _ (lk_some hc)
      omega
  rw [n]
  show hI0 L xs a i = hS0 a i
  have h50 : ¬ a = 50 := by omega
  unfold hS0 hI0
  rw [if_neg h50, if_neg h50]
theorem ra_start (L : Nat) (xs : Nat → Int32) : RA (HR (hI0 L xs) M_2 204 509953) := by
  have H := HN1_ok L xs
  have S := sts_start L xs
  generalize HR (hI0 L xs) M_2 204 509953 = h at *
  have B := rb_start H
  have B0 := B
  obtain ⟨-, -, -, -, -, -, rp, -, -, -, -, -, -, -, -, -, -, -, -, -, -, RVL, -, -⟩ := B
  have a8 := H.at (o := 64) (i := 8) (v := 3466) (by decide) (by decide +kernel)
  have a9 := H.at (o := 64) (i := 9) (v := 4938) (by decide) (by decide +kernel)
  have b9 := H.at (o := 6603) (i := 9) (v := 6732) (by decide) (by decide +kernel)
  have b10 := H.at (o := 6603) (i := 10) (v := 8076) (by decide) (by decide +kernel)
  have m3 := H.at (o := 1157) (i := 3) (v := 3466) (by decide) (by decide +kernel)
  have m15 := H.at (o := 1157) (i := 15) (v := 0) (by decide) (by decide +kernel)
  have t17 := H.at (o := 3466) (i := 17) (v := 0) (by decide) (by decide +kernel)
  have v0 := H.at (o := 1222) (i := 0) (v := 1312) (by decide) (by decide +kernel)
  have v1 := H.at (o := 1222) (i := 1) (v := 1377) (by decide) (by decide +kernel)
  have v2 := H.at (o := 1222) (i := 2) (v := 0) (by decide) (by decide +kernel)
  have w0 := H.at (o := 1312) (i := (-1)) (v := 256) (by decide) (by decide +kernel)
  have w1 := H.at (o := 1377) (i := (-1)) (v := 256) (by decide) (by decide +kernel)
  have c0 : ∀ k, 0 ≤ k → h 4064 k = 0 := fun k k0 => H.arr (o := 4064) (by decide) (by decide) k0
  have r0 : ∀ k, 0 ≤ k → h 6816 k = 0 := fun k k0 => H.arr (o := 6816) (by decide) (by decide) k0
  have k12 : newK 3466 6732 h h (fun _ _ => 0) 12 0 = 0 := by rw [nK_12]; exact c0 6 (by decide)
  refine ⟨B0, ⟨newK 3466 6732 h h (fun _ _ => 0), ⟨by rw [k12]; decide, fun q q0 q1 => by rw [k12] at q1; omega⟩, by rw [mix_h]; exact rp, ⟨by rw [m3]; exact .inl rfl, by rw [m3, t17]; decide, fun i => by unfold cdT; rw [m3]; exact nK_0.symm⟩, ⟨by rw [m3, k12]; exact c0 6 (by decide), fun q q0 q1 => by rw [k12] at q1; omega⟩, ?_, ?_, ?_, ?_, ?_, ?_⟩, ?_, by rw [m3, a8], ⟨.inl ⟨a8, a9⟩, .inl ⟨b9, b10⟩⟩, by rw [m15]; decide, S⟩
  · rw [b9]
    exact .inl rfl
  · rw [b9]
    exact fun r r0 r1 => ⟨nK_1.symm, nK_2.symm, nK_3.symm⟩
  · rw [b9]
    exact fun i i0 i1 => nK_4.symm
  · rw [b9]
    exact fun t t0 t1 => ⟨nK_5.symm, nK_6.symm⟩
  · rw [b9]
    exact ⟨by rw [k12]; exact r0 6 (by decide), fun q q0 q1 => by rw [k12] at q1; omega⟩
  · rw [b9, m3]
    have e1 : h (3466 + 598) 5 = 0 := c0 5 (by decide)
    have e2 : h (6732 + 84) 5 = 0 := r0 5 (by decide)
    rw [e1, e2]
    decide
  · unfold VOK
    rw [v0, v1, w0, w1, v2]
    unfold RVl at RVL
    rw [v0, v1] at RVL
    exact ⟨RVL.1, RVL.2.1, rfl, by decide, by decide⟩
theorem pure_all : PURE := pure_of (RA := RA) (fun L xs _ => ra_start L xs) (fun h R => R.1) ra_uf op_read (fun a b c e f g hc he hf hg => op_run a b c e f g hc he hf hg) op_stand
