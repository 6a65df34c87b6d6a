/-! THE PURE SIDE, 87: the relation at the start: printed by wip/tools/gen89q.py -/
theorem st_x {h : HV} (H : HN1 h) : RTx h := by
  have a := (H.at (o := 64) (i := 8) (v := 3466) (by decide) (by decide +kernel))
  have b := (H.at (o := 6603) (i := 9) (v := 6732) (by decide) (by decide +kernel))
  unfold RTx
  rw [a, b]
  refine ⟨.inl rfl, .inl rfl, fun k k0 k1 => ?_⟩
  show h 6816 k = h 4064 k ∧ 0 ≤ h 4064 k ∧ h 4064 k ≤ MST k
  rw [H.arr (o := 6816) (by decide) (by decide) k0, H.arr (o := 4064) (by decide) (by decide) k0]
  refine ⟨rfl, Int.le_refl _, ?_⟩
  unfold MST
  split
  · decide
  · split
    · decide
    · split
      · decide
      · split
        · decide
        · split
          · decide
          · split <;> decide
theorem nf_736 : ∀ i, fz1 736 i = none := fun i => fz1_none fun v hv => (show ∀ q ∈ fzL, q.1 ≠ 736 by decide +kernel) _ hv rfl
theorem nf_801 : ∀ i, fz1 801 i = none := fun i => fz1_none fun v hv => (show ∀ q ∈ fzL, q.1 ≠ 801 by decide +kernel) _ hv rfl
theorem nf_1312 : ∀ i, fz1 1312 i = none := fun i => fz1_none fun v hv => (show ∀ q ∈ fzL, q.1 ≠ 1312 by decide +kernel) _ hv rfl
theorem nf_1377 : ∀ i, fz1 1377 i = none := fun i => fz1_none fun v hv => (show ∀ q ∈ fzL, q.1 ≠ 1377 by decide +kernel) _ hv rfl
theorem p3232 : ∀ n : Nat, n < 24 → (lk M_2 3232 (n : Int)).getD 0 = -9 := by decide +kernel
theorem rb_start {h : HV} (H : HN1 h) : RB h := by
  have h00 := H.2.1
  have h01 := H.2.2
  have a8 := (H.at (o := 64) (i := 8) (v := 3466) (by decide) (by decide +kernel))
  have b9 := (H.at (o := 6603) (i := 9) (v := 6732) (by decide) (by decide +kernel))
  have c0 : ∀ k, 0 ≤ k → h 4064 k = 0 := fun k k0 => H.arr (o := 4064) (by decide) (by decide) k0
  have n836 := (H.at (o := 836) (i := 4) (v := 0) (by decide) (by decide +kernel))
  have u11 := (H.at (o := 3466) (i := 11) (v := 0) (by decide) (by decide +kernel))
  have s0 := (H.at (o := 643) (i := 0) (v := 736) (by decide) (by decide +kernel))
  have s1 := (H.at (o := 643) (i := 1) (v := 801) (by decide) (by decide +kernel))
  have s2 := (H.at (o := 643) (i := 2) (v := 0) (by decide) (by decide +kernel))
  have s3 := (H.at (o := 643) (i := 3) (v := 0) (by decide) (by decide +kernel))
  have l0 := (H.at (o := 736) (i := (-1)) (v := 64) (by decide) (by decide +kernel))
  have l1 := (H.at (o := 801) (i := (-1)) (v := 256) (by decide) (by decide +kernel))
  have z0 : h 736 0 = 0 := H.arr (o := 736) (by decide) (by decide) (by decide)
  have v0 := (H.at (o := 1222) (i := 0) (v := 1312) (by decide) (by decide +kernel))
  have v1 := (H.at (o := 1222) (i := 1) (v := 1377) (by decide) (by decide +kernel))
  have w0 := (H.at (o := 1312) (i := (-1)) (v := 256) (by decide) (by decide +kernel))
  have w1 := (H.at (o := 1377) (i := (-1)) (v := 256) (by decide) (by decide +kernel))
  have d1 := (H.at (o := 1927) (i := 1) (v := 4) (by decide) (by decide +kernel))
  have d65 := (H.at (o := 6603) (i := 65) (v := 4) (by decide) (by decide +kernel))
  have d13 := (H.at (o := 1927) (i := 13) (v := 0) (by decide) (by decide +kernel))
  have d14 := (H.at (o := 1927) (i := 14) (v := 0) (by decide) (by decide +kernel))
  have X := st_x H
  refine ⟨X, ?_, ?_, ?_, ?_, ?_, ?_, ?_, ?_, ?_, ?_, ?_, ?_, ?_, ?_, ?_, ?_, ?_, ?_, ?_, ?_, ?_, ?_, ?_⟩
  · intro g g0 g1
    rw [a8] at g1
    have := c0 3 (by decide)
    change g < h 4064 3 at g1
    omega
  · unfold RTu
    rw [a8]
    have e4 : h (3466 + 598) 4 = 0 := c0 4 (by decide)
    rw [u11, e4]
    exact ⟨by decide, rfl, fun l a b => by omega, fun l k a b => by omega⟩
  · unfold RTl
    rw [a8]
    have e2 : h (3466 + 598) 2 = 0 := c0 2 (by decide)
    have e4 : h (3466 + 598) 4 = 0 := c0 4 (by decide)
    rw [e2, e4]
    exact ⟨fun s a b => by omega, fun s a b => by omega⟩
  · unfold RTm
    rw [a8]
    have e2 : h (3466 + 598) 1 = 0 := c0 1 (by decide)
    have e4 : h (3466 + 598) 4 = 0 := c0 4 (by decide)
    rw [e2, e4]
    exact ⟨fun s a b => by omega, fun s a b => by omega⟩
  · unfold RTp
    rw [(H.at (o := 129) (i := 1) (v := 0) (by decide) (by decide +kernel)), (H.at (o := 6603) (i := 1) (v := 0) (by decide) (by decide +kernel))]
    exact ⟨rfl, by decide, fun i a b => by omega⟩
  · unfold RPp
    rw [n836, (H.at (o := 6603) (i := 25) (v := 0) (by decide) (by decide +kernel))]
    exact ⟨rfl, by decide, fun p a b => by omega⟩
  · unfold RTb
    rw [d1, d65]
    exact ⟨rfl, by decide, fun s a b => by rw [H.arr (o := 11680) (by decide) (by decide) a, H.arr (o := 2016) (by decide) (by decide) a], fun s a b => by rw [H.arr (o := 11808) (by decide) (by decide) a, H.arr (o := 2080) (by decide) (by decide) a]⟩
  · exact fun i a b => by rw [H.arr (o := 2080) (by decide) (by decide) a]; decide
  · unfold RTa
    rw [d13, d14, (H.at (o := 6603) (i := 69) (v := 0) (by decide) (by decide +kernel)), (H.at (o := 6603) (i := 70) (v := 0) (by decide) (by decide +kernel))]
    exact ⟨by decide, by decide, rfl, rfl, fun w => by omega, fun w => by omega⟩
  · exact ⟨by rw [a8]; exact (H.at (o := 1927) (i := 0) (v := 3466) (by decide) (by decide +kernel)), fun w => by rw [d13] at w; omega⟩
  · exact fun w => by rw [d13] at w; omega
  · unfold RCv
    rw [(H.at (o := 2568) (i := 4) (v := 0) (by decide) (by decide +kernel)), (H.at (o := 6603) (i := 71) (v := 0) (by decide) (by decide +kernel)), d13]
    exact ⟨by decide, ⟨fun w => absurd rfl w, fun w => by omega⟩, fun w => absurd rfl w⟩
  · exact fun s a b => by rw [H.arr (o := 11744) (by decide) (by decide) a, H.arr (o := 2656) (by decide) (by decide) a]
  · unfold RSd
    rw [(H.at (o := 64) (i := 16) (v := 0) (by decide) (by decide +kernel))]
    exact ⟨by decide, .inr ⟨(H.at (o := 6603) (i := 61) (v := -9) (by decide) (by decide +kernel)), rfl⟩, fun k a b => by omega⟩
  · unfold RCh
    rw [n836, (H.at (o := 6603) (i := 86) (v := 0) (by decide) (by decide +kernel)), (H.at (o := 2953) (i := 6) (v := 0) (by decide) (by decide +kernel))]
    refine ⟨fun p a b => by omega, fun p a b => ⟨H.arr (o := 3104) (by decide) (by decide) a, fun c c0 c1 => H.arr (o := 3168) (by decide) (by decide) (by omega), ?_⟩, fun p i j a b => by omega, rfl, by decide⟩
    have := p3232 p.toNat (by omega)
    rw [show ((p.toNat : Nat) : Int) = p by omega] at this
    exact H.at (by decide) this
  · unfold RPc
    rw [n836, a8]
    have e5 : h (3466 + 598) 5 = 0 := c0 5 (by decide)
    rw [e5]
    exact ⟨(H.at (o := 2953) (i := 1) (v := 3466) (by decide) (by decide +kernel)), fun c a b => by omega, fun p a b => by omega⟩
  · unfold RRw RW NFA
    rw [s0, s1, s2, s3, h00, l0, l1, z0]
    exact ⟨⟨⟨nf_736, by decide, .inl rfl, by decide, by decide⟩, ⟨nf_801, by decide, .inl rfl, by decide, by decide⟩, by decide, by decide, ⟨by decide, by decide, .inl rfl⟩, rfl, fun j a b => by omega⟩, (H.at (o := 6603) (i := 30) (v := 0) (by decide) (by decide +kernel)), fun j a b => by omega⟩
  · exact fun p a b => by rw [n836] at b; omega
  · unfold RGv
    rw [(H.at (o := 64) (i := 10) (v := 0) (by decide) (by decide +kernel))]
    exact ⟨fun _ => ⟨(H.at (o := 6603) (i := 58) (v := 0) (by decide) (by decide +kernel)), fun w => by omega⟩, fun w => by omega⟩
  · unfold RMi
    rw [a8, b9]
    exact ⟨((H.at (o := 6732) (i := 14) (v := 0) (by decide) (by decide +kernel))).trans (H.at (o := 3466) (i := 15) (v := 0) (by decide) (by decide +kernel)).symm, (H.at (o := 6603) (i := 55) (v := 0) (by decide) (by decide +kernel)).trans (H.at (o := 1157) (i := 15) (v := 0) (by decide) (by decide +kernel)).symm, (H.at (o := 64) (i := 12) (v := 0) (by decide) (by decide +kernel)).trans (H.at (o := 6603) (i := 53) (v := 0) (by decide) (by decide +kernel)).symm, (H.at (o := 2568) (i := 1) (v := 3466) (by decide) (by decide +kernel))⟩
  · unfold RVl NFA
    rw [v0, v1, w0, w1, h00, s0, s1]
    exact ⟨⟨nf_1312, by decide, .inl rfl, by decide, by decide⟩, ⟨nf_1377, by decide, .inl rfl, by decide, by decide⟩, by decide, by decide, by decide, by decide⟩
  · unfold RRm rm
    rw [v0, v1, w0, w1, h00, h01, s0, s1, l0, l1]
    decide
  · exact fun j a b => by rw [s2] at b; omega
