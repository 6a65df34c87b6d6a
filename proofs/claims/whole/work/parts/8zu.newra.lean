/-! THE PURE SIDE, 203: the relation holds of the new text: printed by wip/tools/gen8zu.py -/
/-- what neither reading nor opening touches -/
def KEEP (T S o : Int) : Prop := o ≠ 129 ∧ o ≠ 258 ∧ o ≠ 353 ∧ o ≠ 416 ∧ o ≠ 481 ∧ o ≠ 544 ∧ o ≠ 608 ∧ o ≠ 64 ∧ o ≠ 643 ∧ o ≠ 836 ∧ o ≠ 928 ∧ o ≠ 992 ∧ o ≠ 1056 ∧ o ≠ 1120 ∧ o ≠ 1157 ∧ o ≠ 1927 ∧ o ≠ 2016 ∧ o ≠ 2080 ∧ o ≠ 2568 ∧ o ≠ 2656 ∧ o ≠ 2953 ∧ o ≠ 3104 ∧ o ≠ 3168 ∧ o ≠ 3232 ∧ o ≠ 6603 ∧ o ≠ 9505 ∧ o ≠ 9569 ∧ o ≠ 9632 ∧ o ≠ 9696 ∧ o ≠ 9761 ∧ o ≠ 9824 ∧ o ≠ 9888 ∧ o ≠ 9952 ∧ o ≠ 10016 ∧ o ≠ 10080 ∧ o ≠ 10144 ∧ o ≠ 10208 ∧ o ≠ 12384 ∧ o ≠ 12512 ∧ o ≠ 12576 ∧ o ≠ 11808 ∧ o ≠ 11680 ∧ o ≠ 11744 ∧ ¬ (T ≤ o ∧ o ≤ T + 1462) ∧ ¬ (S ≤ o ∧ o ≤ S + 1341)
section SM
variable {T S : Int} {h g gr F G : HV}
theorem new_ra (R : RA h) (eT : h 64 9 = T) (eS : h 6603 10 = S) (G0 : ∀ o, KEEP T S o → G o = h o)
    (a1 : G 64 8 = T ∧ G 64 9 = h 64 8 ∧ G 64 10 = 0 ∧ G 64 12 = 0 ∧ G 64 16 = 0) (a2 : G 643 2 = 0 ∧ ∀ i, i ≠ 2 → G 643 i = h 643 i) (a3 : G 836 4 = G (T + 598) 2)
    (a4 : ∀ p, 0 ≤ p → p < G (T + 598) 2 → (G 928 p = G (T + 726) p ∧ G 992 p = p ∧ G 1056 p = -9) ∧ ∀ c, 0 ≤ c → c < 8 → G 1120 (8 * p + c) = -1)
    (a5 : G 1157 3 = T ∧ ∀ i, i ≠ 3 → G 1157 i = h 1157 i) (a6 : G 1927 0 = T ∧ G 1927 13 = 0 ∧ G 1927 14 = 0 ∧ G 1927 1 = h 1927 1) (a7 : ∀ s, 0 ≤ s → s < 10 → G 2016 s = 0 ∧ G 2656 s = 0) (a8 : ∀ i, 0 ≤ i → i < 240 → G 2080 i = 0)
    (a9 : G 2568 1 = T ∧ G 2568 4 = 0) (a10 : G 2953 1 = T ∧ G 2953 6 = 0) (a11 : ∀ p, 0 ≤ p → p < 24 → G 3104 p = 0 ∧ G 3232 p = -9) (a12 : ∀ i, 0 ≤ i → i < 192 → G 3168 i = 0) (a13 : G 129 1 = 0)
    (b1 : G 6603 1 = 0 ∧ G 6603 9 = S ∧ G 6603 10 = h 6603 9 ∧ G 6603 25 = G (T + 598) 2) (b2 : G 6603 53 = 0 ∧ G 6603 58 = 0 ∧ G 6603 61 = -9 ∧ G 6603 69 = 0 ∧ G 6603 70 = 0 ∧ G 6603 71 = 0 ∧ G 6603 86 = 0) (b3 : G 6603 30 = h 6603 30 ∧ G 6603 55 = h 6603 55 ∧ G 6603 65 = h 6603 65)
    (b4 : ∀ p, 0 ≤ p → p < G (T + 598) 2 → (G 10016 p = G (S + 276) p ∧ G 10080 p = p ∧ G 10144 p = -9 ∧ G 12384 p = 0 ∧ G 12576 p = -9) ∧ ∀ c, 0 ≤ c → c < 8 → G 10208 (8 * p + c) = -9 ∧ G 12512 (8 * p + c) = 0)
    (b5 : ∀ s, 0 ≤ s → s < 10 → G 11680 s = 0 ∧ G 11744 s = 0) (b6 : ∀ i, 0 ≤ i → i < 240 → G 11808 i = 0)
    (C : CNX T S G G) (X : TXR T S G G) (CO : CODE T S G G) (nd : G S 14 = G T 15) : RA G ∧ G 50 = h 50 := by
  obtain ⟨⟨x1, x2, x3, x4, x5, x6, x7, x8, x9, x10, x11, x12, x13, x14, x15, x16, x17, x18, x19, x20, x21, x22, x23, x24⟩, -, V, y2, y3, y4, y5⟩ := R
  have hT : TC T := by
    rw [← eT]
    unfold TC
    unfold SPT at y3
    omega
  have hS : TR S := by
    rw [← eS]
    unfold TR
    unfold SPT at y3
    omega
  have kT := kTC hT
  have kS := kTR hS
  have c1 := C.1 1 (by decide) (by decide)
  have c2 := C.1 2 (by decide) (by decide)
  have c3 := C.1 3 (by decide) (by decide)
  have c4 := C.1 4 (by decide) (by decide)
  have c5 := C.1 5 (by decide) (by decide)
  have m1 : MST 2 = 10 := by decide
  have m5 : MST 5 = 8 := by decide
  have X0 := X
  unfold TXR at X
  obtain ⟨t1, t2, t3, t4, t5, t6, t7⟩ := X
  have e0 : G 0 = h 0 := G0 0 (by unfold KEEP; omega)
  have e643 : ∀ i, i ≠ 2 → G 643 i = h 643 i := a2.2
  have k1222 : G 1222 = h 1222 := G0 1222 (by unfold KEEP; omega)
  have kp : ∀ o, 13056 ≤ o ∨ o = 736 ∨ o = 801 ∨ o = 1312 ∨ o = 1377 → G o = h o := fun o w => G0 o (by unfold KEEP; omega)
  unfold RVl NFA at x22
  have x18' := x18
  unfold RRw RW NFA at x18
  have v0 : G (h 1222 0) = h (h 1222 0) := kp _ (by omega)
  have v1 : G (h 1222 1) = h (h 1222 1) := kp _ (by omega)
  have w0 : G (h 643 0) = h (h 643 0) := kp _ (by omega)
  have w1 : G (h 643 1) = h (h 643 1) := kp _ (by omega)
  have rp : RPp G := ⟨by rw [b1.2.2.2, a3], by rw [a3]; omega, fun p p0 p1 => by
    rw [a3] at p1
    obtain ⟨⟨u1, u2, u3⟩, -⟩ := a4 p p0 p1
    obtain ⟨⟨w1, w2, w3, -⟩, -⟩ := b4 p p0 p1
    obtain ⟨z1, z2, -⟩ := t2 p p0 p1
    rw [u1, u2, u3, w1, w2, w3]
    exact ⟨z1, rfl, rfl, by omega, by omega⟩⟩
  refine ⟨⟨⟨?_, ?_, ?_, ?_, ?_, ?_, rp, ?_, ?_, ?_, ?_, ?_, ?_, ?_, ?_, ?_, ?_, ?_, ?_, ?_, ?_, ?_, ?_, ?_⟩, ⟨?_, ?_, ?_, ?_, ?_, ?_⟩⟩, G0 50 (by unfold KEEP; omega)⟩
  · -- texts
    unfold RTx
    rw [a1.1, b1.2.1]
    exact ⟨hT, hS, fun k k0 k1 => C.1 k k0 k1⟩
  · unfold RTg
    rw [a1.1, b1.2.1]
    exact t3
  · have l : lsT G = G (S + 660) := by
      funext l
      unfold lsT
      rw [b1.2.1]
    unfold RTu
    rw [l, a1.1]
    exact ⟨⟨t6.1, t6.2.1⟩, t6.2.2, fun l l0 l1 => (t5 l l0 l1).2.2.2.1, t7⟩
  · unfold RTl
    rw [a1.1, b1.2.1]
    exact ⟨fun s s0 s1 => (t2 s s0 s1).2.2.1, fun l l0 l1 => ⟨(t5 l l0 l1).1.1, (t5 l l0 l1).1.2, (t5 l l0 l1).2.2.1.1, (t5 l l0 l1).2.2.1.2⟩⟩
  · unfold RTm
    rw [a1.1, b1.2.1]
    exact ⟨t1, fun l l0 l1 => (t5 l l0 l1).2.1⟩
  · unfold RTp
    rw [a13, b1.1]
    exact ⟨rfl, by decide, fun i i0 i1 => by omega⟩
  · unfold RTb at *
    rw [b3.2.2, a6.2.2.2]
    exact ⟨x8.1, x8.2.1, fun s s0 s1 => by rw [(b5 s s0 s1).1, (a7 s s0 s1).1], fun i i0 i1 => by rw [b6 i i0 i1, a8 i i0 i1]⟩
  · exact fun i i0 i1 => by rw [a8 i i0 i1]; decide
  · unfold RTa
    rw [a6.2.1, a6.2.2.1, b2.2.2.2.1, b2.2.2.2.2.1]
    exact ⟨by decide, by decide, rfl, rfl, fun z => absurd z (by decide), fun z => absurd z (by decide)⟩
  · unfold RTt
    rw [a6.1, a1.1, a6.2.1]
    exact ⟨rfl, fun z => absurd z (by decide)⟩
  · unfold RTi
    rw [a6.2.1]
    exact fun z => absurd z (by decide)
  · unfold RCv
    rw [a9.2, b2.2.2.2.2.2.1, a6.2.1]
    exact ⟨by decide, ⟨fun z => absurd rfl z, fun z => absurd z.1 (by decide)⟩, fun z => absurd rfl z⟩
  · exact fun s s0 s1 => by rw [(b5 s s0 s1).2, (a7 s s0 s1).2]
  · unfold RSd
    rw [a1.2.2.2.2, b2.2.2.1]
    exact ⟨by decide, .inr ⟨rfl, rfl⟩, fun k k0 k1 => by omega⟩
  · unfold RCh
    rw [a3, a1.1, a10.2, b2.2.2.2.2.2.2]
    refine ⟨fun p p0 p1 => ?_, fun p p0 p1 => ⟨(a11 p (by omega) p1).1, fun c c0 c1 => a12 _ (by omega) (by omega), (a11 p (by omega) p1).2⟩, fun p i j p0 p1 i0 i1 i2 => ?_, rfl, by decide⟩
    · obtain ⟨⟨-, -, -, q1, q2⟩, q3⟩ := b4 p p0 p1
      obtain ⟨q4, q5⟩ := a11 p p0 (by omega)
      rw [q1, q2, q4, q5]
      exact ⟨rfl, by decide, fun k k0 k1 => by omega, fun c c0 c1 => by rw [(q3 c c0 (by omega)).2, a12 _ (by omega) (by omega)], fun _ => ⟨rfl, fun c c0 c1 => a12 _ (by omega) (by omega)⟩, rfl⟩
    · rw [(a11 p p0 (by omega)).1] at i2
      omega
  · unfold RPc
    rw [a10.1, a1.1, b1.2.1, a3]
    exact ⟨rfl, fun c c0 c1 => ⟨(t4 c c0 c1).2.1, (t4 c c0 c1).2.2, (t4 c c0 c1).1⟩, fun p p0 p1 => .inl (a11 p p0 (by omega)).2⟩
  · unfold RRw RW NFA
    rw [a2.1, e643 0 (by decide), e643 1 (by decide), e643 3 (by decide), w0, w1, e0, b3.1]
    exact ⟨⟨x18.1.1, x18.1.2.1, ⟨by decide, by omega, by omega⟩, ⟨by omega, by omega, by omega⟩, x18.1.2.2.2.2.1, x18.1.2.2.2.2.2.1, fun j j0 j1 => by omega⟩, x18.2.1, fun j j0 j1 => by omega⟩
  · unfold RMk
    rw [a3]
    exact fun p p0 p1 c c0 c1 => .inl ⟨(a4 p p0 p1).2 c c0 c1, ((b4 p p0 p1).2 c c0 c1).1⟩
  · unfold RGv
    rw [a1.2.2.1, b2.2.1]
    exact ⟨fun _ => ⟨rfl, fun z => absurd z (by decide)⟩, fun z => absurd z (by decide)⟩
  · unfold RMi at *
    rw [b1.2.1, a1.1, b3.2.1, a5.2 15 (by decide), a1.2.2.2.1, b2.1, a9.1]
    exact ⟨nd, x21.2.1, rfl, rfl⟩
  · unfold RVl NFA
    rw [k1222, v0, v1, e0, e643 0 (by decide), e643 1 (by decide)]
    exact x22
  · unfold RRm rm at *
    rw [k1222, v0, v1, e0, e643 0 (by decide), e643 1 (by decide), w0, w1]
    exact x23
  · unfold RIt
    rw [a2.1]
    exact fun j j0 j1 => by omega
  · -- the code
    obtain ⟨K, q1, q2, q3, q4, q5, q6, q7⟩ := CO
    refine ⟨K, q1, by rw [mix_h]; exact rp, by unfold cdT; rw [a5.1]; exact ⟨hT, q2⟩, by rw [a5.1]; exact q3, ?_, ?_, ?_, ?_, ?_, ?_⟩
    all_goals rw [b1.2.1]
    · exact hS
    · exact q4
    · exact q5
    · exact q6
    · exact q7
    · rw [a5.1]
      exact ⟨c5.1.symm, by omega, by omega⟩
  · unfold VOK NFA at *
    rw [k1222, v0, v1, e0]
    exact V
  · rw [a5.1, a1.1]
  · unfold SPT at *
    rw [a1.1, a1.2.1, b1.2.1, b1.2.2.1]
    omega
  · rw [a5.2 15 (by decide)]
    exact y4
  · exact fun a w => by rw [G0 a (by unfold KEEP; omega)]; exact y5 a w
end SM
