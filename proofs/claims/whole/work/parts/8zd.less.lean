/-! THE PURE SIDE, 186: lessons on both sides: one more: printed by wip/tools/gen8zd.py -/
section SM
variable {bX : Int} {tp : Int → Int} {t T S s s1 s2 f : Int} {h hr g gr k kr m mr : HV} {Q : Int → HV → Prop} {d : Nat}
theorem TXR.a4 {n : Int} (X : TXR T S h hr) (hn : n = h (T + 598) 4) (n0 : 0 ≤ n ∧ n < 12) (e0 : ∀ k, 1 ≤ k → k ≤ 5 → k ≠ 4 → g (T + 598) k = h (T + 598) k) (e1 : g (T + 598) 4 = n + 1)
    (ea : ∀ i, i ≠ n → (g (T + 918) i = h (T + 918) i ∧ g (T + 982) i = h (T + 982) i ∧ g (T + 1046) i = h (T + 1046) i) ∧ gr (S + 468) i = hr (S + 468) i ∧ gr (S + 532) i = hr (S + 532) i ∧ gr (S + 596) i = hr (S + 596) i ∧ gr (S + 660) i = hr (S + 660) i)
    (v1 : gr (S + 468) n = g (T + 918) n ∧ 0 ≤ g (T + 918) n ∧ g (T + 918) n < 12) (v2 : gr (S + 532) n = g (T + 982) n ∧ 0 ≤ g (T + 982) n ∧ g (T + 982) n < h (T + 598) 3) (v3 : gr (S + 596) n = g (T + 1046) n ∧ 0 ≤ g (T + 1046) n ∧ g (T + 1046) n < h (T + 598) 2) (v4 : 0 ≤ gr (S + 660) n ∧ gr (S + 660) n ≤ 3)
    (w11 : g T 11 = h T 11 + gr (S + 660) n) (w1 : ∀ i, i < h T 11 → g (T + 1174) i = h (T + 1174) i) (w2 : ∀ i, h T 11 ≤ i → i < h T 11 + gr (S + 660) n → g (T + 1174) i = n)
    (e2 : g (T + 662) = h (T + 662) ∧ g (T + 726) = h (T + 726) ∧ g (T + 790) = h (T + 790) ∧ g (T + 854) = h (T + 854) ∧ g (T + 1110) = h (T + 1110)) (e3 : gr (S + 212) = hr (S + 212) ∧ gr (S + 276) = hr (S + 276) ∧ gr (S + 340) = hr (S + 340) ∧ gr (S + 404) = hr (S + 404) ∧ gr (S + 724) = hr (S + 724)) : TXR T S g gr := by
  unfold TXR at *
  obtain ⟨t1, t2, t3, t4, t5, t6, t7⟩ := X
  have sn : sumI (gr (S + 660)) n.toNat = sumI (hr (S + 660)) n.toNat := sumI_eq n.toNat (fun i i0 i1 => (ea i (by omega)).2.2.2.2)
  have q3 : ∀ i : Int, 0 ≤ i → i < n.toNat → 0 ≤ hr (S + 660) i ∧ hr (S + 660) i ≤ 3 := fun i i0 i1 => (t5 i i0 (by omega)).2.2.2
  have b3 := sumI_3 n.toNat q3
  have en : (n + 1).toNat = n.toNat + 1 := by omega
  have e4 : h (T + 598) 4 = n := hn.symm
  rw [e4] at t5 t6 t7
  rw [e0 1 (by decide) (by decide) (by decide), e0 2 (by decide) (by decide) (by decide), e0 3 (by decide) (by decide) (by decide), e0 5 (by decide) (by decide) (by decide), e1, e2.1, e2.2.1, e2.2.2.1, e2.2.2.2.1, e2.2.2.2.2, e3.1, e3.2.1, e3.2.2.1, e3.2.2.2.1, e3.2.2.2.2]
  have cn : ((n.toNat : Nat) : Int) = n := by omega
  refine ⟨t1, t2, t3, t4, fun l l0 l1 => ?_, ?_, fun l k l0 l1 k0 k1 => ?_⟩
  · by_cases c : l = n
    · rw [c]
      exact ⟨v1, v2, v3, v4⟩
    · obtain ⟨⟨a1, a2, a3⟩, a4, a5, a6, a7⟩ := ea l c
      rw [a1, a2, a3, a4, a5, a6, a7]
      exact t5 l l0 (by omega)
  · rw [en, sumI, sn, cn, w11]
    omega
  · by_cases c : l = n
    · rw [c] at k1 ⊢
      rw [sn, ← t6.2.2]
      exact w2 _ (by omega) (by omega)
    · have a7 := (ea l c).2.2.2.2
      have sl : sumI (gr (S + 660)) l.toNat = sumI (hr (S + 660)) l.toNat := sumI_eq l.toNat (fun i i0 i1 => (ea i (by omega)).2.2.2.2)
      have st := sumI_stp (f := hr (S + 660)) (n := n.toNat) q3 l0 (by omega)
      rw [a7] at k1
      rw [sl, w1 _ (by omega)]
      exact t7 l k l0 (by omega) k0 k1
/-- the reference's lesson behind a fault: its end -/
theorem l5 {y : Int} {n2 : AV} {e2 : Nat} (B : BXR S f kr) (hy : 0 ≤ y ∧ y < 12) : ∃ gr, BXR S f gr ∧ FIR S kr gr ∧ ∀ Q, G fz1 (e2 + 10) 337 5 [(3, 6603), (0, y), n2] [] kr Q = Q 0 gr := by
  have hS := B.1.1
  have kS := kTR hS
  have h9 := B.1.2
  have B1 : BXR S f (hset kr (S + 660) y 1) := B.st (by omega)
  obtain ⟨r1, hr1⟩ : ∃ a, a = kr := ⟨_, rfl⟩
  have n1 : ∀ Q, Sp fz1 (e2 + 9) 335 [(3, 6603), (0, 1), (0, 3)] kr Q = Q 1 r1 := fun Q => by rw [hr1]; exact B.no (d := e2 + 8)
  rw [← hr1] at B1
  obtain ⟨r3, hr3⟩ : ∃ a, a = hset r1 (S + 660) y 1 := ⟨_, rfl⟩
  have sg : ∀ Q, Sp fz1 (e2 + 9) 333 [(3, 6603), (0, 59)] (hset r1 (S + 660) y 1) Q = Q 0 r3 := fun Q => by rw [hr3]; exact B1.sg (d := e2 + 8)
  refine ⟨r3, by rw [hr3]; exact B1, by rw [hr3, hr1]; exact FIR.st (by omega) hS, fun Q => ?_⟩
  rw [q337_5]
  simp (implicitDefEqProofs := false) (disch := omega) only [b337_5, q337_5, x_aload0, y_call333, y_call335, x_gc_12363, x_gf_11339, x_iastore, x_iconst, x_iload1, x_return, klp_0, klp_1, klp_2, klp_3, klp_9, KC_0, KC_1, KC_2, KC_3, KC_4, ne_eq, not_false_eq_true, not_true_eq_false, true_and, and_true, and_self, implies_true, eq_self, true_imp_iff, false_implies, Int.reduceEq, Int.reduceNe, Int.reduceMod, Int.reduceMul, Int.reduceAdd, Int.reduceSub, Int.reduceLT, Int.reduceLE, Nat.reduceAdd, Nat.reduceLeDiff, Nat.reduceLT, Nat.reduceSub, reduceIte, wds_n, wds_0, wds_1, wds_2, wds_3, or_true, true_or, or_false, false_or, or_self, false_and, and_false, d_pos, d_s1, d_s2, d_s3, d_s4, d_s5, d_s6, d_s7, d_s8, Classical.not_not, r4 hS, r4l hS, r4k hS, r6 hS, r6l hS, r6k hS, r7 hS, r7l hS, r7k hS, r8 hS, r8l hS, r8k hS, r9 hS, r9l hS, r9k hS, TR_0 hS, TR_k hS, h9, n1, sg, d_s9, d_s10, d_s11, d_s12, d_s13, d_s14, d_s15, d_s16, d_s17, d_s18, d_s19, d_s20, d_s21, d_s22, d_s23, d_s24, d_s25, d_s26, d_s27, d_s28, d_s29, d_s30, hs_ne, hcell, hcel1, le_sub1, le_T, le_F, lt_T, lt_F, eq_F, w32_T, bz0, bz1, lc_le, lc_ge, lc_lt, lc_gt, lc_eq]
end SM
