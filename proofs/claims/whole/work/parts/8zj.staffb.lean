/-! THE PURE SIDE, 192: staff: one more; kinds; behind a fault: printed by wip/tools/gen8zj.py -/
section SM
variable {bX : Int} {tp : Int → Int} {t T S s s1 s2 f fu : Int} {h hr g gr k kr m mr : HV} {Q : Int → HV → Prop} {d : Nat}
theorem SAR.hs {o i v v1 : Int} {r : HV} (ho : ¬ 6603 = o) (A : SAR (hset kr o i v1) r) (B : SAR (hset r o i v) gr) : SAR (hset kr o i v) gr := by
  refine ⟨fun a x => ?_, fun j j2 j3 j4 j5 j6 => ?_⟩
  · rw [B.1 a x]
    by_cases c : a = o
    · rw [c]
      funext j
      by_cases u : j = i
      · rw [u, hcel1, hcel1]
      · rw [hcell u, hcell u, A.1 o (fun z => ho z.symm), hcell u]
    · rw [hs_ne c, hs_ne c, A.1 a x, hs_ne c]
  · rw [B.2 j j2 j3 j4 j5 j6, hs_ne ho, hs_ne ho, A.2 j j2 j3 j4 j5 j6, hs_ne ho]
theorem SAR.tr {r : HV} (A : SAR kr r) (B : SAR r gr) : SAR kr gr := ⟨fun a x => (B.1 a x).trans (A.1 a x), fun j j2 j3 j4 j5 j6 => (B.2 j j2 j3 j4 j5 j6).trans (A.2 j j2 j3 j4 j5 j6)⟩
theorem TXR.a2 {n : Int} (X : TXR T S h hr) (hn : n = h (T + 598) 2) (e0 : ∀ k, 1 ≤ k → k ≤ 5 → k ≠ 2 → g (T + 598) k = h (T + 598) k) (e1 : g (T + 598) 2 = n + 1)
    (ea : ∀ i, i ≠ n → (g (T + 726) i = h (T + 726) i ∧ g (T + 790) i = h (T + 790) i) ∧ gr (S + 276) i = hr (S + 276) i ∧ gr (S + 340) i = hr (S + 340) i)
    (v1 : gr (S + 276) n = g (T + 726) n ∧ 2 ≤ g (T + 726) n ∧ g (T + 726) n ≤ 4) (v2 : gr (S + 340) n = g (T + 790) n ∧ 0 ≤ g (T + 790) n ∧ g (T + 790) n < 4096) (ec : g T 11 = h T 11)
    (e2 : ∀ o, T + 662 ≤ o → o ≤ T + 1174 → o ≠ T + 726 → o ≠ T + 790 → g o = h o) (e3 : ∀ o, S + 212 ≤ o → o ≤ S + 724 → o ≠ S + 276 → o ≠ S + 340 → gr o = hr o) : TXR T S g gr := by
  unfold TXR at *
  obtain ⟨t1, t2, t3, t4, t5, t6, t7⟩ := X
  rw [← hn] at t2 t5
  rw [e0 1 (by decide) (by decide) (by decide), e0 3 (by decide) (by decide) (by decide), e0 4 (by decide) (by decide) (by decide), e0 5 (by decide) (by decide) (by decide), e1, ec, e2 (T + 662) (by omega) (by omega) (by omega) (by omega), e2 (T + 854) (by omega) (by omega) (by omega) (by omega), e2 (T + 918) (by omega) (by omega) (by omega) (by omega), e2 (T + 982) (by omega) (by omega) (by omega) (by omega), e2 (T + 1046) (by omega) (by omega) (by omega) (by omega), e2 (T + 1110) (by omega) (by omega) (by omega) (by omega), e2 (T + 1174) (by omega) (by omega) (by omega) (by omega), e3 (S + 212) (by omega) (by omega) (by omega) (by omega), e3 (S + 404) (by omega) (by omega) (by omega) (by omega), e3 (S + 468) (by omega) (by omega) (by omega) (by omega), e3 (S + 532) (by omega) (by omega) (by omega) (by omega), e3 (S + 596) (by omega) (by omega) (by omega) (by omega), e3 (S + 660) (by omega) (by omega) (by omega) (by omega), e3 (S + 724) (by omega) (by omega) (by omega) (by omega)]
  refine ⟨t1, fun i i0 i1 => ?_, t3, t4, fun l l0 l1 => ⟨(t5 l l0 l1).1, (t5 l l0 l1).2.1, ⟨(t5 l l0 l1).2.2.1.1, (t5 l l0 l1).2.2.1.2.1, by have := (t5 l l0 l1).2.2.1.2.2; omega⟩, (t5 l l0 l1).2.2.2⟩, t6, t7⟩
  by_cases c : i = n
  · rw [c]
    exact ⟨v1.1, v1.2, v2⟩
  · obtain ⟨⟨a1, a2⟩, a3, a4⟩ := ea i c
    rw [a1, a2, a3, a4]
    exact t2 i i0 (by omega)
/-- the class's staff behind a fault -/
theorem c63_3 {x k m n : Int} {e : Nat} (B : BXC T f h) : G fz1 (e + 11) 63 3 [(3, 258), (0, x), (0, k), (0, m), (0, n)] [] h Q = Q 0 h := by
  have hT := B.1.1
  have hp := B.1.2
  have b2 := B.2.1.2.2
  have is : ∀ (d : Nat) Q, Sp fz1 d 59 [(3, 129), (0, 44)] h Q = Q 0 h := fun d Q => c59b b2
  have sg : ∀ Q, Sp fz1 (e + 10) 58 [(3, 258), (0, 59)] h Q = Q 0 h := fun Q => B.sg (d := e + 9)
  have st : ∀ Q, Sp fz1 (e + 10) 41 [(3, 258)] h Q = Q 0 h := fun Q => B.c41 (d := e + 9)
  rw [q63_3]
  by_cases w : n < 12
  · simp (implicitDefEqProofs := false) (disch := omega) only [b63_3, b63_4, b63_5, q63_4, q63_5, x_aload0, y_call28, y_call41, y_call58, y_call59, y_call64, x_gc_10267, x_gc_10275, x_gc_2051, x_gf_2059, x_goto_3, x_goto_5, x_iadd, x_iastore, x_iconst, x_ifCond_eq_4, x_ifCond_eq_5, x_if_icmp_ge_4, x_iinc4, x_iload1, x_iload2, x_iload3, x_iload4, x_istore3, x_return, klp_0, klp_1, klp_2, klp_3, klp_9, KC_0, KC_1, KC_2, KC_3, KC_4, ne_eq, not_false_eq_true, not_true_eq_false, true_and, and_true, and_self, implies_true, eq_self, true_imp_iff, false_implies, Int.reduceEq, Int.reduceNe, Int.reduceMod, Int.reduceMul, Int.reduceAdd, Int.reduceSub, Int.reduceLT, Int.reduceLE, Nat.reduceAdd, Nat.reduceLeDiff, Nat.reduceLT, Nat.reduceSub, reduceIte, wds_n, wds_0, wds_1, wds_2, wds_3, or_true, true_or, or_false, false_or, or_self, false_and, and_false, d_pos, d_s1, d_s2, d_s3, d_s4, d_s5, d_s6, d_s7, d_s8, Classical.not_not, c3 hT, c3l hT, c3k hT, c4 hT, c4l hT, c4k hT, z258_0, TC_0 hT, TC_k hT, hp, w, is, sg, st, d_s9, d_s10, d_s11, d_s12, d_s13, d_s14, d_s15, d_s16, d_s17, d_s18, d_s19, d_s20, d_s21, d_s22, d_s23, d_s24, d_s25, d_s26, d_s27, d_s28, d_s29, d_s30, hs_ne, hcell, hcel1, le_sub1, le_T, le_F, lt_T, lt_F, eq_F, w32_T, bz0, bz1, lc_le, lc_ge, lc_lt, lc_gt, lc_eq]
  · simp (implicitDefEqProofs := false) (disch := omega) only [b63_3, b63_4, b63_5, q63_4, q63_5, x_aload0, y_call28, y_call41, y_call58, y_call59, y_call64, x_gc_10267, x_gc_10275, x_gc_2051, x_gf_2059, x_goto_3, x_goto_5, x_iadd, x_iastore, x_iconst, x_ifCond_eq_4, x_ifCond_eq_5, x_if_icmp_ge_4, x_iinc4, x_iload1, x_iload2, x_iload3, x_iload4, x_istore3, x_return, klp_0, klp_1, klp_2, klp_3, klp_9, KC_0, KC_1, KC_2, KC_3, KC_4, ne_eq, not_false_eq_true, not_true_eq_false, true_and, and_true, and_self, implies_true, eq_self, true_imp_iff, false_implies, Int.reduceEq, Int.reduceNe, Int.reduceMod, Int.reduceMul, Int.reduceAdd, Int.reduceSub, Int.reduceLT, Int.reduceLE, Nat.reduceAdd, Nat.reduceLeDiff, Nat.reduceLT, Nat.reduceSub, reduceIte, wds_n, wds_0, wds_1, wds_2, wds_3, or_true, true_or, or_false, false_or, or_self, false_and, and_false, d_pos, d_s1, d_s2, d_s3, d_s4, d_s5, d_s6, d_s7, d_s8, Classical.not_not, c3 hT, c3l hT, c3k hT, c4 hT, c4l hT, c4k hT, z258_0, TC_0 hT, TC_k hT, hp, w, is, sg, st, d_s9, d_s10, d_s11, d_s12, d_s13, d_s14, d_s15, d_s16, d_s17, d_s18, d_s19, d_s20, d_s21, d_s22, d_s23, d_s24, d_s25, d_s26, d_s27, d_s28, d_s29, d_s30, hs_ne, hcell, hcel1, le_sub1, le_T, le_F, lt_T, lt_F, eq_F, w32_T, bz0, bz1, lc_le, lc_ge, lc_lt, lc_gt, lc_eq]
theorem c63_2 {x k a : Int} {e : Nat} {h0 : HV} (B : BXC T f h) (p1 : ∀ Q, Sp fz1 (e + 10) 28 [(3, 129), (0, a)] h0 Q = Q 0 h) : G fz1 (e + 11) 63 2 [(3, 258), (0, x), (0, k), (9, 0), (9, 0)] [(0, a), (3, 129)] h0 Q = Q 0 h := by
  have hT := B.1.1
  have td : ∀ Q, Sp fz1 (e + 9) 65 [(3, 258), (0, 0)] h Q = Q (-1) h := fun Q => B.td (d := e + 2)
  have a64 : ∀ Q, Sp fz1 (e + 10) 64 [(3, 258), (0, 0)] h Q = Q 0 h := fun Q => c64n (d := e) td (.inl (by decide)) (fun Q => B.p28)
  have sg : ∀ Q, Sp fz1 (e + 10) 58 [(3, 258), (0, 58)] h Q = Q 0 h := fun Q => B.sg (d := e + 9)
  have nx := c63_3 (Q := Q) (x := x) (k := k) (m := 0) (n := 0) (e := e) B
  rw [q63_2]
  simp (implicitDefEqProofs := false) (disch := omega) only [b63_2, x_aload0, y_call28, y_call58, y_call64, x_goto_3, x_iconst, x_istore3, x_istore4, klp_0, klp_1, klp_2, klp_3, klp_9, KC_0, KC_1, KC_2, KC_3, KC_4, ne_eq, not_false_eq_true, not_true_eq_false, true_and, and_true, and_self, implies_true, eq_self, true_imp_iff, false_implies, Int.reduceEq, Int.reduceNe, Int.reduceMod, Int.reduceMul, Int.reduceAdd, Int.reduceSub, Int.reduceLT, Int.reduceLE, Nat.reduceAdd, Nat.reduceLeDiff, Nat.reduceLT, Nat.reduceSub, reduceIte, wds_n, wds_0, wds_1, wds_2, wds_3, or_true, true_or, or_false, false_or, or_self, false_and, and_false, d_pos, d_s1, d_s2, d_s3, d_s4, d_s5, d_s6, d_s7, d_s8, Classical.not_not, c3 hT, c3l hT, c3k hT, c4 hT, c4l hT, c4k hT, z258_0, TC_0 hT, TC_k hT, p1, sg, a64, nx, d_s9, d_s10, d_s11, d_s12, d_s13, d_s14, d_s15, d_s16, d_s17, d_s18, d_s19, d_s20, d_s21, d_s22, d_s23, d_s24, d_s25, d_s26, d_s27, d_s28, d_s29, d_s30, hs_ne, hcell, hcel1, le_sub1, le_T, le_F, lt_T, lt_F, eq_F, w32_T, bz0, bz1, lc_le, lc_ge, lc_lt, lc_gt, lc_eq]
/-- the reference's staff behind a fault -/
theorem r336_6 {y mo : Int} {u3 : AV} {e2 : Nat} (B : BXR S f kr) : G fz1 (e2 + 10) 336 6 [(3, 6603), (0, y), (0, mo), u3] [] kr Q = Q 0 kr := by
  have hS := B.1.1
  have gd : ∀ Q, Sp fz1 (e2 + 9) 325 [(3, 6603)] kr Q = Q 0 kr := fun Q => B.g325
  have sg : ∀ Q, Sp fz1 (e2 + 9) 333 [(3, 6603), (0, 59)] kr Q = Q 0 kr := fun Q => B.sg (d := e2 + 8)
  rw [q336_6]
  simp (implicitDefEqProofs := false) (disch := omega) only [b336_6, b336_15, q336_15, x_aload0, y_call325, y_call329, y_call330, y_call331, y_call333, x_goto_8, x_iconst, x_ifCond_eq_15, x_ifCond_eq_7, x_iload2, x_return, klp_0, klp_1, klp_2, klp_3, klp_9, KC_0, KC_1, KC_2, KC_3, KC_4, ne_eq, not_false_eq_true, not_true_eq_false, true_and, and_true, and_self, implies_true, eq_self, true_imp_iff, false_implies, Int.reduceEq, Int.reduceNe, Int.reduceMod, Int.reduceMul, Int.reduceAdd, Int.reduceSub, Int.reduceLT, Int.reduceLE, Nat.reduceAdd, Nat.reduceLeDiff, Nat.reduceLT, Nat.reduceSub, reduceIte, wds_n, wds_0, wds_1, wds_2, wds_3, or_true, true_or, or_false, false_or, or_self, false_and, and_false, d_pos, d_s1, d_s2, d_s3, d_s4, d_s5, d_s6, d_s7, d_s8, Classical.not_not, r3 hS, r3l hS, r3k hS, r4 hS, r4l hS, r4k hS, TR_0 hS, TR_k hS, gd, sg, d_s9, d_s10, d_s11, d_s12, d_s13, d_s14, d_s15, d_s16, d_s17, d_s18, d_s19, d_s20, d_s21, d_s22, d_s23, d_s24, d_s25, d_s26, d_s27, d_s28, d_s29, d_s30, hs_ne, hcell, hcel1, le_sub1, le_T, le_F, lt_T, lt_F, eq_F, w32_T, bz0, bz1, lc_le, lc_ge, lc_lt, lc_gt, lc_eq]
theorem r336_11 {y mo v : Int} {e2 : Nat} (B : BXR S f kr) : G fz1 (e2 + 10) 336 11 [(3, 6603), (0, y), (0, mo), (0, v)] [] kr Q = Q 0 kr := by
  have hS := B.1.1
  have gd : ∀ Q, Sp fz1 (e2 + 9) 325 [(3, 6603)] kr Q = Q 0 kr := fun Q => B.g325
  have nx := r336_6 (Q := Q) (y := y) (mo := 0) (u3 := (0, v)) (e2 := e2) B
  rw [q336_11]
  simp (implicitDefEqProofs := false) (disch := omega) only [b336_11, b336_12, b336_13, b336_14, q336_12, q336_13, q336_14, x_aload0, y_call321, y_call325, y_call334, x_goto_13, x_goto_14, x_goto_6, x_iconst, x_ifCond_eq_12, x_ifCond_eq_14, x_iload2, x_istore2, klp_0, klp_1, klp_2, klp_3, klp_9, KC_0, KC_1, KC_2, KC_3, KC_4, ne_eq, not_false_eq_true, not_true_eq_false, true_and, and_true, and_self, implies_true, eq_self, true_imp_iff, false_implies, Int.reduceEq, Int.reduceNe, Int.reduceMod, Int.reduceMul, Int.reduceAdd, Int.reduceSub, Int.reduceLT, Int.reduceLE, Nat.reduceAdd, Nat.reduceLeDiff, Nat.reduceLT, Nat.reduceSub, reduceIte, wds_n, wds_0, wds_1, wds_2, wds_3, or_true, true_or, or_false, false_or, or_self, false_and, and_false, d_pos, d_s1, d_s2, d_s3, d_s4, d_s5, d_s6, d_s7, d_s8, Classical.not_not, r3 hS, r3l hS, r3k hS, r4 hS, r4l hS, r4k hS, TR_0 hS, TR_k hS, gd, nx, d_s9, d_s10, d_s11, d_s12, d_s13, d_s14, d_s15, d_s16, d_s17, d_s18, d_s19, d_s20, d_s21, d_s22, d_s23, d_s24, d_s25, d_s26, d_s27, d_s28, d_s29, d_s30, hs_ne, hcell, hcel1, le_sub1, le_T, le_F, lt_T, lt_F, eq_F, w32_T, bz0, bz1, lc_le, lc_ge, lc_lt, lc_gt, lc_eq]
theorem r336_5 {y : Int} {e2 : Nat} (B : BXR S f kr) (hy : 0 ≤ y ∧ y < 10) : ∃ gr, BXR S f gr ∧ FIR S kr gr ∧ (∀ Q, G fz1 (e2 + 10) 336 5 [(3, 6603), (0, y), (9, 0), (9, 0)] [] kr Q = Q 0 gr) ∧ ∀ Q, G fz1 (e2 + 10) 336 4 [(3, 6603), (0, y), (9, 0), (9, 0)] [] kr Q = Q 0 gr := by
  have hS := B.1.1
  have kS := kTR hS
  have h9 := B.1.2
  have gd : ∀ Q, Sp fz1 (e2 + 9) 325 [(3, 6603)] kr Q = Q 0 kr := fun Q => B.g325
  have B1 : BXR S f (hset kr (S + 340) y 0) := B.st (by omega)
  have sg : ∀ Q, Sp fz1 (e2 + 9) 333 [(3, 6603), (0, 58)] kr Q = Q 0 kr := fun Q => B.sg (d := e2 + 8)
  have nx := fun Q => r336_6 (Q := Q) (y := y) (mo := 1) (u3 := (9, 0)) (e2 := e2) B1
  have E : ∀ Q, G fz1 (e2 + 10) 336 5 [(3, 6603), (0, y), (9, 0), (9, 0)] [] kr Q = Q 0 (hset kr (S + 340) y 0) := fun Q => by
    rw [q336_5]
    simp (implicitDefEqProofs := false) (disch := omega) only [b336_5, x_aload0, y_call333, x_gc_12323, x_gf_11339, x_goto_6, x_iastore, x_iconst, x_iload1, x_istore2, klp_0, klp_1, klp_2, klp_3, klp_9, KC_0, KC_1, KC_2, KC_3, KC_4, ne_eq, not_false_eq_true, not_true_eq_false, true_and, and_true, and_self, implies_true, eq_self, true_imp_iff, false_implies, Int.reduceEq, Int.reduceNe, Int.reduceMod, Int.reduceMul, Int.reduceAdd, Int.reduceSub, Int.reduceLT, Int.reduceLE, Nat.reduceAdd, Nat.reduceLeDiff, Nat.reduceLT, Nat.reduceSub, reduceIte, wds_n, wds_0, wds_1, wds_2, wds_3, or_true, true_or, or_false, false_or, or_self, false_and, and_false, d_pos, d_s1, d_s2, d_s3, d_s4, d_s5, d_s6, d_s7, d_s8, Classical.not_not, r3 hS, r3l hS, r3k hS, r4 hS, r4l hS, r4k hS, TR_0 hS, TR_k hS, h9, sg, nx, d_s9, d_s10, d_s11, d_s12, d_s13, d_s14, d_s15, d_s16, d_s17, d_s18, d_s19, d_s20, d_s21, d_s22, d_s23, d_s24, d_s25, d_s26, d_s27, d_s28, d_s29, d_s30, hs_ne, hcell, hcel1, le_sub1, le_T, le_F, lt_T, lt_F, eq_F, w32_T, bz0, bz1, lc_le, lc_ge, lc_lt, lc_gt, lc_eq]
  refine ⟨hset kr (S + 340) y 0, B1, FIR.st (by omega) hS, E, fun Q => ?_⟩
  rw [← E Q, q336_4]
  simp (implicitDefEqProofs := false) (disch := omega) only [b336_4, x_aload0, y_call321, y_call325, x_goto_5, x_ifCond_eq_5, klp_0, klp_1, klp_2, klp_3, klp_9, KC_0, KC_1, KC_2, KC_3, KC_4, ne_eq, not_false_eq_true, not_true_eq_false, true_and, and_true, and_self, implies_true, eq_self, true_imp_iff, false_implies, Int.reduceEq, Int.reduceNe, Int.reduceMod, Int.reduceMul, Int.reduceAdd, Int.reduceSub, Int.reduceLT, Int.reduceLE, Nat.reduceAdd, Nat.reduceLeDiff, Nat.reduceLT, Nat.reduceSub, reduceIte, wds_n, wds_0, wds_1, wds_2, wds_3, or_true, true_or, or_false, false_or, or_self, false_and, and_false, d_pos, d_s1, d_s2, d_s3, d_s4, d_s5, d_s6, d_s7, d_s8, Classical.not_not, r3 hS, r3l hS, r3k hS, r4 hS, r4l hS, r4k hS, TR_0 hS, TR_k hS, gd, d_s9, d_s10, d_s11, d_s12, d_s13, d_s14, d_s15, d_s16, d_s17, d_s18, d_s19, d_s20, d_s21, d_s22, d_s23, d_s24, d_s25, d_s26, d_s27, d_s28, d_s29, d_s30, hs_ne, hcell, hcel1, le_sub1, le_T, le_F, lt_T, lt_F, eq_F, w32_T, bz0, bz1, lc_le, lc_ge, lc_lt, lc_gt, lc_eq]
theorem r336_3 {y v : Int} {e2 : Nat} (B : BXR S f kr) (hy : 0 ≤ y ∧ y < 10) : ∃ gr, BXR S f gr ∧ FIR S kr gr ∧ ∀ Q, G fz1 (e2 + 10) 336 3 [(3, 6603), (0, y), (9, 0), (9, 0)] [(0, v), (0, y), (3, S + 276)] kr Q = Q 0 gr := by
  have hS := B.1.1
  have kS := kTR hS
  have h9 := B.1.2
  have B1 : BXR S f (hset kr (S + 276) y v) := B.st (by omega)
  have gd : ∀ Q, Sp fz1 (e2 + 9) 325 [(3, 6603)] (hset kr (S + 276) y v) Q = Q 0 (hset kr (S + 276) y v) := fun Q => B1.g325
  obtain ⟨gr, B2, F2, -, x4⟩ := r336_5 (e2 := e2) B1 hy
  refine ⟨gr, B2, FIR.trans (FIR.st (by omega) hS) F2, fun Q => ?_⟩
  rw [← x4 Q, q336_3]
  simp (implicitDefEqProofs := false) (disch := omega) only [n336_3, x_aload0, y_call325, y_call327, y_call332, x_gc_12315, x_gf_11339, x_goto_4, x_iaload, x_iastore, x_iconst, x_ifCond_eq_4, x_ifCond_ne_4, x_if_icmp_ne_4, x_iload1, x_jsr, klp_0, klp_1, klp_2, klp_3, klp_9, KC_0, KC_1, KC_2, KC_3, KC_4, ne_eq, not_false_eq_true, not_true_eq_false, true_and, and_true, and_self, implies_true, eq_self, true_imp_iff, false_implies, Int.reduceEq, Int.reduceNe, Int.reduceMod, Int.reduceMul, Int.reduceAdd, Int.reduceSub, Int.reduceLT, Int.reduceLE, Nat.reduceAdd, Nat.reduceLeDiff, Nat.reduceLT, Nat.reduceSub, reduceIte, wds_n, wds_0, wds_1, wds_2, wds_3, or_true, true_or, or_false, false_or, or_self, false_and, and_false, d_pos, d_s1, d_s2, d_s3, d_s4, d_s5, d_s6, d_s7, d_s8, Classical.not_not, r3 hS, r3l hS, r3k hS, r4 hS, r4l hS, r4k hS, TR_0 hS, TR_k hS, gd, h9, d_s9, d_s10, d_s11, d_s12, d_s13, d_s14, d_s15, d_s16, d_s17, d_s18, d_s19, d_s20, d_s21, d_s22, d_s23, d_s24, d_s25, d_s26, d_s27, d_s28, d_s29, d_s30, hs_ne, hcell, hcel1, le_sub1, le_T, le_F, lt_T, lt_F, eq_F, w32_T, bz0, bz1, lc_le, lc_ge, lc_lt, lc_gt, lc_eq]
/-- what kind of staff a token tells -/
def kdW (tp : Int → Int) (t s : Int) : Int := if tkK tp t s = 1 ∧ wdT tp t s = 32762566252455282 then 2 else if tkK tp t s = 1 ∧ wdT tp t s = 500186771314 then 3 else 4
theorem kdW_fd : ((0 ≤ fdW wKINDS tp t s ∧ fdW wKINDS tp t s ≤ 2 ∧ kdW tp t s = 2 + fdW wKINDS tp t s) ∧ tkK tp t s = 1 ∧ (fdW wKINDS tp t s = 2 → wdT tp t s = 1751474532)) ∨ (fdW wKINDS tp t s = -1 ∧ kdW tp t s = 4 ∧ ¬ (tkK tp t s = 1 ∧ wdT tp t s = 1751474532)) := by
  unfold kdW fdW wKINDS
  by_cases k : tkK tp t s = 1
  · rw [if_pos k]
    by_cases a : wdT tp t s = 32762566252455282
    · have a1 := And.intro k a
      have a2 := a.symm
      rw [if_pos a1, ix, if_pos a2]
      exact .inl ⟨⟨by decide, by decide, by decide⟩, k, fun z => absurd z (by decide)⟩
    · have a1 : ¬ (tkK tp t s = 1 ∧ wdT tp t s = 32762566252455282) := fun u => a u.2
      have a2 : ¬ 32762566252455282 = wdT tp t s := fun u => a u.symm
      rw [if_neg a1, ix, if_neg a2]
      by_cases b : wdT tp t s = 500186771314
      · have b1 := And.intro k b
        have b2 := b.symm
        rw [if_pos b1, ix, if_pos b2]
        exact .inl ⟨⟨by decide, by decide, by decide⟩, k, fun z => absurd z (by decide)⟩
      · have b1 : ¬ (tkK tp t s = 1 ∧ wdT tp t s = 500186771314) := fun u => b u.2
        have b2 : ¬ 500186771314 = wdT tp t s := fun u => b u.symm
        rw [if_neg b1, ix, if_neg b2]
        by_cases c : wdT tp t s = 1751474532
        · have c2 := c.symm
          rw [ix, if_pos c2]
          exact .inl ⟨⟨by decide, by decide, by decide⟩, k, fun _ => c⟩
        · have c2 : ¬ 1751474532 = wdT tp t s := fun u => c u.symm
          rw [ix, if_neg c2, ix]
          exact .inr ⟨rfl, rfl, fun u => c u.2⟩
  · have a1 : ¬ (tkK tp t s = 1 ∧ wdT tp t s = 32762566252455282) := fun u => k u.1
    have b1 : ¬ (tkK tp t s = 1 ∧ wdT tp t s = 500186771314) := fun u => k u.1
    rw [if_neg a1, if_neg b1, if_neg k]
    exact .inr ⟨rfl, rfl, fun u => k u.1⟩
/-- the reference's staff up to its kind -/
theorem r336_0 {hr0 : HV} {y : Int} {e2 : Nat} (K : TKf tp t s fu gr) (T1 : TOK tp t s) (St : STS gr) (hS : TR S) (h9 : gr 6603 9 = S) (f0 : ∀ Q, Sp fz1 (e2 + 9) 321 [(3, 6603)] hr0 Q = Q 0 hr) (f1 : ∀ Q, Sp fz1 (e2 + 9) 328 [(3, 6603), (0, 2), (0, 10)] hr Q = Q y gr) : Sp fz1 (e2 + 10) 336 [(3, 6603)] hr0 Q = G fz1 (e2 + 10) 336 3 [(3, 6603), (0, y), (9, 0), (9, 0)] [(0, kdW tp t s), (0, y), (3, S + 276)] gr Q := by
  unfold kdW
  by_cases a : tkK tp t s = 1 ∧ wdT tp t s = 32762566252455282
  · rw [if_pos a]
    have i1 : ∀ Q, Sp fz1 (e2 + 9) 327 [(3, 6603), (3, NV_2867)] gr Q = Q 1 gr := fun Q => by rw [NV_2867_e, iw_teacher (d := e2 + 4) K T1 St]; exact congrArg (fun x => Q x gr) (if_pos a)
    simp (implicitDefEqProofs := false) (disch := omega) only [sp336, n336_0, x_aload0, y_call321, y_call327, y_call328, x_gc_12315, x_gf_11339, x_goto_3, x_iconst, x_ifCond_eq_1, x_iload1, x_istore1, x_jsr, klp_0, klp_1, klp_2, klp_3, klp_9, KC_0, KC_1, KC_2, KC_3, KC_4, ne_eq, not_false_eq_true, not_true_eq_false, true_and, and_true, and_self, implies_true, eq_self, true_imp_iff, false_implies, Int.reduceEq, Int.reduceNe, Int.reduceMod, Int.reduceMul, Int.reduceAdd, Int.reduceSub, Int.reduceLT, Int.reduceLE, Nat.reduceAdd, Nat.reduceLeDiff, Nat.reduceLT, Nat.reduceSub, reduceIte, wds_n, wds_0, wds_1, wds_2, wds_3, or_true, true_or, or_false, false_or, or_self, false_and, and_false, d_pos, d_s1, d_s2, d_s3, d_s4, d_s5, d_s6, d_s7, d_s8, Classical.not_not, r3 hS, r3l hS, r3k hS, r4 hS, r4l hS, r4k hS, TR_0 hS, TR_k hS, f0, f1, h9, i1, d_s9, d_s10, d_s11, d_s12, d_s13, d_s14, d_s15, d_s16, d_s17, d_s18, d_s19, d_s20, d_s21, d_s22, d_s23, d_s24, d_s25, d_s26, d_s27, d_s28, d_s29, d_s30, hs_ne, hcell, hcel1, le_sub1, le_T, le_F, lt_T, lt_F, eq_F, w32_T, bz0, bz1, lc_le, lc_ge, lc_lt, lc_gt, lc_eq]
  · rw [if_neg a]
    have i1 : ∀ Q, Sp fz1 (e2 + 9) 327 [(3, 6603), (3, NV_2867)] gr Q = Q 0 gr := fun Q => by rw [NV_2867_e, iw_teacher (d := e2 + 4) K T1 St]; exact congrArg (fun x => Q x gr) (if_neg a)
    by_cases b : tkK tp t s = 1 ∧ wdT tp t s = 500186771314
    · rw [if_pos b]
      have i2 : ∀ Q, Sp fz1 (e2 + 9) 327 [(3, 6603), (3, NV_2995)] gr Q = Q 1 gr := fun Q => by rw [NV_2995_e, iw_tutor (d := e2 + 4) K T1 St]; exact congrArg (fun x => Q x gr) (if_pos b)
      simp (implicitDefEqProofs := false) (disch := omega) only [sp336, n336_0, n336_1, q336_1, x_aload0, y_call321, y_call327, y_call328, x_gc_12315, x_gf_11339, x_goto_3, x_iconst, x_ifCond_eq_1, x_ifCond_eq_2, x_iload1, x_istore1, x_jsr, klp_0, klp_1, klp_2, klp_3, klp_9, KC_0, KC_1, KC_2, KC_3, KC_4, ne_eq, not_false_eq_true, not_true_eq_false, true_and, and_true, and_self, implies_true, eq_self, true_imp_iff, false_implies, Int.reduceEq, Int.reduceNe, Int.reduceMod, Int.reduceMul, Int.reduceAdd, Int.reduceSub, Int.reduceLT, Int.reduceLE, Nat.reduceAdd, Nat.reduceLeDiff, Nat.reduceLT, Nat.reduceSub, reduceIte, wds_n, wds_0, wds_1, wds_2, wds_3, or_true, true_or, or_false, false_or, or_self, false_and, and_false, d_pos, d_s1, d_s2, d_s3, d_s4, d_s5, d_s6, d_s7, d_s8, Classical.not_not, r3 hS, r3l hS, r3k hS, r4 hS, r4l hS, r4k hS, TR_0 hS, TR_k hS, f0, f1, h9, i1, i2, d_s9, d_s10, d_s11, d_s12, d_s13, d_s14, d_s15, d_s16, d_s17, d_s18, d_s19, d_s20, d_s21, d_s22, d_s23, d_s24, d_s25, d_s26, d_s27, d_s28, d_s29, d_s30, hs_ne, hcell, hcel1, le_sub1, le_T, le_F, lt_T, lt_F, eq_F, w32_T, bz0, bz1, lc_le, lc_ge, lc_lt, lc_gt, lc_eq]
    · rw [if_neg b]
      have i2 : ∀ Q, Sp fz1 (e2 + 9) 327 [(3, 6603), (3, NV_2995)] gr Q = Q 0 gr := fun Q => by rw [NV_2995_e, iw_tutor (d := e2 + 4) K T1 St]; exact congrArg (fun x => Q x gr) (if_neg b)
      simp (implicitDefEqProofs := false) (disch := omega) only [sp336, n336_0, n336_1, b336_2, q336_1, q336_2, x_aload0, y_call321, y_call327, y_call328, x_gc_12315, x_gf_11339, x_goto_3, x_iconst, x_ifCond_eq_1, x_ifCond_eq_2, x_iload1, x_istore1, x_jsr, klp_0, klp_1, klp_2, klp_3, klp_9, KC_0, KC_1, KC_2, KC_3, KC_4, ne_eq, not_false_eq_true, not_true_eq_false, true_and, and_true, and_self, implies_true, eq_self, true_imp_iff, false_implies, Int.reduceEq, Int.reduceNe, Int.reduceMod, Int.reduceMul, Int.reduceAdd, Int.reduceSub, Int.reduceLT, Int.reduceLE, Nat.reduceAdd, Nat.reduceLeDiff, Nat.reduceLT, Nat.reduceSub, reduceIte, wds_n, wds_0, wds_1, wds_2, wds_3, or_true, true_or, or_false, false_or, or_self, false_and, and_false, d_pos, d_s1, d_s2, d_s3, d_s4, d_s5, d_s6, d_s7, d_s8, Classical.not_not, r3 hS, r3l hS, r3k hS, r4 hS, r4l hS, r4k hS, TR_0 hS, TR_k hS, f0, f1, h9, i1, i2, d_s9, d_s10, d_s11, d_s12, d_s13, d_s14, d_s15, d_s16, d_s17, d_s18, d_s19, d_s20, d_s21, d_s22, d_s23, d_s24, d_s25, d_s26, d_s27, d_s28, d_s29, d_s30, hs_ne, hcell, hcel1, le_sub1, le_T, le_F, lt_T, lt_F, eq_F, w32_T, bz0, bz1, lc_le, lc_ge, lc_lt, lc_gt, lc_eq]
end SM
