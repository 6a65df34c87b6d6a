/-! THE PURE SIDE, 69: cover, the reference, who is free and what is open: printed by wip/tools/gen88.py -/
/-- what the reference knows alike when it covers; the units are told -/
def CvK (K : HV) : Prop := RTx K ∧ RTu K ∧ unP K (K (K 64 8) 11) = K ∧ RTl K ∧ (∀ s, 0 ≤ s → s < 10 → K 11744 s = K 2656 s) ∧ (∀ s, 0 ≤ s → s < 10 → K 11680 s = K 2016 s) ∧ (∀ u, 0 ≤ u → u < K (K 64 8) 11 → K 11872 u = peU K u) ∧ RTi K ∧ K 1927 13 = 1
theorem cvk_12 {K : HV} (C : CvK K) {u : Int} (hu : 0 ≤ u ∧ u < K (K 64 8) 11) : K 12000 u = lsU K u := by
  have e := C.2.2.1
  have : unP K (K (K 64 8) 11) 12000 u = lsU K u := by
    rw [unP_v, if_pos ⟨rfl, hu.1, hu.2⟩]
    rfl
  rw [e] at this
  exact this
theorem s442 {d : Nat} {h : HV} {Q : Int → HV → Prop} {s u : Int} (hS : TR (h 6603 9)) (hs : 0 ≤ s ∧ s < 10) (hu : 0 ≤ u ∧ u < 36) (hl : 0 ≤ h 12000 u ∧ h 12000 u < 12) : Sp fz1 d 442 [(3, 6603), (0, s), (0, u)] h Q = Q (if i_and (i_shr (h (h 6603 9 + 340) s) (h (h 6603 9 + 468) (h 12000 u))) 1 = 1 then 1 else 0) h := by
  by_cases a1 : i_and (i_shr (h (h 6603 9 + 340) s) (h (h 6603 9 + 468) (h 12000 u))) 1 = 1 <;> (try (exfalso; omega)) <;> simp (implicitDefEqProofs := false) (disch := omega) only [sp442, b442_0, b442_1, b442_2, q442_1, q442_2, x_aload0, x_freturn, x_gc_11875, x_gc_12323, x_gc_12339, x_gf_11339, x_goto_2, x_iaload, x_iand, x_iconst, x_if_icmp_ne_1, x_iload1, x_iload2, x_ishr, klp_0, klp_1, klp_2, klp_3, klp_9, KC_0, KC_1, KC_2, KC_3, KC_4, ne_eq, not_false_eq_true, not_true_eq_false, true_and, and_true, and_self, implies_true, eq_self, true_imp_iff, false_implies, Int.reduceEq, Int.reduceNe, Int.reduceMod, Int.reduceMul, Int.reduceAdd, Int.reduceSub, Int.reduceLT, Int.reduceLE, Nat.reduceAdd, Nat.reduceLeDiff, Nat.reduceLT, Nat.reduceSub, reduceIte, wds_n, wds_0, wds_1, wds_2, wds_3, or_true, true_or, or_false, false_or, or_self, false_and, and_false, d_pos, d_s1, d_s2, d_s3, d_s4, d_s5, d_s6, d_s7, d_s8, Classical.not_not, z6603_76, z12000_l, r4 hS, r4l hS, r4k hS, r6 hS, r6l hS, r6k hS, TR_0 hS, TR_k hS, a1, le_sub1, le_T, le_F, lt_T, lt_F, eq_F, w32_T, bz0, bz1, lc_le, lc_ge, lc_lt, lc_gt, lc_eq] <;> first | rfl | (rw [if_pos (by omega)] <;> rfl) | (rw [if_neg (by omega)] <;> rfl) | (exfalso; omega)

theorem i_or_0 {m : Nat} (hm : m < 1024) : i_or m 0 = m := by
  have := i_or_nat (a := m) (b := 0) (by omega) (by decide)
  rw [Nat.or_zero] at this
  exact this
theorem s441 {d : Nat} {K : HV} {Q : Int → HV → Prop} {p : Int} (C : CvK K) : Sp fz1 (d + 1) 441 [(3, 6603), (0, p)] K Q = Q (mkN K p (K (K 64 8) 11).toNat (K (K 64 8 + 598) 2).toNat) K := by
  have C0 := C
  obtain ⟨X, U, hU, L, A, B, T, I, hf⟩ := C
  have X2 := rtx_2 X
  have X4 := rtx_4 X
  have hS := X.2.1
  have hN := U.1
  refine Sp_is ?_ Q
  simp (implicitDefEqProofs := false) (disch := omega) only [sp441, b441_0, x_goto_1, x_iconst, x_istore2, x_istore3, klp_0, klp_1, klp_2, klp_3, klp_9, KC_0, KC_1, KC_2, KC_3, KC_4, ne_eq, not_false_eq_true, not_true_eq_false, true_and, and_true, and_self, implies_true, eq_self, true_imp_iff, false_implies, Int.reduceEq, Int.reduceNe, Int.reduceMod, Int.reduceMul, Int.reduceAdd, Int.reduceSub, Int.reduceLT, Int.reduceLE, Nat.reduceAdd, Nat.reduceLeDiff, Nat.reduceLT, Nat.reduceSub, reduceIte, wds_n, wds_0, wds_1, wds_2, wds_3, or_true, true_or, or_false, false_or, or_self, false_and, and_false, d_pos, d_s1, d_s2, d_s3, d_s4, d_s5, d_s6, d_s7, d_s8, Classical.not_not]
  refine forG (N := (K (K 64 8 + 598) 2).toNat) (I := fun s ls h' => (∃ z w, ls = [(3, 6603), (0, p), (0, (mkN K p (K (K 64 8) 11).toNat s : Int)), (0, (s : Int)), z, w]) ∧ h' = K) ?_ ?_ (j := 0) (Nat.zero_le _) ⟨⟨_, _, rfl⟩, rfl⟩
  · rintro s ls h' hs ⟨⟨z, w, rfl⟩, rfl⟩ n2
    have sI : 0 ≤ (s : Int) ∧ (s : Int) < 10 := by omega
    have ml := mk_lt (h := h') (p := p) (n := (h' (h' 64 8) 11).toNat) s (by omega)
    have aE : h' 11744 s = h' 2656 s := A s sI.1 sI.2
    have bE : h' 11680 s = h' 2016 s := B s sI.1 sI.2
    have ab : i_and (i_shr (h' 2656 s) p) 1 = abB h' p s := rfl
    have bb : i_and (i_shr (h' 2016 s) p) 1 = baB h' p s := rfl
    -- the units, one after another
    have inner : G fz1 (d + 1) 441 4 [(3, 6603), (0, p), (0, (mkN h' p (h' (h' 64 8) 11).toNat s : Int)), (0, (s : Int)), (0, frN h' p s 0), (0, 0)] [] h' (fun x h'' => x = ↑(mkN h' p (h' (h' 64 8) 11).toNat (h' (h' 64 8 + 598) 2).toNat) ∧ h'' = h') := by
      refine forG (N := (h' (h' 64 8) 11).toNat) (I := fun u ls h'' => ls = [(3, 6603), (0, p), (0, (mkN h' p (h' (h' 64 8) 11).toNat s : Int)), (0, (s : Int)), (0, frN h' p s u), (0, (u : Int))] ∧ h'' = h') ?_ ?_ (j := 0) (Nat.zero_le _) ⟨rfl, rfl⟩
      · rintro u ls h'' hu ⟨rfl, rfl⟩ n3
        have uI : 0 ≤ (u : Int) ∧ (u : Int) < h'' (h'' 64 8) 11 := by omega
        have lb := les_b X U uI
        have c12 := cvk_12 C0 uI
        have pe := T u uI.1 uI.2
        have st : h'' (h'' 6603 9 + 596) (lsU h'' u) = stU h'' u := (L.2 _ lb.1 lb.2).2.2.1
        have fE : frN h'' p s (u + 1) = if frN h'' p s u = 1 ∧ ¬ (peU h'' u = p ∧ stU h'' u = s) then 1 else 0 := rfl
        rw [fE] at n3
        refine G_in ?_
        rcases fr_b h'' p s u with f0 | f1
        · rw [if_neg (fun w => by omega)] at n3
          simp (implicitDefEqProofs := false) (disch := omega) only [b441_4, b441_5, b441_6, b441_7, q441_5, q441_6, q441_7, x_aload0, y_call422, x_gc_11859, x_gc_11875, x_gc_12355, x_gf_11339, x_goto_4, x_goto_5, x_goto_7, x_iaload, x_iconst, x_ifCond_eq_6, x_if_icmp_eq_6, x_if_icmp_ge_8, x_if_icmp_ne_5, x_iinc5, x_iload1, x_iload3, x_iload4, x_iload5, x_istore4, klp_0, klp_1, klp_2, klp_3, klp_9, KC_0, KC_1, KC_2, KC_3, KC_4, ne_eq, not_false_eq_true, not_true_eq_false, true_and, and_true, and_self, implies_true, eq_self, true_imp_iff, false_implies, Int.reduceEq, Int.reduceNe, Int.reduceMod, Int.reduceMul, Int.reduceAdd, Int.reduceSub, Int.reduceLT, Int.reduceLE, Nat.reduceAdd, Nat.reduceLeDiff, Nat.reduceLT, Nat.reduceSub, reduceIte, wds_n, wds_0, wds_1, wds_2, wds_3, or_true, true_or, or_false, false_or, or_self, false_and, and_false, d_pos, d_s1, d_s2, d_s3, d_s4, d_s5, d_s6, d_s7, d_s8, Classical.not_not, s422 X U, hU, f0, le_T, le_F, lt_T, lt_F, w32_T]
          exact n3 _ _ ⟨rfl, rfl⟩
        · by_cases q : peU h'' u = p
          · by_cases q2 : stU h'' u = s
            · rw [if_neg (fun w => w.2 ⟨q, q2⟩)] at n3
              simp (implicitDefEqProofs := false) (disch := omega) only [b441_4, b441_5, b441_6, b441_7, q441_5, q441_6, q441_7, x_aload0, y_call422, x_gc_11859, x_gc_11875, x_gc_12355, x_gf_11339, x_goto_4, x_goto_5, x_goto_7, x_iaload, x_iconst, x_ifCond_eq_6, x_if_icmp_eq_6, x_if_icmp_ge_8, x_if_icmp_ne_5, x_iinc5, x_iload1, x_iload3, x_iload4, x_iload5, x_istore4, klp_0, klp_1, klp_2, klp_3, klp_9, KC_0, KC_1, KC_2, KC_3, KC_4, ne_eq, not_false_eq_true, not_true_eq_false, true_and, and_true, and_self, implies_true, eq_self, true_imp_iff, false_implies, Int.reduceEq, Int.reduceNe, Int.reduceMod, Int.reduceMul, Int.reduceAdd, Int.reduceSub, Int.reduceLT, Int.reduceLE, Nat.reduceAdd, Nat.reduceLeDiff, Nat.reduceLT, Nat.reduceSub, reduceIte, wds_n, wds_0, wds_1, wds_2, wds_3, or_true, true_or, or_false, false_or, or_self, false_and, and_false, d_pos, d_s1, d_s2, d_s3, d_s4, d_s5, d_s6, d_s7, d_s8, Classical.not_not, s422 X U, hU, f1, z6603_74, z11872_l, pe, eq_true q, z6603_76, z12000_l, c12, r8 hS, r8l hS, r8k hS, TR_0 hS, TR_k hS, st, eq_true q2, le_T, le_F, lt_T, lt_F, w32_T]
              exact n3 _ _ ⟨rfl, rfl⟩
            · rw [if_pos ⟨f1, fun w => q2 w.2⟩] at n3
              simp (implicitDefEqProofs := false) (disch := omega) only [b441_4, b441_5, b441_6, b441_7, q441_5, q441_6, q441_7, x_aload0, y_call422, x_gc_11859, x_gc_11875, x_gc_12355, x_gf_11339, x_goto_4, x_goto_5, x_goto_7, x_iaload, x_iconst, x_ifCond_eq_6, x_if_icmp_eq_6, x_if_icmp_ge_8, x_if_icmp_ne_5, x_iinc5, x_iload1, x_iload3, x_iload4, x_iload5, x_istore4, klp_0, klp_1, klp_2, klp_3, klp_9, KC_0, KC_1, KC_2, KC_3, KC_4, ne_eq, not_false_eq_true, not_true_eq_false, true_and, and_true, and_self, implies_true, eq_self, true_imp_iff, false_implies, Int.reduceEq, Int.reduceNe, Int.reduceMod, Int.reduceMul, Int.reduceAdd, Int.reduceSub, Int.reduceLT, Int.reduceLE, Nat.reduceAdd, Nat.reduceLeDiff, Nat.reduceLT, Nat.reduceSub, reduceIte, wds_n, wds_0, wds_1, wds_2, wds_3, or_true, true_or, or_false, false_or, or_self, false_and, and_false, d_pos, d_s1, d_s2, d_s3, d_s4, d_s5, d_s6, d_s7, d_s8, Classical.not_not, s422 X U, hU, f1, z6603_74, z11872_l, pe, eq_true q, z6603_76, z12000_l, c12, r8 hS, r8l hS, r8k hS, TR_0 hS, TR_k hS, st, q2, le_T, le_F, lt_T, lt_F, w32_T]
              exact n3 _ _ ⟨rfl, rfl⟩
          · rw [if_pos ⟨f1, fun w => q w.1⟩] at n3
            simp (implicitDefEqProofs := false) (disch := omega) only [b441_4, b441_5, b441_6, b441_7, q441_5, q441_6, q441_7, x_aload0, y_call422, x_gc_11859, x_gc_11875, x_gc_12355, x_gf_11339, x_goto_4, x_goto_5, x_goto_7, x_iaload, x_iconst, x_ifCond_eq_6, x_if_icmp_eq_6, x_if_icmp_ge_8, x_if_icmp_ne_5, x_iinc5, x_iload1, x_iload3, x_iload4, x_iload5, x_istore4, klp_0, klp_1, klp_2, klp_3, klp_9, KC_0, KC_1, KC_2, KC_3, KC_4, ne_eq, not_false_eq_true, not_true_eq_false, true_and, and_true, and_self, implies_true, eq_self, true_imp_iff, false_implies, Int.reduceEq, Int.reduceNe, Int.reduceMod, Int.reduceMul, Int.reduceAdd, Int.reduceSub, Int.reduceLT, Int.reduceLE, Nat.reduceAdd, Nat.reduceLeDiff, Nat.reduceLT, Nat.reduceSub, reduceIte, wds_n, wds_0, wds_1, wds_2, wds_3, or_true, true_or, or_false, false_or, or_self, false_and, and_false, d_pos, d_s1, d_s2, d_s3, d_s4, d_s5, d_s6, d_s7, d_s8, Classical.not_not, s422 X U, hU, f1, z6603_74, z11872_l, pe, q, le_T, le_F, lt_T, lt_F, w32_T]
            exact n3 _ _ ⟨rfl, rfl⟩
      · rintro ls h'' ⟨rfl, rfl⟩
        have mE : mkN h'' p (h'' (h'' 64 8) 11).toNat (s + 1) = if frN h'' p s (h'' (h'' 64 8) 11).toNat = 1 then mkN h'' p (h'' (h'' 64 8) 11).toNat s ||| 2 ^ s else mkN h'' p (h'' (h'' 64 8) 11).toNat s := rfl
        have bo := bit_or (m := mkN h'' p (h'' (h'' 64 8) 11).toNat s) (s := s) ml (by omega)
        have b0 := i_or_0 ml
        rw [mE] at n2
        refine G_in ?_
        rcases fr_b h'' p s (h'' (h'' 64 8) 11).toNat with f0 | f1
        · rw [f0, if_neg (by decide)] at n2
          simp (implicitDefEqProofs := false) (disch := omega) only [b441_4, b441_8, b441_9, b441_10, q441_8, q441_9, q441_10, x_aload0, y_call422, x_gc_11859, x_gc_11875, x_gc_12355, x_gf_11339, x_goto_1, x_goto_10, x_goto_5, x_iaload, x_iconst, x_ifCond_eq_6, x_ifCond_eq_9, x_if_icmp_eq_6, x_if_icmp_ge_8, x_if_icmp_ne_5, x_iinc3, x_iload1, x_iload2, x_iload3, x_iload4, x_iload5, x_ior, x_ishl, x_istore2, klp_0, klp_1, klp_2, klp_3, klp_9, KC_0, KC_1, KC_2, KC_3, KC_4, ne_eq, not_false_eq_true, not_true_eq_false, true_and, and_true, and_self, implies_true, eq_self, true_imp_iff, false_implies, Int.reduceEq, Int.reduceNe, Int.reduceMod, Int.reduceMul, Int.reduceAdd, Int.reduceSub, Int.reduceLT, Int.reduceLE, Nat.reduceAdd, Nat.reduceLeDiff, Nat.reduceLT, Nat.reduceSub, reduceIte, wds_n, wds_0, wds_1, wds_2, wds_3, or_true, true_or, or_false, false_or, or_self, false_and, and_false, d_pos, d_s1, d_s2, d_s3, d_s4, d_s5, d_s6, d_s7, d_s8, Classical.not_not, s422 X U, hU, f0, b0, le_T, le_F, lt_T, lt_F, w32_T]
          exact n2 _ _ ⟨⟨_, _, rfl⟩, rfl⟩
        · rw [f1, if_pos rfl] at n2
          simp (implicitDefEqProofs := false) (disch := omega) only [b441_4, b441_8, b441_9, b441_10, q441_8, q441_9, q441_10, x_aload0, y_call422, x_gc_11859, x_gc_11875, x_gc_12355, x_gf_11339, x_goto_1, x_goto_10, x_goto_5, x_iaload, x_iconst, x_ifCond_eq_6, x_ifCond_eq_9, x_if_icmp_eq_6, x_if_icmp_ge_8, x_if_icmp_ne_5, x_iinc3, x_iload1, x_iload2, x_iload3, x_iload4, x_iload5, x_ior, x_ishl, x_istore2, klp_0, klp_1, klp_2, klp_3, klp_9, KC_0, KC_1, KC_2, KC_3, KC_4, ne_eq, not_false_eq_true, not_true_eq_false, true_and, and_true, and_self, implies_true, eq_self, true_imp_iff, false_implies, Int.reduceEq, Int.reduceNe, Int.reduceMod, Int.reduceMul, Int.reduceAdd, Int.reduceSub, Int.reduceLT, Int.reduceLE, Nat.reduceAdd, Nat.reduceLeDiff, Nat.reduceLT, Nat.reduceSub, reduceIte, wds_n, wds_0, wds_1, wds_2, wds_3, or_true, true_or, or_false, false_or, or_self, false_and, and_false, d_pos, d_s1, d_s2, d_s3, d_s4, d_s5, d_s6, d_s7, d_s8, Classical.not_not, s422 X U, hU, f1, bo, le_T, le_F, lt_T, lt_F, w32_T]
          exact n2 _ _ ⟨⟨_, _, rfl⟩, rfl⟩
    have f0E : frN h' p s 0 = if abB h' p s = 0 ∧ baB h' p s = 0 then 1 else 0 := rfl
    rw [f0E] at inner
    refine G_in ?_
    by_cases q : abB h' p s = 0
    · by_cases q2 : baB h' p s = 0
      · rw [if_pos ⟨q, q2⟩] at inner
        simp (implicitDefEqProofs := false) (disch := omega) only [b441_1, b441_2, b441_3, q441_2, q441_3, x_aload0, x_gc_11795, x_gc_11803, x_gc_12291, x_gf_11339, x_goto_3, x_goto_4, x_iaload, x_iand, x_iconst, x_ifCond_ne_2, x_if_icmp_ge_11, x_iload1, x_iload3, x_ishr, x_istore4, x_istore5, klp_0, klp_1, klp_2, klp_3, klp_9, KC_0, KC_1, KC_2, KC_3, KC_4, ne_eq, not_false_eq_true, not_true_eq_false, true_and, and_true, and_self, implies_true, eq_self, true_imp_iff, false_implies, Int.reduceEq, Int.reduceNe, Int.reduceMod, Int.reduceMul, Int.reduceAdd, Int.reduceSub, Int.reduceLT, Int.reduceLE, Nat.reduceAdd, Nat.reduceLeDiff, Nat.reduceLT, Nat.reduceSub, reduceIte, wds_n, wds_0, wds_1, wds_2, wds_3, or_true, true_or, or_false, false_or, or_self, false_and, and_false, d_pos, d_s1, d_s2, d_s3, d_s4, d_s5, d_s6, d_s7, d_s8, Classical.not_not, z6603_67, z11744_l, z6603_66, z11680_l, aE, bE, ab, bb, q, q2, r0 hS, r0l hS, r0k hS, TR_0 hS, TR_k hS, X2.1, le_T, le_F, lt_T, lt_F, w32_T]
        exact inner
      · rw [if_neg (fun w => q2 w.2)] at inner
        simp (implicitDefEqProofs := false) (disch := omega) only [b441_1, b441_2, b441_3, q441_2, q441_3, x_aload0, x_gc_11795, x_gc_11803, x_gc_12291, x_gf_11339, x_goto_3, x_goto_4, x_iaload, x_iand, x_iconst, x_ifCond_ne_2, x_if_icmp_ge_11, x_iload1, x_iload3, x_ishr, x_istore4, x_istore5, klp_0, klp_1, klp_2, klp_3, klp_9, KC_0, KC_1, KC_2, KC_3, KC_4, ne_eq, not_false_eq_true, not_true_eq_false, true_and, and_true, and_self, implies_true, eq_self, true_imp_iff, false_implies, Int.reduceEq, Int.reduceNe, Int.reduceMod, Int.reduceMul, Int.reduceAdd, Int.reduceSub, Int.reduceLT, Int.reduceLE, Nat.reduceAdd, Nat.reduceLeDiff, Nat.reduceLT, Nat.reduceSub, reduceIte, wds_n, wds_0, wds_1, wds_2, wds_3, or_true, true_or, or_false, false_or, or_self, false_and, and_false, d_pos, d_s1, d_s2, d_s3, d_s4, d_s5, d_s6, d_s7, d_s8, Classical.not_not, z6603_67, z11744_l, z6603_66, z11680_l, aE, bE, ab, bb, q, q2, r0 hS, r0l hS, r0k hS, TR_0 hS, TR_k hS, X2.1, le_T, le_F, lt_T, lt_F, w32_T]
        exact inner
    · rw [if_neg (fun w => q w.1)] at inner
      simp (implicitDefEqProofs := false) (disch := omega) only [b441_1, b441_2, b441_3, q441_2, q441_3, x_aload0, x_gc_11795, x_gc_11803, x_gc_12291, x_gf_11339, x_goto_3, x_goto_4, x_iaload, x_iand, x_iconst, x_ifCond_ne_2, x_if_icmp_ge_11, x_iload1, x_iload3, x_ishr, x_istore4, x_istore5, klp_0, klp_1, klp_2, klp_3, klp_9, KC_0, KC_1, KC_2, KC_3, KC_4, ne_eq, not_false_eq_true, not_true_eq_false, true_and, and_true, and_self, implies_true, eq_self, true_imp_iff, false_implies, Int.reduceEq, Int.reduceNe, Int.reduceMod, Int.reduceMul, Int.reduceAdd, Int.reduceSub, Int.reduceLT, Int.reduceLE, Nat.reduceAdd, Nat.reduceLeDiff, Nat.reduceLT, Nat.reduceSub, reduceIte, wds_n, wds_0, wds_1, wds_2, wds_3, or_true, true_or, or_false, false_or, or_self, false_and, and_false, d_pos, d_s1, d_s2, d_s3, d_s4, d_s5, d_s6, d_s7, d_s8, Classical.not_not, z6603_67, z11744_l, z6603_66, z11680_l, aE, bE, ab, bb, q, r0 hS, r0l hS, r0k hS, TR_0 hS, TR_k hS, X2.1, le_T, le_F, lt_T, lt_F, w32_T]
      exact inner
  · rintro ls h' ⟨⟨z, w, rfl⟩, rfl⟩
    refine G_in ?_
    simp (implicitDefEqProofs := false) (disch := omega) only [b441_1, b441_11, q441_11, x_aload0, x_gc_11795, x_gc_11803, x_gc_12291, x_gf_11339, x_goto_3, x_iaload, x_iand, x_iconst, x_ifCond_ne_2, x_if_icmp_ge_11, x_iload1, x_iload2, x_iload3, x_ireturn, x_ishr, klp_0, klp_1, klp_2, klp_3, klp_9, KC_0, KC_1, KC_2, KC_3, KC_4, ne_eq, not_false_eq_true, not_true_eq_false, true_and, and_true, and_self, implies_true, eq_self, true_imp_iff, false_implies, Int.reduceEq, Int.reduceNe, Int.reduceMod, Int.reduceMul, Int.reduceAdd, Int.reduceSub, Int.reduceLT, Int.reduceLE, Nat.reduceAdd, Nat.reduceLeDiff, Nat.reduceLT, Nat.reduceSub, reduceIte, wds_n, wds_0, wds_1, wds_2, wds_3, or_true, true_or, or_false, false_or, or_self, false_and, and_false, d_pos, d_s1, d_s2, d_s3, d_s4, d_s5, d_s6, d_s7, d_s8, Classical.not_not, r0 hS, r0l hS, r0k hS, TR_0 hS, TR_k hS, X2.1, le_T, le_F, lt_T, lt_F, w32_T]
/-- while the reference covers -/
def RvF (K H : HV) : Prop := (∀ a, a ≠ 6603 ∧ a ≠ 12896 ∧ a ≠ 12960 ∧ a ≠ 13024 → H a = K a) ∧ ∀ s, s ≠ 93 → H 6603 s = K 6603 s
theorem lp440o {d : Nat} {K K0 : HV} {Q : Int → HV → Prop} {p : Int} {y4 y5 y6 y7 y8 : AV} (hp : 0 ≤ p ∧ p < 31) (C : CvK K) (F0 : RvF K K0) (z0 : K0 6603 93 = 0)
    (nx : ∀ H : HV, RvF K H → H 6603 93 = cnO K p (K (K 64 8) 11).toNat → (∀ k : Nat, k < cnO K p (K (K 64 8) 11).toNat → H 12960 k = arO K p (K (K 64 8) 11).toNat k) → (∀ u, 0 ≤ u → u < K (K 64 8) 11 → H 12896 u = -9) → ∀ z, G fz1 d 440 5 [(3, 6603), (0, p), (0, K (K 64 8) 11), z, y4, y5, y6, y7, y8] [] H Q) : G fz1 d 440 3 [(3, 6603), (0, p), (0, K (K 64 8) 11), (0, 0), y4, y5, y6, y7, y8] [] K0 Q := by
  have C0 := C
  obtain ⟨X, U, hU, L, A, B, T, I, hf⟩ := C
  have X2 := rtx_2 X
  have X4 := rtx_4 X
  have hS := X.2.1
  have hN := U.1
  refine forG (N := (K (K 64 8) 11).toNat) (I := fun j ls h' => ls = [(3, 6603), (0, p), (0, K (K 64 8) 11), (0, (j : Int)), y4, y5, y6, y7, y8] ∧ RvF K h' ∧ h' 6603 93 = cnO K p j ∧ (∀ k : Nat, k < cnO K p j → h' 12960 k = arO K p j k) ∧ (∀ u, 0 ≤ u → u < (j : Int) → h' 12896 u = -9)) ?_ ?_ (j := 0) (Nat.zero_le _) ⟨rfl, F0, z0, fun k b => by rw [cnO] at b; omega, fun u a b => by omega⟩
  · rintro j ls h' hj ⟨rfl, F, e6, eA, e9⟩ n2
    have hju : 0 ≤ (j : Int) ∧ (j : Int) < K (K 64 8) 11 := by omega
    have lb := les_b X U hju
    have sb := st_b X U L hju
    have s10 : 0 ≤ stU K j ∧ stU K j < 10 := by omega
    have c6 := cn_6 (p := p) X I hf (j := j + 1) (by omega)
    have c12 := cvk_12 C0 hju
    have st : K (K 6603 9 + 596) (lsU K j) = stU K j := (L.2 _ lb.1 lb.2).2.2.1
    obtain ⟨M, hM⟩ : ∃ M, M = hset h' 12896 (j : Int) (-9) := ⟨_, rfl⟩
    have mf : ∀ a, a ≠ 12896 → M a = h' a := fun a ha => by rw [hM, hs_ne ha]
    have FM : RvF K M := ⟨fun a q => by rw [mf a q.2.1]; exact F.1 a q, fun s a => by rw [mf _ (by decide)]; exact F.2 s a⟩
    have p74 : M 11872 j = peU K j := by rw [FM.1 _ (by decide)]; exact T j hju.1 hju.2
    have p76 : M 12000 j = lsU K j := by rw [FM.1 _ (by decide)]; exact c12
    have m9 : M 6603 9 = K 6603 9 := FM.2 9 (by decide)
    have p8 : M (K 6603 9 + 596) (lsU K j) = stU K j := by rw [FM.1 _ (by rcases hS with w | w <;> omega)]; exact st
    have pA : M 11744 (stU K j) = K 2656 (stU K j) := by rw [FM.1 _ (by decide)]; exact A _ s10.1 s10.2
    have m93 : M 6603 93 = cnO K p j := by rw [mf _ (by decide)]; exact e6
    have mA : ∀ k : Nat, k < cnO K p j → M 12960 k = arO K p j k := fun k b => by rw [mf _ (by decide)]; exact eA k b
    have mN : ∀ u, 0 ≤ u → u < ((j + 1 : Nat) : Int) → M 12896 u = -9 := fun u a b => by
      rw [hM, hset_v]
      by_cases q : u = j
      · rw [if_pos ⟨rfl, q⟩]
      · rw [if_neg (fun w => q w.2)]
        exact e9 u a (by omega)
    refine G_in ?_
    by_cases q : peU K j = p
    · by_cases q2 : abB K p (stU K j) = 1
      · have ce : cnO K p (j + 1) = cnO K p j + 1 := by rw [cnO, if_pos ⟨q, q2⟩]
        have ab : i_and (i_shr (K 2656 (stU K j)) p) 1 = 1 := q2
        rw [ce] at c6
        simp (implicitDefEqProofs := false) (disch := omega) only [b440_3, b440_4, q440_4, x_aload0, x_dup0, x_dup3, x_gc_11803, x_gc_11859, x_gc_11875, x_gc_11995, x_gc_12003, x_gc_12355, x_gf_11339, x_gf_12008, x_goto_3, x_goto_4, x_iadd, x_iaload, x_iand, x_iastore, x_iconst, x_if_icmp_ge_5, x_if_icmp_ne_4, x_iinc3, x_iload1, x_iload2, x_iload3, x_ishr, x_pf_12008, klp_0, klp_1, klp_2, klp_3, klp_9, KC_0, KC_1, KC_2, KC_3, KC_4, ne_eq, not_false_eq_true, not_true_eq_false, true_and, and_true, and_self, implies_true, eq_self, true_imp_iff, false_implies, Int.reduceEq, Int.reduceNe, Int.reduceMod, Int.reduceMul, Int.reduceAdd, Int.reduceSub, Int.reduceLT, Int.reduceLE, Nat.reduceAdd, Nat.reduceLeDiff, Nat.reduceLT, Nat.reduceSub, reduceIte, wds_n, wds_0, wds_1, wds_2, wds_3, or_true, true_or, or_false, false_or, or_self, false_and, and_false, d_pos, d_s1, d_s2, d_s3, d_s4, d_s5, d_s6, d_s7, d_s8, Classical.not_not, z6603_91, z12896_l, ← hM, z6603_74, z11872_l, p74, eq_true q, z6603_76, z12000_l, p76, m9, r8 hS, r8l hS, r8k hS, TR_0 hS, TR_k hS, p8, z6603_67, z11744_l, pA, ab, z6603_92, z12960_l, m93, hs_ne, le_T, le_F, lt_T, lt_F, w32_T]
        refine n2 _ _ ⟨rfl, ⟨fun a z => by rw [hs_ne z.1, hs_ne z.2.2.1]; exact FM.1 a z, fun s a => by rw [hset_v, if_neg (fun w => a w.2), hs_ne (by decide)]; exact FM.2 s a⟩, by rw [hset_v, if_pos ⟨rfl, rfl⟩, ce]; omega, fun k b => ?_, fun u a b => by rw [hs_ne (by decide), hs_ne (by decide)]; exact mN u a b⟩
        rw [ce] at b
        rw [hs_ne (by decide), hset_v, arO]
        by_cases z : (k : Int) = cnO K p j
        · rw [if_pos ⟨rfl, z⟩, if_pos ⟨⟨q, q2⟩, z⟩]
        · rw [if_neg (fun w => z w.2), if_neg (fun w => z w.2)]
          exact mA k (by omega)
      · have ce : cnO K p (j + 1) = cnO K p j := by rw [cnO, if_neg (fun w => q2 w.2)]
        have ab : ¬ i_and (i_shr (K 2656 (stU K j)) p) 1 = 1 := q2
        simp (implicitDefEqProofs := false) (disch := omega) only [b440_3, b440_4, q440_4, x_aload0, x_dup0, x_dup3, x_gc_11803, x_gc_11859, x_gc_11875, x_gc_11995, x_gc_12003, x_gc_12355, x_gf_11339, x_gf_12008, x_goto_3, x_goto_4, x_iadd, x_iaload, x_iand, x_iastore, x_iconst, x_if_icmp_ge_5, x_if_icmp_ne_4, x_iinc3, x_iload1, x_iload2, x_iload3, x_ishr, x_pf_12008, klp_0, klp_1, klp_2, klp_3, klp_9, KC_0, KC_1, KC_2, KC_3, KC_4, ne_eq, not_false_eq_true, not_true_eq_false, true_and, and_true, and_self, implies_true, eq_self, true_imp_iff, false_implies, Int.reduceEq, Int.reduceNe, Int.reduceMod, Int.reduceMul, Int.reduceAdd, Int.reduceSub, Int.reduceLT, Int.reduceLE, Nat.reduceAdd, Nat.reduceLeDiff, Nat.reduceLT, Nat.reduceSub, reduceIte, wds_n, wds_0, wds_1, wds_2, wds_3, or_true, true_or, or_false, false_or, or_self, false_and, and_false, d_pos, d_s1, d_s2, d_s3, d_s4, d_s5, d_s6, d_s7, d_s8, Classical.not_not, z6603_91, z12896_l, ← hM, z6603_74, z11872_l, p74, eq_true q, z6603_76, z12000_l, p76, m9, r8 hS, r8l hS, r8k hS, TR_0 hS, TR_k hS, p8, z6603_67, z11744_l, pA, ab, le_T, le_F, lt_T, lt_F, w32_T]
        refine n2 _ _ ⟨rfl, FM, by rw [ce]; exact m93, fun k b => ?_, mN⟩
        rw [ce] at b
        rw [arO, if_neg (fun w => q2 w.1.2)]
        exact mA k b
    · have ce : cnO K p (j + 1) = cnO K p j := by rw [cnO, if_neg (fun w => q w.1)]
      simp (implicitDefEqProofs := false) (disch := omega) only [b440_3, b440_4, q440_4, x_aload0, x_dup0, x_dup3, x_gc_11803, x_gc_11859, x_gc_11875, x_gc_11995, x_gc_12003, x_gc_12355, x_gf_11339, x_gf_12008, x_goto_3, x_goto_4, x_iadd, x_iaload, x_iand, x_iastore, x_iconst, x_if_icmp_ge_5, x_if_icmp_ne_4, x_iinc3, x_iload1, x_iload2, x_iload3, x_ishr, x_pf_12008, klp_0, klp_1, klp_2, klp_3, klp_9, KC_0, KC_1, KC_2, KC_3, KC_4, ne_eq, not_false_eq_true, not_true_eq_false, true_and, and_true, and_self, implies_true, eq_self, true_imp_iff, false_implies, Int.reduceEq, Int.reduceNe, Int.reduceMod, Int.reduceMul, Int.reduceAdd, Int.reduceSub, Int.reduceLT, Int.reduceLE, Nat.reduceAdd, Nat.reduceLeDiff, Nat.reduceLT, Nat.reduceSub, reduceIte, wds_n, wds_0, wds_1, wds_2, wds_3, or_true, true_or, or_false, false_or, or_self, false_and, and_false, d_pos, d_s1, d_s2, d_s3, d_s4, d_s5, d_s6, d_s7, d_s8, Classical.not_not, z6603_91, z12896_l, ← hM, z6603_74, z11872_l, p74, q, le_T, le_F, lt_T, lt_F, w32_T]
      refine n2 _ _ ⟨rfl, FM, by rw [ce]; exact m93, fun k b => ?_, mN⟩
      rw [ce] at b
      rw [arO, if_neg (fun w => q w.1.1)]
      exact mA k b
  · rintro ls h' ⟨rfl, F, e6, eA, e9⟩
    refine G_in ?_
    simp (implicitDefEqProofs := false) (disch := omega) only [b440_3, x_aload0, x_dup0, x_dup3, x_gc_11803, x_gc_11859, x_gc_11875, x_gc_11995, x_gc_12003, x_gc_12355, x_gf_11339, x_gf_12008, x_goto_4, x_iadd, x_iaload, x_iand, x_iastore, x_iconst, x_if_icmp_ge_5, x_if_icmp_ne_4, x_iload1, x_iload2, x_iload3, x_ishr, x_pf_12008, klp_0, klp_1, klp_2, klp_3, klp_9, KC_0, KC_1, KC_2, KC_3, KC_4, ne_eq, not_false_eq_true, not_true_eq_false, true_and, and_true, and_self, implies_true, eq_self, true_imp_iff, false_implies, Int.reduceEq, Int.reduceNe, Int.reduceMod, Int.reduceMul, Int.reduceAdd, Int.reduceSub, Int.reduceLT, Int.reduceLE, Nat.reduceAdd, Nat.reduceLeDiff, Nat.reduceLT, Nat.reduceSub, reduceIte, wds_n, wds_0, wds_1, wds_2, wds_3, or_true, true_or, or_false, false_or, or_self, false_and, and_false, d_pos, d_s1, d_s2, d_s3, d_s4, d_s5, d_s6, d_s7, d_s8, Classical.not_not, le_T, le_F, lt_T, lt_F, w32_T]
    exact nx h' F e6 eA (fun u a b => e9 u a (by omega)) _
