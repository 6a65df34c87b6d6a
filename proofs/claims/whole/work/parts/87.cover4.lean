/-! THE PURE SIDE, 68: cover, the class to its end: printed by wip/tools/gen87.py -/
/-- while the class fills -/
def FlF (h K : HV) (p : Int) : Prop := (∀ a, a ≠ 2568 ∧ a ≠ 2720 ∧ a ≠ 2784 → K a = h a) ∧ (∀ s, s ≠ 4 → s ≠ 6 → s ≠ 10 → K 2568 s = h 2568 s) ∧ K 2568 4 = 1 ∧ K 2568 10 = p
theorem peU_c {h K : HV} {u : Int} (hT : TC (h 64 8)) (F : ∀ a, a ≠ 2568 ∧ a ≠ 2720 ∧ a ≠ 2784 → K a = h a) : perF K (K 2528 u) = peU h u := by
  unfold peU perF
  have e1 : K 64 = h 64 := F _ (by decide)
  have e2 : K 2528 = h 2528 := F _ (by decide)
  have e3 : K (h 64 8 + 598) = h (h 64 8 + 598) := F _ (by rcases hT with w | w <;> omega)
  rw [e1, e2, e3]
theorem stU_c {h K : HV} {u : Int} (hT : TC (h 64 8)) (F : ∀ a, a ≠ 2568 ∧ a ≠ 2720 ∧ a ≠ 2784 → K a = h a) : stU K u = stU h u := by
  unfold stU lsU
  have e1 : K 64 = h 64 := F _ (by decide)
  have e2 : K (h 64 8 + 1174) = h (h 64 8 + 1174) := F _ (by rcases hT with w | w <;> omega)
  have e3 : K (h 64 8 + 1046) = h (h 64 8 + 1046) := F _ (by rcases hT with w | w <;> omega)
  rw [e1, e2, e3]
theorem lp309 {d : Nat} {h K0 : HV} {Q : Int → HV → Prop} {p : Int} (X : RTx h) (U : RTu h) (L : RTl h) (I : RTi h) (ht : h 1927 0 = h 64 8) (h1 : h 2568 1 = h 64 8) (hf : h 1927 13 = 1) (F0 : FlF h K0 p) (z0 : K0 2568 6 = 0)
    (nx : ∀ K : HV, FlF h K p → K 2568 6 = cnO h p (h (h 64 8) 11).toNat → (∀ k : Nat, k < cnO h p (h (h 64 8) 11).toNat → K 2784 k = arO h p (h (h 64 8) 11).toNat k) → (∀ u, 0 ≤ u → u < h (h 64 8) 11 → K 2720 u = -9) → ∀ z, G fz1 (d + 4) 309 4 [(3, 2568), (0, p), (0, (buN h p (h (h 64 8) 11).toNat : Int)), z] [] K Q) : G fz1 (d + 4) 309 1 [(3, 2568), (0, p), (0, 0), (0, 0)] [] K0 Q := by
  have hT := X.1
  have hU := U.1
  have X2 := rtx_2 X
  refine forG (N := (h (h 64 8) 11).toNat) (I := fun j ls h' => ls = [(3, 2568), (0, p), (0, (buN h p j : Int)), (0, (j : Int))] ∧ FlF h h' p ∧ h' 2568 6 = cnO h p j ∧ (∀ k : Nat, k < cnO h p j → h' 2784 k = arO h p j k) ∧ (∀ u, 0 ≤ u → u < (j : Int) → h' 2720 u = -9)) ?_ ?_ (j := 0) (Nat.zero_le _) ⟨rfl, F0, z0, fun k b => by rw [cnO] at b; omega, fun u a b => by omega⟩
  · rintro j ls h' hj ⟨rfl, F, e6, eA, e9⟩ n2
    have hju : 0 ≤ (j : Int) ∧ (j : Int) < h (h 64 8) 11 := by omega
    have j36 : 0 ≤ (j : Int) ∧ (j : Int) < 36 := by omega
    have lb := les_b X U hju
    have sb := st_b X U L hju
    have s10 : 0 ≤ stU h j ∧ stU h j < 10 := by omega
    have bl := bu_lt (h := h) (p := p) j (fun u a b => by have := st_b X U L (u := u) (by omega); omega)
    have c6 := cn_6 (p := p) X I hf (j := j + 1) (by omega)
    have X4 := rtx_4 X
    -- the heap with nobody yet
    obtain ⟨M, hM⟩ : ∃ M, M = hset h' 2720 (j : Int) (-9) := ⟨_, rfl⟩
    have mf : ∀ a, a ≠ 2720 → M a = h' a := fun a ha => by rw [hM, hs_ne ha]
    have FM : FlF h M p := ⟨fun a q => by rw [mf a q.2.1]; exact F.1 a q, fun s a b c => by rw [mf _ (by decide)]; exact F.2.1 s a b c, by rw [mf _ (by decide)]; exact F.2.2.1, by rw [mf _ (by decide)]; exact F.2.2.2⟩
    have m1 : M 2568 1 = h 64 8 := by rw [FM.2.1 1 (by decide) (by decide) (by decide)]; exact h1
    have m64 : M 64 = h 64 := FM.1 _ (by decide)
    have mT : TC (M 64 8) := by rw [m64]; exact hT
    have mt : M 1927 0 = M 64 8 := by rw [FM.1 1927 (by decide), m64]; exact ht
    have pe : perF M (M 2528 j) = peU h j := peU_c hT FM.1
    have se : stU M j = stU h j := stU_c hT FM.1
    have m1' : M 2568 1 = M 64 8 := by rw [m64]; exact m1
    have ml : 0 ≤ M (M 64 8 + 1174) j ∧ M (M 64 8 + 1174) j < 12 := by
      rw [m64, FM.1 _ (by rcases hT with w | w <;> omega)]
      unfold lsU at lb
      omega
    have m6 : M 2568 6 = cnO h p j := by rw [mf _ (by decide)]; exact e6
    have m10 : M 2568 10 = p := FM.2.2.2
    have m2656 : M 2656 = h 2656 := FM.1 _ (by decide)
    have mA : ∀ k : Nat, k < cnO h p j → M 2784 k = arO h p j k := fun k b => by rw [mf _ (by decide)]; exact eA k b
    have m9 : ∀ u, 0 ≤ u → u < ((j + 1 : Nat) : Int) → M 2720 u = -9 := fun u a b => by
      rw [hM, hset_v]
      by_cases q : u = j
      · rw [if_pos ⟨rfl, q⟩]
      · rw [if_neg (fun w => q w.2)]
        exact e9 u a (by omega)
    have hTU : h' (h 64 8) = h (h 64 8) := F.1 _ (by rcases hT with w | w <;> omega)
    have h1' : h' 2568 1 = h 64 8 := by rw [F.2.1 1 (by decide) (by decide) (by decide)]; exact h1
    have T0 : TC (h 64 8) := hT
    refine G_in ?_
    by_cases q : peU h j = p
    · have bo := bit_or (m := buN h p j) (s := (stU h j).toNat) bl (by omega)
      rw [show (((stU h j).toNat : Nat) : Int) = stU h j by omega] at bo
      have be : buN h p (j + 1) = buN h p j ||| 2 ^ (stU h j).toNat := by rw [buN, if_pos q]
      by_cases q2 : abB h p (stU h j) = 1
      · have ce : cnO h p (j + 1) = cnO h p j + 1 := by rw [cnO, if_pos ⟨q, q2⟩]
        have ab : (if i_and (i_shr (M 2656 (stU h j)) (M 2568 10)) 1 = 1 then (1 : Int) else 0) = 1 := by
          rw [m2656, m10, if_pos]
          exact q2
        rw [ce] at c6
        simp (implicitDefEqProofs := false) (disch := omega) only [b309_1, b309_2, b309_3, q309_2, q309_3, x_aload0, y_call270, y_call310, y_call311, x_dup0, x_dup3, x_gc_8195, x_gc_8219, x_gc_8235, x_gf_10328, x_gf_8203, x_gf_8240, x_goto_1, x_goto_3, x_iadd, x_iastore, x_iconst, x_ifCond_eq_3, x_if_icmp_eq_2, x_if_icmp_ge_3, x_if_icmp_ge_4, x_iinc3, x_iload1, x_iload2, x_iload3, x_ior, x_ishl, x_istore2, x_pf_8240, klp_0, klp_1, klp_2, klp_3, klp_9, KC_0, KC_1, KC_2, KC_3, KC_4, ne_eq, not_false_eq_true, not_true_eq_false, true_and, and_true, and_self, implies_true, eq_self, true_imp_iff, false_implies, Int.reduceEq, Int.reduceNe, Int.reduceMod, Int.reduceMul, Int.reduceAdd, Int.reduceSub, Int.reduceLT, Int.reduceLE, Nat.reduceAdd, Nat.reduceLeDiff, Nat.reduceLT, Nat.reduceSub, reduceIte, wds_n, wds_0, wds_1, wds_2, wds_3, or_true, true_or, or_false, false_or, or_self, false_and, and_false, d_pos, d_s1, d_s2, d_s3, d_s4, d_s5, d_s6, d_s7, d_s8, Classical.not_not, h1', TC_0 T0, TC_k T0, hTU, z2568_3, z2720_l, ← hM, z2568_0, s270 mT mt j36, pe, eq_true q, s310 mT m1' j36 ml, se, bo, s311 s10, ab, m6, z2568_5, z2784_l, hs_ne, le_T, le_F, lt_T, lt_F, w32_T]
        rw [← be]
        refine n2 _ _ ⟨rfl, ⟨fun a z => by rw [hs_ne z.1, hs_ne z.2.2]; exact FM.1 a z, fun s a b c => by rw [hset_v, if_neg (fun w => b w.2), hs_ne (by decide)]; exact FM.2.1 s a b c, by rw [hset_v, if_neg (by decide), hs_ne (by decide)]; exact FM.2.2.1, by rw [hset_v, if_neg (by decide), hs_ne (by decide)]; exact FM.2.2.2⟩, by rw [hset_v, if_pos ⟨rfl, rfl⟩, ce]; omega, fun k b => ?_, fun u a b => by rw [hs_ne (by decide), hs_ne (by decide)]; exact m9 u a b⟩
        rw [ce] at b
        rw [hs_ne (by decide), hset_v, arO]
        by_cases z : (k : Int) = cnO h p j
        · rw [if_pos ⟨rfl, z⟩, if_pos ⟨⟨q, q2⟩, z⟩]
        · rw [if_neg (fun w => z w.2), if_neg (fun w => z w.2)]
          exact mA k (by omega)
      · have ce : cnO h p (j + 1) = cnO h p j := by rw [cnO, if_neg (fun w => q2 w.2)]
        have ab : (if i_and (i_shr (M 2656 (stU h j)) (M 2568 10)) 1 = 1 then (1 : Int) else 0) = 0 := by
          rw [m2656, m10, if_neg]
          exact q2
        simp (implicitDefEqProofs := false) (disch := omega) only [b309_1, b309_2, b309_3, q309_2, q309_3, x_aload0, y_call270, y_call310, y_call311, x_dup0, x_dup3, x_gc_8195, x_gc_8219, x_gc_8235, x_gf_10328, x_gf_8203, x_gf_8240, x_goto_1, x_goto_3, x_iadd, x_iastore, x_iconst, x_ifCond_eq_3, x_if_icmp_eq_2, x_if_icmp_ge_3, x_if_icmp_ge_4, x_iinc3, x_iload1, x_iload2, x_iload3, x_ior, x_ishl, x_istore2, x_pf_8240, klp_0, klp_1, klp_2, klp_3, klp_9, KC_0, KC_1, KC_2, KC_3, KC_4, ne_eq, not_false_eq_true, not_true_eq_false, true_and, and_true, and_self, implies_true, eq_self, true_imp_iff, false_implies, Int.reduceEq, Int.reduceNe, Int.reduceMod, Int.reduceMul, Int.reduceAdd, Int.reduceSub, Int.reduceLT, Int.reduceLE, Nat.reduceAdd, Nat.reduceLeDiff, Nat.reduceLT, Nat.reduceSub, reduceIte, wds_n, wds_0, wds_1, wds_2, wds_3, or_true, true_or, or_false, false_or, or_self, false_and, and_false, d_pos, d_s1, d_s2, d_s3, d_s4, d_s5, d_s6, d_s7, d_s8, Classical.not_not, h1', TC_0 T0, TC_k T0, hTU, z2568_3, z2720_l, ← hM, z2568_0, s270 mT mt j36, pe, eq_true q, s310 mT m1' j36 ml, se, bo, s311 s10, ab, le_T, le_F, lt_T, lt_F, w32_T]
        rw [← be]
        refine n2 _ _ ⟨rfl, FM, by rw [ce]; exact m6, fun k b => ?_, m9⟩
        rw [ce] at b
        rw [arO, if_neg (fun w => q2 w.1.2)]
        exact mA k b
    · have be : buN h p (j + 1) = buN h p j := by rw [buN, if_neg q]
      have ce : cnO h p (j + 1) = cnO h p j := by rw [cnO, if_neg (fun w => q w.1)]
      simp (implicitDefEqProofs := false) (disch := omega) only [b309_1, b309_3, q309_3, x_aload0, y_call270, x_gc_8195, x_gc_8219, x_gf_10328, x_gf_8203, x_goto_1, x_goto_3, x_iastore, x_iconst, x_if_icmp_eq_2, x_if_icmp_ge_4, x_iinc3, x_iload1, x_iload3, klp_0, klp_1, klp_2, klp_3, klp_9, KC_0, KC_1, KC_2, KC_3, KC_4, ne_eq, not_false_eq_true, not_true_eq_false, true_and, and_true, and_self, implies_true, eq_self, true_imp_iff, false_implies, Int.reduceEq, Int.reduceNe, Int.reduceMod, Int.reduceMul, Int.reduceAdd, Int.reduceSub, Int.reduceLT, Int.reduceLE, Nat.reduceAdd, Nat.reduceLeDiff, Nat.reduceLT, Nat.reduceSub, reduceIte, wds_n, wds_0, wds_1, wds_2, wds_3, or_true, true_or, or_false, false_or, or_self, false_and, and_false, d_pos, d_s1, d_s2, d_s3, d_s4, d_s5, d_s6, d_s7, d_s8, Classical.not_not, h1', TC_0 T0, TC_k T0, hTU, z2568_3, z2720_l, ← hM, z2568_0, s270 mT mt j36, pe, q, le_T, le_F, lt_T, lt_F, w32_T]
      rw [← be]
      refine n2 _ _ ⟨rfl, FM, by rw [ce]; exact m6, fun k b => ?_, m9⟩
      rw [ce] at b
      rw [arO, if_neg (fun w => q w.1.1)]
      exact mA k b
  · rintro ls h' ⟨rfl, F, e6, eA, e9⟩
    have hTU : h' (h 64 8) = h (h 64 8) := F.1 _ (by rcases hT with w | w <;> omega)
    have h1' : h' 2568 1 = h 64 8 := by rw [F.2.1 1 (by decide) (by decide) (by decide)]; exact h1
    refine G_in ?_
    simp (implicitDefEqProofs := false) (disch := omega) only [b309_1, x_aload0, y_call270, x_gc_8195, x_gc_8219, x_gf_10328, x_gf_8203, x_goto_3, x_iastore, x_iconst, x_if_icmp_eq_2, x_if_icmp_ge_4, x_iload1, x_iload3, klp_0, klp_1, klp_2, klp_3, klp_9, KC_0, KC_1, KC_2, KC_3, KC_4, ne_eq, not_false_eq_true, not_true_eq_false, true_and, and_true, and_self, implies_true, eq_self, true_imp_iff, false_implies, Int.reduceEq, Int.reduceNe, Int.reduceMod, Int.reduceMul, Int.reduceAdd, Int.reduceSub, Int.reduceLT, Int.reduceLE, Nat.reduceAdd, Nat.reduceLeDiff, Nat.reduceLT, Nat.reduceSub, reduceIte, wds_n, wds_0, wds_1, wds_2, wds_3, or_true, true_or, or_false, false_or, or_self, false_and, and_false, d_pos, d_s1, d_s2, d_s3, d_s4, d_s5, d_s6, d_s7, d_s8, Classical.not_not, h1', TC_0 hT, TC_k hT, hTU, le_T, le_F, lt_T, lt_F, w32_T]
    exact nx h' F e6 eA (fun u a b => e9 u a (by omega)) _
def nO (h : HV) (p : Int) : Nat := cnO h p (h (h 64 8) 11).toNat
def tO (h : HV) (p : Int) : Nat → Nat → Int := tCv h p (nO h p) (h (h 64 8) 11).toNat
def mO (h : HV) (p : Int) : Nat := mkN h p (h (h 64 8) 11).toNat (h (h 64 8 + 598) 2).toNat
def cO (h : HV) (p : Int) (k : Nat) (u : Int) : Int := coA h p (nO h p) (h (h 64 8) 11).toNat (tO h p) (mO h p) k u
theorem s309 {d : Nat} {h : HV} {Q : Int → HV → Prop} {p : Int} (X : RTx h) (U : RTu h) (L : RTl h) (I : RTi h) (ht : h 1927 0 = h 64 8) (h1 : h 2568 1 = h 64 8) (hf : h 1927 13 = 1)
    (nx : ∀ K : HV, (∀ a, a ≠ 2568 ∧ a ≠ 2720 ∧ a ≠ 2784 ∧ a ≠ 2848 ∧ a ≠ 2912 → K a = h a) → (∀ s, s ≠ 4 → s ≠ 6 → s ≠ 9 → s ≠ 10 → K 2568 s = h 2568 s) → K 2568 4 = 1 → (∀ u, 0 ≤ u → u < h (h 64 8) 11 → K 2720 u = cO h p (nO h p) u) → Q ((nO h p : Int) - FCv (tO h p) (nO h p) (mO h p)) K) : Sp fz1 (d + 14) 309 [(3, 2568), (0, p)] h Q := by
  have hT := X.1
  have hU := U.1
  have X2 := rtx_2 X
  have X4 := rtx_4 X
  obtain ⟨K0, hK0⟩ : ∃ K0, K0 = hset (hset (hset h 2568 10 p) 2568 4 1) 2568 6 0 := ⟨_, rfl⟩
  have k0 : ∀ s, K0 2568 s = if s = 6 then 0 else if s = 4 then 1 else if s = 10 then p else h 2568 s := fun s => by
    rw [hK0, hset_v, hset_v, hset_v]
    by_cases a : s = 6
    · rw [if_pos ⟨rfl, a⟩, if_pos a]
    · rw [if_neg (fun w => a w.2), if_neg a]
      by_cases b : s = 4
      · rw [if_pos ⟨rfl, b⟩, if_pos b]
      · rw [if_neg (fun w => b w.2), if_neg b]
        by_cases c : s = 10
        · rw [if_pos ⟨rfl, c⟩, if_pos c]
        · rw [if_neg (fun w => c w.2), if_neg c]
  have F0 : FlF h K0 p := ⟨fun a q => by rw [hK0, hs_ne q.1, hs_ne q.1, hs_ne q.1], fun s a b c => by rw [k0, if_neg b, if_neg a, if_neg c], by rw [k0]; rfl, by rw [k0]; rfl⟩
  simp (implicitDefEqProofs := false) (disch := omega) only [sp309, b309_0, x_aload0, x_goto_1, x_iconst, x_iload1, x_istore2, x_istore3, x_pf_8228, x_pf_8240, x_pf_8272, klp_0, klp_1, klp_2, klp_3, klp_9, KC_0, KC_1, KC_2, KC_3, KC_4, ne_eq, not_false_eq_true, not_true_eq_false, true_and, and_true, and_self, implies_true, eq_self, true_imp_iff, false_implies, Int.reduceEq, Int.reduceNe, Int.reduceMod, Int.reduceMul, Int.reduceAdd, Int.reduceSub, Int.reduceLT, Int.reduceLE, Nat.reduceAdd, Nat.reduceLeDiff, Nat.reduceLT, Nat.reduceSub, reduceIte, wds_n, wds_0, wds_1, wds_2, wds_3, or_true, true_or, or_false, false_or, or_self, false_and, and_false, d_pos, d_s1, d_s2, d_s3, d_s4, d_s5, d_s6, d_s7, d_s8, Classical.not_not, ← hK0]
  refine lp309 (d := d + 10) X U L I ht h1 hf F0 (by rw [k0]; rfl) (fun K F e6 eA e9 z => ?_)
  have n6 := cn_6 (p := p) X I hf (j := (h (h 64 8) 11).toNat) (by omega)
  have nE : cnO h p (h (h 64 8) 11).toNat = nO h p := rfl
  rw [nE] at e6 eA n6
  have sB : ∀ u : Int, 0 ≤ u → u < (((h (h 64 8) 11).toNat : Nat) : Int) → 0 ≤ stU h u ∧ stU h u < 10 := fun u a b => by have := st_b X U L (u := u) (by omega); omega
  have bl := bu_lt (h := h) (p := p) (h (h 64 8) 11).toNat sB
  obtain ⟨K4, hK4⟩ : ∃ K4, K4 = hset K 2568 9 (-1) := ⟨_, rfl⟩
  have f4 : ∀ a, a ≠ 2568 → K4 a = K a := fun a ha => by rw [hK4, hs_ne ha]
  have s4 : ∀ s, s ≠ 9 → K4 2568 s = K 2568 s := fun s hs => by rw [hK4, hset_v, if_neg (fun w => hs w.2)]
  have g4 : ∀ a, a ≠ 2568 ∧ a ≠ 2720 ∧ a ≠ 2784 → K4 a = h a := fun a q => by rw [f4 a q.1]; exact F.1 a q
  have k64 : K4 64 = h 64 := g4 _ (by decide)
  have kS : K4 (h 64 8 + 598) = h (h 64 8 + 598) := g4 _ (by rcases hT with w | w <;> omega)
  have kL : K4 (h 64 8 + 1174) = h (h 64 8 + 1174) := g4 _ (by rcases hT with w | w <;> omega)
  have kJ : K4 (h 64 8 + 918) = h (h 64 8 + 918) := g4 _ (by rcases hT with w | w <;> omega)
  have kV : K4 (h 64 8 + 790) = h (h 64 8 + 790) := g4 _ (by rcases hT with w | w <;> omega)
  have k6 : K4 2568 6 = nO h p := by rw [s4 6 (by decide)]; exact e6
  have k9 : K4 2568 9 = -1 := by rw [hK4, hset_v, if_pos ⟨rfl, rfl⟩]
  have k10 : K4 2568 10 = p := by rw [s4 10 (by decide)]; exact F.2.2.2
  have kA : ∀ k : Nat, k < nO h p → K4 2784 k = arO h p (h (h 64 8) 11).toNat k := fun k hk => by rw [f4 _ (by decide)]; exact eA k hk
  have k2656 : K4 2656 = h 2656 := g4 _ (by decide)
  have k2016 : K4 2016 = h 2016 := g4 _ (by decide)
  have arb := fun (k : Nat) (hk : k < nO h p) => ar_b (h := h) (p := p) (h (h 64 8) 11).toNat k (by omega) (by rw [nE]; omega)
  have H : HtC K4 (nO h p) (tO h p) := by
    refine ⟨by rw [s4 1 (by decide), F.2.1 1 (by decide) (by decide) (by decide), k64]; exact h1, fun k hk => ?_, fun r s hr hs => ?_⟩
    · have a := arb k hk
      have lb := les_b X U (u := arO h p (h (h 64 8) 11).toNat k) (by omega)
      rw [kA k hk, k64, kL, kJ]
      have sj := (L.2 _ lb.1 lb.2).2.1.1
      unfold lsU at lb sj
      omega
    · rw [k64, kS] at hs
      rw [k64, kV, kJ, kL, kA _ (by omega)]
      have a := arb (nO h p - 1 - r) (by omega)
      have lb := les_b X U (u := arO h p (h (h 64 8) 11).toNat ((nO h p - 1 - r : Nat) : Int)) (by omega)
      unfold tO tCv
      rw [L.1 s (by omega) hs, (L.2 _ lb.1 lb.2).1]
      rfl
  have R : RlC K4 (buN h p (h (h 64 8) 11).toNat) (mO h p) := by
    refine ⟨bl, mk_lt _ (by omega), fun s hs => ?_⟩
    have bt := bu_t (h := h) (p := p) (s := s) (h (h 64 8) 11).toNat sB
    unfold mO
    rw [mk_t, fr_t, k64, kS, k2656, k2016, k10]
    constructor
    · rintro ⟨a, ⟨b1, b2⟩, c⟩
      refine ⟨by omega, ?_, b1, b2⟩
      cases hx : (buN h p (h (h 64 8) 11).toNat).testBit s with
      | false => rfl
      | true =>
        obtain ⟨u, u0, u1, u2, u3⟩ := bt.1 hx
        exact absurd ⟨u2, u3⟩ (c u u0 u1)
    · rintro ⟨a, b, c1, c2⟩
      refine ⟨by omega, ⟨c1, c2⟩, fun u u0 u1 w => ?_⟩
      have := bt.2 ⟨u, u0, u1, w.1, w.2⟩
      rw [b] at this
      exact absurd this (by decide)
  refine G_in ?_
  simp (implicitDefEqProofs := false) (disch := omega) only [b309_4, q309_4, x_aload0, y_call312, x_goto_5, x_iconst, x_iload2, x_istore3, x_pf_8264, klp_0, klp_1, klp_2, klp_3, klp_9, KC_0, KC_1, KC_2, KC_3, KC_4, ne_eq, not_false_eq_true, not_true_eq_false, true_and, and_true, and_self, implies_true, eq_self, true_imp_iff, false_implies, Int.reduceEq, Int.reduceNe, Int.reduceMod, Int.reduceMul, Int.reduceAdd, Int.reduceSub, Int.reduceLT, Int.reduceLE, Nat.reduceAdd, Nat.reduceLeDiff, Nat.reduceLT, Nat.reduceSub, reduceIte, wds_n, wds_0, wds_1, wds_2, wds_3, or_true, true_or, or_false, false_or, or_self, false_and, and_false, d_pos, d_s1, d_s2, d_s3, d_s4, d_s5, d_s6, d_s7, d_s8, Classical.not_not, ← hK4]
  have st := s312 (h := K4) (n := nO h p) (t := tO h p) (d := d + 10 - nO h p) n6 k6 (by rw [k64]; exact hT) (by rw [k64, kS]; omega) H (nO h p) (d + 13) 0 (buN h p (h (h 64 8) 11).toNat) (mO h p) 0 K4
  rw [show (((0 : Nat)) : Int) = 0 from rfl] at st
  refine st _ (by omega) (by omega) R ⟨fun a _ => rfl, fun s _ => rfl⟩ (by omega) (by omega) (fun K2 c1 c2 c3 c4 => ?_)
  simp (implicitDefEqProofs := false) (disch := omega) only [b309_4, q309_4, x_aload0, y_call312, x_goto_5, x_iconst, x_iload2, x_istore3, x_pf_8264, klp_0, klp_1, klp_2, klp_3, klp_9, KC_0, KC_1, KC_2, KC_3, KC_4, ne_eq, not_false_eq_true, not_true_eq_false, true_and, and_true, and_self, implies_true, eq_self, true_imp_iff, false_implies, Int.reduceEq, Int.reduceNe, Int.reduceMod, Int.reduceMul, Int.reduceAdd, Int.reduceSub, Int.reduceLT, Int.reduceLE, Nat.reduceAdd, Nat.reduceLeDiff, Nat.reduceLT, Nat.reduceSub, reduceIte, wds_n, wds_0, wds_1, wds_2, wds_3, or_true, true_or, or_false, false_or, or_self, false_and, and_false, d_pos, d_s1, d_s2, d_s3, d_s4, d_s5, d_s6, d_s7, d_s8, Classical.not_not]
  have fb := FCv_b (t := tO h p) (nO h p) (mO h p)
  rw [Int.zero_add] at c4
  rcases c4 with ⟨p1, p2, p3⟩ | ⟨p1, p2, p3⟩
  · have q6 : K2 2568 6 = nO h p := by rw [c1.2 6 (by decide)]; exact k6
    refine forG (N := nO h p) (I := fun j ls h' => (∃ w, ls = [(3, 2568), (0, p), w, (0, (j : Int))]) ∧ (∀ a, a ≠ 2720 → h' a = K2 a) ∧ (∀ u, 0 ≤ u → u < h (h 64 8) 11 → h' 2720 u = cO h p j u)) ?_ ?_ (j := 0) (Nat.zero_le _) ⟨⟨_, rfl⟩, fun _ _ => rfl, fun u u0 u1 => by rw [c1.1 2720 (by decide), f4 2720 (by decide), e9 u u0 u1]; rfl⟩
    · rintro j ls h' hj ⟨⟨w, rfl⟩, fr, vl⟩ n2
      have a := arb j hj
      have o1 : h' 2784 j = arO h p (h (h 64 8) 11).toNat j := by rw [fr _ (by decide), c1.1 _ (by decide)]; exact kA j hj
      have o2 : h' 2912 j = paC (tO h p) (nO h p) (mO h p) j := by
        rw [fr _ (by decide), p3 j hj, if_neg (by omega), Nat.sub_zero]
      have o6 : h' 2568 6 = nO h p := by rw [fr _ (by decide)]; exact q6
      refine G_in ?_
      simp (implicitDefEqProofs := false) (disch := omega) only [b309_5, x_aload0, x_gc_8219, x_gc_8235, x_gc_8259, x_gf_8240, x_goto_5, x_iaload, x_iastore, x_if_icmp_ge_6, x_iinc3, x_iload3, klp_0, klp_1, klp_2, klp_3, klp_9, KC_0, KC_1, KC_2, KC_3, KC_4, ne_eq, not_false_eq_true, not_true_eq_false, true_and, and_true, and_self, implies_true, eq_self, true_imp_iff, false_implies, Int.reduceEq, Int.reduceNe, Int.reduceMod, Int.reduceMul, Int.reduceAdd, Int.reduceSub, Int.reduceLT, Int.reduceLE, Nat.reduceAdd, Nat.reduceLeDiff, Nat.reduceLT, Nat.reduceSub, reduceIte, wds_n, wds_0, wds_1, wds_2, wds_3, or_true, true_or, or_false, false_or, or_self, false_and, and_false, d_pos, d_s1, d_s2, d_s3, d_s4, d_s5, d_s6, d_s7, d_s8, Classical.not_not, z2568_3, z2720_l, z2568_5, z2784_l, z2568_8, z2912_l, o1, o2, o6, le_T, le_F, lt_T, lt_F, w32_T]
      refine n2 _ _ ⟨⟨_, rfl⟩, fun a ha => by rw [hs_ne ha, fr a ha], fun u u0 u1 => ?_⟩
      rw [hset_v]
      unfold cO
      rw [coA]
      by_cases q : u = arO h p (h (h 64 8) 11).toNat j
      · rw [if_pos ⟨rfl, q⟩, if_pos q]
      · rw [if_neg (fun w => q w.2), if_neg q]
        exact vl u u0 u1
    · rintro ls h' ⟨⟨w, rfl⟩, fr, vl⟩
      have o6 : h' 2568 6 = nO h p := by rw [fr _ (by decide)]; exact q6
      have o9 : h' 2568 9 = FCv (tO h p) (nO h p) (mO h p) := by rw [fr _ (by decide)]; exact p2
      refine G_in ?_
      simp (implicitDefEqProofs := false) (disch := omega) only [b309_5, b309_6, q309_6, x_aload0, x_gc_8219, x_gc_8235, x_gc_8259, x_gf_8240, x_gf_8264, x_goto_5, x_iaload, x_iastore, x_if_icmp_ge_6, x_iinc3, x_iload3, x_ireturn, x_isub, klp_0, klp_1, klp_2, klp_3, klp_9, KC_0, KC_1, KC_2, KC_3, KC_4, ne_eq, not_false_eq_true, not_true_eq_false, true_and, and_true, and_self, implies_true, eq_self, true_imp_iff, false_implies, Int.reduceEq, Int.reduceNe, Int.reduceMod, Int.reduceMul, Int.reduceAdd, Int.reduceSub, Int.reduceLT, Int.reduceLE, Nat.reduceAdd, Nat.reduceLeDiff, Nat.reduceLT, Nat.reduceSub, reduceIte, wds_n, wds_0, wds_1, wds_2, wds_3, or_true, true_or, or_false, false_or, or_self, false_and, and_false, d_pos, d_s1, d_s2, d_s3, d_s4, d_s5, d_s6, d_s7, d_s8, Classical.not_not, o6, o9, le_T, le_F, lt_T, lt_F, w32_T]
      refine nx h' (fun a q => ?_) (fun s s1 s2 s3 s4' => ?_) ?_ vl
      · rw [fr a q.2.1, c1.1 a ⟨q.1, q.2.2.2.1, q.2.2.2.2⟩]
        exact g4 a ⟨q.1, q.2.1, q.2.2.1⟩
      · rw [fr _ (by decide), c1.2 s s3, s4 s s3]
        exact F.2.1 s s1 s2 s4'
      · rw [fr _ (by decide), c1.2 4 (by decide), s4 4 (by decide)]
        exact F.2.2.1
  · omega
