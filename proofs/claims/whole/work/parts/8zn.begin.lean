/-! THE PURE SIDE, 196: reading begins: printed by wip/tools/gen8zn.py -/
/-- the two sides before the first token -/
def rbC (T : Int) (h : HV) : HV := hset (hset (hset (hset (hset (hset (hset (hset (fillH (hset h 258 1 T) (T + 598) 7 0) T 11 0) T 15 0) T 17 0) 258 2 (-1)) 258 11 0) 258 10 0) 129 2 0) 129 3 (-1)
def rbR (S : Int) (h : HV) : HV := hset (hset (hset (hset (hset (hset (hset (hset (hset (hset (hset (hset (hset (hset (hset (hset (hset (hset (hset h 6603 9 S) (S + 84) 0 0) (S + 84) 1 0) (S + 84) 2 0) (S + 84) 3 0) (S + 84) 4 0) (S + 84) 5 0) (S + 84) 6 0) S 14 0) S 15 0) S 20 0) S 21 0) S 22 0) 6603 7 (-9)) 6603 8 (-9)) 6603 12 0) 6603 13 0) 6603 24 0) 6603 4 0
section SM
variable {bX : Int} {tp : Int → Int} {t T S s s1 s2 f fu : Int} {h hr g gr k kr m mr : HV} {Q : Int → HV → Prop} {d : Nat}
theorem MST_0 {q : Int} : 0 ≤ MST q := by
  unfold MST
  repeat' split
  all_goals omega
theorem rbC_o {o : Int} (a : o ≠ 129) (b : o ≠ 258) (c : o ≠ T) (e : o ≠ T + 598) : rbC T h o = h o := by
  unfold rbC
  rw [hs_ne a, hs_ne a, hs_ne b, hs_ne b, hs_ne b, hs_ne c, hs_ne c, hs_ne c, fillH_ne e, hs_ne b]
theorem rbR_o {o : Int} (a : o ≠ 6603) (b : o ≠ S) (c : o ≠ S + 84) : rbR S h o = h o := by
  unfold rbR
  rw [hs_ne a, hs_ne a, hs_ne a, hs_ne a, hs_ne a, hs_ne a, hs_ne b, hs_ne b, hs_ne b, hs_ne b, hs_ne b, hs_ne c, hs_ne c, hs_ne c, hs_ne c, hs_ne c, hs_ne c, hs_ne c, hs_ne a]
theorem c25_0 {e : Nat} (hT : TC T) (p1 : ∀ Q, Sp fz1 (e + 11) 28 [(3, 129), (0, 1)] (rbC T h) Q = Q 0 g) : Sp fz1 (e + 13) 25 [(3, 258), (3, T)] h Q = G fz1 (e + 13) 25 1 [(3, 258), (3, T), (0, 0), (9, 0)] [] g Q := by
  have kT := kTC hT
  have k32 : (T + 598) % 64 = 32 := by rcases hT with rfl | rfl <;> decide
  have fl : ∀ (d : Nat) Q, Sp fz1 d 14 [(3, T + 598), (0, 0)] (hset h 258 1 T) Q = Q 0 (fillH (hset h 258 1 T) (T + 598) 7 0) := fun d Q => s14e k32 (c1l hT).symm (by decide) (by decide)
  have p1 := p1
  unfold rbC at p1
  simp (implicitDefEqProofs := false) (disch := omega) only [sp25, b25_0, x_aload0, x_aload1, y_call26, y_call27, x_gc_2051, x_gf_2059, x_goto_1, x_iconst, x_istore2, x_pf_2059, x_pf_2064, x_pf_2128, x_pf_2136, sp26, b26_0, y_call14, x_gc_10251, x_pf_10328, x_pf_10360, x_pf_10376, x_return, sp27, b27_0, y_call28, x_pf_1040, x_pf_1048, klp_0, klp_1, klp_2, klp_3, klp_9, KC_0, KC_1, KC_2, KC_3, KC_4, ne_eq, not_false_eq_true, not_true_eq_false, true_and, and_true, and_self, implies_true, eq_self, true_imp_iff, false_implies, Int.reduceEq, Int.reduceNe, Int.reduceMod, Int.reduceMul, Int.reduceAdd, Int.reduceSub, Int.reduceLT, Int.reduceLE, Nat.reduceAdd, Nat.reduceLeDiff, Nat.reduceLT, Nat.reduceSub, reduceIte, wds_n, wds_0, wds_1, wds_2, wds_3, or_true, true_or, or_false, false_or, or_self, false_and, and_false, d_pos, d_s1, d_s2, d_s3, d_s4, d_s5, d_s6, d_s7, d_s8, Classical.not_not, z258_0, c1 hT, c1l hT, c1k hT, TC_0 hT, TC_k hT, fl, p1, d_s9, d_s10, d_s11, d_s12, d_s13, d_s14, d_s15, d_s16, d_s17, d_s18, d_s19, d_s20, d_s21, d_s22, d_s23, d_s24, d_s25, d_s26, d_s27, d_s28, d_s29, d_s30, hs_ne, hcell, hcel1, le_sub1, le_T, le_F, lt_T, lt_F, eq_F, w32_T, bz0, bz1, lc_le, lc_ge, lc_lt, lc_gt, lc_eq]
theorem r320_s {old i j : Int} {e2 : Nat} (hS : TR S) (h9 : k 6603 9 = S) (i0 : 0 ≤ i) (i1 : i < 7) (hj : j = i + 1) : G fz1 (e2 + 12) 320 1 [(3, 6603), (3, old), (0, i), (9, 0)] [] k Q = G fz1 (e2 + 12) 320 1 [(3, 6603), (3, old), (0, j), (9, 0)] [] (hset k (S + 84) i 0) Q := by
  subst hj
  conv => lhs; rw [q320_1]
  simp (implicitDefEqProofs := false) (disch := omega) only [b320_1, x_aload0, x_gc_12291, x_gf_11339, x_goto_1, x_iastore, x_iconst, x_if_icmp_ge_2, x_iinc2, x_iload2, klp_0, klp_1, klp_2, klp_3, klp_9, KC_0, KC_1, KC_2, KC_3, KC_4, ne_eq, not_false_eq_true, not_true_eq_false, true_and, and_true, and_self, implies_true, eq_self, true_imp_iff, false_implies, Int.reduceEq, Int.reduceNe, Int.reduceMod, Int.reduceMul, Int.reduceAdd, Int.reduceSub, Int.reduceLT, Int.reduceLE, Nat.reduceAdd, Nat.reduceLeDiff, Nat.reduceLT, Nat.reduceSub, reduceIte, wds_n, wds_0, wds_1, wds_2, wds_3, or_true, true_or, or_false, false_or, or_self, false_and, and_false, d_pos, d_s1, d_s2, d_s3, d_s4, d_s5, d_s6, d_s7, d_s8, Classical.not_not, z6603_20, z9761_l, z6603_21, z9824_l, z6603_22, z9888_l, z6603_23, z9952_l, r0 hS, r0l hS, r0k hS, r11 hS, r11l hS, r11k hS, r17 hS, r17l hS, r17k hS, TR_0 hS, TR_k hS, h9, d_s9, d_s10, d_s11, d_s12, d_s13, d_s14, d_s15, d_s16, d_s17, d_s18, d_s19, d_s20, d_s21, d_s22, d_s23, d_s24, d_s25, d_s26, d_s27, d_s28, d_s29, d_s30, hs_ne, hcell, hcel1, le_sub1, le_T, le_F, lt_T, lt_F, eq_F, w32_T, bz0, bz1, lc_le, lc_ge, lc_lt, lc_gt, lc_eq]
theorem r320_e {old : Int} {e2 : Nat} (hS : TR S) (h9 : k 6603 9 = S) (p1 : ∀ Q, Sp fz1 (e2 + 11) 321 [(3, 6603)] (hset (hset (hset (hset (hset (hset (hset (hset (hset (hset (hset (k) S 14 0) S 15 0) S 20 0) S 21 0) S 22 0) 6603 7 (-9)) 6603 8 (-9)) 6603 12 0) 6603 13 0) 6603 24 0) 6603 4 0) Q = Q 0 g) : G fz1 (e2 + 12) 320 1 [(3, 6603), (3, old), (0, 7), (9, 0)] [] k Q = G fz1 (e2 + 12) 320 3 [(3, 6603), (3, old), (0, 7), (9, 0)] [] g Q := by
  have kS := kTR hS
  conv => lhs; rw [q320_1]
  simp (implicitDefEqProofs := false) (disch := omega) only [b320_1, b320_2, q320_2, x_aload0, y_call321, x_gc_12291, x_gf_11339, x_goto_1, x_goto_3, x_iastore, x_iconst, x_if_icmp_ge_2, x_iinc2, x_iload2, x_pf_11296, x_pf_11320, x_pf_11328, x_pf_11360, x_pf_11368, x_pf_11456, x_pf_12400, x_pf_12408, x_pf_12448, x_pf_12456, x_pf_12464, klp_0, klp_1, klp_2, klp_3, klp_9, KC_0, KC_1, KC_2, KC_3, KC_4, ne_eq, not_false_eq_true, not_true_eq_false, true_and, and_true, and_self, implies_true, eq_self, true_imp_iff, false_implies, Int.reduceEq, Int.reduceNe, Int.reduceMod, Int.reduceMul, Int.reduceAdd, Int.reduceSub, Int.reduceLT, Int.reduceLE, Nat.reduceAdd, Nat.reduceLeDiff, Nat.reduceLT, Nat.reduceSub, reduceIte, wds_n, wds_0, wds_1, wds_2, wds_3, or_true, true_or, or_false, false_or, or_self, false_and, and_false, d_pos, d_s1, d_s2, d_s3, d_s4, d_s5, d_s6, d_s7, d_s8, Classical.not_not, z6603_20, z9761_l, z6603_21, z9824_l, z6603_22, z9888_l, z6603_23, z9952_l, r0 hS, r0l hS, r0k hS, r11 hS, r11l hS, r11k hS, r17 hS, r17l hS, r17k hS, TR_0 hS, TR_k hS, h9, p1, d_s9, d_s10, d_s11, d_s12, d_s13, d_s14, d_s15, d_s16, d_s17, d_s18, d_s19, d_s20, d_s21, d_s22, d_s23, d_s24, d_s25, d_s26, d_s27, d_s28, d_s29, d_s30, hs_ne, hcell, hcel1, le_sub1, le_T, le_F, lt_T, lt_F, eq_F, w32_T, bz0, bz1, lc_le, lc_ge, lc_lt, lc_gt, lc_eq]
theorem r320_0 {old : Int} {e2 : Nat} (hS : TR S) (h10 : h 6603 10 = S) (h09 : h 6603 9 = old) (p1 : ∀ Q, Sp fz1 (e2 + 11) 321 [(3, 6603)] (rbR S h) Q = Q 0 g) : Sp fz1 (e2 + 12) 320 [(3, 6603)] h Q = G fz1 (e2 + 12) 320 3 [(3, 6603), (3, old), (0, 7), (9, 0)] [] g Q := by
  have kS := kTR hS
  have A1 : Sp fz1 (e2 + 12) 320 [(3, 6603)] h Q = G fz1 (e2 + 12) 320 1 [(3, 6603), (3, old), (0, 0), (9, 0)] [] (hset h 6603 9 S) Q := by
    simp (implicitDefEqProofs := false) (disch := omega) only [sp320, b320_0, x_aload0, x_astore1, x_gf_11339, x_gf_11347, x_goto_1, x_iconst, x_istore2, x_pf_11339, klp_0, klp_1, klp_2, klp_3, klp_9, KC_0, KC_1, KC_2, KC_3, KC_4, ne_eq, not_false_eq_true, not_true_eq_false, true_and, and_true, and_self, implies_true, eq_self, true_imp_iff, false_implies, Int.reduceEq, Int.reduceNe, Int.reduceMod, Int.reduceMul, Int.reduceAdd, Int.reduceSub, Int.reduceLT, Int.reduceLE, Nat.reduceAdd, Nat.reduceLeDiff, Nat.reduceLT, Nat.reduceSub, reduceIte, wds_n, wds_0, wds_1, wds_2, wds_3, or_true, true_or, or_false, false_or, or_self, false_and, and_false, d_pos, d_s1, d_s2, d_s3, d_s4, d_s5, d_s6, d_s7, d_s8, Classical.not_not, z6603_20, z9761_l, z6603_21, z9824_l, z6603_22, z9888_l, z6603_23, z9952_l, r0 hS, r0l hS, r0k hS, r11 hS, r11l hS, r11k hS, r17 hS, r17l hS, r17k hS, TR_0 hS, TR_k hS, h10, h09, d_s9, d_s10, d_s11, d_s12, d_s13, d_s14, d_s15, d_s16, d_s17, d_s18, d_s19, d_s20, d_s21, d_s22, d_s23, d_s24, d_s25, d_s26, d_s27, d_s28, d_s29, d_s30, hs_ne, hcell, hcel1, le_sub1, le_T, le_F, lt_T, lt_F, eq_F, w32_T, bz0, bz1, lc_le, lc_ge, lc_lt, lc_gt, lc_eq]
  rw [A1, r320_s (i := 0) (j := 1) hS (by rw [hcel1]) (by decide) (by decide) rfl, r320_s (i := 1) (j := 2) hS (by rw [hs_ne (by omega), hcel1]) (by decide) (by decide) rfl, r320_s (i := 2) (j := 3) hS (by rw [hs_ne (by omega), hs_ne (by omega), hcel1]) (by decide) (by decide) rfl, r320_s (i := 3) (j := 4) hS (by rw [hs_ne (by omega), hs_ne (by omega), hs_ne (by omega), hcel1]) (by decide) (by decide) rfl, r320_s (i := 4) (j := 5) hS (by rw [hs_ne (by omega), hs_ne (by omega), hs_ne (by omega), hs_ne (by omega), hcel1]) (by decide) (by decide) rfl, r320_s (i := 5) (j := 6) hS (by rw [hs_ne (by omega), hs_ne (by omega), hs_ne (by omega), hs_ne (by omega), hs_ne (by omega), hcel1]) (by decide) (by decide) rfl, r320_s (i := 6) (j := 7) hS (by rw [hs_ne (by omega), hs_ne (by omega), hs_ne (by omega), hs_ne (by omega), hs_ne (by omega), hs_ne (by omega), hcel1]) (by decide) (by decide) rfl]
  exact r320_e hS (by rw [hs_ne (by omega), hs_ne (by omega), hs_ne (by omega), hs_ne (by omega), hs_ne (by omega), hs_ne (by omega), hs_ne (by omega), hcel1]) p1
/-- the first token, class -/
theorem c_first {d : Nat} (ht : h 129 1 = t ∧ 0 ≤ t ∧ t ≤ 2400) (h2 : h 129 2 = 0) (h3 : h 129 3 = -1) (h7 : h 227 = tp) (hb : ∀ i, 0 ≤ i → i < t → -128 ≤ tp i ∧ tp i ≤ 127) (S : STR h (-51) SGL) : TOK tp t (wsF tp t 2400 0) ∧ ∃ h1, (TKh tp t (wsF tp t 2400 0) h1 ∧ ∀ o, o ≠ 129 → h1 o = h o) ∧ ∀ Q, Sp fz1 (d + 8) 28 [(3, 129), (0, 1)] h Q = Q 0 h1 := by
  have bn : TOK tp t (wsF tp t 2400 0) := ⟨⟨wsF_ge tp t 2400 0, wsF_le tp t 2400 0 ht.2.1, ht.2.2⟩, hb⟩
  refine ⟨bn, Sp_ex2 (s28n (t := t) (by omega) (by decide) (by omega) ht.1 ht.2.2 (by omega) (by omega) (by rw [h7]; exact hb) S (fun h' C => ?_))⟩
  rw [h7, h2] at C
  obtain ⟨c1, c2, c3, c4, c5, c6, c7, c8, c9, c10⟩ := C
  refine ⟨rfl, ⟨⟨by rw [c2, ht.1], by rw [c3, h3], c4, c5, c6⟩, c7, fun w => ?_, fun w => ?_, c10, by rw [c1 227 (by decide), h7]⟩, c1⟩
  · rw [c8 w]
    have := nuV_n (tp := tp) bn.1.2.1 w
    unfold w64
    omega
  · obtain ⟨a1, a2⟩ := c9 w
    have := nuW_n (tp := tp) bn.1.1 bn.1.2.1 ht.2.2 w
    refine ⟨?_, a2⟩
    rw [a1]
    unfold w64
    omega
/-- the first token, reference -/
theorem r_first {d : Nat} (ht : h 6603 1 = t ∧ 0 ≤ t ∧ t ≤ 2400) (h4 : h 6603 4 = 0) (h7 : h 6603 7 = -9) (e0 : ∀ i, 0 ≤ i → i < t → h 6691 i = tp i) (bn : TOK tp t (wsF tp t 2400 0)) : ∃ h1, (TKq tp t (wsF tp t 2400 0) h1 ∧ (∀ o, o ≠ 6603 → h1 o = h o) ∧ ∀ i, i ≠ 2 → i ≠ 3 → i ≠ 4 → i ≠ 5 → i ≠ 6 → h1 6603 i = h 6603 i) ∧ ∀ Q, Sp fz1 (d + 2) 321 [(3, 6603)] h Q = Q 0 h1 := by
  refine Sp_ex2 (s321 (t := t) (by omega) ht.1 ht.2.2 (by omega) (by omega) (fun h' C => ?_))
  rw [h4, wsF_c e0 2400 _ (Int.le_refl _)] at C
  generalize wsF tp t 2400 0 = s0 at *
  obtain ⟨c1, c2, c3, c4, c5, c6, c7⟩ := C
  have n0 := bn.1.1
  rw [tkE_c e0 n0] at c4
  rw [tkK_c e0 n0] at c5 c6 c7
  have q : nuE (h 6691) t s0 = nuE tp t s0 := dgF_c e0 2400 _ n0
  have q0 : s0 ≤ nuE tp t s0 ∧ nuE tp t s0 ≤ t := nuE_b bn.1.2.1
  have q2 : nuF (h 6691) t s0 = nuF tp t s0 := by
    unfold nuF
    rw [q]
    exact dgF_c e0 2400 _ (by omega)
  have qV : nuV (h 6691) t s0 = nuV tp t s0 := by
    unfold nuV
    rw [q]
    exact dvF_c e0 _ _ _ n0 (by omega)
  refine ⟨rfl, ⟨⟨by rw [c2 1 (by decide) (by decide) (by decide) (by decide) (by decide), ht.1], by rw [c2 7 (by decide) (by decide) (by decide) (by decide) (by decide), h7], c3, c4, c5⟩, fun w => ?_, fun w => ?_, fun i a b => by rw [c1 6691 (by decide)]; exact e0 i a b⟩, c1, c2⟩
  · rw [c6 w, qV]
    have := nuV_n (tp := tp) bn.1.2.1 w
    unfold w32
    omega
  · have z := nuW_n (tp := tp) bn.1.1 bn.1.2.1 ht.2.2 w
    have fb := nuF_b (tp := tp) (t := t) (s := s0) (by have := z.1.1; omega)
    have qW : nuW (h 6691) t s0 = nuW tp t s0 := by
      unfold nuW
      rw [q, q2, qV]
      exact dvF_c e0 _ _ _ (by omega) (by omega)
    rw [c7 w, qW, q, q2]
    unfold rlV
    rw [show w64 (nuW tp t s0) = nuW tp t s0 by unfold w64; omega]
/-- both stand at the first item -/
theorem it_start (hT : TC T) (hS : TR S) (Sh : STS h) (Sr : STS hr) (ht : h 129 1 = t ∧ 0 ≤ t ∧ t ≤ 2400) (h7 : h 227 = tp) (hb : ∀ i, 0 ≤ i → i < t → -128 ≤ tp i ∧ tp i ≤ 127) (rt : hr 6603 1 = t) (e0 : ∀ i, 0 ≤ i → i < t → hr 6691 i = tp i) (d e : Nat) : ∃ s g gr, (∀ Q, Sp fz1 (d + 8) 28 [(3, 129), (0, 1)] (rbC T h) Q = Q 0 g) ∧ (∀ Q, Sp fz1 (e + 2) 321 [(3, 6603)] (rbR S hr) Q = Q 0 gr) ∧ IT tp t T S s g gr ∧ SAC (rbC T h) g ∧ SAR (rbR S hr) gr := by
  have kT := kTC hT
  have kS := kTR hS
  have a1 : ∀ i, i ≠ 2 → i ≠ 3 → rbC T h 129 i = h 129 i := fun i u v => by
    unfold rbC
    rw [hcell v, hcell u, hs_ne (by decide), hs_ne (by decide), hs_ne (by decide), hs_ne (by omega), hs_ne (by omega), hs_ne (by omega), fillH_ne (by omega), hs_ne (by decide)]
  have a2 : rbC T h 129 2 = 0 := by unfold rbC; rw [hcell (by decide), hcel1]
  have a3 : rbC T h 129 3 = -1 := by unfold rbC; rw [hcel1]
  have a4 : rbC T h 258 1 = T := by unfold rbC; rw [hs_ne (by decide), hs_ne (by decide), hcell (by decide), hcell (by decide), hcell (by decide), hs_ne (by omega), hs_ne (by omega), hs_ne (by omega), fillH_ne (by omega), hcel1]
  have a5 : rbC T h 258 2 = -1 := by unfold rbC; rw [hs_ne (by decide), hs_ne (by decide), hcell (by decide), hcell (by decide), hcel1]
  have a11 : rbC T h 258 11 = 0 := by unfold rbC; rw [hs_ne (by decide), hs_ne (by decide), hcell (by decide), hcel1]
  have a6 : rbC T h 258 10 = 0 := by unfold rbC; rw [hs_ne (by decide), hs_ne (by decide), hcel1]
  have a7 : ∀ i, i = 11 ∨ i = 15 ∨ i = 17 → rbC T h T i = 0 := fun i u => by
    unfold rbC
    rw [hs_ne (by omega), hs_ne (by omega), hs_ne (by omega), hs_ne (by omega), hs_ne (by omega)]
    rcases u with rfl | rfl | rfl
    · rw [hcell (by decide), hcell (by decide), hcel1]
    · rw [hcell (by decide), hcel1]
    · rw [hcel1]
  have a8 : ∀ i, 0 ≤ i → i < 7 → rbC T h (T + 598) i = 0 := fun i u v => by
    unfold rbC
    rw [hs_ne (by omega), hs_ne (by omega), hs_ne (by omega), hs_ne (by omega), hs_ne (by omega), hs_ne (by omega), hs_ne (by omega), hs_ne (by omega), fillH_v, if_pos ⟨rfl, u, v⟩]
  have b1 : ∀ i, i ≠ 9 → i ≠ 7 → i ≠ 8 → i ≠ 12 → i ≠ 13 → i ≠ 24 → i ≠ 4 → rbR S hr 6603 i = hr 6603 i := fun i u1 u2 u3 u4 u5 u6 u7 => by
    unfold rbR
    rw [hcell u7, hcell u6, hcell u5, hcell u4, hcell u3, hcell u2, hs_ne (by omega), hs_ne (by omega), hs_ne (by omega), hs_ne (by omega), hs_ne (by omega), hs_ne (by omega), hs_ne (by omega), hs_ne (by omega), hs_ne (by omega), hs_ne (by omega), hs_ne (by omega), hs_ne (by omega), hcell u1]
  have b9 : rbR S hr 6603 9 = S := by
    unfold rbR
    rw [hcell (by decide), hcell (by decide), hcell (by decide), hcell (by decide), hcell (by decide), hcell (by decide), hs_ne (by omega), hs_ne (by omega), hs_ne (by omega), hs_ne (by omega), hs_ne (by omega), hs_ne (by omega), hs_ne (by omega), hs_ne (by omega), hs_ne (by omega), hs_ne (by omega), hs_ne (by omega), hs_ne (by omega), hcel1]
  have b4 : rbR S hr 6603 4 = 0 := by unfold rbR; rw [hcel1]
  have b24 : rbR S hr 6603 24 = 0 := by unfold rbR; rw [hcell (by decide), hcel1]
  have b13 : rbR S hr 6603 13 = 0 := by unfold rbR; rw [hcell (by decide), hcell (by decide), hcel1]
  have b12 : rbR S hr 6603 12 = 0 := by unfold rbR; rw [hcell (by decide), hcell (by decide), hcell (by decide), hcel1]
  have b8 : rbR S hr 6603 8 = -9 := by unfold rbR; rw [hcell (by decide), hcell (by decide), hcell (by decide), hcell (by decide), hcel1]
  have b7 : rbR S hr 6603 7 = -9 := by unfold rbR; rw [hcell (by decide), hcell (by decide), hcell (by decide), hcell (by decide), hcell (by decide), hcel1]
  have bS : ∀ i, i = 14 ∨ i = 15 ∨ i = 20 ∨ i = 21 ∨ i = 22 → rbR S hr S i = 0 := fun i u => by
    unfold rbR
    rw [hs_ne (by omega), hs_ne (by omega), hs_ne (by omega), hs_ne (by omega), hs_ne (by omega), hs_ne (by omega)]
    rcases u with rfl | rfl | rfl | rfl | rfl
    · rw [hcell (by decide), hcell (by decide), hcell (by decide), hcell (by decide), hcel1]
    · rw [hcell (by decide), hcell (by decide), hcell (by decide), hcel1]
    · rw [hcell (by decide), hcell (by decide), hcel1]
    · rw [hcell (by decide), hcel1]
    · rw [hcel1]
  have b84 : ∀ i, 0 ≤ i → i < 7 → rbR S hr (S + 84) i = 0 := fun i u v => by
    unfold rbR
    rw [hs_ne (by omega), hs_ne (by omega), hs_ne (by omega), hs_ne (by omega), hs_ne (by omega), hs_ne (by omega), hs_ne (by omega), hs_ne (by omega), hs_ne (by omega), hs_ne (by omega), hs_ne (by omega)]
    have z : i = 0 ∨ i = 1 ∨ i = 2 ∨ i = 3 ∨ i = 4 ∨ i = 5 ∨ i = 6 := by omega
    rcases z with rfl | rfl | rfl | rfl | rfl | rfl | rfl
    · rw [hcell (by decide), hcell (by decide), hcell (by decide), hcell (by decide), hcell (by decide), hcell (by decide), hcel1]
    · rw [hcell (by decide), hcell (by decide), hcell (by decide), hcell (by decide), hcell (by decide), hcel1]
    · rw [hcell (by decide), hcell (by decide), hcell (by decide), hcell (by decide), hcel1]
    · rw [hcell (by decide), hcell (by decide), hcell (by decide), hcel1]
    · rw [hcell (by decide), hcell (by decide), hcel1]
    · rw [hcell (by decide), hcel1]
    · rw [hcel1]
  obtain ⟨bn, g, ⟨k1, A⟩, e1⟩ := c_first (h := rbC T h) (t := t) (tp := tp) (d := d) ⟨by rw [a1 1 (by decide) (by decide)]; exact ht.1, ht.2⟩ a2 a3 (by rw [rbC_o (by decide) (by decide) (by omega) (by omega)]; exact h7) hb (str_0 (fun o w => by rw [rbC_o (by omega) (by omega) (by omega) (by omega)]; exact Sh o w))
  obtain ⟨gr, ⟨k2, B, B2⟩, f1⟩ := r_first (h := rbR S hr) (t := t) (tp := tp) (d := e) ⟨by rw [b1 1 (by decide) (by decide) (by decide) (by decide) (by decide) (by decide) (by decide)]; exact rt, ht.2⟩ b4 b7 (fun i i0 i1 => by rw [rbR_o (by decide) (by omega) (by omega)]; exact e0 i i0 i1) bn
  generalize wsF tp t 2400 0 = s0 at *
  have cn : ∀ q, 0 ≤ q → q < 7 → g (T + 598) q = 0 := fun q u v => by rw [A _ (by omega), a8 q u v]
  have rn : ∀ q, 0 ≤ q → q < 7 → gr (S + 84) q = 0 := fun q u v => by rw [B _ (by omega), b84 q u v]
  have gT : ∀ i, i = 11 ∨ i = 15 ∨ i = 17 → g T i = 0 := fun i u => by rw [A T (by omega), a7 i u]
  have gS : ∀ i, i = 14 ∨ i = 15 ∨ i = 20 ∨ i = 21 ∨ i = 22 → gr S i = 0 := fun i u => by rw [B S (by omega), bS i u]
  have g10 : g 258 10 = 0 := by rw [A _ (by decide), a6]
  have g2 : g 258 2 = -1 := by rw [A _ (by decide), a5]
  have g11 : g 258 11 = 0 := by rw [A _ (by decide), a11]
  have r24 : gr 6603 24 = 0 := by rw [B2 24 (by decide) (by decide) (by decide) (by decide) (by decide), b24]
  have r13 : gr 6603 13 = 0 := by rw [B2 13 (by decide) (by decide) (by decide) (by decide) (by decide), b13]
  have r12 : gr 6603 12 = 0 := by rw [B2 12 (by decide) (by decide) (by decide) (by decide) (by decide), b12]
  have r8 : gr 6603 8 = -9 := by rw [B2 8 (by decide) (by decide) (by decide) (by decide) (by decide), b8]
  have D : TKX tp t T S s0 g gr := ⟨⟨bn, k1, k2⟩, ⟨⟨hT, by rw [A _ (by decide), a4]⟩, hS, by rw [B2 9 (by decide) (by decide) (by decide) (by decide) (by decide), b9]⟩, fun o w => by rw [A o (by omega), rbC_o (by omega) (by omega) (by omega) (by omega)]; exact Sh o w, fun o w => by rw [B o (by omega), rbR_o (by omega) (by omega) (by omega)]; exact Sr o w⟩
  refine ⟨s0, g, gr, e1, f1, ⟨D, ⟨?_, .inl ⟨g2, r8⟩, fun k k0 k1 => by omega, fun i i0 i1 => by rw [gS 15 (by decide)] at i1; omega, fun k k0 k1 => by omega⟩, ⟨fun q u v => by rw [rn q u v, cn q u v]; exact ⟨rfl, Int.le_refl _, by have := MST_0 (q := q); omega⟩, fun q i u v i0 i1 => by rw [cn q u v] at i1; omega⟩, ?_, fun q q0 q1 => by rw [cn 6 (by decide) (by decide)] at q1; omega, fun _ q q0 q1 => by rw [cn 6 (by decide) (by decide)] at q1; omega⟩, A, B, B2⟩
  · unfold NBI
    have S0 := bn.1
    rw [gT 15 (by decide), gT 17 (by decide), gS 14 (by decide), gS 15 (by decide), gS 20 (by decide), gS 21 (by decide), gS 22 (by decide), g10, g11, r24, r13, r12, rn 6 (by decide) (by decide)]
    omega
  · unfold TXR
    rw [cn 1 (by decide) (by decide), cn 2 (by decide) (by decide), cn 3 (by decide) (by decide), cn 4 (by decide) (by decide), cn 5 (by decide) (by decide), gT 11 (by decide)]
    exact ⟨fun i a b => by omega, fun i a b => by omega, fun i a b => by omega, fun i a b => by omega, fun i a b => by omega, ⟨by decide, by decide, rfl⟩, fun i k a b => by omega⟩
end SM
