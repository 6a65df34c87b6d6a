/-! THE PURE SIDE, 198: calls are linked on both sides: printed by wip/tools/gen8zp.py -/
/-- i calls are linked -/
def LKI (T S : Int) (h hr : HV) (i : Int) (k kr : HV) : Prop := ((∀ o, o ≠ 258 → o ≠ T + 1430 → k o = h o) ∧ ∀ j, j ≠ 2 → k 258 j = h 258 j) ∧ ((∀ o, o ≠ 6603 → o ≠ S + 1044 → kr o = hr o) ∧ ∀ j, j ≠ 8 → kr 6603 j = hr 6603 j) ∧ LATX (k 258 2) (kr 6603 8) ∧ (∀ x, (∀ j, 0 ≤ j → j < i → h 608 j ≠ x) → k (T + 1430) x = h (T + 1430) x) ∧ (∀ x, (∀ j, 0 ≤ j → j < i → hr 9888 j ≠ x) → kr (S + 1044) x = hr (S + 1044) x) ∧ (k 258 2 = -1 → h 258 2 = -1 ∧ ∀ j, 0 ≤ j → j < i → ∃ v, (0 ≤ v ∧ v < h (T + 598) 6) ∧ k (T + 1430) (h 608 j) = v ∧ kr (S + 1044) (hr 9888 j) = v ∧ h (T + 1302) v = h (T + 1430) (h 608 j + 1))
section SM
variable {bX : Int} {tp : Int → Int} {t T S s s1 s2 f fu : Int} {h hr g gr k kr m mr : HV} {Q : Int → HV → Prop} {d : Nat}
theorem LKI.stp {i L1 L2 v y : Int} (K : LKI T S h hr i k kr) (i0 : 0 ≤ i) (kT : 3466 ≤ T ∧ T ≤ 4938) (kS : 6732 ≤ S ∧ S ≤ 8076) (L : LATX L1 L2) (m1 : ∀ j, 0 ≤ j → j < i → h 608 j < h 608 i) (m2 : ∀ j, 0 ≤ j → j < i → hr 9888 j < hr 9888 i) (w : L1 = -1 → k 258 2 = -1 ∧ (0 ≤ v ∧ v < h (T + 598) 6) ∧ y = v ∧ h (T + 1302) v = h (T + 1430) (h 608 i + 1)) : LKI T S h hr (i + 1) (hset (hset k 258 2 L1) (T + 1430) (h 608 i) v) (hset (hset kr 6603 8 L2) (S + 1044) (hr 9888 i) y) := by
  obtain ⟨⟨a1, a2⟩, ⟨b1, b2⟩, -, c1, c2, c3⟩ := K
  have k2 : hset (hset k 258 2 L1) (T + 1430) (h 608 i) v 258 2 = L1 := by rw [hs_ne (by omega), hcel1]
  have r2 : hset (hset kr 6603 8 L2) (S + 1044) (hr 9888 i) y 6603 8 = L2 := by rw [hs_ne (by omega), hcel1]
  refine ⟨⟨fun o x1 x2 => by rw [hs_ne x2, hs_ne x1, a1 o x1 x2], fun j x => by rw [hs_ne (by omega), hcell x, a2 j x]⟩, ⟨fun o x1 x2 => by rw [hs_ne x2, hs_ne x1, b1 o x1 x2], fun j x => by rw [hs_ne (by omega), hcell x, b2 j x]⟩, by rw [k2, r2]; exact L, fun x u => ?_, fun x u => ?_, fun z => ?_⟩
  · have n := u i i0 (by omega)
    rw [hcell (fun q => n q.symm), hs_ne (by omega)]
    exact c1 x (fun j j0 j1 => u j j0 (by omega))
  · have n := u i i0 (by omega)
    rw [hcell (fun q => n q.symm), hs_ne (by omega)]
    exact c2 x (fun j j0 j1 => u j j0 (by omega))
  · rw [k2] at z
    obtain ⟨w1, w2, w3, w4⟩ := w z
    obtain ⟨z1, z2⟩ := c3 w1
    refine ⟨z1, fun j j0 j1 => ?_⟩
    by_cases e : j = i
    · rw [e]
      exact ⟨v, w2, hcel1, by rw [hcel1]; exact w3, w4⟩
    · obtain ⟨v2, y1, y2, y3, y4⟩ := z2 j j0 (by omega)
      have q1 := m1 j j0 (by omega)
      have q2 := m2 j j0 (by omega)
      exact ⟨v2, y1, by rw [hcell (by omega), hs_ne (by omega)]; exact y2, by rw [hcell (by omega), hs_ne (by omega)]; exact y3, y4⟩
theorem LATX.rl {c r p : Int} (L : LATX c r) (p0 : 0 ≤ p) : LATX (rLt c p) (if r < 0 ∨ p < r then p else r) ∧ 0 ≤ rLt c p := by
  unfold LATX rLt at *
  rcases L with ⟨a, b⟩ | ⟨a, b⟩
  · rw [if_pos (by omega), if_pos (by omega)]
    omega
  · rw [b]
    by_cases w : c < 0 ∨ p < c
    · rw [if_pos w]
      omega
    · rw [if_neg w]
      omega
theorem link_lp {s0 : Int} {e e2 : Nat} {old : Int} (I : IT tp t T S s0 h hr) : ∀ (N : Nat) {k kr : HV} (i : Int) (u3 : AV), i + N = h 258 10 → 0 ≤ i → LKI T S h hr i k kr → ∃ (g gr : HV) (u' : AV), (∀ (u2 u3 : AV) Q, G fz1 (e + 12) 124 1 [(3, 258), (0, i), u2, u3] [] k Q = Q 0 g) ∧ (∀ Q, G fz1 (e2 + 12) 320 5 [(3, 6603), (3, old), (0, i), u3] [] kr Q = G fz1 (e2 + 12) 320 8 [(3, 6603), (3, old), (0, h 258 10), u'] [] gr Q) ∧ LKI T S h hr (h 258 10) g gr := by
  have I0 := I
  obtain ⟨D, ⟨NB, LT, L, T0, C0⟩, C, X, RN, RL⟩ := I
  have hT := D.2.1.1.1
  have hS := D.2.1.2.1
  have kT := kTC hT
  have kS := kTR hS
  have S0 := D.sb
  have Fz := D.fz
  unfold NBI at NB
  have C6 := C.1 6 (by decide) (by decide)
  have m6 := MST_12 (q := 6)
  intro N
  induction N with
  | zero =>
    intro k kr i u3 hN i0 K
    have ei : i = h 258 10 := by omega
    have eT10 : k 258 10 = h 258 10 := K.1.2 10 (by decide)
    have e24 : kr 6603 24 = h 258 10 := by rw [K.2.1.2 24 (by decide)]; omega
    subst ei
    refine ⟨k, kr, u3, fun u2 u4 Q => ?_, fun Q => ?_, K⟩
    · rw [q124_1]
      simp (implicitDefEqProofs := false) (disch := omega) only [b124_1, b124_4, q124_4, x_aload0, y_call125, y_call57, x_gc_10347, x_gc_2107, x_gc_2123, x_gf_2059, x_gf_2128, x_goto_2, x_iadd, x_iaload, x_iconst, x_ifCond_lt_2, x_if_icmp_eq_3, x_if_icmp_ge_4, x_iload1, x_iload2, x_iload3, x_istore2, x_istore3, x_laload, x_return, klp_0, klp_1, klp_2, klp_3, klp_9, KC_0, KC_1, KC_2, KC_3, KC_4, ne_eq, not_false_eq_true, not_true_eq_false, true_and, and_true, and_self, implies_true, eq_self, true_imp_iff, false_implies, Int.reduceEq, Int.reduceNe, Int.reduceMod, Int.reduceMul, Int.reduceAdd, Int.reduceSub, Int.reduceLT, Int.reduceLE, Nat.reduceAdd, Nat.reduceLeDiff, Nat.reduceLT, Nat.reduceSub, reduceIte, wds_n, wds_0, wds_1, wds_2, wds_3, or_true, true_or, or_false, false_or, or_self, false_and, and_false, d_pos, d_s1, d_s2, d_s3, d_s4, d_s5, d_s6, d_s7, d_s8, Classical.not_not, c13 hT, c13l hT, c13k hT, z258_7, z481_l, z258_8, z544_l, z258_9, z608_l, TC_0 hT, TC_k hT, eT10, d_s9, d_s10, d_s11, d_s12, d_s13, d_s14, d_s15, d_s16, d_s17, d_s18, d_s19, d_s20, d_s21, d_s22, d_s23, d_s24, d_s25, d_s26, d_s27, d_s28, d_s29, d_s30, hs_ne, hcell, hcel1, le_sub1, le_T, le_F, lt_T, lt_F, eq_F, w32_T, bz0, bz1, lc_le, lc_ge, lc_lt, lc_gt, lc_eq]
    · rw [q320_5]
      simp (implicitDefEqProofs := false) (disch := omega) only [b320_5, x_aload0, y_call325, y_call331, x_gc_11427, x_gc_11451, x_gc_12379, x_gf_11339, x_gf_11456, x_goto_6, x_iaload, x_iconst, x_ifCond_eq_8, x_if_icmp_eq_6, x_if_icmp_eq_7, x_if_icmp_ge_8, x_iload2, x_iload3, x_istore3, x_laload, klp_0, klp_1, klp_2, klp_3, klp_9, KC_0, KC_1, KC_2, KC_3, KC_4, ne_eq, not_false_eq_true, not_true_eq_false, true_and, and_true, and_self, implies_true, eq_self, true_imp_iff, false_implies, Int.reduceEq, Int.reduceNe, Int.reduceMod, Int.reduceMul, Int.reduceAdd, Int.reduceSub, Int.reduceLT, Int.reduceLE, Nat.reduceAdd, Nat.reduceLeDiff, Nat.reduceLT, Nat.reduceSub, reduceIte, wds_n, wds_0, wds_1, wds_2, wds_3, or_true, true_or, or_false, false_or, or_self, false_and, and_false, d_pos, d_s1, d_s2, d_s3, d_s4, d_s5, d_s6, d_s7, d_s8, Classical.not_not, z6603_20, z9761_l, z6603_21, z9824_l, z6603_22, z9888_l, z6603_23, z9952_l, r0 hS, r0l hS, r0k hS, r11 hS, r11l hS, r11k hS, r17 hS, r17l hS, r17k hS, TR_0 hS, TR_k hS, e24, d_s9, d_s10, d_s11, d_s12, d_s13, d_s14, d_s15, d_s16, d_s17, d_s18, d_s19, d_s20, d_s21, d_s22, d_s23, d_s24, d_s25, d_s26, d_s27, d_s28, d_s29, d_s30, hs_ne, hcell, hcel1, le_sub1, le_T, le_F, lt_T, lt_F, eq_F, w32_T, bz0, bz1, lc_le, lc_ge, lc_lt, lc_gt, lc_eq]
  | succ N ih =>
    intro k kr i u3 hN i0 K
    have hpk : k 258 1 = T := by rw [K.1.2 1 (by decide)]; exact D.2.1.1.2
    have h9k : kr 6603 9 = S := by rw [K.2.1.2 9 (by decide)]; exact D.2.1.2.2
    have hp := hpk
    have h9 := h9k
    have eT10 : k 258 10 = h 258 10 := K.1.2 10 (by decide)
    have e24 : kr 6603 24 = h 258 10 := by rw [K.2.1.2 24 (by decide)]; omega
    have Li := L i i0 (by omega)
    obtain ⟨⟨l1, l2, p0⟩, ⟨l3, l4, l5⟩, l6, l7⟩ := Li
    have m1 : ∀ j, 0 ≤ j → j < i → h 608 j < h 608 i := fun j j0 j1 => by have := (l7 j j0 j1).1; omega
    have m2 : ∀ j, 0 ≤ j → j < i → hr 9888 j < hr 9888 i := fun j j0 j1 => (l7 j j0 j1).2
    rw [l2] at p0
    have eT : k T = h T := K.1.1 T (by omega) (by omega)
    have n1 : k 481 i = h 481 i := by rw [K.1.1 481 (by decide) (by omega)]
    have n2 : k 608 i = h 608 i := by rw [K.1.1 608 (by decide) (by omega)]
    have n3 : k 544 i = hr 9824 i := by rw [K.1.1 544 (by decide) (by omega), l2]
    have r1 : kr 9761 i = h 481 i := by rw [K.2.1.1 9761 (by decide) (by omega), l1]
    have r3 : kr 9824 i = hr 9824 i := by rw [K.2.1.1 9824 (by decide) (by omega)]
    have r4 : kr 9888 i = hr 9888 i := by rw [K.2.1.1 9888 (by decide) (by omega)]
    have r5 : kr 9952 i = h (T + 1430) (h 608 i + 1) := by rw [K.2.1.1 9952 (by decide) (by omega), l4]
    have gd : ∀ Q, Sp fz1 (e2 + 11) 325 [(3, 6603)] kr Q = Q 1 kr := fun Q => by rw [v325, if_pos (by rw [K.2.1.2 7 (by decide)]; omega)]
    have ca : ∀ Q, Sp fz1 (e + 11) 125 [(3, T), (0, h 608 i + 1)] k Q = Q (h (T + 1430) (h 608 i + 1)) k := fun Q => by
      rw [s125 hT (by rw [eT]; omega), if_pos (by rw [eT]; omega), K.2.2.2.1 _ (fun j j0 j1 => by have := (l7 j j0 j1).1; omega)]
    have f57 : ∀ Q, Sp fz1 (e + 11) 57 [(3, T), (0, 6), (1, h 481 i)] k Q = Q (fnx (h (T + 151 + 64 * 6)) (h 481 i) (-1) (h (T + 598) 6).toNat 0) k := fun Q => by
      rw [c57 (d := e + 10) hT (by decide) (by rw [K.1.1 (T + 598) (by omega) (by omega)]; omega), K.1.1 (T + 598) (by omega) (by omega), K.1.1 (T + 151 + 64 * 6) (by omega) (by omega)]
    have tl : ∀ Q, Sp fz1 (e2 + 11) 331 [(3, 6603), (0, 6), (1, h 481 i)] kr Q = Q (fnx (fun x => hr (S + 149) (16 * 6 + x)) (h 481 i) (-9) (h (T + 598) 6).toNat 0) kr := fun Q => by
      rw [v331 hS h9 (by decide) (by rw [K.2.1.1 (S + 84) (by omega) (by omega)]; omega), K.2.1.1 (S + 84) (by omega) (by omega), K.2.1.1 (S + 149) (by omega) (by omega), C6.1]
    have fe := fnx_2 (f1 := h (T + 151 + 64 * 6)) (f2 := fun x => hr (S + 149) (16 * 6 + x)) (w := h 481 i) (h (T + 598) 6).toNat 0 (Int.le_refl _) (fun x a b => C.2 6 x (by decide) (by decide) a (by omega))
    rcases fe with ⟨z1, z2⟩ | ⟨z1, z2, z3⟩
    · rw [z1] at f57
      rw [z2] at tl
      have cr : ∀ Q, Sp fz1 (e + 11) 123 [(3, 258), (0, hr 9824 i)] k Q = Q 0 (hset k 258 2 (rLt (k 258 2) (hr 9824 i))) := fun Q => c123
      have lr : ∀ Q, Sp fz1 (e2 + 11) 365 [(3, 6603), (0, hr 9824 i)] kr Q = Q 0 (hset kr 6603 8 (if kr 6603 8 < 0 ∨ hr 9824 i < kr 6603 8 then hr 9824 i else kr 6603 8)) := fun Q => v365n
      have cp : ∀ Q, Sp fz1 (e + 11) 116 [(3, T), (0, h 608 i), (0, (-1))] (hset k 258 2 (rLt (k 258 2) (hr 9824 i))) Q = Q 0 (hset (hset k 258 2 (rLt (k 258 2) (hr 9824 i))) (T + 1430) (h 608 i) (-1)) := fun Q => q116a hT (by rw [hs_ne (by omega), eT]; omega)
      have LL := LATX.rl (c := k 258 2) (r := kr 6603 8) (p := hr 9824 i) K.2.2.1 p0
      have K1 := K.stp (L1 := (rLt (k 258 2) (hr 9824 i))) (L2 := (if kr 6603 8 < 0 ∨ hr 9824 i < kr 6603 8 then hr 9824 i else kr 6603 8)) (v := (-1)) (y := (-9)) i0 kT kS LL.1 m1 m2 (fun z => by have := LL.2; omega)
      obtain ⟨g, gr, u', E1, E2, Z⟩ := ih (i + 1) (0, (-9)) (by omega) (by omega) K1
      refine ⟨g, gr, u', fun u2 u4 Q => ?_, fun Q => ?_, Z⟩
      · rw [q124_1]
        simp (implicitDefEqProofs := false) (disch := omega) only [b124_1, b124_2, b124_3, q124_2, q124_3, x_aload0, y_call116, y_call123, y_call125, y_call57, x_gc_10347, x_gc_2107, x_gc_2115, x_gc_2123, x_gf_2059, x_gf_2128, x_goto_1, x_goto_2, x_goto_3, x_iadd, x_iaload, x_iconst, x_ifCond_lt_2, x_if_icmp_eq_3, x_if_icmp_ge_4, x_iinc1, x_iload1, x_iload2, x_iload3, x_istore2, x_istore3, x_laload, klp_0, klp_1, klp_2, klp_3, klp_9, KC_0, KC_1, KC_2, KC_3, KC_4, ne_eq, not_false_eq_true, not_true_eq_false, true_and, and_true, and_self, implies_true, eq_self, true_imp_iff, false_implies, Int.reduceEq, Int.reduceNe, Int.reduceMod, Int.reduceMul, Int.reduceAdd, Int.reduceSub, Int.reduceLT, Int.reduceLE, Nat.reduceAdd, Nat.reduceLeDiff, Nat.reduceLT, Nat.reduceSub, reduceIte, wds_n, wds_0, wds_1, wds_2, wds_3, or_true, true_or, or_false, false_or, or_self, false_and, and_false, d_pos, d_s1, d_s2, d_s3, d_s4, d_s5, d_s6, d_s7, d_s8, Classical.not_not, c13 hT, c13l hT, c13k hT, z258_7, z481_l, z258_8, z544_l, z258_9, z608_l, TC_0 hT, TC_k hT, hp, hpk, n1, n2, n3, f57, ca, eT10, E1, cr, cp, d_s9, d_s10, d_s11, d_s12, d_s13, d_s14, d_s15, d_s16, d_s17, d_s18, d_s19, d_s20, d_s21, d_s22, d_s23, d_s24, d_s25, d_s26, d_s27, d_s28, d_s29, d_s30, hs_ne, hcell, hcel1, le_sub1, le_T, le_F, lt_T, lt_F, eq_F, w32_T, bz0, bz1, lc_le, lc_ge, lc_lt, lc_gt, lc_eq]
      · rw [q320_5]
        simp (implicitDefEqProofs := false) (disch := omega) only [b320_5, b320_6, b320_7, q320_6, q320_7, x_aload0, y_call325, y_call331, y_call365, x_gc_11427, x_gc_11435, x_gc_11443, x_gc_11451, x_gc_12379, x_gc_12427, x_gf_11339, x_gf_11456, x_goto_5, x_goto_6, x_goto_7, x_iaload, x_iastore, x_iconst, x_ifCond_eq_8, x_if_icmp_eq_6, x_if_icmp_eq_7, x_if_icmp_ge_8, x_iinc2, x_iload2, x_iload3, x_istore3, x_laload, klp_0, klp_1, klp_2, klp_3, klp_9, KC_0, KC_1, KC_2, KC_3, KC_4, ne_eq, not_false_eq_true, not_true_eq_false, true_and, and_true, and_self, implies_true, eq_self, true_imp_iff, false_implies, Int.reduceEq, Int.reduceNe, Int.reduceMod, Int.reduceMul, Int.reduceAdd, Int.reduceSub, Int.reduceLT, Int.reduceLE, Nat.reduceAdd, Nat.reduceLeDiff, Nat.reduceLT, Nat.reduceSub, reduceIte, wds_n, wds_0, wds_1, wds_2, wds_3, or_true, true_or, or_false, false_or, or_self, false_and, and_false, d_pos, d_s1, d_s2, d_s3, d_s4, d_s5, d_s6, d_s7, d_s8, Classical.not_not, z6603_20, z9761_l, z6603_21, z9824_l, z6603_22, z9888_l, z6603_23, z9952_l, r0 hS, r0l hS, r0k hS, r11 hS, r11l hS, r11k hS, r17 hS, r17l hS, r17k hS, TR_0 hS, TR_k hS, h9, h9k, e24, gd, r1, r3, r4, r5, tl, E2, lr, d_s9, d_s10, d_s11, d_s12, d_s13, d_s14, d_s15, d_s16, d_s17, d_s18, d_s19, d_s20, d_s21, d_s22, d_s23, d_s24, d_s25, d_s26, d_s27, d_s28, d_s29, d_s30, hs_ne, hcell, hcel1, le_sub1, le_T, le_F, lt_T, lt_F, eq_F, w32_T, bz0, bz1, lc_le, lc_ge, lc_lt, lc_gt, lc_eq]
    · rw [← z1] at tl
      obtain ⟨v, hv⟩ : ∃ v, v = fnx (h (T + 151 + 64 * 6)) (h 481 i) (-1) (h (T + 598) 6).toNat 0 := ⟨_, rfl⟩
      rw [← hv] at f57 tl z2 z3
      have vv : 0 ≤ v ∧ v < h (T + 598) 6 := by omega
      have n4 : k (T + 1302) v = h (T + 1302) v := by rw [K.1.1 (T + 1302) (by omega) (by omega)]
      have n5 : kr (S + 788) v = h (T + 1302) v := by rw [K.2.1.1 (S + 788) (by omega) (by omega), (RN v vv.1 vv.2).1]
      by_cases nc : h (T + 1302) v = h (T + 1430) (h 608 i + 1)
      · have nr := nc
        have cp : ∀ Q, Sp fz1 (e + 11) 116 [(3, T), (0, h 608 i), (0, v)] k Q = Q 0 (hset k (T + 1430) (h 608 i) v) := fun Q => q116a hT (by rw [eT]; omega)
        have K1 := K.stp (L1 := k 258 2) (L2 := kr 6603 8) (v := v) (y := v) i0 kT kS K.2.2.1 m1 m2 (fun z => ⟨z, vv, rfl, nc⟩)
        rw [hset_as rfl, hset_as rfl] at K1
        obtain ⟨g, gr, u', E1, E2, Z⟩ := ih (i + 1) (0, v) (by omega) (by omega) K1
        refine ⟨g, gr, u', fun u2 u4 Q => ?_, fun Q => ?_, Z⟩
        · rw [q124_1]
          simp (implicitDefEqProofs := false) (disch := omega) only [b124_1, b124_3, q124_3, x_aload0, y_call116, y_call125, y_call57, x_gc_10347, x_gc_2107, x_gc_2123, x_gf_2059, x_gf_2128, x_goto_1, x_goto_2, x_iadd, x_iaload, x_iconst, x_ifCond_lt_2, x_if_icmp_eq_3, x_if_icmp_ge_4, x_iinc1, x_iload1, x_iload2, x_iload3, x_istore2, x_istore3, x_laload, klp_0, klp_1, klp_2, klp_3, klp_9, KC_0, KC_1, KC_2, KC_3, KC_4, ne_eq, not_false_eq_true, not_true_eq_false, true_and, and_true, and_self, implies_true, eq_self, true_imp_iff, false_implies, Int.reduceEq, Int.reduceNe, Int.reduceMod, Int.reduceMul, Int.reduceAdd, Int.reduceSub, Int.reduceLT, Int.reduceLE, Nat.reduceAdd, Nat.reduceLeDiff, Nat.reduceLT, Nat.reduceSub, reduceIte, wds_n, wds_0, wds_1, wds_2, wds_3, or_true, true_or, or_false, false_or, or_self, false_and, and_false, d_pos, d_s1, d_s2, d_s3, d_s4, d_s5, d_s6, d_s7, d_s8, Classical.not_not, c13 hT, c13l hT, c13k hT, z258_7, z481_l, z258_8, z544_l, z258_9, z608_l, TC_0 hT, TC_k hT, hp, hpk, n1, n2, n3, f57, ca, eT10, E1, cp, n4, nc, d_s9, d_s10, d_s11, d_s12, d_s13, d_s14, d_s15, d_s16, d_s17, d_s18, d_s19, d_s20, d_s21, d_s22, d_s23, d_s24, d_s25, d_s26, d_s27, d_s28, d_s29, d_s30, hs_ne, hcell, hcel1, le_sub1, le_T, le_F, lt_T, lt_F, eq_F, w32_T, bz0, bz1, lc_le, lc_ge, lc_lt, lc_gt, lc_eq]
        · rw [q320_5]
          simp (implicitDefEqProofs := false) (disch := omega) only [b320_5, b320_7, q320_7, x_aload0, y_call325, y_call331, x_gc_11427, x_gc_11443, x_gc_11451, x_gc_12379, x_gc_12427, x_gf_11339, x_gf_11456, x_goto_5, x_goto_6, x_iaload, x_iastore, x_iconst, x_ifCond_eq_8, x_if_icmp_eq_6, x_if_icmp_eq_7, x_if_icmp_ge_8, x_iinc2, x_iload2, x_iload3, x_istore3, x_laload, klp_0, klp_1, klp_2, klp_3, klp_9, KC_0, KC_1, KC_2, KC_3, KC_4, ne_eq, not_false_eq_true, not_true_eq_false, true_and, and_true, and_self, implies_true, eq_self, true_imp_iff, false_implies, Int.reduceEq, Int.reduceNe, Int.reduceMod, Int.reduceMul, Int.reduceAdd, Int.reduceSub, Int.reduceLT, Int.reduceLE, Nat.reduceAdd, Nat.reduceLeDiff, Nat.reduceLT, Nat.reduceSub, reduceIte, wds_n, wds_0, wds_1, wds_2, wds_3, or_true, true_or, or_false, false_or, or_self, false_and, and_false, d_pos, d_s1, d_s2, d_s3, d_s4, d_s5, d_s6, d_s7, d_s8, Classical.not_not, z6603_20, z9761_l, z6603_21, z9824_l, z6603_22, z9888_l, z6603_23, z9952_l, r0 hS, r0l hS, r0k hS, r11 hS, r11l hS, r11k hS, r17 hS, r17l hS, r17k hS, TR_0 hS, TR_k hS, h9, h9k, e24, gd, r1, r3, r4, r5, tl, E2, n5, nr, d_s9, d_s10, d_s11, d_s12, d_s13, d_s14, d_s15, d_s16, d_s17, d_s18, d_s19, d_s20, d_s21, d_s22, d_s23, d_s24, d_s25, d_s26, d_s27, d_s28, d_s29, d_s30, hs_ne, hcell, hcel1, le_sub1, le_T, le_F, lt_T, lt_F, eq_F, w32_T, bz0, bz1, lc_le, lc_ge, lc_lt, lc_gt, lc_eq]
      · have nr := nc
        have cr : ∀ Q, Sp fz1 (e + 11) 123 [(3, 258), (0, hr 9824 i)] k Q = Q 0 (hset k 258 2 (rLt (k 258 2) (hr 9824 i))) := fun Q => c123
        have lr : ∀ Q, Sp fz1 (e2 + 11) 365 [(3, 6603), (0, hr 9824 i)] kr Q = Q 0 (hset kr 6603 8 (if kr 6603 8 < 0 ∨ hr 9824 i < kr 6603 8 then hr 9824 i else kr 6603 8)) := fun Q => v365n
        have cp : ∀ Q, Sp fz1 (e + 11) 116 [(3, T), (0, h 608 i), (0, v)] (hset k 258 2 (rLt (k 258 2) (hr 9824 i))) Q = Q 0 (hset (hset k 258 2 (rLt (k 258 2) (hr 9824 i))) (T + 1430) (h 608 i) v) := fun Q => q116a hT (by rw [hs_ne (by omega), eT]; omega)
        have LL := LATX.rl (c := k 258 2) (r := kr 6603 8) (p := hr 9824 i) K.2.2.1 p0
        have K1 := K.stp (L1 := (rLt (k 258 2) (hr 9824 i))) (L2 := (if kr 6603 8 < 0 ∨ hr 9824 i < kr 6603 8 then hr 9824 i else kr 6603 8)) (v := v) (y := v) i0 kT kS LL.1 m1 m2 (fun z => by have := LL.2; omega)
        obtain ⟨g, gr, u', E1, E2, Z⟩ := ih (i + 1) (0, v) (by omega) (by omega) K1
        refine ⟨g, gr, u', fun u2 u4 Q => ?_, fun Q => ?_, Z⟩
        · rw [q124_1]
          simp (implicitDefEqProofs := false) (disch := omega) only [b124_1, b124_2, b124_3, q124_2, q124_3, x_aload0, y_call116, y_call123, y_call125, y_call57, x_gc_10347, x_gc_2107, x_gc_2115, x_gc_2123, x_gf_2059, x_gf_2128, x_goto_1, x_goto_2, x_goto_3, x_iadd, x_iaload, x_iconst, x_ifCond_lt_2, x_if_icmp_eq_3, x_if_icmp_ge_4, x_iinc1, x_iload1, x_iload2, x_iload3, x_istore2, x_istore3, x_laload, klp_0, klp_1, klp_2, klp_3, klp_9, KC_0, KC_1, KC_2, KC_3, KC_4, ne_eq, not_false_eq_true, not_true_eq_false, true_and, and_true, and_self, implies_true, eq_self, true_imp_iff, false_implies, Int.reduceEq, Int.reduceNe, Int.reduceMod, Int.reduceMul, Int.reduceAdd, Int.reduceSub, Int.reduceLT, Int.reduceLE, Nat.reduceAdd, Nat.reduceLeDiff, Nat.reduceLT, Nat.reduceSub, reduceIte, wds_n, wds_0, wds_1, wds_2, wds_3, or_true, true_or, or_false, false_or, or_self, false_and, and_false, d_pos, d_s1, d_s2, d_s3, d_s4, d_s5, d_s6, d_s7, d_s8, Classical.not_not, c13 hT, c13l hT, c13k hT, z258_7, z481_l, z258_8, z544_l, z258_9, z608_l, TC_0 hT, TC_k hT, hp, hpk, n1, n2, n3, f57, ca, eT10, E1, cr, cp, n4, nc, d_s9, d_s10, d_s11, d_s12, d_s13, d_s14, d_s15, d_s16, d_s17, d_s18, d_s19, d_s20, d_s21, d_s22, d_s23, d_s24, d_s25, d_s26, d_s27, d_s28, d_s29, d_s30, hs_ne, hcell, hcel1, le_sub1, le_T, le_F, lt_T, lt_F, eq_F, w32_T, bz0, bz1, lc_le, lc_ge, lc_lt, lc_gt, lc_eq]
        · rw [q320_5]
          simp (implicitDefEqProofs := false) (disch := omega) only [b320_5, b320_6, b320_7, q320_6, q320_7, x_aload0, y_call325, y_call331, y_call365, x_gc_11427, x_gc_11435, x_gc_11443, x_gc_11451, x_gc_12379, x_gc_12427, x_gf_11339, x_gf_11456, x_goto_5, x_goto_6, x_goto_7, x_iaload, x_iastore, x_iconst, x_ifCond_eq_8, x_if_icmp_eq_6, x_if_icmp_eq_7, x_if_icmp_ge_8, x_iinc2, x_iload2, x_iload3, x_istore3, x_laload, klp_0, klp_1, klp_2, klp_3, klp_9, KC_0, KC_1, KC_2, KC_3, KC_4, ne_eq, not_false_eq_true, not_true_eq_false, true_and, and_true, and_self, implies_true, eq_self, true_imp_iff, false_implies, Int.reduceEq, Int.reduceNe, Int.reduceMod, Int.reduceMul, Int.reduceAdd, Int.reduceSub, Int.reduceLT, Int.reduceLE, Nat.reduceAdd, Nat.reduceLeDiff, Nat.reduceLT, Nat.reduceSub, reduceIte, wds_n, wds_0, wds_1, wds_2, wds_3, or_true, true_or, or_false, false_or, or_self, false_and, and_false, d_pos, d_s1, d_s2, d_s3, d_s4, d_s5, d_s6, d_s7, d_s8, Classical.not_not, z6603_20, z9761_l, z6603_21, z9824_l, z6603_22, z9888_l, z6603_23, z9952_l, r0 hS, r0l hS, r0k hS, r11 hS, r11l hS, r11k hS, r17 hS, r17l hS, r17k hS, TR_0 hS, TR_k hS, h9, h9k, e24, gd, r1, r3, r4, r5, tl, E2, lr, n5, nr, d_s9, d_s10, d_s11, d_s12, d_s13, d_s14, d_s15, d_s16, d_s17, d_s18, d_s19, d_s20, d_s21, d_s22, d_s23, d_s24, d_s25, d_s26, d_s27, d_s28, d_s29, d_s30, hs_ne, hcell, hcel1, le_sub1, le_T, le_F, lt_T, lt_F, eq_F, w32_T, bz0, bz1, lc_le, lc_ge, lc_lt, lc_gt, lc_eq]
end SM
