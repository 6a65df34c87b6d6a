/-! THE PURE SIDE, 180: rules on both sides, whole: printed by wip/tools/gen8z7.py -/
/-- the things of the two texts -/
def TXR (T S : Int) (h hr : HV) : Prop := (∀ i, 0 ≤ i → i < h (T + 598) 1 → hr (S + 212) i = h (T + 662) i) ∧ (∀ i, 0 ≤ i → i < h (T + 598) 2 → hr (S + 276) i = h (T + 726) i ∧ (2 ≤ h (T + 726) i ∧ h (T + 726) i ≤ 4) ∧ hr (S + 340) i = h (T + 790) i ∧ 0 ≤ h (T + 790) i ∧ h (T + 790) i < 4096) ∧ (∀ i, 0 ≤ i → i < h (T + 598) 3 → hr (S + 404) i = h (T + 854) i) ∧ (∀ i, 0 ≤ i → i < h (T + 598) 5 → hr (S + 724) i = h (T + 1110) i ∧ 0 ≤ h (T + 1110) i ∧ h (T + 1110) i ≤ 1000) ∧
  (∀ l, 0 ≤ l → l < h (T + 598) 4 → (hr (S + 468) l = h (T + 918) l ∧ 0 ≤ h (T + 918) l ∧ h (T + 918) l < 12) ∧ (hr (S + 532) l = h (T + 982) l ∧ 0 ≤ h (T + 982) l ∧ h (T + 982) l < h (T + 598) 3) ∧ (hr (S + 596) l = h (T + 1046) l ∧ 0 ≤ h (T + 1046) l ∧ h (T + 1046) l < h (T + 598) 2) ∧ 0 ≤ hr (S + 660) l ∧ hr (S + 660) l ≤ 3) ∧ (0 ≤ h T 11 ∧ h T 11 ≤ 36 ∧ h T 11 = sumI (hr (S + 660)) (h (T + 598) 4).toNat) ∧ ∀ l k, 0 ≤ l → l < h (T + 598) 4 → 0 ≤ k → k < hr (S + 660) l → h (T + 1174) (sumI (hr (S + 660)) l.toNat + k) = l
/-- both stand at an item, and the texts are alike so far -/
def IT (tp : Int → Int) (t T S s : Int) (h hr : HV) : Prop := TKX tp t T S s h hr ∧ ITB T S s h hr ∧ CNX T S h hr ∧ TXR T S h hr ∧ RNM T S h hr ∧ RLS T S h hr
theorem TXR.fr {T S : Int} {h hr g gr : HV} (X : TXR T S h hr) (e0 : ∀ k, 1 ≤ k → k ≤ 5 → g (T + 598) k = h (T + 598) k) (e1 : g T 11 = h T 11) (e2 : ∀ o, T + 662 ≤ o → o ≤ T + 1174 → g o = h o) (e3 : ∀ o, S + 212 ≤ o → o ≤ S + 724 → gr o = hr o) : TXR T S g gr := by
  unfold TXR at *
  rw [e0 1 (by decide) (by decide), e0 2 (by decide) (by decide), e0 3 (by decide) (by decide), e0 4 (by decide) (by decide), e0 5 (by decide) (by decide), e1, e2 (T + 662) (by omega) (by omega), e2 (T + 726) (by omega) (by omega), e2 (T + 790) (by omega) (by omega), e2 (T + 854) (by omega) (by omega), e2 (T + 918) (by omega) (by omega), e2 (T + 982) (by omega) (by omega), e2 (T + 1046) (by omega) (by omega), e2 (T + 1110) (by omega) (by omega), e2 (T + 1174) (by omega) (by omega), e3 (S + 212) (by omega) (by omega), e3 (S + 276) (by omega) (by omega), e3 (S + 340) (by omega) (by omega), e3 (S + 404) (by omega) (by omega), e3 (S + 468) (by omega) (by omega), e3 (S + 532) (by omega) (by omega), e3 (S + 596) (by omega) (by omega), e3 (S + 660) (by omega) (by omega), e3 (S + 724) (by omega) (by omega)]
  exact X
section SM
variable {bX : Int} {tp : Int → Int} {t T S s s1 s2 f : Int} {h hr g gr k kr m mr : HV} {Q : Int → HV → Prop} {d : Nat}
/-- a rule behind its names: where it fails -/
theorem tail_bad {x : Int} {e e2 : Nat} {g8 r8 : HV} {f : Int} (hT : TC T) (hS : TR S) (hx : 0 ≤ x ∧ x < 12) (B : BDC T f g8) (E : BDQ S f r8) (l : r8 S 15 + 1 ≤ 11 * r8 S 14 + 14) : ∃ g gr k1 k2, (∀ Q, Sp fz1 (e + 9) 82 [(3, T), (0, 0)] g8 Q = Q 0 k1) ∧ k1 258 1 = T ∧ (∀ Q, G fz1 (e + 10) 72 4 [(3, 258), (0, x), (0, 0)] [] (hset k1 (T + 1366) x (k1 258 6)) Q = Q 0 g) ∧ (∀ Q, Sp fz1 (e2 + 9) 347 [(3, 6603), (0, 29), (0, 0), (0, 0)] r8 Q = Q (r8 S 15) k2) ∧ (∀ (l3 : AV) Q, G fz1 (e2 + 10) 339 3 [(3, 6603), (0, x), (0, 0), l3] [] k2 Q = Q 0 gr) ∧ FIC T g8 g ∧ FIR S r8 gr ∧ ((∃ f, BXC T f g ∧ BXR S f gr) ∧ (0 ≤ g T 17 ∧ g T 17 ≤ 2400) ∧ (0 ≤ g 258 10 ∧ g 258 10 ≤ 400) ∧ g (T + 598) = g8 (T + 598)) := by
  have kT := kTC hT
  have kS := kTR hS
  obtain ⟨k1, ⟨B1, F1⟩, x1⟩ := B.e1 (x := 0)
  obtain ⟨k2, ⟨B2, F2, a1, a2, -⟩, x2⟩ := E.cx (p := 29) (a := 0) (b := 0) l
  have fo : ∀ o, o ≠ T + 1366 → hset k1 (T + 1366) x (k1 258 6) o = k1 o := fun o a => hs_ne a
  have e8 := fo 258 (by omega)
  have lp := fun Q => lp72 (Q := Q) (k := hset k1 (T + 1366) x (k1 258 6)) (x := x) (l0 := k1 258 2) (e := e) (by rw [e8]; exact B1.2.2.2.2.1) (k1 258 6).toNat 0 (by rw [e8]; have := B1.2.2.2.2.1; omega)
  have h0 : hset (hset k1 (T + 1366) x (k1 258 6)) 258 2 (ltC (hset k1 (T + 1366) x (k1 258 6) 416) (k1 258 2) 0) = hset k1 (T + 1366) x (k1 258 6) := hset_as (by rw [e8]; rfl)
  rw [h0] at lp
  generalize hk3 : hset k1 (T + 1366) x (k1 258 6) = k3 at *
  generalize ltC (k3 416) (k1 258 2) (k3 258 6).toNat = L at *
  have hz : ∃ gr, BDQ S f gr ∧ FIR S k2 gr ∧ ∀ (l3 : AV) Q, G fz1 (e2 + 10) 339 3 [(3, 6603), (0, x), (0, 0), l3] [] k2 Q = Q 0 gr := by
    refine ⟨hset k2 (S + 852) x (k2 6603 15), B2.oth (by omega), FIR.st (by omega) hS, fun l3 Q => ?_⟩
    have h9 := B2.1.2
    have gd : ∀ Q, Sp fz1 (e2 + 9) 325 [(3, 6603)] k2 Q = Q 0 k2 := fun Q => B2.g325
    by_cases c : 0 < k2 6603 19
    · rw [q339_3]
      simp (implicitDefEqProofs := false) (disch := omega) only [b339_3, x_aload0, y_call325, y_call341, y_call365, x_gc_11395, x_gc_11403, x_gf_11416, x_goto_4, x_iaload, x_iconst, x_ifCond_eq_5, x_if_icmp_ge_5, x_if_icmp_ne_4, x_iload2, x_iload3, x_istore3, x_laload, klp_0, klp_1, klp_2, klp_3, klp_9, KC_0, KC_1, KC_2, KC_3, KC_4, ne_eq, not_false_eq_true, not_true_eq_false, true_and, and_true, and_self, implies_true, eq_self, true_imp_iff, false_implies, Int.reduceEq, Int.reduceNe, Int.reduceMod, Int.reduceMul, Int.reduceAdd, Int.reduceSub, Int.reduceLT, Int.reduceLE, Nat.reduceAdd, Nat.reduceLeDiff, Nat.reduceLT, Nat.reduceSub, reduceIte, wds_n, wds_0, wds_1, wds_2, wds_3, or_true, true_or, or_false, false_or, or_self, false_and, and_false, d_pos, d_s1, d_s2, d_s3, d_s4, d_s5, d_s6, d_s7, d_s8, Classical.not_not, z6603_16, z9569_l, z6603_17, z9632_l, z6603_18, z9696_l, r11 hS, r11l hS, r11k hS, r12 hS, r12l hS, r12k hS, r13 hS, r13l hS, r13k hS, r17 hS, r17l hS, r17k hS, TR_0 hS, TR_k hS, gd, c, d_s9, d_s10, d_s11, d_s12, d_s13, d_s14, d_s15, d_s16, d_s17, d_s18, d_s19, d_s20, d_s21, d_s22, d_s23, d_s24, d_s25, d_s26, d_s27, d_s28, d_s29, d_s30, hs_ne, hcell, hcel1, le_sub1, le_T, le_F, lt_T, lt_F, eq_F, w32_T, bz0, bz1, lc_le, lc_ge, lc_lt, lc_gt, lc_eq]
      rw [q339_5]
      simp (implicitDefEqProofs := false) (disch := omega) only [b339_5, x_aload0, x_gc_12387, x_gf_11339, x_gf_11384, x_iastore, x_iload1, x_return, klp_0, klp_1, klp_2, klp_3, klp_9, KC_0, KC_1, KC_2, KC_3, KC_4, ne_eq, not_false_eq_true, not_true_eq_false, true_and, and_true, and_self, implies_true, eq_self, true_imp_iff, false_implies, Int.reduceEq, Int.reduceNe, Int.reduceMod, Int.reduceMul, Int.reduceAdd, Int.reduceSub, Int.reduceLT, Int.reduceLE, Nat.reduceAdd, Nat.reduceLeDiff, Nat.reduceLT, Nat.reduceSub, reduceIte, wds_n, wds_0, wds_1, wds_2, wds_3, or_true, true_or, or_false, false_or, or_self, false_and, and_false, d_pos, d_s1, d_s2, d_s3, d_s4, d_s5, d_s6, d_s7, d_s8, Classical.not_not, z6603_16, z9569_l, z6603_17, z9632_l, z6603_18, z9696_l, r11 hS, r11l hS, r11k hS, r12 hS, r12l hS, r12k hS, r13 hS, r13l hS, r13k hS, r17 hS, r17l hS, r17k hS, TR_0 hS, TR_k hS, h9, d_s9, d_s10, d_s11, d_s12, d_s13, d_s14, d_s15, d_s16, d_s17, d_s18, d_s19, d_s20, d_s21, d_s22, d_s23, d_s24, d_s25, d_s26, d_s27, d_s28, d_s29, d_s30, hs_ne, hcell, hcel1, le_sub1, le_T, le_F, lt_T, lt_F, eq_F, w32_T, bz0, bz1, lc_le, lc_ge, lc_lt, lc_gt, lc_eq]
    · rw [q339_3]
      simp (implicitDefEqProofs := false) (disch := omega) only [b339_3, x_aload0, y_call325, y_call341, y_call365, x_gc_11395, x_gc_11403, x_gf_11416, x_goto_4, x_iaload, x_iconst, x_ifCond_eq_5, x_if_icmp_ge_5, x_if_icmp_ne_4, x_iload2, x_iload3, x_istore3, x_laload, klp_0, klp_1, klp_2, klp_3, klp_9, KC_0, KC_1, KC_2, KC_3, KC_4, ne_eq, not_false_eq_true, not_true_eq_false, true_and, and_true, and_self, implies_true, eq_self, true_imp_iff, false_implies, Int.reduceEq, Int.reduceNe, Int.reduceMod, Int.reduceMul, Int.reduceAdd, Int.reduceSub, Int.reduceLT, Int.reduceLE, Nat.reduceAdd, Nat.reduceLeDiff, Nat.reduceLT, Nat.reduceSub, reduceIte, wds_n, wds_0, wds_1, wds_2, wds_3, or_true, true_or, or_false, false_or, or_self, false_and, and_false, d_pos, d_s1, d_s2, d_s3, d_s4, d_s5, d_s6, d_s7, d_s8, Classical.not_not, z6603_16, z9569_l, z6603_17, z9632_l, z6603_18, z9696_l, r11 hS, r11l hS, r11k hS, r12 hS, r12l hS, r12k hS, r13 hS, r13l hS, r13k hS, r17 hS, r17l hS, r17k hS, TR_0 hS, TR_k hS, gd, c, d_s9, d_s10, d_s11, d_s12, d_s13, d_s14, d_s15, d_s16, d_s17, d_s18, d_s19, d_s20, d_s21, d_s22, d_s23, d_s24, d_s25, d_s26, d_s27, d_s28, d_s29, d_s30, hs_ne, hcell, hcel1, le_sub1, le_T, le_F, lt_T, lt_F, eq_F, w32_T, bz0, bz1, lc_le, lc_ge, lc_lt, lc_gt, lc_eq]
      rw [q339_5]
      simp (implicitDefEqProofs := false) (disch := omega) only [b339_5, x_aload0, x_gc_12387, x_gf_11339, x_gf_11384, x_iastore, x_iload1, x_return, klp_0, klp_1, klp_2, klp_3, klp_9, KC_0, KC_1, KC_2, KC_3, KC_4, ne_eq, not_false_eq_true, not_true_eq_false, true_and, and_true, and_self, implies_true, eq_self, true_imp_iff, false_implies, Int.reduceEq, Int.reduceNe, Int.reduceMod, Int.reduceMul, Int.reduceAdd, Int.reduceSub, Int.reduceLT, Int.reduceLE, Nat.reduceAdd, Nat.reduceLeDiff, Nat.reduceLT, Nat.reduceSub, reduceIte, wds_n, wds_0, wds_1, wds_2, wds_3, or_true, true_or, or_false, false_or, or_self, false_and, and_false, d_pos, d_s1, d_s2, d_s3, d_s4, d_s5, d_s6, d_s7, d_s8, Classical.not_not, z6603_16, z9569_l, z6603_17, z9632_l, z6603_18, z9696_l, r11 hS, r11l hS, r11k hS, r12 hS, r12l hS, r12k hS, r13 hS, r13l hS, r13k hS, r17 hS, r17l hS, r17k hS, TR_0 hS, TR_k hS, h9, d_s9, d_s10, d_s11, d_s12, d_s13, d_s14, d_s15, d_s16, d_s17, d_s18, d_s19, d_s20, d_s21, d_s22, d_s23, d_s24, d_s25, d_s26, d_s27, d_s28, d_s29, d_s30, hs_ne, hcell, hcel1, le_sub1, le_T, le_F, lt_T, lt_F, eq_F, w32_T, bz0, bz1, lc_le, lc_ge, lc_lt, lc_gt, lc_eq]
  obtain ⟨gr, B3, F3, x3⟩ := hz
  have go : ∀ o, o ≠ 258 → hset k3 258 2 L o = k3 o := fun o a => hs_ne a
  have g8' : ∀ i, i ≠ 2 → hset k3 258 2 L 258 i = k3 258 i := fun i a => hcell a
  refine ⟨hset k3 258 2 L, gr, k1, k2, fun Q => x1 _ Q, B1.1.2, fun Q => by rw [hk3]; exact lp Q, fun Q => x2 _ Q, x3, F1.i.trans (FIC.trans ?_ (FIC.s8 (by decide))), F2.i.trans F3, ⟨f, ⟨⟨hT, by rw [g8' 1 (by decide), e8]; exact B1.1.2⟩, by rw [go 129 (by decide), fo 129 (by omega)]; exact B1.2.1, fun o w => by rw [go o (by omega), fo o (by omega)]; exact B1.2.2.1 o w⟩, B3.bxr⟩, ?_, ?_, ?_⟩
  · exact ⟨fun o _ _ _ _ _ _ _ w => fo o (fun u => w (by omega)), fun i _ _ _ _ => by rw [e8]⟩
  · rw [go T (by omega), fo T (by omega)]
    exact B1.2.2.2.1
  · rw [g8' 10 (by decide), e8]
    exact B1.2.2.2.2.2
  · rw [go (T + 598) (by omega), fo (T + 598) (by omega)]
    exact F1.1 (T + 598) (by omega) (by omega) (by omega) (by omega) (by omega) (by omega) (by omega) (by omega) (by omega)
/-- a rule behind its names: its end -/
theorem tail_end {x c0 : Int} {e e2 : Nat} (D : GD bX tp t T S s h hr) (P : PARI h hr) (GO : GOM bX tp t T S s h hr s1 g gr) (V : NVR h g gr) (DX : DXB T S s s1 0 (-2) 0 h hr g gr) (BK : ∀ K V CL, AGK K V CL T S (h T 17) (hr S 15) (hr S 22) g gr → BKP K V CL (h T 17) (hr S 15) (g T 17) (gr S 15) (hr S 21) (hr S 22) 0) (hx : 0 ≤ x ∧ x < 12) (hc : hr (S + 84) 6 = x + 1) (h1 : h (T + 1238) x = h T 17 ∧ h (T + 1302) x = h 258 6) (h2 : hr (S + 916) x = hr S 15) (l : hr S 15 + 1 ≤ 11 * h T 15 + hr (S + 84) 6) (hd : hr 6603 12 = 0 ∧ h 258 11 = 0) (L : LATX (h 258 2) (hr 6603 8)) : ∃ gF rF k1 k2, (∀ Q, Sp fz1 (e + 9) 82 [(3, T), (0, 0)] g Q = Q 0 k1) ∧ k1 258 1 = T ∧ (∀ Q, G fz1 (e + 10) 72 4 [(3, 258), (0, x), (0, 0)] [] (hset k1 (T + 1366) x (k1 258 6)) Q = Q 0 gF) ∧ (∀ Q, Sp fz1 (e2 + 9) 347 [(3, 6603), (0, 29), (0, 0), (0, 0)] gr Q = Q (gr S 15) k2) ∧ (∀ (l3 : AV) Q, G fz1 (e2 + 10) 339 3 [(3, 6603), (0, x), (0, 0), l3] [] k2 Q = Q 0 rF) ∧ FIC T g gF ∧ FIR S gr rF ∧ TKX tp t T S s1 gF rF ∧ ITB T S s1 gF rF ∧ (CEP T h gF ∧ REP S hr rF) ∧ (gF 258 2 = -1 → RLX T S gF rF x) ∧ (gF 258 2 = -1 → h 258 2 = -1) ∧ (∀ o, o ≠ 258 → o ≠ T → o ≠ T + 1366 → o ≠ T + 1430 → gF o = g o) ∧ (∀ i, i ≠ 17 → gF T i = g T i) ∧ (∀ i, i ≠ x → gF (T + 1366) i = g (T + 1366) i) ∧ (∀ o, o ≠ 6603 → o ≠ S → o ≠ S + 852 → o ≠ S + 980 → o ≠ S + 1044 → o ≠ S + 1108 → rF o = gr o) ∧ ∀ i, i ≠ x → rF (S + 852) i = gr (S + 852) i := by
  have hT := D.2.1.1.1
  have hS := D.2.1.2.1
  have kT := kTC hT
  have kS := kTR hS
  have N := D.nb
  unfold NBR at N
  unfold DXB at DX
  have D2 := GO.2.1
  have S2 := D2.sb
  have q1 := GO.1
  obtain ⟨X3, N3, C3⟩ := D2.em (x := 0) (by omega)
  have c82 : ∀ Q, Sp fz1 (e + 9) 82 [(3, T), (0, 0)] g Q = Q 0 (emH T g 0) := fun Q => q82 hT (by omega)
  have em1 : ∀ i, i < g T 17 → emH T g 0 (T + 1430) i = g (T + 1430) i := fun i w => by
    have := D2.lim
    have nz := X3.2.1.lim
    unfold NC at N3
    rw [em_c (by omega), if_neg (by omega)]
  have em2 : ∀ o, o ≠ T → o ≠ T + 1430 → emH T g 0 o = g o := fun o a b => em_ne a b
  have em3 : ∀ i, i ≠ 17 → emH T g 0 T i = g T i := fun i a => em_s a
  have em4 : emH T g 0 (T + 1430) (g T 17) = 0 := C3.2
  generalize emH T g 0 = k1 at *
  unfold NC at N3
  have D3 := X3.2.1
  obtain ⟨X4, M4, R4⟩ := D3.cd (p := 29) (a := 0) (b := 0) (by omega) (fun w => absurd w (by decide))
  have lm2 := D2.lim
  have c347 : ∀ Q, Sp fz1 (e2 + 9) 347 [(3, 6603), (0, 29), (0, 0), (0, 0)] gr Q = Q (gr S 15) (cdR S gr 29 0 0) := fun Q => v347 D2.2.1.2.1 D2.2.1.2.2 (by omega)
  have cd1 : ∀ o, o ≠ S → o ≠ S + 980 → o ≠ S + 1044 → o ≠ S + 1108 → cdR S gr 29 0 0 o = gr o := fun o a b c e => by
    unfold cdR
    rw [hs_ne e, hs_ne c, hs_ne b, hs_ne a]
  have cd2 : ∀ i, i ≠ 15 → cdR S gr 29 0 0 S i = gr S i := fun i z => by
    unfold cdR
    rw [hs_ne (by omega), hs_ne (by omega), hs_ne (by omega), hcell z]
  have cdP : ∀ i, i ≠ gr S 15 → cdR S gr 29 0 0 (S + 980) i = gr (S + 980) i := fun i z => by
    unfold cdR
    rw [hs_ne (by omega), hs_ne (by omega), hcell z, hs_ne (by omega)]
  have cdA : ∀ i, i ≠ gr S 15 → cdR S gr 29 0 0 (S + 1044) i = gr (S + 1044) i := fun i z => by
    unfold cdR
    rw [hs_ne (by omega), hcell z, hs_ne (by omega), hs_ne (by omega)]
  have cdB : ∀ i, i ≠ gr S 15 → cdR S gr 29 0 0 (S + 1108) i = gr (S + 1108) i := fun i z => by
    unfold cdR
    rw [hcell z, hs_ne (by omega), hs_ne (by omega), hs_ne (by omega)]
  generalize cdR S gr 29 0 0 = k2 at *
  unfold NR at M4
  have D4 := X4.2.1
  have GG := GO.trans (X3.trans X4)
  have n4 := D4.nb
  unfold NBR at n4
  -- the class's late loop
  have fo : ∀ o, o ≠ T + 1366 → hset k1 (T + 1366) x (k1 258 6) o = k1 o := fun o a => hs_ne a
  have fx : ∀ i, i ≠ x → hset k1 (T + 1366) x (k1 258 6) (T + 1366) i = k1 (T + 1366) i := fun i a => hcell a
  have fy : hset k1 (T + 1366) x (k1 258 6) (T + 1366) x = k1 258 6 := hcel1
  have e8 := fo 258 (by omega)
  have e416 := fo 416 (by omega)
  have lp := fun Q => lp72 (Q := Q) (k := hset k1 (T + 1366) x (k1 258 6)) (x := x) (l0 := k1 258 2) (e := e) (by rw [e8]; omega) (k1 258 6).toNat 0 (by rw [e8]; omega)
  have h0 : hset (hset k1 (T + 1366) x (k1 258 6)) 258 2 (ltC (hset k1 (T + 1366) x (k1 258 6) 416) (k1 258 2) 0) = hset k1 (T + 1366) x (k1 258 6) := hset_as (by rw [e8]; rfl)
  rw [h0, e8, e416] at lp
  -- the reference's
  have lr := fun l3 => fun Q => lp339 (Q := Q) (k := k2) (y := x) (l0 := k2 6603 8) (e2 := e2) hS D4.2.1.2.2 (by have := D4.f; omega) (by omega) (by omega) (fun j j0 j1 => by have := (D4.2.2.2.2.2.2.2.1.2 j j0 j1).1; omega) (k2 6603 19).toNat 0 l3 (by omega)
  have lr0 : rfH S k2 0 (rltR k2 (k2 6603 8) 0) = k2 := rf_0
  have rn : ∀ o, o ≠ S + 1044 → o ≠ 6603 → rfH S k2 (k2 6603 19).toNat (rltR k2 (k2 6603 8) (k2 6603 19).toNat) o = k2 o := fun o a b => rf_ne a b
  have r3 : ∀ i, i ≠ 8 → rfH S k2 (k2 6603 19).toNat (rltR k2 (k2 6603 8) (k2 6603 19).toNat) 6603 i = k2 6603 i := fun i a => rf_3 hS a
  have r8 : rfH S k2 (k2 6603 19).toNat (rltR k2 (k2 6603 8) (k2 6603 19).toNat) 6603 8 = rltR k2 (k2 6603 8) (k2 6603 19).toNat := rf_l hS
  have rA : ∀ i, rfH S k2 (k2 6603 19).toNat (rltR k2 (k2 6603 8) (k2 6603 19).toNat) (S + 1044) i = rfA S k2 (k2 6603 19).toNat i := fun i => if_pos rfl
  rw [lr0] at lr
  have EE : ECP T 0 h k1 := GG.2.2.1.1
  have VV : NVR h k1 k2 := NVR.trans V X3.2.2.1.1 X4.2.2.2.1 (NVR.same (by omega))
  have LT := late_rule (c0 := k1 258 2) (r0 := k2 6603 8) D4 P EE VV (by
    have a : k1 258 2 = h 258 2 := GG.2.2.1.2.2.2 2 (by decide) (by decide) (by decide)
    have b : k2 6603 8 = hr 6603 8 := GG.2.2.2.2.2.2 8 (by decide) (by decide) (by decide) (by decide) (by decide) (by decide) (by decide) (by decide) (by decide) (by decide) (by decide)
    rw [a, b]
    exact L)
  have R := D4.2.2.2.2.2.2.2.1
  generalize hk3 : hset k1 (T + 1366) x (k1 258 6) = k3 at *
  generalize rfH S k2 (k2 6603 19).toNat (rltR k2 (k2 6603 8) (k2 6603 19).toNat) = k4 at *
  generalize hL1 : ltC (k1 416) (k1 258 2) (k1 258 6).toNat = L1 at *
  generalize rltR k2 (k2 6603 8) (k2 6603 19).toNat = L2 at *
  have go : ∀ o, o ≠ 258 → hset k3 258 2 L1 o = k3 o := fun o a => hs_ne a
  have g8 : ∀ i, i ≠ 2 → hset k3 258 2 L1 258 i = k3 258 i := fun i a => hcell a
  have g82 : hset k3 258 2 L1 258 2 = L1 := hcel1
  have so : ∀ o, o ≠ S + 852 → hset k4 (S + 852) x (k4 6603 15) o = k4 o := fun o a => hs_ne a
  have sx : ∀ i, i ≠ x → hset k4 (S + 852) x (k4 6603 15) (S + 852) i = k4 (S + 852) i := fun i a => hcell a
  have sy : hset k4 (S + 852) x (k4 6603 15) (S + 852) x = k4 6603 15 := hcel1
  have rL : ∀ (l3 : AV) Q, G fz1 (e2 + 10) 339 3 [(3, 6603), (0, x), (0, 0), l3] [] k2 Q = Q 0 (hset k4 (S + 852) x (k4 6603 15)) := fun l3 Q => by
    obtain ⟨n3, l4, z⟩ := lr l3 Q
    have z' : G fz1 (e2 + 10) 339 3 [(3, 6603), (0, x), (0, 0), l3] [] k2 Q = G fz1 (e2 + 10) 339 5 [(3, 6603), (0, x), n3, l4] [] k4 Q := z
    have h9 : k4 6603 9 = S := by rw [r3 9 (by decide)]; exact D4.2.1.2.2
    rw [z', q339_5]
    simp (implicitDefEqProofs := false) (disch := omega) only [b339_5, x_aload0, x_gc_12387, x_gf_11339, x_gf_11384, x_iastore, x_iload1, x_return, klp_0, klp_1, klp_2, klp_3, klp_9, KC_0, KC_1, KC_2, KC_3, KC_4, ne_eq, not_false_eq_true, not_true_eq_false, true_and, and_true, and_self, implies_true, eq_self, true_imp_iff, false_implies, Int.reduceEq, Int.reduceNe, Int.reduceMod, Int.reduceMul, Int.reduceAdd, Int.reduceSub, Int.reduceLT, Int.reduceLE, Nat.reduceAdd, Nat.reduceLeDiff, Nat.reduceLT, Nat.reduceSub, reduceIte, wds_n, wds_0, wds_1, wds_2, wds_3, or_true, true_or, or_false, false_or, or_self, false_and, and_false, d_pos, d_s1, d_s2, d_s3, d_s4, d_s5, d_s6, d_s7, d_s8, Classical.not_not, z6603_16, z9569_l, z6603_17, z9632_l, z6603_18, z9696_l, r11 hS, r11l hS, r11k hS, r12 hS, r12l hS, r12k hS, r13 hS, r13l hS, r13k hS, r17 hS, r17l hS, r17k hS, TR_0 hS, TR_k hS, h9, d_s9, d_s10, d_s11, d_s12, d_s13, d_s14, d_s15, d_s16, d_s17, d_s18, d_s19, d_s20, d_s21, d_s22, d_s23, d_s24, d_s25, d_s26, d_s27, d_s28, d_s29, d_s30, hs_ne, hcell, hcel1, le_sub1, le_T, le_F, lt_T, lt_F, eq_F, w32_T, bz0, bz1, lc_le, lc_ge, lc_lt, lc_gt, lc_eq]
  have cF : ∀ o, o ≠ 258 → o ≠ T + 1366 → hset k3 258 2 L1 o = k1 o := fun o a b => by rw [go o a, fo o b]
  have c8 : ∀ i, i ≠ 2 → hset k3 258 2 L1 258 i = k1 258 i := fun i a => by rw [g8 i a, e8]
  have cx : ∀ i, i ≠ x → hset k3 258 2 L1 (T + 1366) i = k1 (T + 1366) i := fun i a => by rw [go _ (by omega), fx i a]
  have cy : hset k3 258 2 L1 (T + 1366) x = k1 258 6 := by rw [go _ (by omega), fy]
  have dF : ∀ o, o ≠ 6603 → o ≠ S + 852 → o ≠ S + 1044 → hset k4 (S + 852) x (k4 6603 15) o = k2 o := fun o a b c => by rw [so o b, rn o c a]
  have d3 : ∀ i, i ≠ 8 → hset k4 (S + 852) x (k4 6603 15) 6603 i = k2 6603 i := fun i a => by rw [so _ (by omega), r3 i a]
  have d8 : hset k4 (S + 852) x (k4 6603 15) 6603 8 = L2 := by rw [so _ (by omega), r8]
  have dA : ∀ i, hset k4 (S + 852) x (k4 6603 15) (S + 1044) i = rfA S k2 (k2 6603 19).toNat i := fun i => by rw [so _ (by omega), rA]
  have dx : ∀ i, i ≠ x → hset k4 (S + 852) x (k4 6603 15) (S + 852) i = k2 (S + 852) i := fun i a => by rw [sx i a, rn _ (by omega) (by omega)]
  have dy : hset k4 (S + 852) x (k4 6603 15) (S + 852) x = k2 6603 15 := by rw [sy, r3 15 (by decide)]
  have fic : FIC T k1 (hset k3 258 2 L1) := ⟨fun o _ a _ _ _ _ _ w => cF o a (fun u => w (by omega)), fun i a _ _ _ => c8 i a⟩
  have fir : FIR S k2 (hset k4 (S + 852) x (k4 6603 15)) := ⟨fun o a _ _ _ _ _ _ _ _ w => dF o a (fun u => w (by omega)) (fun u => w (by omega)), fun i a _ _ _ _ _ => d3 i (by omega)⟩
  have TK : TKX tp t T S s1 (hset k3 258 2 L1) (hset k4 (S + 852) x (k4 6603 15)) := D4.tkx.fr ⟨cF _ (by omega) (by omega), cF _ (by omega) (by omega), c8 1 (by decide)⟩ (fun o w => cF o (by omega) (by omega)) (fun i a b => d3 i (by omega)) ⟨dF _ (by omega) (by omega) (by omega), d3 9 (by decide)⟩ (fun o w => dF o (by omega) (by omega) (by omega))
  generalize hgF : hset k3 258 2 L1 = gF at *
  generalize hrF : hset k4 (S + 852) x (k4 6603 15) = rF at *
  refine ⟨gF, rF, k1, k2, c82, D3.2.1.1.2, fun Q => by rw [hk3]; exact lp Q, c347, rL, X3.2.2.1.2.i.trans fic, X4.2.2.2.2.i.trans fir, TK, ?_, ?_, ?_, ?_, ?_, ?_, ?_, ?_, ?_⟩
  · obtain ⟨T0, -, C0⟩ := D4.2.2.2.2.2.2
    have hz : rF (S + 980) = k2 (S + 980) := dF _ (by omega) (by omega) (by omega)
    have hSz : rF S = k2 S := dF _ (by omega) (by omega) (by omega)
    refine ⟨?_, by rw [g82, d8]; exact LT, D4.2.2.2.2.2.1.fr (c8 10 (by decide)) (cF _ (by omega) (by omega)) (cF _ (by omega) (by omega)) (cF _ (by omega) (by omega)) (by rw [cF T (by omega) (by omega)]; exact Int.le_refl _) (PRE.of_eq (cF _ (by omega) (by omega))) (dF _ (by omega) (by omega) (by omega)) (dF _ (by omega) (by omega) (by omega)) (dF _ (by omega) (by omega) (by omega)) (dF _ (by omega) (by omega) (by omega)) (by rw [hSz]; exact Int.le_refl _), ?_, C0.gr (by rw [hSz]; exact Int.le_refl _) (fun i _ _ => by rw [hz]) (d3 24 (by decide)) (dF _ (by omega) (by omega) (by omega))⟩
    · unfold NBI
      rw [cF T (by omega) (by omega), hSz, d3 13 (by decide), d3 24 (by decide), d3 12 (by decide), c8 10 (by decide), c8 11 (by decide), dF (S + 84) (by omega) (by omega) (by omega)]
      omega
    · unfold TRI0
      rw [hSz, hz]
      intro i i0 i1 i2
      rw [dA, rfA_no _ i (fun j j0 j1 u => by
        have y := (R.2 j j0 (by omega)).2.1
        rw [u] at y
        omega)]
      exact T0 i i0 i1 i2
  · have hSz : rF S = k2 S := dF _ (by omega) (by omega) (by omega)
    refine ⟨EE.e.trans (CEP.of (by rw [cF T (by omega) (by omega)]) (cF _ (by omega) (by omega)) (c8 10 (by decide)) (cF _ (by omega) (by omega))), ?_⟩
    have z := GG.2.2.2.1.e
    obtain ⟨⟨b1, b2, b3, b4⟩, ⟨b5, b6⟩, ⟨b7, b8⟩, b9, y1, y2⟩ := z
    refine ⟨⟨by rw [hSz]; exact b1, by rw [dF (S + 980) (by omega) (by omega) (by omega)]; exact b2, fun i i0 i1 i2 => ?_, by rw [dF (S + 1108) (by omega) (by omega) (by omega)]; exact b4⟩, ⟨by rw [hSz]; exact b5, by rw [dF (S + 1174) (by omega) (by omega) (by omega)]; exact b6⟩, ⟨by rw [d3 24 (by decide)]; exact b7, by rw [dF 9888 (by omega) (by omega) (by omega)]; exact b8⟩, by rw [hSz]; exact b9, by rw [dF (S + 1236) (by omega) (by omega) (by omega)]; exact y1, by rw [dF (S + 1300) (by omega) (by omega) (by omega)]; exact y2⟩
    rw [dA, rfA_no _ i (fun j j0 j1 u => by
      have y := (R.2 j j0 (by omega)).1.1
      have s916 : k2 (S + 916) = hr (S + 916) := GG.2.2.2.2.1 (S + 916) (by omega) (by omega) (by omega) (by omega) (by omega) (by omega) (by omega) (by omega) (by omega) (by omega) (by omega) (by omega) (by omega) (by omega) (by omega) (by omega)
      have s84 : k2 (S + 84) = hr (S + 84) := GG.2.2.2.2.1 (S + 84) (by omega) (by omega) (by omega) (by omega) (by omega) (by omega) (by omega) (by omega) (by omega) (by omega) (by omega) (by omega) (by omega) (by omega) (by omega) (by omega)
      rw [s916, s84, hc, show x + 1 - 1 = x by omega, h2] at y
      omega)]
    exact b3 i i0 i1 i2
  · intro late
    rw [g82] at late
    have s916 : k2 (S + 916) = hr (S + 916) := GG.2.2.2.2.1 (S + 916) (by omega) (by omega) (by omega) (by omega) (by omega) (by omega) (by omega) (by omega) (by omega) (by omega) (by omega) (by omega) (by omega) (by omega) (by omega) (by omega)
    have t1238 : k1 (T + 1238) = h (T + 1238) := GG.2.2.1.2.1 (T + 1238) (by omega) (by omega) (by omega) (by omega) (by omega) (by omega) (by omega) (by omega) (by omega)
    have t1302 : k1 (T + 1302) = h (T + 1302) := GG.2.2.1.2.1 (T + 1302) (by omega) (by omega) (by omega) (by omega) (by omega) (by omega) (by omega) (by omega) (by omega)
    have g416 : k1 416 = g 416 := em2 _ (by omega) (by omega)
    have g353 : k1 258 = g 258 := em2 _ (by omega) (by omega)
    have hlen : k2 6603 = gr 6603 := cd1 _ (by omega) (by omega) (by omega) (by omega)
    have hsl : ∀ w, slF k2 w = slF gr w := fun w => by
      unfold slF
      rw [hlen, cd1 9505 (by omega) (by omega) (by omega) (by omega)]
    have hrfA : ∀ m i, i < gr S 15 → rfA S k2 m i = rfA S gr m i := fun m i hi => by
      induction m with
      | zero =>
        show k2 (S + 1044) i = gr (S + 1044) i
        exact cdA i (by omega)
      | succ n ih =>
        rw [rfA, rfA, ih, hsl, cd1 9696 (by omega) (by omega) (by omega) (by omega), cd1 9569 (by omega) (by omega) (by omega) (by omega)]
    refine rl_make (c0 := k1 258 2) D P GO BK ⟨?_, ?_, ?_⟩ ⟨?_, ?_⟩ ?_ ?_ ⟨?_, ?_, ?_⟩ ⟨?_, ?_⟩ ⟨?_, ?_, ?_⟩ ⟨?_, ?_⟩ ?_ ?_ ⟨?_, ?_, ?_, ?_⟩ (by omega)
    · rw [cF _ (by omega) (by omega), t1238]; exact h1.1
    · rw [cF _ (by omega) (by omega), t1302]; exact h1.2
    · rw [cy, g353]
    · rw [dF _ (by omega) (by omega) (by omega), s916]; exact h2
    · rw [dy, hlen]
    · rw [hc, show x + 1 - 1 = x by omega]; exact h2
    · rw [← g416, ← g353]
      rw [← hL1] at late
      exact late
    · rw [cF T (by omega) (by omega)]; omega
    · intro i hi
      rw [cF _ (by omega) (by omega)]
      exact em1 i hi
    · rw [cF _ (by omega) (by omega)]
      exact em4
    · rw [c8 10 (by decide), g353]
    · rw [cF _ (by omega) (by omega)]
      exact em2 _ (by omega) (by omega)
    · rw [dF S (by omega) (by omega) (by omega)]; omega
    · rw [dF S (by omega) (by omega) (by omega)]; omega
    · rw [dF S (by omega) (by omega) (by omega)]; omega
    · intro i hi
      rw [dF _ (by omega) (by omega) (by omega)]
      exact cdP i (by omega)
    · rw [dF _ (by omega) (by omega) (by omega)]
      exact R4.2.1
    · intro i hi
      rw [dA, hlen]
      exact hrfA _ i hi
    · intro i hi
      rw [dF _ (by omega) (by omega) (by omega)]
      exact cdB i (by omega)
    · rw [dF _ (by omega) (by omega) (by omega)]; exact cd1 _ (by omega) (by omega) (by omega) (by omega)
    · rw [dF _ (by omega) (by omega) (by omega)]; exact cd1 _ (by omega) (by omega) (by omega) (by omega)
    · rw [dF _ (by omega) (by omega) (by omega)]; exact cd1 _ (by omega) (by omega) (by omega) (by omega)
    · rw [dF _ (by omega) (by omega) (by omega)]; exact cd1 _ (by omega) (by omega) (by omega) (by omega)
  · intro late
    rw [g82, ← hL1] at late
    have a : k1 258 2 = h 258 2 := GG.2.2.1.2.2.2 2 (by decide) (by decide) (by decide)
    have M := (ltC_min (f := k1 416) (l0 := k1 258 2) (k1 258 6).toNat).2.1
    rcases L with w | w
    · exact w.1
    · have := M (by omega)
      omega
  · intro o a b c e
    rw [cF o a c]
    exact em2 o b e
  · intro i a
    rw [cF T (by omega) (by omega)]
    exact em3 i a
  · intro i a
    rw [cx i a, em2 _ (by omega) (by omega)]
  · intro o a b c e f i
    rw [dF o a c f]
    exact cd1 o b e f i
  · intro i a
    rw [dx i a, cd1 _ (by omega) (by omega) (by omega) (by omega)]
end SM
