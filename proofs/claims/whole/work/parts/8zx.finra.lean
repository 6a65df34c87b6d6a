/-! THE PURE SIDE, 206: read: printed by wip/tools/gen8zx.py -/
section SM
variable {tp : Int → Int} {t T S s0 : Int} {h hr g gr k kr h1 hr1 : HV} {Q : Int → HV → Prop}
/-- the opened school keeps the relation -/
theorem fin_ra {old : Int} (R : RA h) (eT : h 64 9 = T) (eS : h 6603 10 = S) (eo : h 6603 9 = old) (FC : FOC T h g) (I : IT tp t T S s0 h1 hr1) (K : LKI T S h1 hr1 (h1 258 10) g gr) (l : g 258 2 = -1) {C0 F R0 G : HV}
    (eC : C0 = hset (hset (hset (hset (hset g 129 1 0) 64 8 T) 64 9 (h 64 8)) 643 2 0) 836 4 0) (eF : F = opC T (pC T C0 (g (T + 598) 2).toNat)) (FR : FOR S F gr) (eR : R0 = hset (hset (hset gr 6603 1 0) 6603 10 old) 6603 25 0) (eG : G = opRH (pR S R0 (gr (S + 84) 2).toNat)) : RA G ∧ G 50 = h 50 := by
  have D := I.1
  have hT := D.2.1.1.1
  have hS := D.2.1.2.1
  have kT := kTC hT
  have kS := kTR hS
  have CO := code_of I K l
  obtain ⟨⟨k1, k2⟩, ⟨k3, k4⟩, -⟩ := K
  have C : CNX T S g gr := I.2.2.1.fr (k1 _ (by omega) (by omega)) (fun q _ _ => k1 _ (by omega) (by omega)) (k3 _ (by omega) (by omega)) (k3 _ (by omega) (by omega))
  have X : TXR T S g gr := I.2.2.2.1.fr (fun q _ _ => by rw [k1 _ (by omega) (by omega)]) (by rw [k1 T (by omega) (by omega)]) (fun o _ _ => k1 o (by omega) (by omega)) (fun o _ _ => k3 o (by omega) (by omega))
  have N := I.2.1.1
  unfold NBI at N
  have nd : gr S 14 = g T 15 := by rw [k3 S (by omega) (by omega), k1 T (by omega) (by omega)]; exact N.1.2.2
  have c2 := C.1 2 (by decide) (by decide)
  have m2 : MST 2 = 10 := by decide
  have g9 : gr 6603 9 = S := by rw [k4 9 (by decide)]; exact D.2.1.2.2
  obtain ⟨n, hn⟩ : ∃ n, n = (g (T + 598) 2).toNat := ⟨_, rfl⟩
  have cn : (n : Int) = g (T + 598) 2 := by omega
  have hn2 : (gr (S + 84) 2).toNat = n := by rw [c2.1, hn]
  rw [← hn] at eF
  rw [hn2] at eG
  -- the class's heap
  have z0 : C0 836 4 = 0 := by rw [eC, hcel1]
  obtain ⟨p1, p2, p3, p4⟩ := pC_v (T := T) z0 n
  have cC : ∀ o, o ≠ 836 → o ≠ 643 → o ≠ 64 → o ≠ 129 → C0 o = g o := fun o x1 x2 x3 x4 => by rw [eC, hs_ne x1, hs_ne x2, hs_ne x3, hs_ne x3, hs_ne x4]
  have c64 : ∀ i, i ≠ 8 → i ≠ 9 → C0 64 i = g 64 i := fun i x y => by rw [eC, hs_ne (by decide), hs_ne (by decide), hcell y, hcell x, hs_ne (by decide)]
  have c648 : C0 64 8 = T := by rw [eC, hs_ne (by decide), hs_ne (by decide), hcell (by decide), hcel1]
  have c649 : C0 64 9 = h 64 8 := by rw [eC, hs_ne (by decide), hs_ne (by decide), hcel1]
  have c643 : C0 643 2 = 0 := by rw [eC, hs_ne (by decide), hcel1]
  have c643b : ∀ i, i ≠ 2 → C0 643 i = g 643 i := fun i x => by rw [eC, hs_ne (by decide), hcell x, hs_ne (by decide), hs_ne (by decide), hs_ne (by decide)]
  have c129 : C0 129 1 = 0 := by rw [eC, hs_ne (by decide), hs_ne (by decide), hs_ne (by decide), hs_ne (by decide), hcel1]
  obtain ⟨P, hP⟩ : ∃ P, P = pC T C0 n := ⟨_, rfl⟩
  rw [← hP] at eF p1 p2 p3 p4
  have fo : ∀ o, o ≠ 64 → o ≠ 1157 → o ≠ 1927 → o ≠ 2016 → o ≠ 2080 → o ≠ 2568 → o ≠ 2656 → o ≠ 2953 → o ≠ 3104 → o ≠ 3168 → o ≠ 3232 → F o = P o := fun o x64 x1157 x1927 x2016 x2080 x2568 x2656 x2953 x3104 x3168 x3232 => by rw [eF, opC_o x64 x1157 x1927 x2016 x2080 x2568 x2656 x2953 x3104 x3168 x3232]
  have fg : ∀ o, o ≠ 64 → o ≠ 1157 → o ≠ 1927 → o ≠ 2016 → o ≠ 2080 → o ≠ 2568 → o ≠ 2656 → o ≠ 2953 → o ≠ 3104 → o ≠ 3168 → o ≠ 3232 → o ≠ 643 → o ≠ 129 → o ≠ 836 → o ≠ 928 → o ≠ 992 → o ≠ 1056 → o ≠ 1120 → F o = g o := fun o x64 x1157 x1927 x2016 x2080 x2568 x2656 x2953 x3104 x3168 x3232 y1 y2 y3 y4 y5 y6 y7 => by rw [fo o x64 x1157 x1927 x2016 x2080 x2568 x2656 x2953 x3104 x3168 x3232, p1 o y3 y4 y5 y6 y7, cC o y3 y1 x64 y2]
  have fT : ∀ o, T ≤ o → o ≤ T + 1462 → F o = g o := fun o a b => fg o (by omega) (by omega) (by omega) (by omega) (by omega) (by omega) (by omega) (by omega) (by omega) (by omega) (by omega) (by omega) (by omega) (by omega) (by omega) (by omega) (by omega) (by omega)
  -- the reference's heap
  have w0 : R0 6603 25 = 0 := by rw [eR, hcel1]
  obtain ⟨q1, q2, q3, q4⟩ := pR_v (S := S) w0 n
  have rR : ∀ o, o ≠ 6603 → R0 o = gr o := fun o x => by rw [eR, hs_ne x, hs_ne x, hs_ne x]
  have r3 : ∀ i, i ≠ 1 → i ≠ 10 → i ≠ 25 → R0 6603 i = gr 6603 i := fun i x1 x2 x3 => by rw [eR, hcell x3, hcell x2, hcell x1]
  have r1 : R0 6603 1 = 0 := by rw [eR, hcell (by decide), hcell (by decide), hcel1]
  have r10 : R0 6603 10 = old := by rw [eR, hcell (by decide), hcel1]
  obtain ⟨P2, hP2⟩ : ∃ P, P = pR S R0 n := ⟨_, rfl⟩
  rw [← hP2] at eG q1 q2 q3 q4
  have go : ∀ o, o ≠ 6603 → o ≠ 10016 → o ≠ 10080 → o ≠ 10144 → o ≠ 10208 → o ≠ 12384 → o ≠ 12512 → o ≠ 12576 → o ≠ 11680 → o ≠ 11744 → o ≠ 11808 → G o = gr o := fun o x1 x2 x3 x4 x5 x6 x7 x8 x9 x10 x11 => by rw [eG, opRH_o (o := o) (by assumption) (by assumption) (by assumption) (by assumption), q1 o x1 x2 x3 x4 x5 x6 x7 x8, rR o x1]
  have g3 : ∀ i, i ≠ 1 → i ≠ 10 → i ≠ 25 → (i ≠ 53 ∧ i ≠ 58 ∧ i ≠ 61 ∧ i ≠ 69 ∧ i ≠ 70 ∧ i ≠ 71 ∧ i ≠ 86) → G 6603 i = gr 6603 i := fun i x1 x2 x3 x4 => by rw [eG, ok_6603 x4, q3 i x3, r3 i x1 x2 x3]
  have gS : ∀ o, S ≤ o → o ≤ S + 1341 → G o = gr o := fun o a b => go o (by omega) (by omega) (by omega) (by omega) (by omega) (by omega) (by omega) (by omega) (by omega) (by omega) (by omega)
  have gF : ∀ o, o < 6603 → G o = F o := fun o a => by rw [go o (by omega) (by omega) (by omega) (by omega) (by omega) (by omega) (by omega) (by omega) (by omega) (by omega) (by omega)]; exact FR.1 o (by omega) (by omega) (by omega) (by omega) (by omega) (by omega) (by omega) (by omega) (by omega) (by omega)
  have gT : ∀ o, T ≤ o → o ≤ T + 1462 → G o = g o := fun o a b => by rw [gF o (by omega), fT o a b]
  have hcn : G (T + 598) 2 = n := by rw [gT _ (by omega) (by omega), cn]
  have f6 : ∀ i, F 6603 i = h 6603 i := fun i => by rw [fg 6603 (by decide) (by decide) (by decide) (by decide) (by decide) (by decide) (by decide) (by decide) (by decide) (by decide) (by decide) (by decide) (by decide) (by decide) (by decide) (by decide) (by decide) (by decide), FC 6603 (by decide) (by decide) (by decide) (by decide) (by decide) (by decide) (by decide) (by omega)]
  have h3 : ∀ i, ¬ (1 ≤ i ∧ i ≤ 8) → i ≠ 9 → i ≠ 10 → i ≠ 12 → i ≠ 13 → i ≠ 15 → i ≠ 19 → i ≠ 24 → i ≠ 25 → (i ≠ 53 ∧ i ≠ 58 ∧ i ≠ 61 ∧ i ≠ 69 ∧ i ≠ 70 ∧ i ≠ 71 ∧ i ≠ 86) → G 6603 i = h 6603 i := fun i x1 x2 x3 x4 x5 x6 x7 x8 x9 x10 => by rw [g3 i (by omega) x3 x9 x10, FR.2 i x1 x2 x4 x5 x6 x7 x8, f6 i]
  have gE : ∀ {i : Int}, G 64 i = F 64 i := fun {i} => by rw [gF 64 (by decide)]
  have lt : ∀ {p : Int}, p < G (T + 598) 2 → p < n := fun {p} a => by rw [hcn] at a; exact a
  have n10 : n ≤ 10 := by omega
  refine new_ra R eT eS (fun o w => ?_) ⟨?_, ?_, ?_, ?_, ?_⟩ ⟨?_, fun i x => ?_⟩ ?_ (fun p a b => ?_) ⟨?_, fun i x => ?_⟩ ⟨?_, ?_, ?_, ?_⟩ (fun s a b => ⟨?_, ?_⟩) (fun i a b => ?_) ⟨?_, ?_⟩ ⟨?_, ?_⟩ (fun p a b => ⟨?_, ?_⟩) (fun i a b => ?_) ?_ ⟨?_, ?_, ?_, ?_⟩ ⟨?_, ?_, ?_, ?_, ?_, ?_, ?_⟩ ⟨?_, ?_, ?_⟩ (fun p a b => ?_) (fun s a b => ⟨?_, ?_⟩) (fun i a b => ?_) ?_ ?_ ?_ ?_
  · unfold KEEP at w
    rw [go o (by omega) (by omega) (by omega) (by omega) (by omega) (by omega) (by omega) (by omega) (by omega) (by omega) (by omega), FR.1 o (by omega) (by omega) (by omega) (by omega) (by omega) (by omega) (by omega) (by omega) (by omega) (by omega), fg o (by omega) (by omega) (by omega) (by omega) (by omega) (by omega) (by omega) (by omega) (by omega) (by omega) (by omega) (by omega) (by omega) (by omega) (by omega) (by omega) (by omega) (by omega)]
    exact FC o (by omega) (by omega) (by omega) (by omega) (by omega) (by omega) (by omega) (by omega)
  · rw [gE, eF, ok_64 (by decide), p1 64 (by decide) (by decide) (by decide) (by decide) (by decide), c648]
  · rw [gE, eF, ok_64 (by decide), p1 64 (by decide) (by decide) (by decide) (by decide) (by decide), c649]
  · rw [gE, eF, oc_64_10]
  · rw [gE, eF, oc_64_12]
  · rw [gE, eF, oc_64_16]
  · rw [gF 643 (by decide), fo 643 (by decide) (by decide) (by decide) (by decide) (by decide) (by decide) (by decide) (by decide) (by decide) (by decide) (by decide), p1 643 (by decide) (by decide) (by decide) (by decide) (by decide), c643]
  · rw [gF 643 (by decide), fo 643 (by decide) (by decide) (by decide) (by decide) (by decide) (by decide) (by decide) (by decide) (by decide) (by decide) (by decide), p1 643 (by decide) (by decide) (by decide) (by decide) (by decide), c643b i x, FC 643 (by decide) (by decide) (by decide) (by decide) (by decide) (by decide) (by decide) (by omega)]
  · rw [gF 836 (by decide), fo 836 (by decide) (by decide) (by decide) (by decide) (by decide) (by decide) (by decide) (by decide) (by decide) (by decide) (by decide), p2, hcn]
  · have z := p4 p a (lt b)
    rw [gF 928 (by decide), gF 992 (by decide), gF 1056 (by decide), gF 1120 (by decide), fo 928 (by decide) (by decide) (by decide) (by decide) (by decide) (by decide) (by decide) (by decide) (by decide) (by decide) (by decide), fo 992 (by decide) (by decide) (by decide) (by decide) (by decide) (by decide) (by decide) (by decide) (by decide) (by decide) (by decide), fo 1056 (by decide) (by decide) (by decide) (by decide) (by decide) (by decide) (by decide) (by decide) (by decide) (by decide) (by decide), fo 1120 (by decide) (by decide) (by decide) (by decide) (by decide) (by decide) (by decide) (by decide) (by decide) (by decide) (by decide), gT (T + 726) (by omega) (by omega), ← cC (T + 726) (by omega) (by omega) (by omega) (by omega)]
    exact z
  · rw [gF 1157 (by decide), eF, oc_1157_3]
  · rw [gF 1157 (by decide), eF, ok_1157 x, p1 1157 (by decide) (by decide) (by decide) (by decide) (by decide), cC 1157 (by decide) (by decide) (by decide) (by decide), FC 1157 (by decide) (by decide) (by decide) (by decide) (by decide) (by decide) (by decide) (by omega)]
  · rw [gF 1927 (by decide), eF, oc_1927_0]
  · rw [gF 1927 (by decide), eF, oc_1927_13]
  · rw [gF 1927 (by decide), eF, oc_1927_14]
  · rw [gF 1927 (by decide), eF, ok_1927 (by decide), p1 1927 (by decide) (by decide) (by decide) (by decide) (by decide), cC 1927 (by decide) (by decide) (by decide) (by decide), FC 1927 (by decide) (by decide) (by decide) (by decide) (by decide) (by decide) (by decide) (by omega)]
  · rw [gF 2016 (by decide), eF, oa_2016 a b]
  · rw [gF 2656 (by decide), eF, oa_2656 a b]
  · rw [gF 2080 (by decide), eF, oa_2080 a b]
  · rw [gF 2568 (by decide), eF, oc_2568_1]
  · rw [gF 2568 (by decide), eF, oc_2568_4]
  · rw [gF 2953 (by decide), eF, oc_2953_1]
  · rw [gF 2953 (by decide), eF, oc_2953_6]
  · rw [gF 3104 (by decide), eF, oa_3104 a b]
  · rw [gF 3232 (by decide), eF, oa_3232 a b]
  · rw [gF 3168 (by decide), eF, oa_3168 a b]
  · rw [gF 129 (by decide), fo 129 (by decide) (by decide) (by decide) (by decide) (by decide) (by decide) (by decide) (by decide) (by decide) (by decide) (by decide), p1 129 (by decide) (by decide) (by decide) (by decide) (by decide), c129]
  · rw [eG, ok_6603 (by decide), q3 1 (by decide), r1]
  · rw [g3 9 (by decide) (by decide) (by decide) (by decide), g9]
  · rw [eG, ok_6603 (by decide), q3 10 (by decide), r10, eo]
  · rw [hcn, eG, ok_6603 (by decide), q2]
  · rw [eG, or_6603_53]
  · rw [eG, or_6603_58]
  · rw [eG, or_6603_61]
  · rw [eG, or_6603_69]
  · rw [eG, or_6603_70]
  · rw [eG, or_6603_71]
  · rw [eG, or_6603_86]
  · exact h3 30 (by decide) (by decide) (by decide) (by decide) (by decide) (by decide) (by decide) (by decide) (by decide) (by decide)
  · exact h3 55 (by decide) (by decide) (by decide) (by decide) (by decide) (by decide) (by decide) (by decide) (by decide) (by decide)
  · exact h3 65 (by decide) (by decide) (by decide) (by decide) (by decide) (by decide) (by decide) (by decide) (by decide) (by decide)
  · have z := q4 p a (lt b)
    have e1 : ∀ o, o = 10016 ∨ o = 10080 ∨ o = 10144 ∨ o = 10208 ∨ o = 12384 ∨ o = 12512 ∨ o = 12576 → G o = P2 o := fun o w => by rw [eG, opRH_o (by omega) (by omega) (by omega) (by omega)]
    rw [e1 10016 (by decide), e1 10080 (by decide), e1 10144 (by decide), e1 10208 (by decide), e1 12384 (by decide), e1 12512 (by decide), e1 12576 (by decide), gS (S + 276) (by omega) (by omega), ← rR (S + 276) (by omega)]
    exact z
  · rw [eG, oa_11680 a b]
  · rw [eG, oa_11744 a b]
  · rw [eG, oa_11808 a b]
  · exact C.fr (gT _ (by omega) (by omega)) (fun q _ _ => gT _ (by omega) (by omega)) (gS _ (by omega) (by omega)) (gS _ (by omega) (by omega))
  · exact X.fr (fun q _ _ => by rw [gT _ (by omega) (by omega)]) (by rw [gT T (by omega) (by omega)]) (fun o _ _ => gT o (by omega) (by omega)) (fun o _ _ => gS o (by omega) (by omega))
  · obtain ⟨K, u1, u2, u3, u4, u5, u6, u7⟩ := CO
    refine ⟨K, u1, ?_, ?_, ?_, ?_, ?_, ?_⟩
    · rw [gT T (by omega) (by omega), gT (T + 1430) (by omega) (by omega)]
      exact u2
    · rw [gT (T + 598) (by omega) (by omega), gT (T + 1238) (by omega) (by omega), gT (T + 1302) (by omega) (by omega), gT (T + 1366) (by omega) (by omega)]
      exact u3
    · rw [gS (S + 980) (by omega) (by omega), gS (S + 1044) (by omega) (by omega), gS (S + 1108) (by omega) (by omega)]
      exact u4
    · rw [gS (S + 1236) (by omega) (by omega)]
      exact u5
    · rw [gS (S + 1300) (by omega) (by omega), gS (S + 1174) (by omega) (by omega)]
      exact u6
    · rw [gS (S + 84) (by omega) (by omega), gS (S + 788) (by omega) (by omega), gS (S + 852) (by omega) (by omega), gS (S + 916) (by omega) (by omega)]
      exact u7
  · rw [gS S (by omega) (by omega), gT T (by omega) (by omega)]
    exact nd
theorem c24_bad {x : Int} {e : Nat} (hT : TC T) (e9 : h 64 9 = T) (EC : ∀ Q, Sp fz1 (e + 13) 25 [(3, 258), (3, T)] h Q = Q x g) (x0 : 0 ≤ x) : Sp fz1 (e + 14) 24 [(3, 64)] h Q = Q (w32 (-10 - x)) (hset g 129 1 0) := by
  have kT := kTC hT
  simp (implicitDefEqProofs := false) (disch := omega) only [sp24, b24_0, x_aload0, y_call126, y_call25, x_gc_11, x_gc_3, x_gf_75, x_iconst, x_ifCond_lt_1, x_iload1, x_ireturn, x_istore1, x_isub, sp126, b126_0, x_pf_1032, x_return, klp_0, klp_1, klp_2, klp_3, klp_9, KC_0, KC_1, KC_2, KC_3, KC_4, ne_eq, not_false_eq_true, not_true_eq_false, true_and, and_true, and_self, implies_true, eq_self, true_imp_iff, false_implies, Int.reduceEq, Int.reduceNe, Int.reduceMod, Int.reduceMul, Int.reduceAdd, Int.reduceSub, Int.reduceLT, Int.reduceLE, Nat.reduceAdd, Nat.reduceLeDiff, Nat.reduceLT, Nat.reduceSub, reduceIte, wds_n, wds_0, wds_1, wds_2, wds_3, or_true, true_or, or_false, false_or, or_self, false_and, and_false, d_pos, d_s1, d_s2, d_s3, d_s4, d_s5, d_s6, d_s7, d_s8, Classical.not_not, z64_1, z64_0, TC_0 hT, TC_k hT, e9, EC, x0, d_s9, d_s10, d_s11, d_s12, d_s13, d_s14, d_s15, d_s16, d_s17, d_s18, d_s19, d_s20, d_s21, d_s22, d_s23, d_s24, d_s25, d_s26, d_s27, d_s28, d_s29, d_s30, hs_ne, hcell, hcel1, le_sub1, le_T, le_F, lt_T, lt_F, eq_F, w32_T, bz0, bz1, lc_le, lc_ge, lc_lt, lc_gt, lc_eq]
theorem c24_good {e : Nat} {F : HV} (hT : TC T) (e9 : h 64 9 = T) (EC : ∀ Q, Sp fz1 (e + 13) 25 [(3, 258), (3, T)] h Q = Q (-1) g) (g9 : g 64 9 = T) (op : ∀ Q, Sp fz1 (e + 13) 127 [(3, 64)] (hset (hset (hset g 129 1 0) 64 8 T) 64 9 (g 64 8)) Q = Q 0 F) (f8 : F 64 8 = T) (hc : 0 ≤ F (T + 598) 6) : Sp fz1 (e + 14) 24 [(3, 64)] h Q = Q (F (T + 598) 6) F := by
  have kT := kTC hT
  have e8 := g9
  have hm : ∀ (d : Nat) Q, Sp fz1 d 55 [(3, T), (0, 6)] F Q = Q (F (T + 598) 6) F := fun d Q => c55 hT (by decide)
  simp (implicitDefEqProofs := false) (disch := omega) only [sp24, b24_0, b24_1, q24_1, x_aload0, x_aload2, x_astore2, y_call126, y_call127, y_call25, y_call55, x_gc_11, x_gc_3, x_gf_67, x_gf_75, x_iconst, x_ifCond_lt_1, x_iload1, x_ireturn, x_istore1, x_isub, x_pf_67, x_pf_75, sp126, b126_0, x_pf_1032, x_return, klp_0, klp_1, klp_2, klp_3, klp_9, KC_0, KC_1, KC_2, KC_3, KC_4, ne_eq, not_false_eq_true, not_true_eq_false, true_and, and_true, and_self, implies_true, eq_self, true_imp_iff, false_implies, Int.reduceEq, Int.reduceNe, Int.reduceMod, Int.reduceMul, Int.reduceAdd, Int.reduceSub, Int.reduceLT, Int.reduceLE, Nat.reduceAdd, Nat.reduceLeDiff, Nat.reduceLT, Nat.reduceSub, reduceIte, wds_n, wds_0, wds_1, wds_2, wds_3, or_true, true_or, or_false, false_or, or_self, false_and, and_false, d_pos, d_s1, d_s2, d_s3, d_s4, d_s5, d_s6, d_s7, d_s8, Classical.not_not, z64_1, z64_0, TC_0 hT, TC_k hT, e9, e8, EC, op, f8, hm, d_s9, d_s10, d_s11, d_s12, d_s13, d_s14, d_s15, d_s16, d_s17, d_s18, d_s19, d_s20, d_s21, d_s22, d_s23, d_s24, d_s25, d_s26, d_s27, d_s28, d_s29, d_s30, hs_ne, hcell, hcel1, le_sub1, le_T, le_F, lt_T, lt_F, eq_F, w32_T, bz0, bz1, lc_le, lc_ge, lc_lt, lc_gt, lc_eq]
theorem r320_10 {old v2 : Int} {u3 : AV} {e2 : Nat} {GG : HV} (hS : TR S) (op : ∀ Q, Sp fz1 (e2 + 11) 366 [(3, 6603)] (hset gr 6603 10 old) Q = Q 0 GG) (f9 : GG 6603 9 = S) : G fz1 (e2 + 12) 320 10 [(3, 6603), (3, old), (0, v2), u3] [] gr Q = Q (GG (S + 84) 6) GG := by
  rw [q320_10]
  simp (implicitDefEqProofs := false) (disch := omega) only [b320_10, q320_10, x_aload0, x_aload1, y_call366, x_gc_12291, x_gf_11339, x_iaload, x_iconst, x_ireturn, x_pf_11347, klp_0, klp_1, klp_2, klp_3, klp_9, KC_0, KC_1, KC_2, KC_3, KC_4, ne_eq, not_false_eq_true, not_true_eq_false, true_and, and_true, and_self, implies_true, eq_self, true_imp_iff, false_implies, Int.reduceEq, Int.reduceNe, Int.reduceMod, Int.reduceMul, Int.reduceAdd, Int.reduceSub, Int.reduceLT, Int.reduceLE, Nat.reduceAdd, Nat.reduceLeDiff, Nat.reduceLT, Nat.reduceSub, reduceIte, wds_n, wds_0, wds_1, wds_2, wds_3, or_true, true_or, or_false, false_or, or_self, false_and, and_false, d_pos, d_s1, d_s2, d_s3, d_s4, d_s5, d_s6, d_s7, d_s8, Classical.not_not, z6603_20, z9761_l, z6603_21, z9824_l, z6603_22, z9888_l, z6603_23, z9952_l, r0 hS, r0l hS, r0k hS, r11 hS, r11l hS, r11k hS, r17 hS, r17l hS, r17k hS, TR_0 hS, TR_k hS, op, f9, d_s9, d_s10, d_s11, d_s12, d_s13, d_s14, d_s15, d_s16, d_s17, d_s18, d_s19, d_s20, d_s21, d_s22, d_s23, d_s24, d_s25, d_s26, d_s27, d_s28, d_s29, d_s30, hs_ne, hcell, hcel1, le_sub1, le_T, le_F, lt_T, lt_F, eq_F, w32_T, bz0, bz1, lc_le, lc_ge, lc_lt, lc_gt, lc_eq]
end SM
