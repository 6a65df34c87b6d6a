/-! THE PURE SIDE, 97: the class's machine, room, enter: printed by wip/tools/gen89za.py -/
def grN (h : HV) (a k n : Int) : HV := acp (alc h k n n) a 0 (64 * h 0 0 + k) 0 (h a (-1))
theorem grN_old {h : HV} {a k n o : Int} (ho : o ≠ 64 * h 0 0 + k) (h0 : o ≠ 0) : grN h a k n o = h o := by
  funext i
  unfold grN
  rw [acp_v, if_neg (fun q => ho q.1), alc_v, if_neg ho, if_neg (fun q => h0 q.1), if_neg (fun q => h0 q.1)]
theorem grN_new {h : HV} {a k n i : Int} (ha : a ≠ 64 * h 0 0 + k) (ha0 : a ≠ 0) : grN h a k n (64 * h 0 0 + k) i = if 0 ≤ i ∧ i < h a (-1) then h a i else if i = -1 then n else 0 := by
  unfold grN
  rw [acp_v]
  split
  · rename_i hc
    rw [if_pos (by omega), alc_v, if_neg ha, if_neg (fun q => ha0 q.1), if_neg (fun q => ha0 q.1), show (0 : Int) + (i - 0) = i by omega]
  · rename_i hc
    rw [if_neg (by omega), alc_v, if_pos rfl]
theorem grN_c0 {h : HV} {a k n : Int} (hk : 0 < 64 * h 0 0 + k) : grN h a k n 0 0 = h 0 0 + 1 := by
  unfold grN
  rw [acp_v, if_neg (by omega), alc_v, if_neg (by omega), if_pos ⟨rfl, rfl⟩]
theorem grN_c1 {h : HV} {a k n : Int} (hk : 0 < 64 * h 0 0 + k) : grN h a k n 0 1 = h 0 1 + n := by
  unfold grN
  rw [acp_v, if_neg (by omega), alc_v, if_neg (by omega), if_neg (by omega), if_pos ⟨rfl, rfl⟩]
theorem s154N {d : Nat} {h : HV} {Q : Int → HV → Prop} {a i0 n : Int} (hn : h a (-1) < n ∧ n ≤ 67000000) (A : NFA (h 0 0) a 32 i0) (hi : 64 ≤ i0) (hl : 1 ≤ h a (-1) ∧ h a (-1) ≤ 100000) : Sp fz1 d 154 [(3, a), (0, n)] h Q = Q (64 * h 0 0 + 32) (grN h a 32 n) := by
  obtain ⟨n1, n2, n3, n4, n5⟩ := A
  have f1 : ∀ i, fz1 (64 * h 0 0 + 32) i = none := fun i => fz1_new (by omega)
  have g0 : alc h 32 n n a = h a := by
    funext i
    rw [alc_v, if_neg (by omega), if_neg (by omega), if_neg (by omega)]
  have g1 : alc h 32 n n (64 * h 0 0 + 32) (-1) = n := by rw [alc_v, if_pos rfl, if_pos rfl]
  have e1 : min (h a (-1)) n = h a (-1) := by omega
  have e2 : (64 * h 0 0 + 32) % 64 = 32 := by omega
  have e3 : (a = 64 * h 0 0 + 32) = False := eq_false (by omega)
  have e4 : (h a (-1) = n) = False := eq_false (by omega)
  have e5 : (n = h a (-1)) = False := eq_false (by omega)
  simp (implicitDefEqProofs := false) (disch := omega) only [sp154, b154_0, b154_1, q154_1, x_acp, x_alen, x_aload0, x_aload2, x_areturn, x_astore2, x_iconst, x_if_icmp_ne_1, x_iload1, x_imin, x_new_32, klp_0, klp_1, klp_2, klp_3, klp_9, KC_0, KC_1, KC_2, KC_3, KC_4, ne_eq, not_false_eq_true, not_true_eq_false, true_and, and_true, and_self, implies_true, eq_self, true_imp_iff, false_implies, Int.reduceEq, Int.reduceNe, Int.reduceMod, Int.reduceMul, Int.reduceAdd, Int.reduceSub, Int.reduceLT, Int.reduceLE, Nat.reduceAdd, Nat.reduceLeDiff, Nat.reduceLT, Nat.reduceSub, reduceIte, wds_n, wds_0, wds_1, wds_2, wds_3, or_true, true_or, or_false, false_or, or_self, false_and, and_false, d_pos, d_s1, d_s2, d_s3, d_s4, d_s5, d_s6, d_s7, d_s8, Classical.not_not, rd_nf n1, rd_nf f1, n2, g0, g1, e1, e2, e3, e4, e5, f1, akd, le_T, lt_T, lt_F, le_F, Int.zero_add]
  rfl
theorem s155N {d : Nat} {h : HV} {Q : Int → HV → Prop} {a i0 n : Int} (hn : h a (-1) < n ∧ n ≤ 67000000) (A : NFA (h 0 0) a 33 i0) (hi : 64 ≤ i0) (hl : 1 ≤ h a (-1) ∧ h a (-1) ≤ 524288) : Sp fz1 d 155 [(3, a), (0, n)] h Q = Q (64 * h 0 0 + 33) (grN h a 33 n) := by
  obtain ⟨n1, n2, n3, n4, n5⟩ := A
  have f1 : ∀ i, fz1 (64 * h 0 0 + 33) i = none := fun i => fz1_new (by omega)
  have g0 : alc h 33 n n a = h a := by
    funext i
    rw [alc_v, if_neg (by omega), if_neg (by omega), if_neg (by omega)]
  have g1 : alc h 33 n n (64 * h 0 0 + 33) (-1) = n := by rw [alc_v, if_pos rfl, if_pos rfl]
  have e1 : min (h a (-1)) n = h a (-1) := by omega
  have e2 : (64 * h 0 0 + 33) % 64 = 33 := by omega
  have e3 : (a = 64 * h 0 0 + 33) = False := eq_false (by omega)
  have e4 : (h a (-1) = n) = False := eq_false (by omega)
  have e5 : (n = h a (-1)) = False := eq_false (by omega)
  simp (implicitDefEqProofs := false) (disch := omega) only [sp155, b155_0, b155_1, q155_1, x_acp, x_alen, x_aload0, x_aload2, x_areturn, x_astore2, x_iconst, x_if_icmp_ne_1, x_iload1, x_imin, x_new_33, klp_0, klp_1, klp_2, klp_3, klp_9, KC_0, KC_1, KC_2, KC_3, KC_4, ne_eq, not_false_eq_true, not_true_eq_false, true_and, and_true, and_self, implies_true, eq_self, true_imp_iff, false_implies, Int.reduceEq, Int.reduceNe, Int.reduceMod, Int.reduceMul, Int.reduceAdd, Int.reduceSub, Int.reduceLT, Int.reduceLE, Nat.reduceAdd, Nat.reduceLeDiff, Nat.reduceLT, Nat.reduceSub, reduceIte, wds_n, wds_0, wds_1, wds_2, wds_3, or_true, true_or, or_false, false_or, or_self, false_and, and_false, d_pos, d_s1, d_s2, d_s3, d_s4, d_s5, d_s6, d_s7, d_s8, Classical.not_not, rd_nf n1, rd_nf f1, n2, g0, g1, e1, e2, e3, e4, e5, f1, akd, le_T, lt_T, lt_F, le_F, Int.zero_add]
  rfl
/-- the values' arrays, perhaps others -/
def RFM (h h1 : HV) (w : Int) : Prop := VOK h1 ∧ w ≤ h1 (h1 1222 0) (-1) ∧ (∀ p, 0 ≤ p → p < h 1222 2 → h1 (h1 1222 0) p = h (h 1222 0) p ∧ h1 (h1 1222 1) p = h (h 1222 1) p) ∧ h1 1222 2 = h 1222 2 ∧
  (∀ o, o ≠ 1222 → o ≠ 0 → o < 64 * h 0 0 → h1 o = h o) ∧ h 0 0 ≤ h1 0 0 ∧ 64 * (h1 0 0 - h 0 0) ≤ 2 * (h1 (h1 1222 0) (-1) - h (h 1222 0) (-1)) ∧ h1 0 1 - h 0 1 ≤ 4 * (h1 (h1 1222 0) (-1) - h (h 1222 0) (-1)) ∧ h (h 1222 0) (-1) ≤ h1 (h1 1222 0) (-1) ∧
  (h1 1222 0 = h 1222 0 ∨ 64 * h 0 0 ≤ h1 1222 0) ∧ (h1 1222 1 = h 1222 1 ∨ 64 * h 0 0 ≤ h1 1222 1)
theorem s171 {d : Nat} {h : HV} {Q : Int → HV → Prop} {m : Int} (V : VOK h) (hm : 0 ≤ m ∧ h 1222 2 + m ≤ 8192) (h2 : 256 ≤ h (h 1222 0) (-1)) (hQ : ∀ h1, RFM h h1 (h 1222 2 + m) → Q 0 h1) : Sp fz1 (d + 1) 171 [(3, 1222), (0, m)] h Q := by
  have V0 := V
  obtain ⟨v1, v2, v3, v4, v5⟩ := V
  have f1 := v1
  have f2 := v2
  unfold NFA at f1 f2
  by_cases a1 : h 1222 2 + m ≤ h (h 1222 0) (-1)
  · have g := hQ h ⟨V0, a1, fun _ _ _ => ⟨rfl, rfl⟩, rfl, fun _ _ _ _ => rfl, Int.le_refl _, by omega, by omega, Int.le_refl _, .inl rfl, .inl rfl⟩
    simp (implicitDefEqProofs := false) (disch := omega) only [sp171, b171_0, b171_1, b171_2, q171_1, q171_2, x_alen, x_aload0, y_call154, y_call155, x_gf_6147, x_gf_6155, x_gf_6160, x_goto_1, x_iadd, x_iconst, x_ifCond_lt_1, x_if_icmp_gt_2, x_iload1, x_iload2, x_imax, x_imul, x_istore2, x_pf_6147, x_pf_6155, x_return, klp_0, klp_1, klp_2, klp_3, klp_9, KC_0, KC_1, KC_2, KC_3, KC_4, ne_eq, not_false_eq_true, not_true_eq_false, true_and, and_true, and_self, implies_true, eq_self, true_imp_iff, false_implies, Int.reduceEq, Int.reduceNe, Int.reduceMod, Int.reduceMul, Int.reduceAdd, Int.reduceSub, Int.reduceLT, Int.reduceLE, Nat.reduceAdd, Nat.reduceLeDiff, Nat.reduceLT, Nat.reduceSub, reduceIte, wds_n, wds_0, wds_1, wds_2, wds_3, or_true, true_or, or_false, false_or, or_self, false_and, and_false, d_pos, d_s1, d_s2, d_s3, d_s4, d_s5, d_s6, d_s7, d_s8, Classical.not_not, rd_nf f1.1, f1.2.1, le_sub1, le_T, le_F, lt_T, lt_F, eq_F, w32_T, bz0, bz1, lc_le, lc_ge, lc_lt, lc_gt, lc_eq]
    exact g
  · generalize hn : max (h 1222 2 + m) (h (h 1222 0) (-1) * 2) = n
    have hn2 : max (h (h 1222 0) (-1) * 2) (h 1222 2 + m) = n := by omega
    have n1 : 2 * h (h 1222 0) (-1) ≤ n ∧ h 1222 2 + m ≤ n ∧ n ≤ 16384 := by omega
    generalize hH1 : hset (grN h (h 1222 0) 32 n) 1222 0 (64 * h 0 0 + 32) = H1
    have o1 : ∀ o, o ≠ 1222 → o ≠ 0 → o < 64 * h 0 0 → H1 o = h o := fun o q1 q2 q3 => by rw [← hH1, hs_ne q1, grN_old (by omega) q2]
    have z1 : ∀ s, s ≠ 0 → H1 1222 s = h 1222 s := fun s q => by rw [← hH1, hcell q, grN_old (by omega) (by decide)]
    have z0 : H1 1222 0 = 64 * h 0 0 + 32 := by rw [← hH1, hcel1]
    have c0 : H1 0 0 = h 0 0 + 1 := by rw [← hH1, hs_ne (by decide), grN_c0 (by omega)]
    have c1 : H1 0 1 = h 0 1 + n := by rw [← hH1, hs_ne (by decide), grN_c1 (by omega)]
    have B1 : H1 (h 1222 1) = h (h 1222 1) := o1 _ (by omega) (by omega) (by omega)
    have K1 : ∀ i, H1 (64 * h 0 0 + 32) i = if 0 ≤ i ∧ i < h (h 1222 0) (-1) then h (h 1222 0) i else if i = -1 then n else 0 := fun i => by
      rw [← hH1, hs_ne (by omega), grN_new (by omega) (by omega)]
    have A2 : NFA (H1 0 0) (h 1222 1) 33 1377 := ⟨f2.1, f2.2.1, f2.2.2.1, by omega, by omega⟩
    generalize hH2 : hset (grN H1 (h 1222 1) 33 n) 1222 1 (64 * H1 0 0 + 33) = H2
    have W1 : ∀ Q, Sp fz1 d 154 [(3, h 1222 0), (0, n)] h Q = Q (64 * h 0 0 + 32) (grN h (h 1222 0) 32 n) := fun Q => s154N (by omega) v1 (by decide) (by omega)
    have W2 : ∀ Q, Sp fz1 d 155 [(3, h 1222 1), (0, n)] H1 Q = Q (64 * H1 0 0 + 33) (grN H1 (h 1222 1) 33 n) := fun Q => s155N (by rw [B1]; omega) A2 (by decide) (by rw [B1]; omega)
    have p1 : ∀ o, o ≠ 1222 → o ≠ 0 → o < 64 * H1 0 0 → H2 o = H1 o := fun o q1 q2 q3 => by rw [← hH2, hs_ne q1, grN_old (by omega) q2]
    have y1 : ∀ s, s ≠ 1 → H2 1222 s = H1 1222 s := fun s q => by rw [← hH2, hcell q, grN_old (by omega) (by decide)]
    have y0 : H2 1222 1 = 64 * H1 0 0 + 33 := by rw [← hH2, hcel1]
    have e0 : H2 0 0 = H1 0 0 + 1 := by rw [← hH2, hs_ne (by decide), grN_c0 (by omega)]
    have e1 : H2 0 1 = H1 0 1 + n := by rw [← hH2, hs_ne (by decide), grN_c1 (by omega)]
    have K2 : ∀ i, H2 (64 * H1 0 0 + 33) i = if 0 ≤ i ∧ i < h (h 1222 1) (-1) then h (h 1222 1) i else if i = -1 then n else 0 := fun i => by
      rw [← hH2, hs_ne (by omega), grN_new (by omega) (by omega), B1]
    have K3 : H2 (64 * h 0 0 + 32) = H1 (64 * h 0 0 + 32) := p1 _ (by omega) (by omega) (by omega)
    have u0 : H2 1222 0 = 64 * h 0 0 + 32 := by rw [y1 0 (by decide), z0]
    have u2 : H2 1222 2 = h 1222 2 := by rw [y1 2 (by decide), z1 2 (by decide)]
    have L1 : H2 (64 * h 0 0 + 32) (-1) = n := by rw [K3, K1, if_neg (by omega), if_pos rfl]
    have L2 : H2 (64 * H1 0 0 + 33) (-1) = n := by rw [K2, if_neg (by omega), if_pos rfl]
    have g := hQ H2 (by
      unfold RFM VOK NFA
      rw [u0, y0, L1, L2, u2, e0, e1, c0, c1]
      rw [c0] at K2 y0 L2
      refine ⟨⟨⟨fun i => fz1_new (by omega), by omega, .inr (by omega), by omega, by omega⟩, ⟨fun i => fz1_new (by omega), by omega, .inr (by omega), by omega, by omega⟩, rfl, by omega, by omega⟩, by omega, fun p p0 p1 => ?_, rfl, fun o q1 q2 q3 => ?_, by omega, by omega, by omega, by omega, .inr (by omega), .inr (by omega)⟩
      · rw [K3, K1, if_pos (by omega), K2, if_pos (by omega)]
        exact ⟨rfl, rfl⟩
      · rw [p1 o q1 q2 (by omega), o1 o q1 q2 q3])
    have x1 : h 1222 2 + m ≤ 2147483647 := by omega
    simp (implicitDefEqProofs := false) (disch := omega) only [sp171, b171_0, b171_1, b171_2, q171_1, q171_2, x_alen, x_aload0, y_call154, y_call155, x_gf_6147, x_gf_6155, x_gf_6160, x_goto_1, x_iadd, x_iconst, x_ifCond_lt_1, x_if_icmp_gt_2, x_iload1, x_iload2, x_imax, x_imul, x_istore2, x_pf_6147, x_pf_6155, x_return, klp_0, klp_1, klp_2, klp_3, klp_9, KC_0, KC_1, KC_2, KC_3, KC_4, ne_eq, not_false_eq_true, not_true_eq_false, true_and, and_true, and_self, implies_true, eq_self, true_imp_iff, false_implies, Int.reduceEq, Int.reduceNe, Int.reduceMod, Int.reduceMul, Int.reduceAdd, Int.reduceSub, Int.reduceLT, Int.reduceLE, Nat.reduceAdd, Nat.reduceLeDiff, Nat.reduceLT, Nat.reduceSub, reduceIte, wds_n, wds_0, wds_1, wds_2, wds_3, or_true, true_or, or_false, false_or, or_self, false_and, and_false, d_pos, d_s1, d_s2, d_s3, d_s4, d_s5, d_s6, d_s7, d_s8, Classical.not_not, rd_nf f1.1, f1.2.1, hn, hn2, W1, hH1, z1, W2, hH2, le_sub1, le_T, le_F, lt_T, lt_F, eq_F, w32_T, bz0, bz1, lc_le, lc_ge, lc_lt, lc_gt, lc_eq]
    exact g
/-- a rule begins: names the upmost values, others empty -/
def ENT (h h1 : HV) (st ot nm : Int) : Prop := VOK h1 ∧ h 1222 2 + ot + 64 ≤ h1 (h1 1222 0) (-1) ∧ (∀ p, 0 ≤ p → p < h 1222 2 → h1 (h1 1222 0) p = h (h 1222 0) p ∧ h1 (h1 1222 1) p = h (h 1222 1) p) ∧ (∀ p, h 1222 2 ≤ p → p < h 1222 2 + ot → h1 (h1 1222 0) p = 0) ∧ h1 1222 2 = h 1222 2 + ot ∧
  (∀ o, o ≠ 1222 → o ≠ 0 → o ≠ 1157 → o ≠ 1440 → o ≠ 1504 → o ≠ h 1222 0 → o ≠ h 1222 1 → o < 64 * h 0 0 → h1 o = h o) ∧ h 0 0 ≤ h1 0 0 ∧ 64 * (h1 0 0 - h 0 0) ≤ 2 * (h1 (h1 1222 0) (-1) - h (h 1222 0) (-1)) ∧ h1 0 1 - h 0 1 ≤ 4 * (h1 (h1 1222 0) (-1) - h (h 1222 0) (-1)) ∧ h (h 1222 0) (-1) ≤ h1 (h1 1222 0) (-1) ∧
  (h1 1222 0 = h 1222 0 ∨ 64 * h 0 0 ≤ h1 1222 0) ∧ (h1 1222 1 = h 1222 1 ∨ 64 * h 0 0 ≤ h1 1222 1) ∧
  (∀ s, s ≠ 4 → s ≠ 5 → h1 1157 s = h 1157 s) ∧ h1 1157 4 = st ∧ h1 1157 5 = h 1157 5 + 1 ∧ (∀ i, i ≠ h 1157 5 + 1 → h1 1440 i = h 1440 i ∧ h1 1504 i = h 1504 i) ∧ h1 1440 (h 1157 5 + 1) = h 1222 2 - nm ∧ h1 1504 (h 1157 5 + 1) = h 1157 4
theorem lp169 {d : Nat} {h : HV} {Q : Int → HV → Prop} {r nm ot : Int} {H : HV} (V : VOK H) (hot : 0 ≤ ot ∧ ot ≤ 1000) (hl : H 1222 2 + ot + 64 ≤ H (H 1222 0) (-1)) (hQ : ∀ h1, VOK h1 → (∀ p, p < H 1222 2 → h1 (H 1222 0) p = H (H 1222 0) p ∧ h1 (H 1222 1) p = H (H 1222 1) p) → (∀ p, H 1222 2 ≤ p → p < H 1222 2 + ot → h1 (H 1222 0) p = 0) → h1 1222 2 = H 1222 2 + ot → (∀ s, s ≠ 2 → h1 1222 s = H 1222 s) → (∀ o, o ≠ 1222 → o ≠ H 1222 0 → o ≠ H 1222 1 → h1 o = H o) → h1 (H 1222 0) (-1) = H (H 1222 0) (-1) → Q 0 h1) : G fz1 (d + 1) 169 3 [(3, 1157), (0, r), (0, nm), (0, ot), (0, 0)] [] H Q := by
  have f1 := V.1
  have f2 := V.2.1
  unfold NFA at f1 f2
  refine forG (N := ot.toNat) (I := fun j ls h1 => ls = [(3, 1157), (0, r), (0, nm), (0, ot), (0, (j : Int))] ∧ VOK h1 ∧ (∀ p, p < H 1222 2 → h1 (H 1222 0) p = H (H 1222 0) p ∧ h1 (H 1222 1) p = H (H 1222 1) p) ∧ (∀ p, H 1222 2 ≤ p → p < H 1222 2 + j → h1 (H 1222 0) p = 0) ∧ h1 1222 2 = H 1222 2 + j ∧ (∀ s, s ≠ 2 → h1 1222 s = H 1222 s) ∧ (∀ o, o ≠ 1222 → o ≠ H 1222 0 → o ≠ H 1222 1 → h1 o = H o) ∧ h1 (H 1222 0) (-1) = H (H 1222 0) (-1)) (j := 0) ?_ ?_ (Nat.zero_le _) ⟨rfl, V, fun _ _ => ⟨rfl, rfl⟩, fun p a b => by omega, by omega, fun _ _ => rfl, fun _ _ _ _ => rfl, rfl⟩
  · intro j ls h1 hj ⟨hls, V1, i1, i2, i3, i4, i5, i6⟩ cont
    subst hls
    have g0 := i4 0 (by decide)
    have g1 := i4 1 (by decide)
    have W : ∀ Q, Sp fz1 d 168 [(3, 1222), (0, 0), (1, 0)] h1 Q = Q 0 (pshH h1 0 0) := fun Q => s168 V1 (by rw [g0, i6]; omega)
    rw [q169_3]
    simp (implicitDefEqProofs := false) (disch := omega) only [b169_3, b169_4, q169_4, x_aload0, x_bipush, y_call168, x_gc_5139, x_goto_3, x_iconst, x_if_icmp_ge_4, x_iinc4, x_iload3, x_iload4, x_return, klp_0, klp_1, klp_2, klp_3, klp_9, KC_0, KC_1, KC_2, KC_3, KC_4, ne_eq, not_false_eq_true, not_true_eq_false, true_and, and_true, and_self, implies_true, eq_self, true_imp_iff, false_implies, Int.reduceEq, Int.reduceNe, Int.reduceMod, Int.reduceMul, Int.reduceAdd, Int.reduceSub, Int.reduceLT, Int.reduceLE, Nat.reduceAdd, Nat.reduceLeDiff, Nat.reduceLT, Nat.reduceSub, reduceIte, wds_n, wds_0, wds_1, wds_2, wds_3, or_true, true_or, or_false, false_or, or_self, false_and, and_false, d_pos, d_s1, d_s2, d_s3, d_s4, d_s5, d_s6, d_s7, d_s8, Classical.not_not, W, z1157_2, z1157_6, z1440_l, z1157_7, z1504_l, le_sub1, le_T, le_F, lt_T, lt_F, eq_F, w32_T, bz0, bz1, lc_le, lc_ge, lc_lt, lc_gt, lc_eq]
    have v := V1
    obtain ⟨v1, v2, v3, v4, v5⟩ := v
    rw [g0] at v1
    rw [g1] at v2
    have e := v1
    have e' := v2
    unfold NFA at e e'
    have p0 : ∀ o, o ≠ 1222 → o ≠ H 1222 0 → o ≠ H 1222 1 → pshH h1 0 0 o = h1 o := fun o q1 q2 q3 => by
      unfold pshH
      rw [hs_ne q1, g1, g0, hs_ne q3, hs_ne q2]
    have pK : ∀ p, pshH h1 0 0 (H 1222 0) p = if p = H 1222 2 + j then 0 else h1 (H 1222 0) p := fun p => by
      unfold pshH
      rw [hs_ne (by omega), g1, hs_ne (by omega), g0, hset_v, i3]
      by_cases q : p = H 1222 2 + j
      · rw [if_pos ⟨rfl, q⟩, if_pos q]
      · rw [if_neg (fun w => q w.2), if_neg q]
    have pB : ∀ p, pshH h1 0 0 (H 1222 1) p = if p = H 1222 2 + j then 0 else h1 (H 1222 1) p := fun p => by
      unfold pshH
      rw [hs_ne (by omega), g1, hset_v, g0, i3]
      by_cases q : p = H 1222 2 + j
      · rw [if_pos ⟨rfl, q⟩, if_pos q]
      · rw [if_neg (fun w => q w.2), if_neg q, hs_ne (by omega)]
    have pS : ∀ s, s ≠ 2 → pshH h1 0 0 1222 s = H 1222 s := fun s q => by
      unfold pshH
      rw [hcell q, g1, hs_ne (by omega), g0, hs_ne (by omega), i4 s q]
    have p2 : pshH h1 0 0 1222 2 = H 1222 2 + ((j + 1 : Nat) : Int) := by
      unfold pshH
      rw [hcel1, i3]
      omega
    refine cont _ _ ⟨by rw [show ((j + 1 : Nat) : Int) = (j : Int) + 1 by omega], ?_, fun p hp => ?_, fun p a b => ?_, p2, pS, fun o q1 q2 q3 => by rw [p0 o q1 q2 q3, i5 o q1 q2 q3], by rw [pK, if_neg (by omega), i6]⟩
    · unfold VOK
      rw [p2, pS 0 (by decide), pS 1 (by decide), pK, pB, if_neg (by omega), if_neg (by omega), p0 0 (by decide) (by omega) (by omega), i6]
      rw [g0, g1] at v3
      rw [g0] at v4 v5
      rw [i6] at v3 v4 v5
      exact ⟨v1, v2, v3, by omega, v5⟩
    · rw [pK, pB, if_neg (by omega), if_neg (by omega)]
      exact i1 p hp
    · rw [pK]
      split
      · rfl
      · exact i2 p a (by omega)
  · intro ls h1 ⟨hls, V1, i1, i2, i3, i4, i5, i6⟩
    subst hls
    rw [q169_3]
    have g := hQ h1 V1 i1 (fun p a b => i2 p a (by omega)) (by omega) i4 i5 i6
    simp (implicitDefEqProofs := false) (disch := omega) only [b169_3, b169_4, q169_4, x_aload0, x_bipush, y_call168, x_gc_5139, x_goto_3, x_iconst, x_if_icmp_ge_4, x_iinc4, x_iload3, x_iload4, x_return, klp_0, klp_1, klp_2, klp_3, klp_9, KC_0, KC_1, KC_2, KC_3, KC_4, ne_eq, not_false_eq_true, not_true_eq_false, true_and, and_true, and_self, implies_true, eq_self, true_imp_iff, false_implies, Int.reduceEq, Int.reduceNe, Int.reduceMod, Int.reduceMul, Int.reduceAdd, Int.reduceSub, Int.reduceLT, Int.reduceLE, Nat.reduceAdd, Nat.reduceLeDiff, Nat.reduceLT, Nat.reduceSub, reduceIte, wds_n, wds_0, wds_1, wds_2, wds_3, or_true, true_or, or_false, false_or, or_self, false_and, and_false, d_pos, d_s1, d_s2, d_s3, d_s4, d_s5, d_s6, d_s7, d_s8, Classical.not_not, le_sub1, le_T, le_F, lt_T, lt_F, eq_F, w32_T, bz0, bz1, lc_le, lc_ge, lc_lt, lc_gt, lc_eq]
    exact g
theorem s169 {d : Nat} {h : HV} {Q : Int → HV → Prop} {r nm : Int} (V : VOK h) (hT : TC (h 1157 3)) (hr : 0 ≤ r ∧ r < 12 ∧ r < h (h 1157 3 + 598) 6) (hd : -1 ≤ h 1157 5 ∧ h 1157 5 < 7) (hn : 0 ≤ nm ∧ nm ≤ h 1222 2) (ho : nm ≤ h (h 1157 3 + 1366) r ∧ h (h 1157 3 + 1366) r ≤ 500) (hh : h 1222 2 ≤ 7000) (h2 : 256 ≤ h (h 1222 0) (-1))
    (hQ : ∀ h1, ENT h h1 (h (h 1157 3 + 1238) r) (h (h 1157 3 + 1366) r - nm) nm → Q 0 h1) : Sp fz1 (d + 2) 169 [(3, 1157), (0, r), (0, nm)] h Q := by
  have f1 := V.1
  have f2 := V.2.1
  unfold NFA at f1 f2
  have hr6 : 0 ≤ r ∧ r < h (h 1157 3 + 598) 6 := ⟨hr.1, hr.2.2⟩
  have tt : h 1157 3 = 3466 ∨ h 1157 3 = 4938 := hT
  generalize hA : hset (hset (hset (hset h 1157 5 (h 1157 5 + 1)) 1440 (h 1157 5 + 1) (h 1222 2 - nm)) 1504 (h 1157 5 + 1) (h 1157 4)) 1157 4 (h (h 1157 3 + 1238) r) = A
  have a0 : ∀ o, o ≠ 1157 → o ≠ 1440 → o ≠ 1504 → A o = h o := fun o q1 q2 q3 => by rw [← hA, hs_ne q1, hs_ne q3, hs_ne q2, hs_ne q1]
  have a1 : ∀ s, s ≠ 4 → s ≠ 5 → A 1157 s = h 1157 s := fun s q1 q2 => by rw [← hA, hcell q1, m57 (by decide), m57 (by decide), hcell q2]
  have a4 : A 1157 4 = h (h 1157 3 + 1238) r := by rw [← hA, hcel1]
  have a5 : A 1157 5 = h 1157 5 + 1 := by rw [← hA, hcell (by decide), m57 (by decide), m57 (by decide), hcel1]
  have a40 : ∀ i, A 1440 i = if i = h 1157 5 + 1 then h 1222 2 - nm else h 1440 i := fun i => by
    rw [← hA, hs_ne (by decide), hs_ne (by decide), hset_v, hs_ne (by decide)]
    by_cases q : i = h 1157 5 + 1
    · rw [if_pos ⟨rfl, q⟩, if_pos q]
    · rw [if_neg (fun w => q w.2), if_neg q]
  have a04 : ∀ i, A 1504 i = if i = h 1157 5 + 1 then h 1157 4 else h 1504 i := fun i => by
    rw [← hA, hs_ne (by decide), hset_v, hs_ne (by decide), hs_ne (by decide)]
    by_cases q : i = h 1157 5 + 1
    · rw [if_pos ⟨rfl, q⟩, if_pos q]
    · rw [if_neg (fun w => q w.2), if_neg q]
  have aT : A (h 1157 3 + 1366) = h (h 1157 3 + 1366) := a0 _ (by omega) (by omega) (by omega)
  have a22 : A 1222 = h 1222 := a0 _ (by decide) (by decide) (by decide)
  have aK : A (h 1222 0) = h (h 1222 0) := a0 _ (by omega) (by omega) (by omega)
  have aB : A (h 1222 1) = h (h 1222 1) := a0 _ (by omega) (by omega) (by omega)
  have aZ : A 0 = h 0 := a0 _ (by decide) (by decide) (by decide)
  have VA : VOK A := by unfold VOK; rw [a22, aK, aB, aZ]; exact V
  have key : Sp fz1 (d + 1) 171 [(3, 1222), (0, h (h 1157 3 + 1366) r - nm + 64)] A (fun _ h1 => G fz1 (d + 2) 169 3 [(3, 1157), (0, r), (0, nm), (0, h (h 1157 3 + 1366) r - nm), (0, 0)] [] h1 Q) := by
    refine s171 VA (by rw [a22]; omega) (by rw [a22, aK]; exact h2) fun h1 R => ?_
    obtain ⟨r1, r2, r3, r4, r5, r6, r7, r8, r9, r10, r11⟩ := R
    rw [a22] at r2 r3 r4 r10 r11
    rw [aK, aB] at r3
    rw [a22, aK] at r7 r8 r9
    rw [aZ] at r5 r6 r7 r8 r10 r11
    have g1 := r1.1
    have g2 := r1.2.1
    unfold NFA at g1 g2
    refine lp169 (d := d + 1) (h := h) r1 (by omega) (by rw [r4]; omega) fun h2 V2 u1 u2 u3 u4 u5 u6 => hQ h2 ?_
    have w0 := u4 0 (by decide)
    have w1 := u4 1 (by decide)
    have z0 : h2 0 = h1 0 := u5 0 (by decide) (by omega) (by omega)
    have z5 : h2 1157 = A 1157 := by rw [u5 _ (by decide) (by omega) (by omega), r5 _ (by decide) (by decide) (by omega)]
    have z40 : h2 1440 = A 1440 := by rw [u5 _ (by decide) (by omega) (by omega), r5 _ (by decide) (by decide) (by omega)]
    have z04 : h2 1504 = A 1504 := by rw [u5 _ (by decide) (by omega) (by omega), r5 _ (by decide) (by decide) (by omega)]
    rw [r4] at u1 u2 u3
    refine ⟨V2, by rw [w0, u6]; omega, fun p p0 p1 => ?_, fun p p0 p1 => ?_, by rw [u3], fun o q1 q2 q3 q4 q5 q6 q7 q8 => ?_, by rw [z0]; exact r6, by rw [w0, u6, z0]; exact r7, by rw [w0, u6, z0]; exact r8, by rw [w0, u6]; exact r9, by rw [w0]; exact r10, by rw [w1]; exact r11, fun s q1 q2 => by rw [z5, a1 s q1 q2], by rw [z5, a4], by rw [z5, a5], fun i q => ?_, by rw [z40, a40, if_pos rfl], by rw [z04, a04, if_pos rfl]⟩
    · rw [w0, w1]
      obtain ⟨x1, x2⟩ := u1 p p1
      rw [x1, x2]
      exact r3 p p0 p1
    · rw [w0]
      exact u2 p p0 p1
    · rw [u5 o q1 (by omega) (by omega), r5 o q1 q2 q8, a0 o q3 q4 q5]
    · rw [z40, z04, a40, a04, if_neg q, if_neg q]
      exact ⟨rfl, rfl⟩
  have t0 := TC_0 hT
  have t1 := TC_k hT
  have b5 : hset h 1157 5 (h 1157 5 + 1) 1157 5 = h 1157 5 + 1 := hcel1
  have a13 := a1 3 (by decide) (by decide)
  have e66 : hset (hset (hset h 1157 5 (h 1157 5 + 1)) 1440 (h 1157 5 + 1) (h 1222 2 - nm)) 1504 (h 1157 5 + 1) (h 1157 4) (h 1157 3 + 1366) = h (h 1157 3 + 1366) := by rw [hs_ne (by omega), hs_ne (by omega), hs_ne (by omega)]
  have e38 : hset (hset (hset h 1157 5 (h 1157 5 + 1)) 1440 (h 1157 5 + 1) (h 1222 2 - nm)) 1504 (h 1157 5 + 1) (h 1157 4) (h 1157 3 + 1238) = h (h 1157 3 + 1238) := by rw [hs_ne (by omega), hs_ne (by omega), hs_ne (by omega)]
  simp (implicitDefEqProofs := false) (disch := omega) only [sp169, b169_0, b169_1, b169_2, b169_3, b169_4, q169_1, q169_2, q169_4, x_aload0, x_bipush, y_call168, y_call170, y_call171, y_call69, x_dup0, x_dup3, x_gc_10339, x_gc_10355, x_gc_5139, x_gc_5171, x_gc_5179, x_gf_5147, x_gf_5152, x_gf_5160, x_goto_1, x_goto_3, x_iadd, x_iaload, x_iastore, x_iconst, x_ifCond_eq_1, x_if_icmp_ge_4, x_if_icmp_lt_2, x_iinc4, x_iload1, x_iload2, x_iload3, x_iload4, x_istore3, x_istore4, x_isub, x_pf_5152, x_pf_5160, x_return, klp_0, klp_1, klp_2, klp_3, klp_9, KC_0, KC_1, KC_2, KC_3, KC_4, ne_eq, not_false_eq_true, not_true_eq_false, true_and, and_true, and_self, implies_true, eq_self, true_imp_iff, false_implies, Int.reduceEq, Int.reduceNe, Int.reduceMod, Int.reduceMul, Int.reduceAdd, Int.reduceSub, Int.reduceLT, Int.reduceLE, Nat.reduceAdd, Nat.reduceLeDiff, Nat.reduceLT, Nat.reduceSub, reduceIte, wds_n, wds_0, wds_1, wds_2, wds_3, or_true, true_or, or_false, false_or, or_self, false_and, and_false, d_pos, d_s1, d_s2, d_s3, d_s4, d_s5, d_s6, d_s7, d_s8, Classical.not_not, s69 hT, if_pos hr6, m57, h57, hcell, hcel1, m22, s170, c12 hT, c12l hT, c12k hT, c14 hT, c14l hT, c14k hT, z1157_2, z1157_6, z1440_l, z1157_7, z1504_l, TC_0 hT, TC_k hT, e66, e38, hA, a13, aT, le_sub1, le_T, le_F, lt_T, lt_F, eq_F, w32_T, bz0, bz1, lc_le, lc_ge, lc_lt, lc_gt, lc_eq]
  refine Sp.imp key fun r h1 q => ?_
  simp (implicitDefEqProofs := false) (disch := omega) only [sp169, b169_0, b169_1, b169_2, b169_3, b169_4, q169_1, q169_2, q169_4, x_aload0, x_bipush, y_call168, y_call170, y_call171, y_call69, x_dup0, x_dup3, x_gc_10339, x_gc_10355, x_gc_5139, x_gc_5171, x_gc_5179, x_gf_5147, x_gf_5152, x_gf_5160, x_goto_1, x_goto_3, x_iadd, x_iaload, x_iastore, x_iconst, x_ifCond_eq_1, x_if_icmp_ge_4, x_if_icmp_lt_2, x_iinc4, x_iload1, x_iload2, x_iload3, x_iload4, x_istore3, x_istore4, x_isub, x_pf_5152, x_pf_5160, x_return, klp_0, klp_1, klp_2, klp_3, klp_9, KC_0, KC_1, KC_2, KC_3, KC_4, ne_eq, not_false_eq_true, not_true_eq_false, true_and, and_true, and_self, implies_true, eq_self, true_imp_iff, false_implies, Int.reduceEq, Int.reduceNe, Int.reduceMod, Int.reduceMul, Int.reduceAdd, Int.reduceSub, Int.reduceLT, Int.reduceLE, Nat.reduceAdd, Nat.reduceLeDiff, Nat.reduceLT, Nat.reduceSub, reduceIte, wds_n, wds_0, wds_1, wds_2, wds_3, or_true, true_or, or_false, false_or, or_self, false_and, and_false, d_pos, d_s1, d_s2, d_s3, d_s4, d_s5, d_s6, d_s7, d_s8, Classical.not_not, z1157_2, z1157_6, z1440_l, z1157_7, z1504_l, le_sub1, le_T, le_F, lt_T, lt_F, eq_F, w32_T, bz0, bz1, lc_le, lc_ge, lc_lt, lc_gt, lc_eq]
  exact q
