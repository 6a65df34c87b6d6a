/-! THE PURE SIDE, 81: build: printed by wip/tools/gen89k.py -/
def mnR (h : HV) (l : Int) : Nat → Int
  | 0 => 100
  | k + 1 => if h 2080 (l * 20 + k) < mnR h l k then h 2080 (l * 20 + k) else mnR h l k
theorem mnR_W {h : HV} (W : RTw h) {l : Int} (hl : 0 ≤ l ∧ l < 12) : ∀ k : Nat, k < 20 → mnR h l (k + 1) = mnW h l k
  | 0, _ => by
    have w := W (l * 20) (by omega) (by omega)
    rw [mnR, mnR, mnW, show l * 20 + ((0 : Nat) : Int) = l * 20 by omega, if_pos (by omega)]
  | k + 1, hk => by
    rw [mnR, mnR_W W hl k (by omega), mnW, show l * 20 + ((k + 1 : Nat) : Int) = l * 20 + ((k : Int) + 1) by omega]
    split <;> omega
theorem mnR_b {h : HV} (W : RTw h) {l : Int} (hl : 0 ≤ l ∧ l < 12) (k : Nat) (hk : k ≤ 20) : -99 ≤ mnR h l k ∧ mnR h l k ≤ 100 := by
  cases k with
  | zero => rw [mnR]; decide
  | succ k =>
    rw [mnR_W W hl k (by omega)]
    have := mn_b W hl k (by omega)
    omega
/-- while the reference tells the least wishes -/
def RZ (h K0 K : HV) : Prop := RFr h K0 K ∧ K 6603 72 = 0 ∧ K 6603 69 = (if h (h 64 8) 11 = 0 then 1 else 0) ∧ K 6603 70 = 1 ∧ K 6603 71 = 0 ∧ K 6603 73 = 0
theorem rz_f {h K0 K M : HV} (Z : RZ h K0 K) (e : ∀ a, a ≠ 12256 → a ≠ 12320 → a ≠ 12192 → M a = K a) : RZ h K0 M := by
  obtain ⟨F, z1, z2, z3, z4, z5⟩ := Z
  have e6 := e 6603 (by decide) (by decide) (by decide)
  exact ⟨⟨fun a q => by rw [e a q.2.2.2.2.2.1 q.2.2.2.2.2.2.1 q.2.2.2.2.1]; exact F.1 a q, fun s a b c d f => by rw [e6]; exact F.2.1 s a b c d f, fun u a b => by rw [e _ (by decide) (by decide) (by decide)]; exact F.2.2.1 u a b, F.2.2.2⟩, by rw [e6]; exact z1, by rw [e6]; exact z2, by rw [e6]; exact z3, by rw [e6]; exact z4, by rw [e6]; exact z5⟩
theorem l421i {d : Nat} {h K0 K : HV} {Q : Int → HV → Prop} {u m : Int} {y9 : AV} (S : SRb h) (Z : RZ h K0 K) (hu : 0 ≤ u ∧ u < h (h 64 8) 11) (nx : ∀ y7 y8, G fz1 d 421 8 [(3, 6603), (0, m), (0, h (h 64 8) 11), (0, h (h 64 8 + 598) 1), (0, plB h), (0, u), (0, mnW h (lsU h u) (5 * h 1927 1 - 1).toNat), y7, y8, y9] [] K Q) : ∀ y8, G fz1 d 421 5 [(3, 6603), (0, m), (0, h (h 64 8) 11), (0, h (h 64 8 + 598) 1), (0, plB h), (0, u), (0, 100), (0, 0), y8, y9] [] K Q := by
  intro y8
  have D := S.2.2.2.1
  have hN := S.1.2.1.1
  have ub := un_b4 S.1 hu
  have F := Z.1
  have d65 : K 6603 65 = h 1927 1 := by rw [F.2.1 65 (by decide) (by decide) (by decide) (by decide) (by decide)]; exact S.2.2.1
  have l12 := F.2.2.1 u hu.1 hu.2
  refine forG (N := (5 * h 1927 1).toNat) (I := fun j ls h' => (∃ z, ls = [(3, 6603), (0, m), (0, h (h 64 8) 11), (0, h (h 64 8 + 598) 1), (0, plB h), (0, u), (0, mnR h (lsU h u) j), (0, (j : Int)), z, y9]) ∧ h' = K) ?_ ?_ (j := 0) (Nat.zero_le _) ⟨⟨_, rfl⟩, rfl⟩
  · rintro j ls h' hj ⟨⟨z, rfl⟩, rfl⟩ n2
    have w : h' 11808 (20 * lsU h u + j) = h 2080 (lsU h u * 20 + j) := by
      rw [rf_a F (by unfold RLb; decide) (by unfold CLb; decide), S.2.2.2.2.2 _ (by omega) (by omega), Int.mul_comm 20]
    have e : mnR h (lsU h u) (j + 1) = if h 2080 (lsU h u * 20 + j) < mnR h (lsU h u) j then h 2080 (lsU h u * 20 + j) else mnR h (lsU h u) j := rfl
    rw [e] at n2
    generalize mnR h (lsU h u) j = v at *
    generalize h 2080 (lsU h u * 20 + j) = w1 at *
    refine G_in ?_
    by_cases q : w1 < v
    · rw [if_pos q] at n2
      simp (implicitDefEqProofs := false) (disch := omega) only [b421_5, b421_6, b421_7, q421_6, q421_7, x_aload0, x_gc_11811, x_gc_11875, x_gf_11784, x_goto_5, x_goto_7, x_iadd, x_iaload, x_iconst, x_if_icmp_ge_6, x_if_icmp_ge_8, x_iinc7, x_iload5, x_iload6, x_iload7, x_iload8, x_imul, x_istore6, x_istore8, klp_0, klp_1, klp_2, klp_3, klp_9, KC_0, KC_1, KC_2, KC_3, KC_4, ne_eq, not_false_eq_true, not_true_eq_false, true_and, and_true, and_self, implies_true, eq_self, true_imp_iff, false_implies, Int.reduceEq, Int.reduceNe, Int.reduceMod, Int.reduceMul, Int.reduceAdd, Int.reduceSub, Int.reduceLT, Int.reduceLE, Nat.reduceAdd, Nat.reduceLeDiff, Nat.reduceLT, Nat.reduceSub, reduceIte, wds_n, wds_0, wds_1, wds_2, wds_3, or_true, true_or, or_false, false_or, or_self, false_and, and_false, d_pos, d_s1, d_s2, d_s3, d_s4, d_s5, d_s6, d_s7, d_s8, Classical.not_not, d65, z6603_68, z11808_l, z6603_76, z12000_l, l12, w, le_T, le_F, lt_T, lt_F, w32_T]
      exact n2 _ _ ⟨⟨_, rfl⟩, rfl⟩
    · rw [if_neg q] at n2
      simp (implicitDefEqProofs := false) (disch := omega) only [b421_5, b421_6, b421_7, q421_6, q421_7, x_aload0, x_gc_11811, x_gc_11875, x_gf_11784, x_goto_5, x_goto_7, x_iadd, x_iaload, x_iconst, x_if_icmp_ge_6, x_if_icmp_ge_8, x_iinc7, x_iload5, x_iload6, x_iload7, x_iload8, x_imul, x_istore6, x_istore8, klp_0, klp_1, klp_2, klp_3, klp_9, KC_0, KC_1, KC_2, KC_3, KC_4, ne_eq, not_false_eq_true, not_true_eq_false, true_and, and_true, and_self, implies_true, eq_self, true_imp_iff, false_implies, Int.reduceEq, Int.reduceNe, Int.reduceMod, Int.reduceMul, Int.reduceAdd, Int.reduceSub, Int.reduceLT, Int.reduceLE, Nat.reduceAdd, Nat.reduceLeDiff, Nat.reduceLT, Nat.reduceSub, reduceIte, wds_n, wds_0, wds_1, wds_2, wds_3, or_true, true_or, or_false, false_or, or_self, false_and, and_false, d_pos, d_s1, d_s2, d_s3, d_s4, d_s5, d_s6, d_s7, d_s8, Classical.not_not, d65, z6603_68, z11808_l, z6603_76, z12000_l, l12, w, le_T, le_F, lt_T, lt_F, w32_T]
      exact n2 _ _ ⟨⟨_, rfl⟩, rfl⟩
  · rintro ls h' ⟨⟨z, rfl⟩, rfl⟩
    have e : mnR h (lsU h u) (5 * h 1927 1).toNat = mnW h (lsU h u) (5 * h 1927 1 - 1).toNat := by
      rw [show (5 * h 1927 1).toNat = (5 * h 1927 1 - 1).toNat + 1 by omega]
      exact mnR_W S.1.2.2.2.2.2.1 ub.1 _ (by omega)
    rw [e]
    refine G_in ?_
    simp (implicitDefEqProofs := false) (disch := omega) only [b421_5, x_aload0, x_gc_11811, x_gc_11875, x_gf_11784, x_goto_7, x_iadd, x_iaload, x_iconst, x_if_icmp_ge_6, x_if_icmp_ge_8, x_iload5, x_iload6, x_iload7, x_iload8, x_imul, x_istore8, klp_0, klp_1, klp_2, klp_3, klp_9, KC_0, KC_1, KC_2, KC_3, KC_4, ne_eq, not_false_eq_true, not_true_eq_false, true_and, and_true, and_self, implies_true, eq_self, true_imp_iff, false_implies, Int.reduceEq, Int.reduceNe, Int.reduceMod, Int.reduceMul, Int.reduceAdd, Int.reduceSub, Int.reduceLT, Int.reduceLE, Nat.reduceAdd, Nat.reduceLeDiff, Nat.reduceLT, Nat.reduceSub, reduceIte, wds_n, wds_0, wds_1, wds_2, wds_3, or_true, true_or, or_false, false_or, or_self, false_and, and_false, d_pos, d_s1, d_s2, d_s3, d_s4, d_s5, d_s6, d_s7, d_s8, Classical.not_not, d65, le_T, le_F, lt_T, lt_F, w32_T]
    exact nx _ _
theorem l421o {d : Nat} {h K0 K : HV} {Q : Int → HV → Prop} {m : Int} {y6 y7 y8 y9 : AV} (S : SRb h) (Z : RZ h K0 K) (z0 : K 12256 (h (h 64 8) 11) = 0) (nx : ∀ K2 : HV, (∀ a, a ≠ 12256 → K2 a = K a) → (∀ u, 0 ≤ u → u ≤ h (h 64 8) 11 → K2 12256 u = leU h u) → ∀ y5 y6 y7 y8, G fz1 d 421 9 [(3, 6603), (0, m), (0, h (h 64 8) 11), (0, h (h 64 8 + 598) 1), (0, plB h), y5, y6, y7, y8, y9] [] K2 Q) : G fz1 d 421 4 [(3, 6603), (0, m), (0, h (h 64 8) 11), (0, h (h 64 8 + 598) 1), (0, plB h), (0, h (h 64 8) 11 - 1), y6, y7, y8, y9] [] K Q := by
  have hN := S.1.2.1.1
  have D := S.2.2.2.1
  refine forG (N := (h (h 64 8) 11).toNat) (I := fun j ls h' => (∃ a b c, ls = [(3, 6603), (0, m), (0, h (h 64 8) 11), (0, h (h 64 8 + 598) 1), (0, plB h), (0, h (h 64 8) 11 - 1 - (j : Int)), a, b, c, y9]) ∧ (∀ a, a ≠ 12256 → h' a = K a) ∧ ∀ u, h (h 64 8) 11 - j ≤ u → u ≤ h (h 64 8) 11 → h' 12256 u = leU h u) ?_ ?_ (j := 0) (Nat.zero_le _) ⟨⟨y6, y7, y8, by rw [show h (h 64 8) 11 - 1 - ((0 : Nat) : Int) = h (h 64 8) 11 - 1 by omega]⟩, fun _ _ => rfl, fun u a b => by
      rw [show u = h (h 64 8) 11 by omega, z0]
      unfold leU
      rw [show (h (h 64 8) 11 - h (h 64 8) 11).toNat = 0 by omega]
      rfl⟩
  · rintro j ls h' hj ⟨⟨a, b, c, rfl⟩, fr, vl⟩ n2
    have Z' : RZ h K0 h' := rz_f Z (fun x q _ _ => fr x q)
    obtain ⟨w, hw⟩ : ∃ w, w = h (h 64 8) 11 - 1 - (j : Int) := ⟨_, rfl⟩
    have wI : 0 ≤ w ∧ w < h (h 64 8) 11 := by omega
    have ub := un_b4 S.1 wI
    have vn := vl (w + 1) (by omega) (by omega)
    have lb := le_b S.1 (u := w + 1) (by omega)
    have mb := mn_b S.1.2.2.2.2.2.1 ub.1 (5 * h 1927 1 - 1).toNat (by omega)
    have le : leU h w = leU h (w + 1) + mnW h (lsU h w) (5 * h 1927 1 - 1).toNat := by
      unfold leU
      rw [show (h (h 64 8) 11 - w).toNat = (h (h 64 8) 11 - (w + 1)).toNat + 1 by omega, lsS, show h (h 64 8) 11 - (((h (h 64 8) 11 - (w + 1)).toNat : Int) + 1) = w by omega]
    rw [← hw]
    refine G_in ?_
    simp (implicitDefEqProofs := false) (disch := omega) only [b421_4, x_goto_5, x_iconst, x_ifCond_lt_9, x_iload5, x_istore6, x_istore7, klp_0, klp_1, klp_2, klp_3, klp_9, KC_0, KC_1, KC_2, KC_3, KC_4, ne_eq, not_false_eq_true, not_true_eq_false, true_and, and_true, and_self, implies_true, eq_self, true_imp_iff, false_implies, Int.reduceEq, Int.reduceNe, Int.reduceMod, Int.reduceMul, Int.reduceAdd, Int.reduceSub, Int.reduceLT, Int.reduceLE, Nat.reduceAdd, Nat.reduceLeDiff, Nat.reduceLT, Nat.reduceSub, reduceIte, wds_n, wds_0, wds_1, wds_2, wds_3, or_true, true_or, or_false, false_or, or_self, false_and, and_false, d_pos, d_s1, d_s2, d_s3, d_s4, d_s5, d_s6, d_s7, d_s8, Classical.not_not, le_T, le_F, lt_T, lt_F, w32_T]
    refine l421i S Z' wI (fun y7 y8 => ?_) _
    refine G_in ?_
    simp (implicitDefEqProofs := false) (disch := omega) only [b421_8, q421_8, x_aload0, x_gc_11907, x_goto_4, x_iadd, x_iaload, x_iastore, x_iconst, x_iinc5, x_iload5, x_iload6, klp_0, klp_1, klp_2, klp_3, klp_9, KC_0, KC_1, KC_2, KC_3, KC_4, ne_eq, not_false_eq_true, not_true_eq_false, true_and, and_true, and_self, implies_true, eq_self, true_imp_iff, false_implies, Int.reduceEq, Int.reduceNe, Int.reduceMod, Int.reduceMul, Int.reduceAdd, Int.reduceSub, Int.reduceLT, Int.reduceLE, Nat.reduceAdd, Nat.reduceLeDiff, Nat.reduceLT, Nat.reduceSub, reduceIte, wds_n, wds_0, wds_1, wds_2, wds_3, or_true, true_or, or_false, false_or, or_self, false_and, and_false, d_pos, d_s1, d_s2, d_s3, d_s4, d_s5, d_s6, d_s7, d_s8, Classical.not_not, z6603_80, z12256_l, vn, le_T, le_F, lt_T, lt_F, w32_T]
    refine n2 _ _ ⟨⟨(0, mnW h (lsU h w) (5 * h 1927 1 - 1).toNat), y7, y8, ?_⟩, fun x hx => by rw [hs_ne hx, fr x hx], fun u p q => ?_⟩
    · rw [show h (h 64 8) 11 - 1 - ((j + 1 : Nat) : Int) = w - 1 by omega]
      rfl
    · rw [hset_v]
      by_cases z : u = w
      · rw [if_pos ⟨rfl, z⟩, z, le]
      · rw [if_neg (fun y => z y.2)]
        exact vl u (by omega) q
  · rintro ls h' ⟨⟨a, b, c, rfl⟩, fr, vl⟩
    refine G_in ?_
    simp (implicitDefEqProofs := false) (disch := omega) only [b421_4, x_goto_5, x_iconst, x_ifCond_lt_9, x_iload5, x_istore6, x_istore7, klp_0, klp_1, klp_2, klp_3, klp_9, KC_0, KC_1, KC_2, KC_3, KC_4, ne_eq, not_false_eq_true, not_true_eq_false, true_and, and_true, and_self, implies_true, eq_self, true_imp_iff, false_implies, Int.reduceEq, Int.reduceNe, Int.reduceMod, Int.reduceMul, Int.reduceAdd, Int.reduceSub, Int.reduceLT, Int.reduceLE, Nat.reduceAdd, Nat.reduceLeDiff, Nat.reduceLT, Nat.reduceSub, reduceIte, wds_n, wds_0, wds_1, wds_2, wds_3, or_true, true_or, or_false, false_or, or_self, false_and, and_false, d_pos, d_s1, d_s2, d_s3, d_s4, d_s5, d_s6, d_s7, d_s8, Classical.not_not, le_T, le_F, lt_T, lt_F, w32_T]
    exact nx h' fr (fun u p q => vl u (by omega) q) _ _ _ _
theorem s421 {d : Nat} {h K0 : HV} {Q : Int → HV → Prop} {most : Int} (S : SRb h) (hm : 1 ≤ most ∧ most ≤ 10000) (XK : RTx K0) (UK : RTu K0) (C0 : ∀ a, CLb a → K0 a = h a) (hQ : ∀ K2, RelR h K0 K2 (bldR h most).2.1 (bldR h most).2.2.1 (bldR h most).2.2.2.1 (bldR h most).2.2.2.2 → Q (bldR h most).1 K2) : Sp fz1 (d + 2) 421 [(3, 6603), (0, most)] K0 Q := by
  have hS := S.1.1.2.1
  have hT := S.1.1.1
  have hN := S.1.2.1.1
  have D := S.2.2.2.1
  have pw := pl_w S.1
  have X1 := rtx_1 S.1.1
  have k64 : K0 64 = h 64 := C0 _ (by unfold CLb; decide)
  have k66 : K0 6603 = h 6603 := C0 _ (by unfold CLb; decide)
  have kU : K0 (h 64 8) = h (h 64 8) := C0 _ (by unfold CLb; rcases hT with w | w <;> omega)
  have kL : K0 (h 64 8 + 1174) = h (h 64 8 + 1174) := C0 _ (by unfold CLb; rcases hT with w | w <;> omega)
  have kC : K0 (h 6603 9 + 84) = h (h 6603 9 + 84) := C0 _ (by unfold CLb; rcases hS with w | w <;> omega)
  obtain ⟨K1, hK1⟩ : ∃ K1, unP K0 (h (h 64 8) 11) = K1 := ⟨_, rfl⟩
  have r422 := fun (d : Nat) (Q : Int → HV → Prop) => s422 (d := d) (Q := Q) XK UK
  rw [k64, kU, hK1] at r422
  have f1 : ∀ a, a ≠ 12000 → K1 a = K0 a := fun a ha => by rw [← hK1]; exact unP_ne ha
  have g9 : K1 6603 9 = h 6603 9 := by rw [f1 _ (by decide), k66]
  have g65 : K1 6603 65 = h 1927 1 := by rw [f1 _ (by decide), k66]; exact S.2.2.1
  have gC : K1 (h 6603 9 + 84) 1 = h (h 64 8 + 598) 1 := by rw [f1 _ (by rcases hS with w | w <;> omega), kC]; exact X1.1
  have e1 : (if (1 : Int) ≤ most ∧ most ≤ 10000 then (1 : Int) else 0) = 1 := if_pos hm
  have main : ∀ f0 : Int, f0 = (if h (h 64 8) 11 = 0 then 1 else 0) → ∀ y6 y7 y8 y9, G fz1 (d + 2) 421 4 [(3, 6603), (0, most), (0, h (h 64 8) 11), (0, h (h 64 8 + 598) 1), (0, plB h), (0, h (h 64 8) 11 - 1), y6, y7, y8, y9] [] (hset (hset (hset (hset (hset (hset K1 6603 72 0) 6603 69 f0) 6603 70 1) 6603 71 0) 6603 73 0) 12256 (h (h 64 8) 11) 0) Q := fun f0 hf y6 y7 y8 y9 => by
    obtain ⟨Z, hZ⟩ : ∃ Z, hset (hset (hset (hset (hset (hset K1 6603 72 0) 6603 69 f0) 6603 70 1) 6603 71 0) 6603 73 0) 12256 (h (h 64 8) 11) 0 = Z := ⟨_, rfl⟩
    rw [hZ]
    have zf : ∀ a, a ≠ 6603 → a ≠ 12256 → Z a = K1 a := fun a a1 a2 => by rw [← hZ, hs_ne a2, hs_ne a1, hs_ne a1, hs_ne a1, hs_ne a1, hs_ne a1]
    have zs : ∀ s, Z 6603 s = if s = 73 then 0 else if s = 71 then 0 else if s = 70 then 1 else if s = 69 then f0 else if s = 72 then 0 else K1 6603 s := fun s => by
      have g : ∀ (M : HV) (x y r : Int), hset M 6603 x y 6603 r = if r = x then y else M 6603 r := fun M x y r => by
        rw [hset_v]
        by_cases q : r = x
        · rw [if_pos ⟨rfl, q⟩, if_pos q]
        · rw [if_neg (fun w => q w.2), if_neg q]
      rw [← hZ, hs_ne (by decide), g, g, g, g, g]
    have RZZ : RZ h K0 Z := ⟨⟨fun a q => by rw [zf a q.1 q.2.2.2.2.2.1]; exact f1 a q.2.1, fun s a b c e g => by rw [zs, if_neg g, if_neg c, if_neg b, if_neg a, if_neg e, f1 _ (by decide), k66], fun u a b => by
      rw [zf _ (by decide) (by decide), ← hK1, unP_v, if_pos ⟨rfl, a, b⟩, k64, kL]
      rfl, C0⟩, by rw [zs]; rfl, by rw [zs, ← hf]; rfl, by rw [zs]; rfl, by rw [zs]; rfl, by rw [zs]; rfl⟩
    refine l421o S RZZ (by rw [← hZ, hset_v, if_pos ⟨rfl, rfl⟩]) (fun K2 fr vl y5 y6 y7 y8 => ?_)
    obtain ⟨K3, hK3⟩ : ∃ K3, hset (hset K2 12320 0 0) 12192 0 (-1) = K3 := ⟨_, rfl⟩
    have R3 : RZ h K0 K3 := rz_f RZZ (fun a a1 a2 a3 => by rw [← hK3, hs_ne a3, hs_ne a2, fr a a1])
    have l3 : ∀ u, 0 ≤ u → u ≤ h (h 64 8) 11 → K3 12256 u = leU h u := fun u a b => by rw [← hK3, hs_ne (by decide), hs_ne (by decide)]; exact vl u a b
    refine G_in ?_
    simp (implicitDefEqProofs := false) (disch := omega) only [b421_9, q421_9, x_aload0, x_gc_11899, x_gc_11915, x_goto_10, x_iastore, x_iconst, x_istore5, klp_0, klp_1, klp_2, klp_3, klp_9, KC_0, KC_1, KC_2, KC_3, KC_4, ne_eq, not_false_eq_true, not_true_eq_false, true_and, and_true, and_self, implies_true, eq_self, true_imp_iff, false_implies, Int.reduceEq, Int.reduceNe, Int.reduceMod, Int.reduceMul, Int.reduceAdd, Int.reduceSub, Int.reduceLT, Int.reduceLE, Nat.reduceAdd, Nat.reduceLeDiff, Nat.reduceLT, Nat.reduceSub, reduceIte, wds_n, wds_0, wds_1, wds_2, wds_3, or_true, true_or, or_false, false_or, or_self, false_and, and_false, d_pos, d_s1, d_s2, d_s3, d_s4, d_s5, d_s6, d_s7, d_s8, Classical.not_not, z6603_81, z12320_l, z6603_79, z12192_l, hK3, le_T, le_F, lt_T, lt_F, w32_T]
    obtain ⟨F, z1, z2, z3, z4, z5⟩ := R3
    by_cases q : h (h 64 8) 11 = 0
    · unfold bldR at hQ
      rw [if_pos q] at hQ
      rw [if_pos q] at z2
      refine G_in ?_
      simp (implicitDefEqProofs := false) (disch := omega) only [b421_10, x_aload0, x_dup203, x_dup21, x_gc_11899, x_goto_10, x_iadd, x_iaload, x_iastore, x_iconst, x_ifCond_le_20, x_ifCond_lt_20, x_if_icmp_lt_11, x_iinc5, x_iload2, x_iload4, x_iload5, klp_0, klp_1, klp_2, klp_3, klp_9, KC_0, KC_1, KC_2, KC_3, KC_4, ne_eq, not_false_eq_true, not_true_eq_false, true_and, and_true, and_self, implies_true, eq_self, true_imp_iff, false_implies, Int.reduceEq, Int.reduceNe, Int.reduceMod, Int.reduceMul, Int.reduceAdd, Int.reduceSub, Int.reduceLT, Int.reduceLE, Nat.reduceAdd, Nat.reduceLeDiff, Nat.reduceLT, Nat.reduceSub, reduceIte, wds_n, wds_0, wds_1, wds_2, wds_3, or_true, true_or, or_false, false_or, or_self, false_and, and_false, d_pos, d_s1, d_s2, d_s3, d_s4, d_s5, d_s6, d_s7, d_s8, Classical.not_not, q, le_T, le_F, lt_T, lt_F, w32_T]
      refine G_in ?_
      simp (implicitDefEqProofs := false) (disch := omega) only [b421_20, b421_22, q421_20, q421_22, x_aload0, x_gf_11820, x_goto_22, x_iconst, x_ifCond_eq_21, x_ireturn, klp_0, klp_1, klp_2, klp_3, klp_9, KC_0, KC_1, KC_2, KC_3, KC_4, ne_eq, not_false_eq_true, not_true_eq_false, true_and, and_true, and_self, implies_true, eq_self, true_imp_iff, false_implies, Int.reduceEq, Int.reduceNe, Int.reduceMod, Int.reduceMul, Int.reduceAdd, Int.reduceSub, Int.reduceLT, Int.reduceLE, Nat.reduceAdd, Nat.reduceLeDiff, Nat.reduceLT, Nat.reduceSub, reduceIte, wds_n, wds_0, wds_1, wds_2, wds_3, or_true, true_or, or_false, false_or, or_self, false_and, and_false, d_pos, d_s1, d_s2, d_s3, d_s4, d_s5, d_s6, d_s7, d_s8, Classical.not_not, z2]
      exact hQ K3 ⟨F, z1, z2, .inr rfl, z3, z4, fun _ => ⟨z5, fun u a b => by omega⟩, l3⟩
    · unfold bldR at hQ
      rw [if_neg q] at hQ
      rw [if_neg q] at z2
      refine lp421 (d := d + 1) S hm.2 q 20037 0 0 0 0 _ _ K3 _ _ _ _ (by decide) (by omega) (by decide) (by omega) (by omega) ⟨F, z1, z2, .inl rfl, z3, z4, fun w => absurd rfl w, l3⟩ (fun _ => ⟨⟨fun u a b => by omega, fun u a b => ?_, fun u a b => ?_⟩, ⟨fun u a b => by omega, fun u v a b c => by omega⟩, by decide, pw.2.1⟩) hQ
      · rw [show u = 0 by omega, ← hK3, hs_ne (by decide), hset_v, if_pos ⟨rfl, rfl⟩]
        rfl
      · rw [show u = 0 by omega, ← hK3, hset_v, if_pos ⟨rfl, rfl⟩]
        rfl
  by_cases q : h (h 64 8) 11 = 0
  · have mq := main 1 (by rw [if_pos q])
    rw [q] at r422 mq
    simp (implicitDefEqProofs := false) (disch := omega) only [sp421, b421_0, b421_1, b421_3, q421_1, q421_3, x_aload0, y_call369, y_call422, x_gc_11907, x_gc_12291, x_gf_11339, x_gf_11784, x_goto_3, x_goto_4, x_iaload, x_iastore, x_iconst, x_ifCond_ne_1, x_ifCond_ne_2, x_iload1, x_iload2, x_iload3, x_imul, x_ireturn, x_istore2, x_istore3, x_istore4, x_istore5, x_isub, x_pf_11820, x_pf_11828, x_pf_11836, x_pf_11840, x_pf_11848, klp_0, klp_1, klp_2, klp_3, klp_9, KC_0, KC_1, KC_2, KC_3, KC_4, ne_eq, not_false_eq_true, not_true_eq_false, true_and, and_true, and_self, implies_true, eq_self, true_imp_iff, false_implies, Int.reduceEq, Int.reduceNe, Int.reduceMod, Int.reduceMul, Int.reduceAdd, Int.reduceSub, Int.reduceLT, Int.reduceLE, Nat.reduceAdd, Nat.reduceLeDiff, Nat.reduceLT, Nat.reduceSub, reduceIte, wds_n, wds_0, wds_1, wds_2, wds_3, or_true, true_or, or_false, false_or, or_self, false_and, and_false, d_pos, d_s1, d_s2, d_s3, d_s4, d_s5, d_s6, d_s7, d_s8, Classical.not_not, s369, e1, r422, g9, g65, gC, r0 hS, r0l hS, r0k hS, TR_0 hS, TR_k hS, pw.1, z6603_80, z12256_l, le_T, le_F, lt_T, lt_F, w32_T]
    exact mq _ _ _ _
  · have mq := main 0 (by rw [if_neg q])
    simp (implicitDefEqProofs := false) (disch := omega) only [sp421, b421_0, b421_1, b421_2, b421_3, q421_1, q421_2, q421_3, x_aload0, y_call369, y_call422, x_gc_11907, x_gc_12291, x_gf_11339, x_gf_11784, x_goto_3, x_goto_4, x_iaload, x_iastore, x_iconst, x_ifCond_ne_1, x_ifCond_ne_2, x_iload1, x_iload2, x_iload3, x_imul, x_ireturn, x_istore2, x_istore3, x_istore4, x_istore5, x_isub, x_pf_11820, x_pf_11828, x_pf_11836, x_pf_11840, x_pf_11848, klp_0, klp_1, klp_2, klp_3, klp_9, KC_0, KC_1, KC_2, KC_3, KC_4, ne_eq, not_false_eq_true, not_true_eq_false, true_and, and_true, and_self, implies_true, eq_self, true_imp_iff, false_implies, Int.reduceEq, Int.reduceNe, Int.reduceMod, Int.reduceMul, Int.reduceAdd, Int.reduceSub, Int.reduceLT, Int.reduceLE, Nat.reduceAdd, Nat.reduceLeDiff, Nat.reduceLT, Nat.reduceSub, reduceIte, wds_n, wds_0, wds_1, wds_2, wds_3, or_true, true_or, or_false, false_or, or_self, false_and, and_false, d_pos, d_s1, d_s2, d_s3, d_s4, d_s5, d_s6, d_s7, d_s8, Classical.not_not, s369, e1, r422, g9, g65, gC, r0 hS, r0l hS, r0k hS, TR_0 hS, TR_k hS, pw.1, q, z6603_80, z12256_l, le_T, le_F, lt_T, lt_F, w32_T]
    exact mq _ _ _ _

def MBd (a : Int) : Prop := CLb a ∧ RLb a
theorem s252n {d : Nat} {h : HV} {Q : Int → HV → Prop} {most : Int} (hm : ¬ (1 ≤ most ∧ most ≤ 10000)) : Sp fz1 d 252 [(3, 64), (0, most)] h Q = Q (-1) h := by
  by_cases a1 : most < 1 <;> (try (exfalso; omega)) <;> simp (implicitDefEqProofs := false) (disch := omega) only [sp252, b252_0, b252_1, b252_2, q252_1, x_aload0, y_call19, y_call253, x_gc_43, x_gc_51, x_goto_1, x_iconst, x_if_icmp_le_2, x_if_icmp_lt_1, x_iload1, x_ireturn, klp_0, klp_1, klp_2, klp_3, klp_9, KC_0, KC_1, KC_2, KC_3, KC_4, ne_eq, not_false_eq_true, not_true_eq_false, true_and, and_true, and_self, implies_true, eq_self, true_imp_iff, false_implies, Int.reduceEq, Int.reduceNe, Int.reduceMod, Int.reduceMul, Int.reduceAdd, Int.reduceSub, Int.reduceLT, Int.reduceLE, Nat.reduceAdd, Nat.reduceLeDiff, Nat.reduceLT, Nat.reduceSub, reduceIte, wds_n, wds_0, wds_1, wds_2, wds_3, or_true, true_or, or_false, false_or, or_self, false_and, and_false, d_pos, d_s1, d_s2, d_s3, d_s4, d_s5, d_s6, d_s7, d_s8, Classical.not_not, z64_5, z64_6, a1, le_sub1, le_T, le_F, lt_T, lt_F, eq_F, w32_T, bz0, bz1, lc_le, lc_ge, lc_lt, lc_gt, lc_eq] <;> first | rfl | (rw [if_pos (by omega)] <;> rfl) | (rw [if_neg (by omega)] <;> rfl) | (exfalso; omega)
theorem s421n {d : Nat} {h : HV} {Q : Int → HV → Prop} {most : Int} (hm : ¬ (1 ≤ most ∧ most ≤ 10000)) : Sp fz1 (d + 1) 421 [(3, 6603), (0, most)] h Q = Q (-1) h := by
  simp (implicitDefEqProofs := false) (disch := omega) only [sp421, b421_0, b421_1, b421_2, b421_3, b421_4, b421_5, b421_6, b421_7, b421_8, b421_9, b421_10, b421_11, b421_12, b421_13, b421_14, b421_15, b421_16, b421_17, b421_18, b421_19, b421_20, b421_21, b421_22, x_aload0, y_call369, y_call422, y_call423, x_dup0, x_dup203, x_dup21, x_dup3, x_gc_11811, x_gc_11859, x_gc_11867, x_gc_11875, x_gc_11883, x_gc_11891, x_gc_11899, x_gc_11907, x_gc_11915, x_gc_12291, x_gf_11339, x_gf_11784, x_gf_11820, x_gf_11840, x_gf_11848, x_goto_10, x_goto_13, x_goto_15, x_goto_16, x_goto_19, x_goto_22, x_goto_3, x_goto_4, x_goto_5, x_goto_7, x_iadd, x_iaload, x_iastore, x_iconst, x_idiv, x_ifCond_eq_12, x_ifCond_eq_15, x_ifCond_eq_19, x_ifCond_eq_21, x_ifCond_le_20, x_ifCond_lt_20, x_ifCond_lt_9, x_ifCond_ne_1, x_ifCond_ne_2, x_if_icmp_ge_17, x_if_icmp_ge_19, x_if_icmp_ge_6, x_if_icmp_ge_8, x_if_icmp_lt_11, x_if_icmp_ne_14, x_if_icmp_ne_18, x_iinc5, x_iinc7, x_iinc9, x_iload1, x_iload2, x_iload3, x_iload4, x_iload5, x_iload6, x_iload7, x_iload8, x_iload9, x_imul, x_irem, x_ireturn, x_istore2, x_istore3, x_istore4, x_istore5, x_istore6, x_istore7, x_istore8, x_istore9, x_isub, x_pf_11820, x_pf_11828, x_pf_11836, x_pf_11840, x_pf_11848, klp_0, klp_1, klp_2, klp_3, klp_9, KC_0, KC_1, KC_2, KC_3, KC_4, ne_eq, not_false_eq_true, not_true_eq_false, true_and, and_true, and_self, implies_true, eq_self, true_imp_iff, false_implies, Int.reduceEq, Int.reduceNe, Int.reduceMod, Int.reduceMul, Int.reduceAdd, Int.reduceSub, Int.reduceLT, Int.reduceLE, Nat.reduceAdd, Nat.reduceLeDiff, Nat.reduceLT, Nat.reduceSub, reduceIte, wds_n, wds_0, wds_1, wds_2, wds_3, or_true, true_or, or_false, false_or, or_self, false_and, and_false, d_pos, d_s1, d_s2, d_s3, d_s4, d_s5, d_s6, d_s7, d_s8, Classical.not_not, z6603_68, z11808_l, z6603_74, z11872_l, z6603_75, z11936_l, z6603_76, z12000_l, z6603_77, z12064_l, z6603_78, z12128_l, z6603_79, z12192_l, z6603_80, z12256_l, z6603_81, z12320_l, s369, if_neg hm, le_sub1, le_T, le_F, lt_T, lt_F, eq_F, w32_T, bz0, bz1, lc_le, lc_ge, lc_lt, lc_gt, lc_eq] <;> first | rfl | (rw [if_pos (by omega)] <;> rfl) | (rw [if_neg (by omega)] <;> rfl) | (exfalso; omega)
theorem op_build {d : Nat} {h : HV} {most : Int} (X : RTx h) (U : RTu h) (B : RTb h) (L : RTl h) (M : RTm h) (W : RTw h) (G : RTg h) (A : RTa h) (T : RTt h) (I : RTi h) (V : RCv h) : Sp fz1 (d + 7) 252 [(3, 64), (0, most)] h (fun x h1 => h1 50 = h 50 ∧ Sp fz1 (d + 7) 421 [(3, 6603), (0, most)] h1 (fun y h2 => x = y ∧ RTa h2 ∧ RTt h2 ∧ RTi h2 ∧ RCv h2 ∧ (∀ a, MBd a → h2 a = h a) ∧ (∀ s, s ≠ 10 → s ≠ 12 → s ≠ 13 → s ≠ 14 → s ≠ 15 → h2 1927 s = h 1927 s) ∧ (∀ s, s ≠ 4 → h2 2568 s = h 2568 s) ∧ (∀ s, s ≠ 69 → s ≠ 70 → s ≠ 71 → s ≠ 72 → s ≠ 73 → h2 6603 s = h 6603 s))) := by
  have hT := X.1
  have hS := X.2.1
  have hN := U.1
  have D := B.2.1
  by_cases hm : 1 ≤ most ∧ most ≤ 10000
  · obtain ⟨H, hH⟩ : ∃ H, hset h 2568 4 0 = H := ⟨_, rfl⟩
    have f0 : ∀ a, a ≠ 2568 → H a = h a := fun a ha => by rw [← hH, hs_ne ha]
    have t0 : ∀ x, 0 ≤ x → x < 1200 → H (h 64 8 + x) = h (h 64 8 + x) := fun x x0 x1 => f0 _ (by rcases hT with w | w <;> omega)
    have r0 : ∀ x, 0 ≤ x → x < 1200 → H (h 6603 9 + x) = h (h 6603 9 + x) := fun x x0 x1 => f0 _ (by rcases hS with w | w <;> omega)
    have e64 : H 64 = h 64 := f0 _ (by decide)
    have e66 : H 6603 = h 6603 := f0 _ (by decide)
    have e19 : H 1927 = h 1927 := f0 _ (by decide)
    have eU : H (h 64 8) = h (h 64 8) := by have := t0 0 (by decide) (by decide); rw [Int.add_zero] at this; exact this
    have el : lsT H = lsT h := by funext l; unfold lsT; rw [e66, r0 660 (by decide) (by decide)]
    have XH : RTx H := by unfold RTx; rw [e64, e66, t0 598 (by decide) (by decide), r0 84 (by decide) (by decide)]; exact X
    have UH : RTu H := by unfold RTu; rw [el, e64, eU, t0 598 (by decide) (by decide), t0 1174 (by decide) (by decide)]; exact U
    have LH : RTl H := by unfold RTl; rw [e64, e66, t0 598 (by decide) (by decide), t0 790 (by decide) (by decide), t0 918 (by decide) (by decide), t0 1046 (by decide) (by decide), r0 340 (by decide) (by decide), r0 468 (by decide) (by decide), r0 596 (by decide) (by decide)]; exact L
    have MH : RTm H := by unfold RTm; rw [e64, e66, t0 598 (by decide) (by decide), t0 662 (by decide) (by decide), t0 982 (by decide) (by decide), r0 212 (by decide) (by decide), r0 532 (by decide) (by decide)]; exact M
    have WH : RTw H := by unfold RTw; rw [f0 2080 (by decide)]; exact W
    have GH : RTg H := by unfold RTg; rw [e64, e66, t0 598 (by decide) (by decide), t0 854 (by decide) (by decide), r0 404 (by decide) (by decide)]; exact G
    have BH : RTb H := by unfold RTb; rw [e66, e19, f0 11680 (by decide), f0 2016 (by decide), f0 11808 (by decide), f0 2080 (by decide)]; exact B
    have S : SRb H := ⟨⟨XH, UH, by rw [e19]; exact D, LH, MH, WH, by rw [e19, e64]; exact T.1⟩, GH, BH⟩
    have eC : ∀ (d : Nat) (Q : Int → HV → Prop), Sp fz1 d 19 [(3, 2568)] h Q = Q 0 H := fun d Q => by
      refine Sp_is ?_ Q
      exact s19 ⟨rfl, hH⟩
    simp (implicitDefEqProofs := false) (disch := omega) only [sp252, b252_0, b252_1, b252_2, q252_1, q252_2, x_aload0, y_call19, y_call253, x_gc_43, x_gc_51, x_goto_1, x_iconst, x_if_icmp_le_2, x_if_icmp_lt_1, x_iload1, x_ireturn, klp_0, klp_1, klp_2, klp_3, klp_9, KC_0, KC_1, KC_2, KC_3, KC_4, ne_eq, not_false_eq_true, not_true_eq_false, true_and, and_true, and_self, implies_true, eq_self, true_imp_iff, false_implies, Int.reduceEq, Int.reduceNe, Int.reduceMod, Int.reduceMul, Int.reduceAdd, Int.reduceSub, Int.reduceLT, Int.reduceLE, Nat.reduceAdd, Nat.reduceLeDiff, Nat.reduceLT, Nat.reduceSub, reduceIte, wds_n, wds_0, wds_1, wds_2, wds_3, or_true, true_or, or_false, false_or, or_self, false_and, and_false, d_pos, d_s1, d_s2, d_s3, d_s4, d_s5, d_s6, d_s7, d_s8, Classical.not_not, z64_6, z64_5, eC, le_T, le_F, lt_T, lt_F]
    refine s253 (d := d) S.1 hm (fun K0 E GB => ?_)
    simp (implicitDefEqProofs := false) (disch := omega) only [sp252, b252_2, q252_2, x_aload0, y_call19, y_call253, x_gc_43, x_gc_51, x_iload1, x_ireturn, klp_0, klp_1, klp_2, klp_3, klp_9, KC_0, KC_1, KC_2, KC_3, KC_4, ne_eq, not_false_eq_true, not_true_eq_false, true_and, and_true, and_self, implies_true, eq_self, true_imp_iff, false_implies, Int.reduceEq, Int.reduceNe, Int.reduceMod, Int.reduceMul, Int.reduceAdd, Int.reduceSub, Int.reduceLT, Int.reduceLE, Nat.reduceAdd, Nat.reduceLeDiff, Nat.reduceLT, Nat.reduceSub, reduceIte, wds_n, wds_0, wds_1, wds_2, wds_3, or_true, true_or, or_false, false_or, or_self, false_and, and_false, d_pos, d_s1, d_s2, d_s3, d_s4, d_s5, d_s6, d_s7, d_s8, Classical.not_not]
    have F := E.1
    have kf : ∀ a, CLb a → K0 a = H a := fun a q => by unfold CLb at q; exact F.1 a (by omega)
    have k0 : ∀ a, CLb a → K0 a = h a := fun a q => by rw [kf a q]; exact f0 a (by unfold CLb at q; omega)
    refine ⟨k0 _ (by unfold CLb; decide), ?_⟩
    have kT : ∀ x, 0 ≤ x → x < 1200 → K0 (h 64 8 + x) = h (h 64 8 + x) := fun x x0 x1 => k0 _ (by unfold CLb; rcases hT with w | w <;> omega)
    have kR : ∀ x, 0 ≤ x → x < 1200 → K0 (h 6603 9 + x) = h (h 6603 9 + x) := fun x x0 x1 => k0 _ (by unfold CLb; rcases hS with w | w <;> omega)
    have k64 : K0 64 = h 64 := k0 _ (by unfold CLb; decide)
    have k66 : K0 6603 = h 6603 := k0 _ (by unfold CLb; decide)
    have kU : K0 (h 64 8) = h (h 64 8) := by have := kT 0 (by decide) (by decide); rw [Int.add_zero] at this; exact this
    have kl : lsT K0 = lsT h := by funext l; unfold lsT; rw [k66, kR 660 (by decide) (by decide)]
    have XK : RTx K0 := by unfold RTx; rw [k64, k66, kT 598 (by decide) (by decide), kR 84 (by decide) (by decide)]; exact X
    have UK : RTu K0 := by unfold RTu; rw [kl, k64, kU, kT 598 (by decide) (by decide), kT 1174 (by decide) (by decide)]; exact U
    refine s421 (d := d + 5) S hm XK UK kf (fun K2 R => ?_)
    obtain ⟨g1, g2, g3, g4, g5, g6, g7⟩ := E
    obtain ⟨q1, q2, q3, q4, q5, q6, q7, q8⟩ := R
    generalize (bldR H most).2.1 = nd at *
    generalize (bldR H most).2.2.1 = fd at *
    generalize (bldR H most).2.2.2.1 = bw at *
    generalize (bldR H most).2.2.2.2 = bt at *
    have c19 : K2 1927 = K0 1927 := q1.1 _ (by unfold RLb; decide)
    have c25 : K2 2528 = K0 2528 := q1.1 _ (by unfold RLb; decide)
    have c68 : K2 2568 = K0 2568 := q1.1 _ (by unfold RLb; decide)
    have d68 : K0 2568 = H 2568 := F.1 _ (by decide)
    have mf : ∀ a, MBd a → K2 a = h a := fun a q => by rw [q1.1 a q.2]; exact k0 a q.1
    have m64 : K2 64 = h 64 := mf _ (by unfold MBd CLb RLb; decide)
    have mT : ∀ x, 0 ≤ x → x < 1200 → K2 (h 64 8 + x) = h (h 64 8 + x) := fun x x0 x1 => mf _ (by unfold MBd CLb RLb; rcases hT with w | w <;> omega)
    have mU : K2 (h 64 8) = h (h 64 8) := by have := mT 0 (by decide) (by decide); rw [Int.add_zero] at this; exact this
    have HU : H (H 64 8) 11 = h (h 64 8) 11 := by rw [e64, eU]
    have s0 : K0 1927 0 = h 64 8 := by rw [F.2 0 (by decide) (by decide) (by decide) (by decide) (by decide), e19]; exact T.1
    have pE : ∀ v, perF K2 v = perF H v := fun v => by unfold perF; rw [m64, mT 598 (by decide) (by decide), e64, t0 598 (by decide) (by decide)]
    have oE : ∀ v, rooF K2 v = rooF H v := fun v => by unfold rooF; rw [m64, mT 598 (by decide) (by decide), e64, t0 598 (by decide) (by decide)]
    refine ⟨rfl, ?_, ?_, ?_, ?_, mf, fun s a b c e f => by rw [c19, F.2 s a b c e f, e19], fun s hs => by rw [c68, d68, ← hH, hset_v, if_neg (fun w => hs w.2)], fun s a b c e f => by rw [q1.2.1 s a b c e f, e66]⟩
    · refine ⟨by rw [c19, g4]; omega, by rw [c19, g2]; decide, by rw [q3, c19, g4], by rw [q5, c19, g2], fun w => ?_, fun _ => by rw [q2, c19, g3]⟩
      rw [c19, g4] at w
      rw [(q7 (by omega)).1, c19, (g6 (by omega)).1]
    · refine ⟨by rw [c19, m64]; exact s0, fun w u u0 u1 => ?_⟩
      rw [c19, g4] at w
      rw [m64, mU, ← HU] at u1
      rw [c25, (g6 (by omega)).2 u u0 u1, pE, oE]
      exact (q7 (by omega)).2 u u0 u1
    · intro w u u0 u1
      rw [c19, g4] at w
      rw [m64, mU, ← HU] at u1
      have gb := GB (by omega)
      have bu := (g6 (by omega)).2 u u0 u1
      have pb := pv_b S.1 (gb.1 u u0 u1)
      rw [e64, t0 598 (by decide) (by decide)] at pb
      refine ⟨⟨by rw [c25, bu]; exact (gb.1 u u0 u1).1, by rw [c25, bu]; exact pb.2.2.2.2, by rw [m64, mT 598 (by decide) (by decide)]; exact pb.1⟩, fun v v0 v1 => ?_⟩
      rw [m64, mU, ← HU] at v1
      rw [c25, bu, (g6 (by omega)).2 v (by omega) v1]
      exact gb.2 u v u0 v0 v1
    · have z4 : K2 2568 4 = 0 := by rw [c68, d68, ← hH, hset_v, if_pos ⟨rfl, rfl⟩]
      refine ⟨by rw [z4]; decide, ?_, fun w => absurd q6 w⟩
      rw [q6, z4]
      exact ⟨fun w => absurd rfl w, fun w => by omega⟩
  · rw [s252n hm]
    refine ⟨rfl, ?_⟩
    rw [s421n hm]
    exact ⟨rfl, A, T, I, V, fun _ _ => rfl, fun _ _ _ _ _ _ => rfl, fun _ _ => rfl, fun _ _ _ _ _ _ => rfl⟩
