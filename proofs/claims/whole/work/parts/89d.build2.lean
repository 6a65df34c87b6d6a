/-! THE PURE SIDE, 74: build, the class's small methods: printed by wip/tools/gen89d.py -/
def RTm (h : HV) : Prop := (∀ r, 0 ≤ r → r < h (h 64 8 + 598) 1 → h (h 6603 9 + 212) r = h (h 64 8 + 662) r) ∧ ∀ l, 0 ≤ l → l < h (h 64 8 + 598) 4 → h (h 6603 9 + 532) l = h (h 64 8 + 982) l ∧ 0 ≤ h (h 64 8 + 982) l ∧ h (h 64 8 + 982) l < h (h 64 8 + 598) 3
def RTw (h : HV) : Prop := ∀ i, 0 ≤ i → i < 240 → -99 ≤ h 2080 i ∧ h 2080 i ≤ 99
/-- the school, as build finds it -/
def SBd (h : HV) : Prop := RTx h ∧ RTu h ∧ (1 ≤ h 1927 1 ∧ h 1927 1 ≤ 4) ∧ RTl h ∧ RTm h ∧ RTw h ∧ h 1927 0 = h 64 8
/-- what the class's search leaves as it is -/
def BKp (h K : HV) : Prop := (∀ a, a ≠ 1927 ∧ a ≠ 2144 ∧ a ≠ 2208 ∧ a ≠ 2272 ∧ a ≠ 2336 ∧ a ≠ 2400 ∧ a ≠ 2464 ∧ a ≠ 2528 → K a = h a) ∧ ∀ s, s ≠ 10 → s ≠ 12 → s ≠ 13 → s ≠ 14 → s ≠ 15 → K 1927 s = h 1927 s
theorem bk_64 {h K : HV} (F : BKp h K) : K 64 = h 64 := F.1 _ (by decide)
theorem bk_T {h K : HV} (S : SBd h) (F : BKp h K) {x : Int} (x0 : 0 ≤ x) (x1 : x < 1200) : K (h 64 8 + x) = h (h 64 8 + x) := F.1 _ (by rcases S.1.1 with w | w <;> omega)
theorem bk_U {h K : HV} (S : SBd h) (F : BKp h K) : K (h 64 8) = h (h 64 8) := by have := bk_T S F (x := 0) (by decide) (by decide); rw [Int.add_zero] at this; exact this
theorem bk_0 {h K : HV} (S : SBd h) (F : BKp h K) : K 1927 0 = h 64 8 := by rw [F.2 0 (by decide) (by decide) (by decide) (by decide) (by decide)]; exact S.2.2.2.2.2.2
theorem bk_1 {h K : HV} (F : BKp h K) : K 1927 1 = h 1927 1 := F.2 1 (by decide) (by decide) (by decide) (by decide) (by decide)
theorem bk_p {h K : HV} (S : SBd h) (F : BKp h K) (v : Int) : perF K v = perF h v := by unfold perF; rw [bk_64 F, bk_T S F (by decide) (by decide)]
theorem bk_r {h K : HV} (S : SBd h) (F : BKp h K) (v : Int) : rooF K v = rooF h v := by unfold rooF; rw [bk_64 F, bk_T S F (by decide) (by decide)]
theorem pv_b {h : HV} (S : SBd h) {v : Int} (hv : 0 ≤ v ∧ v < plB h) : 0 < h (h 64 8 + 598) 1 ∧ (0 ≤ perF h v ∧ perF h v < 5 * h 1927 1) ∧ (0 ≤ rooF h v ∧ rooF h v < h (h 64 8 + 598) 1) ∧ (0 ≤ dyF h (perF h v) ∧ dyF h (perF h v) < 5) ∧ v < 120 := by
  have X1 := rtx_1 S.1
  have D := S.2.2.1
  unfold plB at hv
  generalize hR : h (h 64 8 + 598) 1 = R at *
  generalize hDD : h 1927 1 = D1 at *
  have R0 : 0 < R := by
    rcases Int.lt_or_le 0 R with w | w
    · exact w
    · have : R = 0 := by omega
      rw [this, Int.mul_zero] at hv
      omega
  have p1 : v / R < 5 * D1 := Int.ediv_lt_of_lt_mul R0 hv.2
  have p0 : 0 ≤ v / R := Int.ediv_nonneg hv.1 (by omega)
  have pe : perF h v = v / R := by
    unfold perF
    rw [hR, if_pos R0, Int.tdiv_eq_ediv_of_nonneg hv.1]
    generalize v / R = x at *
    unfold w32
    omega
  have re : rooF h v = v % R := by
    unfold rooF
    rw [hR, if_pos R0, Int.tmod_eq_emod_of_nonneg hv.1]
  have r0 := Int.emod_nonneg v (b := R) (by omega)
  have r1 := Int.emod_lt_of_pos v R0
  have d1 : v / R / D1 < 5 := Int.ediv_lt_of_lt_mul (by omega) p1
  have d0 : 0 ≤ v / R / D1 := Int.ediv_nonneg p0 (by omega)
  have de : dyF h (perF h v) = v / R / D1 := by
    unfold dyF
    rw [hDD, pe, Int.tdiv_eq_ediv_of_nonneg p0]
    generalize v / R / D1 = x at *
    unfold w32
    omega
  have v120 : v < 120 := by
    have a := Int.mul_ediv_add_emod v R
    have b : R * (v / R) ≤ R * 19 := Int.mul_le_mul_of_nonneg_left (by omega) (by omega)
    omega
  rw [de, pe, re]
  exact ⟨R0, ⟨p0, p1⟩, ⟨r0, r1⟩, ⟨d0, d1⟩, v120⟩
theorem un_b4 {h : HV} (S : SBd h) {u : Int} (hu : 0 ≤ u ∧ u < h (h 64 8) 11) : (0 ≤ lsU h u ∧ lsU h u < 12) ∧ (0 ≤ stU h u ∧ stU h u < 10) ∧ (0 ≤ grU h u ∧ grU h u < 8) := by
  have lb := les_b S.1 S.2.1 hu
  have sb := st_b S.1 S.2.1 S.2.2.2.1 hu
  have X2 := rtx_2 S.1
  have X4 := rtx_4 S.1
  have X3 := rtx_3 S.1
  have gb := (S.2.2.2.2.1.2 _ lb.1 lb.2).2
  unfold grU
  omega
theorem k259 {d : Nat} {h K : HV} {Q : Int → HV → Prop} (S : SBd h) (F : BKp h K) (v : Int) : Sp fz1 (d + 1) 259 [(3, 1927), (0, v)] K Q = Q (perF h v) K := by
  rw [s259 (by rw [bk_64 F]; exact S.1.1) (by rw [bk_64 F]; exact bk_0 S F), bk_p S F]
theorem k260 {d : Nat} {h K : HV} {Q : Int → HV → Prop} (S : SBd h) (F : BKp h K) (v : Int) : Sp fz1 (d + 1) 260 [(3, 1927), (0, v)] K Q = Q (rooF h v) K := by
  rw [s260 (by rw [bk_64 F]; exact S.1.1) (by rw [bk_64 F]; exact bk_0 S F), bk_r S F]
theorem s261 {d : Nat} {h : HV} {Q : Int → HV → Prop} {q : Int} (hp : 1 ≤ h 1927 1 ∧ h 1927 1 ≤ 4) : Sp fz1 d 261 [(3, 1927), (0, q)] h Q = Q (dyF h q) h := by
  simp (implicitDefEqProofs := false) (disch := omega) only [sp261, b261_0, b261_1, b261_2, q261_1, q261_2, x_aload0, x_gf_7176, x_goto_2, x_iconst, x_idiv, x_ifCond_le_1, x_iload1, x_ireturn, klp_0, klp_1, klp_2, klp_3, klp_9, KC_0, KC_1, KC_2, KC_3, KC_4, ne_eq, not_false_eq_true, not_true_eq_false, true_and, and_true, and_self, implies_true, eq_self, true_imp_iff, false_implies, Int.reduceEq, Int.reduceNe, Int.reduceMod, Int.reduceMul, Int.reduceAdd, Int.reduceSub, Int.reduceLT, Int.reduceLE, Nat.reduceAdd, Nat.reduceLeDiff, Nat.reduceLT, Nat.reduceSub, reduceIte, wds_n, wds_0, wds_1, wds_2, wds_3, or_true, true_or, or_false, false_or, or_self, false_and, and_false, d_pos, d_s1, d_s2, d_s3, d_s4, d_s5, d_s6, d_s7, d_s8, Classical.not_not, le_sub1, le_T, le_F, lt_T, lt_F, eq_F, w32_T, bz0, bz1, lc_le, lc_ge, lc_lt, lc_gt, lc_eq] <;> first | rfl | (rw [if_pos (by omega)] <;> rfl) | (rw [if_neg (by omega)] <;> rfl) | (exfalso; omega)

theorem k261 {d : Nat} {h K : HV} {Q : Int → HV → Prop} (S : SBd h) (F : BKp h K) (q : Int) : Sp fz1 d 261 [(3, 1927), (0, q)] K Q = Q (dyF h q) K := by
  rw [s261 (by rw [bk_1 F]; exact S.2.2.1)]
  unfold dyF
  rw [bk_1 F]
theorem k251 {d : Nat} {h K : HV} {Q : Int → HV → Prop} (F : BKp h K) {l p : Int} (hl : 0 ≤ l ∧ l < 12) (hp : 0 ≤ p ∧ p < 20) : Sp fz1 d 251 [(3, 1927), (0, l), (0, p)] K Q = Q (h 2080 (l * 20 + p)) K := by
  rw [s251 hl hp, F.1 2080 (by decide)]
theorem k255 {d : Nat} {h K : HV} {Q : Int → HV → Prop} (S : SBd h) (F : BKp h K) {l : Int} (hl : 0 ≤ l ∧ l < 12) : Sp fz1 (d + 1) 255 [(3, 1927), (0, l)] K Q = Q (mnW h l (5 * h 1927 1 - 1).toNat) K := by
  have D := S.2.2.1
  have k1 := bk_1 F
  have hp : 1 ≤ K 1927 1 ∧ K 1927 1 ≤ 4 := by rw [k1]; exact D
  refine Sp_is ?_ Q
  have w0 := fun (d : Nat) (Q : Int → HV → Prop) => k251 (d := d) (Q := Q) F hl (p := 0) (by decide)
  simp (implicitDefEqProofs := false) (disch := omega) only [sp255, b255_0, x_aload0, y_call251, x_goto_1, x_iconst, x_iload1, x_istore2, x_istore3, klp_0, klp_1, klp_2, klp_3, klp_9, KC_0, KC_1, KC_2, KC_3, KC_4, ne_eq, not_false_eq_true, not_true_eq_false, true_and, and_true, and_self, implies_true, eq_self, true_imp_iff, false_implies, Int.reduceEq, Int.reduceNe, Int.reduceMod, Int.reduceMul, Int.reduceAdd, Int.reduceSub, Int.reduceLT, Int.reduceLE, Nat.reduceAdd, Nat.reduceLeDiff, Nat.reduceLT, Nat.reduceSub, reduceIte, wds_n, wds_0, wds_1, wds_2, wds_3, or_true, true_or, or_false, false_or, or_self, false_and, and_false, d_pos, d_s1, d_s2, d_s3, d_s4, d_s5, d_s6, d_s7, d_s8, Classical.not_not, w0, Int.add_zero]
  refine forG (N := (5 * h 1927 1 - 1).toNat) (I := fun j ls h' => ls = [(3, 1927), (0, l), (0, mnW h l j), (0, (j : Int) + 1)] ∧ h' = K) ?_ ?_ (j := 0) (Nat.zero_le _) ⟨rfl, rfl⟩
  · rintro j ls h' hj ⟨rfl, rfl⟩ nx
    have w1 := fun (d : Nat) (Q : Int → HV → Prop) => k251 (d := d) (Q := Q) F hl (p := (j : Int) + 1) (by omega)
    refine G_in ?_
    simp (implicitDefEqProofs := false) (disch := omega) only [b255_1, x_aload0, y_call247, y_call251, x_goto_1, x_if_icmp_ge_2, x_iinc3, x_iload1, x_iload2, x_iload3, x_imin, x_istore2, klp_0, klp_1, klp_2, klp_3, klp_9, KC_0, KC_1, KC_2, KC_3, KC_4, ne_eq, not_false_eq_true, not_true_eq_false, true_and, and_true, and_self, implies_true, eq_self, true_imp_iff, false_implies, Int.reduceEq, Int.reduceNe, Int.reduceMod, Int.reduceMul, Int.reduceAdd, Int.reduceSub, Int.reduceLT, Int.reduceLE, Nat.reduceAdd, Nat.reduceLeDiff, Nat.reduceLT, Nat.reduceSub, reduceIte, wds_n, wds_0, wds_1, wds_2, wds_3, or_true, true_or, or_false, false_or, or_self, false_and, and_false, d_pos, d_s1, d_s2, d_s3, d_s4, d_s5, d_s6, d_s7, d_s8, Classical.not_not, s247 hp, k1, w1, le_T, le_F, lt_T, lt_F, w32_T]
    exact nx _ _ ⟨rfl, rfl⟩
  · rintro ls h' ⟨rfl, rfl⟩
    refine G_in ?_
    simp (implicitDefEqProofs := false) (disch := omega) only [b255_1, b255_2, q255_2, x_aload0, y_call247, y_call251, x_goto_1, x_if_icmp_ge_2, x_iinc3, x_iload1, x_iload2, x_iload3, x_imin, x_ireturn, x_istore2, klp_0, klp_1, klp_2, klp_3, klp_9, KC_0, KC_1, KC_2, KC_3, KC_4, ne_eq, not_false_eq_true, not_true_eq_false, true_and, and_true, and_self, implies_true, eq_self, true_imp_iff, false_implies, Int.reduceEq, Int.reduceNe, Int.reduceMod, Int.reduceMul, Int.reduceAdd, Int.reduceSub, Int.reduceLT, Int.reduceLE, Nat.reduceAdd, Nat.reduceLeDiff, Nat.reduceLT, Nat.reduceSub, reduceIte, wds_n, wds_0, wds_1, wds_2, wds_3, or_true, true_or, or_false, false_or, or_self, false_and, and_false, d_pos, d_s1, d_s2, d_s3, d_s4, d_s5, d_s6, d_s7, d_s8, Classical.not_not, s247 hp, k1, le_T, le_F, lt_T, lt_F, w32_T]
theorem mn_b {h : HV} (W : RTw h) {l : Int} (hl : 0 ≤ l ∧ l < 12) : ∀ k : Nat, k < 20 → -99 ≤ mnW h l k ∧ mnW h l k ≤ 99
  | 0, _ => by rw [mnW]; exact W _ (by omega) (by omega)
  | k + 1, hk => by
    have ih := mn_b W hl k (by omega)
    have := W (l * 20 + (k + 1)) (by omega) (by omega)
    rw [mnW]
    omega
theorem ls_b {h : HV} (S : SBd h) : ∀ k : Nat, (k : Int) ≤ h (h 64 8) 11 → -99 * (k : Int) ≤ lsS h k ∧ lsS h k ≤ 99 * k
  | 0, _ => by rw [lsS]; decide
  | k + 1, hk => by
    have ih := ls_b S k (by omega)
    have ub := un_b4 S (u := h (h 64 8) 11 - (k + 1)) (by omega)
    have D := S.2.2.1
    have mb := mn_b S.2.2.2.2.2.1 ub.1 (5 * h 1927 1 - 1).toNat (by omega)
    rw [lsS]
    omega
theorem le_b {h : HV} (S : SBd h) {u : Int} (hu : 0 ≤ u ∧ u ≤ h (h 64 8) 11) : -3600 ≤ leU h u ∧ leU h u ≤ 3600 := by
  have hN := S.2.1.1
  have := ls_b S (h (h 64 8) 11 - u).toNat (by omega)
  unfold leU
  omega
theorem wi_b {h : HV} (S : SBd h) {u v : Int} (hu : 0 ≤ u ∧ u < h (h 64 8) 11) (hv : 0 ≤ v ∧ v < plB h) : -99 ≤ wiU h u v ∧ wiU h u v ≤ 99 := by
  have ub := un_b4 S hu
  have pb := pv_b S hv
  have D := S.2.2.1
  exact S.2.2.2.2.2.1 _ (by omega) (by omega)
theorem sm_b {h : HV} (S : SBd h) {nx : Int → Int} : ∀ k : Nat, (k : Int) ≤ h (h 64 8) 11 → (∀ u : Int, 0 ≤ u → u < k → 1 ≤ nx u ∧ nx u ≤ plB h) → -99 * (k : Int) ≤ smU h nx k ∧ smU h nx k ≤ 99 * k
  | 0, _, _ => by unfold smU; rw [sumI]; decide
  | k + 1, hk, hn => by
    have ih := sm_b S (nx := nx) k (by omega) (fun u a b => hn u a (by omega))
    have n := hn k (by omega) (by omega)
    have w := wi_b S (u := k) (v := nx k - 1) (by omega) (by omega)
    unfold smU at ih ⊢
    rw [sumI]
    omega
