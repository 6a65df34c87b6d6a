/-! THE PURE SIDE, 21: rows of values, the reference's small methods: printed by wip/tools/gen46.py -/
theorem le_sub1 {a n : Int} : (a ≤ n - 1) = (a < n) := propext ⟨fun q => by omega, fun q => by omega⟩
theorem rd_nf {fz : Int → Int → Option Int} {h : HV} {o : Int} (hn : ∀ i, fz o i = none) (i : Int) : rd fz h o i = h o i := by
  unfold rd
  rw [hn i]
/-- an array that may be given up: none of its places is frozen; it is the first one, or made later -/
def NFA (s o k i0 : Int) : Prop := (∀ i, fz1 o i = none) ∧ o % 64 = k ∧ (o = i0 ∨ 13056 ≤ o) ∧ o < 64 * s ∧ 204 ≤ s
def P2 (x : Int) : Prop := x = 256 ∨ x = 512 ∨ x = 1024 ∨ x = 2048 ∨ x = 4096 ∨ x = 8192 ∨ x = 16384 ∨ x = 32768 ∨ x = 65536 ∨ x = 131072 ∨ x = 262144 ∨ x = 524288
theorem P2_two {x : Int} (h : P2 x) (h2 : x ≤ 262144) : P2 (2 * x) := by unfold P2 at *; omega
theorem P2_le {x : Int} (h : P2 x) (h2 : x < 524288) : x ≤ 262144 := by unfold P2 at *; omega
/-- the class's rows of values, as they stand -/
def RW (h : HV) : Prop := NFA (h 0 0) (h 643 0) 32 736 ∧ NFA (h 0 0) (h 643 1) 33 801 ∧ (0 ≤ h 643 2 ∧ h 643 2 ≤ h 643 3 ∧ h 643 3 ≤ 6000) ∧ (h 643 2 + 1 ≤ h (h 643 0) (-1) ∧ 64 ≤ h (h 643 0) (-1) ∧ h (h 643 0) (-1) ≤ 16384) ∧ (256 ≤ h (h 643 1) (-1) ∧ h (h 643 1) (-1) ≤ 524288 ∧ P2 (h (h 643 1) (-1))) ∧ h (h 643 0) 0 = 0 ∧
  (∀ j, 0 ≤ j → j < h 643 2 → h (h 643 0) j ≤ h (h 643 0) (j + 1) ∧ h (h 643 0) (j + 1) ≤ h (h 643 0) j + 64 ∧ h (h 643 0) (j + 1) ≤ h (h 643 1) (-1) ∧ 0 ≤ h (h 643 0) j)
def rwZ (h : HV) (r : Int) : Int := h (h 643 0) (r + 1) - h (h 643 0) r
def rwI (h : HV) (r i : Int) : Int := h (h 643 1) (h (h 643 0) r + i)
theorem RW.z {h : HV} (R : RW h) {r : Int} (h0 : 0 ≤ r) (h1 : r < h 643 2) : 0 ≤ rwZ h r ∧ rwZ h r ≤ 64 := by
  have := R.2.2.2.2.2.2 r h0 h1
  unfold rwZ
  omega
theorem s133 {d : Nat} {h : HV} {Q : Int → HV → Prop}   : Sp fz1 d 133 [(3, 643)] h Q = Q (h 643 3) h := by
  simp (implicitDefEqProofs := false) (disch := omega) only [sp133, b133_0, x_aload0, x_gf_3096, x_ireturn, klp_0, klp_1, klp_2, klp_3, klp_9, KC_0, KC_1, KC_2, KC_3, KC_4, ne_eq, not_false_eq_true, not_true_eq_false, true_and, and_true, and_self, implies_true, eq_self, true_imp_iff, false_implies, Int.reduceEq, Int.reduceNe, Int.reduceMod, Int.reduceMul, Int.reduceAdd, Int.reduceSub, Int.reduceLT, Int.reduceLE, Nat.reduceAdd, Nat.reduceLeDiff, Nat.reduceLT, Nat.reduceSub, reduceIte, wds_n, wds_0, wds_1, wds_2, wds_3, or_true, true_or, or_false, false_or, or_self, false_and, and_false, d_pos, d_s1, d_s2, d_s3, d_s4, d_s5, d_s6, d_s7, d_s8, Classical.not_not, le_sub1, le_T, le_F, lt_T, lt_F, eq_F, w32_T, bz0, bz1, lc_le, lc_ge, lc_lt, lc_gt, lc_eq] <;> first | rfl | (rw [if_pos (by omega)] <;> rfl) | (rw [if_neg (by omega)] <;> rfl) | (exfalso; omega)
theorem s160 {d : Nat} {h : HV} {Q : Int → HV → Prop} {r : Int} (R : RW h) : Sp fz1 d 160 [(3, 643), (0, r)] h Q = Q (if 0 ≤ r ∧ r < h 643 2 then rwZ h r else 0) h := by
  have R0 := R
  obtain ⟨⟨n1, n2, n3, n4, n5⟩, ⟨m1, m2, m3, m4, m5⟩, ⟨b1, b2, b3⟩, ⟨c1, c2, c3⟩, ⟨e1, e2, e3⟩, f1, g1⟩ := R
  have gg := g1 r
  by_cases a1 : r < 0 <;> by_cases a2 : h 643 2 ≤ r <;> (try (exfalso; omega)) <;> simp (implicitDefEqProofs := false) (disch := omega) only [sp160, b160_0, b160_1, b160_2, q160_1, q160_2, x_aload0, x_gf_3075, x_gf_3088, x_goto_2, x_iadd, x_iaload, x_iconst, x_ifCond_lt_1, x_if_icmp_ge_1, x_iload1, x_ireturn, x_isub, klp_0, klp_1, klp_2, klp_3, klp_9, KC_0, KC_1, KC_2, KC_3, KC_4, ne_eq, not_false_eq_true, not_true_eq_false, true_and, and_true, and_self, implies_true, eq_self, true_imp_iff, false_implies, Int.reduceEq, Int.reduceNe, Int.reduceMod, Int.reduceMul, Int.reduceAdd, Int.reduceSub, Int.reduceLT, Int.reduceLE, Nat.reduceAdd, Nat.reduceLeDiff, Nat.reduceLT, Nat.reduceSub, reduceIte, wds_n, wds_0, wds_1, wds_2, wds_3, or_true, true_or, or_false, false_or, or_self, false_and, and_false, d_pos, d_s1, d_s2, d_s3, d_s4, d_s5, d_s6, d_s7, d_s8, Classical.not_not, rd_nf n1, rd_nf m1, n2, m2, rwZ, a1, a2, le_sub1, le_T, le_F, lt_T, lt_F, eq_F, w32_T, bz0, bz1, lc_le, lc_ge, lc_lt, lc_gt, lc_eq] <;> first | rfl | (rw [if_pos (by omega)] <;> rfl) | (rw [if_neg (by omega)] <;> rfl) | (exfalso; omega)
theorem s159 {d : Nat} {h : HV} {Q : Int → HV → Prop} {r i : Int} (R : RW h) : Sp fz1 (d + 1) 159 [(3, 643), (0, r), (1, i)] h Q = Q (if 0 ≤ i ∧ (0 ≤ r ∧ r < h 643 2) ∧ i < rwZ h r then 1 else 0) h := by
  by_cases a1 : i < 0 <;> by_cases a2 : 0 ≤ r ∧ r < h 643 2 <;> by_cases a3 : rwZ h r ≤ i <;> (try (exfalso; omega)) <;> simp (implicitDefEqProofs := false) (disch := omega) only [sp159, b159_0, b159_1, b159_2, q159_1, q159_2, x_aload0, x_bipush, y_call160, x_freturn, x_goto_2, x_i2l, x_iconst, x_ifCond_ge_1, x_ifCond_lt_1, x_iload1, x_lcmp, x_lload2, klp_0, klp_1, klp_2, klp_3, klp_9, KC_0, KC_1, KC_2, KC_3, KC_4, ne_eq, not_false_eq_true, not_true_eq_false, true_and, and_true, and_self, implies_true, eq_self, true_imp_iff, false_implies, Int.reduceEq, Int.reduceNe, Int.reduceMod, Int.reduceMul, Int.reduceAdd, Int.reduceSub, Int.reduceLT, Int.reduceLE, Nat.reduceAdd, Nat.reduceLeDiff, Nat.reduceLT, Nat.reduceSub, reduceIte, wds_n, wds_0, wds_1, wds_2, wds_3, or_true, true_or, or_false, false_or, or_self, false_and, and_false, d_pos, d_s1, d_s2, d_s3, d_s4, d_s5, d_s6, d_s7, d_s8, Classical.not_not, s160 R, a1, a2, a3, le_sub1, le_T, le_F, lt_T, lt_F, eq_F, w32_T, bz0, bz1, lc_le, lc_ge, lc_lt, lc_gt, lc_eq] <;> first | rfl | (rw [if_pos (by omega)] <;> rfl) | (rw [if_neg (by omega)] <;> rfl) | (exfalso; omega)
theorem s161 {d : Nat} {h : HV} {Q : Int → HV → Prop} {r i : Int} (R : RW h) : Sp fz1 (d + 2) 161 [(3, 643), (0, r), (0, i)] h Q = Q (if 0 ≤ i ∧ (0 ≤ r ∧ r < h 643 2) ∧ i < rwZ h r then rwI h r i else 0) h := by
  have R0 := R
  obtain ⟨⟨n1, n2, n3, n4, n5⟩, ⟨m1, m2, m3, m4, m5⟩, ⟨b1, b2, b3⟩, ⟨c1, c2, c3⟩, ⟨e1, e2, e3⟩, f1, g1⟩ := R
  have gg := g1 r
  have zz : rwZ h r = h (h 643 0) (r + 1) - h (h 643 0) r := rfl
  by_cases a1 : 0 ≤ i ∧ (0 ≤ r ∧ r < h 643 2) ∧ i < rwZ h r <;> (try (exfalso; omega)) <;> simp (implicitDefEqProofs := false) (disch := omega) only [sp161, b161_0, b161_1, b161_2, q161_1, q161_2, x_aload0, x_bipush, y_call159, x_gf_3075, x_gf_3083, x_goto_2, x_i2l, x_iadd, x_iaload, x_ifCond_eq_1, x_iload1, x_iload2, x_laload, x_lreturn, klp_0, klp_1, klp_2, klp_3, klp_9, KC_0, KC_1, KC_2, KC_3, KC_4, ne_eq, not_false_eq_true, not_true_eq_false, true_and, and_true, and_self, implies_true, eq_self, true_imp_iff, false_implies, Int.reduceEq, Int.reduceNe, Int.reduceMod, Int.reduceMul, Int.reduceAdd, Int.reduceSub, Int.reduceLT, Int.reduceLE, Nat.reduceAdd, Nat.reduceLeDiff, Nat.reduceLT, Nat.reduceSub, reduceIte, wds_n, wds_0, wds_1, wds_2, wds_3, or_true, true_or, or_false, false_or, or_self, false_and, and_false, d_pos, d_s1, d_s2, d_s3, d_s4, d_s5, d_s6, d_s7, d_s8, Classical.not_not, s159 R0, rwI, rd_nf n1, rd_nf m1, n2, m2, a1, le_sub1, le_T, le_F, lt_T, lt_F, eq_F, w32_T, bz0, bz1, lc_le, lc_ge, lc_lt, lc_gt, lc_eq] <;> first | rfl | (rw [if_pos (by omega)] <;> rfl) | (rw [if_neg (by omega)] <;> rfl) | (exfalso; omega)
theorem s162 {d : Nat} {h : HV} {Q : Int → HV → Prop} {r i v : Int} (R : RW h) (hb : 0 ≤ i ∧ (0 ≤ r ∧ r < h 643 2) ∧ i < rwZ h r) : Sp fz1 (d + 2) 162 [(3, 643), (0, r), (0, i), (1, v)] h Q = Q (0) (hset h (h 643 1) (h (h 643 0) r + i) v) := by
  have R0 := R
  obtain ⟨⟨n1, n2, n3, n4, n5⟩, ⟨m1, m2, m3, m4, m5⟩, ⟨b1, b2, b3⟩, ⟨c1, c2, c3⟩, ⟨e1, e2, e3⟩, f1, g1⟩ := R
  have gg := g1 r
  have zz : rwZ h r = h (h 643 0) (r + 1) - h (h 643 0) r := rfl
  simp (implicitDefEqProofs := false) (disch := omega) only [sp162, b162_0, b162_1, q162_1, x_aload0, y_call159, x_gf_3075, x_gf_3083, x_goto_1, x_i2l, x_iadd, x_iaload, x_ifCond_eq_1, x_iload1, x_iload2, x_lastore, x_lload3, x_return, klp_0, klp_1, klp_2, klp_3, klp_9, KC_0, KC_1, KC_2, KC_3, KC_4, ne_eq, not_false_eq_true, not_true_eq_false, true_and, and_true, and_self, implies_true, eq_self, true_imp_iff, false_implies, Int.reduceEq, Int.reduceNe, Int.reduceMod, Int.reduceMul, Int.reduceAdd, Int.reduceSub, Int.reduceLT, Int.reduceLE, Nat.reduceAdd, Nat.reduceLeDiff, Nat.reduceLT, Nat.reduceSub, reduceIte, wds_n, wds_0, wds_1, wds_2, wds_3, or_true, true_or, or_false, false_or, or_self, false_and, and_false, d_pos, d_s1, d_s2, d_s3, d_s4, d_s5, d_s6, d_s7, d_s8, Classical.not_not, s159 R0, hb, rd_nf n1, rd_nf m1, n2, m2, le_sub1, le_T, le_F, lt_T, lt_F, eq_F, w32_T, bz0, bz1, lc_le, lc_ge, lc_lt, lc_gt, lc_eq] <;> first | rfl | (rw [if_pos (by omega)] <;> rfl) | (rw [if_neg (by omega)] <;> rfl) | (exfalso; omega)
theorem acp_v (h : HV) (s sp d dp n a b : Int) : acp h s sp d dp n a b = if a = d ∧ dp ≤ b ∧ b < dp + n then h s (sp + (b - dp)) else h a b := rfl
theorem RW.top {h : HV} (R : RW h) : 0 ≤ h (h 643 0) (h 643 2) ∧ h (h 643 0) (h 643 2) ≤ h (h 643 1) (-1) ∧ h (h 643 0) (h 643 2) ≤ 64 * h 643 2 := by
  obtain ⟨-, -, ⟨b1, b2, b3⟩, -, ⟨e1, e2, e3⟩, f1, g1⟩ := R
  have key : ∀ n : Nat, (n : Int) ≤ h 643 2 → 0 ≤ h (h 643 0) n ∧ h (h 643 0) n ≤ h (h 643 1) (-1) ∧ h (h 643 0) n ≤ 64 * n := by
    intro n
    induction n with
    | zero => intro _; rw [show ((0 : Nat) : Int) = 0 from rfl, f1]; omega
    | succ n ih =>
      intro hn
      have := ih (by omega)
      have := g1 n (by omega) (by omega)
      rw [show ((n + 1 : Nat) : Int) = (n : Int) + 1 by omega]
      omega
  have := key (h 643 2).toNat (by omega)
  rw [show (((h 643 2).toNat : Nat) : Int) = h 643 2 by omega] at this
  exact this
/-- an array of twice the length -/
def grw (h : HV) (a k : Int) : HV := acp (alc h k (2 * h a (-1)) (2 * h a (-1))) a 0 (64 * h 0 0 + k) 0 (h a (-1))
theorem grw_old {h : HV} {a k o : Int} (ho : o ≠ 64 * h 0 0 + k) (h0 : o ≠ 0) : grw h a k o = h o := by
  funext i
  unfold grw
  rw [acp_v, if_neg (fun q => ho q.1), alc_v, if_neg ho, if_neg (fun q => h0 q.1), if_neg (fun q => h0 q.1)]
theorem grw_new {h : HV} {a k i : Int} (ha : a ≠ 64 * h 0 0 + k) (ha0 : a ≠ 0) : grw h a k (64 * h 0 0 + k) i = if 0 ≤ i ∧ i < h a (-1) then h a i else if i = -1 then 2 * h a (-1) else 0 := by
  unfold grw
  rw [acp_v]
  split
  · rename_i hc
    rw [if_pos (by omega), alc_v, if_neg ha, if_neg (fun q => ha0 q.1), if_neg (fun q => ha0 q.1), show (0 : Int) + (i - 0) = i by omega]
  · rename_i hc
    rw [if_neg (by omega), alc_v, if_pos rfl]
theorem grw_c0 {h : HV} {a k : Int} (hk : 0 < 64 * h 0 0 + k) : grw h a k 0 0 = h 0 0 + 1 := by
  unfold grw
  rw [acp_v, if_neg (by omega), alc_v, if_neg (by omega), if_pos ⟨rfl, rfl⟩]
theorem grw_c1 {h : HV} {a k : Int} (hk : 0 < 64 * h 0 0 + k) : grw h a k 0 1 = h 0 1 + 2 * h a (-1) := by
  unfold grw
  rw [acp_v, if_neg (by omega), alc_v, if_neg (by omega), if_neg (by omega), if_pos ⟨rfl, rfl⟩]
theorem s154 {d : Nat} {h : HV} {Q : Int → HV → Prop} {a i0 n : Int} (hn : n = h a (-1) * 2) (A : NFA (h 0 0) a 32 i0) (hi : 64 ≤ i0) (hl : 1 ≤ h a (-1) ∧ h a (-1) ≤ 16384) : Sp fz1 d 154 [(3, a), (0, n)] h Q = Q (64 * h 0 0 + 32) (grw h a 32) := by
  obtain ⟨n1, n2, n3, n4, n5⟩ := A
  have f1 : ∀ i, fz1 (64 * h 0 0 + 32) i = none := fun i => fz1_new (by omega)
  have g0 : alc h 32 n n a = h a := by
    funext i
    rw [alc_v, if_neg (by omega), if_neg (by omega), if_neg (by omega)]
  have g1 : alc h 32 n n (64 * h 0 0 + 32) (-1) = n := by rw [alc_v, if_pos rfl, if_pos rfl]
  have e1 : min (h a (-1)) n = h a (-1) := by omega
  have e2 : (64 * h 0 0 + 32) % 64 = 32 := by omega
  have e3 : (a = 64 * h 0 0 + 32) = False := eq_false (by omega)
  have e4 : (h a (-1) = n) = False := eq_false (by omega)
  have e5 : (n = h a (-1)) = False := eq_false (by omega)
  simp (implicitDefEqProofs := false) (disch := omega) only [sp154, b154_0, b154_1, q154_1, x_acp, x_alen, x_aload0, x_aload2, x_areturn, x_astore2, x_iconst, x_if_icmp_ne_1, x_iload1, x_imin, x_new_32, klp_0, klp_1, klp_2, klp_3, klp_9, KC_0, KC_1, KC_2, KC_3, KC_4, ne_eq, not_false_eq_true, not_true_eq_false, true_and, and_true, and_self, implies_true, eq_self, true_imp_iff, false_implies, Int.reduceEq, Int.reduceNe, Int.reduceMod, Int.reduceMul, Int.reduceAdd, Int.reduceSub, Int.reduceLT, Int.reduceLE, Nat.reduceAdd, Nat.reduceLeDiff, Nat.reduceLT, Nat.reduceSub, reduceIte, wds_n, wds_0, wds_1, wds_2, wds_3, or_true, true_or, or_false, false_or, or_self, false_and, and_false, d_pos, d_s1, d_s2, d_s3, d_s4, d_s5, d_s6, d_s7, d_s8, Classical.not_not, rd_nf n1, rd_nf f1, n2, g0, g1, e1, e2, e3, e4, e5, f1, akd, le_T, lt_T, lt_F, le_F, Int.zero_add]
  unfold grw
  rw [show 2 * h a (-1) = n by omega]
theorem s155 {d : Nat} {h : HV} {Q : Int → HV → Prop} {a i0 n : Int} (hn : n = h a (-1) * 2) (A : NFA (h 0 0) a 33 i0) (hi : 64 ≤ i0) (hl : 1 ≤ h a (-1) ∧ h a (-1) ≤ 524288) : Sp fz1 d 155 [(3, a), (0, n)] h Q = Q (64 * h 0 0 + 33) (grw h a 33) := by
  obtain ⟨n1, n2, n3, n4, n5⟩ := A
  have f1 : ∀ i, fz1 (64 * h 0 0 + 33) i = none := fun i => fz1_new (by omega)
  have g0 : alc h 33 n n a = h a := by
    funext i
    rw [alc_v, if_neg (by omega), if_neg (by omega), if_neg (by omega)]
  have g1 : alc h 33 n n (64 * h 0 0 + 33) (-1) = n := by rw [alc_v, if_pos rfl, if_pos rfl]
  have e1 : min (h a (-1)) n = h a (-1) := by omega
  have e2 : (64 * h 0 0 + 33) % 64 = 33 := by omega
  have e3 : (a = 64 * h 0 0 + 33) = False := eq_false (by omega)
  have e4 : (h a (-1) = n) = False := eq_false (by omega)
  have e5 : (n = h a (-1)) = False := eq_false (by omega)
  simp (implicitDefEqProofs := false) (disch := omega) only [sp155, b155_0, b155_1, q155_1, x_acp, x_alen, x_aload0, x_aload2, x_areturn, x_astore2, x_iconst, x_if_icmp_ne_1, x_iload1, x_imin, x_new_33, klp_0, klp_1, klp_2, klp_3, klp_9, KC_0, KC_1, KC_2, KC_3, KC_4, ne_eq, not_false_eq_true, not_true_eq_false, true_and, and_true, and_self, implies_true, eq_self, true_imp_iff, false_implies, Int.reduceEq, Int.reduceNe, Int.reduceMod, Int.reduceMul, Int.reduceAdd, Int.reduceSub, Int.reduceLT, Int.reduceLE, Nat.reduceAdd, Nat.reduceLeDiff, Nat.reduceLT, Nat.reduceSub, reduceIte, wds_n, wds_0, wds_1, wds_2, wds_3, or_true, true_or, or_false, false_or, or_self, false_and, and_false, d_pos, d_s1, d_s2, d_s3, d_s4, d_s5, d_s6, d_s7, d_s8, Classical.not_not, rd_nf n1, rd_nf f1, n2, g0, g1, e1, e2, e3, e4, e5, f1, akd, le_T, lt_T, lt_F, le_F, Int.zero_add]
  unfold grw
  rw [show 2 * h a (-1) = n by omega]
/-- room: the lengths of both rows -/
def rm (h : HV) : Int := h (h 643 0) (-1) + h (h 643 1) (-1)
/-- the same rows, perhaps in other arrays -/
def STG (h h' : HV) : Prop := RW h' ∧ h' 643 2 = h 643 2 ∧ h' 643 3 = h 643 3 ∧ (∀ j, 0 ≤ j → j ≤ h 643 2 → h' (h' 643 0) j = h (h 643 0) j) ∧ (∀ i, 0 ≤ i → i < h (h 643 1) (-1) → h' (h' 643 1) i = h (h 643 1) i) ∧
  (∀ o, o ≠ 643 → o ≠ h 643 0 → o ≠ h 643 1 → o < 64 * h 0 0 → o ≠ 0 → h' o = h o) ∧ h 0 0 ≤ h' 0 0 ∧ 64 * (h' 0 0 - h 0 0) ≤ rm h' - rm h ∧ h' 0 1 - h 0 1 ≤ 2 * (rm h' - rm h) ∧ (h' 643 0 = h 643 0 ∨ 64 * h 0 0 ≤ h' 643 0) ∧ (h' 643 1 = h 643 1 ∨ 64 * h 0 0 ≤ h' 643 1) ∧ h (h 643 0) (-1) ≤ h' (h' 643 0) (-1) ∧ h (h 643 1) (-1) ≤ h' (h' 643 1) (-1)
theorem STG.rfl' {h : HV} (R : RW h) : STG h h := ⟨R, rfl, rfl, fun _ _ _ => rfl, fun _ _ _ => rfl, fun _ _ _ _ _ _ => rfl, Int.le_refl _, by omega, by omega, .inl rfl, .inl rfl, Int.le_refl _, Int.le_refl _⟩
theorem STG.tr {h h1 h2 : HV} (A : STG h h1) (B : STG h1 h2) : STG h h2 := by
  obtain ⟨a0, a1, a2, a3, a4, a5, a6, a7, a8, a9, a10, a11, a12⟩ := A
  obtain ⟨b0, b1, b2, b3, b4, b5, b6, b7, b8, b9, b10, b11, b12⟩ := B
  refine ⟨b0, by omega, by omega, fun j h1 h2 => ?_, fun i h1 h2 => ?_, fun o h1 h2 h3 h4 h5 => ?_, by omega, by omega, by omega, by omega, by omega, by omega, by omega⟩
  · rw [b3 j h1 (by omega), a3 j h1 h2]
  · rw [b4 i h1 (by omega), a4 i h1 h2]
  · rw [b5 o h1 (by omega) (by omega) (by omega) h5, a5 o h1 h2 h3 h4 h5]
/-- the starts in an array of twice the length -/
theorem STG_S {h : HV} (R : RW h) (hL : h (h 643 0) (-1) ≤ 8192) : STG h (hset (grw h (h 643 0) 32) 643 0 (64 * h 0 0 + 32)) := by
  have R0 := R
  obtain ⟨⟨n1, n2, n3, n4, n5⟩, ⟨m1, m2, m3, m4, m5⟩, ⟨b1, b2, b3⟩, ⟨c1, c2, c3⟩, ⟨e1, e2, e3⟩, f1, g1⟩ := R
  generalize hN : 64 * h 0 0 + 32 = N
  have x0 : ∀ o, o ≠ 643 → hset (grw h (h 643 0) 32) 643 0 N o = grw h (h 643 0) 32 o := fun o ho => hs_ne ho
  have x1 : ∀ o, o ≠ N → o ≠ 0 → grw h (h 643 0) 32 o = h o := fun o h1 h2 => grw_old (by omega) h2
  have y0 : hset (grw h (h 643 0) 32) 643 0 N 643 0 = N := by rw [hs_eq, if_pos rfl]
  have y : ∀ i, i ≠ 0 → hset (grw h (h 643 0) 32) 643 0 N 643 i = h 643 i := fun i hi => by rw [hs_eq, if_neg hi, x1 643 (by omega) (by decide)]
  have z0 : hset (grw h (h 643 0) 32) 643 0 N 0 0 = h 0 0 + 1 := by rw [x0 0 (by decide), grw_c0 (by omega)]
  have z1 : hset (grw h (h 643 0) 32) 643 0 N 0 1 = h 0 1 + 2 * h (h 643 0) (-1) := by rw [x0 0 (by decide), grw_c1 (by omega)]
  have w : ∀ i, hset (grw h (h 643 0) 32) 643 0 N N i = if 0 ≤ i ∧ i < h (h 643 0) (-1) then h (h 643 0) i else if i = -1 then 2 * h (h 643 0) (-1) else 0 := fun i => by
    rw [x0 N (by omega), ← hN, grw_new (by omega) (by omega)]
  have wl := w (-1)
  rw [if_neg (by omega), if_pos rfl] at wl
  have wj : ∀ j, 0 ≤ j → j ≤ h 643 2 → hset (grw h (h 643 0) 32) 643 0 N N j = h (h 643 0) j := fun j h1 h2 => by rw [w, if_pos (by omega)]
  have vI : hset (grw h (h 643 0) 32) 643 0 N (h 643 1) = h (h 643 1) := by rw [x0 _ (by omega), x1 _ (by omega) (by omega)]
  refine ⟨⟨?_, ?_, ?_, ?_, ?_, ?_, fun j j1 j2 => ?_⟩, y 2 (by decide), y 3 (by decide), fun j h1 h2 => by rw [y0]; exact wj j h1 h2, fun i _ _ => by rw [y 1 (by decide), vI], fun o h1 h2 h3 h4 h5 => by rw [x0 o h1, x1 o (by omega) h5], by rw [z0]; omega, ?_, ?_, ?_, ?_, ?_, ?_⟩
  · rw [y0, z0]
    exact ⟨fun i => fz1_new (by omega), by omega, .inr (by omega), by omega, by omega⟩
  · rw [y 1 (by decide), z0]
    exact ⟨m1, m2, m3, by omega, by omega⟩
  · rw [y 2 (by decide), y 3 (by decide)]
    exact ⟨b1, b2, b3⟩
  · rw [y0, y 2 (by decide), wl]; omega
  · rw [y 1 (by decide), vI]; exact ⟨e1, e2, e3⟩
  · rw [y0, wj 0 (by omega) (by omega)]; exact f1
  · rw [y 2 (by decide)] at j2
    rw [y0, y 1 (by decide), vI, wj j j1 (by omega), wj (j + 1) (by omega) (by omega)]
    exact g1 j j1 j2
  · unfold rm; rw [z0, y0, y 1 (by decide), vI, wl]; omega
  · unfold rm; rw [z1, y0, y 1 (by decide), vI, wl]; omega
  · rw [y0]; exact .inr (by omega)
  · rw [y 1 (by decide)]; exact .inl rfl
  · rw [y0, wl]; omega
  · rw [y 1 (by decide), vI]; exact Int.le_refl _
theorem STG_I {h : HV} (R : RW h) (hL : h (h 643 1) (-1) ≤ 262144) : STG h (hset (grw h (h 643 1) 33) 643 1 (64 * h 0 0 + 33)) := by
  obtain ⟨⟨n1, n2, n3, n4, n5⟩, ⟨m1, m2, m3, m4, m5⟩, ⟨b1, b2, b3⟩, ⟨c1, c2, c3⟩, ⟨e1, e2, e3⟩, f1, g1⟩ := R
  generalize hN : 64 * h 0 0 + 33 = N
  have x0 : ∀ o, o ≠ 643 → hset (grw h (h 643 1) 33) 643 1 N o = grw h (h 643 1) 33 o := fun o ho => hs_ne ho
  have x1 : ∀ o, o ≠ N → o ≠ 0 → grw h (h 643 1) 33 o = h o := fun o h1 h2 => grw_old (by omega) h2
  have y0 : hset (grw h (h 643 1) 33) 643 1 N 643 1 = N := by rw [hs_eq, if_pos rfl]
  have y : ∀ i, i ≠ 1 → hset (grw h (h 643 1) 33) 643 1 N 643 i = h 643 i := fun i hi => by rw [hs_eq, if_neg hi, x1 643 (by omega) (by decide)]
  have z0 : hset (grw h (h 643 1) 33) 643 1 N 0 0 = h 0 0 + 1 := by rw [x0 0 (by decide), grw_c0 (by omega)]
  have z1 : hset (grw h (h 643 1) 33) 643 1 N 0 1 = h 0 1 + 2 * h (h 643 1) (-1) := by rw [x0 0 (by decide), grw_c1 (by omega)]
  have w : ∀ i, hset (grw h (h 643 1) 33) 643 1 N N i = if 0 ≤ i ∧ i < h (h 643 1) (-1) then h (h 643 1) i else if i = -1 then 2 * h (h 643 1) (-1) else 0 := fun i => by
    rw [x0 N (by omega), ← hN, grw_new (by omega) (by omega)]
  have wl := w (-1)
  rw [if_neg (by omega), if_pos rfl] at wl
  have vS : hset (grw h (h 643 1) 33) 643 1 N (h 643 0) = h (h 643 0) := by rw [x0 _ (by omega), x1 _ (by omega) (by omega)]
  refine ⟨⟨?_, ?_, ?_, ?_, ?_, ?_, fun j j1 j2 => ?_⟩, y 2 (by decide), y 3 (by decide), fun j _ _ => by rw [y 0 (by decide), vS], fun i h1 h2 => by rw [y0, w, if_pos ⟨h1, h2⟩], fun o h1 h2 h3 h4 h5 => by rw [x0 o h1, x1 o (by omega) h5], by rw [z0]; omega, ?_, ?_, ?_, ?_, ?_, ?_⟩
  · rw [y 0 (by decide), z0]
    exact ⟨n1, n2, n3, by omega, by omega⟩
  · rw [y0, z0]
    exact ⟨fun i => fz1_new (by omega), by omega, .inr (by omega), by omega, by omega⟩
  · rw [y 2 (by decide), y 3 (by decide)]
    exact ⟨b1, b2, b3⟩
  · rw [y 0 (by decide), vS, y 2 (by decide)]; exact ⟨c1, c2, c3⟩
  · rw [y0, wl]; exact ⟨by omega, by omega, P2_two e3 hL⟩
  · rw [y 0 (by decide), vS]; exact f1
  · rw [y 2 (by decide)] at j2
    rw [y 0 (by decide), y0, vS, wl]
    have := g1 j j1 j2
    omega
  · unfold rm; rw [z0, y0, y 0 (by decide), vS, wl]; omega
  · unfold rm; rw [z1, y0, y 0 (by decide), vS, wl]; omega
  · rw [y 0 (by decide)]; exact .inl rfl
  · rw [y0]; exact .inr (by omega)
  · rw [y 0 (by decide), vS]; exact Int.le_refl _
  · rw [y0, wl]; omega
/-- a new row behind the others -/
def MK (h h1 : HV) (n v : Int) : Prop := RW h1 ∧ h1 643 2 = h 643 2 + 1 ∧ h1 643 3 = h 643 3 + 1 ∧ (∀ r, 0 ≤ r → r < h 643 2 → rwZ h1 r = rwZ h r ∧ ∀ i, 0 ≤ i → i < rwZ h r → rwI h1 r i = rwI h r i) ∧ rwZ h1 (h 643 2) = n ∧ (∀ i, 0 ≤ i → i < n → rwI h1 (h 643 2) i = v) ∧
  (∀ o, o ≠ 643 → o ≠ h 643 0 → o ≠ h 643 1 → o < 64 * h 0 0 → o ≠ 0 → h1 o = h o) ∧ h 0 0 ≤ h1 0 0 ∧ 64 * (h1 0 0 - h 0 0) ≤ rm h1 - rm h ∧ h1 0 1 - h 0 1 ≤ 2 * (rm h1 - rm h) ∧ (h1 643 0 = h 643 0 ∨ 64 * h 0 0 ≤ h1 643 0) ∧ (h1 643 1 = h 643 1 ∨ 64 * h 0 0 ≤ h1 643 1)
/-- places s .. s + n - 1 of a filled with v -/
def filR (h : HV) (a s n v : Int) : HV := fun o i => if o = a ∧ s ≤ i ∧ i < s + n then v else h o i
theorem filR_0 (h : HV) (a s v : Int) : filR h a s 0 v = h := by
  funext o i
  unfold filR
  rw [if_neg (by omega)]
theorem filR_s (h : HV) {a s j v : Int} (hj : 0 ≤ j) : hset (filR h a s j v) a (s + j) v = filR h a s (j + 1) v := by
  funext o i
  unfold hset filR
  by_cases h1 : o = a ∧ i = s + j
  · rw [if_pos h1, if_pos (by omega)]
  · rw [if_neg h1]
    by_cases h2 : o = a ∧ s ≤ i ∧ i < s + j
    · rw [if_pos h2, if_pos (by omega)]
    · rw [if_neg h2, if_neg (by omega)]
theorem filR_v (h : HV) (a s n v o i : Int) : filR h a s n v o i = if o = a ∧ s ≤ i ∧ i < s + n then v else h o i := rfl
theorem filR_ne {h : HV} {a s n v o : Int} (ho : o ≠ a) : filR h a s n v o = h o := by
  funext i
  rw [filR_v, if_neg (fun q => ho q.1)]
theorem s153f {d : Nat} {h : HV} {Q : Int → HV → Prop} {n v : Int} (hf : 6000 ≤ h 643 3 ∨ n < 0 ∨ 64 < n) : Sp fz1 (d + 1) 153 [(3, 643), (0, n), (1, v)] h Q = Q (-1) h := by
  by_cases a1 : 6000 ≤ h 643 3
  · simp (implicitDefEqProofs := false) (disch := omega) only [sp153, b153_0, b153_1, b153_2, b153_3, b153_4, b153_5, b153_6, q153_1, q153_2, q153_6, x_alen, x_aload0, y_call154, y_call155, x_dup0, x_dup3, x_gf_3075, x_gf_3083, x_gf_3088, x_gf_3096, x_goto_1, x_goto_3, x_goto_4, x_goto_5, x_iadd, x_iaload, x_iastore, x_iconst, x_ifCond_lt_1, x_if_icmp_ge_1, x_if_icmp_ge_6, x_if_icmp_le_2, x_if_icmp_le_3, x_if_icmp_le_4, x_iinc5, x_iload1, x_iload4, x_iload5, x_imul, x_ireturn, x_istore4, x_istore5, x_isub, x_lastore, x_lload2, x_pf_3075, x_pf_3083, x_pf_3088, x_pf_3096, klp_0, klp_1, klp_2, klp_3, klp_9, KC_0, KC_1, KC_2, KC_3, KC_4, ne_eq, not_false_eq_true, not_true_eq_false, true_and, and_true, and_self, implies_true, eq_self, true_imp_iff, false_implies, Int.reduceEq, Int.reduceNe, Int.reduceMod, Int.reduceMul, Int.reduceAdd, Int.reduceSub, Int.reduceLT, Int.reduceLE, Nat.reduceAdd, Nat.reduceLeDiff, Nat.reduceLT, Nat.reduceSub, reduceIte, wds_n, wds_0, wds_1, wds_2, wds_3, or_true, true_or, or_false, false_or, or_self, false_and, and_false, d_pos, d_s1, d_s2, d_s3, d_s4, d_s5, d_s6, d_s7, d_s8, Classical.not_not, le_T, le_F, lt_T, lt_F]
  · by_cases a2 : n < 0
    · simp (implicitDefEqProofs := false) (disch := omega) only [sp153, b153_0, b153_1, b153_2, b153_3, b153_4, b153_5, b153_6, q153_1, q153_2, q153_6, x_alen, x_aload0, y_call154, y_call155, x_dup0, x_dup3, x_gf_3075, x_gf_3083, x_gf_3088, x_gf_3096, x_goto_1, x_goto_3, x_goto_4, x_goto_5, x_iadd, x_iaload, x_iastore, x_iconst, x_ifCond_lt_1, x_if_icmp_ge_1, x_if_icmp_ge_6, x_if_icmp_le_2, x_if_icmp_le_3, x_if_icmp_le_4, x_iinc5, x_iload1, x_iload4, x_iload5, x_imul, x_ireturn, x_istore4, x_istore5, x_isub, x_lastore, x_lload2, x_pf_3075, x_pf_3083, x_pf_3088, x_pf_3096, klp_0, klp_1, klp_2, klp_3, klp_9, KC_0, KC_1, KC_2, KC_3, KC_4, ne_eq, not_false_eq_true, not_true_eq_false, true_and, and_true, and_self, implies_true, eq_self, true_imp_iff, false_implies, Int.reduceEq, Int.reduceNe, Int.reduceMod, Int.reduceMul, Int.reduceAdd, Int.reduceSub, Int.reduceLT, Int.reduceLE, Nat.reduceAdd, Nat.reduceLeDiff, Nat.reduceLT, Nat.reduceSub, reduceIte, wds_n, wds_0, wds_1, wds_2, wds_3, or_true, true_or, or_false, false_or, or_self, false_and, and_false, d_pos, d_s1, d_s2, d_s3, d_s4, d_s5, d_s6, d_s7, d_s8, Classical.not_not, le_T, le_F, lt_T, lt_F]
    · simp (implicitDefEqProofs := false) (disch := omega) only [sp153, b153_0, b153_1, b153_2, b153_3, b153_4, b153_5, b153_6, q153_1, q153_2, q153_6, x_alen, x_aload0, y_call154, y_call155, x_dup0, x_dup3, x_gf_3075, x_gf_3083, x_gf_3088, x_gf_3096, x_goto_1, x_goto_3, x_goto_4, x_goto_5, x_iadd, x_iaload, x_iastore, x_iconst, x_ifCond_lt_1, x_if_icmp_ge_1, x_if_icmp_ge_6, x_if_icmp_le_2, x_if_icmp_le_3, x_if_icmp_le_4, x_iinc5, x_iload1, x_iload4, x_iload5, x_imul, x_ireturn, x_istore4, x_istore5, x_isub, x_lastore, x_lload2, x_pf_3075, x_pf_3083, x_pf_3088, x_pf_3096, klp_0, klp_1, klp_2, klp_3, klp_9, KC_0, KC_1, KC_2, KC_3, KC_4, ne_eq, not_false_eq_true, not_true_eq_false, true_and, and_true, and_self, implies_true, eq_self, true_imp_iff, false_implies, Int.reduceEq, Int.reduceNe, Int.reduceMod, Int.reduceMul, Int.reduceAdd, Int.reduceSub, Int.reduceLT, Int.reduceLE, Nat.reduceAdd, Nat.reduceLeDiff, Nat.reduceLT, Nat.reduceSub, reduceIte, wds_n, wds_0, wds_1, wds_2, wds_3, or_true, true_or, or_false, false_or, or_self, false_and, and_false, d_pos, d_s1, d_s2, d_s3, d_s4, d_s5, d_s6, d_s7, d_s8, Classical.not_not, le_T, le_F, lt_T, lt_F]
theorem mk_MK {h h2 : HV} {n v : Int} (R : RW h) (S : STG h h2) (hn : 0 ≤ n ∧ n ≤ 64) (hm : h 643 3 < 6000) (hlS : h 643 2 + 2 ≤ h2 (h2 643 0) (-1)) (hlI : h (h 643 0) (h 643 2) + n ≤ h2 (h2 643 1) (-1)) :
    MK h (hset (hset (hset (filR h2 (h2 643 1) (h (h 643 0) (h 643 2)) n v) 643 3 (h2 643 3 + 1)) 643 2 (h2 643 2 + 1)) (h2 643 0) (h2 643 2 + 1) (h (h 643 0) (h 643 2) + n)) n v := by
  have T := R.top
  have R0 := R
  obtain ⟨s0, s1, s2, s3, s4, s5, s6, s7, s8, s9, s10, s11, s12⟩ := S
  obtain ⟨⟨n1, n2, n3, n4, n5⟩, ⟨m1, m2, m3, m4, m5⟩, ⟨b1, b2, b3⟩, ⟨c1, c2, c3⟩, ⟨e1, e2, e3⟩, f1, g1⟩ := s0
  have hz := s3 (h 643 2) (by omega) (Int.le_refl _)
  generalize hst : h (h 643 0) (h 643 2) = st at *
  generalize hX : hset (hset (hset (filR h2 (h2 643 1) st n v) 643 3 (h2 643 3 + 1)) 643 2 (h2 643 2 + 1)) (h2 643 0) (h2 643 2 + 1) (st + n) = X
  have x : ∀ o i, X o i = if o = h2 643 0 ∧ i = h2 643 2 + 1 then st + n else if o = 643 ∧ i = 2 then h2 643 2 + 1 else if o = 643 ∧ i = 3 then h2 643 3 + 1 else if o = h2 643 1 ∧ st ≤ i ∧ i < st + n then v else h2 o i := fun o i => by rw [← hX]; rfl
  have a0 : X 643 0 = h2 643 0 := by rw [x, if_neg (by omega), if_neg (by omega), if_neg (by omega), if_neg (by omega)]
  have a1 : X 643 1 = h2 643 1 := by rw [x, if_neg (by omega), if_neg (by omega), if_neg (by omega), if_neg (by omega)]
  have a2 : X 643 2 = h2 643 2 + 1 := by rw [x, if_neg (by omega), if_pos ⟨rfl, rfl⟩]
  have a3 : X 643 3 = h2 643 3 + 1 := by rw [x, if_neg (by omega), if_neg (by omega), if_pos ⟨rfl, rfl⟩]
  have aS : ∀ j, X (h2 643 0) j = if j = h2 643 2 + 1 then st + n else h2 (h2 643 0) j := fun j => by
    rw [x]
    by_cases hj : j = h2 643 2 + 1
    · rw [if_pos ⟨rfl, hj⟩, if_pos hj]
    · rw [if_neg (by omega), if_neg (by omega), if_neg (by omega), if_neg (by omega), if_neg hj]
  have aI : ∀ i, X (h2 643 1) i = if st ≤ i ∧ i < st + n then v else h2 (h2 643 1) i := fun i => by
    rw [x, if_neg (by omega), if_neg (by omega), if_neg (by omega)]
    by_cases hi : st ≤ i ∧ i < st + n
    · rw [if_pos ⟨rfl, hi⟩, if_pos hi]
    · rw [if_neg (fun q => hi q.2), if_neg hi]
  have aO : ∀ o, o ≠ 643 → o ≠ h2 643 0 → o ≠ h2 643 1 → X o = h2 o := fun o o1 o2 o3 => by
    funext i
    rw [x, if_neg (fun q => o2 q.1), if_neg (fun q => o1 q.1), if_neg (fun q => o1 q.1), if_neg (fun q => o3 q.1)]
  have a00 : X 0 = h2 0 := aO 0 (by decide) (by omega) (by omega)
  have eS : ∀ j, 0 ≤ j → j ≤ h 643 2 → X (X 643 0) j = h (h 643 0) j := fun j j1 j2 => by rw [a0, aS, if_neg (by omega), s3 j j1 j2]
  have eT : X (X 643 0) (h 643 2 + 1) = st + n := by rw [a0, aS, if_pos (by omega)]
  have gI : ∀ r, 0 ≤ r → r < h 643 2 → h (h 643 0) (r + 1) ≤ st := fun r r1 r2 => by
    have key : ∀ k : Nat, r + 1 + k ≤ h 643 2 → h (h 643 0) (r + 1) ≤ h (h 643 0) (r + 1 + k) := by
      intro k
      induction k with
      | zero => intro _; rw [show r + 1 + ((0 : Nat) : Int) = r + 1 by omega]; exact Int.le_refl _
      | succ k ih =>
        intro hk
        have i1 := ih (by omega)
        have i2 := R0.2.2.2.2.2.2 (r + 1 + k) (by omega) (by omega)
        rw [show r + 1 + ((k + 1 : Nat) : Int) = r + 1 + k + 1 by omega]
        omega
    have := key (h 643 2 - (r + 1)).toNat (by omega)
    rw [show r + 1 + (((h 643 2 - (r + 1)).toNat : Nat) : Int) = h 643 2 by omega, hst] at this
    exact this
  have zr : ∀ r, 0 ≤ r → r < h 643 2 → rwZ X r = rwZ h r := fun r r1 r2 => by
    unfold rwZ
    rw [eS r r1 (by omega), eS (r + 1) (by omega) (by omega)]
  refine ⟨⟨?_, ?_, ?_, ?_, ?_, ?_, fun j j1 j2 => ?_⟩, by rw [a2, s1], by rw [a3, s2], fun r r1 r2 => ⟨zr r r1 r2, fun i i1 i2 => ?_⟩, ?_, fun i i1 i2 => ?_, fun o o1 o2 o3 o4 o5 => ?_, by rw [a00]; exact s6, ?_, ?_, by rw [a0]; exact s9, by rw [a1]; exact s10⟩
  · rw [a0, a00]; exact ⟨n1, n2, n3, n4, n5⟩
  · rw [a1, a00]; exact ⟨m1, m2, m3, m4, m5⟩
  · rw [a2, a3]; omega
  · rw [a0, a2, aS, if_neg (by omega)]; omega
  · rw [a1, aI, if_neg (by omega)]; exact ⟨e1, e2, e3⟩
  · rw [eS 0 (by omega) (by omega)]; exact R0.2.2.2.2.2.1
  · rw [a2] at j2
    have e3 : X (X 643 1) (-1) = h2 (h2 643 1) (-1) := by rw [a1, aI, if_neg (by omega)]
    rw [e3]
    by_cases hj : j = h 643 2
    · rw [hj, eT, eS _ (by omega) (Int.le_refl _), hst]
      omega
    · rw [eS j j1 (by omega), eS (j + 1) (by omega) (by omega)]
      have := R0.2.2.2.2.2.2 j j1 (by omega)
      omega
  · have i3 := R0.2.2.2.2.2.2 r r1 r2
    have i4 := gI r r1 r2
    have i5 : rwZ h r = h (h 643 0) (r + 1) - h (h 643 0) r := rfl
    unfold rwI
    rw [eS r r1 (by omega), a1, aI, if_neg (by omega), s4 _ (by omega) (by omega)]
  · unfold rwZ
    rw [eT, eS _ (by omega) (Int.le_refl _), hst]
    omega
  · unfold rwI
    rw [eS _ (by omega) (Int.le_refl _), hst, a1, aI, if_pos (by omega)]
  · rw [aO o o1 (by omega) (by omega), s5 o o1 o2 o3 o4 o5]
  · have : rm X = rm h2 := by unfold rm; rw [a0, a1, aS, if_neg (by omega), aI, if_neg (by omega)]
    rw [a00, this]; exact s7
  · have : rm X = rm h2 := by unfold rm; rw [a0, a1, aS, if_neg (by omega), aI, if_neg (by omega)]
    rw [a00, this]; exact s8
/-- the row put there -/
theorem mk_end {d : Nat} {h h2 : HV} {Q : Int → HV → Prop} {n v : Int} (R : RW h) (S : STG h h2) (hn : 0 ≤ n ∧ n ≤ 64) (hm : h 643 3 < 6000) (hlS : h 643 2 + 2 ≤ h2 (h2 643 0) (-1)) (hlI : h (h 643 0) (h 643 2) + n ≤ h2 (h2 643 1) (-1)) (hQ : ∀ h1, MK h h1 n v → Q (h 643 2) h1) :
    G fz1 (d + 1) 153 5 [(3, 643), (0, n), (1, v), (9, 0), (0, h (h 643 0) (h 643 2)), (0, h (h 643 0) (h 643 2))] [] h2 Q := by
  have T := R.top
  obtain ⟨s0, s1, s2, s3, s4, s5, s6, s7, s8, s9, s10, s11, s12⟩ := S
  have R2 := s0
  obtain ⟨⟨n1, n2, n3, n4, n5⟩, ⟨m1, m2, m3, m4, m5⟩, ⟨b1, b2, b3⟩, ⟨c1, c2, c3⟩, ⟨e1, e2, e3⟩, f1, g1⟩ := s0
  have hb : 0 ≤ h 643 2 ∧ h 643 2 ≤ 6000 := by omega
  generalize hst : h (h 643 0) (h 643 2) = st at *
  refine forG (N := n.toNat) (I := fun j ls h' => ls = [(3, 643), (0, n), (1, v), (9, 0), (0, st), (0, st + j)] ∧ h' = filR h2 (h2 643 1) st j v) ?_ ?_ (j := 0) (Nat.zero_le _) ⟨by simp, (filR_0 _ _ _ _).symm⟩
  · rintro j ls h' hj ⟨rfl, rfl⟩ nx
    have q1 : filR h2 (h2 643 1) st (j : Int) v 643 = h2 643 := filR_ne (by omega)
    have q2 : filR h2 (h2 643 1) st (j : Int) v (h2 643 1) (-1) = h2 (h2 643 1) (-1) := by rw [filR_v, if_neg (by omega)]
    refine G_in ?_
    simp (implicitDefEqProofs := false) (disch := omega) only [b153_5, x_aload0, x_gf_3083, x_goto_5, x_iadd, x_if_icmp_ge_6, x_iinc5, x_iload1, x_iload4, x_iload5, x_lastore, x_lload2, klp_0, klp_1, klp_2, klp_3, klp_9, KC_0, KC_1, KC_2, KC_3, KC_4, ne_eq, not_false_eq_true, not_true_eq_false, true_and, and_true, and_self, implies_true, eq_self, true_imp_iff, false_implies, Int.reduceEq, Int.reduceNe, Int.reduceMod, Int.reduceMul, Int.reduceAdd, Int.reduceSub, Int.reduceLT, Int.reduceLE, Nat.reduceAdd, Nat.reduceLeDiff, Nat.reduceLT, Nat.reduceSub, reduceIte, wds_n, wds_0, wds_1, wds_2, wds_3, or_true, true_or, or_false, false_or, or_self, false_and, and_false, d_pos, d_s1, d_s2, d_s3, d_s4, d_s5, d_s6, d_s7, d_s8, Classical.not_not, q1, rd_nf m1, q2, m2, le_T, le_F, lt_T, lt_F, w32_T]
    refine nx _ _ ⟨?_, filR_s h2 (by omega)⟩
    rw [show ((j + 1 : Nat) : Int) = (j : Int) + 1 by omega, Int.add_assoc]
  · rintro ls h' ⟨rfl, rfl⟩
    rw [show ((n.toNat : Nat) : Int) = n by omega]
    have q1 : filR h2 (h2 643 1) st n v 643 = h2 643 := filR_ne (by omega)
    have q3 : filR h2 (h2 643 1) st n v (h2 643 0) = h2 (h2 643 0) := filR_ne (by omega)
    refine G_in ?_
    have k1 : ∀ x, rd fz1 (hset (hset (filR h2 (h2 643 1) st n v) 643 3 (h2 643 3 + 1)) 643 2 x) (h2 643 0) (-1) = h2 (h2 643 0) (-1) := fun x => by
      rw [rd_nf n1, hs_ne (by omega), hs_ne (by omega), q3]
    simp (implicitDefEqProofs := false) (disch := omega) only [b153_5, b153_6, q153_6, x_aload0, x_dup0, x_dup3, x_gf_3075, x_gf_3083, x_gf_3088, x_gf_3096, x_goto_5, x_iadd, x_iastore, x_iconst, x_if_icmp_ge_6, x_iinc5, x_iload1, x_iload4, x_iload5, x_ireturn, x_isub, x_lastore, x_lload2, x_pf_3088, x_pf_3096, klp_0, klp_1, klp_2, klp_3, klp_9, KC_0, KC_1, KC_2, KC_3, KC_4, ne_eq, not_false_eq_true, not_true_eq_false, true_and, and_true, and_self, implies_true, eq_self, true_imp_iff, false_implies, Int.reduceEq, Int.reduceNe, Int.reduceMod, Int.reduceMul, Int.reduceAdd, Int.reduceSub, Int.reduceLT, Int.reduceLE, Nat.reduceAdd, Nat.reduceLeDiff, Nat.reduceLT, Nat.reduceSub, reduceIte, wds_n, wds_0, wds_1, wds_2, wds_3, or_true, true_or, or_false, false_or, or_self, false_and, and_false, d_pos, d_s1, d_s2, d_s3, d_s4, d_s5, d_s6, d_s7, d_s8, Classical.not_not, q1, q3, k1, hset_v, rd_nf n1, n2, le_T, le_F, lt_T, lt_F, w32_T, eq_F]
    have := hQ _ (mk_MK R ⟨⟨⟨n1, n2, n3, n4, n5⟩, ⟨m1, m2, m3, m4, m5⟩, ⟨b1, b2, b3⟩, ⟨c1, c2, c3⟩, ⟨e1, e2, e3⟩, f1, g1⟩, s1, s2, s3, s4, s5, s6, s7, s8, s9, s10, s11, s12⟩ hn hm hlS (by rw [hst]; exact hlI))
    rw [hst] at this
    rw [show h2 643 2 + 1 - 1 = h 643 2 by omega]
    exact this
theorem s153 {d : Nat} {h : HV} {Q : Int → HV → Prop} {n v : Int} (R : RW h) (hn : 0 ≤ n ∧ n ≤ 64) (hm : h 643 3 < 6000) (hQ : ∀ h1, MK h h1 n v → Q (h 643 2) h1) : Sp fz1 (d + 1) 153 [(3, 643), (0, n), (1, v)] h Q := by
  have T := R.top
  have R0 := R
  obtain ⟨⟨n1, n2, n3, n4, n5⟩, ⟨m1, m2, m3, m4, m5⟩, ⟨b1, b2, b3⟩, ⟨c1, c2, c3⟩, ⟨e1, e2, e3⟩, f1, g1⟩ := R
  have AS : NFA (h 0 0) (h 643 0) 32 736 := ⟨n1, n2, n3, n4, n5⟩
  -- behind the growing of the starts
  have st3 : ∀ h2, STG h h2 → h 643 2 + 2 ≤ h2 (h2 643 0) (-1) → h2 (h2 643 1) (-1) = h (h 643 1) (-1) → G fz1 (d + 1) 153 3 [(3, 643), (0, n), (1, v), (9, 0), (9, 0), (9, 0)] [] h2 Q := by
    intro h2 S hl hI
    have S0 := S
    obtain ⟨s0, s1, s2, s3, s4, s5, s6, s7, s8, s9, s10, s11, s12⟩ := S
    have R2 := s0
    have hz := s3 (h 643 2) (by omega) (Int.le_refl _)
    obtain ⟨⟨p1, p2, p3, p4, p5⟩, ⟨q1, q2, q3, q4, q5⟩, ⟨r1, r2, r3⟩, ⟨t1, t2, t3⟩, ⟨u1, u2, u3⟩, v1, w1⟩ := s0
    have AI : NFA (h2 0 0) (h2 643 1) 33 801 := ⟨q1, q2, q3, q4, q5⟩
    have hz2 : h2 (h2 643 0) (h2 643 2) = h (h 643 0) (h 643 2) := by rw [s1]; exact hz
    refine G_in ?_
    by_cases hg : h (h 643 0) (h 643 2) + n ≤ h2 (h2 643 1) (-1)
    · simp (implicitDefEqProofs := false) (disch := omega) only [b153_3, b153_4, q153_3, q153_4, x_alen, x_aload0, y_call155, x_gf_3075, x_gf_3083, x_gf_3088, x_goto_4, x_goto_5, x_iadd, x_iaload, x_iconst, x_if_icmp_le_4, x_iload1, x_iload4, x_imul, x_istore4, x_istore5, x_pf_3083, klp_0, klp_1, klp_2, klp_3, klp_9, KC_0, KC_1, KC_2, KC_3, KC_4, ne_eq, not_false_eq_true, not_true_eq_false, true_and, and_true, and_self, implies_true, eq_self, true_imp_iff, false_implies, Int.reduceEq, Int.reduceNe, Int.reduceMod, Int.reduceMul, Int.reduceAdd, Int.reduceSub, Int.reduceLT, Int.reduceLE, Nat.reduceAdd, Nat.reduceLeDiff, Nat.reduceLT, Nat.reduceSub, reduceIte, wds_n, wds_0, wds_1, wds_2, wds_3, or_true, true_or, or_false, false_or, or_self, false_and, and_false, d_pos, d_s1, d_s2, d_s3, d_s4, d_s5, d_s6, d_s7, d_s8, Classical.not_not, rd_nf p1, rd_nf q1, p2, q2, hz2, le_T, le_F, lt_T, lt_F, w32_T]
      exact mk_end R0 S0 hn hm hl hg hQ
    · have SI := STG_I R2 (P2_le u3 (by omega))
      have S2 := S0.tr SI
      have k0 : hset (grw h2 (h2 643 1) 33) 643 1 (64 * h2 0 0 + 33) 643 1 = 64 * h2 0 0 + 33 := by rw [hs_eq, if_pos rfl]
      have k1 : hset (grw h2 (h2 643 1) 33) 643 1 (64 * h2 0 0 + 33) 643 0 = h2 643 0 := by rw [hs_eq, if_neg (by decide), grw_old (by omega) (by decide)]
      have k2 : hset (grw h2 (h2 643 1) 33) 643 1 (64 * h2 0 0 + 33) (64 * h2 0 0 + 33) (-1) = 2 * h2 (h2 643 1) (-1) := by rw [hs_ne (by omega), grw_new (by omega) (by omega), if_neg (by omega), if_pos rfl]
      have k3 : hset (grw h2 (h2 643 1) 33) 643 1 (64 * h2 0 0 + 33) (h2 643 0) (-1) = h2 (h2 643 0) (-1) := by rw [hs_ne (by omega), grw_old (by omega) (by omega)]
      simp (implicitDefEqProofs := false) (disch := omega) only [b153_3, b153_4, q153_3, q153_4, x_alen, x_aload0, y_call155, x_gf_3075, x_gf_3083, x_gf_3088, x_goto_4, x_goto_5, x_iadd, x_iaload, x_iconst, x_if_icmp_le_4, x_iload1, x_iload4, x_imul, x_istore4, x_istore5, x_pf_3083, klp_0, klp_1, klp_2, klp_3, klp_9, KC_0, KC_1, KC_2, KC_3, KC_4, ne_eq, not_false_eq_true, not_true_eq_false, true_and, and_true, and_self, implies_true, eq_self, true_imp_iff, false_implies, Int.reduceEq, Int.reduceNe, Int.reduceMod, Int.reduceMul, Int.reduceAdd, Int.reduceSub, Int.reduceLT, Int.reduceLE, Nat.reduceAdd, Nat.reduceLeDiff, Nat.reduceLT, Nat.reduceSub, reduceIte, wds_n, wds_0, wds_1, wds_2, wds_3, or_true, true_or, or_false, false_or, or_self, false_and, and_false, d_pos, d_s1, d_s2, d_s3, d_s4, d_s5, d_s6, d_s7, d_s8, Classical.not_not, rd_nf p1, rd_nf q1, p2, q2, hz2, s155 (h := h2) (i0 := 801) (a := h2 643 1) rfl AI (by decide) (by omega), le_T, le_F, lt_T, lt_F, w32_T]
      refine mk_end R0 S2 hn hm ?_ ?_ hQ
      · rw [k1, k3]; exact hl
      · rw [k0, k2]; omega
  by_cases hg : h 643 2 + 2 ≤ h (h 643 0) (-1)
  · simp (implicitDefEqProofs := false) (disch := omega) only [sp153, b153_0, b153_1, b153_2, b153_3, b153_4, b153_5, b153_6, q153_1, q153_2, q153_4, q153_6, x_alen, x_aload0, y_call154, y_call155, x_dup0, x_dup3, x_gf_3075, x_gf_3083, x_gf_3088, x_gf_3096, x_goto_1, x_goto_3, x_goto_4, x_goto_5, x_iadd, x_iaload, x_iastore, x_iconst, x_ifCond_lt_1, x_if_icmp_ge_1, x_if_icmp_ge_6, x_if_icmp_le_2, x_if_icmp_le_3, x_if_icmp_le_4, x_iinc5, x_iload1, x_iload4, x_iload5, x_imul, x_ireturn, x_istore4, x_istore5, x_isub, x_lastore, x_lload2, x_pf_3075, x_pf_3083, x_pf_3088, x_pf_3096, klp_0, klp_1, klp_2, klp_3, klp_9, KC_0, KC_1, KC_2, KC_3, KC_4, ne_eq, not_false_eq_true, not_true_eq_false, true_and, and_true, and_self, implies_true, eq_self, true_imp_iff, false_implies, Int.reduceEq, Int.reduceNe, Int.reduceMod, Int.reduceMul, Int.reduceAdd, Int.reduceSub, Int.reduceLT, Int.reduceLE, Nat.reduceAdd, Nat.reduceLeDiff, Nat.reduceLT, Nat.reduceSub, reduceIte, wds_n, wds_0, wds_1, wds_2, wds_3, or_true, true_or, or_false, false_or, or_self, false_and, and_false, d_pos, d_s1, d_s2, d_s3, d_s4, d_s5, d_s6, d_s7, d_s8, Classical.not_not, rd_nf n1, n2, le_T, le_F, lt_T, lt_F, w32_T]
    exact st3 h (STG.rfl' R0) hg rfl
  · have SS := STG_S R0 (by omega)
    have k0 : hset (grw h (h 643 0) 32) 643 0 (64 * h 0 0 + 32) 643 0 = 64 * h 0 0 + 32 := by rw [hs_eq, if_pos rfl]
    have k1 : hset (grw h (h 643 0) 32) 643 0 (64 * h 0 0 + 32) 643 1 = h 643 1 := by rw [hs_eq, if_neg (by decide), grw_old (by omega) (by decide)]
    have k2 : hset (grw h (h 643 0) 32) 643 0 (64 * h 0 0 + 32) (64 * h 0 0 + 32) (-1) = 2 * h (h 643 0) (-1) := by rw [hs_ne (by omega), grw_new (by omega) (by omega), if_neg (by omega), if_pos rfl]
    have k3 : hset (grw h (h 643 0) 32) 643 0 (64 * h 0 0 + 32) (h 643 1) (-1) = h (h 643 1) (-1) := by rw [hs_ne (by omega), grw_old (by omega) (by omega)]
    simp (implicitDefEqProofs := false) (disch := omega) only [sp153, b153_0, b153_1, b153_2, b153_3, b153_4, b153_5, b153_6, q153_1, q153_2, q153_4, q153_6, x_alen, x_aload0, y_call154, y_call155, x_dup0, x_dup3, x_gf_3075, x_gf_3083, x_gf_3088, x_gf_3096, x_goto_1, x_goto_3, x_goto_4, x_goto_5, x_iadd, x_iaload, x_iastore, x_iconst, x_ifCond_lt_1, x_if_icmp_ge_1, x_if_icmp_ge_6, x_if_icmp_le_2, x_if_icmp_le_3, x_if_icmp_le_4, x_iinc5, x_iload1, x_iload4, x_iload5, x_imul, x_ireturn, x_istore4, x_istore5, x_isub, x_lastore, x_lload2, x_pf_3075, x_pf_3083, x_pf_3088, x_pf_3096, klp_0, klp_1, klp_2, klp_3, klp_9, KC_0, KC_1, KC_2, KC_3, KC_4, ne_eq, not_false_eq_true, not_true_eq_false, true_and, and_true, and_self, implies_true, eq_self, true_imp_iff, false_implies, Int.reduceEq, Int.reduceNe, Int.reduceMod, Int.reduceMul, Int.reduceAdd, Int.reduceSub, Int.reduceLT, Int.reduceLE, Nat.reduceAdd, Nat.reduceLeDiff, Nat.reduceLT, Nat.reduceSub, reduceIte, wds_n, wds_0, wds_1, wds_2, wds_3, or_true, true_or, or_false, false_or, or_self, false_and, and_false, d_pos, d_s1, d_s2, d_s3, d_s4, d_s5, d_s6, d_s7, d_s8, Classical.not_not, rd_nf n1, n2, s154 (h := h) (i0 := 736) (a := h 643 0) rfl AS (by decide) (by omega), le_T, le_F, lt_T, lt_F, w32_T]
    refine st3 _ SS ?_ ?_
    · rw [k0, k2]; omega
    · rw [k1, k3]
/-! the reference -/
theorem s369 {d : Nat} {h : HV} {Q : Int → HV → Prop} {a b c : Int}  : Sp fz1 d 369 [(0, a), (0, b), (0, c)] h Q = Q (if b ≤ a ∧ a ≤ c then 1 else 0) h := by
  by_cases a1 : a < b <;> by_cases a2 : c < a <;> (try (exfalso; omega)) <;> simp (implicitDefEqProofs := false) (disch := omega) only [sp369, b369_0, b369_1, b369_2, q369_1, q369_2, x_freturn, x_goto_2, x_iconst, x_if_icmp_gt_1, x_if_icmp_lt_1, x_iload0, x_iload1, x_iload2, klp_0, klp_1, klp_2, klp_3, klp_9, KC_0, KC_1, KC_2, KC_3, KC_4, ne_eq, not_false_eq_true, not_true_eq_false, true_and, and_true, and_self, implies_true, eq_self, true_imp_iff, false_implies, Int.reduceEq, Int.reduceNe, Int.reduceMod, Int.reduceMul, Int.reduceAdd, Int.reduceSub, Int.reduceLT, Int.reduceLE, Nat.reduceAdd, Nat.reduceLeDiff, Nat.reduceLT, Nat.reduceSub, reduceIte, wds_n, wds_0, wds_1, wds_2, wds_3, or_true, true_or, or_false, false_or, or_self, false_and, and_false, d_pos, d_s1, d_s2, d_s3, d_s4, d_s5, d_s6, d_s7, d_s8, Classical.not_not, a1, a2, le_sub1, le_T, le_F, lt_T, lt_F, eq_F, w32_T, bz0, bz1, lc_le, lc_ge, lc_lt, lc_gt, lc_eq] <;> first | rfl | (rw [if_pos (by omega)] <;> rfl) | (rw [if_neg (by omega)] <;> rfl) | (exfalso; omega)
theorem s372 {d : Nat} {h : HV} {Q : Int → HV → Prop} {a : Int} (hc : 0 ≤ h 6603 25 ∧ h 6603 25 ≤ 24) : Sp fz1 (d + 1) 372 [(3, 6603), (0, a)] h Q = Q (if 0 ≤ a ∧ a < h 6603 25 then 1 else 0) h := by
  by_cases a1 : 0 ≤ a ∧ a < h 6603 25 <;> (try (exfalso; omega)) <;> simp (implicitDefEqProofs := false) (disch := omega) only [sp372, b372_0, x_aload0, y_call369, x_freturn, x_gf_11464, x_iconst, x_iload1, x_isub, klp_0, klp_1, klp_2, klp_3, klp_9, KC_0, KC_1, KC_2, KC_3, KC_4, ne_eq, not_false_eq_true, not_true_eq_false, true_and, and_true, and_self, implies_true, eq_self, true_imp_iff, false_implies, Int.reduceEq, Int.reduceNe, Int.reduceMod, Int.reduceMul, Int.reduceAdd, Int.reduceSub, Int.reduceLT, Int.reduceLE, Nat.reduceAdd, Nat.reduceLeDiff, Nat.reduceLT, Nat.reduceSub, reduceIte, wds_n, wds_0, wds_1, wds_2, wds_3, or_true, true_or, or_false, false_or, or_self, false_and, and_false, d_pos, d_s1, d_s2, d_s3, d_s4, d_s5, d_s6, d_s7, d_s8, Classical.not_not, s369, a1, le_sub1, le_T, le_F, lt_T, lt_F, eq_F, w32_T, bz0, bz1, lc_le, lc_ge, lc_lt, lc_gt, lc_eq] <;> first | rfl | (rw [if_pos (by omega)] <;> rfl) | (rw [if_neg (by omega)] <;> rfl) | (exfalso; omega)
theorem s376 {d : Nat} {h : HV} {Q : Int → HV → Prop} {a : Int} (hS : TR (h 6603 9)) (hc : 0 ≤ h (h 6603 9 + 84) 5 ∧ h (h 6603 9 + 84) 5 ≤ 8) : Sp fz1 (d + 1) 376 [(3, 6603), (0, a)] h Q = Q (if 0 ≤ a ∧ a < h (h 6603 9 + 84) 5 then 1 else 0) h := by
  by_cases a1 : 0 ≤ a ∧ a < h (h 6603 9 + 84) 5 <;> (try (exfalso; omega)) <;> simp (implicitDefEqProofs := false) (disch := omega) only [sp376, b376_0, x_aload0, y_call369, x_freturn, x_gc_12291, x_gf_11339, x_iaload, x_iconst, x_iload1, x_isub, klp_0, klp_1, klp_2, klp_3, klp_9, KC_0, KC_1, KC_2, KC_3, KC_4, ne_eq, not_false_eq_true, not_true_eq_false, true_and, and_true, and_self, implies_true, eq_self, true_imp_iff, false_implies, Int.reduceEq, Int.reduceNe, Int.reduceMod, Int.reduceMul, Int.reduceAdd, Int.reduceSub, Int.reduceLT, Int.reduceLE, Nat.reduceAdd, Nat.reduceLeDiff, Nat.reduceLT, Nat.reduceSub, reduceIte, wds_n, wds_0, wds_1, wds_2, wds_3, or_true, true_or, or_false, false_or, or_self, false_and, and_false, d_pos, d_s1, d_s2, d_s3, d_s4, d_s5, d_s6, d_s7, d_s8, Classical.not_not, r0 hS, r0l hS, r0k hS, TR_0 hS, TR_k hS, s369, a1, le_sub1, le_T, le_F, lt_T, lt_F, eq_F, w32_T, bz0, bz1, lc_le, lc_ge, lc_lt, lc_gt, lc_eq] <;> first | rfl | (rw [if_pos (by omega)] <;> rfl) | (rw [if_neg (by omega)] <;> rfl) | (exfalso; omega)
theorem s381 {d : Nat} {h : HV} {Q : Int → HV → Prop} {a : Int} (hS : TR (h 6603 9)) (hc : 0 ≤ h (h 6603 9 + 84) 6 ∧ h (h 6603 9 + 84) 6 ≤ 12) : Sp fz1 (d + 1) 381 [(3, 6603), (0, a)] h Q = Q (if 0 ≤ a ∧ a < h (h 6603 9 + 84) 6 then 1 else 0) h := by
  by_cases a1 : 0 ≤ a ∧ a < h (h 6603 9 + 84) 6 <;> (try (exfalso; omega)) <;> simp (implicitDefEqProofs := false) (disch := omega) only [sp381, b381_0, x_aload0, y_call369, x_freturn, x_gc_12291, x_gf_11339, x_iaload, x_iconst, x_iload1, x_isub, klp_0, klp_1, klp_2, klp_3, klp_9, KC_0, KC_1, KC_2, KC_3, KC_4, ne_eq, not_false_eq_true, not_true_eq_false, true_and, and_true, and_self, implies_true, eq_self, true_imp_iff, false_implies, Int.reduceEq, Int.reduceNe, Int.reduceMod, Int.reduceMul, Int.reduceAdd, Int.reduceSub, Int.reduceLT, Int.reduceLE, Nat.reduceAdd, Nat.reduceLeDiff, Nat.reduceLT, Nat.reduceSub, reduceIte, wds_n, wds_0, wds_1, wds_2, wds_3, or_true, true_or, or_false, false_or, or_self, false_and, and_false, d_pos, d_s1, d_s2, d_s3, d_s4, d_s5, d_s6, d_s7, d_s8, Classical.not_not, r0 hS, r0l hS, r0k hS, TR_0 hS, TR_k hS, s369, a1, le_sub1, le_T, le_F, lt_T, lt_F, eq_F, w32_T, bz0, bz1, lc_le, lc_ge, lc_lt, lc_gt, lc_eq] <;> first | rfl | (rw [if_pos (by omega)] <;> rfl) | (rw [if_neg (by omega)] <;> rfl) | (exfalso; omega)
theorem s430 {d : Nat} {h : HV} {Q : Int → HV → Prop} {a : Int} (hc : 0 ≤ h 6603 25 ∧ h 6603 25 ≤ 24) : Sp fz1 (d + 2) 430 [(3, 6603), (0, a)] h Q = Q (if (0 ≤ a ∧ a < h 6603 25) ∧ h 10016 a = 0 then 1 else 0) h := by
  by_cases a1 : 0 ≤ a ∧ a < h 6603 25 <;> by_cases a2 : h 10016 a = 0 <;> (try (exfalso; omega)) <;> simp (implicitDefEqProofs := false) (disch := omega) only [sp430, b430_0, b430_1, b430_2, q430_1, q430_2, x_aload0, y_call372, x_freturn, x_gc_11475, x_goto_2, x_iaload, x_iconst, x_ifCond_eq_1, x_ifCond_ne_1, x_iload1, klp_0, klp_1, klp_2, klp_3, klp_9, KC_0, KC_1, KC_2, KC_3, KC_4, ne_eq, not_false_eq_true, not_true_eq_false, true_and, and_true, and_self, implies_true, eq_self, true_imp_iff, false_implies, Int.reduceEq, Int.reduceNe, Int.reduceMod, Int.reduceMul, Int.reduceAdd, Int.reduceSub, Int.reduceLT, Int.reduceLE, Nat.reduceAdd, Nat.reduceLeDiff, Nat.reduceLT, Nat.reduceSub, reduceIte, wds_n, wds_0, wds_1, wds_2, wds_3, or_true, true_or, or_false, false_or, or_self, false_and, and_false, d_pos, d_s1, d_s2, d_s3, d_s4, d_s5, d_s6, d_s7, d_s8, Classical.not_not, z6603_26, z10016_l, s372 hc, a1, a2, le_sub1, le_T, le_F, lt_T, lt_F, eq_F, w32_T, bz0, bz1, lc_le, lc_ge, lc_lt, lc_gt, lc_eq] <;> first | rfl | (rw [if_pos (by omega)] <;> rfl) | (rw [if_neg (by omega)] <;> rfl) | (exfalso; omega)
theorem s394 {d : Nat} {h : HV} {Q : Int → HV → Prop} {a : Int} (ha : a < 24) (ha2 : -9 ≤ a) : Sp fz1 d 394 [(3, 6603), (1, a)] h Q = Q (if 0 ≤ a ∧ 2 ≤ h 10016 a then 1 else 0) h := by
  by_cases a1 : a < 0 <;> by_cases a2 : h 10016 a < 2 <;> (try (exfalso; omega)) <;> simp (implicitDefEqProofs := false) (disch := omega) only [sp394, b394_0, b394_1, b394_2, q394_1, q394_2, x_aload0, x_bipush, x_freturn, x_gc_11475, x_goto_2, x_iaload, x_iconst, x_ifCond_lt_1, x_if_icmp_lt_1, x_l2i, x_lcmp, x_lload1, klp_0, klp_1, klp_2, klp_3, klp_9, KC_0, KC_1, KC_2, KC_3, KC_4, ne_eq, not_false_eq_true, not_true_eq_false, true_and, and_true, and_self, implies_true, eq_self, true_imp_iff, false_implies, Int.reduceEq, Int.reduceNe, Int.reduceMod, Int.reduceMul, Int.reduceAdd, Int.reduceSub, Int.reduceLT, Int.reduceLE, Nat.reduceAdd, Nat.reduceLeDiff, Nat.reduceLT, Nat.reduceSub, reduceIte, wds_n, wds_0, wds_1, wds_2, wds_3, or_true, true_or, or_false, false_or, or_self, false_and, and_false, d_pos, d_s1, d_s2, d_s3, d_s4, d_s5, d_s6, d_s7, d_s8, Classical.not_not, z6603_26, z10016_l, a1, a2, le_sub1, le_T, le_F, lt_T, lt_F, eq_F, w32_T, bz0, bz1, lc_le, lc_ge, lc_lt, lc_gt, lc_eq] <;> first | rfl | (rw [if_pos (by omega)] <;> rfl) | (rw [if_neg (by omega)] <;> rfl) | (exfalso; omega)
theorem s419 {d : Nat} {h : HV} {Q : Int → HV → Prop} {a b c : Int} (hS : TR (h 6603 9)) (hc : 0 ≤ h (h 6603 9 + 84) 2 ∧ h (h 6603 9 + 84) 2 ≤ 10) (hp : 1 ≤ h 6603 65 ∧ h 6603 65 ≤ 4) : Sp fz1 (d + 1) 419 [(3, 6603), (0, a), (0, b), (0, c)] h Q = Q (if (0 ≤ a ∧ a < h (h 6603 9 + 84) 2) ∧ (0 ≤ b ∧ b < 5 * h 6603 65) ∧ (0 ≤ c ∧ c ≤ 1) then 1 else 0) h := by
  by_cases a1 : 0 ≤ a ∧ a < h (h 6603 9 + 84) 2 <;> by_cases a2 : 0 ≤ b ∧ b < 5 * h 6603 65 <;> by_cases a3 : 0 ≤ c ∧ c ≤ 1 <;> (try (exfalso; omega)) <;> simp (implicitDefEqProofs := false) (disch := omega) only [sp419, b419_0, b419_1, b419_2, q419_1, q419_2, x_aload0, y_call369, x_freturn, x_gc_12291, x_gf_11339, x_gf_11784, x_goto_2, x_iaload, x_iconst, x_ifCond_eq_1, x_iload1, x_iload2, x_iload3, x_imul, x_isub, klp_0, klp_1, klp_2, klp_3, klp_9, KC_0, KC_1, KC_2, KC_3, KC_4, ne_eq, not_false_eq_true, not_true_eq_false, true_and, and_true, and_self, implies_true, eq_self, true_imp_iff, false_implies, Int.reduceEq, Int.reduceNe, Int.reduceMod, Int.reduceMul, Int.reduceAdd, Int.reduceSub, Int.reduceLT, Int.reduceLE, Nat.reduceAdd, Nat.reduceLeDiff, Nat.reduceLT, Nat.reduceSub, reduceIte, wds_n, wds_0, wds_1, wds_2, wds_3, or_true, true_or, or_false, false_or, or_self, false_and, and_false, d_pos, d_s1, d_s2, d_s3, d_s4, d_s5, d_s6, d_s7, d_s8, Classical.not_not, r0 hS, r0l hS, r0k hS, TR_0 hS, TR_k hS, s369, a1, a2, a3, le_sub1, le_T, le_F, lt_T, lt_F, eq_F, w32_T, bz0, bz1, lc_le, lc_ge, lc_lt, lc_gt, lc_eq] <;> first | rfl | (rw [if_pos (by omega)] <;> rfl) | (rw [if_neg (by omega)] <;> rfl) | (exfalso; omega)
theorem s434 {d : Nat} {h : HV} {Q : Int → HV → Prop} {p q c : Int} (hp : 0 ≤ p ∧ p < 24) (hq : 0 ≤ q ∧ q < 24) (hc : 0 ≤ c ∧ c < 8) : Sp fz1 d 434 [(3, 6603), (0, p), (0, q), (0, c)] h Q = Q (if h 12512 (8 * p + c) < h 12512 (8 * q + c) ∨ h 12512 (8 * p + c) = h 12512 (8 * q + c) ∧ p < q then 1 else 0) h := by
  by_cases a1 : h 12512 (8 * p + c) < h 12512 (8 * q + c) <;> by_cases a2 : h 12512 (8 * p + c) = h 12512 (8 * q + c) <;> by_cases a3 : q ≤ p <;> (try (exfalso; omega)) <;> simp (implicitDefEqProofs := false) (disch := omega) only [sp434, b434_0, b434_1, b434_2, b434_3, q434_1, q434_2, q434_3, x_aload0, x_freturn, x_gc_11939, x_goto_1, x_goto_3, x_iadd, x_iaload, x_iconst, x_if_icmp_ge_2, x_if_icmp_lt_1, x_if_icmp_ne_2, x_iload1, x_iload2, x_iload3, x_iload4, x_iload5, x_imul, x_istore4, x_istore5, klp_0, klp_1, klp_2, klp_3, klp_9, KC_0, KC_1, KC_2, KC_3, KC_4, ne_eq, not_false_eq_true, not_true_eq_false, true_and, and_true, and_self, implies_true, eq_self, true_imp_iff, false_implies, Int.reduceEq, Int.reduceNe, Int.reduceMod, Int.reduceMul, Int.reduceAdd, Int.reduceSub, Int.reduceLT, Int.reduceLE, Nat.reduceAdd, Nat.reduceLeDiff, Nat.reduceLT, Nat.reduceSub, reduceIte, wds_n, wds_0, wds_1, wds_2, wds_3, or_true, true_or, or_false, false_or, or_self, false_and, and_false, d_pos, d_s1, d_s2, d_s3, d_s4, d_s5, d_s6, d_s7, d_s8, Classical.not_not, z6603_84, z12512_l, a1, a2, a3, le_sub1, le_T, le_F, lt_T, lt_F, eq_F, w32_T, bz0, bz1, lc_le, lc_ge, lc_lt, lc_gt, lc_eq] <;> first | rfl | (rw [if_pos (by omega)] <;> rfl) | (rw [if_neg (by omega)] <;> rfl) | (exfalso; omega)
