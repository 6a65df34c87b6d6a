/-! THE PURE SIDE, 99: the class's machine, copy: printed by wip/tools/gen89zc.py -/
def cpyH (h : HV) (a dst src n : Int) : HV := fun o p => if o = a ∧ dst ≤ p ∧ p < dst + n then h o (p - dst + src) else h o p
theorem cpy_ne {h : HV} {a dst src n o : Int} (ho : o ≠ a) : cpyH h a dst src n o = h o := by
  funext p
  unfold cpyH
  rw [if_neg (fun w => ho w.1)]
theorem cpy_0 {h : HV} {a dst src : Int} : cpyH h a dst src 0 = h := by
  funext o p
  unfold cpyH
  rw [if_neg (by omega)]
theorem cpy_s {h : HV} {a dst src k : Int} (hk : 0 ≤ k) (fw : dst ≤ src ∨ src + k < dst) : hset (cpyH h a dst src k) a (dst + k) (cpyH h a dst src k a (src + k)) = cpyH h a dst src (k + 1) := by
  funext o p
  rw [hset_v]
  by_cases q : o = a ∧ p = dst + k
  · rw [if_pos q]
    unfold cpyH
    rw [if_neg (by omega), q.1, q.2, if_pos (by omega), show dst + k - dst + src = src + k by omega]
  · rw [if_neg q]
    unfold cpyH
    by_cases q2 : o = a ∧ dst ≤ p ∧ p < dst + k
    · rw [if_pos q2, if_pos (by omega)]
    · rw [if_neg q2, if_neg (by omega)]
/-- copied from the end -/
theorem cpy_b {h : HV} {a dst src n k : Int} (hk : 0 ≤ k ∧ k < n) (bw : src < dst) : hset (cpyH h a (dst + (n - k)) (src + (n - k)) k) a (dst + (n - 1 - k)) (cpyH h a (dst + (n - k)) (src + (n - k)) k a (src + (n - 1 - k))) = cpyH h a (dst + (n - (k + 1))) (src + (n - (k + 1))) (k + 1) := by
  funext o p
  rw [hset_v]
  by_cases q : o = a ∧ p = dst + (n - 1 - k)
  · rw [if_pos q]
    unfold cpyH
    rw [if_neg (by omega), q.1, q.2, if_pos (by omega), show dst + (n - 1 - k) - (dst + (n - (k + 1))) + (src + (n - (k + 1))) = src + (n - 1 - k) by omega]
  · rw [if_neg q]
    unfold cpyH
    by_cases q2 : o = a ∧ dst + (n - k) ≤ p ∧ p < dst + (n - k) + k
    · rw [if_pos q2, if_pos (by omega), show p - (dst + (n - k)) + (src + (n - k)) = p - (dst + (n - (k + 1))) + (src + (n - (k + 1))) by omega]
    · rw [if_neg q2, if_neg (by omega)]
theorem cpy_R {h : HV} {dst src n : Int} (R : RW h) (h0 : 0 ≤ dst) : RW (cpyH h (h 643 1) dst src n) ∧ (∀ r, rwZ (cpyH h (h 643 1) dst src n) r = rwZ h r) := by
  have n1 := R.1
  have n2 := R.2.1
  unfold NFA at n1 n2
  have e1 : cpyH h (h 643 1) dst src n 643 = h 643 := cpy_ne (by omega)
  have e2 : cpyH h (h 643 1) dst src n (h 643 0) = h (h 643 0) := cpy_ne (by omega)
  have e3 : cpyH h (h 643 1) dst src n 0 = h 0 := cpy_ne (by omega)
  have e4 : cpyH h (h 643 1) dst src n (h 643 1) (-1) = h (h 643 1) (-1) := by unfold cpyH; rw [if_neg (by omega)]
  refine ⟨?_, fun r => by unfold rwZ; rw [e1, e2]⟩
  unfold RW
  rw [e1, e2, e3, e4]
  exact R
theorem cpy_V {h : HV} {dst src n : Int} (V : VOK h) (R : RW h) (D : h 1222 0 ≠ h 643 0 ∧ h 1222 1 ≠ h 643 1) : VOK (cpyH h (h 643 1) dst src n) := by
  have n1 := V.1.2.1
  have n2 := V.2.1.2.1
  have n3 := R.2.1
  unfold NFA at n3
  unfold VOK
  rw [cpy_ne (o := 1222) (by omega), cpy_ne (o := 0) (by omega), cpy_ne (o := h 1222 0) (by omega), cpy_ne (o := h 1222 1) (by omega)]
  exact V
/-- what a copy lacks behind its three whole numbers -/
def lcF (kf kt : Int) (lies : Prop) [Decidable lies] : Int := if kf = 0 ∨ kt = 0 then 3 else if kf < 4 ∨ kt < 4 ∨ min kf 6 ≠ min kt 6 then 6 else if lies then 0 else 2
def lies (h : HV) : Prop := 0 ≤ tB h 3 ∧ 0 ≤ tB h 1 ∧ 0 ≤ tB h 0 ∧ tB h 3 + tB h 0 ≤ rwZ h (tB h 4) ∧ tB h 1 + tB h 0 ≤ rwZ h (tB h 2)
theorem s220a {d : Nat} {h : HV} {Q : Int → HV → Prop} (V : VOK h) (hz : tK h 4 = 0 ∨ tK h 2 = 0) : Sp fz1 (d + 2) 220 [(3, 1157)] h Q = Q 3 h := by
  by_cases a1 : tK h 4 = 0
  · simp (implicitDefEqProofs := false) (disch := omega) only [sp220, b220_0, b220_1, b220_2, b220_3, b220_4, b220_5, b220_6, b220_7, b220_8, q220_1, q220_2, q220_3, q220_4, q220_5, q220_6, q220_7, q220_8, x_aload0, x_bipush, y_call160, y_call182, y_call183, x_gc_5131, x_gc_5139, x_goto_1, x_goto_3, x_goto_6, x_goto_8, x_i2l, x_iconst, x_ifCond_eq_1, x_ifCond_eq_7, x_ifCond_gt_5, x_ifCond_lt_5, x_ifCond_ne_2, x_if_icmp_eq_4, x_if_icmp_lt_3, x_iload1, x_iload2, x_iload9, x_imin, x_ireturn, x_istore1, x_istore2, x_istore9, x_l2i, x_ladd, x_lcmp, x_lload3, x_lload5, x_lload7, x_lstore3, x_lstore5, x_lstore7, klp_0, klp_1, klp_2, klp_3, klp_9, KC_0, KC_1, KC_2, KC_3, KC_4, ne_eq, not_false_eq_true, not_true_eq_false, true_and, and_true, and_self, implies_true, eq_self, true_imp_iff, false_implies, Int.reduceEq, Int.reduceNe, Int.reduceMod, Int.reduceMul, Int.reduceAdd, Int.reduceSub, Int.reduceLT, Int.reduceLE, Nat.reduceAdd, Nat.reduceLeDiff, Nat.reduceLT, Nat.reduceSub, reduceIte, wds_n, wds_0, wds_1, wds_2, wds_3, or_true, true_or, or_false, false_or, or_self, false_and, and_false, d_pos, d_s1, d_s2, d_s3, d_s4, d_s5, d_s6, d_s7, d_s8, Classical.not_not, z1157_1, z1157_2, s182t V, s183t V, a1, le_sub1, le_T, le_F, lt_T, lt_F, eq_F, w32_T, bz0, bz1, lc_le, lc_ge, lc_lt, lc_gt, lc_eq]
  · have a2 : tK h 2 = 0 := by omega
    simp (implicitDefEqProofs := false) (disch := omega) only [sp220, b220_0, b220_1, b220_2, b220_3, b220_4, b220_5, b220_6, b220_7, b220_8, q220_1, q220_2, q220_3, q220_4, q220_5, q220_6, q220_7, q220_8, x_aload0, x_bipush, y_call160, y_call182, y_call183, x_gc_5131, x_gc_5139, x_goto_1, x_goto_3, x_goto_6, x_goto_8, x_i2l, x_iconst, x_ifCond_eq_1, x_ifCond_eq_7, x_ifCond_gt_5, x_ifCond_lt_5, x_ifCond_ne_2, x_if_icmp_eq_4, x_if_icmp_lt_3, x_iload1, x_iload2, x_iload9, x_imin, x_ireturn, x_istore1, x_istore2, x_istore9, x_l2i, x_ladd, x_lcmp, x_lload3, x_lload5, x_lload7, x_lstore3, x_lstore5, x_lstore7, klp_0, klp_1, klp_2, klp_3, klp_9, KC_0, KC_1, KC_2, KC_3, KC_4, ne_eq, not_false_eq_true, not_true_eq_false, true_and, and_true, and_self, implies_true, eq_self, true_imp_iff, false_implies, Int.reduceEq, Int.reduceNe, Int.reduceMod, Int.reduceMul, Int.reduceAdd, Int.reduceSub, Int.reduceLT, Int.reduceLE, Nat.reduceAdd, Nat.reduceLeDiff, Nat.reduceLT, Nat.reduceSub, reduceIte, wds_n, wds_0, wds_1, wds_2, wds_3, or_true, true_or, or_false, false_or, or_self, false_and, and_false, d_pos, d_s1, d_s2, d_s3, d_s4, d_s5, d_s6, d_s7, d_s8, Classical.not_not, z1157_1, z1157_2, s182t V, s183t V, a1, a2, le_sub1, le_T, le_F, lt_T, lt_F, eq_F, w32_T, bz0, bz1, lc_le, lc_ge, lc_lt, lc_gt, lc_eq]
theorem s220b {d : Nat} {h : HV} {Q : Int → HV → Prop} (V : VOK h) (k4 : 0 ≤ tK h 4 ∧ tK h 4 ≤ 7) (k2 : 0 ≤ tK h 2 ∧ tK h 2 ≤ 7) (hz : ¬ (tK h 4 = 0 ∨ tK h 2 = 0)) (hs : tK h 4 < 4 ∨ tK h 2 < 4 ∨ min (tK h 4) 6 ≠ min (tK h 2) 6) : Sp fz1 (d + 2) 220 [(3, 1157)] h Q = Q 6 h := by
  generalize e4 : tK h 4 = x at *
  generalize e2 : tK h 2 = y at *
  by_cases a1 : x < 4
  · simp (implicitDefEqProofs := false) (disch := omega) only [sp220, b220_0, b220_1, b220_2, b220_3, b220_4, b220_5, b220_6, b220_7, b220_8, q220_1, q220_2, q220_3, q220_4, q220_5, q220_6, q220_7, q220_8, x_aload0, x_bipush, y_call160, y_call182, y_call183, x_gc_5131, x_gc_5139, x_goto_1, x_goto_3, x_goto_6, x_goto_8, x_i2l, x_iconst, x_ifCond_eq_1, x_ifCond_eq_7, x_ifCond_gt_5, x_ifCond_lt_5, x_ifCond_ne_2, x_if_icmp_eq_4, x_if_icmp_lt_3, x_iload1, x_iload2, x_iload9, x_imin, x_ireturn, x_istore1, x_istore2, x_istore9, x_l2i, x_ladd, x_lcmp, x_lload3, x_lload5, x_lload7, x_lstore3, x_lstore5, x_lstore7, klp_0, klp_1, klp_2, klp_3, klp_9, KC_0, KC_1, KC_2, KC_3, KC_4, ne_eq, not_false_eq_true, not_true_eq_false, true_and, and_true, and_self, implies_true, eq_self, true_imp_iff, false_implies, Int.reduceEq, Int.reduceNe, Int.reduceMod, Int.reduceMul, Int.reduceAdd, Int.reduceSub, Int.reduceLT, Int.reduceLE, Nat.reduceAdd, Nat.reduceLeDiff, Nat.reduceLT, Nat.reduceSub, reduceIte, wds_n, wds_0, wds_1, wds_2, wds_3, or_true, true_or, or_false, false_or, or_self, false_and, and_false, d_pos, d_s1, d_s2, d_s3, d_s4, d_s5, d_s6, d_s7, d_s8, Classical.not_not, z1157_1, z1157_2, s182t V, s183t V, e4, e2, le_sub1, le_T, le_F, lt_T, lt_F, eq_F, w32_T, bz0, bz1, lc_le, lc_ge, lc_lt, lc_gt, lc_eq]
  · by_cases a2 : y < 4
    · simp (implicitDefEqProofs := false) (disch := omega) only [sp220, b220_0, b220_1, b220_2, b220_3, b220_4, b220_5, b220_6, b220_7, b220_8, q220_1, q220_2, q220_3, q220_4, q220_5, q220_6, q220_7, q220_8, x_aload0, x_bipush, y_call160, y_call182, y_call183, x_gc_5131, x_gc_5139, x_goto_1, x_goto_3, x_goto_6, x_goto_8, x_i2l, x_iconst, x_ifCond_eq_1, x_ifCond_eq_7, x_ifCond_gt_5, x_ifCond_lt_5, x_ifCond_ne_2, x_if_icmp_eq_4, x_if_icmp_lt_3, x_iload1, x_iload2, x_iload9, x_imin, x_ireturn, x_istore1, x_istore2, x_istore9, x_l2i, x_ladd, x_lcmp, x_lload3, x_lload5, x_lload7, x_lstore3, x_lstore5, x_lstore7, klp_0, klp_1, klp_2, klp_3, klp_9, KC_0, KC_1, KC_2, KC_3, KC_4, ne_eq, not_false_eq_true, not_true_eq_false, true_and, and_true, and_self, implies_true, eq_self, true_imp_iff, false_implies, Int.reduceEq, Int.reduceNe, Int.reduceMod, Int.reduceMul, Int.reduceAdd, Int.reduceSub, Int.reduceLT, Int.reduceLE, Nat.reduceAdd, Nat.reduceLeDiff, Nat.reduceLT, Nat.reduceSub, reduceIte, wds_n, wds_0, wds_1, wds_2, wds_3, or_true, true_or, or_false, false_or, or_self, false_and, and_false, d_pos, d_s1, d_s2, d_s3, d_s4, d_s5, d_s6, d_s7, d_s8, Classical.not_not, z1157_1, z1157_2, s182t V, s183t V, e4, e2, le_sub1, le_T, le_F, lt_T, lt_F, eq_F, w32_T, bz0, bz1, lc_le, lc_ge, lc_lt, lc_gt, lc_eq]
    · have a3 : ¬ min x 6 = min y 6 := by omega
      have a4 : ¬ min 6 x = min 6 y := by omega
      have a5 : ¬ min x 6 = min 6 y := by omega
      have a6 : ¬ min 6 x = min y 6 := by omega
      simp (implicitDefEqProofs := false) (disch := omega) only [sp220, b220_0, b220_1, b220_2, b220_3, b220_4, b220_5, b220_6, b220_7, b220_8, q220_1, q220_2, q220_3, q220_4, q220_5, q220_6, q220_7, q220_8, x_aload0, x_bipush, y_call160, y_call182, y_call183, x_gc_5131, x_gc_5139, x_goto_1, x_goto_3, x_goto_6, x_goto_8, x_i2l, x_iconst, x_ifCond_eq_1, x_ifCond_eq_7, x_ifCond_gt_5, x_ifCond_lt_5, x_ifCond_ne_2, x_if_icmp_eq_4, x_if_icmp_lt_3, x_iload1, x_iload2, x_iload9, x_imin, x_ireturn, x_istore1, x_istore2, x_istore9, x_l2i, x_ladd, x_lcmp, x_lload3, x_lload5, x_lload7, x_lstore3, x_lstore5, x_lstore7, klp_0, klp_1, klp_2, klp_3, klp_9, KC_0, KC_1, KC_2, KC_3, KC_4, ne_eq, not_false_eq_true, not_true_eq_false, true_and, and_true, and_self, implies_true, eq_self, true_imp_iff, false_implies, Int.reduceEq, Int.reduceNe, Int.reduceMod, Int.reduceMul, Int.reduceAdd, Int.reduceSub, Int.reduceLT, Int.reduceLE, Nat.reduceAdd, Nat.reduceLeDiff, Nat.reduceLT, Nat.reduceSub, reduceIte, wds_n, wds_0, wds_1, wds_2, wds_3, or_true, true_or, or_false, false_or, or_self, false_and, and_false, d_pos, d_s1, d_s2, d_s3, d_s4, d_s5, d_s6, d_s7, d_s8, Classical.not_not, z1157_1, z1157_2, s182t V, s183t V, e4, e2, a3, a4, a5, a6, le_sub1, le_T, le_F, lt_T, lt_F, eq_F, w32_T, bz0, bz1, lc_le, lc_ge, lc_lt, lc_gt, lc_eq]
theorem s220c {d : Nat} {h : HV} {Q : Int → HV → Prop} (V : VOK h) (R : RW h) (k4 : 4 ≤ tK h 4 ∧ tK h 4 ≤ 7) (k2 : 4 ≤ tK h 2 ∧ tK h 2 ≤ 7) (hs : min (tK h 4) 6 = min (tK h 2) 6) (b4 : 0 ≤ tB h 4 ∧ tB h 4 < h 643 2) (b2 : 0 ≤ tB h 2 ∧ tB h 2 < h 643 2) (i3 : I32 (tB h 3)) (i1 : I32 (tB h 1)) (i0 : I32 (tB h 0)) (hl : lies h) : Sp fz1 (d + 2) 220 [(3, 1157)] h Q = Q 0 h := by
  unfold lies at hl
  unfold I32 at i3 i1 i0
  have r1 := R.2.2.1
  have z4 := R.z b4.1 b4.2
  have z2 := R.z b2.1 b2.2
  have E4 : w32 (tB h 4) = tB h 4 := w32_T (by omega)
  have E2 : w32 (tB h 2) = tB h 2 := w32_T (by omega)
  have E5 : w64 (tB h 3 + tB h 0) = tB h 3 + tB h 0 := by unfold w64; omega
  have E6 : w64 (tB h 1 + tB h 0) = tB h 1 + tB h 0 := by unfold w64; omega
  have a4 : min 6 (tK h 4) = min 6 (tK h 2) := by omega
  have a5 : min (tK h 4) 6 = min 6 (tK h 2) := by omega
  have a6 : min 6 (tK h 4) = min (tK h 2) 6 := by omega
  have n4 : ¬ tK h 4 = 0 := by omega
  have n2 : ¬ tK h 2 = 0 := by omega
  simp (implicitDefEqProofs := false) (disch := omega) only [sp220, b220_0, b220_1, b220_2, b220_3, b220_4, b220_5, b220_6, b220_7, b220_8, q220_1, q220_2, q220_3, q220_4, q220_5, q220_6, q220_7, q220_8, x_aload0, x_bipush, y_call160, y_call182, y_call183, x_gc_5131, x_gc_5139, x_goto_1, x_goto_3, x_goto_6, x_goto_8, x_i2l, x_iconst, x_ifCond_eq_1, x_ifCond_eq_7, x_ifCond_gt_5, x_ifCond_lt_5, x_ifCond_ne_2, x_if_icmp_eq_4, x_if_icmp_lt_3, x_iload1, x_iload2, x_iload9, x_imin, x_ireturn, x_istore1, x_istore2, x_istore9, x_l2i, x_ladd, x_lcmp, x_lload3, x_lload5, x_lload7, x_lstore3, x_lstore5, x_lstore7, klp_0, klp_1, klp_2, klp_3, klp_9, KC_0, KC_1, KC_2, KC_3, KC_4, ne_eq, not_false_eq_true, not_true_eq_false, true_and, and_true, and_self, implies_true, eq_self, true_imp_iff, false_implies, Int.reduceEq, Int.reduceNe, Int.reduceMod, Int.reduceMul, Int.reduceAdd, Int.reduceSub, Int.reduceLT, Int.reduceLE, Nat.reduceAdd, Nat.reduceLeDiff, Nat.reduceLT, Nat.reduceSub, reduceIte, wds_n, wds_0, wds_1, wds_2, wds_3, or_true, true_or, or_false, false_or, or_self, false_and, and_false, d_pos, d_s1, d_s2, d_s3, d_s4, d_s5, d_s6, d_s7, d_s8, Classical.not_not, z1157_1, z1157_2, s182t V, s183t V, E4, E2, E5, E6, hs, a4, a5, a6, n4, n2, s160 R, if_pos b4, if_pos b2, le_sub1, le_T, le_F, lt_T, lt_F, eq_F, w32_T, bz0, bz1, lc_le, lc_ge, lc_lt, lc_gt, lc_eq]
theorem s220d {d : Nat} {h : HV} {Q : Int → HV → Prop} (V : VOK h) (R : RW h) (k4 : 4 ≤ tK h 4 ∧ tK h 4 ≤ 7) (k2 : 4 ≤ tK h 2 ∧ tK h 2 ≤ 7) (hs : min (tK h 4) 6 = min (tK h 2) 6) (b4 : 0 ≤ tB h 4 ∧ tB h 4 < h 643 2) (b2 : 0 ≤ tB h 2 ∧ tB h 2 < h 643 2) (i3 : I32 (tB h 3)) (i1 : I32 (tB h 1)) (i0 : I32 (tB h 0)) (hl : ¬ lies h) : Sp fz1 (d + 2) 220 [(3, 1157)] h Q = Q 2 h := by
  unfold lies at hl
  unfold I32 at i3 i1 i0
  have r1 := R.2.2.1
  have z4 := R.z b4.1 b4.2
  have z2 := R.z b2.1 b2.2
  have E4 : w32 (tB h 4) = tB h 4 := w32_T (by omega)
  have E2 : w32 (tB h 2) = tB h 2 := w32_T (by omega)
  have E5 : w64 (tB h 3 + tB h 0) = tB h 3 + tB h 0 := by unfold w64; omega
  have E6 : w64 (tB h 1 + tB h 0) = tB h 1 + tB h 0 := by unfold w64; omega
  have a4 : min 6 (tK h 4) = min 6 (tK h 2) := by omega
  have a5 : min (tK h 4) 6 = min 6 (tK h 2) := by omega
  have a6 : min 6 (tK h 4) = min (tK h 2) 6 := by omega
  have n4 : ¬ tK h 4 = 0 := by omega
  have n2 : ¬ tK h 2 = 0 := by omega
  by_cases c1 : tB h 3 < 0
  · simp (implicitDefEqProofs := false) (disch := omega) only [sp220, b220_0, b220_1, b220_2, b220_3, b220_4, b220_5, b220_6, b220_7, b220_8, q220_1, q220_2, q220_3, q220_4, q220_5, q220_6, q220_7, q220_8, x_aload0, x_bipush, y_call160, y_call182, y_call183, x_gc_5131, x_gc_5139, x_goto_1, x_goto_3, x_goto_6, x_goto_8, x_i2l, x_iconst, x_ifCond_eq_1, x_ifCond_eq_7, x_ifCond_gt_5, x_ifCond_lt_5, x_ifCond_ne_2, x_if_icmp_eq_4, x_if_icmp_lt_3, x_iload1, x_iload2, x_iload9, x_imin, x_ireturn, x_istore1, x_istore2, x_istore9, x_l2i, x_ladd, x_lcmp, x_lload3, x_lload5, x_lload7, x_lstore3, x_lstore5, x_lstore7, klp_0, klp_1, klp_2, klp_3, klp_9, KC_0, KC_1, KC_2, KC_3, KC_4, ne_eq, not_false_eq_true, not_true_eq_false, true_and, and_true, and_self, implies_true, eq_self, true_imp_iff, false_implies, Int.reduceEq, Int.reduceNe, Int.reduceMod, Int.reduceMul, Int.reduceAdd, Int.reduceSub, Int.reduceLT, Int.reduceLE, Nat.reduceAdd, Nat.reduceLeDiff, Nat.reduceLT, Nat.reduceSub, reduceIte, wds_n, wds_0, wds_1, wds_2, wds_3, or_true, true_or, or_false, false_or, or_self, false_and, and_false, d_pos, d_s1, d_s2, d_s3, d_s4, d_s5, d_s6, d_s7, d_s8, Classical.not_not, z1157_1, z1157_2, s182t V, s183t V, E4, E2, E5, E6, hs, a4, a5, a6, n4, n2, s160 R, if_pos b4, if_pos b2, le_sub1, le_T, le_F, lt_T, lt_F, eq_F, w32_T, bz0, bz1, lc_le, lc_ge, lc_lt, lc_gt, lc_eq]
  · by_cases c2 : tB h 1 < 0
    · simp (implicitDefEqProofs := false) (disch := omega) only [sp220, b220_0, b220_1, b220_2, b220_3, b220_4, b220_5, b220_6, b220_7, b220_8, q220_1, q220_2, q220_3, q220_4, q220_5, q220_6, q220_7, q220_8, x_aload0, x_bipush, y_call160, y_call182, y_call183, x_gc_5131, x_gc_5139, x_goto_1, x_goto_3, x_goto_6, x_goto_8, x_i2l, x_iconst, x_ifCond_eq_1, x_ifCond_eq_7, x_ifCond_gt_5, x_ifCond_lt_5, x_ifCond_ne_2, x_if_icmp_eq_4, x_if_icmp_lt_3, x_iload1, x_iload2, x_iload9, x_imin, x_ireturn, x_istore1, x_istore2, x_istore9, x_l2i, x_ladd, x_lcmp, x_lload3, x_lload5, x_lload7, x_lstore3, x_lstore5, x_lstore7, klp_0, klp_1, klp_2, klp_3, klp_9, KC_0, KC_1, KC_2, KC_3, KC_4, ne_eq, not_false_eq_true, not_true_eq_false, true_and, and_true, and_self, implies_true, eq_self, true_imp_iff, false_implies, Int.reduceEq, Int.reduceNe, Int.reduceMod, Int.reduceMul, Int.reduceAdd, Int.reduceSub, Int.reduceLT, Int.reduceLE, Nat.reduceAdd, Nat.reduceLeDiff, Nat.reduceLT, Nat.reduceSub, reduceIte, wds_n, wds_0, wds_1, wds_2, wds_3, or_true, true_or, or_false, false_or, or_self, false_and, and_false, d_pos, d_s1, d_s2, d_s3, d_s4, d_s5, d_s6, d_s7, d_s8, Classical.not_not, z1157_1, z1157_2, s182t V, s183t V, E4, E2, E5, E6, hs, a4, a5, a6, n4, n2, s160 R, if_pos b4, if_pos b2, le_sub1, le_T, le_F, lt_T, lt_F, eq_F, w32_T, bz0, bz1, lc_le, lc_ge, lc_lt, lc_gt, lc_eq]
    · by_cases c3 : tB h 0 < 0
      · simp (implicitDefEqProofs := false) (disch := omega) only [sp220, b220_0, b220_1, b220_2, b220_3, b220_4, b220_5, b220_6, b220_7, b220_8, q220_1, q220_2, q220_3, q220_4, q220_5, q220_6, q220_7, q220_8, x_aload0, x_bipush, y_call160, y_call182, y_call183, x_gc_5131, x_gc_5139, x_goto_1, x_goto_3, x_goto_6, x_goto_8, x_i2l, x_iconst, x_ifCond_eq_1, x_ifCond_eq_7, x_ifCond_gt_5, x_ifCond_lt_5, x_ifCond_ne_2, x_if_icmp_eq_4, x_if_icmp_lt_3, x_iload1, x_iload2, x_iload9, x_imin, x_ireturn, x_istore1, x_istore2, x_istore9, x_l2i, x_ladd, x_lcmp, x_lload3, x_lload5, x_lload7, x_lstore3, x_lstore5, x_lstore7, klp_0, klp_1, klp_2, klp_3, klp_9, KC_0, KC_1, KC_2, KC_3, KC_4, ne_eq, not_false_eq_true, not_true_eq_false, true_and, and_true, and_self, implies_true, eq_self, true_imp_iff, false_implies, Int.reduceEq, Int.reduceNe, Int.reduceMod, Int.reduceMul, Int.reduceAdd, Int.reduceSub, Int.reduceLT, Int.reduceLE, Nat.reduceAdd, Nat.reduceLeDiff, Nat.reduceLT, Nat.reduceSub, reduceIte, wds_n, wds_0, wds_1, wds_2, wds_3, or_true, true_or, or_false, false_or, or_self, false_and, and_false, d_pos, d_s1, d_s2, d_s3, d_s4, d_s5, d_s6, d_s7, d_s8, Classical.not_not, z1157_1, z1157_2, s182t V, s183t V, E4, E2, E5, E6, hs, a4, a5, a6, n4, n2, s160 R, if_pos b4, if_pos b2, le_sub1, le_T, le_F, lt_T, lt_F, eq_F, w32_T, bz0, bz1, lc_le, lc_ge, lc_lt, lc_gt, lc_eq]
      · by_cases c4 : rwZ h (tB h 4) < tB h 3 + tB h 0
        · simp (implicitDefEqProofs := false) (disch := omega) only [sp220, b220_0, b220_1, b220_2, b220_3, b220_4, b220_5, b220_6, b220_7, b220_8, q220_1, q220_2, q220_3, q220_4, q220_5, q220_6, q220_7, q220_8, x_aload0, x_bipush, y_call160, y_call182, y_call183, x_gc_5131, x_gc_5139, x_goto_1, x_goto_3, x_goto_6, x_goto_8, x_i2l, x_iconst, x_ifCond_eq_1, x_ifCond_eq_7, x_ifCond_gt_5, x_ifCond_lt_5, x_ifCond_ne_2, x_if_icmp_eq_4, x_if_icmp_lt_3, x_iload1, x_iload2, x_iload9, x_imin, x_ireturn, x_istore1, x_istore2, x_istore9, x_l2i, x_ladd, x_lcmp, x_lload3, x_lload5, x_lload7, x_lstore3, x_lstore5, x_lstore7, klp_0, klp_1, klp_2, klp_3, klp_9, KC_0, KC_1, KC_2, KC_3, KC_4, ne_eq, not_false_eq_true, not_true_eq_false, true_and, and_true, and_self, implies_true, eq_self, true_imp_iff, false_implies, Int.reduceEq, Int.reduceNe, Int.reduceMod, Int.reduceMul, Int.reduceAdd, Int.reduceSub, Int.reduceLT, Int.reduceLE, Nat.reduceAdd, Nat.reduceLeDiff, Nat.reduceLT, Nat.reduceSub, reduceIte, wds_n, wds_0, wds_1, wds_2, wds_3, or_true, true_or, or_false, false_or, or_self, false_and, and_false, d_pos, d_s1, d_s2, d_s3, d_s4, d_s5, d_s6, d_s7, d_s8, Classical.not_not, z1157_1, z1157_2, s182t V, s183t V, E4, E2, E5, E6, hs, a4, a5, a6, n4, n2, s160 R, if_pos b4, if_pos b2, le_sub1, le_T, le_F, lt_T, lt_F, eq_F, w32_T, bz0, bz1, lc_le, lc_ge, lc_lt, lc_gt, lc_eq]
        · have c5 : rwZ h (tB h 2) < tB h 1 + tB h 0 := by omega
          simp (implicitDefEqProofs := false) (disch := omega) only [sp220, b220_0, b220_1, b220_2, b220_3, b220_4, b220_5, b220_6, b220_7, b220_8, q220_1, q220_2, q220_3, q220_4, q220_5, q220_6, q220_7, q220_8, x_aload0, x_bipush, y_call160, y_call182, y_call183, x_gc_5131, x_gc_5139, x_goto_1, x_goto_3, x_goto_6, x_goto_8, x_i2l, x_iconst, x_ifCond_eq_1, x_ifCond_eq_7, x_ifCond_gt_5, x_ifCond_lt_5, x_ifCond_ne_2, x_if_icmp_eq_4, x_if_icmp_lt_3, x_iload1, x_iload2, x_iload9, x_imin, x_ireturn, x_istore1, x_istore2, x_istore9, x_l2i, x_ladd, x_lcmp, x_lload3, x_lload5, x_lload7, x_lstore3, x_lstore5, x_lstore7, klp_0, klp_1, klp_2, klp_3, klp_9, KC_0, KC_1, KC_2, KC_3, KC_4, ne_eq, not_false_eq_true, not_true_eq_false, true_and, and_true, and_self, implies_true, eq_self, true_imp_iff, false_implies, Int.reduceEq, Int.reduceNe, Int.reduceMod, Int.reduceMul, Int.reduceAdd, Int.reduceSub, Int.reduceLT, Int.reduceLE, Nat.reduceAdd, Nat.reduceLeDiff, Nat.reduceLT, Nat.reduceSub, reduceIte, wds_n, wds_0, wds_1, wds_2, wds_3, or_true, true_or, or_false, false_or, or_self, false_and, and_false, d_pos, d_s1, d_s2, d_s3, d_s4, d_s5, d_s6, d_s7, d_s8, Classical.not_not, z1157_1, z1157_2, s182t V, s183t V, E4, E2, E5, E6, hs, a4, a5, a6, n4, n2, s160 R, if_pos b4, if_pos b2, le_sub1, le_T, le_F, lt_T, lt_F, eq_F, w32_T, bz0, bz1, lc_le, lc_ge, lc_lt, lc_gt, lc_eq]
/-- the places of a copy in the items -/
def cpS (h : HV) : Int := h (h 643 0) (tB h 4) + tB h 3
def cpD (h : HV) : Int := h (h 643 0) (tB h 2) + tB h 1
theorem lp219f {d : Nat} {h : HV} {Q : Int → HV → Prop} {fr t i j n tO : Int} {a9 : AV} (V : VOK h) (R : RW h) (D : h 1222 0 ≠ h 643 0 ∧ h 1222 1 ≠ h 643 1) (hc : h 836 4 ≤ 24) (hf : 0 ≤ fr ∧ fr < h 643 2) (ht : 0 ≤ t ∧ t < h 643 2) (hi : 0 ≤ i ∧ i + n ≤ rwZ h fr) (hj : 0 ≤ j ∧ j + n ≤ rwZ h t)
    (fw : h (h 643 0) t + j ≤ h (h 643 0) fr + i ∨ h (h 643 0) fr + i + n ≤ h (h 643 0) t + j) (hO : tO = 0 ∨ tO = 1) (hn5 : 5 ≤ h 1222 2) (F : FOK h)
    (hp : tO = 1 → ∀ k, 0 ≤ k → k < n → rwI h fr (i + k) = -9 ∨ 0 ≤ rwI h fr (i + k) ∧ rwI h fr (i + k) < h 836 4) :
    ∀ (m : Nat) (k : Int) (a9 a10 : AV) (a11 : AV), k + m = n → 0 ≤ k → (tO = 1 → ∀ q, 0 ≤ q → q < k → rwI h fr (i + q) = -9 ∨ 2 ≤ h 928 (rwI h fr (i + q))) →
    (∀ q, tO = 1 → k ≤ q → q < n → (∀ p, 0 ≤ p → p < q → rwI h fr (i + p) = -9 ∨ 2 ≤ h 928 (rwI h fr (i + p))) → ¬ (rwI h fr (i + q) = -9 ∨ 2 ≤ h 928 (rwI h fr (i + q))) → Q 0 (flH (cpyH h (h 643 1) (h (h 643 0) t + j) (h (h 643 0) fr + i) q) 6)) →
    ((tO = 1 → ∀ q, 0 ≤ q → q < n → rwI h fr (i + q) = -9 ∨ 2 ≤ h 928 (rwI h fr (i + q))) → Q 0 (cutH (cpyH h (h 643 1) (h (h 643 0) t + j) (h (h 643 0) fr + i) n) (h 1222 2 - 5))) →
    G fz1 (d + 4) 219 7 [(3, 1157), (0, fr), (0, t), (0, i), (0, j), (0, n), (0, tO), (0, 0), (0, k), a9, a10, a11] [] (cpyH h (h 643 1) (h (h 643 0) t + j) (h (h 643 0) fr + i) k) Q := by
  have f1 := R.1
  have f2 := R.2.1
  have v1 := V.1
  have v2 := V.2.1
  have w4 := V.2.2.2.1
  have w5 := V.2.2.2.2
  unfold NFA at f1 f2 v1 v2
  have r1 := R.2.2.1
  have zf := R.z hf.1 hf.2
  have zt := R.z ht.1 ht.2
  have sf := (R.2.2.2.2.2.2 fr hf.1 hf.2).2.2.2
  have st := (R.2.2.2.2.2.2 t ht.1 ht.2).2.2.2
  generalize hS : h (h 643 0) fr + i = S at *
  generalize hD : h (h 643 0) t + j = T at *
  have e22 : ∀ k, cpyH h (h 643 1) T S k 1222 = h 1222 := fun k => cpy_ne (by omega)
  have e57 : ∀ k, cpyH h (h 643 1) T S k 1157 = h 1157 := fun k => cpy_ne (by omega)
  have e43 : ∀ k, cpyH h (h 643 1) T S k 643 = h 643 := fun k => cpy_ne (by omega)
  have e36 : ∀ k, cpyH h (h 643 1) T S k 836 = h 836 := fun k => cpy_ne (by omega)
  have e92 : ∀ k, cpyH h (h 643 1) T S k 928 = h 928 := fun k => cpy_ne (by omega)
  have e0 : ∀ k, cpyH h (h 643 1) T S k (h 643 0) = h (h 643 0) := fun k => cpy_ne (by omega)
  intro m
  induction m with
  | zero =>
    intro k a9 a10 a11 hk h0 al st en
    have : k = n := by omega
    subst this
    have g := en al
    rw [q219_7]
    simp (implicitDefEqProofs := false) (disch := omega) only [b219_7, b219_8, b219_9, b219_10, b219_11, q219_8, q219_9, q219_10, q219_11, x_aload0, x_bipush, y_call161, y_call162, y_call167, y_call170, y_call188, y_call193, x_gc_5123, x_gc_5131, x_gc_5139, x_goto_7, x_goto_9, x_iadd, x_iconst, x_ifCond_eq_10, x_ifCond_eq_8, x_ifCond_ne_10, x_if_icmp_ge_11, x_iinc8, x_iload1, x_iload2, x_iload3, x_iload4, x_iload5, x_iload6, x_iload7, x_iload8, x_iload9, x_istore9, x_isub, x_l2i, x_lcmp, x_lload10, x_lstore10, x_return, klp_0, klp_1, klp_2, klp_3, klp_9, KC_0, KC_1, KC_2, KC_3, KC_4, ne_eq, not_false_eq_true, not_true_eq_false, true_and, and_true, and_self, implies_true, eq_self, true_imp_iff, false_implies, Int.reduceEq, Int.reduceNe, Int.reduceMod, Int.reduceMul, Int.reduceAdd, Int.reduceSub, Int.reduceLT, Int.reduceLE, Nat.reduceAdd, Nat.reduceLeDiff, Nat.reduceLT, Nat.reduceSub, reduceIte, wds_n, wds_0, wds_1, wds_2, wds_3, or_true, true_or, or_false, false_or, or_self, false_and, and_false, d_pos, d_s1, d_s2, d_s3, d_s4, d_s5, d_s6, d_s7, d_s8, Classical.not_not, z1157_0, z1157_1, z1157_2, e22, s170, s167, le_sub1, le_T, le_F, lt_T, lt_F, eq_F, w32_T, bz0, bz1, lc_le, lc_ge, lc_lt, lc_gt, lc_eq]
    exact g
  | succ m ih =>
    intro k a9 a10 a11 hk h0 al st en
    have RC := (cpy_R (src := S) (n := k) R (show 0 ≤ T by omega)).1
    have RZ := (cpy_R (src := S) (n := k) R (show 0 ≤ T by omega)).2
    have hx : 0 ≤ i + k ∧ (0 ≤ fr ∧ fr < cpyH h (h 643 1) T S k 643 2) ∧ i + k < rwZ (cpyH h (h 643 1) T S k) fr := by rw [e43, RZ]; omega
    have hy : 0 ≤ j + k ∧ (0 ≤ t ∧ t < cpyH h (h 643 1) T S k 643 2) ∧ j + k < rwZ (cpyH h (h 643 1) T S k) t := by rw [e43, RZ]; omega
    have it : rwI (cpyH h (h 643 1) T S k) fr (i + k) = cpyH h (h 643 1) T S k (h 643 1) (S + k) := by
      unfold rwI
      rw [e43, e0, show h (h 643 0) fr + (i + k) = S + k by omega]
    have it2 : cpyH h (h 643 1) T S k (h 643 1) (S + k) = rwI h fr (i + k) := by
      unfold cpyH rwI
      rw [if_neg (by omega), show h (h 643 0) fr + (i + k) = S + k by omega]
    have W1 : ∀ Q, Sp fz1 (d + 3) 161 [(3, 643), (0, fr), (0, i + k)] (cpyH h (h 643 1) T S k) Q = Q (rwI h fr (i + k)) (cpyH h (h 643 1) T S k) := fun Q => by
      rw [s161 RC, if_pos hx, it, it2]
    have W2 : ∀ Q, Sp fz1 (d + 3) 162 [(3, 643), (0, t), (0, j + k), (1, rwI h fr (i + k))] (cpyH h (h 643 1) T S k) Q = Q 0 (cpyH h (h 643 1) T S (k + 1)) := fun Q => by
      rw [s162 RC hy, e43, e0, ← it2, show h (h 643 0) t + (j + k) = T + k by omega, cpy_s h0 (by omega)]
    have E1 : w32 (i + k) = i + k := w32_T (by omega)
    have E2 : w32 (j + k) = j + k := w32_T (by omega)
    have kn : k < n := by omega
    rcases hO with hO | hO
    · have g := ih (k + 1) (0, k) (1, rwI h fr (i + k)) (9, 0) (by omega) (by omega) (fun w => by omega) (fun q w => by omega) en
      rw [hO] at g
      rw [q219_7]
      simp (implicitDefEqProofs := false) (disch := omega) only [b219_7, b219_8, b219_9, b219_10, b219_11, q219_8, q219_9, q219_10, q219_11, x_aload0, x_bipush, y_call161, y_call162, y_call167, y_call170, y_call188, y_call193, x_gc_5123, x_gc_5131, x_gc_5139, x_goto_7, x_goto_9, x_iadd, x_iconst, x_ifCond_eq_10, x_ifCond_eq_8, x_ifCond_ne_10, x_if_icmp_ge_11, x_iinc8, x_iload1, x_iload2, x_iload3, x_iload4, x_iload5, x_iload6, x_iload7, x_iload8, x_iload9, x_istore9, x_isub, x_l2i, x_lcmp, x_lload10, x_lstore10, x_return, klp_0, klp_1, klp_2, klp_3, klp_9, KC_0, KC_1, KC_2, KC_3, KC_4, ne_eq, not_false_eq_true, not_true_eq_false, true_and, and_true, and_self, implies_true, eq_self, true_imp_iff, false_implies, Int.reduceEq, Int.reduceNe, Int.reduceMod, Int.reduceMul, Int.reduceAdd, Int.reduceSub, Int.reduceLT, Int.reduceLE, Nat.reduceAdd, Nat.reduceLeDiff, Nat.reduceLT, Nat.reduceSub, reduceIte, wds_n, wds_0, wds_1, wds_2, wds_3, or_true, true_or, or_false, false_or, or_self, false_and, and_false, d_pos, d_s1, d_s2, d_s3, d_s4, d_s5, d_s6, d_s7, d_s8, Classical.not_not, z1157_0, z1157_1, z1157_2, hO, W1, W2, E1, E2, le_sub1, le_T, le_F, lt_T, lt_F, eq_F, w32_T, bz0, bz1, lc_le, lc_ge, lc_lt, lc_gt, lc_eq]
      exact g
    · by_cases ok : rwI h fr (i + k) = -9 ∨ 2 ≤ h 928 (rwI h fr (i + k))
      · have g := ih (k + 1) (0, k) (1, rwI h fr (i + k)) (9, 0) (by omega) (by omega) (fun w q q0 q1 => by
          by_cases z : q = k
          · rw [z]; exact ok
          · exact al w q q0 (by omega)) (fun q w a b c e => st q w (by omega) b c e) en
        by_cases n9 : rwI h fr (i + k) = -9
        · rw [q219_7]
          rw [n9] at W1 W2 g
          rw [hO] at g
          simp (implicitDefEqProofs := false) (disch := omega) only [b219_7, b219_8, b219_9, b219_10, b219_11, q219_8, q219_9, q219_10, q219_11, x_aload0, x_bipush, y_call161, y_call162, y_call167, y_call170, y_call188, y_call193, x_gc_5123, x_gc_5131, x_gc_5139, x_goto_7, x_goto_9, x_iadd, x_iconst, x_ifCond_eq_10, x_ifCond_eq_8, x_ifCond_ne_10, x_if_icmp_ge_11, x_iinc8, x_iload1, x_iload2, x_iload3, x_iload4, x_iload5, x_iload6, x_iload7, x_iload8, x_iload9, x_istore9, x_isub, x_l2i, x_lcmp, x_lload10, x_lstore10, x_return, klp_0, klp_1, klp_2, klp_3, klp_9, KC_0, KC_1, KC_2, KC_3, KC_4, ne_eq, not_false_eq_true, not_true_eq_false, true_and, and_true, and_self, implies_true, eq_self, true_imp_iff, false_implies, Int.reduceEq, Int.reduceNe, Int.reduceMod, Int.reduceMul, Int.reduceAdd, Int.reduceSub, Int.reduceLT, Int.reduceLE, Nat.reduceAdd, Nat.reduceLeDiff, Nat.reduceLT, Nat.reduceSub, reduceIte, wds_n, wds_0, wds_1, wds_2, wds_3, or_true, true_or, or_false, false_or, or_self, false_and, and_false, d_pos, d_s1, d_s2, d_s3, d_s4, d_s5, d_s6, d_s7, d_s8, Classical.not_not, z1157_0, z1157_1, z1157_2, hO, W1, W2, E1, E2, n9, le_sub1, le_T, le_F, lt_T, lt_F, eq_F, w32_T, bz0, bz1, lc_le, lc_ge, lc_lt, lc_gt, lc_eq]
          exact g
        · have p := (hp hO k h0 kn).resolve_left n9
          have E3 : w32 (rwI h fr (i + k)) = rwI h fr (i + k) := w32_T (by omega)
          have W3 : ∀ Q, Sp fz1 (d + 3) 193 [(3, 836), (0, rwI h fr (i + k))] (cpyH h (h 643 1) T S k) Q = Q 1 (cpyH h (h 643 1) T S k) := fun Q => by
            rw [s193 (by rw [e36]; exact hc), e36, e92, if_pos (by omega)]
          rw [hO] at g
          rw [q219_7]
          simp (implicitDefEqProofs := false) (disch := omega) only [b219_7, b219_8, b219_9, b219_10, b219_11, q219_8, q219_9, q219_10, q219_11, x_aload0, x_bipush, y_call161, y_call162, y_call167, y_call170, y_call188, y_call193, x_gc_5123, x_gc_5131, x_gc_5139, x_goto_7, x_goto_9, x_iadd, x_iconst, x_ifCond_eq_10, x_ifCond_eq_8, x_ifCond_ne_10, x_if_icmp_ge_11, x_iinc8, x_iload1, x_iload2, x_iload3, x_iload4, x_iload5, x_iload6, x_iload7, x_iload8, x_iload9, x_istore9, x_isub, x_l2i, x_lcmp, x_lload10, x_lstore10, x_return, klp_0, klp_1, klp_2, klp_3, klp_9, KC_0, KC_1, KC_2, KC_3, KC_4, ne_eq, not_false_eq_true, not_true_eq_false, true_and, and_true, and_self, implies_true, eq_self, true_imp_iff, false_implies, Int.reduceEq, Int.reduceNe, Int.reduceMod, Int.reduceMul, Int.reduceAdd, Int.reduceSub, Int.reduceLT, Int.reduceLE, Nat.reduceAdd, Nat.reduceLeDiff, Nat.reduceLT, Nat.reduceSub, reduceIte, wds_n, wds_0, wds_1, wds_2, wds_3, or_true, true_or, or_false, false_or, or_self, false_and, and_false, d_pos, d_s1, d_s2, d_s3, d_s4, d_s5, d_s6, d_s7, d_s8, Classical.not_not, z1157_0, z1157_1, z1157_2, hO, W1, W2, W3, E1, E2, E3, n9, le_sub1, le_T, le_F, lt_T, lt_F, eq_F, w32_T, bz0, bz1, lc_le, lc_ge, lc_lt, lc_gt, lc_eq]
          exact g
      · have n9 : ¬ rwI h fr (i + k) = -9 := fun w => ok (.inl w)
        have p := (hp hO k h0 kn).resolve_left n9
        have E3 : w32 (rwI h fr (i + k)) = rwI h fr (i + k) := w32_T (by omega)
        have W3 : ∀ Q, Sp fz1 (d + 3) 193 [(3, 836), (0, rwI h fr (i + k))] (cpyH h (h 643 1) T S k) Q = Q 0 (cpyH h (h 643 1) T S k) := fun Q => by
          rw [s193 (by rw [e36]; exact hc), e36, e92, if_neg (by omega)]
        have FC : FOK (cpyH h (h 643 1) T S k) := by unfold FOK; rw [e57]; exact F
        have W4 : ∀ Q, Sp fz1 (d + 3) 188 [(3, 1157), (0, 6)] (cpyH h (h 643 1) T S k) Q = Q 0 (flH (cpyH h (h 643 1) T S k) 6) := fun Q => s188t FC
        have g := st k hO (by omega) kn (al hO) ok
        rw [q219_7]
        simp (implicitDefEqProofs := false) (disch := omega) only [b219_7, b219_8, b219_9, b219_10, b219_11, q219_8, q219_9, q219_10, q219_11, x_aload0, x_bipush, y_call161, y_call162, y_call167, y_call170, y_call188, y_call193, x_gc_5123, x_gc_5131, x_gc_5139, x_goto_7, x_goto_9, x_iadd, x_iconst, x_ifCond_eq_10, x_ifCond_eq_8, x_ifCond_ne_10, x_if_icmp_ge_11, x_iinc8, x_iload1, x_iload2, x_iload3, x_iload4, x_iload5, x_iload6, x_iload7, x_iload8, x_iload9, x_istore9, x_isub, x_l2i, x_lcmp, x_lload10, x_lstore10, x_return, klp_0, klp_1, klp_2, klp_3, klp_9, KC_0, KC_1, KC_2, KC_3, KC_4, ne_eq, not_false_eq_true, not_true_eq_false, true_and, and_true, and_self, implies_true, eq_self, true_imp_iff, false_implies, Int.reduceEq, Int.reduceNe, Int.reduceMod, Int.reduceMul, Int.reduceAdd, Int.reduceSub, Int.reduceLT, Int.reduceLE, Nat.reduceAdd, Nat.reduceLeDiff, Nat.reduceLT, Nat.reduceSub, reduceIte, wds_n, wds_0, wds_1, wds_2, wds_3, or_true, true_or, or_false, false_or, or_self, false_and, and_false, d_pos, d_s1, d_s2, d_s3, d_s4, d_s5, d_s6, d_s7, d_s8, Classical.not_not, z1157_0, z1157_1, z1157_2, hO, W1, W2, W3, W4, E1, E2, E3, n9, le_sub1, le_T, le_F, lt_T, lt_F, eq_F, w32_T, bz0, bz1, lc_le, lc_ge, lc_lt, lc_gt, lc_eq]
        exact g
theorem lp219b {d : Nat} {h : HV} {Q : Int → HV → Prop} {fr i j n : Int} (V : VOK h) (R : RW h) (D : h 1222 0 ≠ h 643 0 ∧ h 1222 1 ≠ h 643 1) (hf : 0 ≤ fr ∧ fr < h 643 2) (hi : 0 ≤ i ∧ i + n ≤ rwZ h fr) (hj : 0 ≤ j ∧ j + n ≤ rwZ h fr)
    (bw : i < j) (hn5 : 5 ≤ h 1222 2)  :
    ∀ (m : Nat) (k : Int) (a9 a10 : AV) (a11 : AV), k + m = n → 0 ≤ k →
    Q 0 (cutH (cpyH h (h 643 1) (h (h 643 0) fr + j) (h (h 643 0) fr + i) n) (h 1222 2 - 5)) →
    G fz1 (d + 4) 219 7 [(3, 1157), (0, fr), (0, fr), (0, i), (0, j), (0, n), (0, 0), (0, 1), (0, k), a9, a10, a11] [] (cpyH h (h 643 1) (h (h 643 0) fr + j + (n - k)) (h (h 643 0) fr + i + (n - k)) k) Q := by
  have f1 := R.1
  have f2 := R.2.1
  have v1 := V.1
  have v2 := V.2.1
  have w4 := V.2.2.2.1
  have w5 := V.2.2.2.2
  unfold NFA at f1 f2 v1 v2
  have r1 := R.2.2.1
  have zf := R.z hf.1 hf.2
  have sf := (R.2.2.2.2.2.2 fr hf.1 hf.2).2.2.2
  generalize hS : h (h 643 0) fr + i = S at *
  generalize hD : h (h 643 0) fr + j = T at *
  have e22 : ∀ k u v, cpyH h (h 643 1) u v k 1222 = h 1222 := fun k u v => cpy_ne (by omega)
  have e43 : ∀ k u v, cpyH h (h 643 1) u v k 643 = h 643 := fun k u v => cpy_ne (by omega)
  have e0 : ∀ k u v, cpyH h (h 643 1) u v k (h 643 0) = h (h 643 0) := fun k u v => cpy_ne (by omega)
  intro m
  induction m with
  | zero =>
    intro k a9 a10 a11 hk h0 g
    have : k = n := by omega
    subst this
    rw [show T + (k - k) = T by omega, show S + (k - k) = S by omega, q219_7]
    simp (implicitDefEqProofs := false) (disch := omega) only [b219_7, b219_8, b219_9, b219_10, b219_11, q219_8, q219_9, q219_10, q219_11, x_aload0, x_bipush, y_call161, y_call162, y_call167, y_call170, y_call188, y_call193, x_gc_5123, x_gc_5131, x_gc_5139, x_goto_7, x_goto_9, x_iadd, x_iconst, x_ifCond_eq_10, x_ifCond_eq_8, x_ifCond_ne_10, x_if_icmp_ge_11, x_iinc8, x_iload1, x_iload2, x_iload3, x_iload4, x_iload5, x_iload6, x_iload7, x_iload8, x_iload9, x_istore9, x_isub, x_l2i, x_lcmp, x_lload10, x_lstore10, x_return, klp_0, klp_1, klp_2, klp_3, klp_9, KC_0, KC_1, KC_2, KC_3, KC_4, ne_eq, not_false_eq_true, not_true_eq_false, true_and, and_true, and_self, implies_true, eq_self, true_imp_iff, false_implies, Int.reduceEq, Int.reduceNe, Int.reduceMod, Int.reduceMul, Int.reduceAdd, Int.reduceSub, Int.reduceLT, Int.reduceLE, Nat.reduceAdd, Nat.reduceLeDiff, Nat.reduceLT, Nat.reduceSub, reduceIte, wds_n, wds_0, wds_1, wds_2, wds_3, or_true, true_or, or_false, false_or, or_self, false_and, and_false, d_pos, d_s1, d_s2, d_s3, d_s4, d_s5, d_s6, d_s7, d_s8, Classical.not_not, z1157_0, z1157_1, z1157_2, e22, s170, s167, le_sub1, le_T, le_F, lt_T, lt_F, eq_F, w32_T, bz0, bz1, lc_le, lc_ge, lc_lt, lc_gt, lc_eq]
    exact g
  | succ m ih =>
    intro k a9 a10 a11 hk h0 en
    have kn : k < n := by omega
    have cs := cpy_b (h := h) (a := h 643 1) (dst := T) (src := S) (n := n) (k := k) ⟨h0, kn⟩ (by omega)
    generalize hU : cpyH h (h 643 1) (T + (n - k)) (S + (n - k)) k = U at *
    have RC : RW U := by rw [← hU]; exact (cpy_R R (by omega)).1
    have RZ : ∀ r, rwZ U r = rwZ h r := by rw [← hU]; exact (cpy_R R (by omega)).2
    have u43 : U 643 = h 643 := by rw [← hU]; exact e43 _ _ _
    have u0 : U (h 643 0) = h (h 643 0) := by rw [← hU]; exact e0 _ _ _
    have hx : 0 ≤ i + (n - 1 - k) ∧ (0 ≤ fr ∧ fr < U 643 2) ∧ i + (n - 1 - k) < rwZ U fr := by rw [u43, RZ]; omega
    have hy : 0 ≤ j + (n - 1 - k) ∧ (0 ≤ fr ∧ fr < U 643 2) ∧ j + (n - 1 - k) < rwZ U fr := by rw [u43, RZ]; omega
    have it : rwI U fr (i + (n - 1 - k)) = U (h 643 1) (S + (n - 1 - k)) := by
      unfold rwI
      rw [u43, u0, show h (h 643 0) fr + (i + (n - 1 - k)) = S + (n - 1 - k) by omega]
    have W1 : ∀ Q, Sp fz1 (d + 3) 161 [(3, 643), (0, fr), (0, i + (n - 1 - k))] U Q = Q (U (h 643 1) (S + (n - 1 - k))) U := fun Q => by
      rw [s161 RC, if_pos hx, it]
    have W2 : ∀ Q, Sp fz1 (d + 3) 162 [(3, 643), (0, fr), (0, j + (n - 1 - k)), (1, U (h 643 1) (S + (n - 1 - k)))] U Q = Q 0 (cpyH h (h 643 1) (T + (n - (k + 1))) (S + (n - (k + 1))) (k + 1)) := fun Q => by
      rw [s162 RC hy, u43, u0, show h (h 643 0) fr + (j + (n - 1 - k)) = T + (n - 1 - k) by omega, cs]
    have E0 : w32 (n - 1) = n - 1 := w32_T (by omega)
    have E4 : w32 (n - 1 - k) = n - 1 - k := w32_T (by omega)
    have E1 : w32 (i + (n - 1 - k)) = i + (n - 1 - k) := w32_T (by omega)
    have E2 : w32 (j + (n - 1 - k)) = j + (n - 1 - k) := w32_T (by omega)
    have g := ih (k + 1) (0, n - 1 - k) (1, U (h 643 1) (S + (n - 1 - k))) (9, 0) (by omega) (by omega) en
    rw [q219_7]
    simp (implicitDefEqProofs := false) (disch := omega) only [b219_7, b219_8, b219_9, b219_10, b219_11, q219_8, q219_9, q219_10, q219_11, x_aload0, x_bipush, y_call161, y_call162, y_call167, y_call170, y_call188, y_call193, x_gc_5123, x_gc_5131, x_gc_5139, x_goto_7, x_goto_9, x_iadd, x_iconst, x_ifCond_eq_10, x_ifCond_eq_8, x_ifCond_ne_10, x_if_icmp_ge_11, x_iinc8, x_iload1, x_iload2, x_iload3, x_iload4, x_iload5, x_iload6, x_iload7, x_iload8, x_iload9, x_istore9, x_isub, x_l2i, x_lcmp, x_lload10, x_lstore10, x_return, klp_0, klp_1, klp_2, klp_3, klp_9, KC_0, KC_1, KC_2, KC_3, KC_4, ne_eq, not_false_eq_true, not_true_eq_false, true_and, and_true, and_self, implies_true, eq_self, true_imp_iff, false_implies, Int.reduceEq, Int.reduceNe, Int.reduceMod, Int.reduceMul, Int.reduceAdd, Int.reduceSub, Int.reduceLT, Int.reduceLE, Nat.reduceAdd, Nat.reduceLeDiff, Nat.reduceLT, Nat.reduceSub, reduceIte, wds_n, wds_0, wds_1, wds_2, wds_3, or_true, true_or, or_false, false_or, or_self, false_and, and_false, d_pos, d_s1, d_s2, d_s3, d_s4, d_s5, d_s6, d_s7, d_s8, Classical.not_not, z1157_0, z1157_1, z1157_2, W1, W2, E0, E4, E1, E2, le_sub1, le_T, le_F, lt_T, lt_F, eq_F, w32_T, bz0, bz1, lc_le, lc_ge, lc_lt, lc_gt, lc_eq]
    exact g
