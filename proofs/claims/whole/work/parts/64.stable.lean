/-! THE PURE SIDE, 45: envy, the class: printed by wip/tools/gen64.py -/
theorem bfF_b (t : Int → Int) (r q : Int) : 0 ≤ bfF t r q ∧ bfF t r q ≤ 1 := by unfold bfF; split <;> decide
def rkC (h : HV) (p c : Int) : Int := fnx (fun k => h 3040 (p * 8 + k)) c (-1) (h 3104 p).toNat 0
def lsC (h : HV) (c : Int) : Int := lsF (h 3232) (fun p => h 3168 (p * 8 + c)) c (h 836 4).toNat
/-- who wants a course more than what is theirs; who could have it -/
def wnF (h : HV) (p c : Int) : Int := if 0 ≤ rkC h p c ∧ (h 3232 p = -9 ∨ rkC h p c < rkC h p (h 3232 p)) then 1 else 0
def cdF (h : HV) (p c : Int) : Int := if 0 < h 3360 c then 1 else if lsC h c < 0 then 0 else if bfF (fun q => h 3168 (q * 8 + c)) p (lsC h c) = 0 then 0 else 1
theorem s304 {d : Nat} {h : HV} {Q : Int → HV → Prop} {p c a b : Int} (hc : h 836 4 ≤ 24) (hp : 0 ≤ p ∧ p < h 836 4) (hn : 0 ≤ h 3104 p ∧ h 3104 p ≤ 8) (ha : fnx (fun k => h 3040 (p * 8 + k)) c (-1) (h 3104 p).toNat 0 = a) (hb : fnx (fun k => h 3040 (p * 8 + k)) (h 3232 p) (-1) (h 3104 p).toNat 0 = b) : Sp fz1 (d + 2) 304 [(3, 2953), (0, p), (0, c)] h Q = Q (if 0 ≤ a ∧ (h 3232 p = -9 ∨ a < b) then 1 else 0) h := by
  by_cases a1 : a < 0 <;> by_cases a2 : h 3232 p = -9 <;> by_cases a3 : a < b <;> (try (exfalso; omega)) <;> simp (implicitDefEqProofs := false) (disch := omega) only [sp304, b304_0, b304_1, b304_2, b304_3, q304_1, q304_2, q304_3, x_aload0, y_call273, x_freturn, x_gc_9259, x_goto_1, x_goto_3, x_iaload, x_iconst, x_ifCond_lt_2, x_if_icmp_eq_1, x_if_icmp_ge_2, x_iload1, x_iload2, x_iload3, x_istore3, klp_0, klp_1, klp_2, klp_3, klp_9, KC_0, KC_1, KC_2, KC_3, KC_4, ne_eq, not_false_eq_true, not_true_eq_false, true_and, and_true, and_self, implies_true, eq_self, true_imp_iff, false_implies, Int.reduceEq, Int.reduceNe, Int.reduceMod, Int.reduceMul, Int.reduceAdd, Int.reduceSub, Int.reduceLT, Int.reduceLE, Nat.reduceAdd, Nat.reduceLeDiff, Nat.reduceLT, Nat.reduceSub, reduceIte, wds_n, wds_0, wds_1, wds_2, wds_3, or_true, true_or, or_false, false_or, or_self, false_and, and_false, d_pos, d_s1, d_s2, d_s3, d_s4, d_s5, d_s6, d_s7, d_s8, Classical.not_not, z2953_5, z3232_l, s273 hc hp hn, ha, hb, a1, a2, a3, le_sub1, le_T, le_F, lt_T, lt_F, eq_F, w32_T, bz0, bz1, lc_le, lc_ge, lc_lt, lc_gt, lc_eq] <;> first | rfl | (rw [if_pos (by omega)] <;> rfl) | (rw [if_neg (by omega)] <;> rfl) | (exfalso; omega)
theorem s305a {d : Nat} {h : HV} {Q : Int → HV → Prop} {p c l : Int} (h24 : 0 ≤ h 836 4 ∧ h 836 4 ≤ 24) (hp : 0 ≤ p ∧ p < 24) (hc : 0 ≤ c ∧ c < 8) (hl : lsF (h 3232) (fun p => h 3168 (p * 8 + c)) c (h 836 4).toNat = l) (h0 : 0 < h 3360 c) : Sp fz1 (d + 4) 305 [(3, 2953), (0, p), (0, c)] h Q = Q (1) h := by
  simp (implicitDefEqProofs := false) (disch := omega) only [sp305, b305_0, b305_1, b305_2, b305_3, q305_1, q305_2, q305_3, x_aload0, y_call288, y_call290, y_call291, x_freturn, x_goto_1, x_goto_3, x_iconst, x_ifCond_eq_2, x_ifCond_lt_2, x_ifCond_ne_1, x_iload1, x_iload2, x_iload3, x_istore3, klp_0, klp_1, klp_2, klp_3, klp_9, KC_0, KC_1, KC_2, KC_3, KC_4, ne_eq, not_false_eq_true, not_true_eq_false, true_and, and_true, and_self, implies_true, eq_self, true_imp_iff, false_implies, Int.reduceEq, Int.reduceNe, Int.reduceMod, Int.reduceMul, Int.reduceAdd, Int.reduceSub, Int.reduceLT, Int.reduceLE, Nat.reduceAdd, Nat.reduceLeDiff, Nat.reduceLT, Nat.reduceSub, reduceIte, wds_n, wds_0, wds_1, wds_2, wds_3, or_true, true_or, or_false, false_or, or_self, false_and, and_false, d_pos, d_s1, d_s2, d_s3, d_s4, d_s5, d_s6, d_s7, d_s8, Classical.not_not, s288 hc, s290 h24 hc, hl, if_pos h0, le_sub1, le_T, le_F, lt_T, lt_F, eq_F, w32_T, bz0, bz1, lc_le, lc_ge, lc_lt, lc_gt, lc_eq] <;> first | rfl | (rw [if_pos (by omega)] <;> rfl) | (rw [if_neg (by omega)] <;> rfl) | (exfalso; omega)
theorem s305b {d : Nat} {h : HV} {Q : Int → HV → Prop} {p c l : Int} (h24 : 0 ≤ h 836 4 ∧ h 836 4 ≤ 24) (hp : 0 ≤ p ∧ p < 24) (hc : 0 ≤ c ∧ c < 8) (hl : lsF (h 3232) (fun p => h 3168 (p * 8 + c)) c (h 836 4).toNat = l) (h0 : ¬ 0 < h 3360 c) (h1 : l < 0) : Sp fz1 (d + 4) 305 [(3, 2953), (0, p), (0, c)] h Q = Q (0) h := by
  simp (implicitDefEqProofs := false) (disch := omega) only [sp305, b305_0, b305_1, b305_2, b305_3, q305_1, q305_2, q305_3, x_aload0, y_call288, y_call290, y_call291, x_freturn, x_goto_1, x_goto_3, x_iconst, x_ifCond_eq_2, x_ifCond_lt_2, x_ifCond_ne_1, x_iload1, x_iload2, x_iload3, x_istore3, klp_0, klp_1, klp_2, klp_3, klp_9, KC_0, KC_1, KC_2, KC_3, KC_4, ne_eq, not_false_eq_true, not_true_eq_false, true_and, and_true, and_self, implies_true, eq_self, true_imp_iff, false_implies, Int.reduceEq, Int.reduceNe, Int.reduceMod, Int.reduceMul, Int.reduceAdd, Int.reduceSub, Int.reduceLT, Int.reduceLE, Nat.reduceAdd, Nat.reduceLeDiff, Nat.reduceLT, Nat.reduceSub, reduceIte, wds_n, wds_0, wds_1, wds_2, wds_3, or_true, true_or, or_false, false_or, or_self, false_and, and_false, d_pos, d_s1, d_s2, d_s3, d_s4, d_s5, d_s6, d_s7, d_s8, Classical.not_not, s288 hc, s290 h24 hc, hl, if_neg h0, le_sub1, le_T, le_F, lt_T, lt_F, eq_F, w32_T, bz0, bz1, lc_le, lc_ge, lc_lt, lc_gt, lc_eq] <;> first | rfl | (rw [if_pos (by omega)] <;> rfl) | (rw [if_neg (by omega)] <;> rfl) | (exfalso; omega)
theorem s305c {d : Nat} {h : HV} {Q : Int → HV → Prop} {p c l : Int} (h24 : 0 ≤ h 836 4 ∧ h 836 4 ≤ 24) (hp : 0 ≤ p ∧ p < 24) (hc : 0 ≤ c ∧ c < 8) (hl : lsF (h 3232) (fun p => h 3168 (p * 8 + c)) c (h 836 4).toNat = l) (h0 : ¬ 0 < h 3360 c) (h1 : 0 ≤ l ∧ l < 24) : Sp fz1 (d + 4) 305 [(3, 2953), (0, p), (0, c)] h Q = Q (if bfF (fun q => h 3168 (q * 8 + c)) p l = 0 then 0 else 1) h := by
  by_cases a1 : bfF (fun q => h 3168 (q * 8 + c)) p l = 0 <;> (try (exfalso; omega)) <;> simp (implicitDefEqProofs := false) (disch := omega) only [sp305, b305_0, b305_1, b305_2, b305_3, q305_1, q305_2, q305_3, x_aload0, y_call288, y_call290, y_call291, x_freturn, x_goto_1, x_goto_3, x_iconst, x_ifCond_eq_2, x_ifCond_lt_2, x_ifCond_ne_1, x_iload1, x_iload2, x_iload3, x_istore3, klp_0, klp_1, klp_2, klp_3, klp_9, KC_0, KC_1, KC_2, KC_3, KC_4, ne_eq, not_false_eq_true, not_true_eq_false, true_and, and_true, and_self, implies_true, eq_self, true_imp_iff, false_implies, Int.reduceEq, Int.reduceNe, Int.reduceMod, Int.reduceMul, Int.reduceAdd, Int.reduceSub, Int.reduceLT, Int.reduceLE, Nat.reduceAdd, Nat.reduceLeDiff, Nat.reduceLT, Nat.reduceSub, reduceIte, wds_n, wds_0, wds_1, wds_2, wds_3, or_true, true_or, or_false, false_or, or_self, false_and, and_false, d_pos, d_s1, d_s2, d_s3, d_s4, d_s5, d_s6, d_s7, d_s8, Classical.not_not, s288 hc, s290 h24 hc, hl, if_neg h0, s291 hp h1 hc, a1, le_sub1, le_T, le_F, lt_T, lt_F, eq_F, w32_T, bz0, bz1, lc_le, lc_ge, lc_lt, lc_gt, lc_eq] <;> first | rfl | (rw [if_pos (by omega)] <;> rfl) | (rw [if_neg (by omega)] <;> rfl) | (exfalso; omega)
theorem s304w {d : Nat} {h : HV} {Q : Int → HV → Prop} {p c : Int} (hc : h 836 4 ≤ 24) (hp : 0 ≤ p ∧ p < h 836 4) (hn : 0 ≤ h 3104 p ∧ h 3104 p ≤ 8) : Sp fz1 (d + 2) 304 [(3, 2953), (0, p), (0, c)] h Q = Q (wnF h p c) h := by
  rw [s304 hc hp hn rfl rfl]
  rfl
theorem s305w {d : Nat} {h : HV} {Q : Int → HV → Prop} {p c : Int} (h24 : 0 ≤ h 836 4 ∧ h 836 4 ≤ 24) (hp : 0 ≤ p ∧ p < 24) (hc : 0 ≤ c ∧ c < 8) : Sp fz1 (d + 4) 305 [(3, 2953), (0, p), (0, c)] h Q = Q (cdF h p c) h := by
  have lb := lsF_b (pl := h 3232) (t := fun p => h 3168 (p * 8 + c)) (c := c) (h 836 4).toNat
  by_cases h0 : 0 < h 3360 c
  · rw [s305a h24 hp hc rfl h0]
    unfold cdF
    rw [if_pos h0]
  · by_cases h1 : lsC h c < 0
    · rw [s305b h24 hp hc rfl h0 h1]
      unfold cdF
      rw [if_neg h0, if_pos h1]
    · have h2 : 0 ≤ lsC h c ∧ lsC h c < 24 := by
        unfold lsC at h1 ⊢
        omega
      rw [s305c h24 hp hc rfl h0 h2]
      unfold cdF
      rw [if_neg h0, if_neg h1]
      rfl
/-- the first that is not 0 -/
def seC (e : Int → Int) : Nat → Int → Int
  | 0, _ => 0
  | n + 1, c => if e c ≠ 0 then e c else seC e n (c + 1)
theorem seC_c {e f : Int → Int} : ∀ (n : Nat) (c : Int), (∀ i, c ≤ i → i < c + n → e i = f i) → seC e n c = seC f n c
  | 0, _, _ => rfl
  | n + 1, c, h => by
    rw [seC, seC, h c (Int.le_refl _) (by omega), seC_c n (c + 1) (fun i a b => h i (by omega) (by omega))]
def enC (h : HV) (r c : Int) : Int := if wnF h r c ≠ 0 ∧ cdF h r c ≠ 0 then 1 + 100 * r + c else 0
theorem in303 {d : Nat} {h : HV} {Q : Int → HV → Prop} {r : Int} (hT : TC (h 64 8)) (ht : h 2953 1 = h 64 8) (hm : h (h 64 8 + 598) 5 ≤ 8) (h24 : 0 ≤ h 836 4 ∧ h 836 4 ≤ 24) (hr : 0 ≤ r ∧ r < h 836 4) (hn : 0 ≤ h 3104 r ∧ h 3104 r ≤ 8) (nx : seC (enC h r) (h (h 64 8 + 598) 5).toNat 0 = 0 → ∀ z, G fz1 (d + 5) 303 4 [(3, 2953), (0, r), z] [] h Q) (hQ : seC (enC h r) (h (h 64 8 + 598) 5).toNat 0 ≠ 0 → Q (seC (enC h r) (h (h 64 8 + 598) 5).toNat 0) h) : ∀ (n : Nat) (c : Int), 0 ≤ c → c + n = h (h 64 8 + 598) 5 → seC (enC h r) n c = seC (enC h r) (h (h 64 8 + 598) 5).toNat 0 → G fz1 (d + 5) 303 2 [(3, 2953), (0, r), (0, c)] [] h Q
  | 0, c, hc, he, hs => by
    refine G_in ?_
    simp (implicitDefEqProofs := false) (disch := omega) only [b303_2, x_aload0, y_call304, y_call305, y_call55, x_gf_9227, x_iadd, x_iconst, x_ifCond_eq_3, x_if_icmp_ge_4, x_iload1, x_iload2, x_imul, x_ireturn, klp_0, klp_1, klp_2, klp_3, klp_9, KC_0, KC_1, KC_2, KC_3, KC_4, ne_eq, not_false_eq_true, not_true_eq_false, true_and, and_true, and_self, implies_true, eq_self, true_imp_iff, false_implies, Int.reduceEq, Int.reduceNe, Int.reduceMod, Int.reduceMul, Int.reduceAdd, Int.reduceSub, Int.reduceLT, Int.reduceLE, Nat.reduceAdd, Nat.reduceLeDiff, Nat.reduceLT, Nat.reduceSub, reduceIte, wds_n, wds_0, wds_1, wds_2, wds_3, or_true, true_or, or_false, false_or, or_self, false_and, and_false, d_pos, d_s1, d_s2, d_s3, d_s4, d_s5, d_s6, d_s7, d_s8, Classical.not_not, ht, s55 (T := h 64 8) hT, TC_0 hT, TC_k hT, le_T, le_F, lt_T, lt_F, w32_T]
    exact nx hs.symm _
  | n + 1, c, hc, he, hs => by
    rw [seC] at hs
    have hc8 : 0 ≤ c ∧ c < 8 := by omega
    have r24 : 0 ≤ r ∧ r < 24 := by omega
    refine G_in ?_
    by_cases hw : wnF h r c = 0
    · rw [if_neg (fun w => w (by unfold enC; rw [if_neg (fun q => q.1 hw)]))] at hs
      simp (implicitDefEqProofs := false) (disch := omega) only [b303_2, b303_3, q303_3, x_aload0, y_call304, y_call305, y_call55, x_gf_9227, x_goto_2, x_iadd, x_iconst, x_ifCond_eq_3, x_if_icmp_ge_4, x_iinc2, x_iload1, x_iload2, x_imul, x_ireturn, klp_0, klp_1, klp_2, klp_3, klp_9, KC_0, KC_1, KC_2, KC_3, KC_4, ne_eq, not_false_eq_true, not_true_eq_false, true_and, and_true, and_self, implies_true, eq_self, true_imp_iff, false_implies, Int.reduceEq, Int.reduceNe, Int.reduceMod, Int.reduceMul, Int.reduceAdd, Int.reduceSub, Int.reduceLT, Int.reduceLE, Nat.reduceAdd, Nat.reduceLeDiff, Nat.reduceLT, Nat.reduceSub, reduceIte, wds_n, wds_0, wds_1, wds_2, wds_3, or_true, true_or, or_false, false_or, or_self, false_and, and_false, d_pos, d_s1, d_s2, d_s3, d_s4, d_s5, d_s6, d_s7, d_s8, Classical.not_not, ht, s55 (T := h 64 8) hT, TC_0 hT, TC_k hT, s304w h24.2 hr hn, eq_true hw, le_T, le_F, lt_T, lt_F, w32_T]
      exact in303 hT ht hm h24 hr hn nx hQ n (c + 1) (by omega) (by omega) hs
    · by_cases hd : cdF h r c = 0
      · rw [if_neg (fun w => w (by unfold enC; rw [if_neg (fun q => q.2 hd)]))] at hs
        simp (implicitDefEqProofs := false) (disch := omega) only [b303_2, b303_3, q303_3, x_aload0, y_call304, y_call305, y_call55, x_gf_9227, x_goto_2, x_iadd, x_iconst, x_ifCond_eq_3, x_if_icmp_ge_4, x_iinc2, x_iload1, x_iload2, x_imul, x_ireturn, klp_0, klp_1, klp_2, klp_3, klp_9, KC_0, KC_1, KC_2, KC_3, KC_4, ne_eq, not_false_eq_true, not_true_eq_false, true_and, and_true, and_self, implies_true, eq_self, true_imp_iff, false_implies, Int.reduceEq, Int.reduceNe, Int.reduceMod, Int.reduceMul, Int.reduceAdd, Int.reduceSub, Int.reduceLT, Int.reduceLE, Nat.reduceAdd, Nat.reduceLeDiff, Nat.reduceLT, Nat.reduceSub, reduceIte, wds_n, wds_0, wds_1, wds_2, wds_3, or_true, true_or, or_false, false_or, or_self, false_and, and_false, d_pos, d_s1, d_s2, d_s3, d_s4, d_s5, d_s6, d_s7, d_s8, Classical.not_not, ht, s55 (T := h 64 8) hT, TC_0 hT, TC_k hT, s304w h24.2 hr hn, hw, s305w h24 r24 hc8, eq_true hd, le_T, le_F, lt_T, lt_F, w32_T]
        exact in303 hT ht hm h24 hr hn nx hQ n (c + 1) (by omega) (by omega) hs
      · have ev : enC h r c = 1 + 100 * r + c := by unfold enC; rw [if_pos ⟨hw, hd⟩]
        rw [if_pos (by rw [ev]; omega), ev] at hs
        simp (implicitDefEqProofs := false) (disch := omega) only [b303_2, b303_3, q303_3, x_aload0, y_call304, y_call305, y_call55, x_gf_9227, x_goto_2, x_iadd, x_iconst, x_ifCond_eq_3, x_if_icmp_ge_4, x_iinc2, x_iload1, x_iload2, x_imul, x_ireturn, klp_0, klp_1, klp_2, klp_3, klp_9, KC_0, KC_1, KC_2, KC_3, KC_4, ne_eq, not_false_eq_true, not_true_eq_false, true_and, and_true, and_self, implies_true, eq_self, true_imp_iff, false_implies, Int.reduceEq, Int.reduceNe, Int.reduceMod, Int.reduceMul, Int.reduceAdd, Int.reduceSub, Int.reduceLT, Int.reduceLE, Nat.reduceAdd, Nat.reduceLeDiff, Nat.reduceLT, Nat.reduceSub, reduceIte, wds_n, wds_0, wds_1, wds_2, wds_3, or_true, true_or, or_false, false_or, or_self, false_and, and_false, d_pos, d_s1, d_s2, d_s3, d_s4, d_s5, d_s6, d_s7, d_s8, Classical.not_not, ht, s55 (T := h 64 8) hT, TC_0 hT, TC_k hT, s304w h24.2 hr hn, hw, s305w h24 r24 hc8, hd, le_T, le_F, lt_T, lt_F, w32_T]
        rw [← hs] at hQ
        exact hQ (by omega)
theorem lp303 {d : Nat} {h : HV} {Q : Int → HV → Prop} (hT : TC (h 64 8)) (ht : h 2953 1 = h 64 8) (hm : 0 ≤ h (h 64 8 + 598) 5 ∧ h (h 64 8 + 598) 5 ≤ 8) (h24 : 0 ≤ h 836 4 ∧ h 836 4 ≤ 24) (hn : ∀ r, 0 ≤ r → r < h 836 4 → 0 ≤ h 3104 r ∧ h 3104 r ≤ 8) : ∀ (n : Nat) (r : Int) (z : AV), 0 ≤ r → r + n = h 836 4 → Q (seC (fun r => seC (enC h r) (h (h 64 8 + 598) 5).toNat 0) n r) h → G fz1 (d + 5) 303 1 [(3, 2953), (0, r), z] [] h Q
  | 0, r, z, hr, he, hQ => by
    refine G_in ?_
    simp (implicitDefEqProofs := false) (disch := omega) only [b303_1, b303_5, q303_5, x_aload0, y_call132, x_gc_9219, x_goto_2, x_iconst, x_if_icmp_ge_5, x_iload1, x_ireturn, x_istore2, klp_0, klp_1, klp_2, klp_3, klp_9, KC_0, KC_1, KC_2, KC_3, KC_4, ne_eq, not_false_eq_true, not_true_eq_false, true_and, and_true, and_self, implies_true, eq_self, true_imp_iff, false_implies, Int.reduceEq, Int.reduceNe, Int.reduceMod, Int.reduceMul, Int.reduceAdd, Int.reduceSub, Int.reduceLT, Int.reduceLE, Nat.reduceAdd, Nat.reduceLeDiff, Nat.reduceLT, Nat.reduceSub, reduceIte, wds_n, wds_0, wds_1, wds_2, wds_3, or_true, true_or, or_false, false_or, or_self, false_and, and_false, d_pos, d_s1, d_s2, d_s3, d_s4, d_s5, d_s6, d_s7, d_s8, Classical.not_not, z2953_0, s132, le_T, le_F, lt_T, lt_F, w32_T]
    exact hQ
  | n + 1, r, z, hr, he, hQ => by
    rw [seC] at hQ
    refine G_in ?_
    simp (implicitDefEqProofs := false) (disch := omega) only [b303_1, x_aload0, y_call132, x_gc_9219, x_goto_2, x_iconst, x_if_icmp_ge_5, x_iload1, x_istore2, klp_0, klp_1, klp_2, klp_3, klp_9, KC_0, KC_1, KC_2, KC_3, KC_4, ne_eq, not_false_eq_true, not_true_eq_false, true_and, and_true, and_self, implies_true, eq_self, true_imp_iff, false_implies, Int.reduceEq, Int.reduceNe, Int.reduceMod, Int.reduceMul, Int.reduceAdd, Int.reduceSub, Int.reduceLT, Int.reduceLE, Nat.reduceAdd, Nat.reduceLeDiff, Nat.reduceLT, Nat.reduceSub, reduceIte, wds_n, wds_0, wds_1, wds_2, wds_3, or_true, true_or, or_false, false_or, or_self, false_and, and_false, d_pos, d_s1, d_s2, d_s3, d_s4, d_s5, d_s6, d_s7, d_s8, Classical.not_not, z2953_0, s132, le_T, le_F, lt_T, lt_F, w32_T]
    refine in303 (d := d) hT ht hm.2 h24 (by omega) (hn r hr (by omega)) (fun e y => ?_) (fun e => ?_) (h (h 64 8 + 598) 5).toNat 0 (by decide) (by omega) rfl
    · rw [if_neg (fun w => w e)] at hQ
      refine G_in ?_
      simp (implicitDefEqProofs := false) (disch := omega) only [b303_4, q303_4, x_goto_1, x_iinc1, klp_0, klp_1, klp_2, klp_3, klp_9, KC_0, KC_1, KC_2, KC_3, KC_4, ne_eq, not_false_eq_true, not_true_eq_false, true_and, and_true, and_self, implies_true, eq_self, true_imp_iff, false_implies, Int.reduceEq, Int.reduceNe, Int.reduceMod, Int.reduceMul, Int.reduceAdd, Int.reduceSub, Int.reduceLT, Int.reduceLE, Nat.reduceAdd, Nat.reduceLeDiff, Nat.reduceLT, Nat.reduceSub, reduceIte, wds_n, wds_0, wds_1, wds_2, wds_3, or_true, true_or, or_false, false_or, or_self, false_and, and_false, d_pos, d_s1, d_s2, d_s3, d_s4, d_s5, d_s6, d_s7, d_s8, Classical.not_not, le_T, le_F, lt_T, lt_F, w32_T]
      exact lp303 hT ht hm h24 hn n (r + 1) y (by omega) (by omega) hQ
    · rw [if_pos e] at hQ
      exact hQ
/-- the answer of stable -/
def stC (h : HV) : Int := seC (fun r => seC (enC h r) (h (h 64 8 + 598) 5).toNat 0) (h 836 4).toNat 0
theorem s303 {d : Nat} {h : HV} {Q : Int → HV → Prop} (X : RTx h) (h24 : 0 ≤ h 836 4 ∧ h 836 4 ≤ 24) (C : RPc h) (hn : ∀ r, 0 ≤ r → r < h 836 4 → 0 ≤ h 3104 r ∧ h 3104 r ≤ 8) : Sp fz1 (d + 5) 303 [(3, 2953)] h Q = Q (stC (lfH h (h (h 64 8 + 598) 5) (h 836 4).toNat)) (lfH h (h (h 64 8 + 598) 5) (h 836 4).toNat) := by
  refine Sp_is ?_ Q
  have hT := X.1
  have X5 := rtx_5 X
  have T1 : h 64 8 + 598 ≠ 3360 := by rcases hT with w | w <;> omega
  simp (implicitDefEqProofs := false) (disch := omega) only [sp303, b303_0, b303_1, b303_2, b303_3, b303_4, b303_5, q303_2, q303_3, q303_4, q303_5, x_aload0, y_call132, y_call285, y_call304, y_call305, y_call55, x_gc_9219, x_gf_9227, x_goto_1, x_goto_2, x_iadd, x_iconst, x_ifCond_eq_3, x_if_icmp_ge_4, x_if_icmp_ge_5, x_iinc1, x_iinc2, x_iload1, x_iload2, x_imul, x_ireturn, x_istore1, x_istore2, klp_0, klp_1, klp_2, klp_3, klp_9, KC_0, KC_1, KC_2, KC_3, KC_4, ne_eq, not_false_eq_true, not_true_eq_false, true_and, and_true, and_self, implies_true, eq_self, true_imp_iff, false_implies, Int.reduceEq, Int.reduceNe, Int.reduceMod, Int.reduceMul, Int.reduceAdd, Int.reduceSub, Int.reduceLT, Int.reduceLE, Nat.reduceAdd, Nat.reduceLeDiff, Nat.reduceLT, Nat.reduceSub, reduceIte, wds_n, wds_0, wds_1, wds_2, wds_3, or_true, true_or, or_false, false_or, or_self, false_and, and_false, d_pos, d_s1, d_s2, d_s3, d_s4, d_s5, d_s6, d_s7, d_s8, Classical.not_not, s285 X h24 C]
  have e1 : ∀ a, a ≠ 3360 → lfH h (h (h 64 8 + 598) 5) (h 836 4).toNat a = h a := fun a ha => lfH_ne ha
  generalize lfH h (h (h 64 8 + 598) 5) (h 836 4).toNat = H at *
  have a1 := e1 64 (by decide)
  have a2 := e1 836 (by decide)
  have a3 := e1 2953 (by decide)
  have a4 := e1 3104 (by decide)
  have a5 := e1 _ T1
  rw [← a1] at a5
  have a6 : H (H 64 8 + 598) = h (h 64 8 + 598) := by rw [a5, a1]
  refine lp303 (by rw [a1]; exact hT) (by rw [a3, a1]; exact C.1) (by rw [a6]; exact X5.2) (by rw [a2]; exact h24) (by rw [a2, a4]; exact hn) (H 836 4).toNat 0 _ (by decide) (by rw [a2]; omega) ⟨rfl, rfl⟩
