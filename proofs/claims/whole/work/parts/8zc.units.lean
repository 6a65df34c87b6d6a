/-! THE PURE SIDE, 185: lessons on both sides: units: printed by wip/tools/gen8zc.py -/
section SM
variable {bX : Int} {tp : Int → Int} {t T S s s1 s2 f : Int} {h hr g gr k kr m mr : HV} {Q : Int → HV → Prop} {d : Nat}
/-- units more of a lesson -/
def unH (T : Int) (h : HV) (l : Int) : Nat → HV
  | 0 => h
  | m + 1 => hset (hset (unH T h l m) (T + 1174) (h T 11 + m) l) T 11 (h T 11 + m + 1)
theorem un_T (hT : TC T) {l : Int} : ∀ m : Nat, unH T h l m T 11 = h T 11 + m
  | 0 => by rw [unH]; omega
  | m + 1 => by
    rw [unH, hcel1]
    omega
theorem un_i (hT : TC T) {l i : Int} (hi : i ≠ 11) : ∀ m : Nat, unH T h l m T i = h T i
  | 0 => rfl
  | m + 1 => by
    rw [unH, hcell hi, hs_ne (by omega), un_i hT hi m]
theorem un_o {l o : Int} (h1 : o ≠ T) (h2 : o ≠ T + 1174) : ∀ m : Nat, unH T h l m o = h o
  | 0 => rfl
  | m + 1 => by
    rw [unH, hs_ne h1, hs_ne h2, un_o h1 h2 m]
theorem un_n {l i : Int} : ∀ m : Nat, ¬ (h T 11 ≤ i ∧ i < h T 11 + m) → unH T h l m (T + 1174) i = h (T + 1174) i
  | 0, _ => rfl
  | m + 1, w => by
    rw [unH, hs_ne (by omega), hcell (by omega), un_n m (by omega)]
theorem un_y {l i : Int} : ∀ m : Nat, h T 11 ≤ i → i < h T 11 + m → unH T h l m (T + 1174) i = l
  | 0, a, b => by omega
  | m + 1, a, b => by
    by_cases c : i = h T 11 + m
    · rw [unH, hs_ne (by omega), c, hcel1]
    · rw [unH, hs_ne (by omega), hcell c, un_y m a (by omega)]
theorem TXun {l : Int} {m : Nat} (hT : TC T) : FIC T h (unH T h l m) := by
  have kT := kTC hT
  induction m with
  | zero => exact FIC.rfl'
  | succ m ih => exact ih.trans ((FIC.st (by omega) hT).trans (FIC.st (by omega) hT))
theorem sumI_3 {f : Int → Int} : ∀ n : Nat, (∀ i : Int, 0 ≤ i → i < n → 0 ≤ f i ∧ f i ≤ 3) → 0 ≤ sumI f n ∧ sumI f n ≤ 3 * n
  | 0, _ => by rw [sumI]; omega
  | n + 1, w => by
    have a := sumI_3 n (fun i i0 i1 => w i i0 (by omega))
    have b := w n (by omega) (by omega)
    rw [sumI]
    omega
theorem sumI_eq {f1 f2 : Int → Int} : ∀ n : Nat, (∀ i : Int, 0 ≤ i → i < n → f1 i = f2 i) → sumI f1 n = sumI f2 n
  | 0, _ => rfl
  | n + 1, w => by
    rw [sumI, sumI, sumI_eq n (fun i i0 i1 => w i i0 (by omega)), w n (by omega) (by omega)]
theorem sumI_stp {f : Int → Int} {n : Nat} (w : ∀ i : Int, 0 ≤ i → i < n → 0 ≤ f i ∧ f i ≤ 3) {l : Int} (l0 : 0 ≤ l) (l1 : l < n) : sumI f l.toNat + f l ≤ sumI f n := by
  induction n with
  | zero => omega
  | succ n ih =>
    have b := w n (by omega) (by omega)
    rw [sumI]
    by_cases c : l = n
    · have e : l.toNat = n := by omega
      rw [e, c]
      exact Int.le_refl _
    · have := ih (fun i i0 i1 => w i i0 (by omega)) (by omega)
      omega
theorem lp70 {l n : Int} (hT : TC T) (h0 : 0 ≤ h T 11) (h1 : h T 11 + n ≤ 36) : ∀ (m j : Nat), (j : Int) + m = n → G fz1 d 70 1 [(3, T), (0, l), (0, n), (0, (j : Int))] [] (unH T h l j) Q = Q 0 (unH T h l n.toNat)
  | 0, j, hj => by
    have kT := kTC hT
    have ge : n.toNat = j := by omega
    have e11 := un_T (h := h) (l := l) hT j
    have c1 : ¬ (j : Int) < n := by omega
    have c2 : True := trivial
    rw [ge, q70_1]
    simp (implicitDefEqProofs := false) (disch := omega) only [b70_1, b70_2, q70_2, x_aload0, x_dup0, x_dup3, x_gc_10323, x_gf_10328, x_goto_1, x_iadd, x_iastore, x_iconst, x_if_icmp_ge_2, x_iinc3, x_iload1, x_iload2, x_iload3, x_pf_10328, x_return, klp_0, klp_1, klp_2, klp_3, klp_9, KC_0, KC_1, KC_2, KC_3, KC_4, ne_eq, not_false_eq_true, not_true_eq_false, true_and, and_true, and_self, implies_true, eq_self, true_imp_iff, false_implies, Int.reduceEq, Int.reduceNe, Int.reduceMod, Int.reduceMul, Int.reduceAdd, Int.reduceSub, Int.reduceLT, Int.reduceLE, Nat.reduceAdd, Nat.reduceLeDiff, Nat.reduceLT, Nat.reduceSub, reduceIte, wds_n, wds_0, wds_1, wds_2, wds_3, or_true, true_or, or_false, false_or, or_self, false_and, and_false, d_pos, d_s1, d_s2, d_s3, d_s4, d_s5, d_s6, d_s7, d_s8, Classical.not_not, c10 hT, c10l hT, c10k hT, TC_0 hT, TC_k hT, e11, ge, c1, c2, d_s9, d_s10, d_s11, d_s12, d_s13, d_s14, d_s15, d_s16, d_s17, d_s18, d_s19, d_s20, d_s21, d_s22, d_s23, d_s24, d_s25, d_s26, d_s27, d_s28, d_s29, d_s30, hs_ne, hcell, hcel1, le_sub1, le_T, le_F, lt_T, lt_F, eq_F, w32_T, bz0, bz1, lc_le, lc_ge, lc_lt, lc_gt, lc_eq]
  | m + 1, j, hj => by
    have kT := kTC hT
    have ih : G fz1 d 70 1 [(3, T), (0, l), (0, n), (0, ((j + 1 : Nat) : Int))] [] (unH T h l (j + 1)) Q = Q 0 (unH T h l n.toNat) := lp70 hT h0 h1 m (j + 1) (by omega)
    have cs : ((j + 1 : Nat) : Int) = (j : Int) + 1 := by omega
    rw [cs, unH] at ih
    have e11 := un_T (h := h) (l := l) hT j
    have c1 : (j : Int) < n := by omega
    have c2 : True := trivial
    rw [← ih, q70_1]
    simp (implicitDefEqProofs := false) (disch := omega) only [b70_1, x_aload0, x_dup0, x_dup3, x_gc_10323, x_gf_10328, x_goto_1, x_iadd, x_iastore, x_iconst, x_if_icmp_ge_2, x_iinc3, x_iload1, x_iload2, x_iload3, x_pf_10328, klp_0, klp_1, klp_2, klp_3, klp_9, KC_0, KC_1, KC_2, KC_3, KC_4, ne_eq, not_false_eq_true, not_true_eq_false, true_and, and_true, and_self, implies_true, eq_self, true_imp_iff, false_implies, Int.reduceEq, Int.reduceNe, Int.reduceMod, Int.reduceMul, Int.reduceAdd, Int.reduceSub, Int.reduceLT, Int.reduceLE, Nat.reduceAdd, Nat.reduceLeDiff, Nat.reduceLT, Nat.reduceSub, reduceIte, wds_n, wds_0, wds_1, wds_2, wds_3, or_true, true_or, or_false, false_or, or_self, false_and, and_false, d_pos, d_s1, d_s2, d_s3, d_s4, d_s5, d_s6, d_s7, d_s8, Classical.not_not, c10 hT, c10l hT, c10k hT, TC_0 hT, TC_k hT, e11, c1, c2, d_s9, d_s10, d_s11, d_s12, d_s13, d_s14, d_s15, d_s16, d_s17, d_s18, d_s19, d_s20, d_s21, d_s22, d_s23, d_s24, d_s25, d_s26, d_s27, d_s28, d_s29, d_s30, hs_ne, hcell, hcel1, le_sub1, le_T, le_F, lt_T, lt_F, eq_F, w32_T, bz0, bz1, lc_le, lc_ge, lc_lt, lc_gt, lc_eq]
theorem c70 {l n : Int} (hT : TC T) (h0 : 0 ≤ h T 11) (h1 : h T 11 + n ≤ 36) (hn : 0 ≤ n) : Sp fz1 d 70 [(3, T), (0, l), (0, n)] h Q = Q 0 (unH T h l n.toNat) := by
  have z : G fz1 d 70 1 [(3, T), (0, l), (0, n), (0, 0)] [] h Q = Q 0 (unH T h l n.toNat) := lp70 hT h0 h1 n.toNat 0 (by omega)
  rw [← z]
  simp (implicitDefEqProofs := false) (disch := omega) only [sp70, b70_0, x_goto_1, x_iconst, x_istore3, klp_0, klp_1, klp_2, klp_3, klp_9, KC_0, KC_1, KC_2, KC_3, KC_4, ne_eq, not_false_eq_true, not_true_eq_false, true_and, and_true, and_self, implies_true, eq_self, true_imp_iff, false_implies, Int.reduceEq, Int.reduceNe, Int.reduceMod, Int.reduceMul, Int.reduceAdd, Int.reduceSub, Int.reduceLT, Int.reduceLE, Nat.reduceAdd, Nat.reduceLeDiff, Nat.reduceLT, Nat.reduceSub, reduceIte, wds_n, wds_0, wds_1, wds_2, wds_3, or_true, true_or, or_false, false_or, or_self, false_and, and_false, d_pos, d_s1, d_s2, d_s3, d_s4, d_s5, d_s6, d_s7, d_s8, Classical.not_not, c10 hT, c10l hT, c10k hT, TC_0 hT, TC_k hT, d_s9, d_s10, d_s11, d_s12, d_s13, d_s14, d_s15, d_s16, d_s17, d_s18, d_s19, d_s20, d_s21, d_s22, d_s23, d_s24, d_s25, d_s26, d_s27, d_s28, d_s29, d_s30, hs_ne, hcell, hcel1, le_sub1, le_T, le_F, lt_T, lt_F, eq_F, w32_T, bz0, bz1, lc_le, lc_ge, lc_lt, lc_gt, lc_eq]
end SM
