/-! THE PURE SIDE, 150: terms, sums and exps on both sides: printed by wip/tools/gen8c.py -/
def EXPP (tp : Int → Int) (t T S : Int) (m rm : Nat) (dep : Int) (B : Nat) : Prop := ∀ (dc dr : Nat) (s : Int) (h hr : HV), B ≤ dc → B ≤ dr → GD 1 tp t T S s h hr → hr 6603 12 = dep ∧ 1 ≤ h 258 11 ∧ h 258 11 ≤ dep + 1 → ∃ g gr, (∀ Q, Sp fz1 dc m [(3, 258), (0, dep)] h Q = Q 0 g) ∧ (∀ Q, Sp fz1 dr rm [(3, 6603)] hr Q = Q 0 gr) ∧ OUTC 1 tp t T S s h hr g gr 1 0
/-- an exp that lies in another one -/
def EXPQ (tp : Int → Int) (t T S : Int) (dep : Int) (B : Nat) : Prop := ∀ (dc dr : Nat) (s : Int) (h hr : HV), B ≤ dc → B ≤ dr → GD 1 tp t T S s h hr → hr 6603 12 = dep ∧ 1 ≤ h 258 11 ∧ h 258 11 ≤ dep → ∃ g gr, (∀ Q, Sp fz1 dc 86 [(3, 258), (0, dep)] h Q = Q 0 g) ∧ (∀ Q, Sp fz1 dr 350 [(3, 6603)] hr Q = Q 0 gr) ∧ OUTC 1 tp t T S s h hr g gr 1 0
section SM
variable {bX : Int} {tp : Int → Int} {t T S s s1 s2 f : Int} {h hr g gr k kr : HV} {Q : Int → HV → Prop} {d : Nat}
theorem x88 {dep n : Int} {lx : AV} (B : BDC T f h) (hn : 0 ≤ n) : G fz1 (d + 12) 88 1 [(3, 258), (0, dep), (0, n), lx] [] h Q = Q 0 h := by
  have k2 := B.k.2.2
  have k4 := B.2.2.1
  have fs : ∀ Q, Sp fz1 (d + 11) 111 [(3, 129), (3, NV_1203)] h Q = Q (-1) h := fun Q => by rw [NV_1203_e]; exact c111b k2 (str_9 k4) (by decide) (by decide)
  rw [q88_1]
  by_cases z : n < 30
  · simp (implicitDefEqProofs := false) (disch := omega) only [n88_1, b88_2, q88_2, x_aload0, y_call111, y_call28, y_call89, y_call90, y_call93, x_gc_2051, x_goto_1, x_iadd, x_iconst, x_ifCond_lt_2, x_if_icmp_ge_2, x_iinc2, x_iload1, x_iload2, x_iload3, x_istore3, x_jsr, x_return, klp_0, klp_1, klp_2, klp_3, klp_9, KC_0, KC_1, KC_2, KC_3, KC_4, ne_eq, not_false_eq_true, not_true_eq_false, true_and, and_true, and_self, implies_true, eq_self, true_imp_iff, false_implies, Int.reduceEq, Int.reduceNe, Int.reduceMod, Int.reduceMul, Int.reduceAdd, Int.reduceSub, Int.reduceLT, Int.reduceLE, Nat.reduceAdd, Nat.reduceLeDiff, Nat.reduceLT, Nat.reduceSub, reduceIte, wds_n, wds_0, wds_1, wds_2, wds_3, or_true, true_or, or_false, false_or, or_self, false_and, and_false, d_pos, d_s1, d_s2, d_s3, d_s4, d_s5, d_s6, d_s7, d_s8, Classical.not_not, z258_0, fs, d_s9, d_s10, d_s11, d_s12, d_s13, d_s14, d_s15, d_s16, d_s17, d_s18, d_s19, d_s20, d_s21, d_s22, d_s23, d_s24, d_s25, d_s26, d_s27, d_s28, d_s29, d_s30, le_sub1, le_T, le_F, lt_T, lt_F, eq_F, w32_T, bz0, bz1, lc_le, lc_ge, lc_lt, lc_gt, lc_eq]
  · simp (implicitDefEqProofs := false) (disch := omega) only [n88_1, b88_2, q88_2, x_aload0, y_call111, y_call28, y_call89, y_call90, y_call93, x_gc_2051, x_goto_1, x_iadd, x_iconst, x_ifCond_lt_2, x_if_icmp_ge_2, x_iinc2, x_iload1, x_iload2, x_iload3, x_istore3, x_jsr, x_return, klp_0, klp_1, klp_2, klp_3, klp_9, KC_0, KC_1, KC_2, KC_3, KC_4, ne_eq, not_false_eq_true, not_true_eq_false, true_and, and_true, and_self, implies_true, eq_self, true_imp_iff, false_implies, Int.reduceEq, Int.reduceNe, Int.reduceMod, Int.reduceMul, Int.reduceAdd, Int.reduceSub, Int.reduceLT, Int.reduceLE, Nat.reduceAdd, Nat.reduceLeDiff, Nat.reduceLT, Nat.reduceSub, reduceIte, wds_n, wds_0, wds_1, wds_2, wds_3, or_true, true_or, or_false, false_or, or_self, false_and, and_false, d_pos, d_s1, d_s2, d_s3, d_s4, d_s5, d_s6, d_s7, d_s8, Classical.not_not, z258_0, fs, d_s9, d_s10, d_s11, d_s12, d_s13, d_s14, d_s15, d_s16, d_s17, d_s18, d_s19, d_s20, d_s21, d_s22, d_s23, d_s24, d_s25, d_s26, d_s27, d_s28, d_s29, d_s30, le_sub1, le_T, le_F, lt_T, lt_F, eq_F, w32_T, bz0, bz1, lc_le, lc_ge, lc_lt, lc_gt, lc_eq]
theorem y352 {ly : AV} (hf : 0 ≤ hr 6603 7) : G fz1 (d + 12) 352 1 [(3, 6603), ly] [] hr Q = Q 0 hr := by
  have q0 : ∀ (d : Nat) Q, Sp fz1 d 325 [(3, 6603)] hr Q = Q 0 hr := fun d Q => by rw [v325, if_neg (by omega)]
  rw [q352_1]
  simp (implicitDefEqProofs := false) (disch := omega) only [b352_1, b352_4, q352_4, x_aload0, y_call325, y_call334, x_goto_2, x_iconst, x_ifCond_eq_4, x_ifCond_ne_2, x_return, klp_0, klp_1, klp_2, klp_3, klp_9, KC_0, KC_1, KC_2, KC_3, KC_4, ne_eq, not_false_eq_true, not_true_eq_false, true_and, and_true, and_self, implies_true, eq_self, true_imp_iff, false_implies, Int.reduceEq, Int.reduceNe, Int.reduceMod, Int.reduceMul, Int.reduceAdd, Int.reduceSub, Int.reduceLT, Int.reduceLE, Nat.reduceAdd, Nat.reduceLeDiff, Nat.reduceLT, Nat.reduceSub, reduceIte, wds_n, wds_0, wds_1, wds_2, wds_3, or_true, true_or, or_false, false_or, or_self, false_and, and_false, d_pos, d_s1, d_s2, d_s3, d_s4, d_s5, d_s6, d_s7, d_s8, Classical.not_not, z6603_0, z6691_l, q0, d_s9, d_s10, d_s11, d_s12, d_s13, d_s14, d_s15, d_s16, d_s17, d_s18, d_s19, d_s20, d_s21, d_s22, d_s23, d_s24, d_s25, d_s26, d_s27, d_s28, d_s29, d_s30, le_sub1, le_T, le_F, lt_T, lt_F, eq_F, w32_T, bz0, bz1, lc_le, lc_ge, lc_lt, lc_gt, lc_eq]
theorem hd88 (D : GD 1 tp t T S s h hr) : ∃ v, (∀ (d : Nat) Q, Sp fz1 (d + 7) 111 [(3, 129), (3, NV_1203)] h Q = Q v h) ∧ ((v = -1 ∧ ¬ sgP tp t s 42 ∧ ¬ sgP tp t s 47 ∧ ¬ sgP tp t s 37) ∨ (v = 0 ∧ sgP tp t s 42) ∨ (v = 1 ∧ sgP tp t s 47) ∨ (v = 2 ∧ sgP tp t s 37)) := by
  have k1 := D.1.2.1
  have S1 := D.2.2.1.1
  have e : ∀ (d : Nat) Q, Sp fz1 (d + 7) 111 [(3, 129), (3, NV_1203)] h Q = Q (if tkK tp t s = 4 then ixF (tp s) [42, 47, 37] 0 else -1) h := fun d Q => by
    rw [NV_1203_e]
    exact c111 k1 D.1.1 (str_9 S1) (by decide) (by decide)
  refine ⟨_, e, ?_⟩
  by_cases z : tkK tp t s = 4
  · rw [if_pos z]
    unfold sgP
    simp (implicitDefEqProofs := false) only [ixF, z, true_and]
    by_cases z0 : tp s = 42
    · simp [z0]
    by_cases z1 : tp s = 47
    · simp [z1]
    by_cases z2 : tp s = 37
    · simp [z2]
    simp [z0, z1, z2, Ne.symm, eq_comm]
    try omega
  · rw [if_neg z]
    exact .inl ⟨rfl, fun w => z w.1, fun w => z w.1, fun w => z w.1⟩
theorem hr352_n {ly : AV} (D : GD 1 tp t T S s h hr) (w42 : ¬ sgP tp t s 42) (w47 : ¬ sgP tp t s 47) (w37 : ¬ sgP tp t s 37) : G fz1 (d + 12) 352 1 [(3, 6603), ly] [] hr Q = Q 0 hr := by
  have F := D.f
  have q0 : ∀ (d : Nat) Q, Sp fz1 d 325 [(3, 6603)] hr Q = Q 1 hr := fun d Q => by rw [v325, if_pos (by omega)]
  have i42 : ∀ (d : Nat) Q, Sp fz1 d 334 [(3, 6603), (0, 42)] hr Q = Q 0 hr := fun d Q => by rw [v334 D.1.2.2 D.1.1]; exact congrArg (fun x => Q x hr) (if_neg w42)
  have i47 : ∀ (d : Nat) Q, Sp fz1 d 334 [(3, 6603), (0, 47)] hr Q = Q 0 hr := fun d Q => by rw [v334 D.1.2.2 D.1.1]; exact congrArg (fun x => Q x hr) (if_neg w47)
  have i37 : ∀ (d : Nat) Q, Sp fz1 d 334 [(3, 6603), (0, 37)] hr Q = Q 0 hr := fun d Q => by rw [v334 D.1.2.2 D.1.1]; exact congrArg (fun x => Q x hr) (if_neg w37)
  rw [q352_1]
  simp (implicitDefEqProofs := false) (disch := omega) only [b352_1, b352_4, q352_4, x_aload0, y_call325, y_call334, x_goto_2, x_iconst, x_ifCond_eq_4, x_ifCond_ne_2, x_return, klp_0, klp_1, klp_2, klp_3, klp_9, KC_0, KC_1, KC_2, KC_3, KC_4, ne_eq, not_false_eq_true, not_true_eq_false, true_and, and_true, and_self, implies_true, eq_self, true_imp_iff, false_implies, Int.reduceEq, Int.reduceNe, Int.reduceMod, Int.reduceMul, Int.reduceAdd, Int.reduceSub, Int.reduceLT, Int.reduceLE, Nat.reduceAdd, Nat.reduceLeDiff, Nat.reduceLT, Nat.reduceSub, reduceIte, wds_n, wds_0, wds_1, wds_2, wds_3, or_true, true_or, or_false, false_or, or_self, false_and, and_false, d_pos, d_s1, d_s2, d_s3, d_s4, d_s5, d_s6, d_s7, d_s8, Classical.not_not, z6603_0, z6691_l, q0, i42, i47, i37, d_s9, d_s10, d_s11, d_s12, d_s13, d_s14, d_s15, d_s16, d_s17, d_s18, d_s19, d_s20, d_s21, d_s22, d_s23, d_s24, d_s25, d_s26, d_s27, d_s28, d_s29, d_s30, le_sub1, le_T, le_F, lt_T, lt_F, eq_F, w32_T, bz0, bz1, lc_le, lc_ge, lc_lt, lc_gt, lc_eq]
theorem hr352_42 {ly : AV} (D : GD 1 tp t T S s h hr) (w : sgP tp t s 42) : G fz1 (d + 12) 352 1 [(3, 6603), ly] [] hr Q = G fz1 (d + 12) 352 2 [(3, 6603), ly] [] hr Q := by
  have F := D.f
  have q0 : ∀ (d : Nat) Q, Sp fz1 d 325 [(3, 6603)] hr Q = Q 1 hr := fun d Q => by rw [v325, if_pos (by omega)]
  have i42 : ∀ (d : Nat) Q, Sp fz1 d 334 [(3, 6603), (0, 42)] hr Q = Q 1 hr := fun d Q => by rw [v334 D.1.2.2 D.1.1]; exact congrArg (fun x => Q x hr) (if_pos w)
  rw [q352_1]
  simp (implicitDefEqProofs := false) (disch := omega) only [b352_1, x_aload0, y_call325, y_call334, x_goto_2, x_iconst, x_ifCond_eq_4, x_ifCond_ne_2, klp_0, klp_1, klp_2, klp_3, klp_9, KC_0, KC_1, KC_2, KC_3, KC_4, ne_eq, not_false_eq_true, not_true_eq_false, true_and, and_true, and_self, implies_true, eq_self, true_imp_iff, false_implies, Int.reduceEq, Int.reduceNe, Int.reduceMod, Int.reduceMul, Int.reduceAdd, Int.reduceSub, Int.reduceLT, Int.reduceLE, Nat.reduceAdd, Nat.reduceLeDiff, Nat.reduceLT, Nat.reduceSub, reduceIte, wds_n, wds_0, wds_1, wds_2, wds_3, or_true, true_or, or_false, false_or, or_self, false_and, and_false, d_pos, d_s1, d_s2, d_s3, d_s4, d_s5, d_s6, d_s7, d_s8, Classical.not_not, z6603_0, z6691_l, q0, i42, d_s9, d_s10, d_s11, d_s12, d_s13, d_s14, d_s15, d_s16, d_s17, d_s18, d_s19, d_s20, d_s21, d_s22, d_s23, d_s24, d_s25, d_s26, d_s27, d_s28, d_s29, d_s30, le_sub1, le_T, le_F, lt_T, lt_F, eq_F, w32_T, bz0, bz1, lc_le, lc_ge, lc_lt, lc_gt, lc_eq]
theorem hr352_47 {ly : AV} (D : GD 1 tp t T S s h hr) (w : sgP tp t s 47) : G fz1 (d + 12) 352 1 [(3, 6603), ly] [] hr Q = G fz1 (d + 12) 352 2 [(3, 6603), ly] [] hr Q := by
  have F := D.f
  have q0 : ∀ (d : Nat) Q, Sp fz1 d 325 [(3, 6603)] hr Q = Q 1 hr := fun d Q => by rw [v325, if_pos (by omega)]
  have i42 : ∀ (d : Nat) Q, Sp fz1 d 334 [(3, 6603), (0, 42)] hr Q = Q 0 hr := fun d Q => by rw [v334 D.1.2.2 D.1.1]; exact congrArg (fun x => Q x hr) (if_neg (fun u => by have a := w.2; have b := u.2; omega))
  have i47 : ∀ (d : Nat) Q, Sp fz1 d 334 [(3, 6603), (0, 47)] hr Q = Q 1 hr := fun d Q => by rw [v334 D.1.2.2 D.1.1]; exact congrArg (fun x => Q x hr) (if_pos w)
  rw [q352_1]
  simp (implicitDefEqProofs := false) (disch := omega) only [b352_1, x_aload0, y_call325, y_call334, x_goto_2, x_iconst, x_ifCond_eq_4, x_ifCond_ne_2, klp_0, klp_1, klp_2, klp_3, klp_9, KC_0, KC_1, KC_2, KC_3, KC_4, ne_eq, not_false_eq_true, not_true_eq_false, true_and, and_true, and_self, implies_true, eq_self, true_imp_iff, false_implies, Int.reduceEq, Int.reduceNe, Int.reduceMod, Int.reduceMul, Int.reduceAdd, Int.reduceSub, Int.reduceLT, Int.reduceLE, Nat.reduceAdd, Nat.reduceLeDiff, Nat.reduceLT, Nat.reduceSub, reduceIte, wds_n, wds_0, wds_1, wds_2, wds_3, or_true, true_or, or_false, false_or, or_self, false_and, and_false, d_pos, d_s1, d_s2, d_s3, d_s4, d_s5, d_s6, d_s7, d_s8, Classical.not_not, z6603_0, z6691_l, q0, i42, i47, d_s9, d_s10, d_s11, d_s12, d_s13, d_s14, d_s15, d_s16, d_s17, d_s18, d_s19, d_s20, d_s21, d_s22, d_s23, d_s24, d_s25, d_s26, d_s27, d_s28, d_s29, d_s30, le_sub1, le_T, le_F, lt_T, lt_F, eq_F, w32_T, bz0, bz1, lc_le, lc_ge, lc_lt, lc_gt, lc_eq]
theorem hr352_37 {ly : AV} (D : GD 1 tp t T S s h hr) (w : sgP tp t s 37) : G fz1 (d + 12) 352 1 [(3, 6603), ly] [] hr Q = G fz1 (d + 12) 352 2 [(3, 6603), ly] [] hr Q := by
  have F := D.f
  have q0 : ∀ (d : Nat) Q, Sp fz1 d 325 [(3, 6603)] hr Q = Q 1 hr := fun d Q => by rw [v325, if_pos (by omega)]
  have i42 : ∀ (d : Nat) Q, Sp fz1 d 334 [(3, 6603), (0, 42)] hr Q = Q 0 hr := fun d Q => by rw [v334 D.1.2.2 D.1.1]; exact congrArg (fun x => Q x hr) (if_neg (fun u => by have a := w.2; have b := u.2; omega))
  have i47 : ∀ (d : Nat) Q, Sp fz1 d 334 [(3, 6603), (0, 47)] hr Q = Q 0 hr := fun d Q => by rw [v334 D.1.2.2 D.1.1]; exact congrArg (fun x => Q x hr) (if_neg (fun u => by have a := w.2; have b := u.2; omega))
  have i37 : ∀ (d : Nat) Q, Sp fz1 d 334 [(3, 6603), (0, 37)] hr Q = Q 1 hr := fun d Q => by rw [v334 D.1.2.2 D.1.1]; exact congrArg (fun x => Q x hr) (if_pos w)
  rw [q352_1]
  simp (implicitDefEqProofs := false) (disch := omega) only [b352_1, x_aload0, y_call325, y_call334, x_goto_2, x_iconst, x_ifCond_eq_4, x_ifCond_ne_2, klp_0, klp_1, klp_2, klp_3, klp_9, KC_0, KC_1, KC_2, KC_3, KC_4, ne_eq, not_false_eq_true, not_true_eq_false, true_and, and_true, and_self, implies_true, eq_self, true_imp_iff, false_implies, Int.reduceEq, Int.reduceNe, Int.reduceMod, Int.reduceMul, Int.reduceAdd, Int.reduceSub, Int.reduceLT, Int.reduceLE, Nat.reduceAdd, Nat.reduceLeDiff, Nat.reduceLT, Nat.reduceSub, reduceIte, wds_n, wds_0, wds_1, wds_2, wds_3, or_true, true_or, or_false, false_or, or_self, false_and, and_false, d_pos, d_s1, d_s2, d_s3, d_s4, d_s5, d_s6, d_s7, d_s8, Classical.not_not, z6603_0, z6691_l, q0, i42, i47, i37, d_s9, d_s10, d_s11, d_s12, d_s13, d_s14, d_s15, d_s16, d_s17, d_s18, d_s19, d_s20, d_s21, d_s22, d_s23, d_s24, d_s25, d_s26, d_s27, d_s28, d_s29, d_s30, le_sub1, le_T, le_F, lt_T, lt_F, eq_F, w32_T, bz0, bz1, lc_le, lc_ge, lc_lt, lc_gt, lc_eq]
theorem lp88 {dep : Int} {B e e2 : Nat} (hB : B ≤ e + 11) (hB2 : B ≤ e2 + 11) (O : EXPP tp t T S 89 353 dep B) : ∀ (m : Nat) (n : Int) (lx ly : AV) (s : Int) (h hr : HV), n + m = 30 → 0 ≤ n → n + 1 ≤ h 258 3 → GD 1 tp t T S s h hr → hr 6603 12 = dep ∧ 1 ≤ h 258 11 ∧ h 258 11 ≤ dep + 1 → ∃ g gr, (∀ Q, G fz1 (e + 12) 88 1 [(3, 258), (0, dep), (0, n), lx] [] h Q = Q 0 g) ∧ (∀ Q, G fz1 (e2 + 12) 352 1 [(3, 6603), ly] [] hr Q = Q 0 gr) ∧ OUTC 1 tp t T S s h hr g gr 0 1
  | 0, n, lx, ly, s, h, hr, hm, h0, hn, D, hd => by
    have N := D.nb
    unfold NBR STQ at N
    omega
  | m + 1, n, lx, ly, s, h, hr, hm, h0, hn, D, hd => by
    have N := D.nb
    unfold NBR STQ at N
    have F := D.f
    obtain ⟨v, fs, hv⟩ := hd88 D
    have fs1 : ∀ Q, Sp fz1 (e + 11) 111 [(3, 129), (3, NV_1203)] h Q = Q v h := fun Q => fs (e + 4) Q
    have RD : (v = -1 ∧ ¬ sgP tp t s 42 ∧ ¬ sgP tp t s 47 ∧ ¬ sgP tp t s 37) ∨ ∃ c, (0 ≤ v ∧ v ≤ 2) ∧ sgP tp t s c ∧ wkO (2 + v) c ∧ ∀ Q, G fz1 (e2 + 12) 352 1 [(3, 6603), ly] [] hr Q = G fz1 (e2 + 12) 352 2 [(3, 6603), ly] [] hr Q := by
      rcases hv with w | w | w | w
      · exact .inl w
      · exact .inr ⟨42, by omega, w.2, by unfold wkO; omega, fun Q => hr352_42 D w.2⟩
      · exact .inr ⟨47, by omega, w.2, by unfold wkO; omega, fun Q => hr352_47 D w.2⟩
      · exact .inr ⟨37, by omega, w.2, by unfold wkO; omega, fun Q => hr352_37 D w.2⟩
    rcases RD with ⟨w, w42, w47, w37⟩ | ⟨c, hv2, hc, hw, hr2⟩
    · refine ⟨h, hr, fun Q => ?_, fun Q => hr352_n D w42 w47 w37, OUTC.nil D⟩
      subst w
      rw [q88_1]
      simp (implicitDefEqProofs := false) (disch := omega) only [n88_1, b88_2, q88_2, x_aload0, y_call111, y_call28, y_call89, y_call90, y_call93, x_gc_2051, x_goto_1, x_iadd, x_iconst, x_ifCond_lt_2, x_if_icmp_ge_2, x_iinc2, x_iload1, x_iload2, x_iload3, x_istore3, x_jsr, x_return, klp_0, klp_1, klp_2, klp_3, klp_9, KC_0, KC_1, KC_2, KC_3, KC_4, ne_eq, not_false_eq_true, not_true_eq_false, true_and, and_true, and_self, implies_true, eq_self, true_imp_iff, false_implies, Int.reduceEq, Int.reduceNe, Int.reduceMod, Int.reduceMul, Int.reduceAdd, Int.reduceSub, Int.reduceLT, Int.reduceLE, Nat.reduceAdd, Nat.reduceLeDiff, Nat.reduceLT, Nat.reduceSub, reduceIte, wds_n, wds_0, wds_1, wds_2, wds_3, or_true, true_or, or_false, false_or, or_self, false_and, and_false, d_pos, d_s1, d_s2, d_s3, d_s4, d_s5, d_s6, d_s7, d_s8, Classical.not_not, z258_0, fs1, d_s9, d_s10, d_s11, d_s12, d_s13, d_s14, d_s15, d_s16, d_s17, d_s18, d_s19, d_s20, d_s21, d_s22, d_s23, d_s24, d_s25, d_s26, d_s27, d_s28, d_s29, d_s30, le_sub1, le_T, le_F, lt_T, lt_F, eq_F, w32_T, bz0, bz1, lc_le, lc_ge, lc_lt, lc_gt, lc_eq]
    · have tk : hr 6691 s = c := by rw [D.1.2.2.2.2.2 s D.sb.1 (by have := D.sb; have := tkK_r (tp := tp) (t := t) (s := s); have := hc.1; omega)]; exact hc.2
      have ts : s < t := by have := D.sb; have := tkK_r (tp := tp) (t := t) (s := s); have := hc.1; omega
      have t3 : hr 6603 3 = s := F.2.2.1
      have s0 := D.sb.1
      have s24 : s < 2400 := by have := D.sb; omega
      obtain ⟨g1, gr1, f1, X⟩ := D.node (e + 9) (e2 + 10)
      rcases X with ⟨e1, X1, X2, X3, X4, X5⟩ | ⟨⟨k0, e1, e1p⟩, X1, X2, X3, X4, X5⟩
      · have X2' := X2
        have X3' := X3
        unfold NC at X2'
        unfold NR at X3'
        obtain ⟨g2, gr2, Y1, Y2, -, -, Y3, Y4, -, -, e3, f3⟩ := X1.2.1.nx (e + 3) (e2 + 9)
        have Y3' := Y3
        have Y4' := Y4
        unfold NC at Y3'
        unfold NR at Y4'
        have Z := X1.trans Y1
        obtain ⟨k, kr, e4, f4, W⟩ := O (e + 11) (e2 + 11) _ g2 gr2 hB hB2 Y1.2.1 (by omega)
        have q1 : ∀ Q, Sp fz1 (e2 + 11) 325 [(3, 6603)] gr1 Q = Q 1 gr1 := fun Q => by rw [v325, if_pos X4]
        rcases W with ⟨s3, W1, W2, W3, W4, W5⟩ | W
        · have W3' := W3
          unfold DXP at W3'
          have kN := W1.2.1.nb
          have kT := kTC D.2.1.1.1
          unfold NBR STQ at kN
          have s13 := W1.1
          have S3 := W1.2.1.sb
          have s01 := Y1.1
          obtain ⟨U1, U2, U3, U4⟩ := W1.2.1.st2 (p := 8) (x := 2 + v) (q := 8) (a := c) (b := 0) (by omega) (by omega) (by decide)
          have U2' := U2
          have U3' := U3
          unfold NC at U2'
          unfold NR at U3'
          have em : ∀ Q, Sp fz1 (e + 11) 93 [(3, 258), (0, 8), (0, 2 + v)] k Q = Q 0 (emH T (emH T k 8) (2 + v)) := fun Q => q93 W1.2.1.2.1.1.1 W1.2.1.2.1.1.2 (by omega)
          have cd : ∀ Q, Sp fz1 (e2 + 11) 347 [(3, 6603), (0, 8), (0, c), (0, 0)] kr Q = Q (kr S 15) (cdR S kr 8 c 0) := fun Q => v347 W1.2.1.2.1.2.1 W1.2.1.2.1.2.2 (by omega)
          obtain ⟨f', fr', e6, f6, V⟩ := lp88 hB hB2 O m (n + 1) (0, 2 + v) (0, c) s3 _ _ (by omega) (by omega) (by omega) U1.2.1 (by omega)
          refine ⟨f', fr', fun Q => ?_, fun Q => ?_, ?_⟩
          · have e6' := e6 Q
            rw [q88_1]
            simp (implicitDefEqProofs := false) (disch := omega) only [n88_1, x_aload0, y_call111, y_call28, y_call89, y_call90, y_call93, x_gc_2051, x_goto_1, x_iadd, x_iconst, x_ifCond_lt_2, x_if_icmp_ge_2, x_iinc2, x_iload1, x_iload2, x_iload3, x_istore3, x_jsr, klp_0, klp_1, klp_2, klp_3, klp_9, KC_0, KC_1, KC_2, KC_3, KC_4, ne_eq, not_false_eq_true, not_true_eq_false, true_and, and_true, and_self, implies_true, eq_self, true_imp_iff, false_implies, Int.reduceEq, Int.reduceNe, Int.reduceMod, Int.reduceMul, Int.reduceAdd, Int.reduceSub, Int.reduceLT, Int.reduceLE, Nat.reduceAdd, Nat.reduceLeDiff, Nat.reduceLT, Nat.reduceSub, reduceIte, wds_n, wds_0, wds_1, wds_2, wds_3, or_true, true_or, or_false, false_or, or_self, false_and, and_false, d_pos, d_s1, d_s2, d_s3, d_s4, d_s5, d_s6, d_s7, d_s8, Classical.not_not, z258_0, fs1, e1, e3, e4, em, e6, d_s9, d_s10, d_s11, d_s12, d_s13, d_s14, d_s15, d_s16, d_s17, d_s18, d_s19, d_s20, d_s21, d_s22, d_s23, d_s24, d_s25, d_s26, d_s27, d_s28, d_s29, d_s30, le_sub1, le_T, le_F, lt_T, lt_F, eq_F, w32_T, bz0, bz1, lc_le, lc_ge, lc_lt, lc_gt, lc_eq]
          · have f6' := f6 Q
            rw [hr2, q352_2]
            simp (implicitDefEqProofs := false) (disch := omega) only [b352_2, b352_3, q352_2, q352_3, x_aload0, x_baload, y_call321, y_call325, y_call346, y_call347, y_call353, x_gc_11267, x_gf_11288, x_goto_1, x_goto_3, x_iconst, x_ifCond_eq_3, x_iload1, x_istore1, x_pop0, x_pop3, klp_0, klp_1, klp_2, klp_3, klp_9, KC_0, KC_1, KC_2, KC_3, KC_4, ne_eq, not_false_eq_true, not_true_eq_false, true_and, and_true, and_self, implies_true, eq_self, true_imp_iff, false_implies, Int.reduceEq, Int.reduceNe, Int.reduceMod, Int.reduceMul, Int.reduceAdd, Int.reduceSub, Int.reduceLT, Int.reduceLE, Nat.reduceAdd, Nat.reduceLeDiff, Nat.reduceLT, Nat.reduceSub, reduceIte, wds_n, wds_0, wds_1, wds_2, wds_3, or_true, true_or, or_false, false_or, or_self, false_and, and_false, d_pos, d_s1, d_s2, d_s3, d_s4, d_s5, d_s6, d_s7, d_s8, Classical.not_not, z6603_0, z6691_l, t3, tk, f1, q1, f3, f4, cd, f6, d_s9, d_s10, d_s11, d_s12, d_s13, d_s14, d_s15, d_s16, d_s17, d_s18, d_s19, d_s20, d_s21, d_s22, d_s23, d_s24, d_s25, d_s26, d_s27, d_s28, d_s29, d_s30, le_sub1, le_T, le_F, lt_T, lt_F, eq_F, w32_T, bz0, bz1, lc_le, lc_ge, lc_lt, lc_gt, lc_eq]
          · have GA := (Z.trans W1).trans U1
            refine OUTC.seq GA ((NVR.same (by omega)).trans W1.2.2.1.1 W1.2.2.2.1 W2 |>.trans U1.2.2.1.1 U1.2.2.2.1 (NVR.same (by omega))) (by unfold DXP; omega) D.nb (gg1 := 0) (lo1 := 1) (fun K V CL A => ?_) V (by omega) (by omega) (by omega) (by omega) rfl
            have A1 := A.sub (h := k) (hr := kr) (by omega) (U1.2.2.1.1.lo (c2 := h T 17) (by omega)) (U1.2.2.2.1.lo (r2 := hr S 15) (t2 := hr S 22) (by omega) (by omega)) (Int.le_refl _) (Int.le_refl _) (Int.le_refl _)
            have P1 := W5 K V CL (A1.lo (by omega) (by omega) (by omega))
            obtain ⟨u1, u2, u3, u4, -⟩ := U4 K V CL _ _ _ A (by omega) (by omega)
            have P2 := e_WORK (K := K) (V := V) (CL := CL) (c := k T 17) (r := kr S 15) (by omega) (by omega) u1 u3 (by rw [u2, u4 (by decide) (by decide) (by decide)]; exact hw)
            rw [show g2 T 17 = h T 17 by omega, show gr2 S 15 = hr S 15 by omega] at P1
            have P3 := P1.seq (lo := 1) (w := kr S 15 - hr S 15 + 1) P2 (by omega) (by omega) (by omega) (by omega) (by omega) (by omega) (by omega) rfl rfl
            rw [show emH T (emH T k 8) (2 + v) T 17 = k T 17 + 2 by omega, show cdR S kr 8 c 0 S 15 = kr S 15 + 1 by omega]
            rw [show kr S 15 + 1 - hr S 15 = kr S 15 - hr S 15 + 1 by omega]
            exact P3
        · obtain ⟨⟨f, B1, B2⟩, F1, F2, b3, b4, b5⟩ := W
          obtain ⟨B3, F3⟩ := B1.em (x := 8)
          obtain ⟨B4, F4⟩ := B3.em (x := 2 + v)
          have gN := Y1.2.1.nb
          unfold NBR STQ at gN
          obtain ⟨C1, C2, C3, C4, C5⟩ := B2.cd (p := 8) (a := c) (b := 0) (by omega)
          have em : ∀ Q, Sp fz1 (e + 11) 93 [(3, 258), (0, 8), (0, 2 + v)] k Q = Q 0 (emH T (emH T k 8) (2 + v)) := fun Q => q93 B1.1.1 B1.1.2 B1.2.2.2.1
          have rb5 := B2.2.2.2.1
          have rb6 := B2.2.2.2.2
          have cd : ∀ Q, Sp fz1 (e2 + 11) 347 [(3, 6603), (0, 8), (0, c), (0, 0)] kr Q = Q (kr S 15) (cdR S kr 8 c 0) := fun Q => v347 B2.1.1 B2.1.2 (by omega)
          have ex : ∀ Q, G fz1 (e + 12) 88 1 [(3, 258), (0, dep), (0, n + 1), (0, 2 + v)] [] (emH T (emH T k 8) (2 + v)) Q = Q 0 (emH T (emH T k 8) (2 + v)) := fun Q => x88 B4 (by omega)
          have fx : ∀ Q, G fz1 (e2 + 12) 352 1 [(3, 6603), (0, c)] [] (cdR S kr 8 c 0) Q = Q 0 (cdR S kr 8 c 0) := fun Q => y352 (by rw [C5]; have := B2.2.1; omega)
          refine ⟨_, _, fun Q => ?_, fun Q => ?_, .inr ⟨⟨f, B4, C1⟩, Z.2.2.1.2.trans (F1.trans (F3.trans F4)), Z.2.2.2.2.trans (F2.trans C2), by omega, by omega, by omega⟩⟩
          · rw [q88_1]
            simp (implicitDefEqProofs := false) (disch := omega) only [n88_1, x_aload0, y_call111, y_call28, y_call89, y_call90, y_call93, x_gc_2051, x_goto_1, x_iadd, x_iconst, x_ifCond_lt_2, x_if_icmp_ge_2, x_iinc2, x_iload1, x_iload2, x_iload3, x_istore3, x_jsr, klp_0, klp_1, klp_2, klp_3, klp_9, KC_0, KC_1, KC_2, KC_3, KC_4, ne_eq, not_false_eq_true, not_true_eq_false, true_and, and_true, and_self, implies_true, eq_self, true_imp_iff, false_implies, Int.reduceEq, Int.reduceNe, Int.reduceMod, Int.reduceMul, Int.reduceAdd, Int.reduceSub, Int.reduceLT, Int.reduceLE, Nat.reduceAdd, Nat.reduceLeDiff, Nat.reduceLT, Nat.reduceSub, reduceIte, wds_n, wds_0, wds_1, wds_2, wds_3, or_true, true_or, or_false, false_or, or_self, false_and, and_false, d_pos, d_s1, d_s2, d_s3, d_s4, d_s5, d_s6, d_s7, d_s8, Classical.not_not, z258_0, fs1, e1, e3, e4, em, ex, d_s9, d_s10, d_s11, d_s12, d_s13, d_s14, d_s15, d_s16, d_s17, d_s18, d_s19, d_s20, d_s21, d_s22, d_s23, d_s24, d_s25, d_s26, d_s27, d_s28, d_s29, d_s30, le_sub1, le_T, le_F, lt_T, lt_F, eq_F, w32_T, bz0, bz1, lc_le, lc_ge, lc_lt, lc_gt, lc_eq]
          · rw [hr2, q352_2]
            simp (implicitDefEqProofs := false) (disch := omega) only [b352_2, b352_3, q352_2, q352_3, x_aload0, x_baload, y_call321, y_call325, y_call346, y_call347, y_call353, x_gc_11267, x_gf_11288, x_goto_1, x_goto_3, x_iconst, x_ifCond_eq_3, x_iload1, x_istore1, x_pop0, x_pop3, klp_0, klp_1, klp_2, klp_3, klp_9, KC_0, KC_1, KC_2, KC_3, KC_4, ne_eq, not_false_eq_true, not_true_eq_false, true_and, and_true, and_self, implies_true, eq_self, true_imp_iff, false_implies, Int.reduceEq, Int.reduceNe, Int.reduceMod, Int.reduceMul, Int.reduceAdd, Int.reduceSub, Int.reduceLT, Int.reduceLE, Nat.reduceAdd, Nat.reduceLeDiff, Nat.reduceLT, Nat.reduceSub, reduceIte, wds_n, wds_0, wds_1, wds_2, wds_3, or_true, true_or, or_false, false_or, or_self, false_and, and_false, d_pos, d_s1, d_s2, d_s3, d_s4, d_s5, d_s6, d_s7, d_s8, Classical.not_not, z6603_0, z6691_l, t3, tk, f1, q1, f3, f4, cd, fx, d_s9, d_s10, d_s11, d_s12, d_s13, d_s14, d_s15, d_s16, d_s17, d_s18, d_s19, d_s20, d_s21, d_s22, d_s23, d_s24, d_s25, d_s26, d_s27, d_s28, d_s29, d_s30, le_sub1, le_T, le_F, lt_T, lt_F, eq_F, w32_T, bz0, bz1, lc_le, lc_ge, lc_lt, lc_gt, lc_eq]
      · obtain ⟨g2, B2, F2, e2'⟩ := b89 (d := e + 2) (e := dep) X1
        obtain ⟨B3, F3⟩ := B2.em (x := 8)
        obtain ⟨B4, F4⟩ := B3.em (x := 2 + v)
        have pp : ∀ Q, Sp fz1 (e + 11) 28 [(3, 129), (0, 0)] k0 Q = Q 0 g1 := fun Q => e1p _ Q
        have em : ∀ Q, Sp fz1 (e + 11) 93 [(3, 258), (0, 8), (0, 2 + v)] g2 Q = Q 0 (emH T (emH T g2 8) (2 + v)) := fun Q => q93 B2.1.1 B2.1.2 B2.2.2.2.1
        have r14 : gr1 S 14 = hr S 14 := by rw [X5]; unfold bdR; rw [hs_ne (by have := kTR X2.1.1; omega)]
        have r15 : gr1 S 15 = hr S 15 := by rw [X5]; unfold bdR; rw [hs_ne (by have := kTR X2.1.1; omega)]
        have rb5 := X2.2.2.2.1
        have rb6 := X2.2.2.2.2
        have rb7 : 0 ≤ gr1 6603 7 := by have := X2.2.1; omega
        obtain ⟨C1, C2, C3, C4, C5⟩ := X2.cd (p := 8) (a := c) (b := 0) (by omega)
        have q1 : ∀ Q, Sp fz1 (e2 + 11) 325 [(3, 6603)] gr1 Q = Q 0 gr1 := fun Q => by rw [v325, if_neg (by omega)]
        have cd : ∀ Q, Sp fz1 (e2 + 11) 347 [(3, 6603), (0, 8), (0, c), (0, 0)] gr1 Q = Q (gr1 S 15) (cdR S gr1 8 c 0) := fun Q => v347 X2.1.1 X2.1.2 (by omega)
        have sb : ∀ Q, Sp fz1 (e2 + 11) 353 [(3, 6603)] gr1 Q = Q 0 gr1 := fun Q => v353b rb7
        have ex : ∀ Q, G fz1 (e + 12) 88 1 [(3, 258), (0, dep), (0, n + 1), (0, 2 + v)] [] (emH T (emH T g2 8) (2 + v)) Q = Q 0 (emH T (emH T g2 8) (2 + v)) := fun Q => x88 B4 (by omega)
        have fx : ∀ Q, G fz1 (e2 + 12) 352 1 [(3, 6603), (0, c)] [] (cdR S gr1 8 c 0) Q = Q 0 (cdR S gr1 8 c 0) := fun Q => y352 (by rw [C5]; exact rb7)
        refine ⟨_, _, fun Q => ?_, fun Q => ?_, .inr ⟨⟨s, B4, C1⟩, X3.trans (F2.trans (F3.trans F4)), X4.trans C2, by omega, by omega, by omega⟩⟩
        · rw [q88_1]
          simp (implicitDefEqProofs := false) (disch := omega) only [n88_1, x_aload0, y_call111, y_call28, y_call89, y_call90, y_call93, x_gc_2051, x_goto_1, x_iadd, x_iconst, x_ifCond_lt_2, x_if_icmp_ge_2, x_iinc2, x_iload1, x_iload2, x_iload3, x_istore3, x_jsr, klp_0, klp_1, klp_2, klp_3, klp_9, KC_0, KC_1, KC_2, KC_3, KC_4, ne_eq, not_false_eq_true, not_true_eq_false, true_and, and_true, and_self, implies_true, eq_self, true_imp_iff, false_implies, Int.reduceEq, Int.reduceNe, Int.reduceMod, Int.reduceMul, Int.reduceAdd, Int.reduceSub, Int.reduceLT, Int.reduceLE, Nat.reduceAdd, Nat.reduceLeDiff, Nat.reduceLT, Nat.reduceSub, reduceIte, wds_n, wds_0, wds_1, wds_2, wds_3, or_true, true_or, or_false, false_or, or_self, false_and, and_false, d_pos, d_s1, d_s2, d_s3, d_s4, d_s5, d_s6, d_s7, d_s8, Classical.not_not, z258_0, fs1, e1, pp, e2', em, ex, d_s9, d_s10, d_s11, d_s12, d_s13, d_s14, d_s15, d_s16, d_s17, d_s18, d_s19, d_s20, d_s21, d_s22, d_s23, d_s24, d_s25, d_s26, d_s27, d_s28, d_s29, d_s30, le_sub1, le_T, le_F, lt_T, lt_F, eq_F, w32_T, bz0, bz1, lc_le, lc_ge, lc_lt, lc_gt, lc_eq]
        · rw [hr2, q352_2]
          simp (implicitDefEqProofs := false) (disch := omega) only [b352_2, b352_3, q352_2, q352_3, x_aload0, x_baload, y_call321, y_call325, y_call346, y_call347, y_call353, x_gc_11267, x_gf_11288, x_goto_1, x_goto_3, x_iconst, x_ifCond_eq_3, x_iload1, x_istore1, x_pop0, x_pop3, klp_0, klp_1, klp_2, klp_3, klp_9, KC_0, KC_1, KC_2, KC_3, KC_4, ne_eq, not_false_eq_true, not_true_eq_false, true_and, and_true, and_self, implies_true, eq_self, true_imp_iff, false_implies, Int.reduceEq, Int.reduceNe, Int.reduceMod, Int.reduceMul, Int.reduceAdd, Int.reduceSub, Int.reduceLT, Int.reduceLE, Nat.reduceAdd, Nat.reduceLeDiff, Nat.reduceLT, Nat.reduceSub, reduceIte, wds_n, wds_0, wds_1, wds_2, wds_3, or_true, true_or, or_false, false_or, or_self, false_and, and_false, d_pos, d_s1, d_s2, d_s3, d_s4, d_s5, d_s6, d_s7, d_s8, Classical.not_not, z6603_0, z6691_l, t3, tk, f1, q1, sb, cd, fx, d_s9, d_s10, d_s11, d_s12, d_s13, d_s14, d_s15, d_s16, d_s17, d_s18, d_s19, d_s20, d_s21, d_s22, d_s23, d_s24, d_s25, d_s26, d_s27, d_s28, d_s29, d_s30, le_sub1, le_T, le_F, lt_T, lt_F, eq_F, w32_T, bz0, bz1, lc_le, lc_ge, lc_lt, lc_gt, lc_eq]
theorem x87 {dep n : Int} {lx : AV} (B : BDC T f h) (hn : 0 ≤ n) : G fz1 (d + 12) 87 1 [(3, 258), (0, dep), (0, n), lx] [] h Q = Q 0 h := by
  have k2 := B.k.2.2
  have k4 := B.2.2.1
  have fs : ∀ Q, Sp fz1 (d + 11) 111 [(3, 129), (3, NV_1075)] h Q = Q (-1) h := fun Q => by rw [NV_1075_e]; exact c111b k2 (str_8 k4) (by decide) (by decide)
  rw [q87_1]
  by_cases z : n < 30
  · simp (implicitDefEqProofs := false) (disch := omega) only [n87_1, b87_2, q87_2, x_aload0, y_call111, y_call28, y_call88, y_call90, y_call93, x_gc_2051, x_goto_1, x_iadd, x_iconst, x_ifCond_lt_2, x_if_icmp_ge_2, x_iinc2, x_iload1, x_iload2, x_iload3, x_istore3, x_jsr, x_return, klp_0, klp_1, klp_2, klp_3, klp_9, KC_0, KC_1, KC_2, KC_3, KC_4, ne_eq, not_false_eq_true, not_true_eq_false, true_and, and_true, and_self, implies_true, eq_self, true_imp_iff, false_implies, Int.reduceEq, Int.reduceNe, Int.reduceMod, Int.reduceMul, Int.reduceAdd, Int.reduceSub, Int.reduceLT, Int.reduceLE, Nat.reduceAdd, Nat.reduceLeDiff, Nat.reduceLT, Nat.reduceSub, reduceIte, wds_n, wds_0, wds_1, wds_2, wds_3, or_true, true_or, or_false, false_or, or_self, false_and, and_false, d_pos, d_s1, d_s2, d_s3, d_s4, d_s5, d_s6, d_s7, d_s8, Classical.not_not, z258_0, fs, d_s9, d_s10, d_s11, d_s12, d_s13, d_s14, d_s15, d_s16, d_s17, d_s18, d_s19, d_s20, d_s21, d_s22, d_s23, d_s24, d_s25, d_s26, d_s27, d_s28, d_s29, d_s30, le_sub1, le_T, le_F, lt_T, lt_F, eq_F, w32_T, bz0, bz1, lc_le, lc_ge, lc_lt, lc_gt, lc_eq]
  · simp (implicitDefEqProofs := false) (disch := omega) only [n87_1, b87_2, q87_2, x_aload0, y_call111, y_call28, y_call88, y_call90, y_call93, x_gc_2051, x_goto_1, x_iadd, x_iconst, x_ifCond_lt_2, x_if_icmp_ge_2, x_iinc2, x_iload1, x_iload2, x_iload3, x_istore3, x_jsr, x_return, klp_0, klp_1, klp_2, klp_3, klp_9, KC_0, KC_1, KC_2, KC_3, KC_4, ne_eq, not_false_eq_true, not_true_eq_false, true_and, and_true, and_self, implies_true, eq_self, true_imp_iff, false_implies, Int.reduceEq, Int.reduceNe, Int.reduceMod, Int.reduceMul, Int.reduceAdd, Int.reduceSub, Int.reduceLT, Int.reduceLE, Nat.reduceAdd, Nat.reduceLeDiff, Nat.reduceLT, Nat.reduceSub, reduceIte, wds_n, wds_0, wds_1, wds_2, wds_3, or_true, true_or, or_false, false_or, or_self, false_and, and_false, d_pos, d_s1, d_s2, d_s3, d_s4, d_s5, d_s6, d_s7, d_s8, Classical.not_not, z258_0, fs, d_s9, d_s10, d_s11, d_s12, d_s13, d_s14, d_s15, d_s16, d_s17, d_s18, d_s19, d_s20, d_s21, d_s22, d_s23, d_s24, d_s25, d_s26, d_s27, d_s28, d_s29, d_s30, le_sub1, le_T, le_F, lt_T, lt_F, eq_F, w32_T, bz0, bz1, lc_le, lc_ge, lc_lt, lc_gt, lc_eq]
theorem y351 {ly : AV} (hf : 0 ≤ hr 6603 7) : G fz1 (d + 12) 351 1 [(3, 6603), ly] [] hr Q = Q 0 hr := by
  have q0 : ∀ (d : Nat) Q, Sp fz1 d 325 [(3, 6603)] hr Q = Q 0 hr := fun d Q => by rw [v325, if_neg (by omega)]
  rw [q351_1]
  simp (implicitDefEqProofs := false) (disch := omega) only [b351_1, b351_4, q351_4, x_aload0, y_call325, y_call334, x_goto_2, x_iconst, x_ifCond_eq_4, x_ifCond_ne_2, x_return, klp_0, klp_1, klp_2, klp_3, klp_9, KC_0, KC_1, KC_2, KC_3, KC_4, ne_eq, not_false_eq_true, not_true_eq_false, true_and, and_true, and_self, implies_true, eq_self, true_imp_iff, false_implies, Int.reduceEq, Int.reduceNe, Int.reduceMod, Int.reduceMul, Int.reduceAdd, Int.reduceSub, Int.reduceLT, Int.reduceLE, Nat.reduceAdd, Nat.reduceLeDiff, Nat.reduceLT, Nat.reduceSub, reduceIte, wds_n, wds_0, wds_1, wds_2, wds_3, or_true, true_or, or_false, false_or, or_self, false_and, and_false, d_pos, d_s1, d_s2, d_s3, d_s4, d_s5, d_s6, d_s7, d_s8, Classical.not_not, z6603_0, z6691_l, q0, d_s9, d_s10, d_s11, d_s12, d_s13, d_s14, d_s15, d_s16, d_s17, d_s18, d_s19, d_s20, d_s21, d_s22, d_s23, d_s24, d_s25, d_s26, d_s27, d_s28, d_s29, d_s30, le_sub1, le_T, le_F, lt_T, lt_F, eq_F, w32_T, bz0, bz1, lc_le, lc_ge, lc_lt, lc_gt, lc_eq]
theorem hd87 (D : GD 1 tp t T S s h hr) : ∃ v, (∀ (d : Nat) Q, Sp fz1 (d + 7) 111 [(3, 129), (3, NV_1075)] h Q = Q v h) ∧ ((v = -1 ∧ ¬ sgP tp t s 43 ∧ ¬ sgP tp t s 45) ∨ (v = 0 ∧ sgP tp t s 43) ∨ (v = 1 ∧ sgP tp t s 45)) := by
  have k1 := D.1.2.1
  have S1 := D.2.2.1.1
  have e : ∀ (d : Nat) Q, Sp fz1 (d + 7) 111 [(3, 129), (3, NV_1075)] h Q = Q (if tkK tp t s = 4 then ixF (tp s) [43, 45] 0 else -1) h := fun d Q => by
    rw [NV_1075_e]
    exact c111 k1 D.1.1 (str_8 S1) (by decide) (by decide)
  refine ⟨_, e, ?_⟩
  by_cases z : tkK tp t s = 4
  · rw [if_pos z]
    unfold sgP
    simp (implicitDefEqProofs := false) only [ixF, z, true_and]
    by_cases z0 : tp s = 43
    · simp [z0]
    by_cases z1 : tp s = 45
    · simp [z1]
    simp [z0, z1, Ne.symm, eq_comm]
    try omega
  · rw [if_neg z]
    exact .inl ⟨rfl, fun w => z w.1, fun w => z w.1⟩
theorem hr351_n {ly : AV} (D : GD 1 tp t T S s h hr) (w43 : ¬ sgP tp t s 43) (w45 : ¬ sgP tp t s 45) : G fz1 (d + 12) 351 1 [(3, 6603), ly] [] hr Q = Q 0 hr := by
  have F := D.f
  have q0 : ∀ (d : Nat) Q, Sp fz1 d 325 [(3, 6603)] hr Q = Q 1 hr := fun d Q => by rw [v325, if_pos (by omega)]
  have i43 : ∀ (d : Nat) Q, Sp fz1 d 334 [(3, 6603), (0, 43)] hr Q = Q 0 hr := fun d Q => by rw [v334 D.1.2.2 D.1.1]; exact congrArg (fun x => Q x hr) (if_neg w43)
  have i45 : ∀ (d : Nat) Q, Sp fz1 d 334 [(3, 6603), (0, 45)] hr Q = Q 0 hr := fun d Q => by rw [v334 D.1.2.2 D.1.1]; exact congrArg (fun x => Q x hr) (if_neg w45)
  rw [q351_1]
  simp (implicitDefEqProofs := false) (disch := omega) only [b351_1, b351_4, q351_4, x_aload0, y_call325, y_call334, x_goto_2, x_iconst, x_ifCond_eq_4, x_ifCond_ne_2, x_return, klp_0, klp_1, klp_2, klp_3, klp_9, KC_0, KC_1, KC_2, KC_3, KC_4, ne_eq, not_false_eq_true, not_true_eq_false, true_and, and_true, and_self, implies_true, eq_self, true_imp_iff, false_implies, Int.reduceEq, Int.reduceNe, Int.reduceMod, Int.reduceMul, Int.reduceAdd, Int.reduceSub, Int.reduceLT, Int.reduceLE, Nat.reduceAdd, Nat.reduceLeDiff, Nat.reduceLT, Nat.reduceSub, reduceIte, wds_n, wds_0, wds_1, wds_2, wds_3, or_true, true_or, or_false, false_or, or_self, false_and, and_false, d_pos, d_s1, d_s2, d_s3, d_s4, d_s5, d_s6, d_s7, d_s8, Classical.not_not, z6603_0, z6691_l, q0, i43, i45, d_s9, d_s10, d_s11, d_s12, d_s13, d_s14, d_s15, d_s16, d_s17, d_s18, d_s19, d_s20, d_s21, d_s22, d_s23, d_s24, d_s25, d_s26, d_s27, d_s28, d_s29, d_s30, le_sub1, le_T, le_F, lt_T, lt_F, eq_F, w32_T, bz0, bz1, lc_le, lc_ge, lc_lt, lc_gt, lc_eq]
theorem hr351_43 {ly : AV} (D : GD 1 tp t T S s h hr) (w : sgP tp t s 43) : G fz1 (d + 12) 351 1 [(3, 6603), ly] [] hr Q = G fz1 (d + 12) 351 2 [(3, 6603), ly] [] hr Q := by
  have F := D.f
  have q0 : ∀ (d : Nat) Q, Sp fz1 d 325 [(3, 6603)] hr Q = Q 1 hr := fun d Q => by rw [v325, if_pos (by omega)]
  have i43 : ∀ (d : Nat) Q, Sp fz1 d 334 [(3, 6603), (0, 43)] hr Q = Q 1 hr := fun d Q => by rw [v334 D.1.2.2 D.1.1]; exact congrArg (fun x => Q x hr) (if_pos w)
  rw [q351_1]
  simp (implicitDefEqProofs := false) (disch := omega) only [b351_1, x_aload0, y_call325, y_call334, x_goto_2, x_iconst, x_ifCond_eq_4, x_ifCond_ne_2, klp_0, klp_1, klp_2, klp_3, klp_9, KC_0, KC_1, KC_2, KC_3, KC_4, ne_eq, not_false_eq_true, not_true_eq_false, true_and, and_true, and_self, implies_true, eq_self, true_imp_iff, false_implies, Int.reduceEq, Int.reduceNe, Int.reduceMod, Int.reduceMul, Int.reduceAdd, Int.reduceSub, Int.reduceLT, Int.reduceLE, Nat.reduceAdd, Nat.reduceLeDiff, Nat.reduceLT, Nat.reduceSub, reduceIte, wds_n, wds_0, wds_1, wds_2, wds_3, or_true, true_or, or_false, false_or, or_self, false_and, and_false, d_pos, d_s1, d_s2, d_s3, d_s4, d_s5, d_s6, d_s7, d_s8, Classical.not_not, z6603_0, z6691_l, q0, i43, d_s9, d_s10, d_s11, d_s12, d_s13, d_s14, d_s15, d_s16, d_s17, d_s18, d_s19, d_s20, d_s21, d_s22, d_s23, d_s24, d_s25, d_s26, d_s27, d_s28, d_s29, d_s30, le_sub1, le_T, le_F, lt_T, lt_F, eq_F, w32_T, bz0, bz1, lc_le, lc_ge, lc_lt, lc_gt, lc_eq]
theorem hr351_45 {ly : AV} (D : GD 1 tp t T S s h hr) (w : sgP tp t s 45) : G fz1 (d + 12) 351 1 [(3, 6603), ly] [] hr Q = G fz1 (d + 12) 351 2 [(3, 6603), ly] [] hr Q := by
  have F := D.f
  have q0 : ∀ (d : Nat) Q, Sp fz1 d 325 [(3, 6603)] hr Q = Q 1 hr := fun d Q => by rw [v325, if_pos (by omega)]
  have i43 : ∀ (d : Nat) Q, Sp fz1 d 334 [(3, 6603), (0, 43)] hr Q = Q 0 hr := fun d Q => by rw [v334 D.1.2.2 D.1.1]; exact congrArg (fun x => Q x hr) (if_neg (fun u => by have a := w.2; have b := u.2; omega))
  have i45 : ∀ (d : Nat) Q, Sp fz1 d 334 [(3, 6603), (0, 45)] hr Q = Q 1 hr := fun d Q => by rw [v334 D.1.2.2 D.1.1]; exact congrArg (fun x => Q x hr) (if_pos w)
  rw [q351_1]
  simp (implicitDefEqProofs := false) (disch := omega) only [b351_1, x_aload0, y_call325, y_call334, x_goto_2, x_iconst, x_ifCond_eq_4, x_ifCond_ne_2, klp_0, klp_1, klp_2, klp_3, klp_9, KC_0, KC_1, KC_2, KC_3, KC_4, ne_eq, not_false_eq_true, not_true_eq_false, true_and, and_true, and_self, implies_true, eq_self, true_imp_iff, false_implies, Int.reduceEq, Int.reduceNe, Int.reduceMod, Int.reduceMul, Int.reduceAdd, Int.reduceSub, Int.reduceLT, Int.reduceLE, Nat.reduceAdd, Nat.reduceLeDiff, Nat.reduceLT, Nat.reduceSub, reduceIte, wds_n, wds_0, wds_1, wds_2, wds_3, or_true, true_or, or_false, false_or, or_self, false_and, and_false, d_pos, d_s1, d_s2, d_s3, d_s4, d_s5, d_s6, d_s7, d_s8, Classical.not_not, z6603_0, z6691_l, q0, i43, i45, d_s9, d_s10, d_s11, d_s12, d_s13, d_s14, d_s15, d_s16, d_s17, d_s18, d_s19, d_s20, d_s21, d_s22, d_s23, d_s24, d_s25, d_s26, d_s27, d_s28, d_s29, d_s30, le_sub1, le_T, le_F, lt_T, lt_F, eq_F, w32_T, bz0, bz1, lc_le, lc_ge, lc_lt, lc_gt, lc_eq]
theorem lp87 {dep : Int} {B e e2 : Nat} (hB : B ≤ e + 11) (hB2 : B ≤ e2 + 11) (O : EXPP tp t T S 88 352 dep B) : ∀ (m : Nat) (n : Int) (lx ly : AV) (s : Int) (h hr : HV), n + m = 30 → 0 ≤ n → n + 1 ≤ h 258 3 → GD 1 tp t T S s h hr → hr 6603 12 = dep ∧ 1 ≤ h 258 11 ∧ h 258 11 ≤ dep + 1 → ∃ g gr, (∀ Q, G fz1 (e + 12) 87 1 [(3, 258), (0, dep), (0, n), lx] [] h Q = Q 0 g) ∧ (∀ Q, G fz1 (e2 + 12) 351 1 [(3, 6603), ly] [] hr Q = Q 0 gr) ∧ OUTC 1 tp t T S s h hr g gr 0 1
  | 0, n, lx, ly, s, h, hr, hm, h0, hn, D, hd => by
    have N := D.nb
    unfold NBR STQ at N
    omega
  | m + 1, n, lx, ly, s, h, hr, hm, h0, hn, D, hd => by
    have N := D.nb
    unfold NBR STQ at N
    have F := D.f
    obtain ⟨v, fs, hv⟩ := hd87 D
    have fs1 : ∀ Q, Sp fz1 (e + 11) 111 [(3, 129), (3, NV_1075)] h Q = Q v h := fun Q => fs (e + 4) Q
    have RD : (v = -1 ∧ ¬ sgP tp t s 43 ∧ ¬ sgP tp t s 45) ∨ ∃ c, (0 ≤ v ∧ v ≤ 1) ∧ sgP tp t s c ∧ wkO (0 + v) c ∧ ∀ Q, G fz1 (e2 + 12) 351 1 [(3, 6603), ly] [] hr Q = G fz1 (e2 + 12) 351 2 [(3, 6603), ly] [] hr Q := by
      rcases hv with w | w | w
      · exact .inl w
      · exact .inr ⟨43, by omega, w.2, by unfold wkO; omega, fun Q => hr351_43 D w.2⟩
      · exact .inr ⟨45, by omega, w.2, by unfold wkO; omega, fun Q => hr351_45 D w.2⟩
    rcases RD with ⟨w, w43, w45⟩ | ⟨c, hv2, hc, hw, hr2⟩
    · refine ⟨h, hr, fun Q => ?_, fun Q => hr351_n D w43 w45, OUTC.nil D⟩
      subst w
      rw [q87_1]
      simp (implicitDefEqProofs := false) (disch := omega) only [n87_1, b87_2, q87_2, x_aload0, y_call111, y_call28, y_call88, y_call90, y_call93, x_gc_2051, x_goto_1, x_iadd, x_iconst, x_ifCond_lt_2, x_if_icmp_ge_2, x_iinc2, x_iload1, x_iload2, x_iload3, x_istore3, x_jsr, x_return, klp_0, klp_1, klp_2, klp_3, klp_9, KC_0, KC_1, KC_2, KC_3, KC_4, ne_eq, not_false_eq_true, not_true_eq_false, true_and, and_true, and_self, implies_true, eq_self, true_imp_iff, false_implies, Int.reduceEq, Int.reduceNe, Int.reduceMod, Int.reduceMul, Int.reduceAdd, Int.reduceSub, Int.reduceLT, Int.reduceLE, Nat.reduceAdd, Nat.reduceLeDiff, Nat.reduceLT, Nat.reduceSub, reduceIte, wds_n, wds_0, wds_1, wds_2, wds_3, or_true, true_or, or_false, false_or, or_self, false_and, and_false, d_pos, d_s1, d_s2, d_s3, d_s4, d_s5, d_s6, d_s7, d_s8, Classical.not_not, z258_0, fs1, d_s9, d_s10, d_s11, d_s12, d_s13, d_s14, d_s15, d_s16, d_s17, d_s18, d_s19, d_s20, d_s21, d_s22, d_s23, d_s24, d_s25, d_s26, d_s27, d_s28, d_s29, d_s30, le_sub1, le_T, le_F, lt_T, lt_F, eq_F, w32_T, bz0, bz1, lc_le, lc_ge, lc_lt, lc_gt, lc_eq]
    · have tk : hr 6691 s = c := by rw [D.1.2.2.2.2.2 s D.sb.1 (by have := D.sb; have := tkK_r (tp := tp) (t := t) (s := s); have := hc.1; omega)]; exact hc.2
      have ts : s < t := by have := D.sb; have := tkK_r (tp := tp) (t := t) (s := s); have := hc.1; omega
      have t3 : hr 6603 3 = s := F.2.2.1
      have s0 := D.sb.1
      have s24 : s < 2400 := by have := D.sb; omega
      obtain ⟨g1, gr1, f1, X⟩ := D.node (e + 9) (e2 + 10)
      rcases X with ⟨e1, X1, X2, X3, X4, X5⟩ | ⟨⟨k0, e1, e1p⟩, X1, X2, X3, X4, X5⟩
      · have X2' := X2
        have X3' := X3
        unfold NC at X2'
        unfold NR at X3'
        obtain ⟨g2, gr2, Y1, Y2, -, -, Y3, Y4, -, -, e3, f3⟩ := X1.2.1.nx (e + 3) (e2 + 9)
        have Y3' := Y3
        have Y4' := Y4
        unfold NC at Y3'
        unfold NR at Y4'
        have Z := X1.trans Y1
        obtain ⟨k, kr, e4, f4, W⟩ := O (e + 11) (e2 + 11) _ g2 gr2 hB hB2 Y1.2.1 (by omega)
        have q1 : ∀ Q, Sp fz1 (e2 + 11) 325 [(3, 6603)] gr1 Q = Q 1 gr1 := fun Q => by rw [v325, if_pos X4]
        rcases W with ⟨s3, W1, W2, W3, W4, W5⟩ | W
        · have W3' := W3
          unfold DXP at W3'
          have kN := W1.2.1.nb
          have kT := kTC D.2.1.1.1
          unfold NBR STQ at kN
          have s13 := W1.1
          have S3 := W1.2.1.sb
          have s01 := Y1.1
          obtain ⟨U1, U2, U3, U4⟩ := W1.2.1.st2 (p := 8) (x := 0 + v) (q := 8) (a := c) (b := 0) (by omega) (by omega) (by decide)
          have U2' := U2
          have U3' := U3
          unfold NC at U2'
          unfold NR at U3'
          have em : ∀ Q, Sp fz1 (e + 11) 93 [(3, 258), (0, 8), (0, 0 + v)] k Q = Q 0 (emH T (emH T k 8) (0 + v)) := fun Q => q93 W1.2.1.2.1.1.1 W1.2.1.2.1.1.2 (by omega)
          have cd : ∀ Q, Sp fz1 (e2 + 11) 347 [(3, 6603), (0, 8), (0, c), (0, 0)] kr Q = Q (kr S 15) (cdR S kr 8 c 0) := fun Q => v347 W1.2.1.2.1.2.1 W1.2.1.2.1.2.2 (by omega)
          obtain ⟨f', fr', e6, f6, V⟩ := lp87 hB hB2 O m (n + 1) (0, 0 + v) (0, c) s3 _ _ (by omega) (by omega) (by omega) U1.2.1 (by omega)
          refine ⟨f', fr', fun Q => ?_, fun Q => ?_, ?_⟩
          · have e6' := e6 Q
            rw [q87_1]
            simp (implicitDefEqProofs := false) (disch := omega) only [n87_1, x_aload0, y_call111, y_call28, y_call88, y_call90, y_call93, x_gc_2051, x_goto_1, x_iadd, x_iconst, x_ifCond_lt_2, x_if_icmp_ge_2, x_iinc2, x_iload1, x_iload2, x_iload3, x_istore3, x_jsr, klp_0, klp_1, klp_2, klp_3, klp_9, KC_0, KC_1, KC_2, KC_3, KC_4, ne_eq, not_false_eq_true, not_true_eq_false, true_and, and_true, and_self, implies_true, eq_self, true_imp_iff, false_implies, Int.reduceEq, Int.reduceNe, Int.reduceMod, Int.reduceMul, Int.reduceAdd, Int.reduceSub, Int.reduceLT, Int.reduceLE, Nat.reduceAdd, Nat.reduceLeDiff, Nat.reduceLT, Nat.reduceSub, reduceIte, wds_n, wds_0, wds_1, wds_2, wds_3, or_true, true_or, or_false, false_or, or_self, false_and, and_false, d_pos, d_s1, d_s2, d_s3, d_s4, d_s5, d_s6, d_s7, d_s8, Classical.not_not, z258_0, fs1, e1, e3, e4, em, e6, d_s9, d_s10, d_s11, d_s12, d_s13, d_s14, d_s15, d_s16, d_s17, d_s18, d_s19, d_s20, d_s21, d_s22, d_s23, d_s24, d_s25, d_s26, d_s27, d_s28, d_s29, d_s30, le_sub1, le_T, le_F, lt_T, lt_F, eq_F, w32_T, bz0, bz1, lc_le, lc_ge, lc_lt, lc_gt, lc_eq]
          · have f6' := f6 Q
            rw [hr2, q351_2]
            simp (implicitDefEqProofs := false) (disch := omega) only [b351_2, b351_3, q351_2, q351_3, x_aload0, x_baload, y_call321, y_call325, y_call346, y_call347, y_call352, x_gc_11267, x_gf_11288, x_goto_1, x_goto_3, x_iconst, x_ifCond_eq_3, x_iload1, x_istore1, x_pop0, x_pop3, klp_0, klp_1, klp_2, klp_3, klp_9, KC_0, KC_1, KC_2, KC_3, KC_4, ne_eq, not_false_eq_true, not_true_eq_false, true_and, and_true, and_self, implies_true, eq_self, true_imp_iff, false_implies, Int.reduceEq, Int.reduceNe, Int.reduceMod, Int.reduceMul, Int.reduceAdd, Int.reduceSub, Int.reduceLT, Int.reduceLE, Nat.reduceAdd, Nat.reduceLeDiff, Nat.reduceLT, Nat.reduceSub, reduceIte, wds_n, wds_0, wds_1, wds_2, wds_3, or_true, true_or, or_false, false_or, or_self, false_and, and_false, d_pos, d_s1, d_s2, d_s3, d_s4, d_s5, d_s6, d_s7, d_s8, Classical.not_not, z6603_0, z6691_l, t3, tk, f1, q1, f3, f4, cd, f6, d_s9, d_s10, d_s11, d_s12, d_s13, d_s14, d_s15, d_s16, d_s17, d_s18, d_s19, d_s20, d_s21, d_s22, d_s23, d_s24, d_s25, d_s26, d_s27, d_s28, d_s29, d_s30, le_sub1, le_T, le_F, lt_T, lt_F, eq_F, w32_T, bz0, bz1, lc_le, lc_ge, lc_lt, lc_gt, lc_eq]
          · have GA := (Z.trans W1).trans U1
            refine OUTC.seq GA ((NVR.same (by omega)).trans W1.2.2.1.1 W1.2.2.2.1 W2 |>.trans U1.2.2.1.1 U1.2.2.2.1 (NVR.same (by omega))) (by unfold DXP; omega) D.nb (gg1 := 0) (lo1 := 1) (fun K V CL A => ?_) V (by omega) (by omega) (by omega) (by omega) rfl
            have A1 := A.sub (h := k) (hr := kr) (by omega) (U1.2.2.1.1.lo (c2 := h T 17) (by omega)) (U1.2.2.2.1.lo (r2 := hr S 15) (t2 := hr S 22) (by omega) (by omega)) (Int.le_refl _) (Int.le_refl _) (Int.le_refl _)
            have P1 := W5 K V CL (A1.lo (by omega) (by omega) (by omega))
            obtain ⟨u1, u2, u3, u4, -⟩ := U4 K V CL _ _ _ A (by omega) (by omega)
            have P2 := e_WORK (K := K) (V := V) (CL := CL) (c := k T 17) (r := kr S 15) (by omega) (by omega) u1 u3 (by rw [u2, u4 (by decide) (by decide) (by decide)]; exact hw)
            rw [show g2 T 17 = h T 17 by omega, show gr2 S 15 = hr S 15 by omega] at P1
            have P3 := P1.seq (lo := 1) (w := kr S 15 - hr S 15 + 1) P2 (by omega) (by omega) (by omega) (by omega) (by omega) (by omega) (by omega) rfl rfl
            rw [show emH T (emH T k 8) (0 + v) T 17 = k T 17 + 2 by omega, show cdR S kr 8 c 0 S 15 = kr S 15 + 1 by omega]
            rw [show kr S 15 + 1 - hr S 15 = kr S 15 - hr S 15 + 1 by omega]
            exact P3
        · obtain ⟨⟨f, B1, B2⟩, F1, F2, b3, b4, b5⟩ := W
          obtain ⟨B3, F3⟩ := B1.em (x := 8)
          obtain ⟨B4, F4⟩ := B3.em (x := 0 + v)
          have gN := Y1.2.1.nb
          unfold NBR STQ at gN
          obtain ⟨C1, C2, C3, C4, C5⟩ := B2.cd (p := 8) (a := c) (b := 0) (by omega)
          have em : ∀ Q, Sp fz1 (e + 11) 93 [(3, 258), (0, 8), (0, 0 + v)] k Q = Q 0 (emH T (emH T k 8) (0 + v)) := fun Q => q93 B1.1.1 B1.1.2 B1.2.2.2.1
          have rb5 := B2.2.2.2.1
          have rb6 := B2.2.2.2.2
          have cd : ∀ Q, Sp fz1 (e2 + 11) 347 [(3, 6603), (0, 8), (0, c), (0, 0)] kr Q = Q (kr S 15) (cdR S kr 8 c 0) := fun Q => v347 B2.1.1 B2.1.2 (by omega)
          have ex : ∀ Q, G fz1 (e + 12) 87 1 [(3, 258), (0, dep), (0, n + 1), (0, 0 + v)] [] (emH T (emH T k 8) (0 + v)) Q = Q 0 (emH T (emH T k 8) (0 + v)) := fun Q => x87 B4 (by omega)
          have fx : ∀ Q, G fz1 (e2 + 12) 351 1 [(3, 6603), (0, c)] [] (cdR S kr 8 c 0) Q = Q 0 (cdR S kr 8 c 0) := fun Q => y351 (by rw [C5]; have := B2.2.1; omega)
          refine ⟨_, _, fun Q => ?_, fun Q => ?_, .inr ⟨⟨f, B4, C1⟩, Z.2.2.1.2.trans (F1.trans (F3.trans F4)), Z.2.2.2.2.trans (F2.trans C2), by omega, by omega, by omega⟩⟩
          · rw [q87_1]
            simp (implicitDefEqProofs := false) (disch := omega) only [n87_1, x_aload0, y_call111, y_call28, y_call88, y_call90, y_call93, x_gc_2051, x_goto_1, x_iadd, x_iconst, x_ifCond_lt_2, x_if_icmp_ge_2, x_iinc2, x_iload1, x_iload2, x_iload3, x_istore3, x_jsr, klp_0, klp_1, klp_2, klp_3, klp_9, KC_0, KC_1, KC_2, KC_3, KC_4, ne_eq, not_false_eq_true, not_true_eq_false, true_and, and_true, and_self, implies_true, eq_self, true_imp_iff, false_implies, Int.reduceEq, Int.reduceNe, Int.reduceMod, Int.reduceMul, Int.reduceAdd, Int.reduceSub, Int.reduceLT, Int.reduceLE, Nat.reduceAdd, Nat.reduceLeDiff, Nat.reduceLT, Nat.reduceSub, reduceIte, wds_n, wds_0, wds_1, wds_2, wds_3, or_true, true_or, or_false, false_or, or_self, false_and, and_false, d_pos, d_s1, d_s2, d_s3, d_s4, d_s5, d_s6, d_s7, d_s8, Classical.not_not, z258_0, fs1, e1, e3, e4, em, ex, d_s9, d_s10, d_s11, d_s12, d_s13, d_s14, d_s15, d_s16, d_s17, d_s18, d_s19, d_s20, d_s21, d_s22, d_s23, d_s24, d_s25, d_s26, d_s27, d_s28, d_s29, d_s30, le_sub1, le_T, le_F, lt_T, lt_F, eq_F, w32_T, bz0, bz1, lc_le, lc_ge, lc_lt, lc_gt, lc_eq]
          · rw [hr2, q351_2]
            simp (implicitDefEqProofs := false) (disch := omega) only [b351_2, b351_3, q351_2, q351_3, x_aload0, x_baload, y_call321, y_call325, y_call346, y_call347, y_call352, x_gc_11267, x_gf_11288, x_goto_1, x_goto_3, x_iconst, x_ifCond_eq_3, x_iload1, x_istore1, x_pop0, x_pop3, klp_0, klp_1, klp_2, klp_3, klp_9, KC_0, KC_1, KC_2, KC_3, KC_4, ne_eq, not_false_eq_true, not_true_eq_false, true_and, and_true, and_self, implies_true, eq_self, true_imp_iff, false_implies, Int.reduceEq, Int.reduceNe, Int.reduceMod, Int.reduceMul, Int.reduceAdd, Int.reduceSub, Int.reduceLT, Int.reduceLE, Nat.reduceAdd, Nat.reduceLeDiff, Nat.reduceLT, Nat.reduceSub, reduceIte, wds_n, wds_0, wds_1, wds_2, wds_3, or_true, true_or, or_false, false_or, or_self, false_and, and_false, d_pos, d_s1, d_s2, d_s3, d_s4, d_s5, d_s6, d_s7, d_s8, Classical.not_not, z6603_0, z6691_l, t3, tk, f1, q1, f3, f4, cd, fx, d_s9, d_s10, d_s11, d_s12, d_s13, d_s14, d_s15, d_s16, d_s17, d_s18, d_s19, d_s20, d_s21, d_s22, d_s23, d_s24, d_s25, d_s26, d_s27, d_s28, d_s29, d_s30, le_sub1, le_T, le_F, lt_T, lt_F, eq_F, w32_T, bz0, bz1, lc_le, lc_ge, lc_lt, lc_gt, lc_eq]
      · obtain ⟨g2, B2, F2, e2'⟩ := b88 (d := e + 1) (e := dep) X1
        obtain ⟨B3, F3⟩ := B2.em (x := 8)
        obtain ⟨B4, F4⟩ := B3.em (x := 0 + v)
        have pp : ∀ Q, Sp fz1 (e + 11) 28 [(3, 129), (0, 0)] k0 Q = Q 0 g1 := fun Q => e1p _ Q
        have em : ∀ Q, Sp fz1 (e + 11) 93 [(3, 258), (0, 8), (0, 0 + v)] g2 Q = Q 0 (emH T (emH T g2 8) (0 + v)) := fun Q => q93 B2.1.1 B2.1.2 B2.2.2.2.1
        have r14 : gr1 S 14 = hr S 14 := by rw [X5]; unfold bdR; rw [hs_ne (by have := kTR X2.1.1; omega)]
        have r15 : gr1 S 15 = hr S 15 := by rw [X5]; unfold bdR; rw [hs_ne (by have := kTR X2.1.1; omega)]
        have rb5 := X2.2.2.2.1
        have rb6 := X2.2.2.2.2
        have rb7 : 0 ≤ gr1 6603 7 := by have := X2.2.1; omega
        obtain ⟨C1, C2, C3, C4, C5⟩ := X2.cd (p := 8) (a := c) (b := 0) (by omega)
        have q1 : ∀ Q, Sp fz1 (e2 + 11) 325 [(3, 6603)] gr1 Q = Q 0 gr1 := fun Q => by rw [v325, if_neg (by omega)]
        have cd : ∀ Q, Sp fz1 (e2 + 11) 347 [(3, 6603), (0, 8), (0, c), (0, 0)] gr1 Q = Q (gr1 S 15) (cdR S gr1 8 c 0) := fun Q => v347 X2.1.1 X2.1.2 (by omega)
        have sb : ∀ Q, Sp fz1 (e2 + 11) 352 [(3, 6603)] gr1 Q = Q 0 gr1 := fun Q => v352b rb7
        have ex : ∀ Q, G fz1 (e + 12) 87 1 [(3, 258), (0, dep), (0, n + 1), (0, 0 + v)] [] (emH T (emH T g2 8) (0 + v)) Q = Q 0 (emH T (emH T g2 8) (0 + v)) := fun Q => x87 B4 (by omega)
        have fx : ∀ Q, G fz1 (e2 + 12) 351 1 [(3, 6603), (0, c)] [] (cdR S gr1 8 c 0) Q = Q 0 (cdR S gr1 8 c 0) := fun Q => y351 (by rw [C5]; exact rb7)
        refine ⟨_, _, fun Q => ?_, fun Q => ?_, .inr ⟨⟨s, B4, C1⟩, X3.trans (F2.trans (F3.trans F4)), X4.trans C2, by omega, by omega, by omega⟩⟩
        · rw [q87_1]
          simp (implicitDefEqProofs := false) (disch := omega) only [n87_1, x_aload0, y_call111, y_call28, y_call88, y_call90, y_call93, x_gc_2051, x_goto_1, x_iadd, x_iconst, x_ifCond_lt_2, x_if_icmp_ge_2, x_iinc2, x_iload1, x_iload2, x_iload3, x_istore3, x_jsr, klp_0, klp_1, klp_2, klp_3, klp_9, KC_0, KC_1, KC_2, KC_3, KC_4, ne_eq, not_false_eq_true, not_true_eq_false, true_and, and_true, and_self, implies_true, eq_self, true_imp_iff, false_implies, Int.reduceEq, Int.reduceNe, Int.reduceMod, Int.reduceMul, Int.reduceAdd, Int.reduceSub, Int.reduceLT, Int.reduceLE, Nat.reduceAdd, Nat.reduceLeDiff, Nat.reduceLT, Nat.reduceSub, reduceIte, wds_n, wds_0, wds_1, wds_2, wds_3, or_true, true_or, or_false, false_or, or_self, false_and, and_false, d_pos, d_s1, d_s2, d_s3, d_s4, d_s5, d_s6, d_s7, d_s8, Classical.not_not, z258_0, fs1, e1, pp, e2', em, ex, d_s9, d_s10, d_s11, d_s12, d_s13, d_s14, d_s15, d_s16, d_s17, d_s18, d_s19, d_s20, d_s21, d_s22, d_s23, d_s24, d_s25, d_s26, d_s27, d_s28, d_s29, d_s30, le_sub1, le_T, le_F, lt_T, lt_F, eq_F, w32_T, bz0, bz1, lc_le, lc_ge, lc_lt, lc_gt, lc_eq]
        · rw [hr2, q351_2]
          simp (implicitDefEqProofs := false) (disch := omega) only [b351_2, b351_3, q351_2, q351_3, x_aload0, x_baload, y_call321, y_call325, y_call346, y_call347, y_call352, x_gc_11267, x_gf_11288, x_goto_1, x_goto_3, x_iconst, x_ifCond_eq_3, x_iload1, x_istore1, x_pop0, x_pop3, klp_0, klp_1, klp_2, klp_3, klp_9, KC_0, KC_1, KC_2, KC_3, KC_4, ne_eq, not_false_eq_true, not_true_eq_false, true_and, and_true, and_self, implies_true, eq_self, true_imp_iff, false_implies, Int.reduceEq, Int.reduceNe, Int.reduceMod, Int.reduceMul, Int.reduceAdd, Int.reduceSub, Int.reduceLT, Int.reduceLE, Nat.reduceAdd, Nat.reduceLeDiff, Nat.reduceLT, Nat.reduceSub, reduceIte, wds_n, wds_0, wds_1, wds_2, wds_3, or_true, true_or, or_false, false_or, or_self, false_and, and_false, d_pos, d_s1, d_s2, d_s3, d_s4, d_s5, d_s6, d_s7, d_s8, Classical.not_not, z6603_0, z6691_l, t3, tk, f1, q1, sb, cd, fx, d_s9, d_s10, d_s11, d_s12, d_s13, d_s14, d_s15, d_s16, d_s17, d_s18, d_s19, d_s20, d_s21, d_s22, d_s23, d_s24, d_s25, d_s26, d_s27, d_s28, d_s29, d_s30, le_sub1, le_T, le_F, lt_T, lt_F, eq_F, w32_T, bz0, bz1, lc_le, lc_ge, lc_lt, lc_gt, lc_eq]
theorem ex88 {dep : Int} {B : Nat} (hB : 11 ≤ B) (O : EXPP tp t T S 89 353 dep B) : EXPP tp t T S 88 352 dep (B + 1) := by
  intro dc dr s h hr h1 h2 D hd
  obtain ⟨e, rfl⟩ : ∃ e, dc = e + 12 := ⟨dc - 12, by omega⟩
  obtain ⟨e2, rfl⟩ : ∃ e, dr = e + 12 := ⟨dr - 12, by omega⟩
  have N := D.nb
  unfold NBR STQ at N
  obtain ⟨g, gr, e1, f1, W⟩ := O (e + 11) (e2 + 11) s h hr (by omega) (by omega) D hd
  rcases W with ⟨s3, W1, W2, W3, W4, W5⟩ | W
  · have W3' := W3
    unfold DXP at W3'
    obtain ⟨k, kr, e6, f6, V⟩ := lp88 (e := e) (e2 := e2) (by omega) (by omega) O 30 0 (9, 0) (9, 0) s3 g gr (by decide) (by decide) (by omega) W1.2.1 (by omega)
    refine ⟨k, kr, fun Q => ?_, fun Q => ?_, OUTC.seq W1 W2 W3 D.nb W5 V (by omega) (by omega) (by omega) W4 rfl⟩
    · have e6' := e6 Q
      simp (implicitDefEqProofs := false) (disch := omega) only [sp88, b88_0, x_aload0, y_call89, x_goto_1, x_iconst, x_iload1, x_istore2, klp_0, klp_1, klp_2, klp_3, klp_9, KC_0, KC_1, KC_2, KC_3, KC_4, ne_eq, not_false_eq_true, not_true_eq_false, true_and, and_true, and_self, implies_true, eq_self, true_imp_iff, false_implies, Int.reduceEq, Int.reduceNe, Int.reduceMod, Int.reduceMul, Int.reduceAdd, Int.reduceSub, Int.reduceLT, Int.reduceLE, Nat.reduceAdd, Nat.reduceLeDiff, Nat.reduceLT, Nat.reduceSub, reduceIte, wds_n, wds_0, wds_1, wds_2, wds_3, or_true, true_or, or_false, false_or, or_self, false_and, and_false, d_pos, d_s1, d_s2, d_s3, d_s4, d_s5, d_s6, d_s7, d_s8, Classical.not_not, z258_0, e1, e6, d_s9, d_s10, d_s11, d_s12, d_s13, d_s14, d_s15, d_s16, d_s17, d_s18, d_s19, d_s20, d_s21, d_s22, d_s23, d_s24, d_s25, d_s26, d_s27, d_s28, d_s29, d_s30, le_sub1, le_T, le_F, lt_T, lt_F, eq_F, w32_T, bz0, bz1, lc_le, lc_ge, lc_lt, lc_gt, lc_eq]
    · have f6' := f6 Q
      simp (implicitDefEqProofs := false) (disch := omega) only [sp352, b352_0, x_aload0, y_call353, x_goto_1, klp_0, klp_1, klp_2, klp_3, klp_9, KC_0, KC_1, KC_2, KC_3, KC_4, ne_eq, not_false_eq_true, not_true_eq_false, true_and, and_true, and_self, implies_true, eq_self, true_imp_iff, false_implies, Int.reduceEq, Int.reduceNe, Int.reduceMod, Int.reduceMul, Int.reduceAdd, Int.reduceSub, Int.reduceLT, Int.reduceLE, Nat.reduceAdd, Nat.reduceLeDiff, Nat.reduceLT, Nat.reduceSub, reduceIte, wds_n, wds_0, wds_1, wds_2, wds_3, or_true, true_or, or_false, false_or, or_self, false_and, and_false, d_pos, d_s1, d_s2, d_s3, d_s4, d_s5, d_s6, d_s7, d_s8, Classical.not_not, z6603_0, z6691_l, f1, f6, d_s9, d_s10, d_s11, d_s12, d_s13, d_s14, d_s15, d_s16, d_s17, d_s18, d_s19, d_s20, d_s21, d_s22, d_s23, d_s24, d_s25, d_s26, d_s27, d_s28, d_s29, d_s30, le_sub1, le_T, le_F, lt_T, lt_F, eq_F, w32_T, bz0, bz1, lc_le, lc_ge, lc_lt, lc_gt, lc_eq]
  · obtain ⟨⟨f, B1, B2⟩, -⟩ := id W
    have rb7 : 0 ≤ gr 6603 7 := by have := B2.2.1; omega
    have e6 : ∀ Q, G fz1 (e + 12) 88 1 [(3, 258), (0, dep), (0, 0), (9, 0)] [] g Q = Q 0 g := fun Q => x88 B1 (by decide)
    have f6 : ∀ Q, G fz1 (e2 + 12) 352 1 [(3, 6603), (9, 0)] [] gr Q = Q 0 gr := fun Q => y352 rb7
    refine ⟨g, gr, fun Q => ?_, fun Q => ?_, .inr W⟩
    · simp (implicitDefEqProofs := false) (disch := omega) only [sp88, b88_0, x_aload0, y_call89, x_goto_1, x_iconst, x_iload1, x_istore2, klp_0, klp_1, klp_2, klp_3, klp_9, KC_0, KC_1, KC_2, KC_3, KC_4, ne_eq, not_false_eq_true, not_true_eq_false, true_and, and_true, and_self, implies_true, eq_self, true_imp_iff, false_implies, Int.reduceEq, Int.reduceNe, Int.reduceMod, Int.reduceMul, Int.reduceAdd, Int.reduceSub, Int.reduceLT, Int.reduceLE, Nat.reduceAdd, Nat.reduceLeDiff, Nat.reduceLT, Nat.reduceSub, reduceIte, wds_n, wds_0, wds_1, wds_2, wds_3, or_true, true_or, or_false, false_or, or_self, false_and, and_false, d_pos, d_s1, d_s2, d_s3, d_s4, d_s5, d_s6, d_s7, d_s8, Classical.not_not, z258_0, e1, e6, d_s9, d_s10, d_s11, d_s12, d_s13, d_s14, d_s15, d_s16, d_s17, d_s18, d_s19, d_s20, d_s21, d_s22, d_s23, d_s24, d_s25, d_s26, d_s27, d_s28, d_s29, d_s30, le_sub1, le_T, le_F, lt_T, lt_F, eq_F, w32_T, bz0, bz1, lc_le, lc_ge, lc_lt, lc_gt, lc_eq]
    · simp (implicitDefEqProofs := false) (disch := omega) only [sp352, b352_0, x_aload0, y_call353, x_goto_1, klp_0, klp_1, klp_2, klp_3, klp_9, KC_0, KC_1, KC_2, KC_3, KC_4, ne_eq, not_false_eq_true, not_true_eq_false, true_and, and_true, and_self, implies_true, eq_self, true_imp_iff, false_implies, Int.reduceEq, Int.reduceNe, Int.reduceMod, Int.reduceMul, Int.reduceAdd, Int.reduceSub, Int.reduceLT, Int.reduceLE, Nat.reduceAdd, Nat.reduceLeDiff, Nat.reduceLT, Nat.reduceSub, reduceIte, wds_n, wds_0, wds_1, wds_2, wds_3, or_true, true_or, or_false, false_or, or_self, false_and, and_false, d_pos, d_s1, d_s2, d_s3, d_s4, d_s5, d_s6, d_s7, d_s8, Classical.not_not, z6603_0, z6691_l, f1, f6, d_s9, d_s10, d_s11, d_s12, d_s13, d_s14, d_s15, d_s16, d_s17, d_s18, d_s19, d_s20, d_s21, d_s22, d_s23, d_s24, d_s25, d_s26, d_s27, d_s28, d_s29, d_s30, le_sub1, le_T, le_F, lt_T, lt_F, eq_F, w32_T, bz0, bz1, lc_le, lc_ge, lc_lt, lc_gt, lc_eq]
theorem ex87 {dep : Int} {B : Nat} (hB : 11 ≤ B) (O : EXPP tp t T S 88 352 dep B) : EXPP tp t T S 87 351 dep (B + 1) := by
  intro dc dr s h hr h1 h2 D hd
  obtain ⟨e, rfl⟩ : ∃ e, dc = e + 12 := ⟨dc - 12, by omega⟩
  obtain ⟨e2, rfl⟩ : ∃ e, dr = e + 12 := ⟨dr - 12, by omega⟩
  have N := D.nb
  unfold NBR STQ at N
  obtain ⟨g, gr, e1, f1, W⟩ := O (e + 11) (e2 + 11) s h hr (by omega) (by omega) D hd
  rcases W with ⟨s3, W1, W2, W3, W4, W5⟩ | W
  · have W3' := W3
    unfold DXP at W3'
    obtain ⟨k, kr, e6, f6, V⟩ := lp87 (e := e) (e2 := e2) (by omega) (by omega) O 30 0 (9, 0) (9, 0) s3 g gr (by decide) (by decide) (by omega) W1.2.1 (by omega)
    refine ⟨k, kr, fun Q => ?_, fun Q => ?_, OUTC.seq W1 W2 W3 D.nb W5 V (by omega) (by omega) (by omega) W4 rfl⟩
    · have e6' := e6 Q
      simp (implicitDefEqProofs := false) (disch := omega) only [sp87, b87_0, x_aload0, y_call88, x_goto_1, x_iconst, x_iload1, x_istore2, klp_0, klp_1, klp_2, klp_3, klp_9, KC_0, KC_1, KC_2, KC_3, KC_4, ne_eq, not_false_eq_true, not_true_eq_false, true_and, and_true, and_self, implies_true, eq_self, true_imp_iff, false_implies, Int.reduceEq, Int.reduceNe, Int.reduceMod, Int.reduceMul, Int.reduceAdd, Int.reduceSub, Int.reduceLT, Int.reduceLE, Nat.reduceAdd, Nat.reduceLeDiff, Nat.reduceLT, Nat.reduceSub, reduceIte, wds_n, wds_0, wds_1, wds_2, wds_3, or_true, true_or, or_false, false_or, or_self, false_and, and_false, d_pos, d_s1, d_s2, d_s3, d_s4, d_s5, d_s6, d_s7, d_s8, Classical.not_not, z258_0, e1, e6, d_s9, d_s10, d_s11, d_s12, d_s13, d_s14, d_s15, d_s16, d_s17, d_s18, d_s19, d_s20, d_s21, d_s22, d_s23, d_s24, d_s25, d_s26, d_s27, d_s28, d_s29, d_s30, le_sub1, le_T, le_F, lt_T, lt_F, eq_F, w32_T, bz0, bz1, lc_le, lc_ge, lc_lt, lc_gt, lc_eq]
    · have f6' := f6 Q
      simp (implicitDefEqProofs := false) (disch := omega) only [sp351, b351_0, x_aload0, y_call352, x_goto_1, klp_0, klp_1, klp_2, klp_3, klp_9, KC_0, KC_1, KC_2, KC_3, KC_4, ne_eq, not_false_eq_true, not_true_eq_false, true_and, and_true, and_self, implies_true, eq_self, true_imp_iff, false_implies, Int.reduceEq, Int.reduceNe, Int.reduceMod, Int.reduceMul, Int.reduceAdd, Int.reduceSub, Int.reduceLT, Int.reduceLE, Nat.reduceAdd, Nat.reduceLeDiff, Nat.reduceLT, Nat.reduceSub, reduceIte, wds_n, wds_0, wds_1, wds_2, wds_3, or_true, true_or, or_false, false_or, or_self, false_and, and_false, d_pos, d_s1, d_s2, d_s3, d_s4, d_s5, d_s6, d_s7, d_s8, Classical.not_not, z6603_0, z6691_l, f1, f6, d_s9, d_s10, d_s11, d_s12, d_s13, d_s14, d_s15, d_s16, d_s17, d_s18, d_s19, d_s20, d_s21, d_s22, d_s23, d_s24, d_s25, d_s26, d_s27, d_s28, d_s29, d_s30, le_sub1, le_T, le_F, lt_T, lt_F, eq_F, w32_T, bz0, bz1, lc_le, lc_ge, lc_lt, lc_gt, lc_eq]
  · obtain ⟨⟨f, B1, B2⟩, -⟩ := id W
    have rb7 : 0 ≤ gr 6603 7 := by have := B2.2.1; omega
    have e6 : ∀ Q, G fz1 (e + 12) 87 1 [(3, 258), (0, dep), (0, 0), (9, 0)] [] g Q = Q 0 g := fun Q => x87 B1 (by decide)
    have f6 : ∀ Q, G fz1 (e2 + 12) 351 1 [(3, 6603), (9, 0)] [] gr Q = Q 0 gr := fun Q => y351 rb7
    refine ⟨g, gr, fun Q => ?_, fun Q => ?_, .inr W⟩
    · simp (implicitDefEqProofs := false) (disch := omega) only [sp87, b87_0, x_aload0, y_call88, x_goto_1, x_iconst, x_iload1, x_istore2, klp_0, klp_1, klp_2, klp_3, klp_9, KC_0, KC_1, KC_2, KC_3, KC_4, ne_eq, not_false_eq_true, not_true_eq_false, true_and, and_true, and_self, implies_true, eq_self, true_imp_iff, false_implies, Int.reduceEq, Int.reduceNe, Int.reduceMod, Int.reduceMul, Int.reduceAdd, Int.reduceSub, Int.reduceLT, Int.reduceLE, Nat.reduceAdd, Nat.reduceLeDiff, Nat.reduceLT, Nat.reduceSub, reduceIte, wds_n, wds_0, wds_1, wds_2, wds_3, or_true, true_or, or_false, false_or, or_self, false_and, and_false, d_pos, d_s1, d_s2, d_s3, d_s4, d_s5, d_s6, d_s7, d_s8, Classical.not_not, z258_0, e1, e6, d_s9, d_s10, d_s11, d_s12, d_s13, d_s14, d_s15, d_s16, d_s17, d_s18, d_s19, d_s20, d_s21, d_s22, d_s23, d_s24, d_s25, d_s26, d_s27, d_s28, d_s29, d_s30, le_sub1, le_T, le_F, lt_T, lt_F, eq_F, w32_T, bz0, bz1, lc_le, lc_ge, lc_lt, lc_gt, lc_eq]
    · simp (implicitDefEqProofs := false) (disch := omega) only [sp351, b351_0, x_aload0, y_call352, x_goto_1, klp_0, klp_1, klp_2, klp_3, klp_9, KC_0, KC_1, KC_2, KC_3, KC_4, ne_eq, not_false_eq_true, not_true_eq_false, true_and, and_true, and_self, implies_true, eq_self, true_imp_iff, false_implies, Int.reduceEq, Int.reduceNe, Int.reduceMod, Int.reduceMul, Int.reduceAdd, Int.reduceSub, Int.reduceLT, Int.reduceLE, Nat.reduceAdd, Nat.reduceLeDiff, Nat.reduceLT, Nat.reduceSub, reduceIte, wds_n, wds_0, wds_1, wds_2, wds_3, or_true, true_or, or_false, false_or, or_self, false_and, and_false, d_pos, d_s1, d_s2, d_s3, d_s4, d_s5, d_s6, d_s7, d_s8, Classical.not_not, z6603_0, z6691_l, f1, f6, d_s9, d_s10, d_s11, d_s12, d_s13, d_s14, d_s15, d_s16, d_s17, d_s18, d_s19, d_s20, d_s21, d_s22, d_s23, d_s24, d_s25, d_s26, d_s27, d_s28, d_s29, d_s30, le_sub1, le_T, le_F, lt_T, lt_F, eq_F, w32_T, bz0, bz1, lc_le, lc_ge, lc_lt, lc_gt, lc_eq]
theorem ex86_60 {dep : Int} {B : Nat} {e e2 : Nat} (hB : 12 ≤ B) (he : B ≤ e + 11) (he2 : B ≤ e2 + 11) (O : EXPP tp t T S 87 351 dep B) {h0 : HV} (q0 : 0 ≤ h0 258 11 ∧ h0 258 11 ≤ dep ∧ dep ≤ 12) (hh : hset h0 258 11 (h0 258 11 + 1) = h) (D : GD 1 tp t T S s h hr) (hd : hr 6603 12 = dep ∧ 1 ≤ h 258 11 ∧ h 258 11 ≤ dep + 1) (e1 : ∀ Q, Sp fz1 (e + 11) 87 [(3, 258), (0, dep)] h Q = Q 0 g) (f1 : ∀ Q, Sp fz1 (e2 + 11) 351 [(3, 6603)] hr Q = Q 0 gr)
    (W1 : GOM 1 tp t T S s h hr s1 g gr) (W2 : NVR h g gr) (W3 : DXP T S h hr g gr) (W4 : 1 ≤ gr S 15 - hr S 15) (W5 : ∀ K V CL, AGK K V CL T S (h T 17) (hr S 15) (hr S 22) g gr → EXK K V CL (h T 17) (hr S 15) (g T 17) (gr S 15) (gr S 15 - hr S 15) 1 (gr S 15 - hr S 15) 0) (fs : ∀ (d : Nat) Q, Sp fz1 (d + 7) 111 [(3, 129), (3, NV_947)] g Q = Q 0 g) (w : sgP tp t s1 60) : ∃ v f fr, (∀ Q, G fz1 (e + 12) 86 1 [(3, 258), (0, dep), (9, 0)] [] h0 Q = G fz1 (e + 12) 86 2 [(3, 258), (0, dep), (0, v)] [] f Q) ∧ (∀ Q, Sp fz1 (e2 + 12) 350 [(3, 6603)] hr Q = Q 0 fr) ∧ OUTC 1 tp t T S s h hr f fr 1 0 := by
  have D2 := W1.2.1
  have N := D.nb
  have N2 := D2.nb
  unfold NBR STQ at N N2
  have F := D2.f
  have W3' := W3
  unfold DXP at W3'
  have S2 := D2.sb
  have t3 : gr 6603 3 = s1 := F.2.2.1
  have s0 : 0 ≤ s1 := S2.1
  have ts : s1 < t := by have := tkK_r (tp := tp) (t := t) (s := s1); have := w.1; omega
  have s24 : s1 < 2400 := by omega
  have tk : gr 6691 s1 = 60 := by rw [D2.1.2.2.2.2.2 s1 s0 ts]; exact w.2
  have fs1 : ∀ Q, Sp fz1 (e + 11) 111 [(3, 129), (3, NV_947)] g Q = Q 0 g := fun Q => fs (e + 4) Q
  have q1 : ∀ (d : Nat) Q, Sp fz1 d 325 [(3, 6603)] gr Q = Q 1 gr := fun d Q => by rw [v325, if_pos (by omega)]
  have i60 : ∀ (d : Nat) Q, Sp fz1 d 334 [(3, 6603), (0, 60)] gr Q = Q 1 gr := fun d Q => by rw [v334 D2.1.2.2 D2.1.1]; exact congrArg (fun x => Q x gr) (if_pos w)
  obtain ⟨g1, gr1, f3, X⟩ := D2.node (e + 9) (e2 + 10)
  rcases X with ⟨e3, X1, X2, X3, X4, X5⟩ | ⟨⟨k0, e3, e3p⟩, X1, X2, X3, X4, X5⟩
  · have X2' := X2
    have X3' := X3
    unfold NC at X2'
    unfold NR at X3'
    obtain ⟨g2, gr2, Y1, -, -, -, Y3, Y4, -, -, e4, f4⟩ := X1.2.1.nx (e + 3) (e2 + 9)
    have Y3' := Y3
    have Y4' := Y4
    unfold NC at Y3'
    unfold NR at Y4'
    have Z := X1.trans Y1
    obtain ⟨k, kr, e5, f5, V⟩ := O (e + 11) (e2 + 11) _ g2 gr2 he he2 Y1.2.1 (by omega)
    have q2 : ∀ Q, Sp fz1 (e2 + 11) 325 [(3, 6603)] gr1 Q = Q 1 gr1 := fun Q => by rw [v325, if_pos X4]
    rcases V with ⟨s3, V1, V2, V3, V4, V5⟩ | V
    · have V3' := V3
      unfold DXP at V3'
      have kN := V1.2.1.nb
      have S3 := V1.2.1.sb
      have kT := kTC D.2.1.1.1
      unfold NBR STQ at kN
      have s13 := V1.1
      have s01 := Y1.1
      have s02 := W1.1
      obtain ⟨U1, U2, U3, U4⟩ := V1.2.1.st2 (p := 9) (x := 0) (q := 8) (a := 60) (b := 0) (by omega) (by omega) (by decide)
      have U2' := U2
      have U3' := U3
      unfold NC at U2'
      unfold NR at U3'
      have em : ∀ Q, Sp fz1 (e + 11) 93 [(3, 258), (0, 9), (0, 0)] k Q = Q 0 (emH T (emH T k 9) 0) := fun Q => q93 V1.2.1.2.1.1.1 V1.2.1.2.1.1.2 (by omega)
      have cd : ∀ Q, Sp fz1 (e2 + 11) 347 [(3, 6603), (0, 8), (0, 60), (0, 0)] kr Q = Q (kr S 15) (cdR S kr 8 60 0) := fun Q => v347 V1.2.1.2.1.2.1 V1.2.1.2.1.2.2 (by omega)
      refine ⟨0, emH T (emH T k 9) 0, cdR S kr 8 60 0, fun Q => ?_, fun Q => ?_, ?_⟩
      rotate_left 2
      · have GA := (Z.trans V1).trans U1
        have NV := (NVR.same (gr := gr2) (show g2 258 6 = g 258 6 by omega)).trans V1.2.2.1.1 V1.2.2.2.1 V2 |>.trans U1.2.2.1.1 U1.2.2.2.1 (NVR.same (by omega))
        refine OUTC.seq W1 W2 W3 D.nb W5 (.inl ⟨s3, GA, NV, by unfold DXP; omega, by omega, fun K V CL A => ?_⟩) (gg2 := 0) (lo2 := 1) (by omega) (by omega) (by omega) W4 rfl
        have A1 := A.sub (h := k) (hr := kr) (by omega) (U1.2.2.1.1.lo (c2 := g T 17) (by omega)) (U1.2.2.2.1.lo (r2 := gr S 15) (t2 := gr S 22) (by omega) (by omega)) (Int.le_refl _) (Int.le_refl _) (Int.le_refl _)
        have P1 := V5 K V CL (A1.lo (by omega) (by omega) (by omega))
        obtain ⟨u1, u2, u3, u4, -⟩ := U4 K V CL _ _ _ A (by omega) (by omega)
        have P2 := e_COMP (K := K) (V := V) (CL := CL) (c := k T 17) (r := kr S 15) (by omega) (by omega) u1 u3 (by rw [u2, u4 (by decide) (by decide) (by decide)]; unfold cmO; decide)
        rw [show g2 T 17 = g T 17 by omega, show gr2 S 15 = gr S 15 by omega] at P1
        have P3 := P1.seq (lo := 1) (w := kr S 15 - gr S 15 + 1) P2 (by omega) (by omega) (by omega) (by omega) (by omega) (by omega) (by omega) rfl rfl
        rw [show emH T (emH T k 9) 0 T 17 = k T 17 + 2 by omega, show cdR S kr 8 60 0 S 15 = kr S 15 + 1 by omega]
        rw [show kr S 15 + 1 - gr S 15 = kr S 15 - gr S 15 + 1 by omega]
        exact P3
      · rw [q86_1]
        simp (implicitDefEqProofs := false) (disch := omega) only [n86_1, x_aload0, y_call111, y_call28, y_call87, y_call90, y_call93, x_dup0, x_dup3, x_gc_2051, x_gf_2136, x_goto_2, x_iadd, x_iconst, x_ifCond_lt_2, x_iload1, x_iload2, x_istore2, x_jsr, x_pf_2136, klp_0, klp_1, klp_2, klp_3, klp_9, KC_0, KC_1, KC_2, KC_3, KC_4, ne_eq, not_false_eq_true, not_true_eq_false, true_and, and_true, and_self, implies_true, eq_self, true_imp_iff, false_implies, Int.reduceEq, Int.reduceNe, Int.reduceMod, Int.reduceMul, Int.reduceAdd, Int.reduceSub, Int.reduceLT, Int.reduceLE, Nat.reduceAdd, Nat.reduceLeDiff, Nat.reduceLT, Nat.reduceSub, reduceIte, wds_n, wds_0, wds_1, wds_2, wds_3, or_true, true_or, or_false, false_or, or_self, false_and, and_false, d_pos, d_s1, d_s2, d_s3, d_s4, d_s5, d_s6, d_s7, d_s8, Classical.not_not, z258_0, hh, e1, fs1, e3, e4, e5, em, hs_ne, hcell, hcel1, d_s9, d_s10, d_s11, d_s12, d_s13, d_s14, d_s15, d_s16, d_s17, d_s18, d_s19, d_s20, d_s21, d_s22, d_s23, d_s24, d_s25, d_s26, d_s27, d_s28, d_s29, d_s30, le_sub1, le_T, le_F, lt_T, lt_F, eq_F, w32_T, bz0, bz1, lc_le, lc_ge, lc_lt, lc_gt, lc_eq]
      · simp (implicitDefEqProofs := false) (disch := omega) only [sp350, b350_0, b350_1, b350_2, b350_3, q350_1, q350_2, q350_3, x_aload0, x_baload, y_call321, y_call325, y_call334, y_call346, y_call347, y_call351, x_gc_11267, x_gf_11288, x_goto_1, x_goto_2, x_goto_3, x_iconst, x_ifCond_eq_2, x_ifCond_eq_3, x_ifCond_ne_1, x_iload1, x_istore1, x_pop0, x_pop3, x_return, klp_0, klp_1, klp_2, klp_3, klp_9, KC_0, KC_1, KC_2, KC_3, KC_4, ne_eq, not_false_eq_true, not_true_eq_false, true_and, and_true, and_self, implies_true, eq_self, true_imp_iff, false_implies, Int.reduceEq, Int.reduceNe, Int.reduceMod, Int.reduceMul, Int.reduceAdd, Int.reduceSub, Int.reduceLT, Int.reduceLE, Nat.reduceAdd, Nat.reduceLeDiff, Nat.reduceLT, Nat.reduceSub, reduceIte, wds_n, wds_0, wds_1, wds_2, wds_3, or_true, true_or, or_false, false_or, or_self, false_and, and_false, d_pos, d_s1, d_s2, d_s3, d_s4, d_s5, d_s6, d_s7, d_s8, Classical.not_not, z6603_0, z6691_l, f1, q1, i60, t3, tk, f3, q2, f4, f5, cd, d_s9, d_s10, d_s11, d_s12, d_s13, d_s14, d_s15, d_s16, d_s17, d_s18, d_s19, d_s20, d_s21, d_s22, d_s23, d_s24, d_s25, d_s26, d_s27, d_s28, d_s29, d_s30, le_sub1, le_T, le_F, lt_T, lt_F, eq_F, w32_T, bz0, bz1, lc_le, lc_ge, lc_lt, lc_gt, lc_eq]
    · obtain ⟨⟨f, B1, B2⟩, F1, F2, b3, b4, b5⟩ := V
      obtain ⟨B3, F3⟩ := B1.em (x := 9)
      obtain ⟨B4, F4⟩ := B3.em (x := 0)
      have gN := Y1.2.1.nb
      unfold NBR STQ at gN
      obtain ⟨C1, C2, C3, C4, C5⟩ := B2.cd (p := 8) (a := 60) (b := 0) (by omega)
      have rb5 := B2.2.2.2.1
      have rb6 := B2.2.2.2.2
      have em : ∀ Q, Sp fz1 (e + 11) 93 [(3, 258), (0, 9), (0, 0)] k Q = Q 0 (emH T (emH T k 9) 0) := fun Q => q93 B1.1.1 B1.1.2 B1.2.2.2.1
      have cd : ∀ Q, Sp fz1 (e2 + 11) 347 [(3, 6603), (0, 8), (0, 60), (0, 0)] kr Q = Q (kr S 15) (cdR S kr 8 60 0) := fun Q => v347 B2.1.1 B2.1.2 (by omega)
      refine ⟨0, _, _, fun Q => ?_, fun Q => ?_, .inr ⟨⟨f, B4, C1⟩, W1.2.2.1.2.trans (Z.2.2.1.2.trans (F1.trans (F3.trans F4))), W1.2.2.2.2.trans (Z.2.2.2.2.trans (F2.trans C2)), by omega, by omega, by omega⟩⟩
      · rw [q86_1]
        simp (implicitDefEqProofs := false) (disch := omega) only [n86_1, x_aload0, y_call111, y_call28, y_call87, y_call90, y_call93, x_dup0, x_dup3, x_gc_2051, x_gf_2136, x_goto_2, x_iadd, x_iconst, x_ifCond_lt_2, x_iload1, x_iload2, x_istore2, x_jsr, x_pf_2136, klp_0, klp_1, klp_2, klp_3, klp_9, KC_0, KC_1, KC_2, KC_3, KC_4, ne_eq, not_false_eq_true, not_true_eq_false, true_and, and_true, and_self, implies_true, eq_self, true_imp_iff, false_implies, Int.reduceEq, Int.reduceNe, Int.reduceMod, Int.reduceMul, Int.reduceAdd, Int.reduceSub, Int.reduceLT, Int.reduceLE, Nat.reduceAdd, Nat.reduceLeDiff, Nat.reduceLT, Nat.reduceSub, reduceIte, wds_n, wds_0, wds_1, wds_2, wds_3, or_true, true_or, or_false, false_or, or_self, false_and, and_false, d_pos, d_s1, d_s2, d_s3, d_s4, d_s5, d_s6, d_s7, d_s8, Classical.not_not, z258_0, hh, e1, fs1, e3, e4, e5, em, hs_ne, hcell, hcel1, d_s9, d_s10, d_s11, d_s12, d_s13, d_s14, d_s15, d_s16, d_s17, d_s18, d_s19, d_s20, d_s21, d_s22, d_s23, d_s24, d_s25, d_s26, d_s27, d_s28, d_s29, d_s30, le_sub1, le_T, le_F, lt_T, lt_F, eq_F, w32_T, bz0, bz1, lc_le, lc_ge, lc_lt, lc_gt, lc_eq]
      · simp (implicitDefEqProofs := false) (disch := omega) only [sp350, b350_0, b350_1, b350_2, b350_3, q350_1, q350_2, q350_3, x_aload0, x_baload, y_call321, y_call325, y_call334, y_call346, y_call347, y_call351, x_gc_11267, x_gf_11288, x_goto_1, x_goto_2, x_goto_3, x_iconst, x_ifCond_eq_2, x_ifCond_eq_3, x_ifCond_ne_1, x_iload1, x_istore1, x_pop0, x_pop3, x_return, klp_0, klp_1, klp_2, klp_3, klp_9, KC_0, KC_1, KC_2, KC_3, KC_4, ne_eq, not_false_eq_true, not_true_eq_false, true_and, and_true, and_self, implies_true, eq_self, true_imp_iff, false_implies, Int.reduceEq, Int.reduceNe, Int.reduceMod, Int.reduceMul, Int.reduceAdd, Int.reduceSub, Int.reduceLT, Int.reduceLE, Nat.reduceAdd, Nat.reduceLeDiff, Nat.reduceLT, Nat.reduceSub, reduceIte, wds_n, wds_0, wds_1, wds_2, wds_3, or_true, true_or, or_false, false_or, or_self, false_and, and_false, d_pos, d_s1, d_s2, d_s3, d_s4, d_s5, d_s6, d_s7, d_s8, Classical.not_not, z6603_0, z6691_l, f1, q1, i60, t3, tk, f3, q2, f4, f5, cd, d_s9, d_s10, d_s11, d_s12, d_s13, d_s14, d_s15, d_s16, d_s17, d_s18, d_s19, d_s20, d_s21, d_s22, d_s23, d_s24, d_s25, d_s26, d_s27, d_s28, d_s29, d_s30, le_sub1, le_T, le_F, lt_T, lt_F, eq_F, w32_T, bz0, bz1, lc_le, lc_ge, lc_lt, lc_gt, lc_eq]
  · obtain ⟨g2, B2, F2, e5⟩ := b87 (d := e) (e := dep) X1
    obtain ⟨B3, F3⟩ := B2.em (x := 9)
    obtain ⟨B4, F4⟩ := B3.em (x := 0)
    have pp : ∀ Q, Sp fz1 (e + 11) 28 [(3, 129), (0, 0)] k0 Q = Q 0 g1 := fun Q => e3p _ Q
    have em : ∀ Q, Sp fz1 (e + 11) 93 [(3, 258), (0, 9), (0, 0)] g2 Q = Q 0 (emH T (emH T g2 9) 0) := fun Q => q93 B2.1.1 B2.1.2 B2.2.2.2.1
    have r14 : gr1 S 14 = gr S 14 := by rw [X5]; unfold bdR; rw [hs_ne (by have := kTR X2.1.1; omega)]
    have r15 : gr1 S 15 = gr S 15 := by rw [X5]; unfold bdR; rw [hs_ne (by have := kTR X2.1.1; omega)]
    have rb5 := X2.2.2.2.1
    have rb6 := X2.2.2.2.2
    have rb7 : 0 ≤ gr1 6603 7 := by have := X2.2.1; omega
    obtain ⟨C1, C2, C3, C4, C5⟩ := X2.cd (p := 8) (a := 60) (b := 0) (by omega)
    have q2 : ∀ Q, Sp fz1 (e2 + 11) 325 [(3, 6603)] gr1 Q = Q 0 gr1 := fun Q => by rw [v325, if_neg (by omega)]
    have cd : ∀ Q, Sp fz1 (e2 + 11) 347 [(3, 6603), (0, 8), (0, 60), (0, 0)] gr1 Q = Q (gr1 S 15) (cdR S gr1 8 60 0) := fun Q => v347 X2.1.1 X2.1.2 (by omega)
    have sb : ∀ Q, Sp fz1 (e2 + 11) 351 [(3, 6603)] gr1 Q = Q 0 gr1 := fun Q => v351b rb7
    refine ⟨0, _, _, fun Q => ?_, fun Q => ?_, .inr ⟨⟨s1, B4, C1⟩, W1.2.2.1.2.trans (X3.trans (F2.trans (F3.trans F4))), W1.2.2.2.2.trans (X4.trans C2), by omega, by omega, by omega⟩⟩
    · rw [q86_1]
      simp (implicitDefEqProofs := false) (disch := omega) only [n86_1, x_aload0, y_call111, y_call28, y_call87, y_call90, y_call93, x_dup0, x_dup3, x_gc_2051, x_gf_2136, x_goto_2, x_iadd, x_iconst, x_ifCond_lt_2, x_iload1, x_iload2, x_istore2, x_jsr, x_pf_2136, klp_0, klp_1, klp_2, klp_3, klp_9, KC_0, KC_1, KC_2, KC_3, KC_4, ne_eq, not_false_eq_true, not_true_eq_false, true_and, and_true, and_self, implies_true, eq_self, true_imp_iff, false_implies, Int.reduceEq, Int.reduceNe, Int.reduceMod, Int.reduceMul, Int.reduceAdd, Int.reduceSub, Int.reduceLT, Int.reduceLE, Nat.reduceAdd, Nat.reduceLeDiff, Nat.reduceLT, Nat.reduceSub, reduceIte, wds_n, wds_0, wds_1, wds_2, wds_3, or_true, true_or, or_false, false_or, or_self, false_and, and_false, d_pos, d_s1, d_s2, d_s3, d_s4, d_s5, d_s6, d_s7, d_s8, Classical.not_not, z258_0, hh, e1, fs1, e3, pp, e5, em, hs_ne, hcell, hcel1, d_s9, d_s10, d_s11, d_s12, d_s13, d_s14, d_s15, d_s16, d_s17, d_s18, d_s19, d_s20, d_s21, d_s22, d_s23, d_s24, d_s25, d_s26, d_s27, d_s28, d_s29, d_s30, le_sub1, le_T, le_F, lt_T, lt_F, eq_F, w32_T, bz0, bz1, lc_le, lc_ge, lc_lt, lc_gt, lc_eq]
    · simp (implicitDefEqProofs := false) (disch := omega) only [sp350, b350_0, b350_1, b350_2, b350_3, q350_1, q350_2, q350_3, x_aload0, x_baload, y_call321, y_call325, y_call334, y_call346, y_call347, y_call351, x_gc_11267, x_gf_11288, x_goto_1, x_goto_2, x_goto_3, x_iconst, x_ifCond_eq_2, x_ifCond_eq_3, x_ifCond_ne_1, x_iload1, x_istore1, x_pop0, x_pop3, x_return, klp_0, klp_1, klp_2, klp_3, klp_9, KC_0, KC_1, KC_2, KC_3, KC_4, ne_eq, not_false_eq_true, not_true_eq_false, true_and, and_true, and_self, implies_true, eq_self, true_imp_iff, false_implies, Int.reduceEq, Int.reduceNe, Int.reduceMod, Int.reduceMul, Int.reduceAdd, Int.reduceSub, Int.reduceLT, Int.reduceLE, Nat.reduceAdd, Nat.reduceLeDiff, Nat.reduceLT, Nat.reduceSub, reduceIte, wds_n, wds_0, wds_1, wds_2, wds_3, or_true, true_or, or_false, false_or, or_self, false_and, and_false, d_pos, d_s1, d_s2, d_s3, d_s4, d_s5, d_s6, d_s7, d_s8, Classical.not_not, z6603_0, z6691_l, f1, q1, i60, t3, tk, f3, q2, sb, cd, d_s9, d_s10, d_s11, d_s12, d_s13, d_s14, d_s15, d_s16, d_s17, d_s18, d_s19, d_s20, d_s21, d_s22, d_s23, d_s24, d_s25, d_s26, d_s27, d_s28, d_s29, d_s30, le_sub1, le_T, le_F, lt_T, lt_F, eq_F, w32_T, bz0, bz1, lc_le, lc_ge, lc_lt, lc_gt, lc_eq]
theorem ex86_62 {dep : Int} {B : Nat} {e e2 : Nat} (hB : 12 ≤ B) (he : B ≤ e + 11) (he2 : B ≤ e2 + 11) (O : EXPP tp t T S 87 351 dep B) {h0 : HV} (q0 : 0 ≤ h0 258 11 ∧ h0 258 11 ≤ dep ∧ dep ≤ 12) (hh : hset h0 258 11 (h0 258 11 + 1) = h) (D : GD 1 tp t T S s h hr) (hd : hr 6603 12 = dep ∧ 1 ≤ h 258 11 ∧ h 258 11 ≤ dep + 1) (e1 : ∀ Q, Sp fz1 (e + 11) 87 [(3, 258), (0, dep)] h Q = Q 0 g) (f1 : ∀ Q, Sp fz1 (e2 + 11) 351 [(3, 6603)] hr Q = Q 0 gr)
    (W1 : GOM 1 tp t T S s h hr s1 g gr) (W2 : NVR h g gr) (W3 : DXP T S h hr g gr) (W4 : 1 ≤ gr S 15 - hr S 15) (W5 : ∀ K V CL, AGK K V CL T S (h T 17) (hr S 15) (hr S 22) g gr → EXK K V CL (h T 17) (hr S 15) (g T 17) (gr S 15) (gr S 15 - hr S 15) 1 (gr S 15 - hr S 15) 0) (fs : ∀ (d : Nat) Q, Sp fz1 (d + 7) 111 [(3, 129), (3, NV_947)] g Q = Q 1 g) (w : sgP tp t s1 62) : ∃ v f fr, (∀ Q, G fz1 (e + 12) 86 1 [(3, 258), (0, dep), (9, 0)] [] h0 Q = G fz1 (e + 12) 86 2 [(3, 258), (0, dep), (0, v)] [] f Q) ∧ (∀ Q, Sp fz1 (e2 + 12) 350 [(3, 6603)] hr Q = Q 0 fr) ∧ OUTC 1 tp t T S s h hr f fr 1 0 := by
  have D2 := W1.2.1
  have N := D.nb
  have N2 := D2.nb
  unfold NBR STQ at N N2
  have F := D2.f
  have W3' := W3
  unfold DXP at W3'
  have S2 := D2.sb
  have t3 : gr 6603 3 = s1 := F.2.2.1
  have s0 : 0 ≤ s1 := S2.1
  have ts : s1 < t := by have := tkK_r (tp := tp) (t := t) (s := s1); have := w.1; omega
  have s24 : s1 < 2400 := by omega
  have tk : gr 6691 s1 = 62 := by rw [D2.1.2.2.2.2.2 s1 s0 ts]; exact w.2
  have fs1 : ∀ Q, Sp fz1 (e + 11) 111 [(3, 129), (3, NV_947)] g Q = Q 1 g := fun Q => fs (e + 4) Q
  have q1 : ∀ (d : Nat) Q, Sp fz1 d 325 [(3, 6603)] gr Q = Q 1 gr := fun d Q => by rw [v325, if_pos (by omega)]
  have i60 : ∀ (d : Nat) Q, Sp fz1 d 334 [(3, 6603), (0, 60)] gr Q = Q 0 gr := fun d Q => by rw [v334 D2.1.2.2 D2.1.1]; exact congrArg (fun x => Q x gr) (if_neg (fun u => by have a := w.2; have b := u.2; omega))
  have i62 : ∀ (d : Nat) Q, Sp fz1 d 334 [(3, 6603), (0, 62)] gr Q = Q 1 gr := fun d Q => by rw [v334 D2.1.2.2 D2.1.1]; exact congrArg (fun x => Q x gr) (if_pos w)
  obtain ⟨g1, gr1, f3, X⟩ := D2.node (e + 9) (e2 + 10)
  rcases X with ⟨e3, X1, X2, X3, X4, X5⟩ | ⟨⟨k0, e3, e3p⟩, X1, X2, X3, X4, X5⟩
  · have X2' := X2
    have X3' := X3
    unfold NC at X2'
    unfold NR at X3'
    obtain ⟨g2, gr2, Y1, -, -, -, Y3, Y4, -, -, e4, f4⟩ := X1.2.1.nx (e + 3) (e2 + 9)
    have Y3' := Y3
    have Y4' := Y4
    unfold NC at Y3'
    unfold NR at Y4'
    have Z := X1.trans Y1
    obtain ⟨k, kr, e5, f5, V⟩ := O (e + 11) (e2 + 11) _ g2 gr2 he he2 Y1.2.1 (by omega)
    have q2 : ∀ Q, Sp fz1 (e2 + 11) 325 [(3, 6603)] gr1 Q = Q 1 gr1 := fun Q => by rw [v325, if_pos X4]
    rcases V with ⟨s3, V1, V2, V3, V4, V5⟩ | V
    · have V3' := V3
      unfold DXP at V3'
      have kN := V1.2.1.nb
      have S3 := V1.2.1.sb
      have kT := kTC D.2.1.1.1
      unfold NBR STQ at kN
      have s13 := V1.1
      have s01 := Y1.1
      have s02 := W1.1
      obtain ⟨U1, U2, U3, U4⟩ := V1.2.1.st2 (p := 9) (x := 1) (q := 8) (a := 62) (b := 0) (by omega) (by omega) (by decide)
      have U2' := U2
      have U3' := U3
      unfold NC at U2'
      unfold NR at U3'
      have em : ∀ Q, Sp fz1 (e + 11) 93 [(3, 258), (0, 9), (0, 1)] k Q = Q 0 (emH T (emH T k 9) 1) := fun Q => q93 V1.2.1.2.1.1.1 V1.2.1.2.1.1.2 (by omega)
      have cd : ∀ Q, Sp fz1 (e2 + 11) 347 [(3, 6603), (0, 8), (0, 62), (0, 0)] kr Q = Q (kr S 15) (cdR S kr 8 62 0) := fun Q => v347 V1.2.1.2.1.2.1 V1.2.1.2.1.2.2 (by omega)
      refine ⟨1, emH T (emH T k 9) 1, cdR S kr 8 62 0, fun Q => ?_, fun Q => ?_, ?_⟩
      rotate_left 2
      · have GA := (Z.trans V1).trans U1
        have NV := (NVR.same (gr := gr2) (show g2 258 6 = g 258 6 by omega)).trans V1.2.2.1.1 V1.2.2.2.1 V2 |>.trans U1.2.2.1.1 U1.2.2.2.1 (NVR.same (by omega))
        refine OUTC.seq W1 W2 W3 D.nb W5 (.inl ⟨s3, GA, NV, by unfold DXP; omega, by omega, fun K V CL A => ?_⟩) (gg2 := 0) (lo2 := 1) (by omega) (by omega) (by omega) W4 rfl
        have A1 := A.sub (h := k) (hr := kr) (by omega) (U1.2.2.1.1.lo (c2 := g T 17) (by omega)) (U1.2.2.2.1.lo (r2 := gr S 15) (t2 := gr S 22) (by omega) (by omega)) (Int.le_refl _) (Int.le_refl _) (Int.le_refl _)
        have P1 := V5 K V CL (A1.lo (by omega) (by omega) (by omega))
        obtain ⟨u1, u2, u3, u4, -⟩ := U4 K V CL _ _ _ A (by omega) (by omega)
        have P2 := e_COMP (K := K) (V := V) (CL := CL) (c := k T 17) (r := kr S 15) (by omega) (by omega) u1 u3 (by rw [u2, u4 (by decide) (by decide) (by decide)]; unfold cmO; decide)
        rw [show g2 T 17 = g T 17 by omega, show gr2 S 15 = gr S 15 by omega] at P1
        have P3 := P1.seq (lo := 1) (w := kr S 15 - gr S 15 + 1) P2 (by omega) (by omega) (by omega) (by omega) (by omega) (by omega) (by omega) rfl rfl
        rw [show emH T (emH T k 9) 1 T 17 = k T 17 + 2 by omega, show cdR S kr 8 62 0 S 15 = kr S 15 + 1 by omega]
        rw [show kr S 15 + 1 - gr S 15 = kr S 15 - gr S 15 + 1 by omega]
        exact P3
      · rw [q86_1]
        simp (implicitDefEqProofs := false) (disch := omega) only [n86_1, x_aload0, y_call111, y_call28, y_call87, y_call90, y_call93, x_dup0, x_dup3, x_gc_2051, x_gf_2136, x_goto_2, x_iadd, x_iconst, x_ifCond_lt_2, x_iload1, x_iload2, x_istore2, x_jsr, x_pf_2136, klp_0, klp_1, klp_2, klp_3, klp_9, KC_0, KC_1, KC_2, KC_3, KC_4, ne_eq, not_false_eq_true, not_true_eq_false, true_and, and_true, and_self, implies_true, eq_self, true_imp_iff, false_implies, Int.reduceEq, Int.reduceNe, Int.reduceMod, Int.reduceMul, Int.reduceAdd, Int.reduceSub, Int.reduceLT, Int.reduceLE, Nat.reduceAdd, Nat.reduceLeDiff, Nat.reduceLT, Nat.reduceSub, reduceIte, wds_n, wds_0, wds_1, wds_2, wds_3, or_true, true_or, or_false, false_or, or_self, false_and, and_false, d_pos, d_s1, d_s2, d_s3, d_s4, d_s5, d_s6, d_s7, d_s8, Classical.not_not, z258_0, hh, e1, fs1, e3, e4, e5, em, hs_ne, hcell, hcel1, d_s9, d_s10, d_s11, d_s12, d_s13, d_s14, d_s15, d_s16, d_s17, d_s18, d_s19, d_s20, d_s21, d_s22, d_s23, d_s24, d_s25, d_s26, d_s27, d_s28, d_s29, d_s30, le_sub1, le_T, le_F, lt_T, lt_F, eq_F, w32_T, bz0, bz1, lc_le, lc_ge, lc_lt, lc_gt, lc_eq]
      · simp (implicitDefEqProofs := false) (disch := omega) only [sp350, b350_0, b350_1, b350_2, b350_3, q350_1, q350_2, q350_3, x_aload0, x_baload, y_call321, y_call325, y_call334, y_call346, y_call347, y_call351, x_gc_11267, x_gf_11288, x_goto_1, x_goto_2, x_goto_3, x_iconst, x_ifCond_eq_2, x_ifCond_eq_3, x_ifCond_ne_1, x_iload1, x_istore1, x_pop0, x_pop3, x_return, klp_0, klp_1, klp_2, klp_3, klp_9, KC_0, KC_1, KC_2, KC_3, KC_4, ne_eq, not_false_eq_true, not_true_eq_false, true_and, and_true, and_self, implies_true, eq_self, true_imp_iff, false_implies, Int.reduceEq, Int.reduceNe, Int.reduceMod, Int.reduceMul, Int.reduceAdd, Int.reduceSub, Int.reduceLT, Int.reduceLE, Nat.reduceAdd, Nat.reduceLeDiff, Nat.reduceLT, Nat.reduceSub, reduceIte, wds_n, wds_0, wds_1, wds_2, wds_3, or_true, true_or, or_false, false_or, or_self, false_and, and_false, d_pos, d_s1, d_s2, d_s3, d_s4, d_s5, d_s6, d_s7, d_s8, Classical.not_not, z6603_0, z6691_l, f1, q1, i60, i62, t3, tk, f3, q2, f4, f5, cd, d_s9, d_s10, d_s11, d_s12, d_s13, d_s14, d_s15, d_s16, d_s17, d_s18, d_s19, d_s20, d_s21, d_s22, d_s23, d_s24, d_s25, d_s26, d_s27, d_s28, d_s29, d_s30, le_sub1, le_T, le_F, lt_T, lt_F, eq_F, w32_T, bz0, bz1, lc_le, lc_ge, lc_lt, lc_gt, lc_eq]
    · obtain ⟨⟨f, B1, B2⟩, F1, F2, b3, b4, b5⟩ := V
      obtain ⟨B3, F3⟩ := B1.em (x := 9)
      obtain ⟨B4, F4⟩ := B3.em (x := 1)
      have gN := Y1.2.1.nb
      unfold NBR STQ at gN
      obtain ⟨C1, C2, C3, C4, C5⟩ := B2.cd (p := 8) (a := 62) (b := 0) (by omega)
      have rb5 := B2.2.2.2.1
      have rb6 := B2.2.2.2.2
      have em : ∀ Q, Sp fz1 (e + 11) 93 [(3, 258), (0, 9), (0, 1)] k Q = Q 0 (emH T (emH T k 9) 1) := fun Q => q93 B1.1.1 B1.1.2 B1.2.2.2.1
      have cd : ∀ Q, Sp fz1 (e2 + 11) 347 [(3, 6603), (0, 8), (0, 62), (0, 0)] kr Q = Q (kr S 15) (cdR S kr 8 62 0) := fun Q => v347 B2.1.1 B2.1.2 (by omega)
      refine ⟨1, _, _, fun Q => ?_, fun Q => ?_, .inr ⟨⟨f, B4, C1⟩, W1.2.2.1.2.trans (Z.2.2.1.2.trans (F1.trans (F3.trans F4))), W1.2.2.2.2.trans (Z.2.2.2.2.trans (F2.trans C2)), by omega, by omega, by omega⟩⟩
      · rw [q86_1]
        simp (implicitDefEqProofs := false) (disch := omega) only [n86_1, x_aload0, y_call111, y_call28, y_call87, y_call90, y_call93, x_dup0, x_dup3, x_gc_2051, x_gf_2136, x_goto_2, x_iadd, x_iconst, x_ifCond_lt_2, x_iload1, x_iload2, x_istore2, x_jsr, x_pf_2136, klp_0, klp_1, klp_2, klp_3, klp_9, KC_0, KC_1, KC_2, KC_3, KC_4, ne_eq, not_false_eq_true, not_true_eq_false, true_and, and_true, and_self, implies_true, eq_self, true_imp_iff, false_implies, Int.reduceEq, Int.reduceNe, Int.reduceMod, Int.reduceMul, Int.reduceAdd, Int.reduceSub, Int.reduceLT, Int.reduceLE, Nat.reduceAdd, Nat.reduceLeDiff, Nat.reduceLT, Nat.reduceSub, reduceIte, wds_n, wds_0, wds_1, wds_2, wds_3, or_true, true_or, or_false, false_or, or_self, false_and, and_false, d_pos, d_s1, d_s2, d_s3, d_s4, d_s5, d_s6, d_s7, d_s8, Classical.not_not, z258_0, hh, e1, fs1, e3, e4, e5, em, hs_ne, hcell, hcel1, d_s9, d_s10, d_s11, d_s12, d_s13, d_s14, d_s15, d_s16, d_s17, d_s18, d_s19, d_s20, d_s21, d_s22, d_s23, d_s24, d_s25, d_s26, d_s27, d_s28, d_s29, d_s30, le_sub1, le_T, le_F, lt_T, lt_F, eq_F, w32_T, bz0, bz1, lc_le, lc_ge, lc_lt, lc_gt, lc_eq]
      · simp (implicitDefEqProofs := false) (disch := omega) only [sp350, b350_0, b350_1, b350_2, b350_3, q350_1, q350_2, q350_3, x_aload0, x_baload, y_call321, y_call325, y_call334, y_call346, y_call347, y_call351, x_gc_11267, x_gf_11288, x_goto_1, x_goto_2, x_goto_3, x_iconst, x_ifCond_eq_2, x_ifCond_eq_3, x_ifCond_ne_1, x_iload1, x_istore1, x_pop0, x_pop3, x_return, klp_0, klp_1, klp_2, klp_3, klp_9, KC_0, KC_1, KC_2, KC_3, KC_4, ne_eq, not_false_eq_true, not_true_eq_false, true_and, and_true, and_self, implies_true, eq_self, true_imp_iff, false_implies, Int.reduceEq, Int.reduceNe, Int.reduceMod, Int.reduceMul, Int.reduceAdd, Int.reduceSub, Int.reduceLT, Int.reduceLE, Nat.reduceAdd, Nat.reduceLeDiff, Nat.reduceLT, Nat.reduceSub, reduceIte, wds_n, wds_0, wds_1, wds_2, wds_3, or_true, true_or, or_false, false_or, or_self, false_and, and_false, d_pos, d_s1, d_s2, d_s3, d_s4, d_s5, d_s6, d_s7, d_s8, Classical.not_not, z6603_0, z6691_l, f1, q1, i60, i62, t3, tk, f3, q2, f4, f5, cd, d_s9, d_s10, d_s11, d_s12, d_s13, d_s14, d_s15, d_s16, d_s17, d_s18, d_s19, d_s20, d_s21, d_s22, d_s23, d_s24, d_s25, d_s26, d_s27, d_s28, d_s29, d_s30, le_sub1, le_T, le_F, lt_T, lt_F, eq_F, w32_T, bz0, bz1, lc_le, lc_ge, lc_lt, lc_gt, lc_eq]
  · obtain ⟨g2, B2, F2, e5⟩ := b87 (d := e) (e := dep) X1
    obtain ⟨B3, F3⟩ := B2.em (x := 9)
    obtain ⟨B4, F4⟩ := B3.em (x := 1)
    have pp : ∀ Q, Sp fz1 (e + 11) 28 [(3, 129), (0, 0)] k0 Q = Q 0 g1 := fun Q => e3p _ Q
    have em : ∀ Q, Sp fz1 (e + 11) 93 [(3, 258), (0, 9), (0, 1)] g2 Q = Q 0 (emH T (emH T g2 9) 1) := fun Q => q93 B2.1.1 B2.1.2 B2.2.2.2.1
    have r14 : gr1 S 14 = gr S 14 := by rw [X5]; unfold bdR; rw [hs_ne (by have := kTR X2.1.1; omega)]
    have r15 : gr1 S 15 = gr S 15 := by rw [X5]; unfold bdR; rw [hs_ne (by have := kTR X2.1.1; omega)]
    have rb5 := X2.2.2.2.1
    have rb6 := X2.2.2.2.2
    have rb7 : 0 ≤ gr1 6603 7 := by have := X2.2.1; omega
    obtain ⟨C1, C2, C3, C4, C5⟩ := X2.cd (p := 8) (a := 62) (b := 0) (by omega)
    have q2 : ∀ Q, Sp fz1 (e2 + 11) 325 [(3, 6603)] gr1 Q = Q 0 gr1 := fun Q => by rw [v325, if_neg (by omega)]
    have cd : ∀ Q, Sp fz1 (e2 + 11) 347 [(3, 6603), (0, 8), (0, 62), (0, 0)] gr1 Q = Q (gr1 S 15) (cdR S gr1 8 62 0) := fun Q => v347 X2.1.1 X2.1.2 (by omega)
    have sb : ∀ Q, Sp fz1 (e2 + 11) 351 [(3, 6603)] gr1 Q = Q 0 gr1 := fun Q => v351b rb7
    refine ⟨1, _, _, fun Q => ?_, fun Q => ?_, .inr ⟨⟨s1, B4, C1⟩, W1.2.2.1.2.trans (X3.trans (F2.trans (F3.trans F4))), W1.2.2.2.2.trans (X4.trans C2), by omega, by omega, by omega⟩⟩
    · rw [q86_1]
      simp (implicitDefEqProofs := false) (disch := omega) only [n86_1, x_aload0, y_call111, y_call28, y_call87, y_call90, y_call93, x_dup0, x_dup3, x_gc_2051, x_gf_2136, x_goto_2, x_iadd, x_iconst, x_ifCond_lt_2, x_iload1, x_iload2, x_istore2, x_jsr, x_pf_2136, klp_0, klp_1, klp_2, klp_3, klp_9, KC_0, KC_1, KC_2, KC_3, KC_4, ne_eq, not_false_eq_true, not_true_eq_false, true_and, and_true, and_self, implies_true, eq_self, true_imp_iff, false_implies, Int.reduceEq, Int.reduceNe, Int.reduceMod, Int.reduceMul, Int.reduceAdd, Int.reduceSub, Int.reduceLT, Int.reduceLE, Nat.reduceAdd, Nat.reduceLeDiff, Nat.reduceLT, Nat.reduceSub, reduceIte, wds_n, wds_0, wds_1, wds_2, wds_3, or_true, true_or, or_false, false_or, or_self, false_and, and_false, d_pos, d_s1, d_s2, d_s3, d_s4, d_s5, d_s6, d_s7, d_s8, Classical.not_not, z258_0, hh, e1, fs1, e3, pp, e5, em, hs_ne, hcell, hcel1, d_s9, d_s10, d_s11, d_s12, d_s13, d_s14, d_s15, d_s16, d_s17, d_s18, d_s19, d_s20, d_s21, d_s22, d_s23, d_s24, d_s25, d_s26, d_s27, d_s28, d_s29, d_s30, le_sub1, le_T, le_F, lt_T, lt_F, eq_F, w32_T, bz0, bz1, lc_le, lc_ge, lc_lt, lc_gt, lc_eq]
    · simp (implicitDefEqProofs := false) (disch := omega) only [sp350, b350_0, b350_1, b350_2, b350_3, q350_1, q350_2, q350_3, x_aload0, x_baload, y_call321, y_call325, y_call334, y_call346, y_call347, y_call351, x_gc_11267, x_gf_11288, x_goto_1, x_goto_2, x_goto_3, x_iconst, x_ifCond_eq_2, x_ifCond_eq_3, x_ifCond_ne_1, x_iload1, x_istore1, x_pop0, x_pop3, x_return, klp_0, klp_1, klp_2, klp_3, klp_9, KC_0, KC_1, KC_2, KC_3, KC_4, ne_eq, not_false_eq_true, not_true_eq_false, true_and, and_true, and_self, implies_true, eq_self, true_imp_iff, false_implies, Int.reduceEq, Int.reduceNe, Int.reduceMod, Int.reduceMul, Int.reduceAdd, Int.reduceSub, Int.reduceLT, Int.reduceLE, Nat.reduceAdd, Nat.reduceLeDiff, Nat.reduceLT, Nat.reduceSub, reduceIte, wds_n, wds_0, wds_1, wds_2, wds_3, or_true, true_or, or_false, false_or, or_self, false_and, and_false, d_pos, d_s1, d_s2, d_s3, d_s4, d_s5, d_s6, d_s7, d_s8, Classical.not_not, z6603_0, z6691_l, f1, q1, i60, i62, t3, tk, f3, q2, sb, cd, d_s9, d_s10, d_s11, d_s12, d_s13, d_s14, d_s15, d_s16, d_s17, d_s18, d_s19, d_s20, d_s21, d_s22, d_s23, d_s24, d_s25, d_s26, d_s27, d_s28, d_s29, d_s30, le_sub1, le_T, le_F, lt_T, lt_F, eq_F, w32_T, bz0, bz1, lc_le, lc_ge, lc_lt, lc_gt, lc_eq]
theorem ex86_61 {dep : Int} {B : Nat} {e e2 : Nat} (hB : 12 ≤ B) (he : B ≤ e + 11) (he2 : B ≤ e2 + 11) (O : EXPP tp t T S 87 351 dep B) {h0 : HV} (q0 : 0 ≤ h0 258 11 ∧ h0 258 11 ≤ dep ∧ dep ≤ 12) (hh : hset h0 258 11 (h0 258 11 + 1) = h) (D : GD 1 tp t T S s h hr) (hd : hr 6603 12 = dep ∧ 1 ≤ h 258 11 ∧ h 258 11 ≤ dep + 1) (e1 : ∀ Q, Sp fz1 (e + 11) 87 [(3, 258), (0, dep)] h Q = Q 0 g) (f1 : ∀ Q, Sp fz1 (e2 + 11) 351 [(3, 6603)] hr Q = Q 0 gr)
    (W1 : GOM 1 tp t T S s h hr s1 g gr) (W2 : NVR h g gr) (W3 : DXP T S h hr g gr) (W4 : 1 ≤ gr S 15 - hr S 15) (W5 : ∀ K V CL, AGK K V CL T S (h T 17) (hr S 15) (hr S 22) g gr → EXK K V CL (h T 17) (hr S 15) (g T 17) (gr S 15) (gr S 15 - hr S 15) 1 (gr S 15 - hr S 15) 0) (fs : ∀ (d : Nat) Q, Sp fz1 (d + 7) 111 [(3, 129), (3, NV_947)] g Q = Q 2 g) (w : sgP tp t s1 61) : ∃ v f fr, (∀ Q, G fz1 (e + 12) 86 1 [(3, 258), (0, dep), (9, 0)] [] h0 Q = G fz1 (e + 12) 86 2 [(3, 258), (0, dep), (0, v)] [] f Q) ∧ (∀ Q, Sp fz1 (e2 + 12) 350 [(3, 6603)] hr Q = Q 0 fr) ∧ OUTC 1 tp t T S s h hr f fr 1 0 := by
  have D2 := W1.2.1
  have N := D.nb
  have N2 := D2.nb
  unfold NBR STQ at N N2
  have F := D2.f
  have W3' := W3
  unfold DXP at W3'
  have S2 := D2.sb
  have t3 : gr 6603 3 = s1 := F.2.2.1
  have s0 : 0 ≤ s1 := S2.1
  have ts : s1 < t := by have := tkK_r (tp := tp) (t := t) (s := s1); have := w.1; omega
  have s24 : s1 < 2400 := by omega
  have tk : gr 6691 s1 = 61 := by rw [D2.1.2.2.2.2.2 s1 s0 ts]; exact w.2
  have fs1 : ∀ Q, Sp fz1 (e + 11) 111 [(3, 129), (3, NV_947)] g Q = Q 2 g := fun Q => fs (e + 4) Q
  have q1 : ∀ (d : Nat) Q, Sp fz1 d 325 [(3, 6603)] gr Q = Q 1 gr := fun d Q => by rw [v325, if_pos (by omega)]
  have i60 : ∀ (d : Nat) Q, Sp fz1 d 334 [(3, 6603), (0, 60)] gr Q = Q 0 gr := fun d Q => by rw [v334 D2.1.2.2 D2.1.1]; exact congrArg (fun x => Q x gr) (if_neg (fun u => by have a := w.2; have b := u.2; omega))
  have i62 : ∀ (d : Nat) Q, Sp fz1 d 334 [(3, 6603), (0, 62)] gr Q = Q 0 gr := fun d Q => by rw [v334 D2.1.2.2 D2.1.1]; exact congrArg (fun x => Q x gr) (if_neg (fun u => by have a := w.2; have b := u.2; omega))
  have i61 : ∀ (d : Nat) Q, Sp fz1 d 334 [(3, 6603), (0, 61)] gr Q = Q 1 gr := fun d Q => by rw [v334 D2.1.2.2 D2.1.1]; exact congrArg (fun x => Q x gr) (if_pos w)
  obtain ⟨g1, gr1, f3, X⟩ := D2.node (e + 9) (e2 + 10)
  rcases X with ⟨e3, X1, X2, X3, X4, X5⟩ | ⟨⟨k0, e3, e3p⟩, X1, X2, X3, X4, X5⟩
  · have X2' := X2
    have X3' := X3
    unfold NC at X2'
    unfold NR at X3'
    obtain ⟨g2, gr2, Y1, -, -, -, Y3, Y4, -, -, e4, f4⟩ := X1.2.1.nx (e + 3) (e2 + 9)
    have Y3' := Y3
    have Y4' := Y4
    unfold NC at Y3'
    unfold NR at Y4'
    have Z := X1.trans Y1
    obtain ⟨k, kr, e5, f5, V⟩ := O (e + 11) (e2 + 11) _ g2 gr2 he he2 Y1.2.1 (by omega)
    have q2 : ∀ Q, Sp fz1 (e2 + 11) 325 [(3, 6603)] gr1 Q = Q 1 gr1 := fun Q => by rw [v325, if_pos X4]
    rcases V with ⟨s3, V1, V2, V3, V4, V5⟩ | V
    · have V3' := V3
      unfold DXP at V3'
      have kN := V1.2.1.nb
      have S3 := V1.2.1.sb
      have kT := kTC D.2.1.1.1
      unfold NBR STQ at kN
      have s13 := V1.1
      have s01 := Y1.1
      have s02 := W1.1
      obtain ⟨U1, U2, U3, U4⟩ := V1.2.1.st2 (p := 9) (x := 2) (q := 8) (a := 61) (b := 0) (by omega) (by omega) (by decide)
      have U2' := U2
      have U3' := U3
      unfold NC at U2'
      unfold NR at U3'
      have em : ∀ Q, Sp fz1 (e + 11) 93 [(3, 258), (0, 9), (0, 2)] k Q = Q 0 (emH T (emH T k 9) 2) := fun Q => q93 V1.2.1.2.1.1.1 V1.2.1.2.1.1.2 (by omega)
      have cd : ∀ Q, Sp fz1 (e2 + 11) 347 [(3, 6603), (0, 8), (0, 61), (0, 0)] kr Q = Q (kr S 15) (cdR S kr 8 61 0) := fun Q => v347 V1.2.1.2.1.2.1 V1.2.1.2.1.2.2 (by omega)
      refine ⟨2, emH T (emH T k 9) 2, cdR S kr 8 61 0, fun Q => ?_, fun Q => ?_, ?_⟩
      rotate_left 2
      · have GA := (Z.trans V1).trans U1
        have NV := (NVR.same (gr := gr2) (show g2 258 6 = g 258 6 by omega)).trans V1.2.2.1.1 V1.2.2.2.1 V2 |>.trans U1.2.2.1.1 U1.2.2.2.1 (NVR.same (by omega))
        refine OUTC.seq W1 W2 W3 D.nb W5 (.inl ⟨s3, GA, NV, by unfold DXP; omega, by omega, fun K V CL A => ?_⟩) (gg2 := 0) (lo2 := 1) (by omega) (by omega) (by omega) W4 rfl
        have A1 := A.sub (h := k) (hr := kr) (by omega) (U1.2.2.1.1.lo (c2 := g T 17) (by omega)) (U1.2.2.2.1.lo (r2 := gr S 15) (t2 := gr S 22) (by omega) (by omega)) (Int.le_refl _) (Int.le_refl _) (Int.le_refl _)
        have P1 := V5 K V CL (A1.lo (by omega) (by omega) (by omega))
        obtain ⟨u1, u2, u3, u4, -⟩ := U4 K V CL _ _ _ A (by omega) (by omega)
        have P2 := e_COMP (K := K) (V := V) (CL := CL) (c := k T 17) (r := kr S 15) (by omega) (by omega) u1 u3 (by rw [u2, u4 (by decide) (by decide) (by decide)]; unfold cmO; decide)
        rw [show g2 T 17 = g T 17 by omega, show gr2 S 15 = gr S 15 by omega] at P1
        have P3 := P1.seq (lo := 1) (w := kr S 15 - gr S 15 + 1) P2 (by omega) (by omega) (by omega) (by omega) (by omega) (by omega) (by omega) rfl rfl
        rw [show emH T (emH T k 9) 2 T 17 = k T 17 + 2 by omega, show cdR S kr 8 61 0 S 15 = kr S 15 + 1 by omega]
        rw [show kr S 15 + 1 - gr S 15 = kr S 15 - gr S 15 + 1 by omega]
        exact P3
      · rw [q86_1]
        simp (implicitDefEqProofs := false) (disch := omega) only [n86_1, x_aload0, y_call111, y_call28, y_call87, y_call90, y_call93, x_dup0, x_dup3, x_gc_2051, x_gf_2136, x_goto_2, x_iadd, x_iconst, x_ifCond_lt_2, x_iload1, x_iload2, x_istore2, x_jsr, x_pf_2136, klp_0, klp_1, klp_2, klp_3, klp_9, KC_0, KC_1, KC_2, KC_3, KC_4, ne_eq, not_false_eq_true, not_true_eq_false, true_and, and_true, and_self, implies_true, eq_self, true_imp_iff, false_implies, Int.reduceEq, Int.reduceNe, Int.reduceMod, Int.reduceMul, Int.reduceAdd, Int.reduceSub, Int.reduceLT, Int.reduceLE, Nat.reduceAdd, Nat.reduceLeDiff, Nat.reduceLT, Nat.reduceSub, reduceIte, wds_n, wds_0, wds_1, wds_2, wds_3, or_true, true_or, or_false, false_or, or_self, false_and, and_false, d_pos, d_s1, d_s2, d_s3, d_s4, d_s5, d_s6, d_s7, d_s8, Classical.not_not, z258_0, hh, e1, fs1, e3, e4, e5, em, hs_ne, hcell, hcel1, d_s9, d_s10, d_s11, d_s12, d_s13, d_s14, d_s15, d_s16, d_s17, d_s18, d_s19, d_s20, d_s21, d_s22, d_s23, d_s24, d_s25, d_s26, d_s27, d_s28, d_s29, d_s30, le_sub1, le_T, le_F, lt_T, lt_F, eq_F, w32_T, bz0, bz1, lc_le, lc_ge, lc_lt, lc_gt, lc_eq]
      · simp (implicitDefEqProofs := false) (disch := omega) only [sp350, b350_0, b350_1, b350_2, b350_3, q350_1, q350_2, q350_3, x_aload0, x_baload, y_call321, y_call325, y_call334, y_call346, y_call347, y_call351, x_gc_11267, x_gf_11288, x_goto_1, x_goto_2, x_goto_3, x_iconst, x_ifCond_eq_2, x_ifCond_eq_3, x_ifCond_ne_1, x_iload1, x_istore1, x_pop0, x_pop3, x_return, klp_0, klp_1, klp_2, klp_3, klp_9, KC_0, KC_1, KC_2, KC_3, KC_4, ne_eq, not_false_eq_true, not_true_eq_false, true_and, and_true, and_self, implies_true, eq_self, true_imp_iff, false_implies, Int.reduceEq, Int.reduceNe, Int.reduceMod, Int.reduceMul, Int.reduceAdd, Int.reduceSub, Int.reduceLT, Int.reduceLE, Nat.reduceAdd, Nat.reduceLeDiff, Nat.reduceLT, Nat.reduceSub, reduceIte, wds_n, wds_0, wds_1, wds_2, wds_3, or_true, true_or, or_false, false_or, or_self, false_and, and_false, d_pos, d_s1, d_s2, d_s3, d_s4, d_s5, d_s6, d_s7, d_s8, Classical.not_not, z6603_0, z6691_l, f1, q1, i60, i62, i61, t3, tk, f3, q2, f4, f5, cd, d_s9, d_s10, d_s11, d_s12, d_s13, d_s14, d_s15, d_s16, d_s17, d_s18, d_s19, d_s20, d_s21, d_s22, d_s23, d_s24, d_s25, d_s26, d_s27, d_s28, d_s29, d_s30, le_sub1, le_T, le_F, lt_T, lt_F, eq_F, w32_T, bz0, bz1, lc_le, lc_ge, lc_lt, lc_gt, lc_eq]
    · obtain ⟨⟨f, B1, B2⟩, F1, F2, b3, b4, b5⟩ := V
      obtain ⟨B3, F3⟩ := B1.em (x := 9)
      obtain ⟨B4, F4⟩ := B3.em (x := 2)
      have gN := Y1.2.1.nb
      unfold NBR STQ at gN
      obtain ⟨C1, C2, C3, C4, C5⟩ := B2.cd (p := 8) (a := 61) (b := 0) (by omega)
      have rb5 := B2.2.2.2.1
      have rb6 := B2.2.2.2.2
      have em : ∀ Q, Sp fz1 (e + 11) 93 [(3, 258), (0, 9), (0, 2)] k Q = Q 0 (emH T (emH T k 9) 2) := fun Q => q93 B1.1.1 B1.1.2 B1.2.2.2.1
      have cd : ∀ Q, Sp fz1 (e2 + 11) 347 [(3, 6603), (0, 8), (0, 61), (0, 0)] kr Q = Q (kr S 15) (cdR S kr 8 61 0) := fun Q => v347 B2.1.1 B2.1.2 (by omega)
      refine ⟨2, _, _, fun Q => ?_, fun Q => ?_, .inr ⟨⟨f, B4, C1⟩, W1.2.2.1.2.trans (Z.2.2.1.2.trans (F1.trans (F3.trans F4))), W1.2.2.2.2.trans (Z.2.2.2.2.trans (F2.trans C2)), by omega, by omega, by omega⟩⟩
      · rw [q86_1]
        simp (implicitDefEqProofs := false) (disch := omega) only [n86_1, x_aload0, y_call111, y_call28, y_call87, y_call90, y_call93, x_dup0, x_dup3, x_gc_2051, x_gf_2136, x_goto_2, x_iadd, x_iconst, x_ifCond_lt_2, x_iload1, x_iload2, x_istore2, x_jsr, x_pf_2136, klp_0, klp_1, klp_2, klp_3, klp_9, KC_0, KC_1, KC_2, KC_3, KC_4, ne_eq, not_false_eq_true, not_true_eq_false, true_and, and_true, and_self, implies_true, eq_self, true_imp_iff, false_implies, Int.reduceEq, Int.reduceNe, Int.reduceMod, Int.reduceMul, Int.reduceAdd, Int.reduceSub, Int.reduceLT, Int.reduceLE, Nat.reduceAdd, Nat.reduceLeDiff, Nat.reduceLT, Nat.reduceSub, reduceIte, wds_n, wds_0, wds_1, wds_2, wds_3, or_true, true_or, or_false, false_or, or_self, false_and, and_false, d_pos, d_s1, d_s2, d_s3, d_s4, d_s5, d_s6, d_s7, d_s8, Classical.not_not, z258_0, hh, e1, fs1, e3, e4, e5, em, hs_ne, hcell, hcel1, d_s9, d_s10, d_s11, d_s12, d_s13, d_s14, d_s15, d_s16, d_s17, d_s18, d_s19, d_s20, d_s21, d_s22, d_s23, d_s24, d_s25, d_s26, d_s27, d_s28, d_s29, d_s30, le_sub1, le_T, le_F, lt_T, lt_F, eq_F, w32_T, bz0, bz1, lc_le, lc_ge, lc_lt, lc_gt, lc_eq]
      · simp (implicitDefEqProofs := false) (disch := omega) only [sp350, b350_0, b350_1, b350_2, b350_3, q350_1, q350_2, q350_3, x_aload0, x_baload, y_call321, y_call325, y_call334, y_call346, y_call347, y_call351, x_gc_11267, x_gf_11288, x_goto_1, x_goto_2, x_goto_3, x_iconst, x_ifCond_eq_2, x_ifCond_eq_3, x_ifCond_ne_1, x_iload1, x_istore1, x_pop0, x_pop3, x_return, klp_0, klp_1, klp_2, klp_3, klp_9, KC_0, KC_1, KC_2, KC_3, KC_4, ne_eq, not_false_eq_true, not_true_eq_false, true_and, and_true, and_self, implies_true, eq_self, true_imp_iff, false_implies, Int.reduceEq, Int.reduceNe, Int.reduceMod, Int.reduceMul, Int.reduceAdd, Int.reduceSub, Int.reduceLT, Int.reduceLE, Nat.reduceAdd, Nat.reduceLeDiff, Nat.reduceLT, Nat.reduceSub, reduceIte, wds_n, wds_0, wds_1, wds_2, wds_3, or_true, true_or, or_false, false_or, or_self, false_and, and_false, d_pos, d_s1, d_s2, d_s3, d_s4, d_s5, d_s6, d_s7, d_s8, Classical.not_not, z6603_0, z6691_l, f1, q1, i60, i62, i61, t3, tk, f3, q2, f4, f5, cd, d_s9, d_s10, d_s11, d_s12, d_s13, d_s14, d_s15, d_s16, d_s17, d_s18, d_s19, d_s20, d_s21, d_s22, d_s23, d_s24, d_s25, d_s26, d_s27, d_s28, d_s29, d_s30, le_sub1, le_T, le_F, lt_T, lt_F, eq_F, w32_T, bz0, bz1, lc_le, lc_ge, lc_lt, lc_gt, lc_eq]
  · obtain ⟨g2, B2, F2, e5⟩ := b87 (d := e) (e := dep) X1
    obtain ⟨B3, F3⟩ := B2.em (x := 9)
    obtain ⟨B4, F4⟩ := B3.em (x := 2)
    have pp : ∀ Q, Sp fz1 (e + 11) 28 [(3, 129), (0, 0)] k0 Q = Q 0 g1 := fun Q => e3p _ Q
    have em : ∀ Q, Sp fz1 (e + 11) 93 [(3, 258), (0, 9), (0, 2)] g2 Q = Q 0 (emH T (emH T g2 9) 2) := fun Q => q93 B2.1.1 B2.1.2 B2.2.2.2.1
    have r14 : gr1 S 14 = gr S 14 := by rw [X5]; unfold bdR; rw [hs_ne (by have := kTR X2.1.1; omega)]
    have r15 : gr1 S 15 = gr S 15 := by rw [X5]; unfold bdR; rw [hs_ne (by have := kTR X2.1.1; omega)]
    have rb5 := X2.2.2.2.1
    have rb6 := X2.2.2.2.2
    have rb7 : 0 ≤ gr1 6603 7 := by have := X2.2.1; omega
    obtain ⟨C1, C2, C3, C4, C5⟩ := X2.cd (p := 8) (a := 61) (b := 0) (by omega)
    have q2 : ∀ Q, Sp fz1 (e2 + 11) 325 [(3, 6603)] gr1 Q = Q 0 gr1 := fun Q => by rw [v325, if_neg (by omega)]
    have cd : ∀ Q, Sp fz1 (e2 + 11) 347 [(3, 6603), (0, 8), (0, 61), (0, 0)] gr1 Q = Q (gr1 S 15) (cdR S gr1 8 61 0) := fun Q => v347 X2.1.1 X2.1.2 (by omega)
    have sb : ∀ Q, Sp fz1 (e2 + 11) 351 [(3, 6603)] gr1 Q = Q 0 gr1 := fun Q => v351b rb7
    refine ⟨2, _, _, fun Q => ?_, fun Q => ?_, .inr ⟨⟨s1, B4, C1⟩, W1.2.2.1.2.trans (X3.trans (F2.trans (F3.trans F4))), W1.2.2.2.2.trans (X4.trans C2), by omega, by omega, by omega⟩⟩
    · rw [q86_1]
      simp (implicitDefEqProofs := false) (disch := omega) only [n86_1, x_aload0, y_call111, y_call28, y_call87, y_call90, y_call93, x_dup0, x_dup3, x_gc_2051, x_gf_2136, x_goto_2, x_iadd, x_iconst, x_ifCond_lt_2, x_iload1, x_iload2, x_istore2, x_jsr, x_pf_2136, klp_0, klp_1, klp_2, klp_3, klp_9, KC_0, KC_1, KC_2, KC_3, KC_4, ne_eq, not_false_eq_true, not_true_eq_false, true_and, and_true, and_self, implies_true, eq_self, true_imp_iff, false_implies, Int.reduceEq, Int.reduceNe, Int.reduceMod, Int.reduceMul, Int.reduceAdd, Int.reduceSub, Int.reduceLT, Int.reduceLE, Nat.reduceAdd, Nat.reduceLeDiff, Nat.reduceLT, Nat.reduceSub, reduceIte, wds_n, wds_0, wds_1, wds_2, wds_3, or_true, true_or, or_false, false_or, or_self, false_and, and_false, d_pos, d_s1, d_s2, d_s3, d_s4, d_s5, d_s6, d_s7, d_s8, Classical.not_not, z258_0, hh, e1, fs1, e3, pp, e5, em, hs_ne, hcell, hcel1, d_s9, d_s10, d_s11, d_s12, d_s13, d_s14, d_s15, d_s16, d_s17, d_s18, d_s19, d_s20, d_s21, d_s22, d_s23, d_s24, d_s25, d_s26, d_s27, d_s28, d_s29, d_s30, le_sub1, le_T, le_F, lt_T, lt_F, eq_F, w32_T, bz0, bz1, lc_le, lc_ge, lc_lt, lc_gt, lc_eq]
    · simp (implicitDefEqProofs := false) (disch := omega) only [sp350, b350_0, b350_1, b350_2, b350_3, q350_1, q350_2, q350_3, x_aload0, x_baload, y_call321, y_call325, y_call334, y_call346, y_call347, y_call351, x_gc_11267, x_gf_11288, x_goto_1, x_goto_2, x_goto_3, x_iconst, x_ifCond_eq_2, x_ifCond_eq_3, x_ifCond_ne_1, x_iload1, x_istore1, x_pop0, x_pop3, x_return, klp_0, klp_1, klp_2, klp_3, klp_9, KC_0, KC_1, KC_2, KC_3, KC_4, ne_eq, not_false_eq_true, not_true_eq_false, true_and, and_true, and_self, implies_true, eq_self, true_imp_iff, false_implies, Int.reduceEq, Int.reduceNe, Int.reduceMod, Int.reduceMul, Int.reduceAdd, Int.reduceSub, Int.reduceLT, Int.reduceLE, Nat.reduceAdd, Nat.reduceLeDiff, Nat.reduceLT, Nat.reduceSub, reduceIte, wds_n, wds_0, wds_1, wds_2, wds_3, or_true, true_or, or_false, false_or, or_self, false_and, and_false, d_pos, d_s1, d_s2, d_s3, d_s4, d_s5, d_s6, d_s7, d_s8, Classical.not_not, z6603_0, z6691_l, f1, q1, i60, i62, i61, t3, tk, f3, q2, sb, cd, d_s9, d_s10, d_s11, d_s12, d_s13, d_s14, d_s15, d_s16, d_s17, d_s18, d_s19, d_s20, d_s21, d_s22, d_s23, d_s24, d_s25, d_s26, d_s27, d_s28, d_s29, d_s30, le_sub1, le_T, le_F, lt_T, lt_F, eq_F, w32_T, bz0, bz1, lc_le, lc_ge, lc_lt, lc_gt, lc_eq]
/-- an exp, from where it is told that it is open -/
theorem ex86c {dep : Int} {B e e2 : Nat} (hB : 12 ≤ B) (h1 : B ≤ e + 11) (h2 : B ≤ e2 + 11) (O : EXPP tp t T S 87 351 dep B) {h0 : HV} (q0 : 0 ≤ h0 258 11 ∧ h0 258 11 ≤ dep ∧ dep ≤ 12) (hh : hset h0 258 11 (h0 258 11 + 1) = h) (D : GD 1 tp t T S s h hr) (hd : hr 6603 12 = dep ∧ 1 ≤ h 258 11 ∧ h 258 11 ≤ dep + 1) : ∃ v f fr, (∀ Q, G fz1 (e + 12) 86 1 [(3, 258), (0, dep), (9, 0)] [] h0 Q = G fz1 (e + 12) 86 2 [(3, 258), (0, dep), (0, v)] [] f Q) ∧ (∀ Q, Sp fz1 (e2 + 12) 350 [(3, 6603)] hr Q = Q 0 fr) ∧ OUTC 1 tp t T S s h hr f fr 1 0 := by
  obtain ⟨g, gr, e1, f1, W⟩ := O (e + 11) (e2 + 11) s h hr (by omega) (by omega) D hd
  rcases W with ⟨s3, W1, W2, W3, W4, W5⟩ | W
  · have D2 := W1.2.1
    have F := D2.f
    have k1 := D2.1.2.1
    have S1 := D2.2.2.1.1
    have fs : ∀ (d : Nat) Q, Sp fz1 (d + 7) 111 [(3, 129), (3, NV_947)] g Q = Q (if tkK tp t s3 = 4 then ixF (tp s3) [60, 62, 61] 0 else -1) g := fun d Q => by
      rw [NV_947_e]
      exact c111 k1 D2.1.1 (str_7 S1) (by decide) (by decide)
    by_cases z : sgP tp t s3 60
    · exact ex86_60 hB (by omega) (by omega) O q0 hh D hd e1 f1 W1 W2 W3 W4 W5 (fun d Q => by rw [fs, if_pos z.1, z.2]; rfl) z
    by_cases z2 : sgP tp t s3 62
    · exact ex86_62 hB (by omega) (by omega) O q0 hh D hd e1 f1 W1 W2 W3 W4 W5 (fun d Q => by rw [fs, if_pos z2.1, z2.2]; rfl) z2
    by_cases z3 : sgP tp t s3 61
    · exact ex86_61 hB (by omega) (by omega) O q0 hh D hd e1 f1 W1 W2 W3 W4 W5 (fun d Q => by rw [fs, if_pos z3.1, z3.2]; rfl) z3
    have w60 := z
    have w62 := z2
    have w61 := z3
    have q1 : ∀ (d : Nat) Q, Sp fz1 d 325 [(3, 6603)] gr Q = Q 1 gr := fun d Q => by rw [v325, if_pos (by omega)]
    have i60 : ∀ (d : Nat) Q, Sp fz1 d 334 [(3, 6603), (0, 60)] gr Q = Q 0 gr := fun d Q => by rw [v334 D2.1.2.2 D2.1.1]; exact congrArg (fun x => Q x gr) (if_neg w60)
    have i62 : ∀ (d : Nat) Q, Sp fz1 d 334 [(3, 6603), (0, 62)] gr Q = Q 0 gr := fun d Q => by rw [v334 D2.1.2.2 D2.1.1]; exact congrArg (fun x => Q x gr) (if_neg w62)
    have i61 : ∀ (d : Nat) Q, Sp fz1 d 334 [(3, 6603), (0, 61)] gr Q = Q 0 gr := fun d Q => by rw [v334 D2.1.2.2 D2.1.1]; exact congrArg (fun x => Q x gr) (if_neg w61)
    have fs1 : ∀ Q, Sp fz1 (e + 11) 111 [(3, 129), (3, NV_947)] g Q = Q (-1) g := fun Q => by
      rw [fs (e + 4)]
      by_cases y : tkK tp t s3 = 4
      · have y1 : ¬ tp s3 = 60 := fun q => z ⟨y, q⟩
        have y2 : ¬ tp s3 = 62 := fun q => z2 ⟨y, q⟩
        have y3 : ¬ tp s3 = 61 := fun q => z3 ⟨y, q⟩
        rw [if_pos y]
        unfold ixF
        rw [if_neg (fun q => y1 q.symm)]
        unfold ixF
        rw [if_neg (fun q => y2 q.symm)]
        unfold ixF
        rw [if_neg (fun q => y3 q.symm)]
        rfl
      · rw [if_neg y]
    refine ⟨-1, g, gr, fun Q => ?_, fun Q => ?_, .inl ⟨s3, W1, W2, W3, W4, W5⟩⟩
    · rw [q86_1]
      simp (implicitDefEqProofs := false) (disch := omega) only [n86_1, x_aload0, y_call111, y_call28, y_call87, y_call90, y_call93, x_dup0, x_dup3, x_gc_2051, x_gf_2136, x_goto_2, x_iadd, x_iconst, x_ifCond_lt_2, x_iload1, x_iload2, x_istore2, x_jsr, x_pf_2136, klp_0, klp_1, klp_2, klp_3, klp_9, KC_0, KC_1, KC_2, KC_3, KC_4, ne_eq, not_false_eq_true, not_true_eq_false, true_and, and_true, and_self, implies_true, eq_self, true_imp_iff, false_implies, Int.reduceEq, Int.reduceNe, Int.reduceMod, Int.reduceMul, Int.reduceAdd, Int.reduceSub, Int.reduceLT, Int.reduceLE, Nat.reduceAdd, Nat.reduceLeDiff, Nat.reduceLT, Nat.reduceSub, reduceIte, wds_n, wds_0, wds_1, wds_2, wds_3, or_true, true_or, or_false, false_or, or_self, false_and, and_false, d_pos, d_s1, d_s2, d_s3, d_s4, d_s5, d_s6, d_s7, d_s8, Classical.not_not, z258_0, hh, e1, fs1, hs_ne, hcell, hcel1, d_s9, d_s10, d_s11, d_s12, d_s13, d_s14, d_s15, d_s16, d_s17, d_s18, d_s19, d_s20, d_s21, d_s22, d_s23, d_s24, d_s25, d_s26, d_s27, d_s28, d_s29, d_s30, le_sub1, le_T, le_F, lt_T, lt_F, eq_F, w32_T, bz0, bz1, lc_le, lc_ge, lc_lt, lc_gt, lc_eq]
    · simp (implicitDefEqProofs := false) (disch := omega) only [sp350, b350_0, b350_1, b350_2, b350_3, q350_1, q350_2, q350_3, x_aload0, x_baload, y_call321, y_call325, y_call334, y_call346, y_call347, y_call351, x_gc_11267, x_gf_11288, x_goto_1, x_goto_2, x_goto_3, x_iconst, x_ifCond_eq_2, x_ifCond_eq_3, x_ifCond_ne_1, x_iload1, x_istore1, x_pop0, x_pop3, x_return, klp_0, klp_1, klp_2, klp_3, klp_9, KC_0, KC_1, KC_2, KC_3, KC_4, ne_eq, not_false_eq_true, not_true_eq_false, true_and, and_true, and_self, implies_true, eq_self, true_imp_iff, false_implies, Int.reduceEq, Int.reduceNe, Int.reduceMod, Int.reduceMul, Int.reduceAdd, Int.reduceSub, Int.reduceLT, Int.reduceLE, Nat.reduceAdd, Nat.reduceLeDiff, Nat.reduceLT, Nat.reduceSub, reduceIte, wds_n, wds_0, wds_1, wds_2, wds_3, or_true, true_or, or_false, false_or, or_self, false_and, and_false, d_pos, d_s1, d_s2, d_s3, d_s4, d_s5, d_s6, d_s7, d_s8, Classical.not_not, z6603_0, z6691_l, f1, q1, i60, i62, i61, d_s9, d_s10, d_s11, d_s12, d_s13, d_s14, d_s15, d_s16, d_s17, d_s18, d_s19, d_s20, d_s21, d_s22, d_s23, d_s24, d_s25, d_s26, d_s27, d_s28, d_s29, d_s30, le_sub1, le_T, le_F, lt_T, lt_F, eq_F, w32_T, bz0, bz1, lc_le, lc_ge, lc_lt, lc_gt, lc_eq]
  · obtain ⟨⟨f, B1, B2⟩, -⟩ := id W
    have rb7 : 0 ≤ gr 6603 7 := by have := B2.2.1; omega
    have k2 := B1.k.2.2
    have k4 := B1.2.2.1
    have fs1 : ∀ Q, Sp fz1 (e + 11) 111 [(3, 129), (3, NV_947)] g Q = Q (-1) g := fun Q => by rw [NV_947_e]; exact c111b k2 (str_7 k4) (by decide) (by decide)
    have q1 : ∀ (d : Nat) Q, Sp fz1 d 325 [(3, 6603)] gr Q = Q 0 gr := fun d Q => by rw [v325, if_neg (by omega)]
    refine ⟨-1, g, gr, fun Q => ?_, fun Q => ?_, .inr W⟩
    · rw [q86_1]
      simp (implicitDefEqProofs := false) (disch := omega) only [n86_1, x_aload0, y_call111, y_call28, y_call87, y_call90, y_call93, x_dup0, x_dup3, x_gc_2051, x_gf_2136, x_goto_2, x_iadd, x_iconst, x_ifCond_lt_2, x_iload1, x_iload2, x_istore2, x_jsr, x_pf_2136, klp_0, klp_1, klp_2, klp_3, klp_9, KC_0, KC_1, KC_2, KC_3, KC_4, ne_eq, not_false_eq_true, not_true_eq_false, true_and, and_true, and_self, implies_true, eq_self, true_imp_iff, false_implies, Int.reduceEq, Int.reduceNe, Int.reduceMod, Int.reduceMul, Int.reduceAdd, Int.reduceSub, Int.reduceLT, Int.reduceLE, Nat.reduceAdd, Nat.reduceLeDiff, Nat.reduceLT, Nat.reduceSub, reduceIte, wds_n, wds_0, wds_1, wds_2, wds_3, or_true, true_or, or_false, false_or, or_self, false_and, and_false, d_pos, d_s1, d_s2, d_s3, d_s4, d_s5, d_s6, d_s7, d_s8, Classical.not_not, z258_0, hh, e1, fs1, hs_ne, hcell, hcel1, d_s9, d_s10, d_s11, d_s12, d_s13, d_s14, d_s15, d_s16, d_s17, d_s18, d_s19, d_s20, d_s21, d_s22, d_s23, d_s24, d_s25, d_s26, d_s27, d_s28, d_s29, d_s30, le_sub1, le_T, le_F, lt_T, lt_F, eq_F, w32_T, bz0, bz1, lc_le, lc_ge, lc_lt, lc_gt, lc_eq]
    · simp (implicitDefEqProofs := false) (disch := omega) only [sp350, b350_0, b350_1, b350_2, b350_3, q350_1, q350_2, q350_3, x_aload0, x_baload, y_call321, y_call325, y_call334, y_call346, y_call347, y_call351, x_gc_11267, x_gf_11288, x_goto_1, x_goto_2, x_goto_3, x_iconst, x_ifCond_eq_2, x_ifCond_eq_3, x_ifCond_ne_1, x_iload1, x_istore1, x_pop0, x_pop3, x_return, klp_0, klp_1, klp_2, klp_3, klp_9, KC_0, KC_1, KC_2, KC_3, KC_4, ne_eq, not_false_eq_true, not_true_eq_false, true_and, and_true, and_self, implies_true, eq_self, true_imp_iff, false_implies, Int.reduceEq, Int.reduceNe, Int.reduceMod, Int.reduceMul, Int.reduceAdd, Int.reduceSub, Int.reduceLT, Int.reduceLE, Nat.reduceAdd, Nat.reduceLeDiff, Nat.reduceLT, Nat.reduceSub, reduceIte, wds_n, wds_0, wds_1, wds_2, wds_3, or_true, true_or, or_false, false_or, or_self, false_and, and_false, d_pos, d_s1, d_s2, d_s3, d_s4, d_s5, d_s6, d_s7, d_s8, Classical.not_not, z6603_0, z6691_l, f1, q1, d_s9, d_s10, d_s11, d_s12, d_s13, d_s14, d_s15, d_s16, d_s17, d_s18, d_s19, d_s20, d_s21, d_s22, d_s23, d_s24, d_s25, d_s26, d_s27, d_s28, d_s29, d_s30, le_sub1, le_T, le_F, lt_T, lt_F, eq_F, w32_T, bz0, bz1, lc_le, lc_ge, lc_lt, lc_gt, lc_eq]
/-- how many exps are open: nothing else is new -/
theorem o11_o {y o : Int} (a : o ≠ 258) : hset h 258 11 y o = h o := hs_ne a
theorem o11_i {y i : Int} (a : i ≠ 11) : hset h 258 11 y 258 i = h 258 i := hcell a
theorem GOM.o11 {y : Int} (D : GD bX tp t T S s h hr) : GOM bX tp t T S s h hr s (hset h 258 11 y) hr := by
  have D0 := D
  obtain ⟨⟨K, k1, k2⟩, ⟨⟨d1, d2⟩, d3, d4⟩, ⟨s1, s3⟩, N, M, L, R⟩ := D
  have kT := kTC d1
  refine ⟨Int.le_refl _, ⟨⟨K, k1.fr (o11_o (by decide)) (o11_o (by decide)), k2⟩, D0.2.cls (o11_i (by decide)) (fun o w => o11_o (by omega)) ?_ (M.fr (o11_i (by decide)) (o11_o (by decide)) (o11_o (by decide)) rfl rfl rfl rfl rfl) (L.fr (o11_i (by decide)) (o11_o (by decide)) (o11_o (by decide)) (o11_o (by decide)) (by rw [o11_o (by omega)]; exact Int.le_refl _) (PRE.of_eq (o11_o (by omega))) rfl rfl rfl rfl (Int.le_refl _))⟩, ⟨?_, fun o _ a _ _ _ _ _ _ _ => o11_o a, fun i _ _ => by rw [o11_o (by omega)], fun i a _ _ => o11_i a.2⟩, ERP.rfl', FXR.rfl'⟩
  · unfold NBR STQ at *
    rw [o11_o (o := T) (by omega), o11_i (i := 3) (by decide), o11_i (i := 6) (by decide), o11_i (i := 10) (by decide)]
    exact N
  · unfold ECP
    rw [o11_o (o := T) (by omega), o11_i (i := 6) (by decide), o11_i (i := 10) (by decide), o11_o (o := T + 1430) (by omega), o11_o (o := 353) (by omega), o11_o (o := 416) (by omega), o11_o (o := 481) (by omega), o11_o (o := 544) (by omega), o11_o (o := 608) (by omega)]
    exact ECP.rfl'
theorem AGK.o11 {K : HV} {V CL : Int → Int → Prop} {c r t2 y : Int} (hT : TC T) (A : AGK K V CL T S c r t2 (hset g 258 11 y) gr) : AGK K V CL T S c r t2 g gr := by
  have kT := kTC hT
  unfold AGK at *
  rw [o11_o (o := T) (by omega), o11_o (o := T + 1430) (by omega), o11_i (i := 6) (by decide), o11_i (i := 10) (by decide), o11_o (o := 353) (by omega), o11_o (o := 608) (by omega)] at A
  exact A
/-- an exp, where the one that lies around it is told of again -/
theorem OUTC.o11 {x y gg lo : Int} (D : GD 1 tp t T S s h hr) (W : OUTC 1 tp t T S s (hset h 258 11 x) hr g gr gg lo) (e : g 258 11 = x → y = h 258 11) : OUTC 1 tp t T S s h hr (hset g 258 11 y) gr gg lo := by
  have hT := D.2.1.1.1
  have kT := kTC hT
  have G0 := GOM.o11 (y := x) D
  rcases W with ⟨s1, W1, W2, W3, W4, W5⟩ | ⟨⟨f, B1, B2⟩, F1, F2, b3, b4, b5⟩
  · have G1 := GOM.o11 (y := y) W1.2.1
    have W3' := W3
    unfold DXP at W3'
    rw [o11_o (o := T) (by omega), o11_i (i := 3) (by decide), o11_i (i := 6) (by decide), o11_i (i := 10) (by decide), hcel1] at W3'
    rw [o11_o (o := T) (by omega)] at W5
    have ey := e W3'.1.2.2.2
    refine .inl ⟨s1, (G0.trans W1).trans G1, fun v v0 v1 v2 v3 => ?_, ?_, W4, fun K V CL A => ?_⟩
    · rw [o11_i (i := 6) (by decide)] at v2
      rw [o11_o (o := 416) (by decide)] at v3 ⊢
      rw [o11_o (o := 353) (by decide)]
      exact W2 v v0 (by rw [o11_i (i := 6) (by decide)]; exact v1) v2 v3
    · unfold DXP
      rw [o11_o (o := T) (by omega), o11_i (i := 3) (by decide), o11_i (i := 6) (by decide), o11_i (i := 10) (by decide), hcel1]
      omega
    · rw [o11_o (o := T) (by omega)]
      exact W5 K V CL (A.o11 hT)
  · obtain ⟨B3, F3⟩ := B1.o11 (y := y)
    exact .inr ⟨⟨f, B3, B2⟩, G0.2.2.1.2.trans (F1.trans F3), F2, b3, b4, b5⟩
theorem ex86 {dep : Int} {B : Nat} (hB : 12 ≤ B) (hdp : dep ≤ 12) (O : EXPP tp t T S 87 351 dep B) : EXPQ tp t T S dep (B + 1) := by
  intro dc dr s h hr h1 h2 D hd
  obtain ⟨e, rfl⟩ : ∃ e, dc = e + 12 := ⟨dc - 12, by omega⟩
  obtain ⟨e2, rfl⟩ : ∃ e, dr = e + 12 := ⟨dr - 12, by omega⟩
  have G0 := GOM.o11 (y := h 258 11 + 1) D
  obtain ⟨v, f, fr, a1, a2, W⟩ := ex86c (e := e) (e2 := e2) hB (by omega) (by omega) O (h0 := h) (by omega) rfl G0.2.1 (by rw [hcel1]; omega)
  refine ⟨hset f 258 11 (w32 (f 258 11 - 1)), fr, fun Q => ?_, a2, OUTC.o11 D W (fun w => ?_)⟩
  · simp (implicitDefEqProofs := false) (disch := omega) only [sp86, b86_0, x_aload0, x_gf_2136, x_goto_1, x_iconst, x_ifCond_ne_1, x_pf_2072, klp_0, klp_1, klp_2, klp_3, klp_9, KC_0, KC_1, KC_2, KC_3, KC_4, ne_eq, not_false_eq_true, not_true_eq_false, true_and, and_true, and_self, implies_true, eq_self, true_imp_iff, false_implies, Int.reduceEq, Int.reduceNe, Int.reduceMod, Int.reduceMul, Int.reduceAdd, Int.reduceSub, Int.reduceLT, Int.reduceLE, Nat.reduceAdd, Nat.reduceLeDiff, Nat.reduceLT, Nat.reduceSub, reduceIte, wds_n, wds_0, wds_1, wds_2, wds_3, or_true, true_or, or_false, false_or, or_self, false_and, and_false, d_pos, d_s1, d_s2, d_s3, d_s4, d_s5, d_s6, d_s7, d_s8, Classical.not_not, z258_0, a1, hs_ne, hcell, hcel1, d_s9, d_s10, d_s11, d_s12, d_s13, d_s14, d_s15, d_s16, d_s17, d_s18, d_s19, d_s20, d_s21, d_s22, d_s23, d_s24, d_s25, d_s26, d_s27, d_s28, d_s29, d_s30, le_sub1, le_T, le_F, lt_T, lt_F, eq_F, w32_T, bz0, bz1, lc_le, lc_ge, lc_lt, lc_gt, lc_eq]
    rw [q86_2]
    simp (implicitDefEqProofs := false) (disch := omega) only [b86_2, q86_2, x_aload0, x_dup0, x_dup3, x_gf_2136, x_iconst, x_isub, x_pf_2136, x_return, klp_0, klp_1, klp_2, klp_3, klp_9, KC_0, KC_1, KC_2, KC_3, KC_4, ne_eq, not_false_eq_true, not_true_eq_false, true_and, and_true, and_self, implies_true, eq_self, true_imp_iff, false_implies, Int.reduceEq, Int.reduceNe, Int.reduceMod, Int.reduceMul, Int.reduceAdd, Int.reduceSub, Int.reduceLT, Int.reduceLE, Nat.reduceAdd, Nat.reduceLeDiff, Nat.reduceLT, Nat.reduceSub, reduceIte, wds_n, wds_0, wds_1, wds_2, wds_3, or_true, true_or, or_false, false_or, or_self, false_and, and_false, d_pos, d_s1, d_s2, d_s3, d_s4, d_s5, d_s6, d_s7, d_s8, Classical.not_not, z258_0, hs_ne, hcell, hcel1, d_s9, d_s10, d_s11, d_s12, d_s13, d_s14, d_s15, d_s16, d_s17, d_s18, d_s19, d_s20, d_s21, d_s22, d_s23, d_s24, d_s25, d_s26, d_s27, d_s28, d_s29, d_s30, le_sub1, le_T, le_F, lt_T, lt_F, eq_F, w32_T, bz0, bz1, lc_le, lc_ge, lc_lt, lc_gt, lc_eq]
  · rw [w, w32_id (by omega)]
    omega
end SM
