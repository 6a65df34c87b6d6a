/-! THE PURE SIDE, 165: acts on both sides, what they come to; give, raise, if: printed by wip/tools/gen8r.py -/
/-- how far the numbers have grown in acts -/
def DXB (T S s s1 a b c : Int) (h hr g gr : HV) : Prop := (0 ≤ g T 15 - h T 15 ∧ hr S 15 ≤ gr S 15 ∧ gr S 15 - hr S 15 ≤ 11 * (g T 15 - h T 15) + a) ∧ (0 ≤ g T 17 - h T 17 ∧ 2 * (g T 17 - h T 17) ≤ 6 * (g T 15 - h T 15) + (s1 - s) + b) ∧ (g 258 6 - h 258 6 ≤ g T 15 - h T 15 + c ∧ gr 6603 15 - hr 6603 15 ≤ g T 15 - h T 15 + c ∧ gr 6603 19 - hr 6603 19 ≤ g T 15 - h T 15 + c ∧ g 258 10 - h 258 10 ≤ g T 15 - h T 15) ∧ (gr S 20 - hr S 20 ≤ g T 15 - h T 15 ∧ gr S 21 - hr S 21 ≤ g T 15 - h T 15 + c ∧ gr S 22 - hr S 22 ≤ g T 15 - h T 15 + c ∧ hr S 21 ≤ gr S 21 ∧ hr S 22 ≤ gr S 22) ∧ (hr S 20 ≤ gr S 20 ∧ h 258 6 ≤ g 258 6 ∧ hr 6603 15 ≤ gr 6603 15 ∧ hr 6603 19 ≤ gr 6603 19) ∧ gr 6603 12 = hr 6603 12 ∧ gr (S + 84) 6 = hr (S + 84) 6 ∧ g 258 11 = h 258 11
def BADB (T S a : Int) (h hr g gr : HV) : Prop := (∃ f, BDC T f g ∧ BDQ S f gr) ∧ FXC T h g ∧ FXR S hr gr ∧ hr S 14 ≤ gr S 14 ∧ hr S 15 ≤ gr S 15 ∧ gr S 15 ≤ hr S 15 + 11 * (gr S 14 - hr S 14) + a
/-- acts begin with a STEP -/
def FSP (T : Int) (h g : HV) : Prop := g T 17 = h T 17 ∨ CEL T g (h T 17) 1
/-- blocks and acts: both stand and the code in between is a block's, or both have met the same fault -/
def OUTB (bX : Int) (tp : Int → Int) (t T S s : Int) (h hr g gr : HV) (dp w : Int) : Prop := (∃ s1, s + w ≤ s1 ∧ FSP T h g ∧ GOM bX tp t T S s h hr s1 g gr ∧ NVR h g gr ∧ DXB T S s s1 0 (-w) 0 h hr g gr ∧ ∀ K V CL, AGK K V CL T S (h T 17) (hr S 15) (hr S 22) g gr → BKP K V CL (h T 17) (hr S 15) (g T 17) (gr S 15) (hr S 21) (hr S 22) dp) ∨ BADB T S 0 h hr g gr
/-- an act behind its STEP -/
def OUTA (bX : Int) (tp : Int → Int) (t T S s : Int) (h hr g gr : HV) (dp : Int) : Prop := (∃ s1, GOM bX tp t T S s h hr s1 g gr ∧ NVR h g gr ∧ DXB T S s s1 10 4 1 h hr g gr ∧ ∀ K V CL, AGK K V CL T S (h T 17) (hr S 15) (hr S 22) g gr → K 0 (h T 17 - 1) = 1 → K 1 (hr S 15 - 1) = 0 → BKP K V CL (h T 17 - 1) (hr S 15 - 1) (g T 17) (gr S 15) (hr S 21) (hr S 22) dp) ∨ BADB T S 10 h hr g gr
/-- what holds behind an act's STEP -/
def PRA (T S s : Int) (h hr : HV) : Prop := (1 ≤ h T 17 ∧ 2 * h T 17 + 4 ≤ 6 * h T 15 + s) ∧ (1 ≤ hr S 15 ∧ hr S 15 + 10 ≤ 11 * h T 15 + hr (S + 84) 6) ∧ h 258 6 + 1 ≤ 4 + h T 15 ∧ hr 6603 15 + 1 ≤ 4 + h T 15 ∧ hr 6603 19 + 1 ≤ h T 15 ∧ hr S 21 + 1 ≤ h T 15 ∧ hr S 22 + 1 ≤ h T 15
def BLKP (bX : Int) (tp : Int → Int) (t T S dep : Int) (B : Nat) : Prop := ∀ (dc dr : Nat) (s : Int) (h hr : HV), B ≤ dc → B ≤ dr → GD bX tp t T S s h hr → hr 6603 12 = dep ∧ h 258 11 = 0 → ∃ g gr, (∀ Q, Sp fz1 dc 78 [(3, 258), (0, dep)] h Q = Q 0 g) ∧ (∀ Q, Sp fz1 dr 343 [(3, 6603)] hr Q = Q 0 gr) ∧ OUTB bX tp t T S s h hr g gr dep 2
theorem ix_no {w : Int} : ∀ (l : List Int) (i : Int), ¬ w ∈ l → ix w l i = -1
  | [], _, _ => rfl
  | a :: l, i, h => by
    rw [ix, if_neg (fun e => h (by rw [e]; exact List.mem_cons_self)), ix_no l (i + 1) (fun m => h (List.mem_cons_of_mem _ m))]
section SM
variable {bX : Int} {tp : Int → Int} {t T S s s1 s2 f : Int} {h hr g gr k kr m mr : HV} {Q : Int → HV → Prop} {d : Nat}
theorem wlen {l : List Int} {w : Int} (D : GD bX tp t T S s h hr) (hk : tkK tp t s = 1) (hw : wdT tp t s = w) (hl : ∀ q : Nat, q < l.length → 1 ≤ l.getD q 0 ∧ l.getD q 0 ≤ 127) (e : w = pkL l) : tkE tp t s - s = l.length := ((wrd_eq hk D.sb.1 D.sb.2.2 hl).mp (hw.trans e)).1
theorem GD.fw {o w : Int} {l : List Int} (D : GD bX tp t T S s h hr) (S : STR h o l) (hl : l.length ≤ 1000) (e : wordsOf l 0 = [w]) : Sp fz1 (d + 5) 45 [(3, 129), (3, o)] h Q = Q (if tkK tp t s = 1 ∧ wdT tp t s = w then 0 else -1) h := by
  rw [c45 D.1.2.1 S hl e]
  unfold fdW
  by_cases z : tkK tp t s = 1
  · rw [if_pos z]
    unfold ix
    by_cases z2 : wdT tp t s = w
    · rw [if_pos z2.symm, if_pos ⟨z, z2⟩]
    · rw [if_neg (fun q => z2 q.symm), if_neg (fun q => z2 q.2)]
      rfl
  · rw [if_neg z, if_neg (fun q => z q.1)]
theorem ts_k (D : GD bX tp t T S s h hr) (hk : tkK tp t s ≠ 0) : s < t := by
  have := tkK_r (tp := tp) (t := t) (s := s)
  have := D.sb
  omega
/-- the failure that the token names, 0 for none -/
theorem GD.fail (D : GD bX tp t T S s h hr) : ∃ f, (0 ≤ f ∧ f ≤ 7) ∧ (∀ (d : Nat) Q, Sp fz1 (d + 5) 45 [(3, 129), (3, NV_563)] h Q = Q (f - 1) h) ∧ (∀ (d : Nat) Q, Sp fz1 (d + 6) 363 [(3, 6603)] hr Q = Q (if f = 0 then -9 else f) hr) ∧ (1 ≤ f → s < t ∧ 4 ≤ tkE tp t s - s) := by
  have e : ∀ (d : Nat) Q, Sp fz1 (d + 5) 45 [(3, 129), (3, NV_563)] h Q = Q (fdW wFAILS tp t s) h := fun d Q => by
    rw [NV_563_e]
    exact c45 D.1.2.1 (str_4 D.2.2.1.1) (by decide) wFAILS_e
  by_cases z0 : tkK tp t s = 1 ∧ wdT tp t s = 110404120962149
  · refine ⟨1, by decide, fun d Q => ?_, fun d Q => ?_, fun _ => ⟨ts_k D (by omega), ?_⟩⟩
    · rw [e, fdW_y z0.1, z0.2]
      rfl
    · have jdivide : ∀ (d : Nat) Q, Sp fz1 (d + 5) 327 [(3, 6603), (3, NV_4019)] hr Q = Q 1 hr := fun d Q => by rw [NV_4019_e, iw_divide D.1.2.2 D.1.1 D.2.2.1.2]; exact congrArg (fun x => Q x hr) (if_pos z0)
      rw [if_neg (by decide)]
      simp (implicitDefEqProofs := false) (disch := omega) only [sp363, n363_0, n363_1, n363_2, n363_3, n363_4, n363_5, n363_6, b363_7, b363_8, q363_1, q363_2, q363_3, q363_4, q363_5, q363_6, q363_7, q363_8, x_aload0, y_call327, x_goto_8, x_iconst, x_ifCond_eq_1, x_ifCond_eq_2, x_ifCond_eq_3, x_ifCond_eq_4, x_ifCond_eq_5, x_ifCond_eq_6, x_ifCond_eq_7, x_ireturn, x_jsr, klp_0, klp_1, klp_2, klp_3, klp_9, KC_0, KC_1, KC_2, KC_3, KC_4, ne_eq, not_false_eq_true, not_true_eq_false, true_and, and_true, and_self, implies_true, eq_self, true_imp_iff, false_implies, Int.reduceEq, Int.reduceNe, Int.reduceMod, Int.reduceMul, Int.reduceAdd, Int.reduceSub, Int.reduceLT, Int.reduceLE, Nat.reduceAdd, Nat.reduceLeDiff, Nat.reduceLT, Nat.reduceSub, reduceIte, wds_n, wds_0, wds_1, wds_2, wds_3, or_true, true_or, or_false, false_or, or_self, false_and, and_false, d_pos, d_s1, d_s2, d_s3, d_s4, d_s5, d_s6, d_s7, d_s8, Classical.not_not, jdivide, d_s9, d_s10, d_s11, d_s12, d_s13, d_s14, d_s15, d_s16, d_s17, d_s18, d_s19, d_s20, d_s21, d_s22, d_s23, d_s24, d_s25, d_s26, d_s27, d_s28, d_s29, d_s30, hs_ne, hcell, hcel1, le_sub1, le_T, le_F, lt_T, lt_F, eq_F, w32_T, bz0, bz1, lc_le, lc_ge, lc_lt, lc_gt, lc_eq]
    · have := wlen D z0.1 z0.2 (l := [100, 105, 118, 105, 100, 101]) (by decide) (by decide)
      simp (implicitDefEqProofs := false) only [List.length_cons, List.length_nil] at this
      omega
  by_cases z1 : tkK tp t s = 1 ∧ wdT tp t s = 452823639416
  · refine ⟨2, by decide, fun d Q => ?_, fun d Q => ?_, fun _ => ⟨ts_k D (by omega), ?_⟩⟩
    · rw [e, fdW_y z1.1, z1.2]
      rfl
    · have jdivide : ∀ (d : Nat) Q, Sp fz1 (d + 5) 327 [(3, 6603), (3, NV_4019)] hr Q = Q 0 hr := fun d Q => by rw [NV_4019_e, iw_divide D.1.2.2 D.1.1 D.2.2.1.2]; exact congrArg (fun x => Q x hr) (if_neg z0)
      have jindex : ∀ (d : Nat) Q, Sp fz1 (d + 5) 327 [(3, 6603), (3, NV_4147)] hr Q = Q 1 hr := fun d Q => by rw [NV_4147_e, iw_index D.1.2.2 D.1.1 D.2.2.1.2]; exact congrArg (fun x => Q x hr) (if_pos z1)
      rw [if_neg (by decide)]
      simp (implicitDefEqProofs := false) (disch := omega) only [sp363, n363_0, n363_1, n363_2, n363_3, n363_4, n363_5, n363_6, b363_7, b363_8, q363_1, q363_2, q363_3, q363_4, q363_5, q363_6, q363_7, q363_8, x_aload0, y_call327, x_goto_8, x_iconst, x_ifCond_eq_1, x_ifCond_eq_2, x_ifCond_eq_3, x_ifCond_eq_4, x_ifCond_eq_5, x_ifCond_eq_6, x_ifCond_eq_7, x_ireturn, x_jsr, klp_0, klp_1, klp_2, klp_3, klp_9, KC_0, KC_1, KC_2, KC_3, KC_4, ne_eq, not_false_eq_true, not_true_eq_false, true_and, and_true, and_self, implies_true, eq_self, true_imp_iff, false_implies, Int.reduceEq, Int.reduceNe, Int.reduceMod, Int.reduceMul, Int.reduceAdd, Int.reduceSub, Int.reduceLT, Int.reduceLE, Nat.reduceAdd, Nat.reduceLeDiff, Nat.reduceLT, Nat.reduceSub, reduceIte, wds_n, wds_0, wds_1, wds_2, wds_3, or_true, true_or, or_false, false_or, or_self, false_and, and_false, d_pos, d_s1, d_s2, d_s3, d_s4, d_s5, d_s6, d_s7, d_s8, Classical.not_not, jdivide, jindex, d_s9, d_s10, d_s11, d_s12, d_s13, d_s14, d_s15, d_s16, d_s17, d_s18, d_s19, d_s20, d_s21, d_s22, d_s23, d_s24, d_s25, d_s26, d_s27, d_s28, d_s29, d_s30, hs_ne, hcell, hcel1, le_sub1, le_T, le_F, lt_T, lt_F, eq_F, w32_T, bz0, bz1, lc_le, lc_ge, lc_lt, lc_gt, lc_eq]
    · have := wlen D z1.1 z1.2 (l := [105, 110, 100, 101, 120]) (by decide) (by decide)
      simp (implicitDefEqProofs := false) only [List.length_cons, List.length_nil] at this
      omega
  by_cases z2 : tkK tp t s = 1 ∧ wdT tp t s = 1853189228
  · refine ⟨3, by decide, fun d Q => ?_, fun d Q => ?_, fun _ => ⟨ts_k D (by omega), ?_⟩⟩
    · rw [e, fdW_y z2.1, z2.2]
      rfl
    · have jdivide : ∀ (d : Nat) Q, Sp fz1 (d + 5) 327 [(3, 6603), (3, NV_4019)] hr Q = Q 0 hr := fun d Q => by rw [NV_4019_e, iw_divide D.1.2.2 D.1.1 D.2.2.1.2]; exact congrArg (fun x => Q x hr) (if_neg z0)
      have jindex : ∀ (d : Nat) Q, Sp fz1 (d + 5) 327 [(3, 6603), (3, NV_4147)] hr Q = Q 0 hr := fun d Q => by rw [NV_4147_e, iw_index D.1.2.2 D.1.1 D.2.2.1.2]; exact congrArg (fun x => Q x hr) (if_neg z1)
      have jnull : ∀ (d : Nat) Q, Sp fz1 (d + 5) 327 [(3, 6603), (3, NV_4275)] hr Q = Q 1 hr := fun d Q => by rw [NV_4275_e, iw_null D.1.2.2 D.1.1 D.2.2.1.2]; exact congrArg (fun x => Q x hr) (if_pos z2)
      rw [if_neg (by decide)]
      simp (implicitDefEqProofs := false) (disch := omega) only [sp363, n363_0, n363_1, n363_2, n363_3, n363_4, n363_5, n363_6, b363_7, b363_8, q363_1, q363_2, q363_3, q363_4, q363_5, q363_6, q363_7, q363_8, x_aload0, y_call327, x_goto_8, x_iconst, x_ifCond_eq_1, x_ifCond_eq_2, x_ifCond_eq_3, x_ifCond_eq_4, x_ifCond_eq_5, x_ifCond_eq_6, x_ifCond_eq_7, x_ireturn, x_jsr, klp_0, klp_1, klp_2, klp_3, klp_9, KC_0, KC_1, KC_2, KC_3, KC_4, ne_eq, not_false_eq_true, not_true_eq_false, true_and, and_true, and_self, implies_true, eq_self, true_imp_iff, false_implies, Int.reduceEq, Int.reduceNe, Int.reduceMod, Int.reduceMul, Int.reduceAdd, Int.reduceSub, Int.reduceLT, Int.reduceLE, Nat.reduceAdd, Nat.reduceLeDiff, Nat.reduceLT, Nat.reduceSub, reduceIte, wds_n, wds_0, wds_1, wds_2, wds_3, or_true, true_or, or_false, false_or, or_self, false_and, and_false, d_pos, d_s1, d_s2, d_s3, d_s4, d_s5, d_s6, d_s7, d_s8, Classical.not_not, jdivide, jindex, jnull, d_s9, d_s10, d_s11, d_s12, d_s13, d_s14, d_s15, d_s16, d_s17, d_s18, d_s19, d_s20, d_s21, d_s22, d_s23, d_s24, d_s25, d_s26, d_s27, d_s28, d_s29, d_s30, hs_ne, hcell, hcel1, le_sub1, le_T, le_F, lt_T, lt_F, eq_F, w32_T, bz0, bz1, lc_le, lc_ge, lc_lt, lc_gt, lc_eq]
    · have := wlen D z2.1 z2.2 (l := [110, 117, 108, 108]) (by decide) (by decide)
      simp (implicitDefEqProofs := false) only [List.length_cons, List.length_nil] at this
      omega
  by_cases z3 : tkK tp t s = 1 ∧ wdT tp t s = 1667330932
  · refine ⟨4, by decide, fun d Q => ?_, fun d Q => ?_, fun _ => ⟨ts_k D (by omega), ?_⟩⟩
    · rw [e, fdW_y z3.1, z3.2]
      rfl
    · have jdivide : ∀ (d : Nat) Q, Sp fz1 (d + 5) 327 [(3, 6603), (3, NV_4019)] hr Q = Q 0 hr := fun d Q => by rw [NV_4019_e, iw_divide D.1.2.2 D.1.1 D.2.2.1.2]; exact congrArg (fun x => Q x hr) (if_neg z0)
      have jindex : ∀ (d : Nat) Q, Sp fz1 (d + 5) 327 [(3, 6603), (3, NV_4147)] hr Q = Q 0 hr := fun d Q => by rw [NV_4147_e, iw_index D.1.2.2 D.1.1 D.2.2.1.2]; exact congrArg (fun x => Q x hr) (if_neg z1)
      have jnull : ∀ (d : Nat) Q, Sp fz1 (d + 5) 327 [(3, 6603), (3, NV_4275)] hr Q = Q 0 hr := fun d Q => by rw [NV_4275_e, iw_null D.1.2.2 D.1.1 D.2.2.1.2]; exact congrArg (fun x => Q x hr) (if_neg z2)
      have jcast : ∀ (d : Nat) Q, Sp fz1 (d + 5) 327 [(3, 6603), (3, NV_4403)] hr Q = Q 1 hr := fun d Q => by rw [NV_4403_e, iw_cast D.1.2.2 D.1.1 D.2.2.1.2]; exact congrArg (fun x => Q x hr) (if_pos z3)
      rw [if_neg (by decide)]
      simp (implicitDefEqProofs := false) (disch := omega) only [sp363, n363_0, n363_1, n363_2, n363_3, n363_4, n363_5, n363_6, b363_7, b363_8, q363_1, q363_2, q363_3, q363_4, q363_5, q363_6, q363_7, q363_8, x_aload0, y_call327, x_goto_8, x_iconst, x_ifCond_eq_1, x_ifCond_eq_2, x_ifCond_eq_3, x_ifCond_eq_4, x_ifCond_eq_5, x_ifCond_eq_6, x_ifCond_eq_7, x_ireturn, x_jsr, klp_0, klp_1, klp_2, klp_3, klp_9, KC_0, KC_1, KC_2, KC_3, KC_4, ne_eq, not_false_eq_true, not_true_eq_false, true_and, and_true, and_self, implies_true, eq_self, true_imp_iff, false_implies, Int.reduceEq, Int.reduceNe, Int.reduceMod, Int.reduceMul, Int.reduceAdd, Int.reduceSub, Int.reduceLT, Int.reduceLE, Nat.reduceAdd, Nat.reduceLeDiff, Nat.reduceLT, Nat.reduceSub, reduceIte, wds_n, wds_0, wds_1, wds_2, wds_3, or_true, true_or, or_false, false_or, or_self, false_and, and_false, d_pos, d_s1, d_s2, d_s3, d_s4, d_s5, d_s6, d_s7, d_s8, Classical.not_not, jdivide, jindex, jnull, jcast, d_s9, d_s10, d_s11, d_s12, d_s13, d_s14, d_s15, d_s16, d_s17, d_s18, d_s19, d_s20, d_s21, d_s22, d_s23, d_s24, d_s25, d_s26, d_s27, d_s28, d_s29, d_s30, hs_ne, hcell, hcel1, le_sub1, le_T, le_F, lt_T, lt_F, eq_F, w32_T, bz0, bz1, lc_le, lc_ge, lc_lt, lc_gt, lc_eq]
    · have := wlen D z3.1 z3.2 (l := [99, 97, 115, 116]) (by decide) (by decide)
      simp (implicitDefEqProofs := false) only [List.length_cons, List.length_nil] at this
      omega
  by_cases z4 : tkK tp t s = 1 ∧ wdT tp t s = 1936292453
  · refine ⟨5, by decide, fun d Q => ?_, fun d Q => ?_, fun _ => ⟨ts_k D (by omega), ?_⟩⟩
    · rw [e, fdW_y z4.1, z4.2]
      rfl
    · have jdivide : ∀ (d : Nat) Q, Sp fz1 (d + 5) 327 [(3, 6603), (3, NV_4019)] hr Q = Q 0 hr := fun d Q => by rw [NV_4019_e, iw_divide D.1.2.2 D.1.1 D.2.2.1.2]; exact congrArg (fun x => Q x hr) (if_neg z0)
      have jindex : ∀ (d : Nat) Q, Sp fz1 (d + 5) 327 [(3, 6603), (3, NV_4147)] hr Q = Q 0 hr := fun d Q => by rw [NV_4147_e, iw_index D.1.2.2 D.1.1 D.2.2.1.2]; exact congrArg (fun x => Q x hr) (if_neg z1)
      have jnull : ∀ (d : Nat) Q, Sp fz1 (d + 5) 327 [(3, 6603), (3, NV_4275)] hr Q = Q 0 hr := fun d Q => by rw [NV_4275_e, iw_null D.1.2.2 D.1.1 D.2.2.1.2]; exact congrArg (fun x => Q x hr) (if_neg z2)
      have jcast : ∀ (d : Nat) Q, Sp fz1 (d + 5) 327 [(3, 6603), (3, NV_4403)] hr Q = Q 0 hr := fun d Q => by rw [NV_4403_e, iw_cast D.1.2.2 D.1.1 D.2.2.1.2]; exact congrArg (fun x => Q x hr) (if_neg z3)
      have jsize : ∀ (d : Nat) Q, Sp fz1 (d + 5) 327 [(3, 6603), (3, NV_4531)] hr Q = Q 1 hr := fun d Q => by rw [NV_4531_e, iw_size D.1.2.2 D.1.1 D.2.2.1.2]; exact congrArg (fun x => Q x hr) (if_pos z4)
      rw [if_neg (by decide)]
      simp (implicitDefEqProofs := false) (disch := omega) only [sp363, n363_0, n363_1, n363_2, n363_3, n363_4, n363_5, n363_6, b363_7, b363_8, q363_1, q363_2, q363_3, q363_4, q363_5, q363_6, q363_7, q363_8, x_aload0, y_call327, x_goto_8, x_iconst, x_ifCond_eq_1, x_ifCond_eq_2, x_ifCond_eq_3, x_ifCond_eq_4, x_ifCond_eq_5, x_ifCond_eq_6, x_ifCond_eq_7, x_ireturn, x_jsr, klp_0, klp_1, klp_2, klp_3, klp_9, KC_0, KC_1, KC_2, KC_3, KC_4, ne_eq, not_false_eq_true, not_true_eq_false, true_and, and_true, and_self, implies_true, eq_self, true_imp_iff, false_implies, Int.reduceEq, Int.reduceNe, Int.reduceMod, Int.reduceMul, Int.reduceAdd, Int.reduceSub, Int.reduceLT, Int.reduceLE, Nat.reduceAdd, Nat.reduceLeDiff, Nat.reduceLT, Nat.reduceSub, reduceIte, wds_n, wds_0, wds_1, wds_2, wds_3, or_true, true_or, or_false, false_or, or_self, false_and, and_false, d_pos, d_s1, d_s2, d_s3, d_s4, d_s5, d_s6, d_s7, d_s8, Classical.not_not, jdivide, jindex, jnull, jcast, jsize, d_s9, d_s10, d_s11, d_s12, d_s13, d_s14, d_s15, d_s16, d_s17, d_s18, d_s19, d_s20, d_s21, d_s22, d_s23, d_s24, d_s25, d_s26, d_s27, d_s28, d_s29, d_s30, hs_ne, hcell, hcel1, le_sub1, le_T, le_F, lt_T, lt_F, eq_F, w32_T, bz0, bz1, lc_le, lc_ge, lc_lt, lc_gt, lc_eq]
    · have := wlen D z4.1 z4.2 (l := [115, 105, 122, 101]) (by decide) (by decide)
      simp (implicitDefEqProofs := false) only [List.length_cons, List.length_nil] at this
      omega
  by_cases z5 : tkK tp t s = 1 ∧ wdT tp t s = 495874699877
  · refine ⟨6, by decide, fun d Q => ?_, fun d Q => ?_, fun _ => ⟨ts_k D (by omega), ?_⟩⟩
    · rw [e, fdW_y z5.1, z5.2]
      rfl
    · have jdivide : ∀ (d : Nat) Q, Sp fz1 (d + 5) 327 [(3, 6603), (3, NV_4019)] hr Q = Q 0 hr := fun d Q => by rw [NV_4019_e, iw_divide D.1.2.2 D.1.1 D.2.2.1.2]; exact congrArg (fun x => Q x hr) (if_neg z0)
      have jindex : ∀ (d : Nat) Q, Sp fz1 (d + 5) 327 [(3, 6603), (3, NV_4147)] hr Q = Q 0 hr := fun d Q => by rw [NV_4147_e, iw_index D.1.2.2 D.1.1 D.2.2.1.2]; exact congrArg (fun x => Q x hr) (if_neg z1)
      have jnull : ∀ (d : Nat) Q, Sp fz1 (d + 5) 327 [(3, 6603), (3, NV_4275)] hr Q = Q 0 hr := fun d Q => by rw [NV_4275_e, iw_null D.1.2.2 D.1.1 D.2.2.1.2]; exact congrArg (fun x => Q x hr) (if_neg z2)
      have jcast : ∀ (d : Nat) Q, Sp fz1 (d + 5) 327 [(3, 6603), (3, NV_4403)] hr Q = Q 0 hr := fun d Q => by rw [NV_4403_e, iw_cast D.1.2.2 D.1.1 D.2.2.1.2]; exact congrArg (fun x => Q x hr) (if_neg z3)
      have jsize : ∀ (d : Nat) Q, Sp fz1 (d + 5) 327 [(3, 6603), (3, NV_4531)] hr Q = Q 0 hr := fun d Q => by rw [NV_4531_e, iw_size D.1.2.2 D.1.1 D.2.2.1.2]; exact congrArg (fun x => Q x hr) (if_neg z4)
      have jstore : ∀ (d : Nat) Q, Sp fz1 (d + 5) 327 [(3, 6603), (3, NV_4659)] hr Q = Q 1 hr := fun d Q => by rw [NV_4659_e, iw_store D.1.2.2 D.1.1 D.2.2.1.2]; exact congrArg (fun x => Q x hr) (if_pos z5)
      rw [if_neg (by decide)]
      simp (implicitDefEqProofs := false) (disch := omega) only [sp363, n363_0, n363_1, n363_2, n363_3, n363_4, n363_5, n363_6, b363_7, b363_8, q363_1, q363_2, q363_3, q363_4, q363_5, q363_6, q363_7, q363_8, x_aload0, y_call327, x_goto_8, x_iconst, x_ifCond_eq_1, x_ifCond_eq_2, x_ifCond_eq_3, x_ifCond_eq_4, x_ifCond_eq_5, x_ifCond_eq_6, x_ifCond_eq_7, x_ireturn, x_jsr, klp_0, klp_1, klp_2, klp_3, klp_9, KC_0, KC_1, KC_2, KC_3, KC_4, ne_eq, not_false_eq_true, not_true_eq_false, true_and, and_true, and_self, implies_true, eq_self, true_imp_iff, false_implies, Int.reduceEq, Int.reduceNe, Int.reduceMod, Int.reduceMul, Int.reduceAdd, Int.reduceSub, Int.reduceLT, Int.reduceLE, Nat.reduceAdd, Nat.reduceLeDiff, Nat.reduceLT, Nat.reduceSub, reduceIte, wds_n, wds_0, wds_1, wds_2, wds_3, or_true, true_or, or_false, false_or, or_self, false_and, and_false, d_pos, d_s1, d_s2, d_s3, d_s4, d_s5, d_s6, d_s7, d_s8, Classical.not_not, jdivide, jindex, jnull, jcast, jsize, jstore, d_s9, d_s10, d_s11, d_s12, d_s13, d_s14, d_s15, d_s16, d_s17, d_s18, d_s19, d_s20, d_s21, d_s22, d_s23, d_s24, d_s25, d_s26, d_s27, d_s28, d_s29, d_s30, hs_ne, hcell, hcel1, le_sub1, le_T, le_F, lt_T, lt_F, eq_F, w32_T, bz0, bz1, lc_le, lc_ge, lc_lt, lc_gt, lc_eq]
    · have := wlen D z5.1 z5.2 (l := [115, 116, 111, 114, 101]) (by decide) (by decide)
      simp (implicitDefEqProofs := false) only [List.length_cons, List.length_nil] at this
      omega
  by_cases z6 : tkK tp t s = 1 ∧ wdT tp t s = 435811345268
  · refine ⟨7, by decide, fun d Q => ?_, fun d Q => ?_, fun _ => ⟨ts_k D (by omega), ?_⟩⟩
    · rw [e, fdW_y z6.1, z6.2]
      rfl
    · have jdivide : ∀ (d : Nat) Q, Sp fz1 (d + 5) 327 [(3, 6603), (3, NV_4019)] hr Q = Q 0 hr := fun d Q => by rw [NV_4019_e, iw_divide D.1.2.2 D.1.1 D.2.2.1.2]; exact congrArg (fun x => Q x hr) (if_neg z0)
      have jindex : ∀ (d : Nat) Q, Sp fz1 (d + 5) 327 [(3, 6603), (3, NV_4147)] hr Q = Q 0 hr := fun d Q => by rw [NV_4147_e, iw_index D.1.2.2 D.1.1 D.2.2.1.2]; exact congrArg (fun x => Q x hr) (if_neg z1)
      have jnull : ∀ (d : Nat) Q, Sp fz1 (d + 5) 327 [(3, 6603), (3, NV_4275)] hr Q = Q 0 hr := fun d Q => by rw [NV_4275_e, iw_null D.1.2.2 D.1.1 D.2.2.1.2]; exact congrArg (fun x => Q x hr) (if_neg z2)
      have jcast : ∀ (d : Nat) Q, Sp fz1 (d + 5) 327 [(3, 6603), (3, NV_4403)] hr Q = Q 0 hr := fun d Q => by rw [NV_4403_e, iw_cast D.1.2.2 D.1.1 D.2.2.1.2]; exact congrArg (fun x => Q x hr) (if_neg z3)
      have jsize : ∀ (d : Nat) Q, Sp fz1 (d + 5) 327 [(3, 6603), (3, NV_4531)] hr Q = Q 0 hr := fun d Q => by rw [NV_4531_e, iw_size D.1.2.2 D.1.1 D.2.2.1.2]; exact congrArg (fun x => Q x hr) (if_neg z4)
      have jstore : ∀ (d : Nat) Q, Sp fz1 (d + 5) 327 [(3, 6603), (3, NV_4659)] hr Q = Q 0 hr := fun d Q => by rw [NV_4659_e, iw_store D.1.2.2 D.1.1 D.2.2.1.2]; exact congrArg (fun x => Q x hr) (if_neg z5)
      have jexact : ∀ (d : Nat) Q, Sp fz1 (d + 5) 327 [(3, 6603), (3, NV_4787)] hr Q = Q 1 hr := fun d Q => by rw [NV_4787_e, iw_exact D.1.2.2 D.1.1 D.2.2.1.2]; exact congrArg (fun x => Q x hr) (if_pos z6)
      rw [if_neg (by decide)]
      simp (implicitDefEqProofs := false) (disch := omega) only [sp363, n363_0, n363_1, n363_2, n363_3, n363_4, n363_5, n363_6, b363_7, b363_8, q363_1, q363_2, q363_3, q363_4, q363_5, q363_6, q363_7, q363_8, x_aload0, y_call327, x_goto_8, x_iconst, x_ifCond_eq_1, x_ifCond_eq_2, x_ifCond_eq_3, x_ifCond_eq_4, x_ifCond_eq_5, x_ifCond_eq_6, x_ifCond_eq_7, x_ireturn, x_jsr, klp_0, klp_1, klp_2, klp_3, klp_9, KC_0, KC_1, KC_2, KC_3, KC_4, ne_eq, not_false_eq_true, not_true_eq_false, true_and, and_true, and_self, implies_true, eq_self, true_imp_iff, false_implies, Int.reduceEq, Int.reduceNe, Int.reduceMod, Int.reduceMul, Int.reduceAdd, Int.reduceSub, Int.reduceLT, Int.reduceLE, Nat.reduceAdd, Nat.reduceLeDiff, Nat.reduceLT, Nat.reduceSub, reduceIte, wds_n, wds_0, wds_1, wds_2, wds_3, or_true, true_or, or_false, false_or, or_self, false_and, and_false, d_pos, d_s1, d_s2, d_s3, d_s4, d_s5, d_s6, d_s7, d_s8, Classical.not_not, jdivide, jindex, jnull, jcast, jsize, jstore, jexact, d_s9, d_s10, d_s11, d_s12, d_s13, d_s14, d_s15, d_s16, d_s17, d_s18, d_s19, d_s20, d_s21, d_s22, d_s23, d_s24, d_s25, d_s26, d_s27, d_s28, d_s29, d_s30, hs_ne, hcell, hcel1, le_sub1, le_T, le_F, lt_T, lt_F, eq_F, w32_T, bz0, bz1, lc_le, lc_ge, lc_lt, lc_gt, lc_eq]
    · have := wlen D z6.1 z6.2 (l := [101, 120, 97, 99, 116]) (by decide) (by decide)
      simp (implicitDefEqProofs := false) only [List.length_cons, List.length_nil] at this
      omega
  refine ⟨0, by decide, fun d Q => ?_, fun d Q => ?_, fun w => absurd w (by decide)⟩
  · rw [e]
    unfold fdW
    by_cases hk : tkK tp t s = 1
    · rw [if_pos hk, ix_no _ _ (fun m => ?_)]
      · rfl
      · simp (implicitDefEqProofs := false) only [wFAILS, List.mem_cons, List.not_mem_nil, or_false] at m
        rcases m with m | m | m | m | m | m | m
        · exact z0 ⟨hk, m⟩
        · exact z1 ⟨hk, m⟩
        · exact z2 ⟨hk, m⟩
        · exact z3 ⟨hk, m⟩
        · exact z4 ⟨hk, m⟩
        · exact z5 ⟨hk, m⟩
        · exact z6 ⟨hk, m⟩
    · rw [if_neg hk]
      rfl
  · have jdivide : ∀ (d : Nat) Q, Sp fz1 (d + 5) 327 [(3, 6603), (3, NV_4019)] hr Q = Q 0 hr := fun d Q => by rw [NV_4019_e, iw_divide D.1.2.2 D.1.1 D.2.2.1.2]; exact congrArg (fun x => Q x hr) (if_neg z0)
    have jindex : ∀ (d : Nat) Q, Sp fz1 (d + 5) 327 [(3, 6603), (3, NV_4147)] hr Q = Q 0 hr := fun d Q => by rw [NV_4147_e, iw_index D.1.2.2 D.1.1 D.2.2.1.2]; exact congrArg (fun x => Q x hr) (if_neg z1)
    have jnull : ∀ (d : Nat) Q, Sp fz1 (d + 5) 327 [(3, 6603), (3, NV_4275)] hr Q = Q 0 hr := fun d Q => by rw [NV_4275_e, iw_null D.1.2.2 D.1.1 D.2.2.1.2]; exact congrArg (fun x => Q x hr) (if_neg z2)
    have jcast : ∀ (d : Nat) Q, Sp fz1 (d + 5) 327 [(3, 6603), (3, NV_4403)] hr Q = Q 0 hr := fun d Q => by rw [NV_4403_e, iw_cast D.1.2.2 D.1.1 D.2.2.1.2]; exact congrArg (fun x => Q x hr) (if_neg z3)
    have jsize : ∀ (d : Nat) Q, Sp fz1 (d + 5) 327 [(3, 6603), (3, NV_4531)] hr Q = Q 0 hr := fun d Q => by rw [NV_4531_e, iw_size D.1.2.2 D.1.1 D.2.2.1.2]; exact congrArg (fun x => Q x hr) (if_neg z4)
    have jstore : ∀ (d : Nat) Q, Sp fz1 (d + 5) 327 [(3, 6603), (3, NV_4659)] hr Q = Q 0 hr := fun d Q => by rw [NV_4659_e, iw_store D.1.2.2 D.1.1 D.2.2.1.2]; exact congrArg (fun x => Q x hr) (if_neg z5)
    have jexact : ∀ (d : Nat) Q, Sp fz1 (d + 5) 327 [(3, 6603), (3, NV_4787)] hr Q = Q 0 hr := fun d Q => by rw [NV_4787_e, iw_exact D.1.2.2 D.1.1 D.2.2.1.2]; exact congrArg (fun x => Q x hr) (if_neg z6)
    rw [if_pos rfl]
    simp (implicitDefEqProofs := false) (disch := omega) only [sp363, n363_0, n363_1, n363_2, n363_3, n363_4, n363_5, n363_6, b363_7, b363_8, q363_1, q363_2, q363_3, q363_4, q363_5, q363_6, q363_7, q363_8, x_aload0, y_call327, x_goto_8, x_iconst, x_ifCond_eq_1, x_ifCond_eq_2, x_ifCond_eq_3, x_ifCond_eq_4, x_ifCond_eq_5, x_ifCond_eq_6, x_ifCond_eq_7, x_ireturn, x_jsr, klp_0, klp_1, klp_2, klp_3, klp_9, KC_0, KC_1, KC_2, KC_3, KC_4, ne_eq, not_false_eq_true, not_true_eq_false, true_and, and_true, and_self, implies_true, eq_self, true_imp_iff, false_implies, Int.reduceEq, Int.reduceNe, Int.reduceMod, Int.reduceMul, Int.reduceAdd, Int.reduceSub, Int.reduceLT, Int.reduceLE, Nat.reduceAdd, Nat.reduceLeDiff, Nat.reduceLT, Nat.reduceSub, reduceIte, wds_n, wds_0, wds_1, wds_2, wds_3, or_true, true_or, or_false, false_or, or_self, false_and, and_false, d_pos, d_s1, d_s2, d_s3, d_s4, d_s5, d_s6, d_s7, d_s8, Classical.not_not, jdivide, jindex, jnull, jcast, jsize, jstore, jexact, d_s9, d_s10, d_s11, d_s12, d_s13, d_s14, d_s15, d_s16, d_s17, d_s18, d_s19, d_s20, d_s21, d_s22, d_s23, d_s24, d_s25, d_s26, d_s27, d_s28, d_s29, d_s30, hs_ne, hcell, hcel1, le_sub1, le_T, le_F, lt_T, lt_F, eq_F, w32_T, bz0, bz1, lc_le, lc_ge, lc_lt, lc_gt, lc_eq]
/-- give -/
theorem give_pair {dep : Int} {B e e2 : Nat} (hB : 110 ≤ B) (he : B ≤ e + 13) (he2 : B ≤ e2 + 13) (hdp : 1 ≤ dep ∧ dep ≤ 12) (OB : BLKP bX tp t T S dep B) (D : GD bX tp t T S s h hr) (PR : PRA T S s h hr) (hd : hr 6603 12 = dep ∧ h 258 11 = 0) (w : tkK tp t s = 1 ∧ wdT tp t s = 1734964837) : ∃ h1 g gr, (∀ Q, Sp fz1 (e + 14) 28 [(3, 129), (0, 1)] h Q = Q 0 h1) ∧ (∀ Q, Sp fz1 (e + 14) 121 [(3, 258), (0, dep)] h1 Q = Q 0 g) ∧ (∀ Q, G fz1 (e2 + 15) 345 8 [(3, 6603), (9, 0)] [] hr Q = Q 0 gr) ∧ OUTA bX tp t T S s h hr g gr (dep - 1) := by
  have F := D.f
  have N := D.nb
  have S0 := D.sb
  have hT := D.2.1.1.1
  have hS := D.2.1.2.1
  have kT := kTC D.2.1.1.1
  have kS := kTR D.2.1.2.1
  unfold NBR at N
  unfold PRA at PR
  have jgive : ∀ (d : Nat) Q, Sp fz1 (d + 5) 327 [(3, 6603), (3, NV_3763)] hr Q = Q 1 hr := fun d Q => by rw [NV_3763_e, iw_give D.1.2.2 D.1.1 D.2.2.1.2]; exact congrArg (fun x => Q x hr) (if_pos w)
  obtain ⟨g1, r1, X1, X1a, X1b, X1c, N1, M1, -, -, ec1, er1⟩ := D.nx (e + 6) (e2 + 12)
  obtain ⟨p1, hp1p⟩ : ∃ p, p = nxS tp t s := ⟨_, rfl⟩
  rw [← hp1p] at X1 X1a X1c
  have N1' := N1
  have M1' := M1
  unfold NC at N1'
  unfold NR at M1'
  have D1 := X1.2.1
  have Z1 := (GOM.rfl' D).trans X1
  have pq1 := X1.1
  have hp1 : g1 258 1 = T := D1.2.1.1.2
  have h91 : r1 6603 9 = S := D1.2.1.2.2
  have sb1 := D1.sb
  have lm1 := D1.lim
  obtain ⟨g2, r2, ec2, er2, W2⟩ := whole_any (dep := dep) (by omega) (e + 13) (e2 + 14) (by omega) (by omega) D1 (by omega)
  rcases W2 with W2 | W2
  rotate_left
  · obtain ⟨⟨f0, B0, E00⟩, F0, H0, b14, b15, b16⟩ := W2
    have z19 := E00.2.1
    have E0 := E00.q
    have hp_0 := B0.1.2
    have h9_0 := E0.1.2
    have y0 := E0.2.2.2
    obtain ⟨k1, ⟨B1, F1⟩, x1⟩ := B0.e1 (x := 14)
    have hp_1 := B1.1.2
    have x2 : ∀ Q, Sp fz1 (e + 13) 58 [(3, 258), (0, 59)] k1 Q = Q 0 k1 := fun Q => b58 B1
    have x3 : ∀ Q, Sp fz1 (e2 + 14) 333 [(3, 6603), (0, 59)] r2 Q = Q 0 r2 := fun Q => E0.sg
    obtain ⟨m4, ⟨E4, H4, y4a, y4b, y4c⟩, x4⟩ := E0.cx (p := 27) (a := 0) (b := 0) (by omega)
    have h9_4 := E4.1.2
    have y4 := E4.2.2.2
    refine ⟨g1, k1, m4, ec1, fun Q => ?_, fun Q => ?_, .inr ⟨⟨_, B1, E4⟩, (Z1.2.2.1.2.trans (F0.trans F1)), (Z1.2.2.2.2.trans (H0.trans H4)), by omega, by omega, by omega⟩⟩
    · simp (implicitDefEqProofs := false) (disch := omega) only [sp121, b121_0, x_aload0, y_call58, y_call82, y_call86, x_gf_2059, x_iconst, x_iload1, x_return, klp_0, klp_1, klp_2, klp_3, klp_9, KC_0, KC_1, KC_2, KC_3, KC_4, ne_eq, not_false_eq_true, not_true_eq_false, true_and, and_true, and_self, implies_true, eq_self, true_imp_iff, false_implies, Int.reduceEq, Int.reduceNe, Int.reduceMod, Int.reduceMul, Int.reduceAdd, Int.reduceSub, Int.reduceLT, Int.reduceLE, Nat.reduceAdd, Nat.reduceLeDiff, Nat.reduceLT, Nat.reduceSub, reduceIte, wds_n, wds_0, wds_1, wds_2, wds_3, or_true, true_or, or_false, false_or, or_self, false_and, and_false, d_pos, d_s1, d_s2, d_s3, d_s4, d_s5, d_s6, d_s7, d_s8, Classical.not_not, TC_0 hT, TC_k hT, hp1, ec2, hp_0, x1, hp_1, x2, d_s9, d_s10, d_s11, d_s12, d_s13, d_s14, d_s15, d_s16, d_s17, d_s18, d_s19, d_s20, d_s21, d_s22, d_s23, d_s24, d_s25, d_s26, d_s27, d_s28, d_s29, d_s30, hs_ne, hcell, hcel1, le_sub1, le_T, le_F, lt_T, lt_F, eq_F, w32_T, bz0, bz1, lc_le, lc_ge, lc_lt, lc_gt, lc_eq]
    · rw [q345_8]
      simp (implicitDefEqProofs := false) (disch := omega) only [n345_8, b345_13, q345_13, x_aload0, y_call321, y_call327, y_call333, y_call347, y_call349, x_goto_13, x_iconst, x_ifCond_eq_9, x_jsr, x_pop0, x_pop3, x_return, klp_0, klp_1, klp_2, klp_3, klp_9, KC_0, KC_1, KC_2, KC_3, KC_4, ne_eq, not_false_eq_true, not_true_eq_false, true_and, and_true, and_self, implies_true, eq_self, true_imp_iff, false_implies, Int.reduceEq, Int.reduceNe, Int.reduceMod, Int.reduceMul, Int.reduceAdd, Int.reduceSub, Int.reduceLT, Int.reduceLE, Nat.reduceAdd, Nat.reduceLeDiff, Nat.reduceLT, Nat.reduceSub, reduceIte, wds_n, wds_0, wds_1, wds_2, wds_3, or_true, true_or, or_false, false_or, or_self, false_and, and_false, d_pos, d_s1, d_s2, d_s3, d_s4, d_s5, d_s6, d_s7, d_s8, Classical.not_not, TR_0 hS, TR_k hS, jgive, er1, h91, er2, h9_0, x3, x4, h9_4, d_s9, d_s10, d_s11, d_s12, d_s13, d_s14, d_s15, d_s16, d_s17, d_s18, d_s19, d_s20, d_s21, d_s22, d_s23, d_s24, d_s25, d_s26, d_s27, d_s28, d_s29, d_s30, hs_ne, hcell, hcel1, le_sub1, le_T, le_F, lt_T, lt_F, eq_F, w32_T, bz0, bz1, lc_le, lc_ge, lc_lt, lc_gt, lc_eq]
  obtain ⟨p2, X2, V2, DX2, PX2⟩ := W2
  have DX2' := DX2
  unfold DXW at DX2'
  have mc2 := X2.2.2.1.1.2.1.1
  have md2 := X2.2.2.2.1.2.1.1
  have me2 := X2.2.2.2.1.2.2.2.1.1
  have D2 := X2.2.1
  have Z2 := Z1.trans X2
  have pq2 := X2.1
  have hp2 : g2 258 1 = T := D2.2.1.1.2
  have h92 : r2 6603 9 = S := D2.2.1.2.2
  have sb2 := D2.sb
  have lm2 := D2.lim
  obtain ⟨X3, N3, C3⟩ := D2.em (x := 14) (by omega)
  have ec3 : ∀ Q, Sp fz1 (e + 13) 82 [(3, T), (0, 14)] g2 Q = Q 0 (emH T g2 14) := fun Q => q82 hT (by omega)
  have HO3 := D2.hol (x := 14) (by omega)
  generalize emH T g2 14 = g3 at X3 N3 C3 ec3 HO3
  have N3' := N3
  unfold NC at N3'
  have D3 := X3.2.1
  have Z3 := Z2.trans X3
  have pq3 := X3.1
  have hp3 : g3 258 1 = T := D3.2.1.1.2
  have h93 : r2 6603 9 = S := D3.2.1.2.2
  have sb3 := D3.sb
  have lm3 := D3.lim
  obtain ⟨g4, r4, ec4, er4, W4⟩ := D3.sign (c := 59) (by decide) (e + 4) (e2 + 11)
  rcases W4 with W4 | W4
  rotate_left
  · obtain ⟨-, B0, E00, F0, H0, b14, b15, -⟩ := W4
    have z19 := E00.2.1
    have E0 := E00.q
    have hp_0 := B0.1.2
    have h9_0 := E0.1.2
    have y0 := E0.2.2.2
    obtain ⟨m1, ⟨E1, H1, y1a, y1b, y1c⟩, x1⟩ := E0.cx (p := 27) (a := 0) (b := 0) (by omega)
    have h9_1 := E1.1.2
    have y1 := E1.2.2.2
    refine ⟨g1, g4, m1, ec1, fun Q => ?_, fun Q => ?_, .inr ⟨⟨_, B0, E1⟩, (Z3.2.2.1.2.trans F0), (Z3.2.2.2.2.trans (H0.trans H1)), by omega, by omega, by omega⟩⟩
    · simp (implicitDefEqProofs := false) (disch := omega) only [sp121, b121_0, x_aload0, y_call58, y_call82, y_call86, x_gf_2059, x_iconst, x_iload1, x_return, klp_0, klp_1, klp_2, klp_3, klp_9, KC_0, KC_1, KC_2, KC_3, KC_4, ne_eq, not_false_eq_true, not_true_eq_false, true_and, and_true, and_self, implies_true, eq_self, true_imp_iff, false_implies, Int.reduceEq, Int.reduceNe, Int.reduceMod, Int.reduceMul, Int.reduceAdd, Int.reduceSub, Int.reduceLT, Int.reduceLE, Nat.reduceAdd, Nat.reduceLeDiff, Nat.reduceLT, Nat.reduceSub, reduceIte, wds_n, wds_0, wds_1, wds_2, wds_3, or_true, true_or, or_false, false_or, or_self, false_and, and_false, d_pos, d_s1, d_s2, d_s3, d_s4, d_s5, d_s6, d_s7, d_s8, Classical.not_not, TC_0 hT, TC_k hT, hp1, ec2, hp2, ec3, hp3, ec4, hp_0, d_s9, d_s10, d_s11, d_s12, d_s13, d_s14, d_s15, d_s16, d_s17, d_s18, d_s19, d_s20, d_s21, d_s22, d_s23, d_s24, d_s25, d_s26, d_s27, d_s28, d_s29, d_s30, hs_ne, hcell, hcel1, le_sub1, le_T, le_F, lt_T, lt_F, eq_F, w32_T, bz0, bz1, lc_le, lc_ge, lc_lt, lc_gt, lc_eq]
    · rw [q345_8]
      simp (implicitDefEqProofs := false) (disch := omega) only [n345_8, b345_13, q345_13, x_aload0, y_call321, y_call327, y_call333, y_call347, y_call349, x_goto_13, x_iconst, x_ifCond_eq_9, x_jsr, x_pop0, x_pop3, x_return, klp_0, klp_1, klp_2, klp_3, klp_9, KC_0, KC_1, KC_2, KC_3, KC_4, ne_eq, not_false_eq_true, not_true_eq_false, true_and, and_true, and_self, implies_true, eq_self, true_imp_iff, false_implies, Int.reduceEq, Int.reduceNe, Int.reduceMod, Int.reduceMul, Int.reduceAdd, Int.reduceSub, Int.reduceLT, Int.reduceLE, Nat.reduceAdd, Nat.reduceLeDiff, Nat.reduceLT, Nat.reduceSub, reduceIte, wds_n, wds_0, wds_1, wds_2, wds_3, or_true, true_or, or_false, false_or, or_self, false_and, and_false, d_pos, d_s1, d_s2, d_s3, d_s4, d_s5, d_s6, d_s7, d_s8, Classical.not_not, TR_0 hS, TR_k hS, jgive, er1, h91, er2, h92, h93, er4, h9_0, x1, h9_1, d_s9, d_s10, d_s11, d_s12, d_s13, d_s14, d_s15, d_s16, d_s17, d_s18, d_s19, d_s20, d_s21, d_s22, d_s23, d_s24, d_s25, d_s26, d_s27, d_s28, d_s29, d_s30, hs_ne, hcell, hcel1, le_sub1, le_T, le_F, lt_T, lt_F, eq_F, w32_T, bz0, bz1, lc_le, lc_ge, lc_lt, lc_gt, lc_eq]
  obtain ⟨-, p4, q4, X4, N4, M4⟩ := W4
  have N4' := N4
  have M4' := M4
  unfold NC at N4'
  unfold NR at M4'
  have D4 := X4.2.1
  have Z4 := Z3.trans X4
  have pq4 := X4.1
  have hp4 : g4 258 1 = T := D4.2.1.1.2
  have h94 : r4 6603 9 = S := D4.2.1.2.2
  have sb4 := D4.sb
  have lm4 := D4.lim
  obtain ⟨X5, M5, R5⟩ := D4.cd (p := 27) (a := 0) (b := 0) (by omega) (fun w => absurd w (by decide))
  have er5 : ∀ Q, Sp fz1 (e2 + 14) 347 [(3, 6603), (0, 27), (0, 0), (0, 0)] r4 Q = Q (r4 S 15) (cdR S r4 27 0 0) := fun Q => v347 D4.2.1.2.1 D4.2.1.2.2 (by omega)
  generalize cdR S r4 27 0 0 = r5 at X5 M5 R5 er5
  have M5' := M5
  unfold NR at M5'
  have D5 := X5.2.1
  have Z5 := Z4.trans X5
  have pq5 := X5.1
  have hp5 : g4 258 1 = T := D5.2.1.1.2
  have h95 : r5 6603 9 = S := D5.2.1.2.2
  have sb5 := D5.sb
  have lm5 := D5.lim
  refine ⟨g1, g4, r5, ec1, fun Q => ?_, fun Q => ?_, .inl ⟨p4, Z5, (((NVR.same (h := h) (g := g1) (gr := r1) (by omega)).trans ((ECP.rfl' (T := T) (c := 2400) (h := g1)).trans (X2.2.2.1.1.lo (by omega))) ((ERP.rfl' (S := S) (r := 6000) (t := 500) (h := r1)).trans (X2.2.2.2.1.lo (by omega) (by omega))) V2).trans (((ECP.rfl' (T := T) (c := 2400) (h := g2)).trans (X3.2.2.1.1.lo (by omega))).trans (X4.2.2.1.1.lo (by omega))) (((ERP.rfl' (S := S) (r := 6000) (t := 500) (h := r2)).trans (X4.2.2.2.1.lo (by omega) (by omega))).trans (X5.2.2.2.1.lo (by omega) (by omega))) (NVR.same (by omega))), by unfold DXB; omega, fun K V CL A s1 s2 => ?_⟩⟩
  · simp (implicitDefEqProofs := false) (disch := omega) only [sp121, b121_0, x_aload0, y_call58, y_call82, y_call86, x_gf_2059, x_iconst, x_iload1, x_return, klp_0, klp_1, klp_2, klp_3, klp_9, KC_0, KC_1, KC_2, KC_3, KC_4, ne_eq, not_false_eq_true, not_true_eq_false, true_and, and_true, and_self, implies_true, eq_self, true_imp_iff, false_implies, Int.reduceEq, Int.reduceNe, Int.reduceMod, Int.reduceMul, Int.reduceAdd, Int.reduceSub, Int.reduceLT, Int.reduceLE, Nat.reduceAdd, Nat.reduceLeDiff, Nat.reduceLT, Nat.reduceSub, reduceIte, wds_n, wds_0, wds_1, wds_2, wds_3, or_true, true_or, or_false, false_or, or_self, false_and, and_false, d_pos, d_s1, d_s2, d_s3, d_s4, d_s5, d_s6, d_s7, d_s8, Classical.not_not, TC_0 hT, TC_k hT, hp1, ec2, hp2, ec3, hp3, ec4, hp4, hp5, d_s9, d_s10, d_s11, d_s12, d_s13, d_s14, d_s15, d_s16, d_s17, d_s18, d_s19, d_s20, d_s21, d_s22, d_s23, d_s24, d_s25, d_s26, d_s27, d_s28, d_s29, d_s30, hs_ne, hcell, hcel1, le_sub1, le_T, le_F, lt_T, lt_F, eq_F, w32_T, bz0, bz1, lc_le, lc_ge, lc_lt, lc_gt, lc_eq]
  · rw [q345_8]
    simp (implicitDefEqProofs := false) (disch := omega) only [n345_8, b345_13, q345_13, x_aload0, y_call321, y_call327, y_call333, y_call347, y_call349, x_goto_13, x_iconst, x_ifCond_eq_9, x_jsr, x_pop0, x_pop3, x_return, klp_0, klp_1, klp_2, klp_3, klp_9, KC_0, KC_1, KC_2, KC_3, KC_4, ne_eq, not_false_eq_true, not_true_eq_false, true_and, and_true, and_self, implies_true, eq_self, true_imp_iff, false_implies, Int.reduceEq, Int.reduceNe, Int.reduceMod, Int.reduceMul, Int.reduceAdd, Int.reduceSub, Int.reduceLT, Int.reduceLE, Nat.reduceAdd, Nat.reduceLeDiff, Nat.reduceLT, Nat.reduceSub, reduceIte, wds_n, wds_0, wds_1, wds_2, wds_3, or_true, true_or, or_false, false_or, or_self, false_and, and_false, d_pos, d_s1, d_s2, d_s3, d_s4, d_s5, d_s6, d_s7, d_s8, Classical.not_not, TR_0 hS, TR_k hS, jgive, er1, h91, er2, h92, h93, er4, h94, er5, h95, d_s9, d_s10, d_s11, d_s12, d_s13, d_s14, d_s15, d_s16, d_s17, d_s18, d_s19, d_s20, d_s21, d_s22, d_s23, d_s24, d_s25, d_s26, d_s27, d_s28, d_s29, d_s30, hs_ne, hcell, hcel1, le_sub1, le_T, le_F, lt_T, lt_F, eq_F, w32_T, bz0, bz1, lc_le, lc_ge, lc_lt, lc_gt, lc_eq]
  · have EP1j : ECP T (g1 T 17) g2 g4 := (((ECP.rfl' (T := T) (c := g1 T 17) (h := g2)).trans (X3.2.2.1.1.lo (by omega))).trans (X4.2.2.1.1.lo (by omega)))
    have FP1j : ERP S (r1 S 15) (r1 S 22) r2 r5 := (((ERP.rfl' (S := S) (r := r1 S 15) (t := r1 S 22) (h := r2)).trans (X4.2.2.2.1.lo (by omega) (by omega))).trans (X5.2.2.2.1.lo (by omega) (by omega)))
    have AP1j := A.sub (h := g2) (hr := r2) (c2 := g1 T 17) (r2 := r1 S 15) (t2 := r1 S 22) (by have := D2.nb; unfold NBR at this; omega) EP1j FP1j (by omega) (by omega) (by omega)
    have P1 := PX2 K V CL AP1j
    have u1 := A.cel (by omega) (CEL.ec (c := 0) C3 X4.2.2.1.1 (by omega))
    have u2 := A.rco (by omega) R5
    have R := a_GIVE (K := K) (V := V) (CL := CL) (c0 := h T 17 - 1) (r0 := hr S 15 - 1) (c1 := g2 T 17) (r1 := r4 S 15) (c2 := g4 T 17) (r2 := r5 S 15) (f := hr S 21) (t := hr S 22) (dp := dep - 1) (m := r2 S 15 - r1 S 15) (w := r2 S 15 - r1 S 15) (by omega) (by omega) (by omega) s1 s2 (by rw [show h T 17 - 1 + 1 = g1 T 17 by omega, show hr S 15 - 1 + 1 = r1 S 15 by omega, show r4 S 15 = r2 S 15 by omega]; exact P1) (by omega) (by omega) u1 u2.1
    exact R
/-- if -/
theorem if_pair {dep : Int} {B e e2 : Nat} (hB : 110 ≤ B) (he : B ≤ e + 13) (he2 : B ≤ e2 + 13) (hdp : 1 ≤ dep ∧ dep ≤ 12) (OB : BLKP bX tp t T S dep B) (D : GD bX tp t T S s h hr) (PR : PRA T S s h hr) (hd : hr 6603 12 = dep ∧ h 258 11 = 0) : ∃ h1 g gr, (∀ Q, Sp fz1 (e + 14) 28 [(3, 129), (0, 1)] h Q = Q 0 h1) ∧ (∀ Q, Sp fz1 (e + 14) 112 [(3, 258), (0, dep)] h1 Q = Q 0 g) ∧ (∀ Q, Sp fz1 (e2 + 14) 348 [(3, 6603)] hr Q = Q 0 gr) ∧ OUTA bX tp t T S s h hr g gr (dep - 1) := by
  have F := D.f
  have N := D.nb
  have S0 := D.sb
  have hT := D.2.1.1.1
  have hS := D.2.1.2.1
  have kT := kTC D.2.1.1.1
  have kS := kTR D.2.1.2.1
  unfold NBR at N
  unfold PRA at PR
  obtain ⟨g1, r1, X1, X1a, X1b, X1c, N1, M1, -, -, ec1, er1⟩ := D.nx (e + 6) (e2 + 11)
  obtain ⟨p1, hp1p⟩ : ∃ p, p = nxS tp t s := ⟨_, rfl⟩
  rw [← hp1p] at X1 X1a X1c
  have N1' := N1
  have M1' := M1
  unfold NC at N1'
  unfold NR at M1'
  have D1 := X1.2.1
  have Z1 := (GOM.rfl' D).trans X1
  have pq1 := X1.1
  have hp1 : g1 258 1 = T := D1.2.1.1.2
  have h91 : r1 6603 9 = S := D1.2.1.2.2
  have sb1 := D1.sb
  have lm1 := D1.lim
  obtain ⟨g2, r2, ec2, er2, W2⟩ := whole_any (dep := dep) (by omega) (e + 13) (e2 + 13) (by omega) (by omega) D1 (by omega)
  rcases W2 with W2 | W2
  rotate_left
  · obtain ⟨⟨f0, B0, E00⟩, F0, H0, b14, b15, b16⟩ := W2
    have z19 := E00.2.1
    have E0 := E00.q
    have hp_0 := B0.1.2
    have h9_0 := E0.1.2
    have y0 := E0.2.2.2
    obtain ⟨w1, k1, ⟨B1, F1⟩, x1⟩ := B0.ho (p := 16)
    have hp_1 := B1.1.2
    have x2 : ∀ Q, Sp fz1 (e + 13) 78 [(3, 258), (0, dep)] k1 Q = Q 0 k1 := fun Q => b78 B1
    have x3 : ∀ Q, Sp fz1 (e + 13) 45 [(3, 129), (3, NV_1459)] k1 Q = Q (-1) k1 := fun Q => by rw [NV_1459_e]; exact B1.fd (str_11 B1.2.2.1) (by decide)
    obtain ⟨k4, ⟨B4, F4⟩, x4⟩ := B1.fi (i := w1)
    have hp_4 := B4.1.2
    obtain ⟨m5, ⟨E5, H5, y5a, y5b, y5c⟩, x5⟩ := E0.cx (p := 19) (a := 0) (b := 0) (by omega)
    have h9_5 := E5.1.2
    have y5 := E5.2.2.2
    obtain ⟨m6, ⟨E6, H6, y6a, y6b, y6c⟩, x6⟩ := E5.bl
    have h9_6 := E6.1.2
    have y6 := E6.2.2.2
    have x7 : ∀ Q, Sp fz1 (e2 + 13) 325 [(3, 6603)] m6 Q = Q 0 m6 := fun Q => E6.g325
    have U8 := E6.pr (j := r2 S 15) (x := m6 S 15)
    obtain ⟨m8, hm8⟩ : ∃ a, a = hset m6 (S + 1044) (r2 S 15) (m6 S 15) := ⟨_, rfl⟩
    rw [← hm8] at U8
    obtain ⟨E8, H8, y8a, y8b, y8c⟩ := U8
    have h9_8 := E8.1.2
    have y8 := E8.2.2.2
    refine ⟨g1, k4, m8, ec1, fun Q => ?_, fun Q => ?_, .inr ⟨⟨_, B4, E8⟩, (Z1.2.2.1.2.trans (F0.trans (F1.trans F4))), (Z1.2.2.2.2.trans (H0.trans (H5.trans (H6.trans H8)))), by omega, by omega, by omega⟩⟩
    · simp (implicitDefEqProofs := false) (disch := omega) only [sp112, n112_0, b112_1, b112_2, q112_1, q112_2, x_aload0, y_call113, y_call115, y_call28, y_call45, y_call78, y_call86, x_gc_2051, x_goto_2, x_iconst, x_ifCond_ne_1, x_iload1, x_iload2, x_iload3, x_istore2, x_istore3, x_jsr, x_return, klp_0, klp_1, klp_2, klp_3, klp_9, KC_0, KC_1, KC_2, KC_3, KC_4, ne_eq, not_false_eq_true, not_true_eq_false, true_and, and_true, and_self, implies_true, eq_self, true_imp_iff, false_implies, Int.reduceEq, Int.reduceNe, Int.reduceMod, Int.reduceMul, Int.reduceAdd, Int.reduceSub, Int.reduceLT, Int.reduceLE, Nat.reduceAdd, Nat.reduceLeDiff, Nat.reduceLT, Nat.reduceSub, reduceIte, wds_n, wds_0, wds_1, wds_2, wds_3, or_true, true_or, or_false, false_or, or_self, false_and, and_false, d_pos, d_s1, d_s2, d_s3, d_s4, d_s5, d_s6, d_s7, d_s8, Classical.not_not, z258_0, TC_0 hT, TC_k hT, hp1, ec2, hp_0, x1, hp_1, x2, x3, x4, hp_4, d_s9, d_s10, d_s11, d_s12, d_s13, d_s14, d_s15, d_s16, d_s17, d_s18, d_s19, d_s20, d_s21, d_s22, d_s23, d_s24, d_s25, d_s26, d_s27, d_s28, d_s29, d_s30, hs_ne, hcell, hcel1, le_sub1, le_T, le_F, lt_T, lt_F, eq_F, w32_T, bz0, bz1, lc_le, lc_ge, lc_lt, lc_gt, lc_eq]
    · simp (implicitDefEqProofs := false) (disch := omega) only [sp348, n348_0, b348_1, b348_2, q348_1, q348_2, x_aload0, y_call321, y_call325, y_call327, y_call343, y_call347, y_call349, x_gc_12427, x_gf_11339, x_gf_12408, x_goto_2, x_iastore, x_iconst, x_ifCond_eq_1, x_iload1, x_iload2, x_istore1, x_istore2, x_jsr, x_return, klp_0, klp_1, klp_2, klp_3, klp_9, KC_0, KC_1, KC_2, KC_3, KC_4, ne_eq, not_false_eq_true, not_true_eq_false, true_and, and_true, and_self, implies_true, eq_self, true_imp_iff, false_implies, Int.reduceEq, Int.reduceNe, Int.reduceMod, Int.reduceMul, Int.reduceAdd, Int.reduceSub, Int.reduceLT, Int.reduceLE, Nat.reduceAdd, Nat.reduceLeDiff, Nat.reduceLT, Nat.reduceSub, reduceIte, wds_n, wds_0, wds_1, wds_2, wds_3, or_true, true_or, or_false, false_or, or_self, false_and, and_false, d_pos, d_s1, d_s2, d_s3, d_s4, d_s5, d_s6, d_s7, d_s8, Classical.not_not, r17 hS, r17l hS, r17k hS, TR_0 hS, TR_k hS, er1, h91, er2, h9_0, x5, h9_5, x6, h9_6, x7, h9_8, ← hm8, d_s9, d_s10, d_s11, d_s12, d_s13, d_s14, d_s15, d_s16, d_s17, d_s18, d_s19, d_s20, d_s21, d_s22, d_s23, d_s24, d_s25, d_s26, d_s27, d_s28, d_s29, d_s30, hs_ne, hcell, hcel1, le_sub1, le_T, le_F, lt_T, lt_F, eq_F, w32_T, bz0, bz1, lc_le, lc_ge, lc_lt, lc_gt, lc_eq]
  obtain ⟨p2, X2, V2, DX2, PX2⟩ := W2
  have DX2' := DX2
  unfold DXW at DX2'
  have mc2 := X2.2.2.1.1.2.1.1
  have md2 := X2.2.2.2.1.2.1.1
  have me2 := X2.2.2.2.1.2.2.2.1.1
  have D2 := X2.2.1
  have Z2 := Z1.trans X2
  have pq2 := X2.1
  have hp2 : g2 258 1 = T := D2.2.1.1.2
  have h92 : r2 6603 9 = S := D2.2.1.2.2
  have sb2 := D2.sb
  have lm2 := D2.lim
  obtain ⟨X3, N3, C3⟩ := D2.em (x := 16) (by omega)
  have N3' := N3
  unfold NC at N3'
  obtain ⟨X4, N4, C4⟩ := X3.2.1.em (x := 0) (by omega)
  have N4' := N4
  unfold NC at N4'
  have sb3 := X3.2.1.sb
  have ec4 : ∀ Q, Sp fz1 (e + 13) 113 [(3, 258), (0, 16)] g2 Q = Q (emH T g2 16 T 17) (emH T (emH T g2 16) 0) := fun Q => by rw [q113 hT D2.2.1.1.2 (by omega), show emH T (emH T g2 16) 0 T 17 - 1 = emH T g2 16 T 17 by omega]
  have HO4 := X3.2.1.hol (x := 0) (by omega)
  have XC4 := X3.trans X4
  generalize emH T (emH T g2 16) 0 = g4 at *
  generalize emH T g2 16 = g3 at *
  have D4 := XC4.2.1
  have Z4 := Z2.trans XC4
  have pq4 := XC4.1
  have hp4 : g4 258 1 = T := D4.2.1.1.2
  have h94 : r2 6603 9 = S := D4.2.1.2.2
  have sb4 := D4.sb
  have lm4 := D4.lim
  obtain ⟨X5, M5, R5⟩ := D4.cd (p := 19) (a := 0) (b := 0) (by omega) (fun w => absurd w (by decide))
  have er5 : ∀ Q, Sp fz1 (e2 + 13) 347 [(3, 6603), (0, 19), (0, 0), (0, 0)] r2 Q = Q (r2 S 15) (cdR S r2 19 0 0) := fun Q => v347 D4.2.1.2.1 D4.2.1.2.2 (by omega)
  generalize cdR S r2 19 0 0 = r5 at X5 M5 R5 er5
  have M5' := M5
  unfold NR at M5'
  have D5 := X5.2.1
  have Z5 := Z4.trans X5
  have pq5 := X5.1
  have hp5 : g4 258 1 = T := D5.2.1.1.2
  have h95 : r5 6603 9 = S := D5.2.1.2.2
  have sb5 := D5.sb
  have lm5 := D5.lim
  obtain ⟨g6, r6, ec6, er6, W6⟩ := OB (e + 13) (e2 + 13) _ _ _ (by omega) (by omega) D5 (by omega)
  rcases W6 with W6 | W6
  rotate_left
  · obtain ⟨⟨f0, B0, E0⟩, F0, H0, b14, b15, b16⟩ := W6
    have hp_0 := B0.1.2
    have h9_0 := E0.1.2
    have y0 := E0.2.2.2
    have x1 : ∀ Q, Sp fz1 (e + 13) 45 [(3, 129), (3, NV_1459)] g6 Q = Q (-1) g6 := fun Q => by rw [NV_1459_e]; exact B0.fd (str_11 B0.2.2.1) (by decide)
    obtain ⟨k2, ⟨B2, F2⟩, x2⟩ := B0.fi (i := g3 T 17)
    have hp_2 := B2.1.2
    have x3 : ∀ Q, Sp fz1 (e2 + 13) 325 [(3, 6603)] r6 Q = Q 0 r6 := fun Q => E0.g325
    have U4 := E0.pr (j := r2 S 15) (x := r6 S 15)
    obtain ⟨m4, hm4⟩ : ∃ a, a = hset r6 (S + 1044) (r2 S 15) (r6 S 15) := ⟨_, rfl⟩
    rw [← hm4] at U4
    obtain ⟨E4, H4, y4a, y4b, y4c⟩ := U4
    have h9_4 := E4.1.2
    have y4 := E4.2.2.2
    refine ⟨g1, k2, m4, ec1, fun Q => ?_, fun Q => ?_, .inr ⟨⟨_, B2, E4⟩, (Z5.2.2.1.2.trans (F0.trans F2)), (Z5.2.2.2.2.trans (H0.trans H4)), by omega, by omega, by omega⟩⟩
    · simp (implicitDefEqProofs := false) (disch := omega) only [sp112, n112_0, b112_1, b112_2, q112_1, q112_2, x_aload0, y_call113, y_call115, y_call28, y_call45, y_call78, y_call86, x_gc_2051, x_goto_2, x_iconst, x_ifCond_ne_1, x_iload1, x_iload2, x_iload3, x_istore2, x_istore3, x_jsr, x_return, klp_0, klp_1, klp_2, klp_3, klp_9, KC_0, KC_1, KC_2, KC_3, KC_4, ne_eq, not_false_eq_true, not_true_eq_false, true_and, and_true, and_self, implies_true, eq_self, true_imp_iff, false_implies, Int.reduceEq, Int.reduceNe, Int.reduceMod, Int.reduceMul, Int.reduceAdd, Int.reduceSub, Int.reduceLT, Int.reduceLE, Nat.reduceAdd, Nat.reduceLeDiff, Nat.reduceLT, Nat.reduceSub, reduceIte, wds_n, wds_0, wds_1, wds_2, wds_3, or_true, true_or, or_false, false_or, or_self, false_and, and_false, d_pos, d_s1, d_s2, d_s3, d_s4, d_s5, d_s6, d_s7, d_s8, Classical.not_not, z258_0, TC_0 hT, TC_k hT, hp1, ec2, hp2, ec4, hp4, hp5, ec6, hp_0, x1, x2, hp_2, d_s9, d_s10, d_s11, d_s12, d_s13, d_s14, d_s15, d_s16, d_s17, d_s18, d_s19, d_s20, d_s21, d_s22, d_s23, d_s24, d_s25, d_s26, d_s27, d_s28, d_s29, d_s30, hs_ne, hcell, hcel1, le_sub1, le_T, le_F, lt_T, lt_F, eq_F, w32_T, bz0, bz1, lc_le, lc_ge, lc_lt, lc_gt, lc_eq]
    · simp (implicitDefEqProofs := false) (disch := omega) only [sp348, n348_0, b348_1, b348_2, q348_1, q348_2, x_aload0, y_call321, y_call325, y_call327, y_call343, y_call347, y_call349, x_gc_12427, x_gf_11339, x_gf_12408, x_goto_2, x_iastore, x_iconst, x_ifCond_eq_1, x_iload1, x_iload2, x_istore1, x_istore2, x_jsr, x_return, klp_0, klp_1, klp_2, klp_3, klp_9, KC_0, KC_1, KC_2, KC_3, KC_4, ne_eq, not_false_eq_true, not_true_eq_false, true_and, and_true, and_self, implies_true, eq_self, true_imp_iff, false_implies, Int.reduceEq, Int.reduceNe, Int.reduceMod, Int.reduceMul, Int.reduceAdd, Int.reduceSub, Int.reduceLT, Int.reduceLE, Nat.reduceAdd, Nat.reduceLeDiff, Nat.reduceLT, Nat.reduceSub, reduceIte, wds_n, wds_0, wds_1, wds_2, wds_3, or_true, true_or, or_false, false_or, or_self, false_and, and_false, d_pos, d_s1, d_s2, d_s3, d_s4, d_s5, d_s6, d_s7, d_s8, Classical.not_not, r17 hS, r17l hS, r17k hS, TR_0 hS, TR_k hS, er1, h91, er2, h92, h94, er5, h95, er6, h9_0, x3, h9_4, ← hm4, d_s9, d_s10, d_s11, d_s12, d_s13, d_s14, d_s15, d_s16, d_s17, d_s18, d_s19, d_s20, d_s21, d_s22, d_s23, d_s24, d_s25, d_s26, d_s27, d_s28, d_s29, d_s30, hs_ne, hcell, hcel1, le_sub1, le_T, le_F, lt_T, lt_F, eq_F, w32_T, bz0, bz1, lc_le, lc_ge, lc_lt, lc_gt, lc_eq]
  obtain ⟨p6, q6, fst6, X6, V6, DX6, PX6⟩ := W6
  have DX6' := DX6
  unfold DXB at DX6'
  have D6 := X6.2.1
  have Z6 := Z5.trans X6
  have pq6 := X6.1
  have hp6 : g6 258 1 = T := D6.2.1.1.2
  have h96 : r6 6603 9 = S := D6.2.1.2.2
  have sb6 := D6.sb
  have lm6 := D6.lim
  have gd6 : ∀ (d : Nat) Q, Sp fz1 d 325 [(3, 6603)] r6 Q = Q 1 r6 := fun d Q => v325g D6
  by_cases we : tkK tp t p6 = 1 ∧ wdT tp t p6 = 1701606245
  · have jc : ∀ Q, Sp fz1 (e + 13) 45 [(3, 129), (3, NV_1459)] g6 Q = Q (0) g6 := fun Q => by rw [NV_1459_e, D6.fw (d := e + 8) (str_11 D6.2.2.1.1) (by decide) w1_11, if_pos we]
    have jelse : ∀ (d : Nat) Q, Sp fz1 (d + 5) 327 [(3, 6603), (3, NV_1459)] r6 Q = Q 1 r6 := fun d Q => by rw [NV_1459_e, iw_else D6.1.2.2 D6.1.1 D6.2.2.1.2]; exact congrArg (fun x => Q x r6) (if_pos we)
    have wl6 := wlen D6 we.1 we.2 (l := [101, 108, 115, 101]) (by decide) (by decide)
    simp (implicitDefEqProofs := false) only [List.length_cons, List.length_nil] at wl6
    obtain ⟨g7, r7, X7, X7a, X7b, X7c, N7, M7, -, -, ec7, er7⟩ := D6.nx (e + 5) (e2 + 11)
    obtain ⟨p7, hp7p⟩ : ∃ p, p = nxS tp t p6 := ⟨_, rfl⟩
    rw [← hp7p] at X7 X7a X7c
    have N7' := N7
    have M7' := M7
    unfold NC at N7'
    unfold NR at M7'
    have D7 := X7.2.1
    have Z7 := Z6.trans X7
    have pq7 := X7.1
    have hp7 : g7 258 1 = T := D7.2.1.1.2
    have h97 : r7 6603 9 = S := D7.2.1.2.2
    have sb7 := D7.sb
    have lm7 := D7.lim
    obtain ⟨X8, N8, C8⟩ := D7.em (x := 15) (by omega)
    have N8' := N8
    unfold NC at N8'
    obtain ⟨X9, N9, C9⟩ := X8.2.1.em (x := 0) (by omega)
    have N9' := N9
    unfold NC at N9'
    have sb8 := X8.2.1.sb
    have ec9 : ∀ Q, Sp fz1 (e + 13) 113 [(3, 258), (0, 15)] g7 Q = Q (emH T g7 15 T 17) (emH T (emH T g7 15) 0) := fun Q => by rw [q113 hT D7.2.1.1.2 (by omega), show emH T (emH T g7 15) 0 T 17 - 1 = emH T g7 15 T 17 by omega]
    have HO9 := X8.2.1.hol (x := 0) (by omega)
    have XC9 := X8.trans X9
    generalize emH T (emH T g7 15) 0 = g9 at *
    generalize emH T g7 15 = g8 at *
    have D9 := XC9.2.1
    have Z9 := Z7.trans XC9
    have pq9 := XC9.1
    have hp9 : g9 258 1 = T := D9.2.1.1.2
    have h99 : r7 6603 9 = S := D9.2.1.2.2
    have sb9 := D9.sb
    have lm9 := D9.lim
    obtain ⟨X10, M10, R10⟩ := D9.cd (p := 20) (a := 0) (b := 0) (by omega) (fun w => absurd w (by decide))
    have er10 : ∀ Q, Sp fz1 (e2 + 13) 347 [(3, 6603), (0, 20), (0, 0), (0, 0)] r7 Q = Q (r7 S 15) (cdR S r7 20 0 0) := fun Q => v347 D9.2.1.2.1 D9.2.1.2.2 (by omega)
    generalize cdR S r7 20 0 0 = r10 at X10 M10 R10 er10
    have M10' := M10
    unfold NR at M10'
    have D10 := X10.2.1
    have Z10 := Z9.trans X10
    have pq10 := X10.1
    have hp10 : g9 258 1 = T := D10.2.1.1.2
    have h910 : r10 6603 9 = S := D10.2.1.2.2
    have sb10 := D10.sb
    have lm10 := D10.lim
    obtain ⟨Z11, N11, EP11, C11⟩ := Z10.pa (i := g3 T 17) (x := g9 T 17) (HO4.ec (((((ECP.rfl' (T := T) (c := 2400) (h := g4)).trans (X6.2.2.1.1.lo (by omega))).trans (X7.2.2.1.1.lo (by omega))).trans (X8.2.2.1.1.lo (by omega))).trans (X9.2.2.1.1.lo (by omega)))) (by omega)
    have ec11 : ∀ Q, Sp fz1 (e + 13) 115 [(3, 258), (0, g3 T 17)] g9 Q = Q 0 (hset g9 (T + 1430) (g3 T 17) (g9 T 17)) := fun Q => by rw [q115 hT D10.2.1.1.2 (by omega)]; unfold paH; rw [if_pos (by omega)]
    obtain ⟨g11, hg11⟩ : ∃ a, a = hset g9 (T + 1430) (g3 T 17) (g9 T 17) := ⟨_, rfl⟩
    rw [← hg11] at Z11 N11 EP11 C11 ec11
    have N11' := N11
    unfold NC at N11'
    have D11 := Z11.2.1
    have hp11 : g11 258 1 = T := D11.2.1.1.2
    have h911 : r10 6603 9 = S := D11.2.1.2.2
    have sb11 := D11.sb
    have lm11 := D11.lim
    obtain ⟨Z12, M12, EQ12, R12⟩ := Z11.pr (x := r10 S 15) (RCO.er (r := 0) (t := 0) (RCO.er (r := 0) (t := 0) (RCO.er (r := 0) (t := 0) R5 X6.2.2.2.1 (by omega)) X7.2.2.2.1 (by omega)) X10.2.2.2.1 (by omega)) (by decide) (by omega)
    obtain ⟨r12, hr12⟩ : ∃ a, a = hset r10 (S + 1044) (r2 S 15) (r10 S 15) := ⟨_, rfl⟩
    rw [← hr12] at Z12 M12 EQ12 R12
    have M12' := M12
    unfold NR at M12'
    have D12 := Z12.2.1
    have hp12 : g11 258 1 = T := D12.2.1.1.2
    have h912 : r12 6603 9 = S := D12.2.1.2.2
    have sb12 := D12.sb
    have lm12 := D12.lim
    obtain ⟨g13, r13, ec13, er13, W13⟩ := OB (e + 13) (e2 + 13) _ _ _ (by omega) (by omega) D12 (by omega)
    rcases W13 with W13 | W13
    rotate_left
    · obtain ⟨⟨f0, B0, E0⟩, F0, H0, b14, b15, b16⟩ := W13
      have hp_0 := B0.1.2
      have h9_0 := E0.1.2
      have y0 := E0.2.2.2
      obtain ⟨k1, ⟨B1, F1⟩, x1⟩ := B0.fi (i := g8 T 17)
      have hp_1 := B1.1.2
      have U2 := E0.pr (j := r7 S 15) (x := r13 S 15)
      obtain ⟨m2, hm2⟩ : ∃ a, a = hset r13 (S + 1044) (r7 S 15) (r13 S 15) := ⟨_, rfl⟩
      rw [← hm2] at U2
      obtain ⟨E2, H2, y2a, y2b, y2c⟩ := U2
      have h9_2 := E2.1.2
      have y2 := E2.2.2.2
      refine ⟨g1, k1, m2, ec1, fun Q => ?_, fun Q => ?_, .inr ⟨⟨_, B1, E2⟩, (Z12.2.2.1.2.trans (F0.trans F1)), (Z12.2.2.2.2.trans (H0.trans H2)), by omega, by omega, by omega⟩⟩
      · simp (implicitDefEqProofs := false) (disch := omega) only [sp112, n112_0, b112_1, b112_2, q112_1, q112_2, x_aload0, y_call113, y_call115, y_call28, y_call45, y_call78, y_call86, x_gc_2051, x_goto_2, x_iconst, x_ifCond_ne_1, x_iload1, x_iload2, x_iload3, x_istore2, x_istore3, x_jsr, x_return, klp_0, klp_1, klp_2, klp_3, klp_9, KC_0, KC_1, KC_2, KC_3, KC_4, ne_eq, not_false_eq_true, not_true_eq_false, true_and, and_true, and_self, implies_true, eq_self, true_imp_iff, false_implies, Int.reduceEq, Int.reduceNe, Int.reduceMod, Int.reduceMul, Int.reduceAdd, Int.reduceSub, Int.reduceLT, Int.reduceLE, Nat.reduceAdd, Nat.reduceLeDiff, Nat.reduceLT, Nat.reduceSub, reduceIte, wds_n, wds_0, wds_1, wds_2, wds_3, or_true, true_or, or_false, false_or, or_self, false_and, and_false, d_pos, d_s1, d_s2, d_s3, d_s4, d_s5, d_s6, d_s7, d_s8, Classical.not_not, z258_0, TC_0 hT, TC_k hT, hp1, ec2, hp2, ec4, hp4, hp5, ec6, hp6, jc, ec7, hp7, ec9, hp9, hp10, ec11, hp11, hp12, ec13, hp_0, x1, hp_1, d_s9, d_s10, d_s11, d_s12, d_s13, d_s14, d_s15, d_s16, d_s17, d_s18, d_s19, d_s20, d_s21, d_s22, d_s23, d_s24, d_s25, d_s26, d_s27, d_s28, d_s29, d_s30, hs_ne, hcell, hcel1, le_sub1, le_T, le_F, lt_T, lt_F, eq_F, w32_T, bz0, bz1, lc_le, lc_ge, lc_lt, lc_gt, lc_eq]
      · simp (implicitDefEqProofs := false) (disch := omega) only [sp348, n348_0, b348_1, b348_2, q348_1, q348_2, x_aload0, y_call321, y_call325, y_call327, y_call343, y_call347, y_call349, x_gc_12427, x_gf_11339, x_gf_12408, x_goto_2, x_iastore, x_iconst, x_ifCond_eq_1, x_iload1, x_iload2, x_istore1, x_istore2, x_jsr, x_return, klp_0, klp_1, klp_2, klp_3, klp_9, KC_0, KC_1, KC_2, KC_3, KC_4, ne_eq, not_false_eq_true, not_true_eq_false, true_and, and_true, and_self, implies_true, eq_self, true_imp_iff, false_implies, Int.reduceEq, Int.reduceNe, Int.reduceMod, Int.reduceMul, Int.reduceAdd, Int.reduceSub, Int.reduceLT, Int.reduceLE, Nat.reduceAdd, Nat.reduceLeDiff, Nat.reduceLT, Nat.reduceSub, reduceIte, wds_n, wds_0, wds_1, wds_2, wds_3, or_true, true_or, or_false, false_or, or_self, false_and, and_false, d_pos, d_s1, d_s2, d_s3, d_s4, d_s5, d_s6, d_s7, d_s8, Classical.not_not, r17 hS, r17l hS, r17k hS, TR_0 hS, TR_k hS, er1, h91, er2, h92, h94, er5, h95, er6, h96, gd6, jelse, er7, h97, h99, er10, h910, h911, ← hr12, h912, er13, h9_0, h9_2, ← hm2, d_s9, d_s10, d_s11, d_s12, d_s13, d_s14, d_s15, d_s16, d_s17, d_s18, d_s19, d_s20, d_s21, d_s22, d_s23, d_s24, d_s25, d_s26, d_s27, d_s28, d_s29, d_s30, hs_ne, hcell, hcel1, le_sub1, le_T, le_F, lt_T, lt_F, eq_F, w32_T, bz0, bz1, lc_le, lc_ge, lc_lt, lc_gt, lc_eq]
    obtain ⟨p13, q13, fst13, X13, V13, DX13, PX13⟩ := W13
    have DX13' := DX13
    unfold DXB at DX13'
    have D13 := X13.2.1
    have Z13 := Z12.trans X13
    have pq13 := X13.1
    have hp13 : g13 258 1 = T := D13.2.1.1.2
    have h913 : r13 6603 9 = S := D13.2.1.2.2
    have sb13 := D13.sb
    have lm13 := D13.lim
    obtain ⟨Z14, N14, EP14, C14⟩ := Z13.pa (i := g8 T 17) (x := g13 T 17) (HO9.ec (((ECP.rfl' (T := T) (c := 2400) (h := g9)).trans (EP11.lo (by omega))).trans (X13.2.2.1.1.lo (by omega)))) (by omega)
    have ec14 : ∀ Q, Sp fz1 (e + 13) 115 [(3, 258), (0, g8 T 17)] g13 Q = Q 0 (hset g13 (T + 1430) (g8 T 17) (g13 T 17)) := fun Q => by rw [q115 hT D13.2.1.1.2 (by omega)]; unfold paH; rw [if_pos (by omega)]
    obtain ⟨g14, hg14⟩ : ∃ a, a = hset g13 (T + 1430) (g8 T 17) (g13 T 17) := ⟨_, rfl⟩
    rw [← hg14] at Z14 N14 EP14 C14 ec14
    have N14' := N14
    unfold NC at N14'
    have D14 := Z14.2.1
    have hp14 : g14 258 1 = T := D14.2.1.1.2
    have h914 : r13 6603 9 = S := D14.2.1.2.2
    have sb14 := D14.sb
    have lm14 := D14.lim
    obtain ⟨Z15, M15, EQ15, R15⟩ := Z14.pr (x := r13 S 15) (RCO.er (r := 0) (t := 0) (RCO.prE R10 hr12 (by omega) hS) X13.2.2.2.1 (by omega)) (by decide) (by omega)
    obtain ⟨r15, hr15⟩ : ∃ a, a = hset r13 (S + 1044) (r7 S 15) (r13 S 15) := ⟨_, rfl⟩
    rw [← hr15] at Z15 M15 EQ15 R15
    have M15' := M15
    unfold NR at M15'
    have D15 := Z15.2.1
    have hp15 : g14 258 1 = T := D15.2.1.1.2
    have h915 : r15 6603 9 = S := D15.2.1.2.2
    have sb15 := D15.sb
    have lm15 := D15.lim
    refine ⟨g1, g14, r15, ec1, fun Q => ?_, fun Q => ?_, .inl ⟨p13, Z15, (((((((NVR.same (h := h) (g := g1) (gr := r1) (by omega)).trans ((ECP.rfl' (T := T) (c := 2400) (h := g1)).trans (X2.2.2.1.1.lo (by omega))) ((ERP.rfl' (S := S) (r := 6000) (t := 500) (h := r1)).trans (X2.2.2.2.1.lo (by omega) (by omega))) V2).trans (((ECP.rfl' (T := T) (c := 2400) (h := g2)).trans (X3.2.2.1.1.lo (by omega))).trans (X4.2.2.1.1.lo (by omega))) ((ERP.rfl' (S := S) (r := 6000) (t := 500) (h := r2)).trans (X5.2.2.2.1.lo (by omega) (by omega))) (NVR.same (h := g2) (g := g4) (gr := r5) (by omega))).trans ((ECP.rfl' (T := T) (c := 2400) (h := g4)).trans (X6.2.2.1.1.lo (by omega))) ((ERP.rfl' (S := S) (r := 6000) (t := 500) (h := r5)).trans (X6.2.2.2.1.lo (by omega) (by omega))) V6).trans (((((ECP.rfl' (T := T) (c := 2400) (h := g6)).trans (X7.2.2.1.1.lo (by omega))).trans (X8.2.2.1.1.lo (by omega))).trans (X9.2.2.1.1.lo (by omega))).trans (EP11.lo (by omega))) ((((ERP.rfl' (S := S) (r := 6000) (t := 500) (h := r6)).trans (X7.2.2.2.1.lo (by omega) (by omega))).trans (X10.2.2.2.1.lo (by omega) (by omega))).trans (EQ12.lo (by omega) (by omega))) (NVR.same (h := g6) (g := g11) (gr := r12) (by omega))).trans ((ECP.rfl' (T := T) (c := 2400) (h := g11)).trans (X13.2.2.1.1.lo (by omega))) ((ERP.rfl' (S := S) (r := 6000) (t := 500) (h := r12)).trans (X13.2.2.2.1.lo (by omega) (by omega))) V13).trans ((ECP.rfl' (T := T) (c := 2400) (h := g13)).trans (EP14.lo (by omega))) ((ERP.rfl' (S := S) (r := 6000) (t := 500) (h := r13)).trans (EQ15.lo (by omega) (by omega))) (NVR.same (by omega))), by unfold DXB; omega, fun K V CL A s1 s2 => ?_⟩⟩
    · simp (implicitDefEqProofs := false) (disch := omega) only [sp112, n112_0, b112_1, b112_2, q112_1, q112_2, x_aload0, y_call113, y_call115, y_call28, y_call45, y_call78, y_call86, x_gc_2051, x_goto_2, x_iconst, x_ifCond_ne_1, x_iload1, x_iload2, x_iload3, x_istore2, x_istore3, x_jsr, x_return, klp_0, klp_1, klp_2, klp_3, klp_9, KC_0, KC_1, KC_2, KC_3, KC_4, ne_eq, not_false_eq_true, not_true_eq_false, true_and, and_true, and_self, implies_true, eq_self, true_imp_iff, false_implies, Int.reduceEq, Int.reduceNe, Int.reduceMod, Int.reduceMul, Int.reduceAdd, Int.reduceSub, Int.reduceLT, Int.reduceLE, Nat.reduceAdd, Nat.reduceLeDiff, Nat.reduceLT, Nat.reduceSub, reduceIte, wds_n, wds_0, wds_1, wds_2, wds_3, or_true, true_or, or_false, false_or, or_self, false_and, and_false, d_pos, d_s1, d_s2, d_s3, d_s4, d_s5, d_s6, d_s7, d_s8, Classical.not_not, z258_0, TC_0 hT, TC_k hT, hp1, ec2, hp2, ec4, hp4, hp5, ec6, hp6, jc, ec7, hp7, ec9, hp9, hp10, ec11, hp11, hp12, ec13, hp13, ec14, hp14, hp15, d_s9, d_s10, d_s11, d_s12, d_s13, d_s14, d_s15, d_s16, d_s17, d_s18, d_s19, d_s20, d_s21, d_s22, d_s23, d_s24, d_s25, d_s26, d_s27, d_s28, d_s29, d_s30, hs_ne, hcell, hcel1, le_sub1, le_T, le_F, lt_T, lt_F, eq_F, w32_T, bz0, bz1, lc_le, lc_ge, lc_lt, lc_gt, lc_eq]
    · simp (implicitDefEqProofs := false) (disch := omega) only [sp348, n348_0, b348_1, b348_2, q348_1, q348_2, x_aload0, y_call321, y_call325, y_call327, y_call343, y_call347, y_call349, x_gc_12427, x_gf_11339, x_gf_12408, x_goto_2, x_iastore, x_iconst, x_ifCond_eq_1, x_iload1, x_iload2, x_istore1, x_istore2, x_jsr, x_return, klp_0, klp_1, klp_2, klp_3, klp_9, KC_0, KC_1, KC_2, KC_3, KC_4, ne_eq, not_false_eq_true, not_true_eq_false, true_and, and_true, and_self, implies_true, eq_self, true_imp_iff, false_implies, Int.reduceEq, Int.reduceNe, Int.reduceMod, Int.reduceMul, Int.reduceAdd, Int.reduceSub, Int.reduceLT, Int.reduceLE, Nat.reduceAdd, Nat.reduceLeDiff, Nat.reduceLT, Nat.reduceSub, reduceIte, wds_n, wds_0, wds_1, wds_2, wds_3, or_true, true_or, or_false, false_or, or_self, false_and, and_false, d_pos, d_s1, d_s2, d_s3, d_s4, d_s5, d_s6, d_s7, d_s8, Classical.not_not, r17 hS, r17l hS, r17k hS, TR_0 hS, TR_k hS, er1, h91, er2, h92, h94, er5, h95, er6, h96, gd6, jelse, er7, h97, h99, er10, h910, h911, ← hr12, h912, er13, h913, h914, ← hr15, h915, d_s9, d_s10, d_s11, d_s12, d_s13, d_s14, d_s15, d_s16, d_s17, d_s18, d_s19, d_s20, d_s21, d_s22, d_s23, d_s24, d_s25, d_s26, d_s27, d_s28, d_s29, d_s30, hs_ne, hcell, hcel1, le_sub1, le_T, le_F, lt_T, lt_F, eq_F, w32_T, bz0, bz1, lc_le, lc_ge, lc_lt, lc_gt, lc_eq]
    · have EP1j : ECP T (g1 T 17) g2 g14 := (ECP.paE ((ECP.paE (((((((ECP.rfl' (T := T) (c := g1 T 17) (h := g2)).trans (X3.2.2.1.1.lo (by omega))).trans (X4.2.2.1.1.lo (by omega))).trans (X6.2.2.1.1.lo (by omega))).trans (X7.2.2.1.1.lo (by omega))).trans (X8.2.2.1.1.lo (by omega))).trans (X9.2.2.1.1.lo (by omega))) hg11 hT (by omega)).trans (X13.2.2.1.1.lo (by omega))) hg14 hT (by omega))
      have FP1j : ERP S (r1 S 15) (r1 S 22) r2 r15 := (ERP.prE ((ERP.prE (((((ERP.rfl' (S := S) (r := r1 S 15) (t := r1 S 22) (h := r2)).trans (X5.2.2.2.1.lo (by omega) (by omega))).trans (X6.2.2.2.1.lo (by omega) (by omega))).trans (X7.2.2.2.1.lo (by omega) (by omega))).trans (X10.2.2.2.1.lo (by omega) (by omega))) hr12 hS (by omega)).trans (X13.2.2.2.1.lo (by omega) (by omega))) hr15 hS (by omega))
      have AP1j := A.sub (h := g2) (hr := r2) (c2 := g1 T 17) (r2 := r1 S 15) (t2 := r1 S 22) (by have := D2.nb; unfold NBR at this; omega) EP1j FP1j (by omega) (by omega) (by omega)
      have P1 := PX2 K V CL AP1j
      have EP2j : ECP T (g4 T 17) g6 g14 := (ECP.paE ((((((ECP.rfl' (T := T) (c := g4 T 17) (h := g6)).trans (X7.2.2.1.1.lo (by omega))).trans (X8.2.2.1.1.lo (by omega))).trans (X9.2.2.1.1.lo (by omega))).trans (EP11.lo (by omega))).trans (X13.2.2.1.1.lo (by omega))) hg14 hT (by omega))
      have FP2j : ERP S (r5 S 15) (r5 S 22) r6 r15 := (ERP.prE (((((ERP.rfl' (S := S) (r := r5 S 15) (t := r5 S 22) (h := r6)).trans (X7.2.2.2.1.lo (by omega) (by omega))).trans (X10.2.2.2.1.lo (by omega) (by omega))).trans (EQ12.lo (by omega) (by omega))).trans (X13.2.2.2.1.lo (by omega) (by omega))) hr15 hS (by omega))
      have AP2j := A.sub (h := g6) (hr := r6) (c2 := g4 T 17) (r2 := r5 S 15) (t2 := r5 S 22) (by have := D6.nb; unfold NBR at this; omega) EP2j FP2j (by omega) (by omega) (by omega)
      have P2 := PX6 K V CL AP2j
      have EP3j : ECP T (g11 T 17) g13 g14 := ((ECP.rfl' (T := T) (c := g11 T 17) (h := g13)).trans (EP14.lo (by omega)))
      have FP3j : ERP S (r12 S 15) (r12 S 22) r13 r15 := ((ERP.rfl' (S := S) (r := r12 S 15) (t := r12 S 22) (h := r13)).trans (EQ15.lo (by omega) (by omega)))
      have AP3j := A.sub (h := g13) (hr := r13) (c2 := g11 T 17) (r2 := r12 S 15) (t2 := r12 S 22) (by have := D13.nb; unfold NBR at this; omega) EP3j FP3j (by omega) (by omega) (by omega)
      have P3 := PX13 K V CL AP3j
      have u1 := A.cel (by omega) (CEL.paE (CEL.ec (c := 0) (CEL.paE (CEL.ec (c := 0) (CEL.ec (c := 0) (CEL.ec (c := 0) (CEL.ec (c := 0) (CEL.ec (c := 0) C3 X4.2.2.1.1 (by omega)) X6.2.2.1.1 (by omega)) X7.2.2.1.1 (by omega)) X8.2.2.1.1 (by omega)) X9.2.2.1.1 (by omega)) hg11 (by omega) hT) X13.2.2.1.1 (by omega)) hg14 (by omega) hT)
      have u2 := A.cel (by omega) (CEL.paE (CEL.ec (c := 0) C11 X13.2.2.1.1 (by omega)) hg14 (by omega) hT)
      have u3 := A.cel (by omega) (CEL.paE (CEL.ec (c := 0) (CEL.paE (CEL.ec (c := 0) C8 X9.2.2.1.1 (by omega)) hg11 (by omega) hT) X13.2.2.1.1 (by omega)) hg14 (by omega) hT)
      have u4 := A.cel (by omega) C14
      have v1 := A.rco (by omega) (RCO.prE (RCO.er (r := 0) (t := 0) R12 X13.2.2.2.1 (by omega)) hr15 (by omega) hS)
      have v2 := A.rco (by omega) R15
      have P1z : EXK K V CL (h T 17 - 1 + 1) (hr S 15 - 1 + 1) (g2 T 17) (r2 S 15) (r2 S 15 - r1 S 15) 1 (r2 S 15 - r1 S 15) 0 := by rw [show h T 17 - 1 + 1 = g1 T 17 by omega, show hr S 15 - 1 + 1 = r1 S 15 by omega]; exact P1
      have R := a_IFELSE (K := K) (V := V) (CL := CL) (c0 := h T 17 - 1) (r0 := hr S 15 - 1) (c1 := g2 T 17) (r1 := r2 S 15) (cL := g6 T 17) (rL := r6 S 15) (c2 := g14 T 17) (r2 := r15 S 15) (f := hr S 21) (t := hr S 22) (f2 := r12 S 21) (t2 := r12 S 22) (dp := dep - 1) (m := r2 S 15 - r1 S 15) (w := r2 S 15 - r1 S 15) (by omega) (by omega) (by omega) s1 s2 P1z (by omega) (by omega) u1 v1.1 (by rw [show g2 T 17 + 1 = g3 T 17 by omega, u2]; omega) (by rw [v1.2.1 (by decide) (by decide) (by decide)]; omega) (by rw [show g2 T 17 + 2 = g4 T 17 by omega, show r2 S 15 + 1 = r5 S 15 by omega, show dep - 1 + 1 = dep by omega, show hr S 21 = r5 S 21 by omega, show hr S 22 = r5 S 22 by omega]; exact P2) (by rw [show g6 T 17 = g7 T 17 by omega]; exact u3) (by rw [show r6 S 15 = r7 S 15 by omega]; exact v2.1) (by rw [show g6 T 17 + 1 = g8 T 17 by omega, u4]; omega) (by rw [show r6 S 15 = r7 S 15 by omega, v2.2.1 (by decide) (by decide) (by decide)]; omega) (by rw [show g6 T 17 + 2 = g11 T 17 by omega, show r6 S 15 + 1 = r12 S 15 by omega, show dep - 1 + 1 = dep by omega, show g14 T 17 = g13 T 17 by omega, show r15 S 15 = r13 S 15 by omega]; exact P3) (by omega) (by omega)
      exact R
  · have jc : ∀ Q, Sp fz1 (e + 13) 45 [(3, 129), (3, NV_1459)] g6 Q = Q (-1) g6 := fun Q => by rw [NV_1459_e, D6.fw (d := e + 8) (str_11 D6.2.2.1.1) (by decide) w1_11, if_neg we]
    have jelse : ∀ (d : Nat) Q, Sp fz1 (d + 5) 327 [(3, 6603), (3, NV_1459)] r6 Q = Q 0 r6 := fun d Q => by rw [NV_1459_e, iw_else D6.1.2.2 D6.1.1 D6.2.2.1.2]; exact congrArg (fun x => Q x r6) (if_neg we)
    obtain ⟨Z7, N7, EP7, C7⟩ := Z6.pa (i := g3 T 17) (x := g6 T 17) (HO4.ec ((ECP.rfl' (T := T) (c := 2400) (h := g4)).trans (X6.2.2.1.1.lo (by omega)))) (by omega)
    have ec7 : ∀ Q, Sp fz1 (e + 13) 115 [(3, 258), (0, g3 T 17)] g6 Q = Q 0 (hset g6 (T + 1430) (g3 T 17) (g6 T 17)) := fun Q => by rw [q115 hT D6.2.1.1.2 (by omega)]; unfold paH; rw [if_pos (by omega)]
    obtain ⟨g7, hg7⟩ : ∃ a, a = hset g6 (T + 1430) (g3 T 17) (g6 T 17) := ⟨_, rfl⟩
    rw [← hg7] at Z7 N7 EP7 C7 ec7
    have N7' := N7
    unfold NC at N7'
    have D7 := Z7.2.1
    have hp7 : g7 258 1 = T := D7.2.1.1.2
    have h97 : r6 6603 9 = S := D7.2.1.2.2
    have sb7 := D7.sb
    have lm7 := D7.lim
    obtain ⟨Z8, M8, EQ8, R8⟩ := Z7.pr (x := r6 S 15) (RCO.er (r := 0) (t := 0) R5 X6.2.2.2.1 (by omega)) (by decide) (by omega)
    obtain ⟨r8, hr8⟩ : ∃ a, a = hset r6 (S + 1044) (r2 S 15) (r6 S 15) := ⟨_, rfl⟩
    rw [← hr8] at Z8 M8 EQ8 R8
    have M8' := M8
    unfold NR at M8'
    have D8 := Z8.2.1
    have hp8 : g7 258 1 = T := D8.2.1.1.2
    have h98 : r8 6603 9 = S := D8.2.1.2.2
    have sb8 := D8.sb
    have lm8 := D8.lim
    refine ⟨g1, g7, r8, ec1, fun Q => ?_, fun Q => ?_, .inl ⟨p6, Z8, (((((NVR.same (h := h) (g := g1) (gr := r1) (by omega)).trans ((ECP.rfl' (T := T) (c := 2400) (h := g1)).trans (X2.2.2.1.1.lo (by omega))) ((ERP.rfl' (S := S) (r := 6000) (t := 500) (h := r1)).trans (X2.2.2.2.1.lo (by omega) (by omega))) V2).trans (((ECP.rfl' (T := T) (c := 2400) (h := g2)).trans (X3.2.2.1.1.lo (by omega))).trans (X4.2.2.1.1.lo (by omega))) ((ERP.rfl' (S := S) (r := 6000) (t := 500) (h := r2)).trans (X5.2.2.2.1.lo (by omega) (by omega))) (NVR.same (h := g2) (g := g4) (gr := r5) (by omega))).trans ((ECP.rfl' (T := T) (c := 2400) (h := g4)).trans (X6.2.2.1.1.lo (by omega))) ((ERP.rfl' (S := S) (r := 6000) (t := 500) (h := r5)).trans (X6.2.2.2.1.lo (by omega) (by omega))) V6).trans ((ECP.rfl' (T := T) (c := 2400) (h := g6)).trans (EP7.lo (by omega))) ((ERP.rfl' (S := S) (r := 6000) (t := 500) (h := r6)).trans (EQ8.lo (by omega) (by omega))) (NVR.same (by omega))), by unfold DXB; omega, fun K V CL A s1 s2 => ?_⟩⟩
    · simp (implicitDefEqProofs := false) (disch := omega) only [sp112, n112_0, b112_1, b112_2, q112_1, q112_2, x_aload0, y_call113, y_call115, y_call28, y_call45, y_call78, y_call86, x_gc_2051, x_goto_2, x_iconst, x_ifCond_ne_1, x_iload1, x_iload2, x_iload3, x_istore2, x_istore3, x_jsr, x_return, klp_0, klp_1, klp_2, klp_3, klp_9, KC_0, KC_1, KC_2, KC_3, KC_4, ne_eq, not_false_eq_true, not_true_eq_false, true_and, and_true, and_self, implies_true, eq_self, true_imp_iff, false_implies, Int.reduceEq, Int.reduceNe, Int.reduceMod, Int.reduceMul, Int.reduceAdd, Int.reduceSub, Int.reduceLT, Int.reduceLE, Nat.reduceAdd, Nat.reduceLeDiff, Nat.reduceLT, Nat.reduceSub, reduceIte, wds_n, wds_0, wds_1, wds_2, wds_3, or_true, true_or, or_false, false_or, or_self, false_and, and_false, d_pos, d_s1, d_s2, d_s3, d_s4, d_s5, d_s6, d_s7, d_s8, Classical.not_not, z258_0, TC_0 hT, TC_k hT, hp1, ec2, hp2, ec4, hp4, hp5, ec6, hp6, jc, ec7, hp7, hp8, d_s9, d_s10, d_s11, d_s12, d_s13, d_s14, d_s15, d_s16, d_s17, d_s18, d_s19, d_s20, d_s21, d_s22, d_s23, d_s24, d_s25, d_s26, d_s27, d_s28, d_s29, d_s30, hs_ne, hcell, hcel1, le_sub1, le_T, le_F, lt_T, lt_F, eq_F, w32_T, bz0, bz1, lc_le, lc_ge, lc_lt, lc_gt, lc_eq]
    · simp (implicitDefEqProofs := false) (disch := omega) only [sp348, n348_0, b348_1, b348_2, q348_1, q348_2, x_aload0, y_call321, y_call325, y_call327, y_call343, y_call347, y_call349, x_gc_12427, x_gf_11339, x_gf_12408, x_goto_2, x_iastore, x_iconst, x_ifCond_eq_1, x_iload1, x_iload2, x_istore1, x_istore2, x_jsr, x_return, klp_0, klp_1, klp_2, klp_3, klp_9, KC_0, KC_1, KC_2, KC_3, KC_4, ne_eq, not_false_eq_true, not_true_eq_false, true_and, and_true, and_self, implies_true, eq_self, true_imp_iff, false_implies, Int.reduceEq, Int.reduceNe, Int.reduceMod, Int.reduceMul, Int.reduceAdd, Int.reduceSub, Int.reduceLT, Int.reduceLE, Nat.reduceAdd, Nat.reduceLeDiff, Nat.reduceLT, Nat.reduceSub, reduceIte, wds_n, wds_0, wds_1, wds_2, wds_3, or_true, true_or, or_false, false_or, or_self, false_and, and_false, d_pos, d_s1, d_s2, d_s3, d_s4, d_s5, d_s6, d_s7, d_s8, Classical.not_not, r17 hS, r17l hS, r17k hS, TR_0 hS, TR_k hS, er1, h91, er2, h92, h94, er5, h95, er6, h96, gd6, jelse, h97, ← hr8, h98, d_s9, d_s10, d_s11, d_s12, d_s13, d_s14, d_s15, d_s16, d_s17, d_s18, d_s19, d_s20, d_s21, d_s22, d_s23, d_s24, d_s25, d_s26, d_s27, d_s28, d_s29, d_s30, hs_ne, hcell, hcel1, le_sub1, le_T, le_F, lt_T, lt_F, eq_F, w32_T, bz0, bz1, lc_le, lc_ge, lc_lt, lc_gt, lc_eq]
    · have EP1j : ECP T (g1 T 17) g2 g7 := (ECP.paE ((((ECP.rfl' (T := T) (c := g1 T 17) (h := g2)).trans (X3.2.2.1.1.lo (by omega))).trans (X4.2.2.1.1.lo (by omega))).trans (X6.2.2.1.1.lo (by omega))) hg7 hT (by omega))
      have FP1j : ERP S (r1 S 15) (r1 S 22) r2 r8 := (ERP.prE (((ERP.rfl' (S := S) (r := r1 S 15) (t := r1 S 22) (h := r2)).trans (X5.2.2.2.1.lo (by omega) (by omega))).trans (X6.2.2.2.1.lo (by omega) (by omega))) hr8 hS (by omega))
      have AP1j := A.sub (h := g2) (hr := r2) (c2 := g1 T 17) (r2 := r1 S 15) (t2 := r1 S 22) (by have := D2.nb; unfold NBR at this; omega) EP1j FP1j (by omega) (by omega) (by omega)
      have P1 := PX2 K V CL AP1j
      have EP2j : ECP T (g4 T 17) g6 g7 := ((ECP.rfl' (T := T) (c := g4 T 17) (h := g6)).trans (EP7.lo (by omega)))
      have FP2j : ERP S (r5 S 15) (r5 S 22) r6 r8 := ((ERP.rfl' (S := S) (r := r5 S 15) (t := r5 S 22) (h := r6)).trans (EQ8.lo (by omega) (by omega)))
      have AP2j := A.sub (h := g6) (hr := r6) (c2 := g4 T 17) (r2 := r5 S 15) (t2 := r5 S 22) (by have := D6.nb; unfold NBR at this; omega) EP2j FP2j (by omega) (by omega) (by omega)
      have P2 := PX6 K V CL AP2j
      have u1 := A.cel (by omega) (CEL.paE (CEL.ec (c := 0) (CEL.ec (c := 0) C3 X4.2.2.1.1 (by omega)) X6.2.2.1.1 (by omega)) hg7 (by omega) hT)
      have u2 := A.cel (by omega) C7
      have v1 := A.rco (by omega) R8
      have P1z : EXK K V CL (h T 17 - 1 + 1) (hr S 15 - 1 + 1) (g2 T 17) (r2 S 15) (r2 S 15 - r1 S 15) 1 (r2 S 15 - r1 S 15) 0 := by rw [show h T 17 - 1 + 1 = g1 T 17 by omega, show hr S 15 - 1 + 1 = r1 S 15 by omega]; exact P1
      have R := a_IF (K := K) (V := V) (CL := CL) (c0 := h T 17 - 1) (r0 := hr S 15 - 1) (c1 := g2 T 17) (r1 := r2 S 15) (c2 := g7 T 17) (r2 := r8 S 15) (f := hr S 21) (t := hr S 22) (dp := dep - 1) (m := r2 S 15 - r1 S 15) (w := r2 S 15 - r1 S 15) (by omega) (by omega) (by omega) s1 s2 P1z (by omega) (by omega) u1 v1.1 (by rw [show g2 T 17 + 1 = g3 T 17 by omega, u2]; omega) (by rw [v1.2.1 (by decide) (by decide) (by decide)]; omega) (by rw [show g2 T 17 + 2 = g4 T 17 by omega, show r2 S 15 + 1 = r5 S 15 by omega, show dep - 1 + 1 = dep by omega, show hr S 21 = r5 S 21 by omega, show hr S 22 = r5 S 22 by omega, show g7 T 17 = g6 T 17 by omega, show r8 S 15 = r6 S 15 by omega]; exact P2)
      exact R
end SM
