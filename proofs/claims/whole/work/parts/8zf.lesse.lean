/-! THE PURE SIDE, 188: lessons: their end: printed by wip/tools/gen8zf.py -/
section SM
variable {bX : Int} {tp : Int → Int} {t T S s s1 s2 f : Int} {h hr g gr k kr m mr : HV} {Q : Int → HV → Prop} {d : Nat}
theorem TKX.un {l : Int} {n : Nat} (D : TKX tp t T S s h hr) : TKX tp t T S s (unH T h l n) hr := by
  have kT := kTC D.2.1.1.1
  exact D.fr ⟨un_o (by omega) (by omega) n, un_o (by omega) (by omega) n, by rw [un_o (by omega) (by omega) n]⟩ (fun o w => un_o (by omega) (by omega) n) (fun i _ _ => rfl) ⟨rfl, rfl⟩ (fun o w => rfl)
theorem less_end {x x2 x3 x4 : Int} {n2 u5 : AV} {h0 : HV} {e e2 : Nat} (D : TKX tp t T S s h kr) (p1 : ∀ Q, Sp fz1 (e + 9) 28 [(3, 129), (0, 1)] h0 Q = Q 0 h) (hx : 0 ≤ x ∧ x < 12) (hu : 0 ≤ h T 11 ∧ h T 11 + 3 ≤ 36) : ∃ g gr, (∀ Q, G fz1 (e + 10) 67 6 [(3, 258), (0, x), (0, x2), (0, x3), (0, x4), u5] [(0, 1), (3, 129)] h0 Q = Q 0 g) ∧ (∀ Q, G fz1 (e2 + 10) 337 5 [(3, 6603), (0, x), n2] [] kr Q = Q 0 gr) ∧ ((∃ v s1 g3 r2, s + 1 ≤ s1 ∧ (1 ≤ v ∧ v ≤ 3) ∧ TKX tp t T S s1 g gr ∧ g = unH T (hset (hset (hset g3 (T + 918) x x2) (T + 982) x x3) (T + 1046) x x4) x v.toNat ∧ SAC h g3 ∧ SAR kr r2 ∧ SAR (hset r2 (S + 660) x v) gr) ∨ ((∃ f, BXC T f g ∧ BXR S f gr) ∧ SAC h g ∧ FIR S kr gr)) := by
  have hT := D.2.1.1.1
  have hS := D.2.1.2.1
  have kT := kTC hT
  have kS := kTR hS
  have h9 := D.2.1.2.2
  have sb : ∀ a : HV, SAC a (bdH a) := fun a o u => by unfold bdH; rw [hs_ne u, hs_ne u]
  obtain ⟨g2, r2, v, v2, cc2, f2, W⟩ := nu_pair (M := 3) D (by decide) e (e2 + 6)
  have n1 : ∀ Q, Sp fz1 (e + 9) 61 [(3, 258), (0, 3)] h Q = Q v g2 := cc2
  have f2 : ∀ Q, Sp fz1 (e2 + 9) 335 [(3, 6603), (0, 1), (0, 3)] kr Q = Q v2 r2 := f2
  rcases W with ⟨evv, v0, v1, s2, q2, D2, a2, b2⟩ | ⟨ev, ge, re⟩
  · subst evv
    have D3 : TKX tp t T S s2 g2 (hset r2 (S + 660) x v2) := D2.stR (by omega)
    obtain ⟨g3, r3, cc3, f3, W⟩ := D3.sign (c := 59) (by decide) e (e2 + 6)
    have sg : ∀ Q, Sp fz1 (e + 9) 58 [(3, 258), (0, 59)] g2 Q = Q 0 g3 := cc3
    have f3 : ∀ Q, Sp fz1 (e2 + 9) 333 [(3, 6603), (0, 59)] (hset r2 (S + 660) x v2) Q = Q 0 r3 := f3
    rcases W with ⟨-, s3, q3, D4, a3, b3⟩ | ⟨-, ge, re⟩
    · have st : ∀ Q, Sp fz1 (e + 9) 41 [(3, 258)] g3 Q = Q 1 g3 := fun Q => D4.c41 (d := e + 8)
      have hp : g3 258 1 = T := D4.2.1.1.2
      have a23 : SAC h g3 := fun o u => by rw [a3 o u, a2 o u]
      have D5 : TKX tp t T S s3 (hset (hset (hset g3 (T + 918) x x2) (T + 982) x x3) (T + 1046) x x4) r3 := ((D4.stC (by omega)).stC (by omega)).stC (by omega)
      have e11 : (hset (hset (hset g3 (T + 918) x x2) (T + 982) x x3) (T + 1046) x x4) T 11 = h T 11 := by rw [hs_ne (by omega), hs_ne (by omega), hs_ne (by omega), a23 T (by omega)]
      have e70 : ∀ Q, Sp fz1 (e + 9) 70 [(3, T), (0, x), (0, v2)] (hset (hset (hset g3 (T + 918) x x2) (T + 982) x x3) (T + 1046) x x4) Q = Q 0 (unH T (hset (hset (hset g3 (T + 918) x x2) (T + 982) x x3) (T + 1046) x x4) x v2.toNat) := fun Q => c70 hT (by rw [e11]; exact hu.1) (by rw [e11]; omega) (by omega)
      refine ⟨_, r3, fun Q => ?_, fun Q => ?_, .inl ⟨v2, s3, g3, r2, by omega, ⟨v0, v1⟩, D5.un, rfl, a23, b2, b3⟩⟩
      · rw [q67_6]
        simp (implicitDefEqProofs := false) (disch := omega) only [b67_6, b67_7, q67_6, q67_7, x_aload0, y_call28, y_call41, y_call58, y_call61, y_call70, x_gc_10291, x_gc_10299, x_gc_10307, x_gf_2059, x_goto_7, x_iastore, x_iconst, x_ifCond_eq_7, x_iload1, x_iload2, x_iload3, x_iload4, x_iload5, x_istore5, x_return, klp_0, klp_1, klp_2, klp_3, klp_9, KC_0, KC_1, KC_2, KC_3, KC_4, ne_eq, not_false_eq_true, not_true_eq_false, true_and, and_true, and_self, implies_true, eq_self, true_imp_iff, false_implies, Int.reduceEq, Int.reduceNe, Int.reduceMod, Int.reduceMul, Int.reduceAdd, Int.reduceSub, Int.reduceLT, Int.reduceLE, Nat.reduceAdd, Nat.reduceLeDiff, Nat.reduceLT, Nat.reduceSub, reduceIte, wds_n, wds_0, wds_1, wds_2, wds_3, or_true, true_or, or_false, false_or, or_self, false_and, and_false, d_pos, d_s1, d_s2, d_s3, d_s4, d_s5, d_s6, d_s7, d_s8, Classical.not_not, c6 hT, c6l hT, c6k hT, c7 hT, c7l hT, c7k hT, c8 hT, c8l hT, c8k hT, z258_0, TC_0 hT, TC_k hT, p1, n1, sg, hp, st, e70, d_s9, d_s10, d_s11, d_s12, d_s13, d_s14, d_s15, d_s16, d_s17, d_s18, d_s19, d_s20, d_s21, d_s22, d_s23, d_s24, d_s25, d_s26, d_s27, d_s28, d_s29, d_s30, hs_ne, hcell, hcel1, le_sub1, le_T, le_F, lt_T, lt_F, eq_F, w32_T, bz0, bz1, lc_le, lc_ge, lc_lt, lc_gt, lc_eq]
      · rw [q337_5]
        simp (implicitDefEqProofs := false) (disch := omega) only [b337_5, q337_5, x_aload0, y_call333, y_call335, x_gc_12363, x_gf_11339, x_iastore, x_iconst, x_iload1, x_return, klp_0, klp_1, klp_2, klp_3, klp_9, KC_0, KC_1, KC_2, KC_3, KC_4, ne_eq, not_false_eq_true, not_true_eq_false, true_and, and_true, and_self, implies_true, eq_self, true_imp_iff, false_implies, Int.reduceEq, Int.reduceNe, Int.reduceMod, Int.reduceMul, Int.reduceAdd, Int.reduceSub, Int.reduceLT, Int.reduceLE, Nat.reduceAdd, Nat.reduceLeDiff, Nat.reduceLT, Nat.reduceSub, reduceIte, wds_n, wds_0, wds_1, wds_2, wds_3, or_true, true_or, or_false, false_or, or_self, false_and, and_false, d_pos, d_s1, d_s2, d_s3, d_s4, d_s5, d_s6, d_s7, d_s8, Classical.not_not, r4 hS, r4l hS, r4k hS, r6 hS, r6l hS, r6k hS, r7 hS, r7l hS, r7k hS, r8 hS, r8l hS, r8k hS, r9 hS, r9l hS, r9k hS, TR_0 hS, TR_k hS, h9, f2, f3, d_s9, d_s10, d_s11, d_s12, d_s13, d_s14, d_s15, d_s16, d_s17, d_s18, d_s19, d_s20, d_s21, d_s22, d_s23, d_s24, d_s25, d_s26, d_s27, d_s28, d_s29, d_s30, hs_ne, hcell, hcel1, le_sub1, le_T, le_F, lt_T, lt_F, eq_F, w32_T, bz0, bz1, lc_le, lc_ge, lc_lt, lc_gt, lc_eq]
    · obtain ⟨B1, B2⟩ := D3.bad
      have st : ∀ Q, Sp fz1 (e + 9) 41 [(3, 258)] g3 Q = Q 0 g3 := fun Q => by rw [ge]; exact B1.c41 (d := e + 8)
      have hp : g3 258 1 = T := by rw [ge]; exact B1.1.2
      have Fst : FIR S r2 (hset r2 (S + 660) x v2) := FIR.st (by omega) hS
      have Fb : FIR S (hset r2 (S + 660) x v2) r3 := by rw [re]; exact FIR.bd
      have Sb : SAC g2 g3 := by rw [ge]; exact sb g2
      refine ⟨g3, r3, fun Q => ?_, fun Q => ?_, .inr ⟨⟨s2, by rw [ge]; exact B1, by rw [re]; exact B2⟩, fun o u => by rw [Sb o u, a2 o u], b2.i.trans (Fst.trans Fb)⟩⟩
      · rw [q67_6]
        simp (implicitDefEqProofs := false) (disch := omega) only [b67_6, b67_7, q67_6, q67_7, x_aload0, y_call28, y_call41, y_call58, y_call61, y_call70, x_gc_10291, x_gc_10299, x_gc_10307, x_gf_2059, x_goto_7, x_iastore, x_iconst, x_ifCond_eq_7, x_iload1, x_iload2, x_iload3, x_iload4, x_iload5, x_istore5, x_return, klp_0, klp_1, klp_2, klp_3, klp_9, KC_0, KC_1, KC_2, KC_3, KC_4, ne_eq, not_false_eq_true, not_true_eq_false, true_and, and_true, and_self, implies_true, eq_self, true_imp_iff, false_implies, Int.reduceEq, Int.reduceNe, Int.reduceMod, Int.reduceMul, Int.reduceAdd, Int.reduceSub, Int.reduceLT, Int.reduceLE, Nat.reduceAdd, Nat.reduceLeDiff, Nat.reduceLT, Nat.reduceSub, reduceIte, wds_n, wds_0, wds_1, wds_2, wds_3, or_true, true_or, or_false, false_or, or_self, false_and, and_false, d_pos, d_s1, d_s2, d_s3, d_s4, d_s5, d_s6, d_s7, d_s8, Classical.not_not, c6 hT, c6l hT, c6k hT, c7 hT, c7l hT, c7k hT, c8 hT, c8l hT, c8k hT, z258_0, TC_0 hT, TC_k hT, p1, n1, sg, hp, st, d_s9, d_s10, d_s11, d_s12, d_s13, d_s14, d_s15, d_s16, d_s17, d_s18, d_s19, d_s20, d_s21, d_s22, d_s23, d_s24, d_s25, d_s26, d_s27, d_s28, d_s29, d_s30, hs_ne, hcell, hcel1, le_sub1, le_T, le_F, lt_T, lt_F, eq_F, w32_T, bz0, bz1, lc_le, lc_ge, lc_lt, lc_gt, lc_eq]
      · rw [q337_5]
        simp (implicitDefEqProofs := false) (disch := omega) only [b337_5, q337_5, x_aload0, y_call333, y_call335, x_gc_12363, x_gf_11339, x_iastore, x_iconst, x_iload1, x_return, klp_0, klp_1, klp_2, klp_3, klp_9, KC_0, KC_1, KC_2, KC_3, KC_4, ne_eq, not_false_eq_true, not_true_eq_false, true_and, and_true, and_self, implies_true, eq_self, true_imp_iff, false_implies, Int.reduceEq, Int.reduceNe, Int.reduceMod, Int.reduceMul, Int.reduceAdd, Int.reduceSub, Int.reduceLT, Int.reduceLE, Nat.reduceAdd, Nat.reduceLeDiff, Nat.reduceLT, Nat.reduceSub, reduceIte, wds_n, wds_0, wds_1, wds_2, wds_3, or_true, true_or, or_false, false_or, or_self, false_and, and_false, d_pos, d_s1, d_s2, d_s3, d_s4, d_s5, d_s6, d_s7, d_s8, Classical.not_not, r4 hS, r4l hS, r4k hS, r6 hS, r6l hS, r6k hS, r7 hS, r7l hS, r7k hS, r8 hS, r8l hS, r8k hS, r9 hS, r9l hS, r9k hS, TR_0 hS, TR_k hS, h9, f2, f3, d_s9, d_s10, d_s11, d_s12, d_s13, d_s14, d_s15, d_s16, d_s17, d_s18, d_s19, d_s20, d_s21, d_s22, d_s23, d_s24, d_s25, d_s26, d_s27, d_s28, d_s29, d_s30, hs_ne, hcell, hcel1, le_sub1, le_T, le_F, lt_T, lt_F, eq_F, w32_T, bz0, bz1, lc_le, lc_ge, lc_lt, lc_gt, lc_eq]
  · obtain ⟨B1, B2⟩ := D.bad
    rw [← ge] at B1
    rw [← re] at B2
    have sg : ∀ Q, Sp fz1 (e + 9) 58 [(3, 258), (0, 59)] g2 Q = Q 0 g2 := fun Q => B1.sg (d := e + 8)
    have st : ∀ Q, Sp fz1 (e + 9) 41 [(3, 258)] g2 Q = Q 0 g2 := fun Q => B1.c41 (d := e + 8)
    have hp : g2 258 1 = T := B1.1.2
    have B3 : BXR S s (hset r2 (S + 660) x v2) := B2.st (by omega)
    obtain ⟨r3, hr3⟩ : ∃ a, a = hset r2 (S + 660) x v2 := ⟨_, rfl⟩
    have f3 : ∀ Q, Sp fz1 (e2 + 9) 333 [(3, 6603), (0, 59)] (hset r2 (S + 660) x v2) Q = Q 0 r3 := fun Q => by rw [hr3]; exact B3.sg (d := e2 + 8)
    have Fst : FIR S r2 r3 := by rw [hr3]; exact FIR.st (by omega) hS
    have Fb : FIR S kr r2 := by rw [re]; exact FIR.bd
    have Sb : SAC h g2 := by rw [ge]; exact sb h
    refine ⟨g2, r3, fun Q => ?_, fun Q => ?_, .inr ⟨⟨s, B1, by rw [hr3]; exact B3⟩, Sb, Fb.trans Fst⟩⟩
    · rw [q67_6]
      simp (implicitDefEqProofs := false) (disch := omega) only [b67_6, b67_7, q67_6, q67_7, x_aload0, y_call28, y_call41, y_call58, y_call61, y_call70, x_gc_10291, x_gc_10299, x_gc_10307, x_gf_2059, x_goto_7, x_iastore, x_iconst, x_ifCond_eq_7, x_iload1, x_iload2, x_iload3, x_iload4, x_iload5, x_istore5, x_return, klp_0, klp_1, klp_2, klp_3, klp_9, KC_0, KC_1, KC_2, KC_3, KC_4, ne_eq, not_false_eq_true, not_true_eq_false, true_and, and_true, and_self, implies_true, eq_self, true_imp_iff, false_implies, Int.reduceEq, Int.reduceNe, Int.reduceMod, Int.reduceMul, Int.reduceAdd, Int.reduceSub, Int.reduceLT, Int.reduceLE, Nat.reduceAdd, Nat.reduceLeDiff, Nat.reduceLT, Nat.reduceSub, reduceIte, wds_n, wds_0, wds_1, wds_2, wds_3, or_true, true_or, or_false, false_or, or_self, false_and, and_false, d_pos, d_s1, d_s2, d_s3, d_s4, d_s5, d_s6, d_s7, d_s8, Classical.not_not, c6 hT, c6l hT, c6k hT, c7 hT, c7l hT, c7k hT, c8 hT, c8l hT, c8k hT, z258_0, TC_0 hT, TC_k hT, p1, n1, sg, hp, st, d_s9, d_s10, d_s11, d_s12, d_s13, d_s14, d_s15, d_s16, d_s17, d_s18, d_s19, d_s20, d_s21, d_s22, d_s23, d_s24, d_s25, d_s26, d_s27, d_s28, d_s29, d_s30, hs_ne, hcell, hcel1, le_sub1, le_T, le_F, lt_T, lt_F, eq_F, w32_T, bz0, bz1, lc_le, lc_ge, lc_lt, lc_gt, lc_eq]
    · rw [q337_5]
      simp (implicitDefEqProofs := false) (disch := omega) only [b337_5, q337_5, x_aload0, y_call333, y_call335, x_gc_12363, x_gf_11339, x_iastore, x_iconst, x_iload1, x_return, klp_0, klp_1, klp_2, klp_3, klp_9, KC_0, KC_1, KC_2, KC_3, KC_4, ne_eq, not_false_eq_true, not_true_eq_false, true_and, and_true, and_self, implies_true, eq_self, true_imp_iff, false_implies, Int.reduceEq, Int.reduceNe, Int.reduceMod, Int.reduceMul, Int.reduceAdd, Int.reduceSub, Int.reduceLT, Int.reduceLE, Nat.reduceAdd, Nat.reduceLeDiff, Nat.reduceLT, Nat.reduceSub, reduceIte, wds_n, wds_0, wds_1, wds_2, wds_3, or_true, true_or, or_false, false_or, or_self, false_and, and_false, d_pos, d_s1, d_s2, d_s3, d_s4, d_s5, d_s6, d_s7, d_s8, Classical.not_not, r4 hS, r4l hS, r4k hS, r6 hS, r6l hS, r6k hS, r7 hS, r7l hS, r7k hS, r8 hS, r8l hS, r8k hS, r9 hS, r9l hS, r9k hS, TR_0 hS, TR_k hS, h9, f2, f3, d_s9, d_s10, d_s11, d_s12, d_s13, d_s14, d_s15, d_s16, d_s17, d_s18, d_s19, d_s20, d_s21, d_s22, d_s23, d_s24, d_s25, d_s26, d_s27, d_s28, d_s29, d_s30, hs_ne, hcell, hcel1, le_sub1, le_T, le_F, lt_T, lt_F, eq_F, w32_T, bz0, bz1, lc_le, lc_ge, lc_lt, lc_gt, lc_eq]
end SM
