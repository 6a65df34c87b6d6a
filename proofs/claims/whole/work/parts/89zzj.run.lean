/-! THE PURE SIDE, 132: the whole relation, run: printed by wip/tools/gen89zzj.py -/
def SPT (h : HV) : Prop := (h 64 8 = 3466 ∧ h 64 9 = 4938 ∨ h 64 8 = 4938 ∧ h 64 9 = 3466) ∧ (h 6603 9 = 6732 ∧ h 6603 10 = 8076 ∨ h 6603 9 = 8076 ∧ h 6603 10 = 6732)
def hS0 : HV := hI0 0 (fun _ => 0)
def STS (h : HV) : Prop := ∀ a, a < 0 → h a = hS0 a
def RC (h : HV) : Prop := (∃ K, ENV K h h) ∧ VOK h ∧ h 1157 3 = h 64 8 ∧ SPT h ∧ (0 ≤ h 1157 15 ∧ h 1157 15 ≤ 10000) ∧ STS h
def RA (h : HV) : Prop := RB h ∧ RC h
def SR (h hr : HV) : Prop := ∀ o, 6603 ≤ o → o < 13056 → hr o = h o
theorem mix_S {h hr : HV} (S : SR h hr) : mixH h hr = h := by
  funext a
  unfold mixH
  split
  · rename_i w
    exact S a w.1 w.2
  · rfl
theorem mix_h {h : HV} : mixH h h = h := mix_S (fun _ _ _ => rfl)
/-- the code and the people of another heap -/
theorem env_of {K h hr h2 hr2 : HV} (N : ENV K h hr) (P : RPp (mixH h2 hr2)) (e3 : h2 1157 3 = h 1157 3) (c : ∀ x, 0 ≤ x → x < 1450 → h2 (h 1157 3 + x) = h (h 1157 3 + x)) (e9 : hr2 6603 9 = hr 6603 9) (r : ∀ x, 0 ≤ x → x < 1310 → hr2 (hr 6603 9 + x) = hr (hr 6603 9 + x)) : ENV K h2 hr2 := by
  obtain ⟨n1, -, ⟨n3, n4, n5⟩, n6, n7, n8, n9, n10, n11, n12⟩ := N
  have c0 : h2 (h 1157 3) = h (h 1157 3) := by
    have := c 0 (by decide) (by decide)
    rw [Int.add_zero] at this
    exact this
  refine ⟨n1, P, ⟨by rw [e3]; exact n3, by rw [e3, c0]; exact n4, fun i => ?_⟩, ?_, ?_, ?_, ?_, ?_, ?_, ?_⟩
  · unfold cdT at n5 ⊢
    rw [e3, c0, c 1430 (by decide) (by decide)]
    exact n5 i
  · rw [e3, c 598 (by decide) (by decide), c 1238 (by decide) (by decide), c 1302 (by decide) (by decide), c 1366 (by decide) (by decide)]
    exact n6
  · rw [e9]
    exact n7
  · rw [e9, r 980 (by decide) (by decide), r 1044 (by decide) (by decide), r 1108 (by decide) (by decide)]
    exact n8
  · rw [e9, r 1236 (by decide) (by decide)]
    exact n9
  · rw [e9, r 1300 (by decide) (by decide), r 1174 (by decide) (by decide)]
    exact n10
  · rw [e9, r 84 (by decide) (by decide), r 788 (by decide) (by decide), r 852 (by decide) (by decide), r 916 (by decide) (by decide)]
    exact n11
  · rw [e3, e9, c 598 (by decide) (by decide), r 84 (by decide) (by decide)]
    exact n12
theorem env_S {K h hr : HV} (N : ENV K h h) (S : SR h hr) : ENV K h hr := by
  have hT := N.S
  have P := N.2.1
  rw [mix_h] at P
  refine env_of N (by rw [mix_S S]; exact P) rfl (fun _ _ _ => rfl) (by rw [S 6603 (by decide) (by decide)]) (fun x a b => S _ ?_ ?_)
  · rcases hT with w | w <;> omega
  · rcases hT with w | w <;> omega
theorem sta_S {h hr : HV} (R : RA h) (S : SR h hr) : STA h hr h hr := by
  obtain ⟨⟨_, _, _, _, _, _, _, _, _, _, _, _, _, _, _, _, _, rw, mk, _, _, vl, rm, it⟩, -, V, -⟩ := R
  refine ⟨⟨fun _ _ _ _ _ _ _ => rfl, fun _ _ => rfl, rfl, Int.le_refl _⟩, ⟨fun _ _ _ => rfl, fun _ _ _ _ _ _ => rfl⟩, V, ?_⟩
  unfold DATA
  rw [mix_S S]
  exact ⟨rw, it, mk, vl, rm⟩
/-- the things that no run touches -/
def QT (o : Int) : Prop := o < 13056 ∧ ¬ (1157 ≤ o ∧ o ≤ 1926) ∧ o ≠ 0 ∧ o ≠ 64 ∧ o ≠ 643 ∧ o ≠ 736 ∧ o ≠ 801 ∧ o ≠ 6432 ∧ o ≠ 6496 ∧ o ≠ 6561 ∧ o ≠ 6603 ∧ ¬ (10272 ≤ o ∧ o ≤ 11679)
theorem ra_end {h F : HV} (R : RA h) (c : ∀ o, QT o → F o = h o) (c6 : ∀ s, s ≠ 10 → s ≠ 11 → s ≠ 12 → s ≠ 16 → F 64 s = h 64 s) (r6 : ∀ s, s ≠ 30 → s ≠ 36 → s ≠ 41 → s ≠ 44 → ¬ (52 ≤ s ∧ s ≤ 59) → s ≠ 61 → F 6603 s = h 6603 s) (c3 : F 1157 3 = h 1157 3)
    (d1 : RRw F) (d2 : RIt F) (d3 : RMk F) (d4 : RVl F) (d5 : RRm F) (V : VOK F) (g : RGv F) (sd : RSd F) (m1 : F 6603 55 = F 1157 15) (m2 : F 64 12 = F 6603 53) (m3 : 0 ≤ F 1157 15 ∧ F 1157 15 ≤ 10000) : RA F ∧ F 50 = h 50 := by
  obtain ⟨⟨x1, x2, x3, x4, x5, x6, x7, x8, x9, x10, x11, x12, x13, x14, -, x16, x17, -, -, -, x21, -, -, -⟩, ⟨K, N⟩, -, y3, y4, -, y6⟩ := R
  have q : ∀ o, QT o → F o = h o := c
  have T : TXF h F := by
    obtain ⟨t1, t2, -⟩ := x1
    exact ⟨c6 8 (by decide) (by decide) (by decide) (by decide), r6 9 (by decide) (by decide) (by decide) (by decide) (by decide) (by decide), fun x a b => c _ (by unfold QT; rcases t1 with w | w <;> omega), fun x a b => c _ (by unfold QT; rcases t2 with w | w <;> omega)⟩
  have e : ∀ o, QT o → ∀ s, F o s = h o s := fun o w s => by rw [c o w]
  have r : ∀ s, s ≠ 30 → s ≠ 36 → s ≠ 41 → s ≠ 44 → ¬ (52 ≤ s ∧ s ≤ 59) → s ≠ 61 → F 6603 s = h 6603 s := r6
  have P7 : RPp F := f_P (r 25 (by decide) (by decide) (by decide) (by decide) (by decide) (by decide)) (e 836 (by unfold QT; decide) 4) (c 10016 (by unfold QT; decide)) (c 928 (by unfold QT; decide)) (c 10080 (by unfold QT; decide)) (c 992 (by unfold QT; decide)) (c 10144 (by unfold QT; decide)) (c 1056 (by unfold QT; decide)) x7
  refine ⟨⟨⟨f_X T x1, f_G T x2, f_U T x3, f_L T x4, f_M T x5, f_TP (e 129 (by unfold QT; decide) 1) (r 1 (by decide) (by decide) (by decide) (by decide) (by decide) (by decide)) (c 6691 (by unfold QT; decide)) (c 227 (by unfold QT; decide)) x6, P7, f_B (r 65 (by decide) (by decide) (by decide) (by decide) (by decide) (by decide)) (e 1927 (by unfold QT; decide) 1) (c 11680 (by unfold QT; decide)) (c 2016 (by unfold QT; decide)) (c 11808 (by unfold QT; decide)) (c 2080 (by unfold QT; decide)) x8, f_W (c 2080 (by unfold QT; decide)) x9, f_A (fun s _ _ => e 1927 (by unfold QT; decide) s) (fun s a b _ => r s (by omega) (by omega) (by omega) (by omega) (by omega) (by omega)) x10, f_T T (e 1927 (by unfold QT; decide) 0) (e 1927 (by unfold QT; decide) 13) (c 11872 (by unfold QT; decide)) (c 11936 (by unfold QT; decide)) (c 2528 (by unfold QT; decide)) x11, f_I T (e 1927 (by unfold QT; decide) 13) (c 2528 (by unfold QT; decide)) x12, f_V T (e 2568 (by unfold QT; decide) 4) (e 1927 (by unfold QT; decide) 13) (r 71 (by decide) (by decide) (by decide) (by decide) (by decide) (by decide)) (c 12896 (by unfold QT; decide)) (c 2720 (by unfold QT; decide)) x13, f_Ab (c 11744 (by unfold QT; decide)) (c 2656 (by unfold QT; decide)) x14, sd, f_Ch T (e 836 (by unfold QT; decide) 4) (c 12384 (by unfold QT; decide)) (c 3104 (by unfold QT; decide)) (c 12448 (by unfold QT; decide)) (c 3040 (by unfold QT; decide)) (c 12512 (by unfold QT; decide)) (c 3168 (by unfold QT; decide)) (c 928 (by unfold QT; decide)) (c 12576 (by unfold QT; decide)) (c 3232 (by unfold QT; decide)) (r 86 (by decide) (by decide) (by decide) (by decide) (by decide) (by decide)) (e 2953 (by unfold QT; decide) 6) x16, f_Pc T (e 836 (by unfold QT; decide) 4) (e 2953 (by unfold QT; decide) 1) (c 3232 (by unfold QT; decide)) x17, d1, d3, g, ?_, d4, d5, d2⟩, ⟨K, ?_⟩, V, ?_, ?_, m3, fun a w => ?_⟩, ?_⟩
  · unfold RMi at *
    rw [T.1, T.2.1, txf_U T, txf_S T, e 2568 (by unfold QT; decide)]
    exact ⟨x21.1, m1, m2, x21.2.2.2⟩
  · have hT := N.cd.1
    have hS := N.S
    exact env_of N (by rw [mix_h]; exact P7) c3 (fun x a b => c _ (by unfold QT; rcases hT with w | w <;> omega)) T.2.1 (fun x a b => c _ (by unfold QT; rcases hS with w | w <;> omega))
  · rw [c3, T.1]
    exact y3
  · unfold SPT at *
    rw [T.1, T.2.1, c6 9 (by decide) (by decide) (by decide) (by decide), r 10 (by decide) (by decide) (by decide) (by decide) (by decide) (by decide)]
    exact y4
  · rw [c a (by unfold QT; omega)]
    exact y6 a w
  · exact c 50 (by unfold QT; decide)
theorem R2_post {a b : (Int → HV → Prop) → Prop} {f : Int → HV → HV} {Q Q2 : Int → HV → Int → HV → Prop} (g : R2 a b Q) (h : ∀ x h y h', Q x h y h' → Q2 x (f x h) y h') : R2 (fun P => a (fun x h1 => P x (f x h1))) b Q2 := by
  obtain ⟨x, h1, y, h2, u, v, q⟩ := g
  exact ⟨x, f x h1, y, h2, fun P p => u _ p, v, h _ _ _ _ q⟩
theorem Sp_and {fz : Int → Int → Option Int} {d m : Nat} {as : List AV} {h : HV} {A : Prop} {B : Int → HV → Prop} (g : Sp fz d m as h (fun y h2 => A ∧ B y h2)) : A ∧ Sp fz d m as h B := by
  obtain ⟨n, r, h', e, q⟩ := g
  exact ⟨q.1, n, r, h', e, q.2⟩
def gvC (x : Int) (h1 : HV) : HV := hset (hset (hset h1 64 10 (if x < 0 then 0 else x)) 64 11 (h1 1157 20)) 64 12 (h1 1157 17)
theorem s165 {d : Nat} {h : HV} {Q : Int → HV → Prop} {b : Int}  : Sp fz1 d 165 [(0, b)] h Q = Q (if 1 ≤ b ∧ b ≤ 3000 then 1 else 0) h := by
  by_cases a1 : b < 1 <;> by_cases a2 : 3000 < b <;> (try (exfalso; omega)) <;> simp (implicitDefEqProofs := false) (disch := omega) only [sp165, b165_0, b165_1, b165_2, q165_1, q165_2, x_freturn, x_goto_2, x_iconst, x_if_icmp_gt_1, x_if_icmp_lt_1, x_iload0, klp_0, klp_1, klp_2, klp_3, klp_9, KC_0, KC_1, KC_2, KC_3, KC_4, ne_eq, not_false_eq_true, not_true_eq_false, true_and, and_true, and_self, implies_true, eq_self, true_imp_iff, false_implies, Int.reduceEq, Int.reduceNe, Int.reduceMod, Int.reduceMul, Int.reduceAdd, Int.reduceSub, Int.reduceLT, Int.reduceLE, Nat.reduceAdd, Nat.reduceLeDiff, Nat.reduceLT, Nat.reduceSub, reduceIte, wds_n, wds_0, wds_1, wds_2, wds_3, or_true, true_or, or_false, false_or, or_self, false_and, and_false, d_pos, d_s1, d_s2, d_s3, d_s4, d_s5, d_s6, d_s7, d_s8, Classical.not_not, a1, a2, le_sub1, le_T, le_F, lt_T, lt_F, eq_F, w32_T, bz0, bz1, lc_le, lc_ge, lc_lt, lc_gt, lc_eq] <;> first | rfl | (rw [if_pos (by omega)] <;> rfl) | (rw [if_neg (by omega)] <;> rfl) | (exfalso; omega)
theorem s233 {d : Nat} {h : HV} {Q : Int → HV → Prop}   : Sp fz1 d 233 [(3, 1157)] h Q = Q (h 1157 20) h := by
  simp (implicitDefEqProofs := false) (disch := omega) only [sp233, b233_0, x_aload0, x_gf_5281, x_lreturn, klp_0, klp_1, klp_2, klp_3, klp_9, KC_0, KC_1, KC_2, KC_3, KC_4, ne_eq, not_false_eq_true, not_true_eq_false, true_and, and_true, and_self, implies_true, eq_self, true_imp_iff, false_implies, Int.reduceEq, Int.reduceNe, Int.reduceMod, Int.reduceMul, Int.reduceAdd, Int.reduceSub, Int.reduceLT, Int.reduceLE, Nat.reduceAdd, Nat.reduceLeDiff, Nat.reduceLT, Nat.reduceSub, reduceIte, wds_n, wds_0, wds_1, wds_2, wds_3, or_true, true_or, or_false, false_or, or_self, false_and, and_false, d_pos, d_s1, d_s2, d_s3, d_s4, d_s5, d_s6, d_s7, d_s8, Classical.not_not, le_sub1, le_T, le_F, lt_T, lt_F, eq_F, w32_T, bz0, bz1, lc_le, lc_ge, lc_lt, lc_gt, lc_eq] <;> first | rfl | (rw [if_pos (by omega)] <;> rfl) | (rw [if_neg (by omega)] <;> rfl) | (exfalso; omega)
theorem s234 {d : Nat} {h : HV} {Q : Int → HV → Prop}   : Sp fz1 d 234 [(3, 1157)] h Q = Q (h 1157 17) h := by
  simp (implicitDefEqProofs := false) (disch := omega) only [sp234, b234_0, x_aload0, x_gf_5256, x_ireturn, klp_0, klp_1, klp_2, klp_3, klp_9, KC_0, KC_1, KC_2, KC_3, KC_4, ne_eq, not_false_eq_true, not_true_eq_false, true_and, and_true, and_self, implies_true, eq_self, true_imp_iff, false_implies, Int.reduceEq, Int.reduceNe, Int.reduceMod, Int.reduceMul, Int.reduceAdd, Int.reduceSub, Int.reduceLT, Int.reduceLE, Nat.reduceAdd, Nat.reduceLeDiff, Nat.reduceLT, Nat.reduceSub, reduceIte, wds_n, wds_0, wds_1, wds_2, wds_3, or_true, true_or, or_false, false_or, or_self, false_and, and_false, d_pos, d_s1, d_s2, d_s3, d_s4, d_s5, d_s6, d_s7, d_s8, Classical.not_not, le_sub1, le_T, le_F, lt_T, lt_F, eq_F, w32_T, bz0, bz1, lc_le, lc_ge, lc_lt, lc_gt, lc_eq] <;> first | rfl | (rw [if_pos (by omega)] <;> rfl) | (rw [if_neg (by omega)] <;> rfl) | (exfalso; omega)
theorem s164b {d : Nat} {h : HV} {Q : Int → HV → Prop} {a b c e f g : Int} (hT : TC (h 64 8)) (hn : ¬ (0 ≤ a ∧ a < h (h 64 8 + 598) 6 ∧ 1 ≤ b ∧ b ≤ 3000)) : Sp fz1 (d + 3) 164 [(3, 64), (0, a), (0, b), (0, c), (0, e), (0, f), (0, g)] h Q = Q (-1) h := by
  by_cases a1 : 0 ≤ a ∧ a < h (h 64 8 + 598) 6 <;> by_cases a2 : 1 ≤ b ∧ b ≤ 3000 <;> (try (exfalso; omega)) <;> simp (implicitDefEqProofs := false) (disch := omega) only [sp164, b164_0, b164_1, b164_2, b164_3, b164_4, q164_1, q164_2, q164_3, q164_4, x_aload0, y_call165, y_call166, y_call233, y_call234, y_call69, x_gc_35, x_gf_67, x_goto_1, x_goto_4, x_iconst, x_ifCond_eq_1, x_ifCond_ge_3, x_ifCond_ne_2, x_iload1, x_iload2, x_iload3, x_iload4, x_iload5, x_iload6, x_iload7, x_ireturn, x_istore7, x_pf_80, x_pf_89, x_pf_96, klp_0, klp_1, klp_2, klp_3, klp_9, KC_0, KC_1, KC_2, KC_3, KC_4, ne_eq, not_false_eq_true, not_true_eq_false, true_and, and_true, and_self, implies_true, eq_self, true_imp_iff, false_implies, Int.reduceEq, Int.reduceNe, Int.reduceMod, Int.reduceMul, Int.reduceAdd, Int.reduceSub, Int.reduceLT, Int.reduceLE, Nat.reduceAdd, Nat.reduceLeDiff, Nat.reduceLT, Nat.reduceSub, reduceIte, wds_n, wds_0, wds_1, wds_2, wds_3, or_true, true_or, or_false, false_or, or_self, false_and, and_false, d_pos, d_s1, d_s2, d_s3, d_s4, d_s5, d_s6, d_s7, d_s8, Classical.not_not, z64_4, TC_0 hT, TC_k hT, s69 hT, s165, hs_ne, hcell, hcel1, a1, a2, le_sub1, le_T, le_F, lt_T, lt_F, eq_F, w32_T, bz0, bz1, lc_le, lc_ge, lc_lt, lc_gt, lc_eq]
theorem s164a {d : Nat} {h : HV} {Q : Int → HV → Prop} {a b c e f g : Int} (hT : TC (h 64 8)) (a1 : 0 ≤ a ∧ a < h (h 64 8 + 598) 6) (a2 : 1 ≤ b ∧ b ≤ 3000) : Sp fz1 (d + 3) 164 [(3, 64), (0, a), (0, b), (0, c), (0, e), (0, f), (0, g)] h Q = Sp fz1 (d + 2) 166 [(3, 1157), (0, a), (0, b), (0, c), (0, e), (0, f), (0, g)] h (fun x h1 => Q x (gvC x h1)) := by
  simp (implicitDefEqProofs := false) (disch := omega) only [sp164, b164_0, b164_1, b164_2, b164_3, b164_4, q164_1, q164_2, q164_3, q164_4, x_aload0, y_call165, y_call166, y_call233, y_call234, y_call69, x_gc_35, x_gf_67, x_goto_1, x_goto_4, x_iconst, x_ifCond_eq_1, x_ifCond_ge_3, x_ifCond_ne_2, x_iload1, x_iload2, x_iload3, x_iload4, x_iload5, x_iload6, x_iload7, x_ireturn, x_istore7, x_pf_80, x_pf_89, x_pf_96, klp_0, klp_1, klp_2, klp_3, klp_9, KC_0, KC_1, KC_2, KC_3, KC_4, ne_eq, not_false_eq_true, not_true_eq_false, true_and, and_true, and_self, implies_true, eq_self, true_imp_iff, false_implies, Int.reduceEq, Int.reduceNe, Int.reduceMod, Int.reduceMul, Int.reduceAdd, Int.reduceSub, Int.reduceLT, Int.reduceLE, Nat.reduceAdd, Nat.reduceLeDiff, Nat.reduceLT, Nat.reduceSub, reduceIte, wds_n, wds_0, wds_1, wds_2, wds_3, or_true, true_or, or_false, false_or, or_self, false_and, and_false, d_pos, d_s1, d_s2, d_s3, d_s4, d_s5, d_s6, d_s7, d_s8, Classical.not_not, z64_4, TC_0 hT, TC_k hT, s69 hT, s165, s233, s234, hs_ne, hcell, hcel1, a1, a2, le_sub1, le_T, le_F, lt_T, lt_F, eq_F, w32_T, bz0, bz1, lc_le, lc_ge, lc_lt, lc_gt, lc_eq]
  refine congrArg (Sp _ _ _ _ _) (funext fun x => funext fun h1 => ?_)
  unfold gvC
  by_cases w : x < 0
  · have w2 : ¬ 0 ≤ x := by omega
    simp (implicitDefEqProofs := false) (disch := omega) only [sp164, b164_0, b164_1, b164_2, b164_3, b164_4, q164_1, q164_2, q164_3, q164_4, x_aload0, y_call165, y_call166, y_call233, y_call234, y_call69, x_gc_35, x_gf_67, x_goto_1, x_goto_4, x_iconst, x_ifCond_eq_1, x_ifCond_ge_3, x_ifCond_ne_2, x_iload1, x_iload2, x_iload3, x_iload4, x_iload5, x_iload6, x_iload7, x_ireturn, x_istore7, x_pf_80, x_pf_89, x_pf_96, klp_0, klp_1, klp_2, klp_3, klp_9, KC_0, KC_1, KC_2, KC_3, KC_4, ne_eq, not_false_eq_true, not_true_eq_false, true_and, and_true, and_self, implies_true, eq_self, true_imp_iff, false_implies, Int.reduceEq, Int.reduceNe, Int.reduceMod, Int.reduceMul, Int.reduceAdd, Int.reduceSub, Int.reduceLT, Int.reduceLE, Nat.reduceAdd, Nat.reduceLeDiff, Nat.reduceLT, Nat.reduceSub, reduceIte, wds_n, wds_0, wds_1, wds_2, wds_3, or_true, true_or, or_false, false_or, or_self, false_and, and_false, d_pos, d_s1, d_s2, d_s3, d_s4, d_s5, d_s6, d_s7, d_s8, Classical.not_not, z64_4, TC_0 hT, TC_k hT, s69 hT, s165, s233, s234, hs_ne, hcell, hcel1, w, w2, le_sub1, le_T, le_F, lt_T, lt_F, eq_F, w32_T, bz0, bz1, lc_le, lc_ge, lc_lt, lc_gt, lc_eq]
  · have w2 : 0 ≤ x := by omega
    simp (implicitDefEqProofs := false) (disch := omega) only [sp164, b164_0, b164_1, b164_2, b164_3, b164_4, q164_1, q164_2, q164_3, q164_4, x_aload0, y_call165, y_call166, y_call233, y_call234, y_call69, x_gc_35, x_gf_67, x_goto_1, x_goto_4, x_iconst, x_ifCond_eq_1, x_ifCond_ge_3, x_ifCond_ne_2, x_iload1, x_iload2, x_iload3, x_iload4, x_iload5, x_iload6, x_iload7, x_ireturn, x_istore7, x_pf_80, x_pf_89, x_pf_96, klp_0, klp_1, klp_2, klp_3, klp_9, KC_0, KC_1, KC_2, KC_3, KC_4, ne_eq, not_false_eq_true, not_true_eq_false, true_and, and_true, and_self, implies_true, eq_self, true_imp_iff, false_implies, Int.reduceEq, Int.reduceNe, Int.reduceMod, Int.reduceMul, Int.reduceAdd, Int.reduceSub, Int.reduceLT, Int.reduceLE, Nat.reduceAdd, Nat.reduceLeDiff, Nat.reduceLT, Nat.reduceSub, reduceIte, wds_n, wds_0, wds_1, wds_2, wds_3, or_true, true_or, or_false, false_or, or_self, false_and, and_false, d_pos, d_s1, d_s2, d_s3, d_s4, d_s5, d_s6, d_s7, d_s8, Classical.not_not, z64_4, TC_0 hT, TC_k hT, s69 hT, s165, s233, s234, hs_ne, hcell, hcel1, w, w2, le_sub1, le_T, le_F, lt_T, lt_F, eq_F, w32_T, bz0, bz1, lc_le, lc_ge, lc_lt, lc_gt, lc_eq]
theorem v380b {d : Nat} {h : HV} {Q : Int → HV → Prop} {a b c e f g : Int} (hS : TR (h 6603 9)) (hc : 0 ≤ h (h 6603 9 + 84) 6 ∧ h (h 6603 9 + 84) 6 ≤ 12) (hn : ¬ (0 ≤ a ∧ a < h (h 6603 9 + 84) 6 ∧ 1 ≤ b ∧ b ≤ 3000)) : Sp fz1 (d + 3) 380 [(3, 6603), (0, a), (0, b), (0, c), (0, e), (0, f), (0, g)] h Q = Q (-1) h := by
  by_cases a1 : 0 ≤ a ∧ a < h (h 6603 9 + 84) 6 <;> by_cases a2 : 1 ≤ b ∧ b ≤ 3000 <;> (try (exfalso; omega)) <;> simp (implicitDefEqProofs := false) (disch := omega) only [sp380, b380_0, b380_1, b380_2, b380_3, q380_1, q380_2, q380_3, x_aload0, y_call369, y_call381, y_call382, x_goto_1, x_goto_3, x_iconst, x_ifCond_eq_1, x_ifCond_ne_2, x_iload1, x_iload2, x_iload3, x_iload4, x_iload5, x_iload6, x_ireturn, klp_0, klp_1, klp_2, klp_3, klp_9, KC_0, KC_1, KC_2, KC_3, KC_4, ne_eq, not_false_eq_true, not_true_eq_false, true_and, and_true, and_self, implies_true, eq_self, true_imp_iff, false_implies, Int.reduceEq, Int.reduceNe, Int.reduceMod, Int.reduceMul, Int.reduceAdd, Int.reduceSub, Int.reduceLT, Int.reduceLE, Nat.reduceAdd, Nat.reduceLeDiff, Nat.reduceLT, Nat.reduceSub, reduceIte, wds_n, wds_0, wds_1, wds_2, wds_3, or_true, true_or, or_false, false_or, or_self, false_and, and_false, d_pos, d_s1, d_s2, d_s3, d_s4, d_s5, d_s6, d_s7, d_s8, Classical.not_not, s381 hS hc, s369, a1, a2, le_sub1, le_T, le_F, lt_T, lt_F, eq_F, w32_T, bz0, bz1, lc_le, lc_ge, lc_lt, lc_gt, lc_eq]
theorem v380a {d : Nat} {h : HV} {Q : Int → HV → Prop} {a b c e f g : Int} (hS : TR (h 6603 9)) (hc : 0 ≤ h (h 6603 9 + 84) 6 ∧ h (h 6603 9 + 84) 6 ≤ 12) (a1 : 0 ≤ a ∧ a < h (h 6603 9 + 84) 6) (a2 : 1 ≤ b ∧ b ≤ 3000) : Sp fz1 (d + 3) 380 [(3, 6603), (0, a), (0, b), (0, c), (0, e), (0, f), (0, g)] h Q = Sp fz1 (d + 2) 382 [(3, 6603), (0, a), (0, b), (0, c), (0, e), (0, f), (0, g)] h Q := by
  simp (implicitDefEqProofs := false) (disch := omega) only [sp380, b380_0, b380_1, b380_2, b380_3, q380_1, q380_2, q380_3, x_aload0, y_call369, y_call381, y_call382, x_goto_1, x_goto_3, x_iconst, x_ifCond_eq_1, x_ifCond_ne_2, x_iload1, x_iload2, x_iload3, x_iload4, x_iload5, x_iload6, x_ireturn, klp_0, klp_1, klp_2, klp_3, klp_9, KC_0, KC_1, KC_2, KC_3, KC_4, ne_eq, not_false_eq_true, not_true_eq_false, true_and, and_true, and_self, implies_true, eq_self, true_imp_iff, false_implies, Int.reduceEq, Int.reduceNe, Int.reduceMod, Int.reduceMul, Int.reduceAdd, Int.reduceSub, Int.reduceLT, Int.reduceLE, Nat.reduceAdd, Nat.reduceLeDiff, Nat.reduceLT, Nat.reduceSub, reduceIte, wds_n, wds_0, wds_1, wds_2, wds_3, or_true, true_or, or_false, false_or, or_self, false_and, and_false, d_pos, d_s1, d_s2, d_s3, d_s4, d_s5, d_s6, d_s7, d_s8, Classical.not_not, s381 hS hc, s369, a1, a2, le_sub1, le_T, le_F, lt_T, lt_F, eq_F, w32_T, bz0, bz1, lc_le, lc_ge, lc_lt, lc_gt, lc_eq]
  refine congrArg (Sp _ _ _ _ _) (funext fun x => funext fun h1 => ?_)
  simp (implicitDefEqProofs := false) (disch := omega) only [sp380, b380_0, b380_1, b380_2, b380_3, q380_1, q380_2, q380_3, x_aload0, y_call369, y_call381, y_call382, x_goto_1, x_goto_3, x_iconst, x_ifCond_eq_1, x_ifCond_ne_2, x_iload1, x_iload2, x_iload3, x_iload4, x_iload5, x_iload6, x_ireturn, klp_0, klp_1, klp_2, klp_3, klp_9, KC_0, KC_1, KC_2, KC_3, KC_4, ne_eq, not_false_eq_true, not_true_eq_false, true_and, and_true, and_self, implies_true, eq_self, true_imp_iff, false_implies, Int.reduceEq, Int.reduceNe, Int.reduceMod, Int.reduceMul, Int.reduceAdd, Int.reduceSub, Int.reduceLT, Int.reduceLE, Nat.reduceAdd, Nat.reduceLeDiff, Nat.reduceLT, Nat.reduceSub, reduceIte, wds_n, wds_0, wds_1, wds_2, wds_3, or_true, true_or, or_false, false_or, or_self, false_and, and_false, d_pos, d_s1, d_s2, d_s3, d_s4, d_s5, d_s6, d_s7, d_s8, Classical.not_not, s381 hS hc, s369, a1, a2, le_sub1, le_T, le_F, lt_T, lt_F, eq_F, w32_T, bz0, bz1, lc_le, lc_ge, lc_lt, lc_gt, lc_eq]
theorem op_run (a b c e f g : Int) (ic : I32 c) (ie : I32 e) (jf : I32 f) (ig : I32 g) : OpR RA 164 380 [(3, 64), (0, a), (0, b), (0, c), (0, e), (0, f), (0, g)] [(3, 6603), (0, a), (0, b), (0, c), (0, e), (0, f), (0, g)] := by
  intro h R
  obtain ⟨⟨X, _, _, _, _, _, _, _, _, _, _, _, _, _, SD, _, _, _, _, _, MI, _, _, _⟩, ⟨K, N⟩, V, y3, y4, y5, y6⟩ := id R
  obtain ⟨hT, hS, xx⟩ := X
  have x6 := xx 6 (by decide) (by decide)
  have m6 : MST 6 = 12 := by decide
  rw [m6] at x6
  by_cases cc : 0 ≤ a ∧ a < h (h 64 8 + 598) 6 ∧ 1 ≤ b ∧ b ≤ 3000
  · have hq : 0 ≤ a ∧ a < K 12 0 := by
      have u := N.2.2.2.1.1
      rw [y3] at u
      omega
    have z := R2_seq (fz := fz1) (d := 1899) (m := 164) (d' := 1899) (m' := 380) (as := [(3, 64), (0, a), (0, b), (0, c), (0, e), (0, f), (0, g)]) (as' := [(3, 6603), (0, a), (0, b), (0, c), (0, e), (0, f), (0, g)]) (h := h) (S := SR) (Q := fun hr x h1 y h2 => x = y ∧ ∃ hc, h1 = gvC x hc ∧ FINR h hr hc h2 x) (P := fun x h1 y h2 => h1 50 = h 50 ∧ x = y ∧ RA h2 ∧ h2 50 = h 50) (fun _ _ _ => rfl) (fun hr S => ?_) (fun x h1 y h2 w => ?_) (fun x h1 y h2 w => ?_)
    · exact z.imp fun x h1 w => Sp_and w
    · have eS : ∀ s, hr (h 6603 9 + s) = h (h 6603 9 + s) ∨ ¬ (0 ≤ s ∧ s < 1310) := fun s => by
        by_cases w : 0 ≤ s ∧ s < 1310
        · exact .inl (S _ (by rcases hS with u | u <;> omega) (by rcases hS with u | u <;> omega))
        · exact .inr w
      have e9 : hr 6603 = h 6603 := S 6603 (by decide) (by decide)
      have e84 : hr (hr 6603 9 + 84) = h (h 6603 9 + 84) := by rw [e9]; exact (eS 84).resolve_right (fun u => u (by decide))
      have gg := run_R2 (d := 1890) (K := K) (h := h) (hr := hr) (q := a) (most := b) (a := c) (b := e) (c := f) (e := g) (env_S N S) (sta_S R S) ⟨by rw [e9]; exact MI.2.1.symm, y5⟩ hq ⟨cc.2.2.1, cc.2.2.2⟩ ic ie jf ig
      refine R2_eq (fun P => s164a (d := 1896) hT ⟨cc.1, cc.2.1⟩ cc.2.2) (fun P => v380a (d := 1896) (by rw [e9]; exact hS) (by rw [e84]; omega) (by rw [e84]; omega) cc.2.2) (R2_post gg (fun x hc y h2 w => ⟨w.1, hc, rfl, w.2.2⟩))
    · obtain ⟨-, hc, e1, F⟩ := w
      intro o o1 o2
      rw [e1]
      unfold gvC
      rw [hs_ne (by omega), hs_ne (by omega), hs_ne (by omega)]
      exact F.1.1.1 o o2 (by omega) (by omega) (by omega) (by omega) (by omega)
    · obtain ⟨exy, hc, e1, ⟨⟨⟨f1, f2, -, -⟩, ⟨f3, f4⟩, f5, f6⟩, f7, f8, f9⟩⟩ := w
      have g1 : ∀ o, o ≠ 64 → h1 o = hc o := fun o w => by rw [e1]; unfold gvC; rw [hs_ne w, hs_ne w, hs_ne w]
      have g2 : ∀ s, s ≠ 10 → s ≠ 11 → s ≠ 12 → h1 64 s = hc 64 s := fun s a b c => by rw [e1]; unfold gvC; rw [hcell c, hcell b, hcell a]
      have g10 : h1 64 10 = if x < 0 then 0 else x := by rw [e1]; unfold gvC; rw [hcell (by decide), hcell (by decide), hcel1]
      have g11 : h1 64 11 = hc 1157 20 := by rw [e1]; unfold gvC; rw [hcell (by decide), hcel1]
      have g12 : h1 64 12 = hc 1157 17 := by rw [e1]; unfold gvC; rw [hcel1]
      clear e1
      have mF : ∀ o, o ≠ 64 → h2 o = mixH hc h2 o := fun o w => by
        unfold mixH
        split
        · rfl
        · rename_i u
          rw [f3 o (by omega) (by omega), g1 o w]
      have q0 : ∀ o, ¬ (6603 ≤ o ∧ o < 13056) → o ≠ 64 → h2 o = hc o := fun o w u => by rw [mF o u, mx_c w]
      unfold DATA at f6
      obtain ⟨w1, w2, w3, w4, w5⟩ := f6
      have ar := f5.ar
      have DY : DYF (mixH hc h2) h2 := by
        have n1 := w1.1.1
        have n2 := w1.1.2.1
        unfold NFA at n1 n2
        have n3 := w4.1
        have n4 := w4.2.1
        unfold NFA at n3 n4
        refine ⟨mF _ (by decide), mF _ (by decide), mF _ (by decide), mF _ (by omega), mF _ (by omega), mF _ (by omega), mF _ (by omega), mF _ (by decide), mF _ (by decide), mF _ (by decide), by rw [← mF 6603 (by decide)]⟩
      have d1 := f_Rw DY w1
      have d2 := f_It DY (by rw [← mF 836 (by decide)]) (by rw [← mF 928 (by decide)]) w2
      have d3 := f_Mk DY (by rw [← mF 836 (by decide)]) (by rw [← mF 1120 (by decide)]) (by rw [← mF 10208 (by decide)]) (by rw [← mF 928 (by decide)]) w3
      have d4 := f_Vl DY w4
      have d5 := f_Rm DY w5
      have e57 : h2 1157 = hc 1157 := q0 1157 (by decide) (by decide)
      have e64 : ∀ s, h2 64 s = h1 64 s := fun s => by rw [f3 64 (by decide) (by decide)]
      have e643 : h2 643 = hc 643 ∧ h2 836 = hc 836 := ⟨q0 643 (by decide) (by decide), q0 836 (by decide) (by decide)⟩
      have z := ra_end (F := h2) R (fun o w => by
        unfold QT at w
        by_cases u : 6603 ≤ o
        · rw [f3 o (by omega) (by omega), g1 o (by omega)]
          exact f1 o (by omega) (by omega) (by omega) (by omega) (by omega) (by omega)
        · rw [q0 o (by omega) (by omega)]
          exact f1 o (by omega) (by omega) (by omega) (by omega) (by omega) (by omega)) (fun s a b c _ => by rw [e64, g2 s a b c, f1 64 (by decide) (by decide) (by decide) (by decide) (by decide) (by decide)]) (fun s a b c d e _ => by
        rw [f4 s a b c d e, g1 6603 (by decide), f1 6603 (by decide) (by decide) (by decide) (by decide) (by decide) (by decide)]) (by rw [e57]; exact f2 3 (by decide)) d1 d2 d3 d4 d5 (by
        have n3 := w4.1
        have n4 := w4.2.1
        unfold NFA at n3 n4
        unfold VOK at *
        rw [q0 1222 (by decide) (by decide), q0 0 (by decide) (by decide), q0 (hc 1222 0) (by omega) (by omega), q0 (hc 1222 1) (by omega) (by omega)]
        exact f5) ?_ ?_ (by rw [e57]; exact f8.1.symm) (by rw [e64, g12, f7.1]) (by rw [e57]; exact f8.2)
      · exact ⟨by rw [g1 50 (by decide)]; exact f1 50 (by decide) (by decide) (by decide) (by decide) (by decide) (by decide), exy, z.1, z.2⟩
      · -- what was given
        unfold RGv
        rw [e64, e64, g10, g11]
        rcases f9 with ⟨u0, u1, u2, u3⟩ | ⟨u0, v⟩
        · rw [if_pos u0]
          exact ⟨fun _ => ⟨u2, fun w => absurd w (by decide)⟩, fun w => absurd w (by decide)⟩
        · rw [if_neg (by omega)]
          have vr := v.r
          refine ⟨fun w => ⟨?_, fun w1 => ?_⟩, fun w => ?_⟩
          · by_cases k0 : x = 0
            · rw [k0]; exact v.i0.mp k0
            by_cases k1 : x = 1
            · rw [k1]; exact v.i1.mp k1
            by_cases k2 : x = 2
            · rw [k2]; exact v.i2.mp k2
            rw [show x = 3 by omega]; exact v.i3.mp (by omega)
          · by_cases k1 : x = 1
            · exact (v.e1 k1).1
            by_cases k2 : x = 2
            · exact (v.e2 k2).1
            exact (v.e3 (by omega)).1
          · have v4 := v.e4 w
            refine ⟨v.i4.mp w, by rw [e643.1]; exact v4.2.1, ?_⟩
            rw [v4.1]
            unfold rb
            rw [e643.1]
      · exact f_Sd (by rw [e64, g2 16 (by decide) (by decide) (by decide), f1 64 (by decide) (by decide) (by decide) (by decide) (by decide) (by decide)]) (by rw [f4 61 (by decide) (by decide) (by decide) (by decide) (by decide), g1 6603 (by decide), f1 6603 (by decide) (by decide) (by decide) (by decide) (by decide) (by decide)]) (by rw [f3 11488 (by decide) (by decide), g1 11488 (by decide)]; exact f1 11488 (by decide) (by decide) (by decide) (by decide) (by decide) (by decide)) (by rw [q0 6432 (by decide) (by decide)]; exact f1 6432 (by decide) (by decide) (by decide) (by decide) (by decide) (by decide)) SD
  · rw [s164b (d := 1896) hT cc]
    refine ⟨rfl, ?_⟩
    rw [v380b (d := 1896) hS (by omega) (by rw [x6.1]; exact cc)]
    exact ⟨rfl, R, rfl⟩
