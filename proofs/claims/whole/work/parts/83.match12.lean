/-! THE PURE SIDE, 64: match: printed by wip/tools/gen83.py -/
theorem sm293 {d : Nat} {h hB : HV} {Q : Int → HV → Prop} (X : RTx h) (P : RPp h) (C : RCh h) (PC : RPc h) (eB : hB = lfH (begH h) (begH h (begH h 64 8 + 598) 5) (begH h 836 4).toNat) (ex : SE h hB → (∀ a, a ≠ 3232 → a ≠ 3296 → a ≠ 3360 → a ≠ 2953 → hB a = h a) → (∀ s, hB 2953 s = if s = 6 then 1 else h 2953 s) → ∀ K, CT hB K (itT hB 25) → Q (plN (itT hB 25) (hB 836 4).toNat) K) : Sp fz1 (d + 6) 293 [(3, 2953)] h Q := by
  have h24 := P.2.1
  have T1 : h 64 8 + 598 ≠ 2953 ∧ h 64 8 + 598 ≠ 3232 ∧ h 64 8 + 598 ≠ 3296 ∧ h 64 8 + 598 ≠ 3360 := by rcases X.1 with w | w <;> omega
  have T2 : h 64 8 + 1110 ≠ 2953 ∧ h 64 8 + 1110 ≠ 3232 ∧ h 64 8 + 1110 ≠ 3296 ∧ h 64 8 + 1110 ≠ 3360 := by rcases X.1 with w | w <;> omega
  have T3 : h 6603 9 + 84 ≠ 2953 ∧ h 6603 9 + 84 ≠ 3232 ∧ h 6603 9 + 84 ≠ 3296 := by rcases X.2.1 with w | w <;> omega
  have T4 : h 6603 9 + 724 ≠ 2953 ∧ h 6603 9 + 724 ≠ 3232 ∧ h 6603 9 + 724 ≠ 3296 := by rcases X.2.1 with w | w <;> omega
  have b64 : begH h 64 = h 64 := begH_ne (by decide) (by decide) (by decide)
  have b836 : begH h 836 = h 836 := begH_ne (by decide) (by decide) (by decide)
  have b6603 : begH h 6603 = h 6603 := begH_ne (by decide) (by decide) (by decide)
  have bT : begH h (h 64 8 + 598) = h (h 64 8 + 598) := begH_ne T1.1 T1.2.1 T1.2.2.1
  have bP : begH h (h 64 8 + 1110) = h (h 64 8 + 1110) := begH_ne T2.1 T2.2.1 T2.2.2.1
  have XB : RTx (begH h) := by
    unfold RTx
    rw [b64, b6603, bT, begH_ne T3.1 T3.2.1 T3.2.2]
    exact X
  have CB : RPc (begH h) := by
    unfold RPc
    rw [b64, b6603, bT, bP, b836, begH_ne T4.1 T4.2.1 T4.2.2, begH_m, if_neg (by decide)]
    exact ⟨PC.1, PC.2.1, fun p p0 p1 => .inl (begH_p (by omega))⟩
  have hB24 : 0 ≤ begH h 836 4 ∧ begH h 836 4 ≤ 24 := by rw [b836]; exact h24
  have X5 := rtx_5 X
  have e : ∀ a, a ≠ 3360 → hB a = begH h a := fun a ha => by rw [eB]; exact lfH_ne ha
  have fr : ∀ a, a ≠ 3232 → a ≠ 3296 → a ≠ 3360 → a ≠ 2953 → hB a = h a := fun a q1 q2 q3 q4 => by rw [e a q3]; exact begH_ne q4 q1 q2
  have S : SE h hB := se_of X (fun a q => fr a q.2.2.2.2.2.1 q.2.2.2.2.2.2.1 q.2.2.2.2.2.2.2.1 q.2.2.2.2.2.2.2.2.1)
  have s2 : ∀ s, hB 2953 s = if s = 6 then 1 else h 2953 s := fun s => by rw [e _ (by decide)]; exact begH_m
  have B := bt_se S (bt_of X P C PC)
  simp (implicitDefEqProofs := false) (disch := omega) only [sp293, b293_0, x_aload0, y_call284, x_goto_1, x_iconst, x_istore1, klp_0, klp_1, klp_2, klp_3, klp_9, KC_0, KC_1, KC_2, KC_3, KC_4, ne_eq, not_false_eq_true, not_true_eq_false, true_and, and_true, and_self, implies_true, eq_self, true_imp_iff, false_implies, Int.reduceEq, Int.reduceNe, Int.reduceMod, Int.reduceMul, Int.reduceAdd, Int.reduceSub, Int.reduceLT, Int.reduceLE, Nat.reduceAdd, Nat.reduceLeDiff, Nat.reduceLT, Nat.reduceSub, reduceIte, wds_n, wds_0, wds_1, wds_2, wds_3, or_true, true_or, or_false, false_or, or_self, false_and, and_false, d_pos, d_s1, d_s2, d_s3, d_s4, d_s5, d_s6, d_s7, d_s8, Classical.not_not, s284 XB hB24 CB rfl, ← eB]
  refine lp293 (h := hB) B (ex S fr s2) 25 0 hB (by decide) ⟨fun a _ => rfl, fun p p0 p1 => ?_, fun c c0 c1 => ?_, fun p p0 p1 => ?_⟩ (fun p p0 p1 => ?_)
  · rw [S.1] at p1
    rw [e _ (by decide)]
    exact begH_p (by omega)
  · rw [S.2.2.2.2.1, S.2.2.2.2.2.2.2.2.2.2.2.2.2.1] at c1
    rw [eB, lfH_v, if_pos ⟨rfl, c0, by rw [b64, bT]; exact c1⟩, ← eB]
    unfold lfT
    rw [S.2.2.2.2.1, S.2.2.2.2.2.2.2.2.2.2.2.2.1, S.1, b64, b836, bP]
    rw [sumI_c (f := fun p => isE (begH h 3232 p) c) (g := fun p => isE (itT hB 0 p) c) _ (fun x x0 x1 => by
      show isE (begH h 3232 x) c = isE (-9) c
      rw [begH_p (by omega)])]
  · rw [e _ (by decide)]
    rw [S.1] at p0
    exact begH_p (by omega)
  · rw [S.1] at p1
    have z : hB 3296 p = 0 := by rw [e _ (by decide)]; exact begH_a (by omega)
    rw [z]
    exact ⟨⟨Int.le_refl _, by rw [S.2.1]; exact (C.1 p p0 p1).2.1.1⟩, fun _ j j0 j1 => by omega⟩
theorem fin_match {h h2 : HV} (X : RTx h) (P : RPp h) (C : RCh h) (PC : RPc h) (fr : ∀ a, MF a → a ≠ 6603 → h2 a = h a) (m : ∀ s, h2 2953 s = if s = 6 then 1 else h 2953 s) (r : ∀ s, h2 6603 s = if s = 86 then 1 else h 6603 s) (e : ∀ p, 0 ≤ p → p < h 836 4 → h2 12576 p = h2 3232 p) (v : ∀ p, 0 ≤ p → p < h 836 4 → h2 3232 p = -9 ∨ 0 ≤ h2 3232 p ∧ h2 3232 p < h (h 64 8 + 598) 5) (b : ∀ p, h 836 4 ≤ p → p < 24 → h2 3232 p = -9) : RCh h2 ∧ RPc h2 := by
  obtain ⟨x1, x2, -⟩ := X
  have T1 : h2 (h 64 8 + 598) = h (h 64 8 + 598) := fr _ (by unfold MF; rcases x1 with w | w <;> omega) (by rcases x1 with w | w <;> omega)
  have T2 : h2 (h 64 8 + 1110) = h (h 64 8 + 1110) := fr _ (by unfold MF; rcases x1 with w | w <;> omega) (by rcases x1 with w | w <;> omega)
  have T3 : h2 (h 6603 9 + 724) = h (h 6603 9 + 724) := fr _ (by unfold MF; rcases x2 with w | w <;> omega) (by rcases x2 with w | w <;> omega)
  have f : ∀ a, MF a ∧ a ≠ 6603 → h2 a = h a := fun a q => fr a q.1 q.2
  have e64 := f 64 (by unfold MF; decide)
  have e836 := f 836 (by unfold MF; decide)
  have e3104 := f 3104 (by unfold MF; decide)
  have e3040 := f 3040 (by unfold MF; decide)
  have e3168 := f 3168 (by unfold MF; decide)
  have e12384 := f 12384 (by unfold MF; decide)
  have e12448 := f 12448 (by unfold MF; decide)
  have e12512 := f 12512 (by unfold MF; decide)
  have e928 := f 928 (by unfold MF; decide)
  constructor
  · unfold RCh
    rw [e64, e836, e3104, e3040, e3168, e12384, e12448, e12512, e928, T1, r 86, if_pos rfl, m 6, if_pos rfl]
    refine ⟨fun p p0 p1 => ?_, fun p p0 p1 => ?_, C.2.2.1, rfl, by decide⟩
    · obtain ⟨c1, c2, c3, c4, c5, c6⟩ := C.1 p p0 p1
      exact ⟨c1, c2, c3, c4, c5, e p p0 p1⟩
    · obtain ⟨c1, c2, c3⟩ := C.2.1 p p0 p1
      exact ⟨c1, c2, b p p0 p1⟩
  · unfold RPc
    rw [e64, e836, T1, T2, m 1, if_neg (by decide), r 9, if_neg (by decide), T3]
    exact ⟨PC.1, PC.2.1, v⟩
theorem it_v {h : HV} (B : BT h) : ∀ (n : Nat) (p : Int), itT h n p = -9 ∨ 0 ≤ itT h n p ∧ itT h n p < h (h 64 8 + 598) 5
  | 0, p => .inl rfl
  | n + 1, p => by
    show trT h (itT h n) p = -9 ∨ 0 ≤ trT h (itT h n) p ∧ trT h (itT h n) p < h (h 64 8 + 598) 5
    unfold trT
    by_cases q : (0 ≤ p ∧ p < h 836 4) ∧ rgT h (itT h n) p = 1
    · rw [if_pos q]
      exact .inr (cwT_b B q.1 (rgT_c q.2).1)
    · rw [if_neg q]
      exact it_v B n p
theorem s282n {d : Nat} {h : HV} {Q : Int → HV → Prop} {i : Int} (hi : ¬ (0 ≤ i ∧ i ≤ 1)) : Sp fz1 d 282 [(3, 64), (0, i)] h Q = Q (-1) h := by
  by_cases a1 : i < 0 <;> (try (exfalso; omega)) <;> simp (implicitDefEqProofs := false) (disch := omega) only [sp282, b282_0, b282_1, b282_2, b282_3, b282_4, q282_1, q282_2, q282_3, q282_4, x_aload0, y_call283, y_call293, x_gc_59, x_goto_1, x_goto_4, x_iconst, x_ifCond_lt_1, x_ifCond_ne_3, x_if_icmp_le_2, x_iload1, x_ireturn, klp_0, klp_1, klp_2, klp_3, klp_9, KC_0, KC_1, KC_2, KC_3, KC_4, ne_eq, not_false_eq_true, not_true_eq_false, true_and, and_true, and_self, implies_true, eq_self, true_imp_iff, false_implies, Int.reduceEq, Int.reduceNe, Int.reduceMod, Int.reduceMul, Int.reduceAdd, Int.reduceSub, Int.reduceLT, Int.reduceLE, Nat.reduceAdd, Nat.reduceLeDiff, Nat.reduceLT, Nat.reduceSub, reduceIte, wds_n, wds_0, wds_1, wds_2, wds_3, or_true, true_or, or_false, false_or, or_self, false_and, and_false, d_pos, d_s1, d_s2, d_s3, d_s4, d_s5, d_s6, d_s7, d_s8, Classical.not_not, z64_7, a1, le_sub1, le_T, le_F, lt_T, lt_F, eq_F, w32_T, bz0, bz1, lc_le, lc_ge, lc_lt, lc_gt, lc_eq] <;> first | rfl | (rw [if_pos (by omega)] <;> rfl) | (rw [if_neg (by omega)] <;> rfl) | (exfalso; omega)
theorem s431n {d : Nat} {h : HV} {Q : Int → HV → Prop} {i : Int} (hi : ¬ (0 ≤ i ∧ i ≤ 1)) : Sp fz1 (d + 1) 431 [(3, 6603), (0, i)] h Q = Q (-1) h := by
  simp (implicitDefEqProofs := false) (disch := omega) only [sp431, b431_0, b431_1, b431_2, b431_3, b431_4, b431_5, b431_6, b431_7, b431_8, b431_9, x_aload0, y_call369, y_call432, y_call435, x_gc_11947, x_gc_11963, x_gf_11464, x_goto_2, x_goto_5, x_goto_6, x_goto_8, x_iadd, x_iaload, x_iastore, x_iconst, x_ifCond_ne_1, x_ifCond_ne_4, x_if_icmp_eq_7, x_if_icmp_ge_3, x_if_icmp_ge_9, x_iinc2, x_iinc3, x_iload1, x_iload2, x_iload3, x_ireturn, x_istore2, x_istore3, x_pf_11956, klp_0, klp_1, klp_2, klp_3, klp_9, KC_0, KC_1, KC_2, KC_3, KC_4, ne_eq, not_false_eq_true, not_true_eq_false, true_and, and_true, and_self, implies_true, eq_self, true_imp_iff, false_implies, Int.reduceEq, Int.reduceNe, Int.reduceMod, Int.reduceMul, Int.reduceAdd, Int.reduceSub, Int.reduceLT, Int.reduceLE, Nat.reduceAdd, Nat.reduceLeDiff, Nat.reduceLT, Nat.reduceSub, reduceIte, wds_n, wds_0, wds_1, wds_2, wds_3, or_true, true_or, or_false, false_or, or_self, false_and, and_false, d_pos, d_s1, d_s2, d_s3, d_s4, d_s5, d_s6, d_s7, d_s8, Classical.not_not, z6603_85, z12576_l, z6603_87, z12640_l, s369, if_neg hi, le_sub1, le_T, le_F, lt_T, lt_F, eq_F, w32_T, bz0, bz1, lc_le, lc_ge, lc_lt, lc_gt, lc_eq] <;> first | rfl | (rw [if_pos (by omega)] <;> rfl) | (rw [if_neg (by omega)] <;> rfl) | (exfalso; omega)

theorem op_match {d : Nat} {h : HV} {i : Int} (X : RTx h) (P : RPp h) (C : RCh h) (PC : RPc h) : Sp fz1 (d + 7) 282 [(3, 64), (0, i)] h (fun x h1 => h1 50 = h 50 ∧ Sp fz1 (d + 7) 431 [(3, 6603), (0, i)] h1 (fun y h2 => x = y ∧ (∀ a, MF a → a ≠ 6603 → h2 a = h a) ∧ (∀ s, s ≠ 6 → h2 2953 s = h 2953 s) ∧ (∀ s, s ≠ 86 → h2 6603 s = h 6603 s) ∧ RCh h2 ∧ RPc h2)) := by
  have h24 := P.2.1
  have X5 := rtx_5 X
  by_cases hi : 0 ≤ i ∧ i ≤ 1
  · by_cases i0 : i = 0
    · subst i0
      simp (implicitDefEqProofs := false) (disch := omega) only [sp282, b282_0, b282_1, b282_2, b282_3, b282_4, q282_1, q282_2, q282_3, q282_4, x_aload0, y_call283, y_call293, x_gc_59, x_goto_1, x_goto_4, x_iconst, x_ifCond_lt_1, x_ifCond_ne_3, x_if_icmp_le_2, x_iload1, x_ireturn, klp_0, klp_1, klp_2, klp_3, klp_9, KC_0, KC_1, KC_2, KC_3, KC_4, ne_eq, not_false_eq_true, not_true_eq_false, true_and, and_true, and_self, implies_true, eq_self, true_imp_iff, false_implies, Int.reduceEq, Int.reduceNe, Int.reduceMod, Int.reduceMul, Int.reduceAdd, Int.reduceSub, Int.reduceLT, Int.reduceLE, Nat.reduceAdd, Nat.reduceLeDiff, Nat.reduceLT, Nat.reduceSub, reduceIte, wds_n, wds_0, wds_1, wds_2, wds_3, or_true, true_or, or_false, false_or, or_self, false_and, and_false, d_pos, d_s1, d_s2, d_s3, d_s4, d_s5, d_s6, d_s7, d_s8, Classical.not_not, z64_7, le_T, le_F, lt_T, lt_F]
      refine s283 X h24 PC (fun p k p0 p1 k0 k1 => by rw [Int.mul_comm p 8]; exact ((C.1 p p0 p1).2.2.1 k k0 k1).2) (fun p i j p0 p1 a b c => by rw [Int.mul_comm p 8]; exact C.2.2.1 p i j p0 p1 a b c) (fun p p0 p1 => (C.1 p p0 p1).2.1) (fun K i2 I E => ?_)
      simp (implicitDefEqProofs := false) (disch := omega) only [sp282, b282_0, b282_1, b282_2, b282_3, b282_4, q282_1, q282_2, q282_3, q282_4, x_aload0, y_call283, y_call293, x_gc_59, x_goto_1, x_goto_4, x_iconst, x_ifCond_lt_1, x_ifCond_ne_3, x_if_icmp_le_2, x_iload1, x_ireturn, klp_0, klp_1, klp_2, klp_3, klp_9, KC_0, KC_1, KC_2, KC_3, KC_4, ne_eq, not_false_eq_true, not_true_eq_false, true_and, and_true, and_self, implies_true, eq_self, true_imp_iff, false_implies, Int.reduceEq, Int.reduceNe, Int.reduceMod, Int.reduceMul, Int.reduceAdd, Int.reduceSub, Int.reduceLT, Int.reduceLE, Nat.reduceAdd, Nat.reduceLeDiff, Nat.reduceLT, Nat.reduceSub, reduceIte, wds_n, wds_0, wds_1, wds_2, wds_3, or_true, true_or, or_false, false_or, or_self, false_and, and_false, d_pos, d_s1, d_s2, d_s3, d_s4, d_s5, d_s6, d_s7, d_s8, Classical.not_not, z64_7, le_T, le_F, lt_T, lt_F]
      have fK : ∀ a, a ≠ 3232 → a ≠ 3296 → a ≠ 3360 → a ≠ 2953 → K a = h a := fun a q1 q2 q3 q4 => by rw [I.1 a q1 q2 q3]; exact begH_ne q4 q1 q2
      have S : SE h K := se_of X (fun a q => fK a q.2.2.2.2.2.1 q.2.2.2.2.2.2.1 q.2.2.2.2.2.2.2.1 q.2.2.2.2.2.2.2.2.1)
      have k836 : K 836 = h 836 := S.1
      have k6 : K 6603 = h 6603 := S.2.2.2.2.2.1
      refine ⟨fK _ (by decide) (by decide) (by decide) (by decide), ?_⟩
      have e01 : (if (0 : Int) ≤ 0 ∧ (0 : Int) ≤ 1 then (1 : Int) else 0) = 1 := rfl
      simp (implicitDefEqProofs := false) (disch := omega) only [sp431, b431_0, y_call369, x_iconst, x_ifCond_ne_1, x_iload1, x_ireturn, klp_0, klp_1, klp_2, klp_3, klp_9, KC_0, KC_1, KC_2, KC_3, KC_4, ne_eq, not_false_eq_true, not_true_eq_false, true_and, and_true, and_self, implies_true, eq_self, true_imp_iff, false_implies, Int.reduceEq, Int.reduceNe, Int.reduceMod, Int.reduceMul, Int.reduceAdd, Int.reduceSub, Int.reduceLT, Int.reduceLE, Nat.reduceAdd, Nat.reduceLeDiff, Nat.reduceLT, Nat.reduceSub, reduceIte, wds_n, wds_0, wds_1, wds_2, wds_3, or_true, true_or, or_false, false_or, or_self, false_and, and_false, d_pos, d_s1, d_s2, d_s3, d_s4, d_s5, d_s6, d_s7, d_s8, Classical.not_not, s369, e01]
      refine fg431 (by rw [k836]; exact h24) (by rw [k6, k836]; exact P.1) (fun K2 f2 v2 y2 y3 => ?_)
      refine G_in ?_
      simp (implicitDefEqProofs := false) (disch := omega) only [b431_3, b431_4, q431_3, q431_4, x_aload0, y_call432, y_call435, x_goto_5, x_ifCond_ne_4, x_iload1, klp_0, klp_1, klp_2, klp_3, klp_9, KC_0, KC_1, KC_2, KC_3, KC_4, ne_eq, not_false_eq_true, not_true_eq_false, true_and, and_true, and_self, implies_true, eq_self, true_imp_iff, false_implies, Int.reduceEq, Int.reduceNe, Int.reduceMod, Int.reduceMul, Int.reduceAdd, Int.reduceSub, Int.reduceLT, Int.reduceLE, Nat.reduceAdd, Nat.reduceLeDiff, Nat.reduceLT, Nat.reduceSub, reduceIte, wds_n, wds_0, wds_1, wds_2, wds_3, or_true, true_or, or_false, false_or, or_self, false_and, and_false, d_pos, d_s1, d_s2, d_s3, d_s4, d_s5, d_s6, d_s7, d_s8, Classical.not_not, le_T, le_F, lt_T, lt_F]
      refine s432 (h := K) (K0 := K2) (rtx_se S X) (rpp_se S P) (rcs_se S (rcs_of C)) (rps_se S ⟨trivial, PC.2.1, trivial⟩) v2 f2 (fun K3 i3 I3 E3 => ?_)
      simp (implicitDefEqProofs := false) (disch := omega) only [b431_3, b431_4, q431_3, q431_4, x_aload0, y_call432, y_call435, x_goto_5, x_ifCond_ne_4, x_iload1, klp_0, klp_1, klp_2, klp_3, klp_9, KC_0, KC_1, KC_2, KC_3, KC_4, ne_eq, not_false_eq_true, not_true_eq_false, true_and, and_true, and_self, implies_true, eq_self, true_imp_iff, false_implies, Int.reduceEq, Int.reduceNe, Int.reduceMod, Int.reduceMul, Int.reduceAdd, Int.reduceSub, Int.reduceLT, Int.reduceLE, Nat.reduceAdd, Nat.reduceLeDiff, Nat.reduceLT, Nat.reduceSub, reduceIte, wds_n, wds_0, wds_1, wds_2, wds_3, or_true, true_or, or_false, false_or, or_self, false_and, and_false, d_pos, d_s1, d_s2, d_s3, d_s4, d_s5, d_s6, d_s7, d_s8, Classical.not_not]
      have k3 : K3 6603 = h 6603 := by rw [I3.1 _ (by decide)]; exact k6
      have c25 : K3 6603 25 = h 836 4 := by rw [k3]; exact P.1
      refine ct431 (by rw [c25]; exact h24) ?_
      -- both halves end alike
      have r1 : rcA K = rcA (begH h) := by funext p; unfold rcA; rw [I.1 _ (by decide) (by decide) (by decide)]
      have r2 : rkA K = rkA (begH h) := by funext p k; unfold rkA; rw [I.1 _ (by decide) (by decide) (by decide)]
      have r3 : cpA K = cpA (begH h) := by
        funext c
        unfold cpA
        have b64 : begH h 64 = h 64 := begH_ne (by decide) (by decide) (by decide)
        rw [I.1 64 (by decide) (by decide) (by decide), b64, I.1 _ (by rcases X.1 with w | w <;> omega) (by rcases X.1 with w | w <;> omega) (by rcases X.1 with w | w <;> omega)]
      have r4 : btA K = btA (begH h) := by funext c p q; unfold btA; rw [I.1 _ (by decide) (by decide) (by decide)]
      have b836 : begH h 836 = h 836 := begH_ne (by decide) (by decide) (by decide)
      obtain ⟨g1, g2, g3, g4, g5⟩ := I3
      obtain ⟨w1, w2, w3, w4, w5, w6, w7⟩ := I
      rw [k836, r1, r2, r3, r4] at g2 g5
      rw [k836, r1] at E3
      rw [b836] at w3 w6
      have a1 := w6 _ _ g2 E3
      have a2 := g5 _ _ w3 E
      have hrk9 : ∀ q k, q < (h 836 4).toNat → k < rcA (begH h) q → rkA (begH h) q k ≠ -9 := fun q k hq hk => by
        rw [← r1] at hk
        rw [← r2]
        unfold rcA at hk
        rw [S.2.1] at hk
        have := ((C.1 q (by omega) (by omega)).2.2.1 k (by omega) (by omega)).2
        unfold rkA
        rw [S.2.2.1, Int.mul_comm]
        omega
      have same := off_same hrk9 (fun c a b => bt_as c a b) w3 g2 a1 a2
      have sP : ∀ p, 0 ≤ p → p < h 836 4 → K 3232 p = K3 12576 p := fun p p0 p1 => by
        have := same p.toNat (by omega)
        unfold abP abR at this
        rw [show ((p.toNat : Nat) : Int) = p by omega] at this
        exact this
      have K3c : K3 3232 = K 3232 := g1 _ (by decide)
      have fin : plN (K 3232) (h 836 4).toNat = plN (K3 12576) (K3 6603 25).toNat := by
        rw [c25]
        unfold plN
        exact sumI_c _ (fun x x0 x1 => by
          show 1 - isE (K 3232 x) (-9) = 1 - isE (K3 12576 x) (-9)
          rw [sP x x0 (by omega)])
      have fr3 : ∀ a, MF a → a ≠ 6603 → hset K3 6603 86 1 a = h a := fun a q q6 => by
        rw [hs_ne q6, g1 a ⟨q.1, q.2.1⟩]
        exact fK a q.2.2.2.2.2.1 q.2.2.2.2.2.2.1 q.2.2.2.2.2.2.2.1 q.2.2.2.2.2.2.2.2.1
      have m3 : ∀ s, hset K3 6603 86 1 2953 s = if s = 6 then 1 else h 2953 s := fun s => by
        rw [hs_ne (by decide), g1 2953 (by decide), w1 2953 (by decide) (by decide) (by decide)]
        exact begH_m
      have r3' : ∀ s, hset K3 6603 86 1 6603 s = if s = 86 then 1 else h 6603 s := fun s => by
        rw [hset_v, k3]
        by_cases q : s = 86
        · rw [if_pos ⟨rfl, q⟩, if_pos q]
        · rw [if_neg (fun w => q w.2), if_neg q]
      have F := fin_match X P C PC fr3 m3 r3' (fun p p0 p1 => by
          rw [hs_ne (by decide), hs_ne (by decide), K3c]
          exact (sP p p0 p1).symm) (fun p p0 p1 => by
          rw [hs_ne (by decide), K3c]
          by_cases q : K 3232 p = -9
          · exact .inl q
          · right
            have o1 := w3.1 p.toNat (by omega) (by unfold abP; rw [show ((p.toNat : Nat) : Int) = p by omega]; exact q)
            have o2 := w3.2.1 p.toNat (by omega)
            rw [← r1] at o2
            rw [← r2] at o1
            unfold rcA at o2
            rw [S.2.1, show ((p.toNat : Nat) : Int) = p by omega] at o2
            have o3 := o1.2
            unfold abP rkA at o3
            rw [S.2.2.1, show ((p.toNat : Nat) : Int) = p by omega, Int.mul_comm p 8] at o3
            rw [o3]
            have := (C.1 p p0 p1).2.1
            exact ((C.1 p p0 p1).2.2.1 _ (by omega) (by omega)).2) (fun p p0 p1 => by
          rw [hs_ne (by decide), K3c, w7 p (by rw [b836]; exact p0)]
          exact begH_p (by omega))
      refine ⟨fin, fr3, fun s hs => by rw [m3, if_neg hs], fun s hs => by rw [r3', if_neg hs], F.1, F.2⟩
    · have i1 : i = 1 := by omega
      subst i1
      simp (implicitDefEqProofs := false) (disch := omega) only [sp282, b282_0, b282_1, b282_2, b282_3, b282_4, q282_1, q282_2, q282_3, q282_4, x_aload0, y_call283, y_call293, x_gc_59, x_goto_1, x_goto_4, x_iconst, x_ifCond_lt_1, x_ifCond_ne_3, x_if_icmp_le_2, x_iload1, x_ireturn, klp_0, klp_1, klp_2, klp_3, klp_9, KC_0, KC_1, KC_2, KC_3, KC_4, ne_eq, not_false_eq_true, not_true_eq_false, true_and, and_true, and_self, implies_true, eq_self, true_imp_iff, false_implies, Int.reduceEq, Int.reduceNe, Int.reduceMod, Int.reduceMul, Int.reduceAdd, Int.reduceSub, Int.reduceLT, Int.reduceLE, Nat.reduceAdd, Nat.reduceLeDiff, Nat.reduceLT, Nat.reduceSub, reduceIte, wds_n, wds_0, wds_1, wds_2, wds_3, or_true, true_or, or_false, false_or, or_self, false_and, and_false, d_pos, d_s1, d_s2, d_s3, d_s4, d_s5, d_s6, d_s7, d_s8, Classical.not_not, z64_7, le_T, le_F, lt_T, lt_F]
      refine sm293 X P C PC rfl (fun SB fB mB K CK => ?_)
      simp (implicitDefEqProofs := false) (disch := omega) only [sp282, b282_0, b282_1, b282_2, b282_3, b282_4, q282_1, q282_2, q282_3, q282_4, x_aload0, y_call283, y_call293, x_gc_59, x_goto_1, x_goto_4, x_iconst, x_ifCond_lt_1, x_ifCond_ne_3, x_if_icmp_le_2, x_iload1, x_ireturn, klp_0, klp_1, klp_2, klp_3, klp_9, KC_0, KC_1, KC_2, KC_3, KC_4, ne_eq, not_false_eq_true, not_true_eq_false, true_and, and_true, and_self, implies_true, eq_self, true_imp_iff, false_implies, Int.reduceEq, Int.reduceNe, Int.reduceMod, Int.reduceMul, Int.reduceAdd, Int.reduceSub, Int.reduceLT, Int.reduceLE, Nat.reduceAdd, Nat.reduceLeDiff, Nat.reduceLT, Nat.reduceSub, reduceIte, wds_n, wds_0, wds_1, wds_2, wds_3, or_true, true_or, or_false, false_or, or_self, false_and, and_false, d_pos, d_s1, d_s2, d_s3, d_s4, d_s5, d_s6, d_s7, d_s8, Classical.not_not, z64_7, le_T, le_F, lt_T, lt_F]
      generalize lfH (begH h) (begH h (begH h 64 8 + 598) 5) (begH h 836 4).toNat = hB at *
      have it := se_it SB 25
      rw [it] at CK
      rw [it]
      have nB : hB 836 4 = h 836 4 := by rw [SB.1]
      rw [nB]
      have fK : ∀ a, a ≠ 3232 → a ≠ 3296 → a ≠ 3360 → a ≠ 2953 → a ≠ 3428 → K a = h a := fun a q1 q2 q3 q4 q5 => by rw [CK.1 a ⟨q1, q2, q3, q5⟩]; exact fB a q1 q2 q3 q4
      have S : SE h K := se_of X (fun a q => fK a q.2.2.2.2.2.1 q.2.2.2.2.2.2.1 q.2.2.2.2.2.2.2.1 q.2.2.2.2.2.2.2.2.1 q.2.2.2.2.2.2.2.2.2)
      have k836 : K 836 = h 836 := S.1
      have k6 : K 6603 = h 6603 := S.2.2.2.2.2.1
      refine ⟨fK _ (by decide) (by decide) (by decide) (by decide) (by decide), ?_⟩
      have e01 : (if (0 : Int) ≤ 1 ∧ (1 : Int) ≤ 1 then (1 : Int) else 0) = 1 := rfl
      simp (implicitDefEqProofs := false) (disch := omega) only [sp431, b431_0, y_call369, x_iconst, x_ifCond_ne_1, x_iload1, x_ireturn, klp_0, klp_1, klp_2, klp_3, klp_9, KC_0, KC_1, KC_2, KC_3, KC_4, ne_eq, not_false_eq_true, not_true_eq_false, true_and, and_true, and_self, implies_true, eq_self, true_imp_iff, false_implies, Int.reduceEq, Int.reduceNe, Int.reduceMod, Int.reduceMul, Int.reduceAdd, Int.reduceSub, Int.reduceLT, Int.reduceLE, Nat.reduceAdd, Nat.reduceLeDiff, Nat.reduceLT, Nat.reduceSub, reduceIte, wds_n, wds_0, wds_1, wds_2, wds_3, or_true, true_or, or_false, false_or, or_self, false_and, and_false, d_pos, d_s1, d_s2, d_s3, d_s4, d_s5, d_s6, d_s7, d_s8, Classical.not_not, s369, e01]
      refine fg431 (by rw [k836]; exact h24) (by rw [k6, k836]; exact P.1) (fun K2 f2 v2 y2 y3 => ?_)
      refine G_in ?_
      simp (implicitDefEqProofs := false) (disch := omega) only [b431_3, b431_4, q431_3, q431_4, x_aload0, y_call432, y_call435, x_goto_5, x_ifCond_ne_4, x_iload1, klp_0, klp_1, klp_2, klp_3, klp_9, KC_0, KC_1, KC_2, KC_3, KC_4, ne_eq, not_false_eq_true, not_true_eq_false, true_and, and_true, and_self, implies_true, eq_self, true_imp_iff, false_implies, Int.reduceEq, Int.reduceNe, Int.reduceMod, Int.reduceMul, Int.reduceAdd, Int.reduceSub, Int.reduceLT, Int.reduceLE, Nat.reduceAdd, Nat.reduceLeDiff, Nat.reduceLT, Nat.reduceSub, reduceIte, wds_n, wds_0, wds_1, wds_2, wds_3, or_true, true_or, or_false, false_or, or_self, false_and, and_false, d_pos, d_s1, d_s2, d_s3, d_s4, d_s5, d_s6, d_s7, d_s8, Classical.not_not, le_T, le_F, lt_T, lt_F]
      refine s435 (h := K) (K := K2) (bt_se S (bt_of X P C PC)) (br_se S (br_of X P C PC)) (fun p p0 p1 w => ?_) ⟨fun a q => f2 a ⟨q.1, q.2.1⟩, fun p p0 p1 => (v2 p p0 p1).1⟩ (fun K3 C3 => ?_)
      · rw [k836] at p1
        rw [S.2.2.2.2.2.2.2.2.2.1, (P.2.2 p p0 p1).1] at w
        rw [S.2.1]
        exact ((C.1 p p0 p1).2.2.2.2.1 w).1
      simp (implicitDefEqProofs := false) (disch := omega) only [b431_3, b431_4, q431_3, q431_4, x_aload0, y_call432, y_call435, x_goto_5, x_ifCond_ne_4, x_iload1, klp_0, klp_1, klp_2, klp_3, klp_9, KC_0, KC_1, KC_2, KC_3, KC_4, ne_eq, not_false_eq_true, not_true_eq_false, true_and, and_true, and_self, implies_true, eq_self, true_imp_iff, false_implies, Int.reduceEq, Int.reduceNe, Int.reduceMod, Int.reduceMul, Int.reduceAdd, Int.reduceSub, Int.reduceLT, Int.reduceLE, Nat.reduceAdd, Nat.reduceLeDiff, Nat.reduceLT, Nat.reduceSub, reduceIte, wds_n, wds_0, wds_1, wds_2, wds_3, or_true, true_or, or_false, false_or, or_self, false_and, and_false, d_pos, d_s1, d_s2, d_s3, d_s4, d_s5, d_s6, d_s7, d_s8, Classical.not_not]
      have k3 : K3 6603 = h 6603 := by rw [C3.1 _ (by decide)]; exact k6
      have c25 : K3 6603 25 = h 836 4 := by rw [k3]; exact P.1
      refine ct431 (by rw [c25]; exact h24) ?_
      rw [se_it S] at C3
      have sP : ∀ p, 0 ≤ p → p < h 836 4 → K3 12576 p = itT h 25 p := fun p p0 p1 => C3.2 p p0 (by rw [k836]; exact p1)
      have K3c : K3 3232 = K 3232 := C3.1 _ (by decide)
      have cP : ∀ p, 0 ≤ p → p < h 836 4 → K 3232 p = itT h 25 p := fun p p0 p1 => CK.2.1 p p0 (by rw [nB]; exact p1)
      have fin : plN (itT h 25) (h 836 4).toNat = plN (K3 12576) (K3 6603 25).toNat := by
        rw [c25]
        unfold plN
        exact sumI_c _ (fun x x0 x1 => by
          show 1 - isE (itT h 25 x) (-9) = 1 - isE (K3 12576 x) (-9)
          rw [sP x x0 (by omega)])
      have fr3 : ∀ a, MF a → a ≠ 6603 → hset K3 6603 86 1 a = h a := fun a q q6 => by
        rw [hs_ne q6, C3.1 a ⟨q.1, q.2.1, q.2.2.1, q.2.2.2.1, q.2.2.2.2.1⟩]
        exact fK a q.2.2.2.2.2.1 q.2.2.2.2.2.2.1 q.2.2.2.2.2.2.2.1 q.2.2.2.2.2.2.2.2.1 q.2.2.2.2.2.2.2.2.2
      have m3 : ∀ s, hset K3 6603 86 1 2953 s = if s = 6 then 1 else h 2953 s := fun s => by
        rw [hs_ne (by decide), C3.1 2953 (by decide), CK.1 2953 (by decide)]
        exact mB s
      have r3' : ∀ s, hset K3 6603 86 1 6603 s = if s = 86 then 1 else h 6603 s := fun s => by
        rw [hset_v, k3]
        by_cases q : s = 86
        · rw [if_pos ⟨rfl, q⟩, if_pos q]
        · rw [if_neg (fun w => q w.2), if_neg q]
      have F := fin_match X P C PC fr3 m3 r3' (fun p p0 p1 => by
          rw [hs_ne (by decide), hs_ne (by decide), K3c, sP p p0 p1, cP p p0 p1]) (fun p p0 p1 => by
          rw [hs_ne (by decide), K3c, cP p p0 p1]
          exact it_v (bt_of X P C PC) 25 p) (fun p p0 p1 => by
          rw [hs_ne (by decide), K3c]
          exact CK.2.2.2 p (by rw [nB]; exact p0) p1)
      refine ⟨fin, fr3, fun s hs => by rw [m3, if_neg hs], fun s hs => by rw [r3', if_neg hs], F.1, F.2⟩
  · rw [s282n hi]
    refine ⟨rfl, ?_⟩
    rw [s431n hi]
    exact ⟨rfl, fun _ _ _ => rfl, fun _ _ => rfl, fun _ _ => rfl, C, PC⟩
