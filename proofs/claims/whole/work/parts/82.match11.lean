/-! THE PURE SIDE, 63: match, both halves: printed by wip/tools/gen82.py -/
/-- what match leaves as it is -/
def SE (h H : HV) : Prop := H 836 = h 836 ∧ H 3104 = h 3104 ∧ H 3040 = h 3040 ∧ H 3168 = h 3168 ∧ H 64 = h 64 ∧ H 6603 = h 6603 ∧ H 12384 = h 12384 ∧ H 12448 = h 12448 ∧ H 12512 = h 12512 ∧ H 10016 = h 10016 ∧ H 928 = h 928 ∧ (H 10080 = h 10080 ∧ H 992 = h 992 ∧ H 10144 = h 10144 ∧ H 1056 = h 1056) ∧ H (h 64 8 + 1110) = h (h 64 8 + 1110) ∧ H (h 64 8 + 598) = h (h 64 8 + 598) ∧ H (h 6603 9 + 84) = h (h 6603 9 + 84) ∧ H (h 6603 9 + 724) = h (h 6603 9 + 724)
def MF (a : Int) : Prop := a ≠ 12576 ∧ a ≠ 12640 ∧ a ≠ 12708 ∧ a ≠ 12772 ∧ a ≠ 12832 ∧ a ≠ 3232 ∧ a ≠ 3296 ∧ a ≠ 3360 ∧ a ≠ 2953 ∧ a ≠ 3428
theorem se_of {h H : HV} (X : RTx h) (e : ∀ a, MF a → H a = h a) : SE h H := by
  obtain ⟨x1, x2, -⟩ := X
  refine ⟨e _ ?_, e _ ?_, e _ ?_, e _ ?_, e _ ?_, e _ ?_, e _ ?_, e _ ?_, e _ ?_, e _ ?_, e _ ?_, ⟨e _ ?_, e _ ?_, e _ ?_, e _ ?_⟩, e _ ?_, e _ ?_, e _ ?_, e _ ?_⟩
  all_goals unfold MF
  all_goals first | decide | (rcases x1 with w | w <;> rcases x2 with w2 | w2 <;> omega)
theorem se_lf {h H : HV} (S : SE h H) (pl : Int → Int) (c : Int) : lfT H pl c = lfT h pl c := by
  unfold lfT
  rw [S.2.2.2.2.1, S.2.2.2.2.2.2.2.2.2.2.2.2.1, S.1]
theorem se_k {h H : HV} (S : SE h H) (pl : Int → Int) (p : Int) : ∀ (n : Nat) (k : Int), kT H pl p n k = kT h pl p n k
  | 0, _ => rfl
  | n + 1, k => by rw [kT, kT, S.2.1, S.2.2.1, se_lf S, se_k S pl p n]
theorem se_w {h H : HV} (S : SE h H) (pl : Int → Int) (p : Int) : wT H pl p = wT h pl p := by
  unfold wT
  rw [se_k S, S.2.1]
theorem se_cw {h H : HV} (S : SE h H) (pl : Int → Int) (p : Int) : cwT H pl p = cwT h pl p := by
  unfold cwT
  rw [se_k S, S.2.2.1]
theorem se_fs {h H : HV} (S : SE h H) (pl : Int → Int) (c : Int) : ∀ n : Nat, fsT H pl c n = fsT h pl c n
  | 0 => rfl
  | n + 1 => by rw [fsT, fsT, se_fs S pl c n, se_w S, S.2.2.2.1]
theorem se_g {h H : HV} (S : SE h H) (pl : Int → Int) (p : Int) : gT H pl p = gT h pl p := by
  unfold gT
  rw [se_cw S, S.1, se_fs S]
theorem se_cb {h H : HV} (S : SE h H) (pl : Int → Int) (p : Int) : ∀ (n : Nat) (a : Int), cbT H pl p n a = cbT h pl p n a
  | 0, _ => rfl
  | n + 1, a => by rw [cbT, cbT, se_g S, se_cb S pl p n]
theorem se_it {h H : HV} (S : SE h H) : ∀ n : Nat, itT H n = itT h n
  | 0 => rfl
  | n + 1 => by
    show trT H (itT H n) = trT h (itT h n)
    rw [se_it S n]
    funext p
    unfold trT rgT
    rw [se_w S, se_cb S, se_cw S, S.1]
theorem bt_of {h : HV} (X : RTx h) (P : RPp h) (C : RCh h) (PC : RPc h) : BT h := by
  have X5 := rtx_5 X
  refine ⟨P.2.1, fun p p0 p1 => (C.1 p p0 p1).2.1, fun p k p0 p1 k0 k1 => ?_, X5.2, fun c c0 c1 => ⟨(PC.2.1 c c0 c1).1, (PC.2.1 c c0 c1).2.1⟩⟩
  rw [Int.mul_comm p 8]
  exact ((C.1 p p0 p1).2.2.1 k k0 k1).2
theorem br_of {h : HV} (X : RTx h) (P : RPp h) (C : RCh h) (PC : RPc h) : BR h := by
  have X5 := rtx_5 X
  refine ⟨X.2.1, P.1, X5.1, fun p p0 p1 => ⟨(C.1 p p0 p1).1, fun k k0 k1 => ?_, fun c c0 c1 => ?_⟩, fun c c0 c1 => (PC.2.1 c c0 c1).2.2⟩
  · rw [((C.1 p p0 p1).2.2.1 k k0 k1).1, Int.mul_comm p 8]
  · rw [(C.1 p p0 p1).2.2.2.1 c c0 c1, Int.mul_comm p 8]
theorem bt_se {h H : HV} (S : SE h H) (B : BT h) : BT H := by
  obtain ⟨s1, s2, s3, s4, s5, s6, s7, s8, s9, s10, s11, s12, s13, s14, s15, s16⟩ := S
  unfold BT
  rw [s5, s1, s2, s3, s13, s14]
  exact B
theorem br_se {h H : HV} (S : SE h H) (B : BR h) : BR H := by
  obtain ⟨s1, s2, s3, s4, s5, s6, s7, s8, s9, s10, s11, s12, s13, s14, s15, s16⟩ := S
  unfold BR
  rw [s6, s5, s1, s2, s3, s4, s7, s8, s9, s13, s14, s15, s16]
  exact B
theorem rcs_of {h : HV} (C : RCh h) : RCs h := ⟨fun p p0 p1 => by
  obtain ⟨c1, c2, c3, c4, c5, c6⟩ := C.1 p p0 p1
  exact ⟨c1, c2, c3, c4, fun w => (c5 w).1, trivial⟩, trivial, C.2.2.1, trivial⟩
theorem rcs_se {h H : HV} (S : SE h H) (B : RCs h) : RCs H := by
  obtain ⟨s1, s2, s3, s4, s5, s6, s7, s8, s9, s10, s11, s12, s13, s14, s15, s16⟩ := S
  unfold RCs
  rw [s5, s1, s2, s3, s4, s7, s8, s9, s11, s14]
  exact B
theorem rps_se {h H : HV} (S : SE h H) (B : RPs h) : RPs H := by
  obtain ⟨s1, s2, s3, s4, s5, s6, s7, s8, s9, s10, s11, s12, s13, s14, s15, s16⟩ := S
  unfold RPs
  rw [s6, s5, s13, s14, s16]
  exact B
theorem rpp_se {h H : HV} (S : SE h H) (B : RPp h) : RPp H := by
  obtain ⟨s1, s2, s3, s4, s5, s6, s7, s8, s9, s10, s11, s12, s13, s14, s15, s16⟩ := S
  unfold RPp
  rw [s6, s1, s10, s11, s12.1, s12.2.1, s12.2.2.1, s12.2.2.2]
  exact B
theorem rtx_se {h H : HV} (S : SE h H) (B : RTx h) : RTx H := by
  obtain ⟨s1, s2, s3, s4, s5, s6, s7, s8, s9, s10, s11, s12, s13, s14, s15, s16⟩ := S
  unfold RTx
  rw [s6, s5, s14, s15]
  exact B
theorem fg431 {d : Nat} {h : HV} {Q : Int → HV → Prop} {i : Int} {y2 y3 : AV} (h24 : 0 ≤ h 836 4 ∧ h 836 4 ≤ 24) (r25 : h 6603 25 = h 836 4) (nx : ∀ K : HV, (∀ a, a ≠ 12576 ∧ a ≠ 12640 → K a = h a) → (∀ p, 0 ≤ p → p < h 836 4 → K 12576 p = -9 ∧ K 12640 p = 0) → ∀ y2 y3, G fz1 d 431 3 [(3, 6603), (0, i), y2, y3] [] K Q) : G fz1 d 431 1 [(3, 6603), (0, i), y2, y3] [] h Q := by
  refine G_in ?_
  simp (implicitDefEqProofs := false) (disch := omega) only [b431_1, q431_1, x_goto_2, x_iconst, x_istore2, klp_0, klp_1, klp_2, klp_3, klp_9, KC_0, KC_1, KC_2, KC_3, KC_4, ne_eq, not_false_eq_true, not_true_eq_false, true_and, and_true, and_self, implies_true, eq_self, true_imp_iff, false_implies, Int.reduceEq, Int.reduceNe, Int.reduceMod, Int.reduceMul, Int.reduceAdd, Int.reduceSub, Int.reduceLT, Int.reduceLE, Nat.reduceAdd, Nat.reduceLeDiff, Nat.reduceLT, Nat.reduceSub, reduceIte, wds_n, wds_0, wds_1, wds_2, wds_3, or_true, true_or, or_false, false_or, or_self, false_and, and_false, d_pos, d_s1, d_s2, d_s3, d_s4, d_s5, d_s6, d_s7, d_s8, Classical.not_not]
  refine forG (N := (h 836 4).toNat) (I := fun j ls h' => ls = [(3, 6603), (0, i), (0, (j : Int)), y3] ∧ (∀ a, a ≠ 12576 ∧ a ≠ 12640 → h' a = h a) ∧ (∀ p, 0 ≤ p → p < (j : Int) → h' 12576 p = -9 ∧ h' 12640 p = 0)) ?_ ?_ (j := 0) (Nat.zero_le _) ⟨rfl, fun _ _ => rfl, fun p a b => by omega⟩
  · rintro j ls h' hj ⟨rfl, fr, vl⟩ n2
    have k6 : h' 6603 = h 6603 := fr _ (by decide)
    refine G_in ?_
    simp (implicitDefEqProofs := false) (disch := omega) only [b431_2, x_aload0, x_gc_11947, x_gc_11963, x_gf_11464, x_goto_2, x_iastore, x_iconst, x_if_icmp_ge_3, x_iinc2, x_iload2, klp_0, klp_1, klp_2, klp_3, klp_9, KC_0, KC_1, KC_2, KC_3, KC_4, ne_eq, not_false_eq_true, not_true_eq_false, true_and, and_true, and_self, implies_true, eq_self, true_imp_iff, false_implies, Int.reduceEq, Int.reduceNe, Int.reduceMod, Int.reduceMul, Int.reduceAdd, Int.reduceSub, Int.reduceLT, Int.reduceLE, Nat.reduceAdd, Nat.reduceLeDiff, Nat.reduceLT, Nat.reduceSub, reduceIte, wds_n, wds_0, wds_1, wds_2, wds_3, or_true, true_or, or_false, false_or, or_self, false_and, and_false, d_pos, d_s1, d_s2, d_s3, d_s4, d_s5, d_s6, d_s7, d_s8, Classical.not_not, k6, r25, z6603_85, z12576_l, z6603_87, z12640_l, le_T, le_F, lt_T, lt_F, w32_T]
    refine n2 _ _ ⟨rfl, fun a q => by rw [hs_ne q.2, hs_ne q.1, fr a q], fun p p0 p1 => ?_⟩
    rw [hs_ne (by decide), hset_v, hset_v, hs_ne (by decide)]
    by_cases q : p = j
    · rw [if_pos ⟨rfl, q⟩, if_pos ⟨rfl, q⟩]
      exact ⟨rfl, rfl⟩
    · rw [if_neg (fun w => q w.2), if_neg (fun w => q w.2)]
      exact vl p p0 (by omega)
  · rintro ls h' ⟨rfl, fr, vl⟩
    have k6 : h' 6603 = h 6603 := fr _ (by decide)
    refine G_in ?_
    simp (implicitDefEqProofs := false) (disch := omega) only [b431_2, x_aload0, x_gc_11947, x_gc_11963, x_gf_11464, x_goto_2, x_iastore, x_iconst, x_if_icmp_ge_3, x_iinc2, x_iload2, klp_0, klp_1, klp_2, klp_3, klp_9, KC_0, KC_1, KC_2, KC_3, KC_4, ne_eq, not_false_eq_true, not_true_eq_false, true_and, and_true, and_self, implies_true, eq_self, true_imp_iff, false_implies, Int.reduceEq, Int.reduceNe, Int.reduceMod, Int.reduceMul, Int.reduceAdd, Int.reduceSub, Int.reduceLT, Int.reduceLE, Nat.reduceAdd, Nat.reduceLeDiff, Nat.reduceLT, Nat.reduceSub, reduceIte, wds_n, wds_0, wds_1, wds_2, wds_3, or_true, true_or, or_false, false_or, or_self, false_and, and_false, d_pos, d_s1, d_s2, d_s3, d_s4, d_s5, d_s6, d_s7, d_s8, Classical.not_not, k6, r25, le_T, le_F, lt_T, lt_F, w32_T]
    exact nx h' fr (fun p p0 p1 => vl p p0 (by omega)) _ _
theorem ct431 {d : Nat} {h : HV} {Q : Int → HV → Prop} {i : Int} {y2 y3 : AV} (h24 : 0 ≤ h 6603 25 ∧ h 6603 25 ≤ 24) (nx : Q (plN (h 12576) (h 6603 25).toNat) (hset h 6603 86 1)) : G fz1 d 431 5 [(3, 6603), (0, i), y2, y3] [] h Q := by
  refine G_in ?_
  simp (implicitDefEqProofs := false) (disch := omega) only [b431_5, q431_5, x_aload0, x_goto_6, x_iconst, x_istore2, x_istore3, x_pf_11956, klp_0, klp_1, klp_2, klp_3, klp_9, KC_0, KC_1, KC_2, KC_3, KC_4, ne_eq, not_false_eq_true, not_true_eq_false, true_and, and_true, and_self, implies_true, eq_self, true_imp_iff, false_implies, Int.reduceEq, Int.reduceNe, Int.reduceMod, Int.reduceMul, Int.reduceAdd, Int.reduceSub, Int.reduceLT, Int.reduceLE, Nat.reduceAdd, Nat.reduceLeDiff, Nat.reduceLT, Nat.reduceSub, reduceIte, wds_n, wds_0, wds_1, wds_2, wds_3, or_true, true_or, or_false, false_or, or_self, false_and, and_false, d_pos, d_s1, d_s2, d_s3, d_s4, d_s5, d_s6, d_s7, d_s8, Classical.not_not]
  unfold plN at nx
  have k25 : hset h 6603 86 1 6603 25 = h 6603 25 := by rw [hset_v, if_neg (by omega)]
  have kp : hset h 6603 86 1 12576 = h 12576 := hs_ne (by decide)
  refine forG (N := (h 6603 25).toNat) (I := fun j ls h' => ls = [(3, 6603), (0, i), (0, sumI (fun p => 1 - isE (h 12576 p) (-9)) j), (0, (j : Int))] ∧ h' = hset h 6603 86 1) ?_ ?_ (j := 0) (Nat.zero_le _) ⟨rfl, rfl⟩
  · rintro j ls h' hj ⟨rfl, rfl⟩ n2
    have sb := sumI_b (f := fun p => 1 - isE (h 12576 p) (-9)) (fun i => by have := isE_b (h 12576 i) (-9); omega) j
    have e : sumI (fun p => 1 - isE (h 12576 p) (-9)) (j + 1) = sumI (fun p => 1 - isE (h 12576 p) (-9)) j + (1 - isE (h 12576 j) (-9)) := rfl
    rw [e] at n2
    generalize sumI (fun p => 1 - isE (h 12576 p) (-9)) j = s at *
    refine G_in ?_
    by_cases hp : h 12576 j = -9
    · rw [show isE (h 12576 j) (-9) = 1 by rw [isE, if_pos hp]] at n2
      simp (implicitDefEqProofs := false) (disch := omega) only [b431_6, b431_7, b431_8, q431_7, q431_8, x_aload0, x_gc_11947, x_gf_11464, x_goto_6, x_goto_8, x_iadd, x_iaload, x_iconst, x_if_icmp_eq_7, x_if_icmp_ge_9, x_iinc3, x_iload2, x_iload3, x_istore2, klp_0, klp_1, klp_2, klp_3, klp_9, KC_0, KC_1, KC_2, KC_3, KC_4, ne_eq, not_false_eq_true, not_true_eq_false, true_and, and_true, and_self, implies_true, eq_self, true_imp_iff, false_implies, Int.reduceEq, Int.reduceNe, Int.reduceMod, Int.reduceMul, Int.reduceAdd, Int.reduceSub, Int.reduceLT, Int.reduceLE, Nat.reduceAdd, Nat.reduceLeDiff, Nat.reduceLT, Nat.reduceSub, reduceIte, wds_n, wds_0, wds_1, wds_2, wds_3, or_true, true_or, or_false, false_or, or_self, false_and, and_false, d_pos, d_s1, d_s2, d_s3, d_s4, d_s5, d_s6, d_s7, d_s8, Classical.not_not, k25, kp, z6603_85, z12576_l, eq_true hp, le_T, le_F, lt_T, lt_F, w32_T]
      exact n2 _ _ ⟨by rw [show s + (1 - 1) = s + 0 by omega]; rfl, rfl⟩
    · rw [show isE (h 12576 j) (-9) = 0 by rw [isE, if_neg hp]] at n2
      simp (implicitDefEqProofs := false) (disch := omega) only [b431_6, b431_7, b431_8, q431_7, q431_8, x_aload0, x_gc_11947, x_gf_11464, x_goto_6, x_goto_8, x_iadd, x_iaload, x_iconst, x_if_icmp_eq_7, x_if_icmp_ge_9, x_iinc3, x_iload2, x_iload3, x_istore2, klp_0, klp_1, klp_2, klp_3, klp_9, KC_0, KC_1, KC_2, KC_3, KC_4, ne_eq, not_false_eq_true, not_true_eq_false, true_and, and_true, and_self, implies_true, eq_self, true_imp_iff, false_implies, Int.reduceEq, Int.reduceNe, Int.reduceMod, Int.reduceMul, Int.reduceAdd, Int.reduceSub, Int.reduceLT, Int.reduceLE, Nat.reduceAdd, Nat.reduceLeDiff, Nat.reduceLT, Nat.reduceSub, reduceIte, wds_n, wds_0, wds_1, wds_2, wds_3, or_true, true_or, or_false, false_or, or_self, false_and, and_false, d_pos, d_s1, d_s2, d_s3, d_s4, d_s5, d_s6, d_s7, d_s8, Classical.not_not, k25, kp, z6603_85, z12576_l, hp, le_T, le_F, lt_T, lt_F, w32_T]
      exact n2 _ _ ⟨rfl, rfl⟩
  · rintro ls h' ⟨rfl, rfl⟩
    refine G_in ?_
    simp (implicitDefEqProofs := false) (disch := omega) only [b431_6, b431_9, q431_9, x_aload0, x_gc_11947, x_gf_11464, x_goto_8, x_iaload, x_iconst, x_if_icmp_eq_7, x_if_icmp_ge_9, x_iload2, x_iload3, x_ireturn, klp_0, klp_1, klp_2, klp_3, klp_9, KC_0, KC_1, KC_2, KC_3, KC_4, ne_eq, not_false_eq_true, not_true_eq_false, true_and, and_true, and_self, implies_true, eq_self, true_imp_iff, false_implies, Int.reduceEq, Int.reduceNe, Int.reduceMod, Int.reduceMul, Int.reduceAdd, Int.reduceSub, Int.reduceLT, Int.reduceLE, Nat.reduceAdd, Nat.reduceLeDiff, Nat.reduceLT, Nat.reduceSub, reduceIte, wds_n, wds_0, wds_1, wds_2, wds_3, or_true, true_or, or_false, false_or, or_self, false_and, and_false, d_pos, d_s1, d_s2, d_s3, d_s4, d_s5, d_s6, d_s7, d_s8, Classical.not_not, k25, le_T, le_F, lt_T, lt_F, w32_T]
    exact nx
