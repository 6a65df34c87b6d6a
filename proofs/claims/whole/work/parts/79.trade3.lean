/-! THE PURE SIDE, 60: trades, the class's rounds: printed by wip/tools/gen79.py -/
theorem bst36_0 : bst 3428 0 = 0 := by decide
theorem bst36_1 : bst 3428 1 = 1 := by decide
theorem s289t {d : Nat} {h : HV} {Q : Int → HV → Prop} {p c : Int} (hp : 0 ≤ p ∧ p < 24) (hc : 0 ≤ c ∧ c < 8) (hl : -100 ≤ h 3360 c ∧ h 3360 c ≤ 1000) : Sp fz1 (d + 1) 289 [(3, 2953), (0, p), (0, c)] h Q = Q (0) (hset (hset h 3232 p c) 3360 c (h 3360 c - 1)) := by
  simp (implicitDefEqProofs := false) (disch := omega) only [sp289, b289_0, b289_1, q289_1, x_aload0, y_call281, x_dup203, x_dup21, x_gc_9259, x_gc_9283, x_iaload, x_iastore, x_iconst, x_ifCond_ne_1, x_iload1, x_iload2, x_isub, x_return, klp_0, klp_1, klp_2, klp_3, klp_9, KC_0, KC_1, KC_2, KC_3, KC_4, ne_eq, not_false_eq_true, not_true_eq_false, true_and, and_true, and_self, implies_true, eq_self, true_imp_iff, false_implies, Int.reduceEq, Int.reduceNe, Int.reduceMod, Int.reduceMul, Int.reduceAdd, Int.reduceSub, Int.reduceLT, Int.reduceLE, Nat.reduceAdd, Nat.reduceLeDiff, Nat.reduceLT, Nat.reduceSub, reduceIte, wds_n, wds_0, wds_1, wds_2, wds_3, or_true, true_or, or_false, false_or, or_self, false_and, and_false, d_pos, d_s1, d_s2, d_s3, d_s4, d_s5, d_s6, d_s7, d_s8, Classical.not_not, z2953_5, z3232_l, z2953_8, z3360_l, s281, hs_ne, le_T, le_F, lt_T, lt_F, eq_F, w32_T, if_pos hc, bz1]
theorem cbT_b {h : HV} {pl : Int → Int} {p : Int} : ∀ (n : Nat) (a : Int), cbT h pl p n a = 0 ∨ cbT h pl p n a = 1
  | 0, _ => .inl rfl
  | n + 1, a => by
    rw [cbT]
    split
    · exact .inr rfl
    · exact cbT_b n _
/-- part of a round -/
def ptr (h : HV) (pl : Int → Int) (j : Int) : Int → Int := fun p => if (0 ≤ p ∧ p < j) ∧ rgT h pl p = 1 then cwT h pl p else pl p
theorem ptr_0 (h : HV) (pl : Int → Int) : ptr h pl 0 = pl := by
  funext p
  unfold ptr
  rw [if_neg (fun w => by omega)]
theorem ptr_N (h : HV) (pl : Int → Int) : ptr h pl (h 836 4) = trT h pl := rfl
theorem ptr_s (h : HV) (pl : Int → Int) (j : Int) (hj : 0 ≤ j) (x : Int) : ptr h pl (j + 1) x = if x = j then (if rgT h pl j = 1 then cwT h pl j else pl j) else ptr h pl j x := by
  unfold ptr
  by_cases e : x = j
  · rw [if_pos e, e]
    by_cases q : rgT h pl j = 1
    · rw [if_pos ⟨by omega, q⟩, if_pos q]
    · rw [if_neg (fun w => q w.2), if_neg q]
  · rw [if_neg e]
    by_cases q : (0 ≤ x ∧ x < j) ∧ rgT h pl x = 1
    · rw [if_pos q, if_pos ⟨by omega, q.2⟩]
    · rw [if_neg q, if_neg (fun w => q ⟨by omega, w.2⟩)]
theorem lp296a {d : Nat} {h K : HV} {pl : Int → Int} {Q : Int → HV → Prop} (B : BT h) (C : CP h K pl)
    (nx : ∀ K2 : HV, (∀ a, a ≠ 3428 → K2 a = K a) → (∀ p, 0 ≤ p → p < h 836 4 → K2 3428 p = rgT h pl p) → ∀ z, G fz1 (d + 5) 296 7 [(3, 2953), (0, anT h pl (h 836 4).toNat), z] [] K2 Q) : G fz1 (d + 5) 296 1 [(3, 2953), (0, 0), (0, 0)] [] K Q := by
  have h24 := B.1
  refine forG (N := (h 836 4).toNat) (I := fun j ls h' => ls = [(3, 2953), (0, anT h pl j), (0, (j : Int))] ∧ (∀ a, a ≠ 3428 → h' a = K a) ∧ (∀ p, 0 ≤ p → p < (j : Int) → h' 3428 p = rgT h pl p)) ?_ ?_ (j := 0) (Nat.zero_le _) ⟨rfl, fun _ _ => rfl, fun p a b => by omega⟩
  · rintro j ls h' hj ⟨rfl, fr, vl⟩ n2
    have hjn : 0 ≤ (j : Int) ∧ (j : Int) < h 836 4 := by omega
    have j24 : 0 ≤ (j : Int) ∧ (j : Int) < 24 := by omega
    have C' : CP h h' pl := ⟨⟨fun a q => by rw [fr a q.2.2.2]; exact C.1.1 a q, fun p p0 p1 => by rw [fr _ (by decide)]; exact C.1.2.1 p p0 p1, fun c c0 c1 => by rw [fr _ (by decide)]; exact C.1.2.2.1 c c0 c1, fun p p0 p1 => by rw [fr _ (by decide)]; exact C.1.2.2.2 p p0 p1⟩, fun p p0 p1 q => by rw [fr _ (by decide)]; exact C.2 p p0 p1 q⟩
    have a836 : h' 836 = h 836 := C'.1.1 _ (by decide)
    have ab := anT_b (h := h) (pl := pl) j
    have e : anT h pl (j + 1) = if anT h pl j ≠ 0 ∨ rgT h pl j = 1 then 1 else 0 := rfl
    rw [e] at n2
    generalize anT h pl j = k at *
    have fin : ∀ v : Int, v = rgT h pl j → (∀ a, a ≠ 3428 → hset h' 3428 j v a = K a) ∧ (∀ p, 0 ≤ p → p < ((j + 1 : Nat) : Int) → hset h' 3428 j v 3428 p = rgT h pl p) := fun v hv => ⟨fun a ha => by rw [hs_ne ha, fr a ha], fun p p0 p1 => by
      rw [hset_v]
      by_cases q : p = j
      · rw [if_pos ⟨rfl, q⟩, q, hv]
      · rw [if_neg (fun w => q w.2)]
        exact vl p p0 (by omega)⟩
    have rd0 : hset h' 3428 (j : Int) 0 3428 j = 0 := by rw [hset_v, if_pos ⟨rfl, rfl⟩]
    have rd1 : hset h' 3428 (j : Int) 1 3428 j = 1 := by rw [hset_v, if_pos ⟨rfl, rfl⟩]
    have r0 : rgT h pl j = 0 → ((anT h pl (j + 1) = 0 ∧ k = 0) ∨ k ≠ 0) := fun _ => by omega
    clear r0
    refine G_in ?_
    rcases wT_b h pl j with w0 | w1
    · have rg : rgT h pl j = 0 := by unfold rgT; rw [if_neg (fun w => by omega)]
      by_cases k0 : k = 0
      · rw [if_neg (fun w => w.elim (fun x => x k0) (fun x => by omega))] at n2
        simp (implicitDefEqProofs := false) (disch := omega) only [b296_1, b296_2, b296_3, b296_4, b296_5, b296_6, q296_2, q296_3, q296_4, q296_5, q296_6, x_aload0, x_baload, x_bastore, y_call132, y_call295, y_call297, x_gc_9219, x_gc_9291, x_goto_1, x_goto_3, x_goto_4, x_goto_6, x_iconst, x_ifCond_eq_2, x_ifCond_eq_5, x_ifCond_ne_4, x_if_icmp_ge_7, x_iinc2, x_iload1, x_iload2, x_istore1, klp_0, klp_1, klp_2, klp_3, klp_9, KC_0, KC_1, KC_2, KC_3, KC_4, ne_eq, not_false_eq_true, not_true_eq_false, true_and, and_true, and_self, implies_true, eq_self, true_imp_iff, false_implies, Int.reduceEq, Int.reduceNe, Int.reduceMod, Int.reduceMul, Int.reduceAdd, Int.reduceSub, Int.reduceLT, Int.reduceLE, Nat.reduceAdd, Nat.reduceLeDiff, Nat.reduceLT, Nat.reduceSub, reduceIte, wds_n, wds_0, wds_1, wds_2, wds_3, or_true, true_or, or_false, false_or, or_self, false_and, and_false, d_pos, d_s1, d_s2, d_s3, d_s4, d_s5, d_s6, d_s7, d_s8, Classical.not_not, z2953_0, s132, a836, z2953_9, z3428_l, s295p B C' hjn, w0, k0, bst36_0, rd0, le_T, le_F, lt_T, lt_F, w32_T]
        exact n2 _ _ ⟨rfl, fin 0 rg.symm⟩
      · rw [if_pos (.inl k0)] at n2
        simp (implicitDefEqProofs := false) (disch := omega) only [b296_1, b296_2, b296_3, b296_4, b296_5, b296_6, q296_2, q296_3, q296_4, q296_5, q296_6, x_aload0, x_baload, x_bastore, y_call132, y_call295, y_call297, x_gc_9219, x_gc_9291, x_goto_1, x_goto_3, x_goto_4, x_goto_6, x_iconst, x_ifCond_eq_2, x_ifCond_eq_5, x_ifCond_ne_4, x_if_icmp_ge_7, x_iinc2, x_iload1, x_iload2, x_istore1, klp_0, klp_1, klp_2, klp_3, klp_9, KC_0, KC_1, KC_2, KC_3, KC_4, ne_eq, not_false_eq_true, not_true_eq_false, true_and, and_true, and_self, implies_true, eq_self, true_imp_iff, false_implies, Int.reduceEq, Int.reduceNe, Int.reduceMod, Int.reduceMul, Int.reduceAdd, Int.reduceSub, Int.reduceLT, Int.reduceLE, Nat.reduceAdd, Nat.reduceLeDiff, Nat.reduceLT, Nat.reduceSub, reduceIte, wds_n, wds_0, wds_1, wds_2, wds_3, or_true, true_or, or_false, false_or, or_self, false_and, and_false, d_pos, d_s1, d_s2, d_s3, d_s4, d_s5, d_s6, d_s7, d_s8, Classical.not_not, z2953_0, s132, a836, z2953_9, z3428_l, s295p B C' hjn, w0, k0, bst36_0, rd0, le_T, le_F, lt_T, lt_F, w32_T]
        exact n2 _ _ ⟨rfl, fin 0 rg.symm⟩
    · rcases cbT_b (h := h) (pl := pl) (p := j) 24 j with c0 | c1
      · have rg : rgT h pl j = 0 := by unfold rgT; rw [if_neg (fun w => by omega)]
        by_cases k0 : k = 0
        · rw [if_neg (fun w => w.elim (fun x => x k0) (fun x => by omega))] at n2
          simp (implicitDefEqProofs := false) (disch := omega) only [b296_1, b296_2, b296_3, b296_4, b296_5, b296_6, q296_2, q296_3, q296_4, q296_5, q296_6, x_aload0, x_baload, x_bastore, y_call132, y_call295, y_call297, x_gc_9219, x_gc_9291, x_goto_1, x_goto_3, x_goto_4, x_goto_6, x_iconst, x_ifCond_eq_2, x_ifCond_eq_5, x_ifCond_ne_4, x_if_icmp_ge_7, x_iinc2, x_iload1, x_iload2, x_istore1, klp_0, klp_1, klp_2, klp_3, klp_9, KC_0, KC_1, KC_2, KC_3, KC_4, ne_eq, not_false_eq_true, not_true_eq_false, true_and, and_true, and_self, implies_true, eq_self, true_imp_iff, false_implies, Int.reduceEq, Int.reduceNe, Int.reduceMod, Int.reduceMul, Int.reduceAdd, Int.reduceSub, Int.reduceLT, Int.reduceLE, Nat.reduceAdd, Nat.reduceLeDiff, Nat.reduceLT, Nat.reduceSub, reduceIte, wds_n, wds_0, wds_1, wds_2, wds_3, or_true, true_or, or_false, false_or, or_self, false_and, and_false, d_pos, d_s1, d_s2, d_s3, d_s4, d_s5, d_s6, d_s7, d_s8, Classical.not_not, z2953_0, s132, a836, z2953_9, z3428_l, s295p B C' hjn, w1, s297 B C' hjn w1, c0, k0, bst36_0, rd0, le_T, le_F, lt_T, lt_F, w32_T]
          exact n2 _ _ ⟨rfl, fin 0 rg.symm⟩
        · rw [if_pos (.inl k0)] at n2
          simp (implicitDefEqProofs := false) (disch := omega) only [b296_1, b296_2, b296_3, b296_4, b296_5, b296_6, q296_2, q296_3, q296_4, q296_5, q296_6, x_aload0, x_baload, x_bastore, y_call132, y_call295, y_call297, x_gc_9219, x_gc_9291, x_goto_1, x_goto_3, x_goto_4, x_goto_6, x_iconst, x_ifCond_eq_2, x_ifCond_eq_5, x_ifCond_ne_4, x_if_icmp_ge_7, x_iinc2, x_iload1, x_iload2, x_istore1, klp_0, klp_1, klp_2, klp_3, klp_9, KC_0, KC_1, KC_2, KC_3, KC_4, ne_eq, not_false_eq_true, not_true_eq_false, true_and, and_true, and_self, implies_true, eq_self, true_imp_iff, false_implies, Int.reduceEq, Int.reduceNe, Int.reduceMod, Int.reduceMul, Int.reduceAdd, Int.reduceSub, Int.reduceLT, Int.reduceLE, Nat.reduceAdd, Nat.reduceLeDiff, Nat.reduceLT, Nat.reduceSub, reduceIte, wds_n, wds_0, wds_1, wds_2, wds_3, or_true, true_or, or_false, false_or, or_self, false_and, and_false, d_pos, d_s1, d_s2, d_s3, d_s4, d_s5, d_s6, d_s7, d_s8, Classical.not_not, z2953_0, s132, a836, z2953_9, z3428_l, s295p B C' hjn, w1, s297 B C' hjn w1, c0, k0, bst36_0, rd0, le_T, le_F, lt_T, lt_F, w32_T]
          exact n2 _ _ ⟨rfl, fin 0 rg.symm⟩
      · have rg : rgT h pl j = 1 := by unfold rgT; rw [if_pos ⟨w1, c1⟩]
        rw [if_pos (.inr rg)] at n2
        by_cases k0 : k = 0
        · simp (implicitDefEqProofs := false) (disch := omega) only [b296_1, b296_2, b296_3, b296_4, b296_5, b296_6, q296_2, q296_3, q296_4, q296_5, q296_6, x_aload0, x_baload, x_bastore, y_call132, y_call295, y_call297, x_gc_9219, x_gc_9291, x_goto_1, x_goto_3, x_goto_4, x_goto_6, x_iconst, x_ifCond_eq_2, x_ifCond_eq_5, x_ifCond_ne_4, x_if_icmp_ge_7, x_iinc2, x_iload1, x_iload2, x_istore1, klp_0, klp_1, klp_2, klp_3, klp_9, KC_0, KC_1, KC_2, KC_3, KC_4, ne_eq, not_false_eq_true, not_true_eq_false, true_and, and_true, and_self, implies_true, eq_self, true_imp_iff, false_implies, Int.reduceEq, Int.reduceNe, Int.reduceMod, Int.reduceMul, Int.reduceAdd, Int.reduceSub, Int.reduceLT, Int.reduceLE, Nat.reduceAdd, Nat.reduceLeDiff, Nat.reduceLT, Nat.reduceSub, reduceIte, wds_n, wds_0, wds_1, wds_2, wds_3, or_true, true_or, or_false, false_or, or_self, false_and, and_false, d_pos, d_s1, d_s2, d_s3, d_s4, d_s5, d_s6, d_s7, d_s8, Classical.not_not, z2953_0, s132, a836, z2953_9, z3428_l, s295p B C' hjn, w1, s297 B C' hjn w1, c1, k0, bst36_1, rd1, le_T, le_F, lt_T, lt_F, w32_T]
          exact n2 _ _ ⟨rfl, fin 1 rg.symm⟩
        · simp (implicitDefEqProofs := false) (disch := omega) only [b296_1, b296_2, b296_3, b296_4, b296_5, b296_6, q296_2, q296_3, q296_4, q296_5, q296_6, x_aload0, x_baload, x_bastore, y_call132, y_call295, y_call297, x_gc_9219, x_gc_9291, x_goto_1, x_goto_3, x_goto_4, x_goto_6, x_iconst, x_ifCond_eq_2, x_ifCond_eq_5, x_ifCond_ne_4, x_if_icmp_ge_7, x_iinc2, x_iload1, x_iload2, x_istore1, klp_0, klp_1, klp_2, klp_3, klp_9, KC_0, KC_1, KC_2, KC_3, KC_4, ne_eq, not_false_eq_true, not_true_eq_false, true_and, and_true, and_self, implies_true, eq_self, true_imp_iff, false_implies, Int.reduceEq, Int.reduceNe, Int.reduceMod, Int.reduceMul, Int.reduceAdd, Int.reduceSub, Int.reduceLT, Int.reduceLE, Nat.reduceAdd, Nat.reduceLeDiff, Nat.reduceLT, Nat.reduceSub, reduceIte, wds_n, wds_0, wds_1, wds_2, wds_3, or_true, true_or, or_false, false_or, or_self, false_and, and_false, d_pos, d_s1, d_s2, d_s3, d_s4, d_s5, d_s6, d_s7, d_s8, Classical.not_not, z2953_0, s132, a836, z2953_9, z3428_l, s295p B C' hjn, w1, s297 B C' hjn w1, c1, k0, bst36_1, rd1, le_T, le_F, lt_T, lt_F, w32_T]
          exact n2 _ _ ⟨rfl, fin 1 rg.symm⟩
  · rintro ls h' ⟨rfl, fr, vl⟩
    have a836 : h' 836 = h 836 := by rw [fr _ (by decide)]; exact C.1.1 _ (by decide)
    refine G_in ?_
    simp (implicitDefEqProofs := false) (disch := omega) only [b296_1, x_aload0, y_call132, y_call295, y_call297, x_gc_9219, x_gc_9291, x_goto_3, x_iconst, x_ifCond_eq_2, x_if_icmp_ge_7, x_iload2, klp_0, klp_1, klp_2, klp_3, klp_9, KC_0, KC_1, KC_2, KC_3, KC_4, ne_eq, not_false_eq_true, not_true_eq_false, true_and, and_true, and_self, implies_true, eq_self, true_imp_iff, false_implies, Int.reduceEq, Int.reduceNe, Int.reduceMod, Int.reduceMul, Int.reduceAdd, Int.reduceSub, Int.reduceLT, Int.reduceLE, Nat.reduceAdd, Nat.reduceLeDiff, Nat.reduceLT, Nat.reduceSub, reduceIte, wds_n, wds_0, wds_1, wds_2, wds_3, or_true, true_or, or_false, false_or, or_self, false_and, and_false, d_pos, d_s1, d_s2, d_s3, d_s4, d_s5, d_s6, d_s7, d_s8, Classical.not_not, z2953_0, s132, a836, le_T, le_F, lt_T, lt_F, w32_T]
    exact nx h' fr (fun p p0 p1 => vl p p0 (by omega)) _
theorem lp296b {d : Nat} {h K : HV} {pl : Int → Int} {Q : Int → HV → Prop} {x : Int} (hx : 0 ≤ x ∧ x ≤ 1) (B : BT h) (C : CP h K pl) (hv : ∀ p, 0 ≤ p → p < h 836 4 → K 3428 p = rgT h pl p)
    (nx : ∀ K2 : HV, CT h K2 (trT h pl) → K2 3296 = K 3296 → Q x K2) : ∀ z, G fz1 (d + 5) 296 7 [(3, 2953), (0, x), z] [] K Q := by
  intro z
  have h24 := B.1
  have x2 : x % 2 = x := by omega
  refine G_in ?_
  simp (implicitDefEqProofs := false) (disch := omega) only [b296_7, q296_7, x_goto_8, x_iconst, x_istore2, klp_0, klp_1, klp_2, klp_3, klp_9, KC_0, KC_1, KC_2, KC_3, KC_4, ne_eq, not_false_eq_true, not_true_eq_false, true_and, and_true, and_self, implies_true, eq_self, true_imp_iff, false_implies, Int.reduceEq, Int.reduceNe, Int.reduceMod, Int.reduceMul, Int.reduceAdd, Int.reduceSub, Int.reduceLT, Int.reduceLE, Nat.reduceAdd, Nat.reduceLeDiff, Nat.reduceLT, Nat.reduceSub, reduceIte, wds_n, wds_0, wds_1, wds_2, wds_3, or_true, true_or, or_false, false_or, or_self, false_and, and_false, d_pos, d_s1, d_s2, d_s3, d_s4, d_s5, d_s6, d_s7, d_s8, Classical.not_not]
  refine forG (N := (h 836 4).toNat) (I := fun j ls h' => ls = [(3, 2953), (0, x), (0, (j : Int))] ∧ CT h h' (ptr h pl j) ∧ h' 3296 = K 3296 ∧ h' 3428 = K 3428) ?_ ?_ (j := 0) (Nat.zero_le _) ⟨rfl, by rw [show ((0 : Nat) : Int) = 0 from rfl, ptr_0]; exact C.1, rfl, rfl⟩
  · rintro j ls h' hj ⟨rfl, C', e1, e2⟩ n2
    have hjn : 0 ≤ (j : Int) ∧ (j : Int) < h 836 4 := by omega
    have j24 : 0 ≤ (j : Int) ∧ (j : Int) < 24 := by omega
    have a836 : h' 836 = h 836 := C'.1 _ (by decide)
    have PS := ptr_s h pl j hjn.1
    have jc : ((j + 1 : Nat) : Int) = (j : Int) + 1 := by omega
    by_cases rg : rgT h pl j = 1
    · have w := (rgT_c rg).1
      have w2 := wT_c w
      have cb := cwT_b B hjn w
      have m8 := B.2.2.2.1
      have c8 : 0 ≤ cwT h pl j ∧ cwT h pl j < 8 := by omega
      have rc := B.2.1 j hjn.1 hjn.2
      have k0 := (kT_spec (h := h) (pl := pl) (p := j) 8 0 rc.1 (by omega)).1
      have ea : h' 3296 j = kT h pl j 8 0 := by rw [e1]; exact C.2 j hjn.1 hjn.2 w2.1
      have ev : h' 3428 j = 1 := by rw [e2, hv j hjn.1 hjn.2]; exact rg
      have e3104 : h' 3104 = h 3104 := C'.1 _ (by decide)
      have b1 : 0 ≤ h' 3296 j ∧ h' 3296 j < h' 3104 j := by rw [ea, e3104]; exact ⟨k0.1, w2.2⟩
      have b2 : h' 3104 j ≤ 8 := by rw [e3104]; exact rc.2
      have ec : h' 3040 ((j : Int) * 8 + h' 3296 j) = cwT h pl j := by rw [ea, C'.1 3040 (by decide)]; rfl
      have l0 := C'.2.2.1 _ cb.1 cb.2
      have lb := lfT_b (pl := ptr h pl j) B cb
      have l1 : -100 ≤ h' 3360 (cwT h pl j) ∧ h' 3360 (cwT h pl j) ≤ 1000 := by omega
      have p9 : ptr h pl j j = -9 := by unfold ptr; rw [if_neg (fun w => by omega)]; exact w2.1
      refine G_in ?_
      simp (implicitDefEqProofs := false) (disch := omega) only [b296_8, b296_9, q296_9, x_aload0, x_baload, y_call132, y_call274, y_call289, x_gc_9219, x_gc_9275, x_gc_9291, x_goto_8, x_goto_9, x_iaload, x_ifCond_eq_9, x_if_icmp_ge_10, x_iinc2, x_iload2, klp_0, klp_1, klp_2, klp_3, klp_9, KC_0, KC_1, KC_2, KC_3, KC_4, ne_eq, not_false_eq_true, not_true_eq_false, true_and, and_true, and_self, implies_true, eq_self, true_imp_iff, false_implies, Int.reduceEq, Int.reduceNe, Int.reduceMod, Int.reduceMul, Int.reduceAdd, Int.reduceSub, Int.reduceLT, Int.reduceLE, Nat.reduceAdd, Nat.reduceLeDiff, Nat.reduceLT, Nat.reduceSub, reduceIte, wds_n, wds_0, wds_1, wds_2, wds_3, or_true, true_or, or_false, false_or, or_self, false_and, and_false, d_pos, d_s1, d_s2, d_s3, d_s4, d_s5, d_s6, d_s7, d_s8, Classical.not_not, z2953_0, s132, a836, z2953_9, z3428_l, z2953_7, z3296_l, ev, s274 j24 b1 b2, ec, s289t j24 c8 l1, le_T, le_F, lt_T, lt_F, w32_T]
      refine n2 _ _ ⟨rfl, ⟨fun a q => by rw [hs_ne q.2.2.1, hs_ne q.1]; exact C'.1 a q, fun p p0 p1 => ?_, fun c q0 q1 => ?_, fun p p0 p1 => by rw [hs_ne (by decide), hset_v, if_neg (fun w => by omega)]; exact C'.2.2.2 p p0 p1⟩, by rw [hs_ne (by decide), hs_ne (by decide)]; exact e1, by rw [hs_ne (by decide), hs_ne (by decide)]; exact e2⟩
      · rw [jc, PS, if_pos rg, hs_ne (by decide), hset_v]
        by_cases q : p = j
        · rw [if_pos ⟨rfl, q⟩, if_pos q]
        · rw [if_neg (fun w => q w.2), if_neg q]
          exact C'.2.1 p p0 p1
      · have cu := cnt_upd (g := ptr h pl j) (p := j) (c := cwT h pl j) (i := c) (n := (h 836 4).toNat) hjn.1 (by omega)
        rw [p9, show isE (-9) c = 0 by rw [isE, if_neg (by omega)]] at cu
        have lE : lfT h (ptr h pl ((j + 1 : Nat) : Int)) c = lfT h (ptr h pl j) c - isE (cwT h pl j) c := by
          unfold lfT
          rw [jc, sumI_c (f := fun p => isE (ptr h pl ((j : Int) + 1) p) c) (g := fun x => isE (if x = (j : Int) then cwT h pl j else ptr h pl j x) c) _ (fun y _ _ => by
            show isE (ptr h pl ((j : Int) + 1) y) c = isE (if y = (j : Int) then cwT h pl j else ptr h pl j y) c
            rw [PS, if_pos rg]), cu]
          omega
        rw [lE, hset_v, hs_ne (by decide)]
        by_cases q : c = cwT h pl j
        · rw [if_pos ⟨rfl, q⟩, ← q, show isE c c = 1 by rw [isE, if_pos rfl]]
          rw [← q] at l0
          omega
        · rw [if_neg (fun w => q w.2), show isE (cwT h pl j) c = 0 by rw [isE, if_neg (fun w => q w.symm)], C'.2.2.1 c q0 q1]
          omega
    · have ev : h' 3428 j = rgT h pl j := by rw [e2, hv j hjn.1 hjn.2]
      have r0 : rgT h pl j = 0 := by unfold rgT at rg ⊢; split at rg <;> omega
      rw [r0] at ev
      refine G_in ?_
      simp (implicitDefEqProofs := false) (disch := omega) only [b296_8, b296_9, q296_9, x_aload0, x_baload, y_call132, y_call274, y_call289, x_gc_9219, x_gc_9275, x_gc_9291, x_goto_8, x_goto_9, x_iaload, x_ifCond_eq_9, x_if_icmp_ge_10, x_iinc2, x_iload2, klp_0, klp_1, klp_2, klp_3, klp_9, KC_0, KC_1, KC_2, KC_3, KC_4, ne_eq, not_false_eq_true, not_true_eq_false, true_and, and_true, and_self, implies_true, eq_self, true_imp_iff, false_implies, Int.reduceEq, Int.reduceNe, Int.reduceMod, Int.reduceMul, Int.reduceAdd, Int.reduceSub, Int.reduceLT, Int.reduceLE, Nat.reduceAdd, Nat.reduceLeDiff, Nat.reduceLT, Nat.reduceSub, reduceIte, wds_n, wds_0, wds_1, wds_2, wds_3, or_true, true_or, or_false, false_or, or_self, false_and, and_false, d_pos, d_s1, d_s2, d_s3, d_s4, d_s5, d_s6, d_s7, d_s8, Classical.not_not, z2953_0, s132, a836, z2953_9, z3428_l, ev, le_T, le_F, lt_T, lt_F, w32_T]
      have pe : ptr h pl ((j + 1 : Nat) : Int) = ptr h pl j := by
        funext y
        rw [jc, PS, if_neg rg]
        by_cases q : y = j
        · rw [if_pos q, q]; unfold ptr; rw [if_neg (fun w => by omega)]
        · rw [if_neg q]
      exact n2 _ _ ⟨rfl, by rw [pe]; exact C', e1, e2⟩
  · rintro ls h' ⟨rfl, C', e1, e2⟩
    have a836 : h' 836 = h 836 := C'.1 _ (by decide)
    rw [show (((h 836 4).toNat : Nat) : Int) = h 836 4 by omega, ptr_N] at C'
    refine G_in ?_
    simp (implicitDefEqProofs := false) (disch := omega) only [b296_8, b296_10, q296_10, x_aload0, x_baload, y_call132, y_call274, y_call289, x_freturn, x_gc_9219, x_gc_9275, x_gc_9291, x_goto_9, x_iaload, x_ifCond_eq_9, x_if_icmp_ge_10, x_iload1, x_iload2, klp_0, klp_1, klp_2, klp_3, klp_9, KC_0, KC_1, KC_2, KC_3, KC_4, ne_eq, not_false_eq_true, not_true_eq_false, true_and, and_true, and_self, implies_true, eq_self, true_imp_iff, false_implies, Int.reduceEq, Int.reduceNe, Int.reduceMod, Int.reduceMul, Int.reduceAdd, Int.reduceSub, Int.reduceLT, Int.reduceLE, Nat.reduceAdd, Nat.reduceLeDiff, Nat.reduceLT, Nat.reduceSub, reduceIte, wds_n, wds_0, wds_1, wds_2, wds_3, or_true, true_or, or_false, false_or, or_self, false_and, and_false, d_pos, d_s1, d_s2, d_s3, d_s4, d_s5, d_s6, d_s7, d_s8, Classical.not_not, z2953_0, s132, a836, x2, le_T, le_F, lt_T, lt_F, w32_T]
    exact nx h' C' e1
theorem ca_tr {h K : HV} {pl : Int → Int} (B : BT h) (A : CA h K pl) : CA h K (trT h pl) := fun p p0 p1 => by
  obtain ⟨a1, a2⟩ := A p p0 p1
  refine ⟨a1, fun t9 j j0 j1 => ?_⟩
  have h9 : pl p = -9 := by
    unfold trT at t9
    by_cases q : (0 ≤ p ∧ p < h 836 4) ∧ rgT h pl p = 1
    · rw [if_pos q] at t9
      have := cwT_b B ⟨p0, p1⟩ (rgT_c q.2).1
      omega
    · rw [if_neg q] at t9; exact t9
  have := a2 h9 j j0 j1
  have := lfT_le (h := h) (pl := pl) (B.2.2.1 p j p0 p1 j0 (by omega)).1
  omega
theorem s296 {d : Nat} {h K : HV} {pl : Int → Int} {Q : Int → HV → Prop} (B : BT h) (C : CP h K pl) (A : CA h K pl) (hQ : ∀ K2, CT h K2 (trT h pl) → CA h K2 (trT h pl) → Q (anT h pl (h 836 4).toNat) K2) : Sp fz1 (d + 5) 296 [(3, 2953)] K Q := by
  simp (implicitDefEqProofs := false) (disch := omega) only [sp296, b296_0, x_goto_1, x_iconst, x_istore1, x_istore2, klp_0, klp_1, klp_2, klp_3, klp_9, KC_0, KC_1, KC_2, KC_3, KC_4, ne_eq, not_false_eq_true, not_true_eq_false, true_and, and_true, and_self, implies_true, eq_self, true_imp_iff, false_implies, Int.reduceEq, Int.reduceNe, Int.reduceMod, Int.reduceMul, Int.reduceAdd, Int.reduceSub, Int.reduceLT, Int.reduceLE, Nat.reduceAdd, Nat.reduceLeDiff, Nat.reduceLT, Nat.reduceSub, reduceIte, wds_n, wds_0, wds_1, wds_2, wds_3, or_true, true_or, or_false, false_or, or_self, false_and, and_false, d_pos, d_s1, d_s2, d_s3, d_s4, d_s5, d_s6, d_s7, d_s8, Classical.not_not]
  refine lp296a B C (fun K2 fr vl z => ?_)
  have C2 : CP h K2 pl := ⟨⟨fun a q => by rw [fr a q.2.2.2]; exact C.1.1 a q, fun p p0 p1 => by rw [fr _ (by decide)]; exact C.1.2.1 p p0 p1, fun c c0 c1 => by rw [fr _ (by decide)]; exact C.1.2.2.1 c c0 c1, fun p p0 p1 => by rw [fr _ (by decide)]; exact C.1.2.2.2 p p0 p1⟩, fun p p0 p1 q => by rw [fr _ (by decide)]; exact C.2 p p0 p1 q⟩
  refine lp296b (anT_b _) B C2 vl (fun K3 C3 e3 => hQ K3 C3 (ca_tr B (fun p p0 p1 => ?_))) z
  rw [e3, fr _ (by decide)]
  exact A p p0 p1
theorem pt_CP {h K : HV} {pl : Int → Int} (C : CT h K pl) : CP h (ptH h K pl (h 836 4)) pl := ⟨pt_C C, fun p p0 p1 q => by rw [ptH_v, if_pos ⟨rfl, ⟨p0, p1⟩, q⟩]⟩
theorem pt_CA {h K : HV} {pl : Int → Int} (B : BT h) (A : CA h K pl) : CA h (ptH h K pl (h 836 4)) pl := fun p p0 p1 => by
  rw [ptH_v]
  by_cases q : pl p = -9
  · rw [if_pos ⟨rfl, ⟨p0, p1⟩, q⟩]
    have rc := B.2.1 p p0 p1
    have k := kT_spec (h := h) (pl := pl) (p := p) 8 0 rc.1 (by omega)
    exact ⟨k.1, fun _ => k.2.1⟩
  · rw [if_neg (fun w => q w.2.2)]
    exact ⟨(A p p0 p1).1, fun w => absurd w q⟩
theorem it_fix {h : HV} {n : Nat} (e : trT h (itT h n) = itT h n) : ∀ k : Nat, itT h (n + k) = itT h n
  | 0 => rfl
  | k + 1 => by
    show trT h (itT h (n + k)) = itT h n
    rw [it_fix e k, e]
theorem lp293 {d : Nat} {h : HV} {Q : Int → HV → Prop} (B : BT h) (ex : ∀ K, CT h K (itT h 25) → Q (plN (itT h 25) (h 836 4).toNat) K) : ∀ (m n : Nat) (K : HV), n + m = 25 → CT h K (itT h n) → CA h K (itT h n) → G fz1 (d + 6) 293 1 [(3, 2953), (0, (n : Int))] [] K Q
  | 0, n, K, he, C, A => by
    have n25 : n = 25 := by omega
    subst n25
    have h24 := B.1
    have a836 : K 836 = h 836 := C.1 _ (by decide)
    have hK : 0 ≤ K 836 4 ∧ K 836 4 ≤ 24 := by rw [a836]; exact h24
    have pe : plN (K 3232) (h 836 4).toNat = plN (itT h 25) (h 836 4).toNat := by
      unfold plN
      exact sumI_c _ (fun x x0 x1 => by
        show 1 - isE (K 3232 x) (-9) = 1 - isE (itT h 25 x) (-9)
        rw [C.2.1 x x0 (by omega)])
    refine G_in ?_
    simp (implicitDefEqProofs := false) (disch := omega) only [b293_1, b293_3, q293_3, x_aload0, y_call292, y_call294, y_call296, x_goto_3, x_iconst, x_ifCond_ne_2, x_if_icmp_gt_3, x_iload1, x_ireturn, klp_0, klp_1, klp_2, klp_3, klp_9, KC_0, KC_1, KC_2, KC_3, KC_4, ne_eq, not_false_eq_true, not_true_eq_false, true_and, and_true, and_self, implies_true, eq_self, true_imp_iff, false_implies, Int.reduceEq, Int.reduceNe, Int.reduceMod, Int.reduceMul, Int.reduceAdd, Int.reduceSub, Int.reduceLT, Int.reduceLE, Nat.reduceAdd, Nat.reduceLeDiff, Nat.reduceLT, Nat.reduceSub, reduceIte, wds_n, wds_0, wds_1, wds_2, wds_3, or_true, true_or, or_false, false_or, or_self, false_and, and_false, d_pos, d_s1, d_s2, d_s3, d_s4, d_s5, d_s6, d_s7, d_s8, Classical.not_not, s292 hK, a836, pe, le_T, le_F, lt_T, lt_F, w32_T]
    exact ex K C
  | m + 1, n, K, he, C, A => by
    have h24 := B.1
    refine G_in ?_
    simp (implicitDefEqProofs := false) (disch := omega) only [b293_1, x_aload0, y_call294, y_call296, x_goto_3, x_iconst, x_ifCond_ne_2, x_if_icmp_gt_3, x_iload1, klp_0, klp_1, klp_2, klp_3, klp_9, KC_0, KC_1, KC_2, KC_3, KC_4, ne_eq, not_false_eq_true, not_true_eq_false, true_and, and_true, and_self, implies_true, eq_self, true_imp_iff, false_implies, Int.reduceEq, Int.reduceNe, Int.reduceMod, Int.reduceMul, Int.reduceAdd, Int.reduceSub, Int.reduceLT, Int.reduceLE, Nat.reduceAdd, Nat.reduceLeDiff, Nat.reduceLT, Nat.reduceSub, reduceIte, wds_n, wds_0, wds_1, wds_2, wds_3, or_true, true_or, or_false, false_or, or_self, false_and, and_false, d_pos, d_s1, d_s2, d_s3, d_s4, d_s5, d_s6, d_s7, d_s8, Classical.not_not, le_T, le_F, lt_T, lt_F, w32_T]
    refine s294 B C A ?_
    simp (implicitDefEqProofs := false) (disch := omega) only [b293_1, x_aload0, y_call294, y_call296, x_goto_3, x_iconst, x_ifCond_ne_2, x_if_icmp_gt_3, x_iload1, klp_0, klp_1, klp_2, klp_3, klp_9, KC_0, KC_1, KC_2, KC_3, KC_4, ne_eq, not_false_eq_true, not_true_eq_false, true_and, and_true, and_self, implies_true, eq_self, true_imp_iff, false_implies, Int.reduceEq, Int.reduceNe, Int.reduceMod, Int.reduceMul, Int.reduceAdd, Int.reduceSub, Int.reduceLT, Int.reduceLE, Nat.reduceAdd, Nat.reduceLeDiff, Nat.reduceLT, Nat.reduceSub, reduceIte, wds_n, wds_0, wds_1, wds_2, wds_3, or_true, true_or, or_false, false_or, or_self, false_and, and_false, d_pos, d_s1, d_s2, d_s3, d_s4, d_s5, d_s6, d_s7, d_s8, Classical.not_not, le_T, le_F, lt_T, lt_F, w32_T]
    refine s296 B (pt_CP C) (pt_CA B A) (fun K2 C2 A2 => ?_)
    have ab := anT_b (h := h) (pl := itT h n) (h 836 4).toNat
    by_cases q : anT h (itT h n) (h 836 4).toNat = 0
    · have tf := tr_fix h24.1 q
      have e25 : itT h 25 = itT h n := by rw [show 25 = n + (m + 1) by omega]; exact it_fix tf _
      rw [tf, ← e25] at C2
      have a836 : K2 836 = h 836 := C2.1 _ (by decide)
      have hK : 0 ≤ K2 836 4 ∧ K2 836 4 ≤ 24 := by rw [a836]; exact h24
      have pe : plN (K2 3232) (h 836 4).toNat = plN (itT h 25) (h 836 4).toNat := by
        unfold plN
        exact sumI_c _ (fun x x0 x1 => by
          show 1 - isE (K2 3232 x) (-9) = 1 - isE (itT h 25 x) (-9)
          rw [C2.2.1 x x0 (by omega)])
      simp (implicitDefEqProofs := false) (disch := omega) only [b293_1, b293_3, q293_3, x_aload0, y_call292, y_call294, y_call296, x_goto_3, x_iconst, x_ifCond_ne_2, x_if_icmp_gt_3, x_iload1, x_ireturn, klp_0, klp_1, klp_2, klp_3, klp_9, KC_0, KC_1, KC_2, KC_3, KC_4, ne_eq, not_false_eq_true, not_true_eq_false, true_and, and_true, and_self, implies_true, eq_self, true_imp_iff, false_implies, Int.reduceEq, Int.reduceNe, Int.reduceMod, Int.reduceMul, Int.reduceAdd, Int.reduceSub, Int.reduceLT, Int.reduceLE, Nat.reduceAdd, Nat.reduceLeDiff, Nat.reduceLT, Nat.reduceSub, reduceIte, wds_n, wds_0, wds_1, wds_2, wds_3, or_true, true_or, or_false, false_or, or_self, false_and, and_false, d_pos, d_s1, d_s2, d_s3, d_s4, d_s5, d_s6, d_s7, d_s8, Classical.not_not, q, s292 hK, a836, pe, le_T, le_F, lt_T, lt_F, w32_T]
      exact ex K2 C2
    · have q1 : anT h (itT h n) (h 836 4).toNat = 1 := by omega
      simp (implicitDefEqProofs := false) (disch := omega) only [b293_1, b293_2, q293_2, x_aload0, y_call294, y_call296, x_goto_1, x_goto_3, x_iconst, x_ifCond_ne_2, x_if_icmp_gt_3, x_iinc1, x_iload1, klp_0, klp_1, klp_2, klp_3, klp_9, KC_0, KC_1, KC_2, KC_3, KC_4, ne_eq, not_false_eq_true, not_true_eq_false, true_and, and_true, and_self, implies_true, eq_self, true_imp_iff, false_implies, Int.reduceEq, Int.reduceNe, Int.reduceMod, Int.reduceMul, Int.reduceAdd, Int.reduceSub, Int.reduceLT, Int.reduceLE, Nat.reduceAdd, Nat.reduceLeDiff, Nat.reduceLT, Nat.reduceSub, reduceIte, wds_n, wds_0, wds_1, wds_2, wds_3, or_true, true_or, or_false, false_or, or_self, false_and, and_false, d_pos, d_s1, d_s2, d_s3, d_s4, d_s5, d_s6, d_s7, d_s8, Classical.not_not, q1, le_T, le_F, lt_T, lt_F, w32_T]
      exact lp293 B ex m (n + 1) K2 (by omega) C2 A2
