/-! THE PURE SIDE, 7: the law's loop: printed by wip/tools/genlaw.py -/
theorem hs_ne {h : HV} {o i v a : Int} (hn : ¬ a = o) : hset h o i v a = h a := by
  funext b
  rw [hset_v, if_neg (fun q => hn q.1)]
theorem hs_eq {h : HV} {o i v b : Int} : hset h o i v o b = if b = i then v else h o b := by
  rw [hset_v]
  by_cases hb : b = i
  · rw [if_pos ⟨rfl, hb⟩, if_pos hb]
  · rw [if_neg (fun q => hb q.2), if_neg hb]
theorem fh_ne {h : HV} {o n v a : Int} (hn : ¬ a = o) : fillH h o n v a = h a := by
  funext b
  rw [fillH_v, if_neg (fun q => hn q.1)]
theorem fh_eq {h : HV} {o n v b : Int} : fillH h o n v o b = if 0 ≤ b ∧ b < n then v else h o b := by
  rw [fillH_v]
  by_cases hb : 0 ≤ b ∧ b < n
  · rw [if_pos ⟨rfl, hb⟩, if_pos hb]
  · rw [if_neg (fun q => hb q.2), if_neg hb]
theorem lcmp_self (x : Int) : l_cmp x x = 0 := by
  unfold l_cmp
  rw [if_neg (by omega), if_pos rfl]
theorem law_head {d : Nat} {h : HV} {i L : Int} {Q : Int → HV → Prop} (hi : 0 ≤ i) (hL : h 50 (-1) = L) (h0 : 0 ≤ L) (hm : L ≤ 3584) (hend : L < i + 7 → Q 1 h) (hops : i + 7 ≤ L → ∀ b : Nat, 2 ≤ b → b ≤ 32 → G fz1 d 0 b [(3, 50), (3, 64), (3, 6603), (0, i)] [] h Q) : G fz1 d 0 1 [(3, 50), (3, 64), (3, 6603), (0, i)] [] h Q := by
  apply G_in
  simp only [en0, b0_1, x_alen, x_aload0, x_iaload, x_iand, x_iconst, x_if_icmp_gt_33, x_iload3, x_isub, x_tsw_32_0_2_3_4_5_6_7_8_9_10_11_12_13_14_15_16_17_18_19_20_21_22_23_24_25_26_27_28_29_30_31, klp_0, klp_1, klp_2, klp_3, klp_9, KC_0, KC_1, KC_2, KC_3, KC_4, ne_eq, not_false_eq_true, not_true_eq_false, true_and, and_true, and_self, implies_true, eq_self, true_imp_iff, false_implies, Int.reduceEq, Int.reduceNe, Int.reduceMod, Int.reduceMul, Int.reduceAdd, Int.reduceSub, Int.reduceNeg, Int.reduceLT, Int.reduceLE, Nat.reduceAdd, Nat.reduceLeDiff, Nat.reduceLT, Nat.reduceSub, reduceIte, wds_n, wds_0, wds_1, wds_2, wds_3, or_true, true_or, or_false, false_or, or_self, rd1_50, hL]
  rw [w32_id (show -2147483648 ≤ L - 7 ∧ L - 7 ≤ 2147483647 by omega)]
  refine ⟨fun hc => ?_, fun hc => ?_⟩
  · apply G_in
    simp only [en0, b0_33, x_freturn, x_iconst, klp_0, klp_1, klp_2, klp_3, klp_9, KC_0, KC_1, KC_2, KC_3, KC_4, ne_eq, not_false_eq_true, not_true_eq_false, true_and, and_true, and_self, implies_true, eq_self, true_imp_iff, false_implies, Int.reduceEq, Int.reduceNe, Int.reduceMod, Int.reduceMul, Int.reduceAdd, Int.reduceSub, Int.reduceNeg, Int.reduceLT, Int.reduceLE, Nat.reduceAdd, Nat.reduceLeDiff, Nat.reduceLT, Nat.reduceSub, reduceIte, wds_n, wds_0, wds_1, wds_2, wds_3, or_true, true_or, or_false, false_or, or_self]
    exact hend (by omega)
  · have hs := hops (by omega)
    refine ⟨⟨hi, by omega⟩, ⟨fun _ => hs 2 (by decide) (by decide), fun _ => ⟨fun _ => hs 3 (by decide) (by decide), fun _ => ⟨fun _ => hs 4 (by decide) (by decide), fun _ => ⟨fun _ => hs 5 (by decide) (by decide), fun _ => ⟨fun _ => hs 6 (by decide) (by decide), fun _ => ⟨fun _ => hs 7 (by decide) (by decide), fun _ => ⟨fun _ => hs 8 (by decide) (by decide), fun _ => ⟨fun _ => hs 9 (by decide) (by decide), fun _ => ⟨fun _ => hs 10 (by decide) (by decide), fun _ => ⟨fun _ => hs 11 (by decide) (by decide), fun _ => ⟨fun _ => hs 12 (by decide) (by decide), fun _ => ⟨fun _ => hs 13 (by decide) (by decide), fun _ => ⟨fun _ => hs 14 (by decide) (by decide), fun _ => ⟨fun _ => hs 15 (by decide) (by decide), fun _ => ⟨fun _ => hs 16 (by decide) (by decide), fun _ => ⟨fun _ => hs 17 (by decide) (by decide), fun _ => ⟨fun _ => hs 18 (by decide) (by decide), fun _ => ⟨fun _ => hs 19 (by decide) (by decide), fun _ => ⟨fun _ => hs 20 (by decide) (by decide), fun _ => ⟨fun _ => hs 21 (by decide) (by decide), fun _ => ⟨fun _ => hs 22 (by decide) (by decide), fun _ => ⟨fun _ => hs 23 (by decide) (by decide), fun _ => ⟨fun _ => hs 24 (by decide) (by decide), fun _ => ⟨fun _ => hs 25 (by decide) (by decide), fun _ => ⟨fun _ => hs 26 (by decide) (by decide), fun _ => ⟨fun _ => hs 27 (by decide) (by decide), fun _ => ⟨fun _ => hs 28 (by decide) (by decide), fun _ => ⟨fun _ => hs 29 (by decide) (by decide), fun _ => ⟨fun _ => hs 30 (by decide) (by decide), fun _ => ⟨fun _ => hs 31 (by decide) (by decide), fun _ => hs 32 (by decide) (by decide)⟩⟩⟩⟩⟩⟩⟩⟩⟩⟩⟩⟩⟩⟩⟩⟩⟩⟩⟩⟩⟩⟩⟩⟩⟩⟩⟩⟩⟩⟩⟩
theorem law_next {d : Nat} {h : HV} {i : Int} {Q : Int → HV → Prop} (hi : 0 ≤ i) (hm : i + 7 ≤ 3584) (g : G fz1 d 0 1 [(3, 50), (3, 64), (3, 6603), (0, i + 7)] [] h Q) : G fz1 d 0 32 [(3, 50), (3, 64), (3, 6603), (0, i)] [] h Q := by
  apply G_in
  simp only [en0, b0_32, x_goto_1, x_iinc3, klp_0, klp_1, klp_2, klp_3, klp_9, KC_0, KC_1, KC_2, KC_3, KC_4, ne_eq, not_false_eq_true, not_true_eq_false, true_and, and_true, and_self, implies_true, eq_self, true_imp_iff, false_implies, Int.reduceEq, Int.reduceNe, Int.reduceMod, Int.reduceMul, Int.reduceAdd, Int.reduceSub, Int.reduceNeg, Int.reduceLT, Int.reduceLE, Nat.reduceAdd, Nat.reduceLeDiff, Nat.reduceLT, Nat.reduceSub, reduceIte, wds_n, wds_0, wds_1, wds_2, wds_3, or_true, true_or, or_false, false_or, or_self]
  rw [w32_id (by omega)]
  exact g
theorem law_b2 {d : Nat} {h : HV} {i : Int} {Q : Int → HV → Prop} (hd : 0 < d) (hi : 0 ≤ i) (hL : i + 7 ≤ h 50 (-1)) (hm : h 50 (-1) ≤ 3584) (H : Sp fz1 (d - 1) 21 [(3, 64), (0, (h 50 (i + 1))), (1, (l_or (l_shl (h 50 (i + 2)) 32) (l_and (h 50 (i + 3)) 4294967295)))] h (fun x h1 => h1 50 = h 50 ∧ Sp fz1 (d - 1) 319 [(3, 6603), (0, (h 50 (i + 1))), (1, (l_or (l_shl (h 50 (i + 2)) 32) (l_and (h 50 (i + 3)) 4294967295)))] h1 (fun y h2 => x = y ∧ G fz1 d 0 32 [(3, 50), (3, 64), (3, 6603), (0, i)] [] h2 Q))) : G fz1 d 0 2 [(3, 50), (3, 64), (3, 6603), (0, i)] [] h Q := by
  have w1 : w32 (i + 1) = i + 1 := w32_id (by omega)
  have b1 : (0 ≤ i + 1) = True := eq_true (by omega)
  have c1 : (i + 1 < h 50 (-1)) = True := eq_true (by omega)
  have w2 : w32 (i + 2) = i + 2 := w32_id (by omega)
  have b2 : (0 ≤ i + 2) = True := eq_true (by omega)
  have c2 : (i + 2 < h 50 (-1)) = True := eq_true (by omega)
  have w3 : w32 (i + 3) = i + 3 := w32_id (by omega)
  have b3 : (0 ≤ i + 3) = True := eq_true (by omega)
  have c3 : (i + 3 < h 50 (-1)) = True := eq_true (by omega)
  apply G_in
  simp only [en0, b0_2, x_aload0, x_aload1, x_aload2, x_bipush, y_call21, y_call319, x_freturn, x_i2l, x_iadd, x_iaload, x_iconst, x_if_icmp_eq_32, x_iload3, x_land, x_lor, x_lshl, klp_0, klp_1, klp_2, klp_3, klp_9, KC_0, KC_1, KC_2, KC_3, KC_4, ne_eq, not_false_eq_true, not_true_eq_false, true_and, and_true, and_self, implies_true, eq_self, true_imp_iff, false_implies, Int.reduceEq, Int.reduceNe, Int.reduceMod, Int.reduceMul, Int.reduceAdd, Int.reduceSub, Int.reduceNeg, Int.reduceLT, Int.reduceLE, Nat.reduceAdd, Nat.reduceLeDiff, Nat.reduceLT, Nat.reduceSub, reduceIte, wds_n, wds_0, wds_1, wds_2, wds_3, or_true, true_or, or_false, false_or, or_self, rd1_50, w1, w2, w3, b1, b2, b3, c1, c2, c3]
  refine ⟨hd, H.imp fun x h1 hx => ?_⟩
  obtain ⟨hS, hx⟩ := hx
  simp only [en0, b0_2, x_aload0, x_aload1, x_aload2, x_bipush, y_call21, y_call319, x_freturn, x_i2l, x_iadd, x_iaload, x_iconst, x_if_icmp_eq_32, x_iload3, x_land, x_lor, x_lshl, klp_0, klp_1, klp_2, klp_3, klp_9, KC_0, KC_1, KC_2, KC_3, KC_4, ne_eq, not_false_eq_true, not_true_eq_false, true_and, and_true, and_self, implies_true, eq_self, true_imp_iff, false_implies, Int.reduceEq, Int.reduceNe, Int.reduceMod, Int.reduceMul, Int.reduceAdd, Int.reduceSub, Int.reduceNeg, Int.reduceLT, Int.reduceLE, Nat.reduceAdd, Nat.reduceLeDiff, Nat.reduceLT, Nat.reduceSub, reduceIte, wds_n, wds_0, wds_1, wds_2, wds_3, or_true, true_or, or_false, false_or, or_self, hS, rd1_50, w1, w2, w3, b1, b2, b3, c1, c2, c3]
  refine ⟨hd, hx.imp fun y h2 hy => ?_⟩
  obtain ⟨e, hy⟩ := hy
  simp only [KC_0, x_if_icmp_eq_32, e]
  exact ⟨fun _ => hy, fun q => (q trivial).elim⟩
theorem law_b3 {d : Nat} {h : HV} {i : Int} {Q : Int → HV → Prop} (hd : 0 < d) (hi : 0 ≤ i) (hL : i + 7 ≤ h 50 (-1)) (hm : h 50 (-1) ≤ 3584) (H : Sp fz1 (d - 1) 24 [(3, 64)] h (fun x h1 => h1 50 = h 50 ∧ Sp fz1 (d - 1) 320 [(3, 6603)] h1 (fun y h2 => x = y ∧ G fz1 d 0 32 [(3, 50), (3, 64), (3, 6603), (0, i)] [] h2 Q))) : G fz1 d 0 3 [(3, 50), (3, 64), (3, 6603), (0, i)] [] h Q := by

  apply G_in
  simp only [en0, b0_3, x_aload1, x_aload2, y_call24, y_call320, x_freturn, x_iconst, x_if_icmp_eq_32, klp_0, klp_1, klp_2, klp_3, klp_9, KC_0, KC_1, KC_2, KC_3, KC_4, ne_eq, not_false_eq_true, not_true_eq_false, true_and, and_true, and_self, implies_true, eq_self, true_imp_iff, false_implies, Int.reduceEq, Int.reduceNe, Int.reduceMod, Int.reduceMul, Int.reduceAdd, Int.reduceSub, Int.reduceNeg, Int.reduceLT, Int.reduceLE, Nat.reduceAdd, Nat.reduceLeDiff, Nat.reduceLT, Nat.reduceSub, reduceIte, wds_n, wds_0, wds_1, wds_2, wds_3, or_true, true_or, or_false, false_or, or_self, rd1_50]
  refine ⟨hd, H.imp fun x h1 hx => ?_⟩
  obtain ⟨hS, hx⟩ := hx
  simp only [en0, b0_3, x_aload1, x_aload2, y_call24, y_call320, x_freturn, x_iconst, x_if_icmp_eq_32, klp_0, klp_1, klp_2, klp_3, klp_9, KC_0, KC_1, KC_2, KC_3, KC_4, ne_eq, not_false_eq_true, not_true_eq_false, true_and, and_true, and_self, implies_true, eq_self, true_imp_iff, false_implies, Int.reduceEq, Int.reduceNe, Int.reduceMod, Int.reduceMul, Int.reduceAdd, Int.reduceSub, Int.reduceNeg, Int.reduceLT, Int.reduceLE, Nat.reduceAdd, Nat.reduceLeDiff, Nat.reduceLT, Nat.reduceSub, reduceIte, wds_n, wds_0, wds_1, wds_2, wds_3, or_true, true_or, or_false, false_or, or_self, hS, rd1_50]
  refine ⟨hd, hx.imp fun y h2 hy => ?_⟩
  obtain ⟨e, hy⟩ := hy
  simp only [KC_0, x_if_icmp_eq_32, e]
  exact ⟨fun _ => hy, fun q => (q trivial).elim⟩
theorem law_b4 {d : Nat} {h : HV} {i : Int} {Q : Int → HV → Prop} (hd : 0 < d) (hi : 0 ≤ i) (hL : i + 7 ≤ h 50 (-1)) (hm : h 50 (-1) ≤ 3584) (H : Sp fz1 (d - 1) 131 [(3, 64), (0, (h 50 (i + 1)))] h (fun x h1 => h1 50 = h 50 ∧ Sp fz1 (d - 1) 444 [(3, 6603), (0, (h 50 (i + 1)))] h1 (fun y h2 => x = y ∧ G fz1 d 0 32 [(3, 50), (3, 64), (3, 6603), (0, i)] [] h2 Q))) : G fz1 d 0 4 [(3, 50), (3, 64), (3, 6603), (0, i)] [] h Q := by
  have w1 : w32 (i + 1) = i + 1 := w32_id (by omega)
  have b1 : (0 ≤ i + 1) = True := eq_true (by omega)
  have c1 : (i + 1 < h 50 (-1)) = True := eq_true (by omega)
  apply G_in
  simp only [en0, b0_4, x_aload0, x_aload1, x_aload2, y_call131, y_call444, x_freturn, x_iadd, x_iaload, x_iconst, x_if_icmp_eq_32, x_iload3, klp_0, klp_1, klp_2, klp_3, klp_9, KC_0, KC_1, KC_2, KC_3, KC_4, ne_eq, not_false_eq_true, not_true_eq_false, true_and, and_true, and_self, implies_true, eq_self, true_imp_iff, false_implies, Int.reduceEq, Int.reduceNe, Int.reduceMod, Int.reduceMul, Int.reduceAdd, Int.reduceSub, Int.reduceNeg, Int.reduceLT, Int.reduceLE, Nat.reduceAdd, Nat.reduceLeDiff, Nat.reduceLT, Nat.reduceSub, reduceIte, wds_n, wds_0, wds_1, wds_2, wds_3, or_true, true_or, or_false, false_or, or_self, rd1_50, w1, b1, c1]
  refine ⟨hd, H.imp fun x h1 hx => ?_⟩
  obtain ⟨hS, hx⟩ := hx
  simp only [en0, b0_4, x_aload0, x_aload1, x_aload2, y_call131, y_call444, x_freturn, x_iadd, x_iaload, x_iconst, x_if_icmp_eq_32, x_iload3, klp_0, klp_1, klp_2, klp_3, klp_9, KC_0, KC_1, KC_2, KC_3, KC_4, ne_eq, not_false_eq_true, not_true_eq_false, true_and, and_true, and_self, implies_true, eq_self, true_imp_iff, false_implies, Int.reduceEq, Int.reduceNe, Int.reduceMod, Int.reduceMul, Int.reduceAdd, Int.reduceSub, Int.reduceNeg, Int.reduceLT, Int.reduceLE, Nat.reduceAdd, Nat.reduceLeDiff, Nat.reduceLT, Nat.reduceSub, reduceIte, wds_n, wds_0, wds_1, wds_2, wds_3, or_true, true_or, or_false, false_or, or_self, hS, rd1_50, w1, b1, c1]
  refine ⟨hd, hx.imp fun y h2 hy => ?_⟩
  obtain ⟨e, hy⟩ := hy
  simp only [KC_0, x_if_icmp_eq_32, e]
  exact ⟨fun _ => hy, fun q => (q trivial).elim⟩
theorem law_b5 {d : Nat} {h : HV} {i : Int} {Q : Int → HV → Prop} (hd : 0 < d) (hi : 0 ≤ i) (hL : i + 7 ≤ h 50 (-1)) (hm : h 50 (-1) ≤ 3584) (H : Sp fz1 (d - 1) 135 [(3, 64), (0, (h 50 (i + 1))), (0, (h 50 (i + 2)))] h (fun x h1 => h1 50 = h 50 ∧ Sp fz1 (d - 1) 368 [(3, 6603), (0, (h 50 (i + 1))), (0, (h 50 (i + 2)))] h1 (fun y h2 => x = y ∧ G fz1 d 0 32 [(3, 50), (3, 64), (3, 6603), (0, i)] [] h2 Q))) : G fz1 d 0 5 [(3, 50), (3, 64), (3, 6603), (0, i)] [] h Q := by
  have w1 : w32 (i + 1) = i + 1 := w32_id (by omega)
  have b1 : (0 ≤ i + 1) = True := eq_true (by omega)
  have c1 : (i + 1 < h 50 (-1)) = True := eq_true (by omega)
  have w2 : w32 (i + 2) = i + 2 := w32_id (by omega)
  have b2 : (0 ≤ i + 2) = True := eq_true (by omega)
  have c2 : (i + 2 < h 50 (-1)) = True := eq_true (by omega)
  apply G_in
  simp only [en0, b0_5, x_aload0, x_aload1, x_aload2, y_call135, y_call368, x_freturn, x_iadd, x_iaload, x_iconst, x_if_icmp_eq_32, x_iload3, klp_0, klp_1, klp_2, klp_3, klp_9, KC_0, KC_1, KC_2, KC_3, KC_4, ne_eq, not_false_eq_true, not_true_eq_false, true_and, and_true, and_self, implies_true, eq_self, true_imp_iff, false_implies, Int.reduceEq, Int.reduceNe, Int.reduceMod, Int.reduceMul, Int.reduceAdd, Int.reduceSub, Int.reduceNeg, Int.reduceLT, Int.reduceLE, Nat.reduceAdd, Nat.reduceLeDiff, Nat.reduceLT, Nat.reduceSub, reduceIte, wds_n, wds_0, wds_1, wds_2, wds_3, or_true, true_or, or_false, false_or, or_self, rd1_50, w1, w2, b1, b2, c1, c2]
  refine ⟨hd, H.imp fun x h1 hx => ?_⟩
  obtain ⟨hS, hx⟩ := hx
  simp only [en0, b0_5, x_aload0, x_aload1, x_aload2, y_call135, y_call368, x_freturn, x_iadd, x_iaload, x_iconst, x_if_icmp_eq_32, x_iload3, klp_0, klp_1, klp_2, klp_3, klp_9, KC_0, KC_1, KC_2, KC_3, KC_4, ne_eq, not_false_eq_true, not_true_eq_false, true_and, and_true, and_self, implies_true, eq_self, true_imp_iff, false_implies, Int.reduceEq, Int.reduceNe, Int.reduceMod, Int.reduceMul, Int.reduceAdd, Int.reduceSub, Int.reduceNeg, Int.reduceLT, Int.reduceLE, Nat.reduceAdd, Nat.reduceLeDiff, Nat.reduceLT, Nat.reduceSub, reduceIte, wds_n, wds_0, wds_1, wds_2, wds_3, or_true, true_or, or_false, false_or, or_self, hS, rd1_50, w1, w2, b1, b2, c1, c2]
  refine ⟨hd, hx.imp fun y h2 hy => ?_⟩
  obtain ⟨e, hy⟩ := hy
  simp only [KC_0, x_if_icmp_eq_32, e]
  exact ⟨fun _ => hy, fun q => (q trivial).elim⟩
theorem law_b6 {d : Nat} {h : HV} {i : Int} {Q : Int → HV → Prop} (hd : 0 < d) (hi : 0 ≤ i) (hL : i + 7 ≤ h 50 (-1)) (hm : h 50 (-1) ≤ 3584) (H : Sp fz1 (d - 1) 141 [(3, 64), (0, (h 50 (i + 1)))] h (fun x h1 => h1 50 = h 50 ∧ Sp fz1 (d - 1) 370 [(3, 6603), (0, (h 50 (i + 1)))] h1 (fun y h2 => x = y ∧ G fz1 d 0 32 [(3, 50), (3, 64), (3, 6603), (0, i)] [] h2 Q))) : G fz1 d 0 6 [(3, 50), (3, 64), (3, 6603), (0, i)] [] h Q := by
  have w1 : w32 (i + 1) = i + 1 := w32_id (by omega)
  have b1 : (0 ≤ i + 1) = True := eq_true (by omega)
  have c1 : (i + 1 < h 50 (-1)) = True := eq_true (by omega)
  apply G_in
  simp only [en0, b0_6, x_aload0, x_aload1, x_aload2, y_call141, y_call370, x_freturn, x_iadd, x_iaload, x_iconst, x_if_icmp_eq_32, x_iload3, klp_0, klp_1, klp_2, klp_3, klp_9, KC_0, KC_1, KC_2, KC_3, KC_4, ne_eq, not_false_eq_true, not_true_eq_false, true_and, and_true, and_self, implies_true, eq_self, true_imp_iff, false_implies, Int.reduceEq, Int.reduceNe, Int.reduceMod, Int.reduceMul, Int.reduceAdd, Int.reduceSub, Int.reduceNeg, Int.reduceLT, Int.reduceLE, Nat.reduceAdd, Nat.reduceLeDiff, Nat.reduceLT, Nat.reduceSub, reduceIte, wds_n, wds_0, wds_1, wds_2, wds_3, or_true, true_or, or_false, false_or, or_self, rd1_50, w1, b1, c1]
  refine ⟨hd, H.imp fun x h1 hx => ?_⟩
  obtain ⟨hS, hx⟩ := hx
  simp only [en0, b0_6, x_aload0, x_aload1, x_aload2, y_call141, y_call370, x_freturn, x_iadd, x_iaload, x_iconst, x_if_icmp_eq_32, x_iload3, klp_0, klp_1, klp_2, klp_3, klp_9, KC_0, KC_1, KC_2, KC_3, KC_4, ne_eq, not_false_eq_true, not_true_eq_false, true_and, and_true, and_self, implies_true, eq_self, true_imp_iff, false_implies, Int.reduceEq, Int.reduceNe, Int.reduceMod, Int.reduceMul, Int.reduceAdd, Int.reduceSub, Int.reduceNeg, Int.reduceLT, Int.reduceLE, Nat.reduceAdd, Nat.reduceLeDiff, Nat.reduceLT, Nat.reduceSub, reduceIte, wds_n, wds_0, wds_1, wds_2, wds_3, or_true, true_or, or_false, false_or, or_self, hS, rd1_50, w1, b1, c1]
  refine ⟨hd, hx.imp fun y h2 hy => ?_⟩
  obtain ⟨e, hy⟩ := hy
  simp only [KC_0, x_if_icmp_eq_32, e]
  exact ⟨fun _ => hy, fun q => (q trivial).elim⟩
theorem law_b7 {d : Nat} {h : HV} {i : Int} {Q : Int → HV → Prop} (hd : 0 < d) (hi : 0 ≤ i) (hL : i + 7 ≤ h 50 (-1)) (hm : h 50 (-1) ≤ 3584) (H : Sp fz1 (d - 1) 142 [(3, 64), (0, (h 50 (i + 1))), (0, (h 50 (i + 2)))] h (fun x h1 => h1 50 = h 50 ∧ Sp fz1 (d - 1) 371 [(3, 6603), (0, (h 50 (i + 1))), (0, (h 50 (i + 2)))] h1 (fun y h2 => x = y ∧ G fz1 d 0 32 [(3, 50), (3, 64), (3, 6603), (0, i)] [] h2 Q))) : G fz1 d 0 7 [(3, 50), (3, 64), (3, 6603), (0, i)] [] h Q := by
  have w1 : w32 (i + 1) = i + 1 := w32_id (by omega)
  have b1 : (0 ≤ i + 1) = True := eq_true (by omega)
  have c1 : (i + 1 < h 50 (-1)) = True := eq_true (by omega)
  have w2 : w32 (i + 2) = i + 2 := w32_id (by omega)
  have b2 : (0 ≤ i + 2) = True := eq_true (by omega)
  have c2 : (i + 2 < h 50 (-1)) = True := eq_true (by omega)
  apply G_in
  simp only [en0, b0_7, x_aload0, x_aload1, x_aload2, y_call142, y_call371, x_freturn, x_iadd, x_iaload, x_iconst, x_if_icmp_eq_32, x_iload3, klp_0, klp_1, klp_2, klp_3, klp_9, KC_0, KC_1, KC_2, KC_3, KC_4, ne_eq, not_false_eq_true, not_true_eq_false, true_and, and_true, and_self, implies_true, eq_self, true_imp_iff, false_implies, Int.reduceEq, Int.reduceNe, Int.reduceMod, Int.reduceMul, Int.reduceAdd, Int.reduceSub, Int.reduceNeg, Int.reduceLT, Int.reduceLE, Nat.reduceAdd, Nat.reduceLeDiff, Nat.reduceLT, Nat.reduceSub, reduceIte, wds_n, wds_0, wds_1, wds_2, wds_3, or_true, true_or, or_false, false_or, or_self, rd1_50, w1, w2, b1, b2, c1, c2]
  refine ⟨hd, H.imp fun x h1 hx => ?_⟩
  obtain ⟨hS, hx⟩ := hx
  simp only [en0, b0_7, x_aload0, x_aload1, x_aload2, y_call142, y_call371, x_freturn, x_iadd, x_iaload, x_iconst, x_if_icmp_eq_32, x_iload3, klp_0, klp_1, klp_2, klp_3, klp_9, KC_0, KC_1, KC_2, KC_3, KC_4, ne_eq, not_false_eq_true, not_true_eq_false, true_and, and_true, and_self, implies_true, eq_self, true_imp_iff, false_implies, Int.reduceEq, Int.reduceNe, Int.reduceMod, Int.reduceMul, Int.reduceAdd, Int.reduceSub, Int.reduceNeg, Int.reduceLT, Int.reduceLE, Nat.reduceAdd, Nat.reduceLeDiff, Nat.reduceLT, Nat.reduceSub, reduceIte, wds_n, wds_0, wds_1, wds_2, wds_3, or_true, true_or, or_false, false_or, or_self, hS, rd1_50, w1, w2, b1, b2, c1, c2]
  refine ⟨hd, hx.imp fun y h2 hy => ?_⟩
  obtain ⟨e, hy⟩ := hy
  simp only [KC_0, x_if_icmp_eq_32, e]
  exact ⟨fun _ => hy, fun q => (q trivial).elim⟩
theorem law_b8 {d : Nat} {h : HV} {i : Int} {Q : Int → HV → Prop} (hd : 0 < d) (hi : 0 ≤ i) (hL : i + 7 ≤ h 50 (-1)) (hm : h 50 (-1) ≤ 3584) (H : Sp fz1 (d - 1) 145 [(3, 64), (0, (h 50 (i + 1))), (0, (h 50 (i + 2)))] h (fun x h1 => h1 50 = h 50 ∧ Sp fz1 (d - 1) 373 [(3, 6603), (0, (h 50 (i + 1))), (0, (h 50 (i + 2)))] h1 (fun y h2 => x = y ∧ G fz1 d 0 32 [(3, 50), (3, 64), (3, 6603), (0, i)] [] h2 Q))) : G fz1 d 0 8 [(3, 50), (3, 64), (3, 6603), (0, i)] [] h Q := by
  have w1 : w32 (i + 1) = i + 1 := w32_id (by omega)
  have b1 : (0 ≤ i + 1) = True := eq_true (by omega)
  have c1 : (i + 1 < h 50 (-1)) = True := eq_true (by omega)
  have w2 : w32 (i + 2) = i + 2 := w32_id (by omega)
  have b2 : (0 ≤ i + 2) = True := eq_true (by omega)
  have c2 : (i + 2 < h 50 (-1)) = True := eq_true (by omega)
  apply G_in
  simp only [en0, b0_8, x_aload0, x_aload1, x_aload2, y_call145, y_call373, x_freturn, x_iadd, x_iaload, x_iconst, x_if_icmp_eq_32, x_iload3, klp_0, klp_1, klp_2, klp_3, klp_9, KC_0, KC_1, KC_2, KC_3, KC_4, ne_eq, not_false_eq_true, not_true_eq_false, true_and, and_true, and_self, implies_true, eq_self, true_imp_iff, false_implies, Int.reduceEq, Int.reduceNe, Int.reduceMod, Int.reduceMul, Int.reduceAdd, Int.reduceSub, Int.reduceNeg, Int.reduceLT, Int.reduceLE, Nat.reduceAdd, Nat.reduceLeDiff, Nat.reduceLT, Nat.reduceSub, reduceIte, wds_n, wds_0, wds_1, wds_2, wds_3, or_true, true_or, or_false, false_or, or_self, rd1_50, w1, w2, b1, b2, c1, c2]
  refine ⟨hd, H.imp fun x h1 hx => ?_⟩
  obtain ⟨hS, hx⟩ := hx
  simp only [en0, b0_8, x_aload0, x_aload1, x_aload2, y_call145, y_call373, x_freturn, x_iadd, x_iaload, x_iconst, x_if_icmp_eq_32, x_iload3, klp_0, klp_1, klp_2, klp_3, klp_9, KC_0, KC_1, KC_2, KC_3, KC_4, ne_eq, not_false_eq_true, not_true_eq_false, true_and, and_true, and_self, implies_true, eq_self, true_imp_iff, false_implies, Int.reduceEq, Int.reduceNe, Int.reduceMod, Int.reduceMul, Int.reduceAdd, Int.reduceSub, Int.reduceNeg, Int.reduceLT, Int.reduceLE, Nat.reduceAdd, Nat.reduceLeDiff, Nat.reduceLT, Nat.reduceSub, reduceIte, wds_n, wds_0, wds_1, wds_2, wds_3, or_true, true_or, or_false, false_or, or_self, hS, rd1_50, w1, w2, b1, b2, c1, c2]
  refine ⟨hd, hx.imp fun y h2 hy => ?_⟩
  obtain ⟨e, hy⟩ := hy
  simp only [KC_0, x_if_icmp_eq_32, e]
  exact ⟨fun _ => hy, fun q => (q trivial).elim⟩
theorem law_b9 {d : Nat} {h : HV} {i : Int} {Q : Int → HV → Prop} (hd : 0 < d) (hi : 0 ≤ i) (hL : i + 7 ≤ h 50 (-1)) (hm : h 50 (-1) ≤ 3584) (H : Sp fz1 (d - 1) 151 [(3, 64), (0, (h 50 (i + 1))), (0, (h 50 (i + 2))), (0, (h 50 (i + 3)))] h (fun x h1 => h1 50 = h 50 ∧ Sp fz1 (d - 1) 375 [(3, 6603), (0, (h 50 (i + 1))), (0, (h 50 (i + 2))), (0, (h 50 (i + 3)))] h1 (fun y h2 => x = y ∧ G fz1 d 0 32 [(3, 50), (3, 64), (3, 6603), (0, i)] [] h2 Q))) : G fz1 d 0 9 [(3, 50), (3, 64), (3, 6603), (0, i)] [] h Q := by
  have w1 : w32 (i + 1) = i + 1 := w32_id (by omega)
  have b1 : (0 ≤ i + 1) = True := eq_true (by omega)
  have c1 : (i + 1 < h 50 (-1)) = True := eq_true (by omega)
  have w2 : w32 (i + 2) = i + 2 := w32_id (by omega)
  have b2 : (0 ≤ i + 2) = True := eq_true (by omega)
  have c2 : (i + 2 < h 50 (-1)) = True := eq_true (by omega)
  have w3 : w32 (i + 3) = i + 3 := w32_id (by omega)
  have b3 : (0 ≤ i + 3) = True := eq_true (by omega)
  have c3 : (i + 3 < h 50 (-1)) = True := eq_true (by omega)
  apply G_in
  simp only [en0, b0_9, x_aload0, x_aload1, x_aload2, y_call151, y_call375, x_freturn, x_iadd, x_iaload, x_iconst, x_if_icmp_eq_32, x_iload3, klp_0, klp_1, klp_2, klp_3, klp_9, KC_0, KC_1, KC_2, KC_3, KC_4, ne_eq, not_false_eq_true, not_true_eq_false, true_and, and_true, and_self, implies_true, eq_self, true_imp_iff, false_implies, Int.reduceEq, Int.reduceNe, Int.reduceMod, Int.reduceMul, Int.reduceAdd, Int.reduceSub, Int.reduceNeg, Int.reduceLT, Int.reduceLE, Nat.reduceAdd, Nat.reduceLeDiff, Nat.reduceLT, Nat.reduceSub, reduceIte, wds_n, wds_0, wds_1, wds_2, wds_3, or_true, true_or, or_false, false_or, or_self, rd1_50, w1, w2, w3, b1, b2, b3, c1, c2, c3]
  refine ⟨hd, H.imp fun x h1 hx => ?_⟩
  obtain ⟨hS, hx⟩ := hx
  simp only [en0, b0_9, x_aload0, x_aload1, x_aload2, y_call151, y_call375, x_freturn, x_iadd, x_iaload, x_iconst, x_if_icmp_eq_32, x_iload3, klp_0, klp_1, klp_2, klp_3, klp_9, KC_0, KC_1, KC_2, KC_3, KC_4, ne_eq, not_false_eq_true, not_true_eq_false, true_and, and_true, and_self, implies_true, eq_self, true_imp_iff, false_implies, Int.reduceEq, Int.reduceNe, Int.reduceMod, Int.reduceMul, Int.reduceAdd, Int.reduceSub, Int.reduceNeg, Int.reduceLT, Int.reduceLE, Nat.reduceAdd, Nat.reduceLeDiff, Nat.reduceLT, Nat.reduceSub, reduceIte, wds_n, wds_0, wds_1, wds_2, wds_3, or_true, true_or, or_false, false_or, or_self, hS, rd1_50, w1, w2, w3, b1, b2, b3, c1, c2, c3]
  refine ⟨hd, hx.imp fun y h2 hy => ?_⟩
  obtain ⟨e, hy⟩ := hy
  simp only [KC_0, x_if_icmp_eq_32, e]
  exact ⟨fun _ => hy, fun q => (q trivial).elim⟩
theorem law_b10 {d : Nat} {h : HV} {i : Int} {Q : Int → HV → Prop} (hd : 0 < d) (hi : 0 ≤ i) (hL : i + 7 ≤ h 50 (-1)) (hm : h 50 (-1) ≤ 3584) (H : Sp fz1 (d - 1) 157 [(3, 64), (0, (h 50 (i + 1))), (0, (h 50 (i + 2))), (0, (h 50 (i + 3))), (0, (h 50 (i + 4)))] h (fun x h1 => h1 50 = h 50 ∧ Sp fz1 (d - 1) 378 [(3, 6603), (0, (h 50 (i + 1))), (0, (h 50 (i + 2))), (0, (h 50 (i + 3))), (0, (h 50 (i + 4)))] h1 (fun y h2 => x = y ∧ G fz1 d 0 32 [(3, 50), (3, 64), (3, 6603), (0, i)] [] h2 Q))) : G fz1 d 0 10 [(3, 50), (3, 64), (3, 6603), (0, i)] [] h Q := by
  have w1 : w32 (i + 1) = i + 1 := w32_id (by omega)
  have b1 : (0 ≤ i + 1) = True := eq_true (by omega)
  have c1 : (i + 1 < h 50 (-1)) = True := eq_true (by omega)
  have w2 : w32 (i + 2) = i + 2 := w32_id (by omega)
  have b2 : (0 ≤ i + 2) = True := eq_true (by omega)
  have c2 : (i + 2 < h 50 (-1)) = True := eq_true (by omega)
  have w3 : w32 (i + 3) = i + 3 := w32_id (by omega)
  have b3 : (0 ≤ i + 3) = True := eq_true (by omega)
  have c3 : (i + 3 < h 50 (-1)) = True := eq_true (by omega)
  have w4 : w32 (i + 4) = i + 4 := w32_id (by omega)
  have b4 : (0 ≤ i + 4) = True := eq_true (by omega)
  have c4 : (i + 4 < h 50 (-1)) = True := eq_true (by omega)
  apply G_in
  simp only [en0, b0_10, x_aload0, x_aload1, x_aload2, y_call157, y_call378, x_freturn, x_iadd, x_iaload, x_iconst, x_if_icmp_eq_32, x_iload3, klp_0, klp_1, klp_2, klp_3, klp_9, KC_0, KC_1, KC_2, KC_3, KC_4, ne_eq, not_false_eq_true, not_true_eq_false, true_and, and_true, and_self, implies_true, eq_self, true_imp_iff, false_implies, Int.reduceEq, Int.reduceNe, Int.reduceMod, Int.reduceMul, Int.reduceAdd, Int.reduceSub, Int.reduceNeg, Int.reduceLT, Int.reduceLE, Nat.reduceAdd, Nat.reduceLeDiff, Nat.reduceLT, Nat.reduceSub, reduceIte, wds_n, wds_0, wds_1, wds_2, wds_3, or_true, true_or, or_false, false_or, or_self, rd1_50, w1, w2, w3, w4, b1, b2, b3, b4, c1, c2, c3, c4]
  refine ⟨hd, H.imp fun x h1 hx => ?_⟩
  obtain ⟨hS, hx⟩ := hx
  simp only [en0, b0_10, x_aload0, x_aload1, x_aload2, y_call157, y_call378, x_freturn, x_iadd, x_iaload, x_iconst, x_if_icmp_eq_32, x_iload3, klp_0, klp_1, klp_2, klp_3, klp_9, KC_0, KC_1, KC_2, KC_3, KC_4, ne_eq, not_false_eq_true, not_true_eq_false, true_and, and_true, and_self, implies_true, eq_self, true_imp_iff, false_implies, Int.reduceEq, Int.reduceNe, Int.reduceMod, Int.reduceMul, Int.reduceAdd, Int.reduceSub, Int.reduceNeg, Int.reduceLT, Int.reduceLE, Nat.reduceAdd, Nat.reduceLeDiff, Nat.reduceLT, Nat.reduceSub, reduceIte, wds_n, wds_0, wds_1, wds_2, wds_3, or_true, true_or, or_false, false_or, or_self, hS, rd1_50, w1, w2, w3, w4, b1, b2, b3, b4, c1, c2, c3, c4]
  refine ⟨hd, hx.imp fun y h2 hy => ?_⟩
  obtain ⟨e, hy⟩ := hy
  simp only [KC_0, x_if_icmp_eq_32, e]
  exact ⟨fun _ => hy, fun q => (q trivial).elim⟩
theorem law_b11 {d : Nat} {h : HV} {i : Int} {Q : Int → HV → Prop} (hd : 0 < d) (hi : 0 ≤ i) (hL : i + 7 ≤ h 50 (-1)) (hm : h 50 (-1) ≤ 3584) (H : Sp fz1 (d - 1) 163 [(3, 64), (0, (h 50 (i + 1))), (0, (h 50 (i + 2))), (0, (h 50 (i + 3)))] h (fun x h1 => h1 50 = h 50 ∧ Sp fz1 (d - 1) 379 [(3, 6603), (0, (h 50 (i + 1))), (0, (h 50 (i + 2))), (0, (h 50 (i + 3)))] h1 (fun y h2 => x = y ∧ G fz1 d 0 32 [(3, 50), (3, 64), (3, 6603), (0, i)] [] h2 Q))) : G fz1 d 0 11 [(3, 50), (3, 64), (3, 6603), (0, i)] [] h Q := by
  have w1 : w32 (i + 1) = i + 1 := w32_id (by omega)
  have b1 : (0 ≤ i + 1) = True := eq_true (by omega)
  have c1 : (i + 1 < h 50 (-1)) = True := eq_true (by omega)
  have w2 : w32 (i + 2) = i + 2 := w32_id (by omega)
  have b2 : (0 ≤ i + 2) = True := eq_true (by omega)
  have c2 : (i + 2 < h 50 (-1)) = True := eq_true (by omega)
  have w3 : w32 (i + 3) = i + 3 := w32_id (by omega)
  have b3 : (0 ≤ i + 3) = True := eq_true (by omega)
  have c3 : (i + 3 < h 50 (-1)) = True := eq_true (by omega)
  apply G_in
  simp only [en0, b0_11, x_aload0, x_aload1, x_aload2, y_call163, y_call379, x_freturn, x_iadd, x_iaload, x_iconst, x_if_icmp_eq_32, x_iload3, klp_0, klp_1, klp_2, klp_3, klp_9, KC_0, KC_1, KC_2, KC_3, KC_4, ne_eq, not_false_eq_true, not_true_eq_false, true_and, and_true, and_self, implies_true, eq_self, true_imp_iff, false_implies, Int.reduceEq, Int.reduceNe, Int.reduceMod, Int.reduceMul, Int.reduceAdd, Int.reduceSub, Int.reduceNeg, Int.reduceLT, Int.reduceLE, Nat.reduceAdd, Nat.reduceLeDiff, Nat.reduceLT, Nat.reduceSub, reduceIte, wds_n, wds_0, wds_1, wds_2, wds_3, or_true, true_or, or_false, false_or, or_self, rd1_50, w1, w2, w3, b1, b2, b3, c1, c2, c3]
  refine ⟨hd, H.imp fun x h1 hx => ?_⟩
  obtain ⟨hS, hx⟩ := hx
  simp only [en0, b0_11, x_aload0, x_aload1, x_aload2, y_call163, y_call379, x_freturn, x_iadd, x_iaload, x_iconst, x_if_icmp_eq_32, x_iload3, klp_0, klp_1, klp_2, klp_3, klp_9, KC_0, KC_1, KC_2, KC_3, KC_4, ne_eq, not_false_eq_true, not_true_eq_false, true_and, and_true, and_self, implies_true, eq_self, true_imp_iff, false_implies, Int.reduceEq, Int.reduceNe, Int.reduceMod, Int.reduceMul, Int.reduceAdd, Int.reduceSub, Int.reduceNeg, Int.reduceLT, Int.reduceLE, Nat.reduceAdd, Nat.reduceLeDiff, Nat.reduceLT, Nat.reduceSub, reduceIte, wds_n, wds_0, wds_1, wds_2, wds_3, or_true, true_or, or_false, false_or, or_self, hS, rd1_50, w1, w2, w3, b1, b2, b3, c1, c2, c3]
  refine ⟨hd, hx.imp fun y h2 hy => ?_⟩
  obtain ⟨e, hy⟩ := hy
  simp only [KC_0, x_if_icmp_eq_32, e]
  exact ⟨fun _ => hy, fun q => (q trivial).elim⟩
theorem law_b12 {d : Nat} {h : HV} {i : Int} {Q : Int → HV → Prop} (hd : 0 < d) (hi : 0 ≤ i) (hL : i + 7 ≤ h 50 (-1)) (hm : h 50 (-1) ≤ 3584) (H : Sp fz1 (d - 1) 164 [(3, 64), (0, (h 50 (i + 1))), (0, (h 50 (i + 2))), (0, (h 50 (i + 3))), (0, (h 50 (i + 4))), (0, (h 50 (i + 5))), (0, (h 50 (i + 6)))] h (fun x h1 => h1 50 = h 50 ∧ Sp fz1 (d - 1) 380 [(3, 6603), (0, (h 50 (i + 1))), (0, (h 50 (i + 2))), (0, (h 50 (i + 3))), (0, (h 50 (i + 4))), (0, (h 50 (i + 5))), (0, (h 50 (i + 6)))] h1 (fun y h2 => x = y ∧ G fz1 d 0 32 [(3, 50), (3, 64), (3, 6603), (0, i)] [] h2 Q))) : G fz1 d 0 12 [(3, 50), (3, 64), (3, 6603), (0, i)] [] h Q := by
  have w1 : w32 (i + 1) = i + 1 := w32_id (by omega)
  have b1 : (0 ≤ i + 1) = True := eq_true (by omega)
  have c1 : (i + 1 < h 50 (-1)) = True := eq_true (by omega)
  have w2 : w32 (i + 2) = i + 2 := w32_id (by omega)
  have b2 : (0 ≤ i + 2) = True := eq_true (by omega)
  have c2 : (i + 2 < h 50 (-1)) = True := eq_true (by omega)
  have w3 : w32 (i + 3) = i + 3 := w32_id (by omega)
  have b3 : (0 ≤ i + 3) = True := eq_true (by omega)
  have c3 : (i + 3 < h 50 (-1)) = True := eq_true (by omega)
  have w4 : w32 (i + 4) = i + 4 := w32_id (by omega)
  have b4 : (0 ≤ i + 4) = True := eq_true (by omega)
  have c4 : (i + 4 < h 50 (-1)) = True := eq_true (by omega)
  have w5 : w32 (i + 5) = i + 5 := w32_id (by omega)
  have b5 : (0 ≤ i + 5) = True := eq_true (by omega)
  have c5 : (i + 5 < h 50 (-1)) = True := eq_true (by omega)
  have w6 : w32 (i + 6) = i + 6 := w32_id (by omega)
  have b6 : (0 ≤ i + 6) = True := eq_true (by omega)
  have c6 : (i + 6 < h 50 (-1)) = True := eq_true (by omega)
  apply G_in
  simp only [en0, b0_12, x_aload0, x_aload1, x_aload2, y_call164, y_call380, x_freturn, x_iadd, x_iaload, x_iconst, x_if_icmp_eq_32, x_iload3, klp_0, klp_1, klp_2, klp_3, klp_9, KC_0, KC_1, KC_2, KC_3, KC_4, ne_eq, not_false_eq_true, not_true_eq_false, true_and, and_true, and_self, implies_true, eq_self, true_imp_iff, false_implies, Int.reduceEq, Int.reduceNe, Int.reduceMod, Int.reduceMul, Int.reduceAdd, Int.reduceSub, Int.reduceNeg, Int.reduceLT, Int.reduceLE, Nat.reduceAdd, Nat.reduceLeDiff, Nat.reduceLT, Nat.reduceSub, reduceIte, wds_n, wds_0, wds_1, wds_2, wds_3, or_true, true_or, or_false, false_or, or_self, rd1_50, w1, w2, w3, w4, w5, w6, b1, b2, b3, b4, b5, b6, c1, c2, c3, c4, c5, c6]
  refine ⟨hd, H.imp fun x h1 hx => ?_⟩
  obtain ⟨hS, hx⟩ := hx
  simp only [en0, b0_12, x_aload0, x_aload1, x_aload2, y_call164, y_call380, x_freturn, x_iadd, x_iaload, x_iconst, x_if_icmp_eq_32, x_iload3, klp_0, klp_1, klp_2, klp_3, klp_9, KC_0, KC_1, KC_2, KC_3, KC_4, ne_eq, not_false_eq_true, not_true_eq_false, true_and, and_true, and_self, implies_true, eq_self, true_imp_iff, false_implies, Int.reduceEq, Int.reduceNe, Int.reduceMod, Int.reduceMul, Int.reduceAdd, Int.reduceSub, Int.reduceNeg, Int.reduceLT, Int.reduceLE, Nat.reduceAdd, Nat.reduceLeDiff, Nat.reduceLT, Nat.reduceSub, reduceIte, wds_n, wds_0, wds_1, wds_2, wds_3, or_true, true_or, or_false, false_or, or_self, hS, rd1_50, w1, w2, w3, w4, w5, w6, b1, b2, b3, b4, b5, b6, c1, c2, c3, c4, c5, c6]
  refine ⟨hd, hx.imp fun y h2 hy => ?_⟩
  obtain ⟨e, hy⟩ := hy
  simp only [KC_0, x_if_icmp_eq_32, e]
  exact ⟨fun _ => hy, fun q => (q trivial).elim⟩
theorem law_b13 {d : Nat} {h : HV} {i : Int} {Q : Int → HV → Prop} (hd : 0 < d) (hi : 0 ≤ i) (hL : i + 7 ≤ h 50 (-1)) (hm : h 50 (-1) ≤ 3584) (H : Sp fz1 (d - 1) 235 [(3, 64), (0, (h 50 (i + 1)))] h (fun x h1 => h1 50 = h 50 ∧ Sp fz1 (d - 1) 411 [(3, 6603), (0, (h 50 (i + 1)))] h1 (fun y h2 => x = y ∧ G fz1 d 0 32 [(3, 50), (3, 64), (3, 6603), (0, i)] [] h2 Q))) : G fz1 d 0 13 [(3, 50), (3, 64), (3, 6603), (0, i)] [] h Q := by
  have w1 : w32 (i + 1) = i + 1 := w32_id (by omega)
  have b1 : (0 ≤ i + 1) = True := eq_true (by omega)
  have c1 : (i + 1 < h 50 (-1)) = True := eq_true (by omega)
  apply G_in
  simp only [en0, b0_13, x_aload0, x_aload1, x_aload2, y_call235, y_call411, x_freturn, x_iadd, x_iaload, x_iconst, x_ifCond_eq_32, x_iload3, x_lcmp, klp_0, klp_1, klp_2, klp_3, klp_9, KC_0, KC_1, KC_2, KC_3, KC_4, ne_eq, not_false_eq_true, not_true_eq_false, true_and, and_true, and_self, implies_true, eq_self, true_imp_iff, false_implies, Int.reduceEq, Int.reduceNe, Int.reduceMod, Int.reduceMul, Int.reduceAdd, Int.reduceSub, Int.reduceNeg, Int.reduceLT, Int.reduceLE, Nat.reduceAdd, Nat.reduceLeDiff, Nat.reduceLT, Nat.reduceSub, reduceIte, wds_n, wds_0, wds_1, wds_2, wds_3, or_true, true_or, or_false, false_or, or_self, rd1_50, w1, b1, c1]
  refine ⟨hd, H.imp fun x h1 hx => ?_⟩
  obtain ⟨hS, hx⟩ := hx
  simp only [en0, b0_13, x_aload0, x_aload1, x_aload2, y_call235, y_call411, x_freturn, x_iadd, x_iaload, x_iconst, x_ifCond_eq_32, x_iload3, x_lcmp, klp_0, klp_1, klp_2, klp_3, klp_9, KC_0, KC_1, KC_2, KC_3, KC_4, ne_eq, not_false_eq_true, not_true_eq_false, true_and, and_true, and_self, implies_true, eq_self, true_imp_iff, false_implies, Int.reduceEq, Int.reduceNe, Int.reduceMod, Int.reduceMul, Int.reduceAdd, Int.reduceSub, Int.reduceNeg, Int.reduceLT, Int.reduceLE, Nat.reduceAdd, Nat.reduceLeDiff, Nat.reduceLT, Nat.reduceSub, reduceIte, wds_n, wds_0, wds_1, wds_2, wds_3, or_true, true_or, or_false, false_or, or_self, hS, rd1_50, w1, b1, c1]
  refine ⟨hd, hx.imp fun y h2 hy => ?_⟩
  obtain ⟨e, hy⟩ := hy
  simp only [KC_1, x_lcmp, x_ifCond_eq_32, e, lcmp_self]
  exact ⟨fun _ => hy, fun q => (q trivial).elim⟩
theorem law_b14 {d : Nat} {h : HV} {i : Int} {Q : Int → HV → Prop} (hd : 0 < d) (hi : 0 ≤ i) (hL : i + 7 ≤ h 50 (-1)) (hm : h 50 (-1) ≤ 3584) (H : Sp fz1 (d - 1) 236 [(3, 64)] h (fun x h1 => h1 50 = h 50 ∧ Sp fz1 (d - 1) 412 [(3, 6603)] h1 (fun y h2 => x = y ∧ G fz1 d 0 32 [(3, 50), (3, 64), (3, 6603), (0, i)] [] h2 Q))) : G fz1 d 0 14 [(3, 50), (3, 64), (3, 6603), (0, i)] [] h Q := by

  apply G_in
  simp only [en0, b0_14, x_aload1, x_aload2, y_call236, y_call412, x_freturn, x_iconst, x_if_icmp_eq_32, klp_0, klp_1, klp_2, klp_3, klp_9, KC_0, KC_1, KC_2, KC_3, KC_4, ne_eq, not_false_eq_true, not_true_eq_false, true_and, and_true, and_self, implies_true, eq_self, true_imp_iff, false_implies, Int.reduceEq, Int.reduceNe, Int.reduceMod, Int.reduceMul, Int.reduceAdd, Int.reduceSub, Int.reduceNeg, Int.reduceLT, Int.reduceLE, Nat.reduceAdd, Nat.reduceLeDiff, Nat.reduceLT, Nat.reduceSub, reduceIte, wds_n, wds_0, wds_1, wds_2, wds_3, or_true, true_or, or_false, false_or, or_self, rd1_50]
  refine ⟨hd, H.imp fun x h1 hx => ?_⟩
  obtain ⟨hS, hx⟩ := hx
  simp only [en0, b0_14, x_aload1, x_aload2, y_call236, y_call412, x_freturn, x_iconst, x_if_icmp_eq_32, klp_0, klp_1, klp_2, klp_3, klp_9, KC_0, KC_1, KC_2, KC_3, KC_4, ne_eq, not_false_eq_true, not_true_eq_false, true_and, and_true, and_self, implies_true, eq_self, true_imp_iff, false_implies, Int.reduceEq, Int.reduceNe, Int.reduceMod, Int.reduceMul, Int.reduceAdd, Int.reduceSub, Int.reduceNeg, Int.reduceLT, Int.reduceLE, Nat.reduceAdd, Nat.reduceLeDiff, Nat.reduceLT, Nat.reduceSub, reduceIte, wds_n, wds_0, wds_1, wds_2, wds_3, or_true, true_or, or_false, false_or, or_self, hS, rd1_50]
  refine ⟨hd, hx.imp fun y h2 hy => ?_⟩
  obtain ⟨e, hy⟩ := hy
  simp only [KC_0, x_if_icmp_eq_32, e]
  exact ⟨fun _ => hy, fun q => (q trivial).elim⟩
theorem law_b15 {d : Nat} {h : HV} {i : Int} {Q : Int → HV → Prop} (hd : 0 < d) (hi : 0 ≤ i) (hL : i + 7 ≤ h 50 (-1)) (hm : h 50 (-1) ≤ 3584) (H : Sp fz1 (d - 1) 237 [(3, 64), (0, (h 50 (i + 1))), (0, (h 50 (i + 2)))] h (fun x h1 => h1 50 = h 50 ∧ Sp fz1 (d - 1) 413 [(3, 6603), (0, (h 50 (i + 1))), (0, (h 50 (i + 2)))] h1 (fun y h2 => x = y ∧ G fz1 d 0 32 [(3, 50), (3, 64), (3, 6603), (0, i)] [] h2 Q))) : G fz1 d 0 15 [(3, 50), (3, 64), (3, 6603), (0, i)] [] h Q := by
  have w1 : w32 (i + 1) = i + 1 := w32_id (by omega)
  have b1 : (0 ≤ i + 1) = True := eq_true (by omega)
  have c1 : (i + 1 < h 50 (-1)) = True := eq_true (by omega)
  have w2 : w32 (i + 2) = i + 2 := w32_id (by omega)
  have b2 : (0 ≤ i + 2) = True := eq_true (by omega)
  have c2 : (i + 2 < h 50 (-1)) = True := eq_true (by omega)
  apply G_in
  simp only [en0, b0_15, x_aload0, x_aload1, x_aload2, y_call237, y_call413, x_freturn, x_iadd, x_iaload, x_iconst, x_if_icmp_eq_32, x_iload3, klp_0, klp_1, klp_2, klp_3, klp_9, KC_0, KC_1, KC_2, KC_3, KC_4, ne_eq, not_false_eq_true, not_true_eq_false, true_and, and_true, and_self, implies_true, eq_self, true_imp_iff, false_implies, Int.reduceEq, Int.reduceNe, Int.reduceMod, Int.reduceMul, Int.reduceAdd, Int.reduceSub, Int.reduceNeg, Int.reduceLT, Int.reduceLE, Nat.reduceAdd, Nat.reduceLeDiff, Nat.reduceLT, Nat.reduceSub, reduceIte, wds_n, wds_0, wds_1, wds_2, wds_3, or_true, true_or, or_false, false_or, or_self, rd1_50, w1, w2, b1, b2, c1, c2]
  refine ⟨hd, H.imp fun x h1 hx => ?_⟩
  obtain ⟨hS, hx⟩ := hx
  simp only [en0, b0_15, x_aload0, x_aload1, x_aload2, y_call237, y_call413, x_freturn, x_iadd, x_iaload, x_iconst, x_if_icmp_eq_32, x_iload3, klp_0, klp_1, klp_2, klp_3, klp_9, KC_0, KC_1, KC_2, KC_3, KC_4, ne_eq, not_false_eq_true, not_true_eq_false, true_and, and_true, and_self, implies_true, eq_self, true_imp_iff, false_implies, Int.reduceEq, Int.reduceNe, Int.reduceMod, Int.reduceMul, Int.reduceAdd, Int.reduceSub, Int.reduceNeg, Int.reduceLT, Int.reduceLE, Nat.reduceAdd, Nat.reduceLeDiff, Nat.reduceLT, Nat.reduceSub, reduceIte, wds_n, wds_0, wds_1, wds_2, wds_3, or_true, true_or, or_false, false_or, or_self, hS, rd1_50, w1, w2, b1, b2, c1, c2]
  refine ⟨hd, hx.imp fun y h2 hy => ?_⟩
  obtain ⟨e, hy⟩ := hy
  simp only [KC_0, x_if_icmp_eq_32, e]
  exact ⟨fun _ => hy, fun q => (q trivial).elim⟩
theorem law_b16 {d : Nat} {h : HV} {i : Int} {Q : Int → HV → Prop} (hd : 0 < d) (hi : 0 ≤ i) (hL : i + 7 ≤ h 50 (-1)) (hm : h 50 (-1) ≤ 3584) (H : Sp fz1 (d - 1) 240 [(3, 64), (0, (h 50 (i + 1)))] h (fun x h1 => h1 50 = h 50 ∧ Sp fz1 (d - 1) 415 [(3, 6603), (0, (h 50 (i + 1)))] h1 (fun y h2 => x = y ∧ G fz1 d 0 32 [(3, 50), (3, 64), (3, 6603), (0, i)] [] h2 Q))) : G fz1 d 0 16 [(3, 50), (3, 64), (3, 6603), (0, i)] [] h Q := by
  have w1 : w32 (i + 1) = i + 1 := w32_id (by omega)
  have b1 : (0 ≤ i + 1) = True := eq_true (by omega)
  have c1 : (i + 1 < h 50 (-1)) = True := eq_true (by omega)
  apply G_in
  simp only [en0, b0_16, x_aload0, x_aload1, x_aload2, y_call240, y_call415, x_freturn, x_iadd, x_iaload, x_iconst, x_if_icmp_eq_32, x_iload3, klp_0, klp_1, klp_2, klp_3, klp_9, KC_0, KC_1, KC_2, KC_3, KC_4, ne_eq, not_false_eq_true, not_true_eq_false, true_and, and_true, and_self, implies_true, eq_self, true_imp_iff, false_implies, Int.reduceEq, Int.reduceNe, Int.reduceMod, Int.reduceMul, Int.reduceAdd, Int.reduceSub, Int.reduceNeg, Int.reduceLT, Int.reduceLE, Nat.reduceAdd, Nat.reduceLeDiff, Nat.reduceLT, Nat.reduceSub, reduceIte, wds_n, wds_0, wds_1, wds_2, wds_3, or_true, true_or, or_false, false_or, or_self, rd1_50, w1, b1, c1]
  refine ⟨hd, H.imp fun x h1 hx => ?_⟩
  obtain ⟨hS, hx⟩ := hx
  simp only [en0, b0_16, x_aload0, x_aload1, x_aload2, y_call240, y_call415, x_freturn, x_iadd, x_iaload, x_iconst, x_if_icmp_eq_32, x_iload3, klp_0, klp_1, klp_2, klp_3, klp_9, KC_0, KC_1, KC_2, KC_3, KC_4, ne_eq, not_false_eq_true, not_true_eq_false, true_and, and_true, and_self, implies_true, eq_self, true_imp_iff, false_implies, Int.reduceEq, Int.reduceNe, Int.reduceMod, Int.reduceMul, Int.reduceAdd, Int.reduceSub, Int.reduceNeg, Int.reduceLT, Int.reduceLE, Nat.reduceAdd, Nat.reduceLeDiff, Nat.reduceLT, Nat.reduceSub, reduceIte, wds_n, wds_0, wds_1, wds_2, wds_3, or_true, true_or, or_false, false_or, or_self, hS, rd1_50, w1, b1, c1]
  refine ⟨hd, hx.imp fun y h2 hy => ?_⟩
  obtain ⟨e, hy⟩ := hy
  simp only [KC_0, x_if_icmp_eq_32, e]
  exact ⟨fun _ => hy, fun q => (q trivial).elim⟩
theorem law_b17 {d : Nat} {h : HV} {i : Int} {Q : Int → HV → Prop} (hd : 0 < d) (hi : 0 ≤ i) (hL : i + 7 ≤ h 50 (-1)) (hm : h 50 (-1) ≤ 3584) (H : Sp fz1 (d - 1) 241 [(3, 64), (0, (h 50 (i + 1)))] h (fun x h1 => h1 50 = h 50 ∧ Sp fz1 (d - 1) 416 [(3, 6603), (0, (h 50 (i + 1)))] h1 (fun y h2 => x = y ∧ G fz1 d 0 32 [(3, 50), (3, 64), (3, 6603), (0, i)] [] h2 Q))) : G fz1 d 0 17 [(3, 50), (3, 64), (3, 6603), (0, i)] [] h Q := by
  have w1 : w32 (i + 1) = i + 1 := w32_id (by omega)
  have b1 : (0 ≤ i + 1) = True := eq_true (by omega)
  have c1 : (i + 1 < h 50 (-1)) = True := eq_true (by omega)
  apply G_in
  simp only [en0, b0_17, x_aload0, x_aload1, x_aload2, y_call241, y_call416, x_freturn, x_iadd, x_iaload, x_iconst, x_if_icmp_eq_32, x_iload3, klp_0, klp_1, klp_2, klp_3, klp_9, KC_0, KC_1, KC_2, KC_3, KC_4, ne_eq, not_false_eq_true, not_true_eq_false, true_and, and_true, and_self, implies_true, eq_self, true_imp_iff, false_implies, Int.reduceEq, Int.reduceNe, Int.reduceMod, Int.reduceMul, Int.reduceAdd, Int.reduceSub, Int.reduceNeg, Int.reduceLT, Int.reduceLE, Nat.reduceAdd, Nat.reduceLeDiff, Nat.reduceLT, Nat.reduceSub, reduceIte, wds_n, wds_0, wds_1, wds_2, wds_3, or_true, true_or, or_false, false_or, or_self, rd1_50, w1, b1, c1]
  refine ⟨hd, H.imp fun x h1 hx => ?_⟩
  obtain ⟨hS, hx⟩ := hx
  simp only [en0, b0_17, x_aload0, x_aload1, x_aload2, y_call241, y_call416, x_freturn, x_iadd, x_iaload, x_iconst, x_if_icmp_eq_32, x_iload3, klp_0, klp_1, klp_2, klp_3, klp_9, KC_0, KC_1, KC_2, KC_3, KC_4, ne_eq, not_false_eq_true, not_true_eq_false, true_and, and_true, and_self, implies_true, eq_self, true_imp_iff, false_implies, Int.reduceEq, Int.reduceNe, Int.reduceMod, Int.reduceMul, Int.reduceAdd, Int.reduceSub, Int.reduceNeg, Int.reduceLT, Int.reduceLE, Nat.reduceAdd, Nat.reduceLeDiff, Nat.reduceLT, Nat.reduceSub, reduceIte, wds_n, wds_0, wds_1, wds_2, wds_3, or_true, true_or, or_false, false_or, or_self, hS, rd1_50, w1, b1, c1]
  refine ⟨hd, hx.imp fun y h2 hy => ?_⟩
  obtain ⟨e, hy⟩ := hy
  simp only [KC_0, x_if_icmp_eq_32, e]
  exact ⟨fun _ => hy, fun q => (q trivial).elim⟩
theorem law_b18 {d : Nat} {h : HV} {i : Int} {Q : Int → HV → Prop} (hd : 0 < d) (hi : 0 ≤ i) (hL : i + 7 ≤ h 50 (-1)) (hm : h 50 (-1) ≤ 3584) (H : Sp fz1 (d - 1) 244 [(3, 64), (0, (h 50 (i + 1))), (0, (h 50 (i + 2))), (0, (h 50 (i + 3)))] h (fun x h1 => h1 50 = h 50 ∧ Sp fz1 (d - 1) 418 [(3, 6603), (0, (h 50 (i + 1))), (0, (h 50 (i + 2))), (0, (h 50 (i + 3)))] h1 (fun y h2 => x = y ∧ G fz1 d 0 32 [(3, 50), (3, 64), (3, 6603), (0, i)] [] h2 Q))) : G fz1 d 0 18 [(3, 50), (3, 64), (3, 6603), (0, i)] [] h Q := by
  have w1 : w32 (i + 1) = i + 1 := w32_id (by omega)
  have b1 : (0 ≤ i + 1) = True := eq_true (by omega)
  have c1 : (i + 1 < h 50 (-1)) = True := eq_true (by omega)
  have w2 : w32 (i + 2) = i + 2 := w32_id (by omega)
  have b2 : (0 ≤ i + 2) = True := eq_true (by omega)
  have c2 : (i + 2 < h 50 (-1)) = True := eq_true (by omega)
  have w3 : w32 (i + 3) = i + 3 := w32_id (by omega)
  have b3 : (0 ≤ i + 3) = True := eq_true (by omega)
  have c3 : (i + 3 < h 50 (-1)) = True := eq_true (by omega)
  apply G_in
  simp only [en0, b0_18, x_aload0, x_aload1, x_aload2, y_call244, y_call418, x_freturn, x_iadd, x_iaload, x_iconst, x_if_icmp_eq_32, x_iload3, klp_0, klp_1, klp_2, klp_3, klp_9, KC_0, KC_1, KC_2, KC_3, KC_4, ne_eq, not_false_eq_true, not_true_eq_false, true_and, and_true, and_self, implies_true, eq_self, true_imp_iff, false_implies, Int.reduceEq, Int.reduceNe, Int.reduceMod, Int.reduceMul, Int.reduceAdd, Int.reduceSub, Int.reduceNeg, Int.reduceLT, Int.reduceLE, Nat.reduceAdd, Nat.reduceLeDiff, Nat.reduceLT, Nat.reduceSub, reduceIte, wds_n, wds_0, wds_1, wds_2, wds_3, or_true, true_or, or_false, false_or, or_self, rd1_50, w1, w2, w3, b1, b2, b3, c1, c2, c3]
  refine ⟨hd, H.imp fun x h1 hx => ?_⟩
  obtain ⟨hS, hx⟩ := hx
  simp only [en0, b0_18, x_aload0, x_aload1, x_aload2, y_call244, y_call418, x_freturn, x_iadd, x_iaload, x_iconst, x_if_icmp_eq_32, x_iload3, klp_0, klp_1, klp_2, klp_3, klp_9, KC_0, KC_1, KC_2, KC_3, KC_4, ne_eq, not_false_eq_true, not_true_eq_false, true_and, and_true, and_self, implies_true, eq_self, true_imp_iff, false_implies, Int.reduceEq, Int.reduceNe, Int.reduceMod, Int.reduceMul, Int.reduceAdd, Int.reduceSub, Int.reduceNeg, Int.reduceLT, Int.reduceLE, Nat.reduceAdd, Nat.reduceLeDiff, Nat.reduceLT, Nat.reduceSub, reduceIte, wds_n, wds_0, wds_1, wds_2, wds_3, or_true, true_or, or_false, false_or, or_self, hS, rd1_50, w1, w2, w3, b1, b2, b3, c1, c2, c3]
  refine ⟨hd, hx.imp fun y h2 hy => ?_⟩
  obtain ⟨e, hy⟩ := hy
  simp only [KC_0, x_if_icmp_eq_32, e]
  exact ⟨fun _ => hy, fun q => (q trivial).elim⟩
theorem law_b19 {d : Nat} {h : HV} {i : Int} {Q : Int → HV → Prop} (hd : 0 < d) (hi : 0 ≤ i) (hL : i + 7 ≤ h 50 (-1)) (hm : h 50 (-1) ≤ 3584) (H : Sp fz1 (d - 1) 249 [(3, 64), (0, (h 50 (i + 1))), (0, (h 50 (i + 2))), (0, (h 50 (i + 3)))] h (fun x h1 => h1 50 = h 50 ∧ Sp fz1 (d - 1) 420 [(3, 6603), (0, (h 50 (i + 1))), (0, (h 50 (i + 2))), (0, (h 50 (i + 3)))] h1 (fun y h2 => x = y ∧ G fz1 d 0 32 [(3, 50), (3, 64), (3, 6603), (0, i)] [] h2 Q))) : G fz1 d 0 19 [(3, 50), (3, 64), (3, 6603), (0, i)] [] h Q := by
  have w1 : w32 (i + 1) = i + 1 := w32_id (by omega)
  have b1 : (0 ≤ i + 1) = True := eq_true (by omega)
  have c1 : (i + 1 < h 50 (-1)) = True := eq_true (by omega)
  have w2 : w32 (i + 2) = i + 2 := w32_id (by omega)
  have b2 : (0 ≤ i + 2) = True := eq_true (by omega)
  have c2 : (i + 2 < h 50 (-1)) = True := eq_true (by omega)
  have w3 : w32 (i + 3) = i + 3 := w32_id (by omega)
  have b3 : (0 ≤ i + 3) = True := eq_true (by omega)
  have c3 : (i + 3 < h 50 (-1)) = True := eq_true (by omega)
  apply G_in
  simp only [en0, b0_19, x_aload0, x_aload1, x_aload2, y_call249, y_call420, x_freturn, x_iadd, x_iaload, x_iconst, x_if_icmp_eq_32, x_iload3, klp_0, klp_1, klp_2, klp_3, klp_9, KC_0, KC_1, KC_2, KC_3, KC_4, ne_eq, not_false_eq_true, not_true_eq_false, true_and, and_true, and_self, implies_true, eq_self, true_imp_iff, false_implies, Int.reduceEq, Int.reduceNe, Int.reduceMod, Int.reduceMul, Int.reduceAdd, Int.reduceSub, Int.reduceNeg, Int.reduceLT, Int.reduceLE, Nat.reduceAdd, Nat.reduceLeDiff, Nat.reduceLT, Nat.reduceSub, reduceIte, wds_n, wds_0, wds_1, wds_2, wds_3, or_true, true_or, or_false, false_or, or_self, rd1_50, w1, w2, w3, b1, b2, b3, c1, c2, c3]
  refine ⟨hd, H.imp fun x h1 hx => ?_⟩
  obtain ⟨hS, hx⟩ := hx
  simp only [en0, b0_19, x_aload0, x_aload1, x_aload2, y_call249, y_call420, x_freturn, x_iadd, x_iaload, x_iconst, x_if_icmp_eq_32, x_iload3, klp_0, klp_1, klp_2, klp_3, klp_9, KC_0, KC_1, KC_2, KC_3, KC_4, ne_eq, not_false_eq_true, not_true_eq_false, true_and, and_true, and_self, implies_true, eq_self, true_imp_iff, false_implies, Int.reduceEq, Int.reduceNe, Int.reduceMod, Int.reduceMul, Int.reduceAdd, Int.reduceSub, Int.reduceNeg, Int.reduceLT, Int.reduceLE, Nat.reduceAdd, Nat.reduceLeDiff, Nat.reduceLT, Nat.reduceSub, reduceIte, wds_n, wds_0, wds_1, wds_2, wds_3, or_true, true_or, or_false, false_or, or_self, hS, rd1_50, w1, w2, w3, b1, b2, b3, c1, c2, c3]
  refine ⟨hd, hx.imp fun y h2 hy => ?_⟩
  obtain ⟨e, hy⟩ := hy
  simp only [KC_0, x_if_icmp_eq_32, e]
  exact ⟨fun _ => hy, fun q => (q trivial).elim⟩
theorem law_b20 {d : Nat} {h : HV} {i : Int} {Q : Int → HV → Prop} (hd : 0 < d) (hi : 0 ≤ i) (hL : i + 7 ≤ h 50 (-1)) (hm : h 50 (-1) ≤ 3584) (H : Sp fz1 (d - 1) 252 [(3, 64), (0, (h 50 (i + 1)))] h (fun x h1 => h1 50 = h 50 ∧ Sp fz1 (d - 1) 421 [(3, 6603), (0, (h 50 (i + 1)))] h1 (fun y h2 => x = y ∧ G fz1 d 0 32 [(3, 50), (3, 64), (3, 6603), (0, i)] [] h2 Q))) : G fz1 d 0 20 [(3, 50), (3, 64), (3, 6603), (0, i)] [] h Q := by
  have w1 : w32 (i + 1) = i + 1 := w32_id (by omega)
  have b1 : (0 ≤ i + 1) = True := eq_true (by omega)
  have c1 : (i + 1 < h 50 (-1)) = True := eq_true (by omega)
  apply G_in
  simp only [en0, b0_20, x_aload0, x_aload1, x_aload2, y_call252, y_call421, x_freturn, x_iadd, x_iaload, x_iconst, x_if_icmp_eq_32, x_iload3, klp_0, klp_1, klp_2, klp_3, klp_9, KC_0, KC_1, KC_2, KC_3, KC_4, ne_eq, not_false_eq_true, not_true_eq_false, true_and, and_true, and_self, implies_true, eq_self, true_imp_iff, false_implies, Int.reduceEq, Int.reduceNe, Int.reduceMod, Int.reduceMul, Int.reduceAdd, Int.reduceSub, Int.reduceNeg, Int.reduceLT, Int.reduceLE, Nat.reduceAdd, Nat.reduceLeDiff, Nat.reduceLT, Nat.reduceSub, reduceIte, wds_n, wds_0, wds_1, wds_2, wds_3, or_true, true_or, or_false, false_or, or_self, rd1_50, w1, b1, c1]
  refine ⟨hd, H.imp fun x h1 hx => ?_⟩
  obtain ⟨hS, hx⟩ := hx
  simp only [en0, b0_20, x_aload0, x_aload1, x_aload2, y_call252, y_call421, x_freturn, x_iadd, x_iaload, x_iconst, x_if_icmp_eq_32, x_iload3, klp_0, klp_1, klp_2, klp_3, klp_9, KC_0, KC_1, KC_2, KC_3, KC_4, ne_eq, not_false_eq_true, not_true_eq_false, true_and, and_true, and_self, implies_true, eq_self, true_imp_iff, false_implies, Int.reduceEq, Int.reduceNe, Int.reduceMod, Int.reduceMul, Int.reduceAdd, Int.reduceSub, Int.reduceNeg, Int.reduceLT, Int.reduceLE, Nat.reduceAdd, Nat.reduceLeDiff, Nat.reduceLT, Nat.reduceSub, reduceIte, wds_n, wds_0, wds_1, wds_2, wds_3, or_true, true_or, or_false, false_or, or_self, hS, rd1_50, w1, b1, c1]
  refine ⟨hd, hx.imp fun y h2 hy => ?_⟩
  obtain ⟨e, hy⟩ := hy
  simp only [KC_0, x_if_icmp_eq_32, e]
  exact ⟨fun _ => hy, fun q => (q trivial).elim⟩
theorem law_b21 {d : Nat} {h : HV} {i : Int} {Q : Int → HV → Prop} (hd : 0 < d) (hi : 0 ≤ i) (hL : i + 7 ≤ h 50 (-1)) (hm : h 50 (-1) ≤ 3584) (H : Sp fz1 (d - 1) 264 [(3, 64), (0, (h 50 (i + 1)))] h (fun x h1 => h1 50 = h 50 ∧ Sp fz1 (d - 1) 424 [(3, 6603), (0, (h 50 (i + 1)))] h1 (fun y h2 => x = y ∧ G fz1 d 0 32 [(3, 50), (3, 64), (3, 6603), (0, i)] [] h2 Q))) : G fz1 d 0 21 [(3, 50), (3, 64), (3, 6603), (0, i)] [] h Q := by
  have w1 : w32 (i + 1) = i + 1 := w32_id (by omega)
  have b1 : (0 ≤ i + 1) = True := eq_true (by omega)
  have c1 : (i + 1 < h 50 (-1)) = True := eq_true (by omega)
  apply G_in
  simp only [en0, b0_21, x_aload0, x_aload1, x_aload2, y_call264, y_call424, x_freturn, x_iadd, x_iaload, x_iconst, x_if_icmp_eq_32, x_iload3, klp_0, klp_1, klp_2, klp_3, klp_9, KC_0, KC_1, KC_2, KC_3, KC_4, ne_eq, not_false_eq_true, not_true_eq_false, true_and, and_true, and_self, implies_true, eq_self, true_imp_iff, false_implies, Int.reduceEq, Int.reduceNe, Int.reduceMod, Int.reduceMul, Int.reduceAdd, Int.reduceSub, Int.reduceNeg, Int.reduceLT, Int.reduceLE, Nat.reduceAdd, Nat.reduceLeDiff, Nat.reduceLT, Nat.reduceSub, reduceIte, wds_n, wds_0, wds_1, wds_2, wds_3, or_true, true_or, or_false, false_or, or_self, rd1_50, w1, b1, c1]
  refine ⟨hd, H.imp fun x h1 hx => ?_⟩
  obtain ⟨hS, hx⟩ := hx
  simp only [en0, b0_21, x_aload0, x_aload1, x_aload2, y_call264, y_call424, x_freturn, x_iadd, x_iaload, x_iconst, x_if_icmp_eq_32, x_iload3, klp_0, klp_1, klp_2, klp_3, klp_9, KC_0, KC_1, KC_2, KC_3, KC_4, ne_eq, not_false_eq_true, not_true_eq_false, true_and, and_true, and_self, implies_true, eq_self, true_imp_iff, false_implies, Int.reduceEq, Int.reduceNe, Int.reduceMod, Int.reduceMul, Int.reduceAdd, Int.reduceSub, Int.reduceNeg, Int.reduceLT, Int.reduceLE, Nat.reduceAdd, Nat.reduceLeDiff, Nat.reduceLT, Nat.reduceSub, reduceIte, wds_n, wds_0, wds_1, wds_2, wds_3, or_true, true_or, or_false, false_or, or_self, hS, rd1_50, w1, b1, c1]
  refine ⟨hd, hx.imp fun y h2 hy => ?_⟩
  obtain ⟨e, hy⟩ := hy
  simp only [KC_0, x_if_icmp_eq_32, e]
  exact ⟨fun _ => hy, fun q => (q trivial).elim⟩
theorem law_b22 {d : Nat} {h : HV} {i : Int} {Q : Int → HV → Prop} (hd : 0 < d) (hi : 0 ≤ i) (hL : i + 7 ≤ h 50 (-1)) (hm : h 50 (-1) ≤ 3584) (H : Sp fz1 (d - 1) 269 [(3, 64), (0, (h 50 (i + 1))), (0, (h 50 (i + 2)))] h (fun x h1 => h1 50 = h 50 ∧ Sp fz1 (d - 1) 425 [(3, 6603), (0, (h 50 (i + 1))), (0, (h 50 (i + 2)))] h1 (fun y h2 => x = y ∧ G fz1 d 0 32 [(3, 50), (3, 64), (3, 6603), (0, i)] [] h2 Q))) : G fz1 d 0 22 [(3, 50), (3, 64), (3, 6603), (0, i)] [] h Q := by
  have w1 : w32 (i + 1) = i + 1 := w32_id (by omega)
  have b1 : (0 ≤ i + 1) = True := eq_true (by omega)
  have c1 : (i + 1 < h 50 (-1)) = True := eq_true (by omega)
  have w2 : w32 (i + 2) = i + 2 := w32_id (by omega)
  have b2 : (0 ≤ i + 2) = True := eq_true (by omega)
  have c2 : (i + 2 < h 50 (-1)) = True := eq_true (by omega)
  apply G_in
  simp only [en0, b0_22, x_aload0, x_aload1, x_aload2, y_call269, y_call425, x_freturn, x_iadd, x_iaload, x_iconst, x_if_icmp_eq_32, x_iload3, klp_0, klp_1, klp_2, klp_3, klp_9, KC_0, KC_1, KC_2, KC_3, KC_4, ne_eq, not_false_eq_true, not_true_eq_false, true_and, and_true, and_self, implies_true, eq_self, true_imp_iff, false_implies, Int.reduceEq, Int.reduceNe, Int.reduceMod, Int.reduceMul, Int.reduceAdd, Int.reduceSub, Int.reduceNeg, Int.reduceLT, Int.reduceLE, Nat.reduceAdd, Nat.reduceLeDiff, Nat.reduceLT, Nat.reduceSub, reduceIte, wds_n, wds_0, wds_1, wds_2, wds_3, or_true, true_or, or_false, false_or, or_self, rd1_50, w1, w2, b1, b2, c1, c2]
  refine ⟨hd, H.imp fun x h1 hx => ?_⟩
  obtain ⟨hS, hx⟩ := hx
  simp only [en0, b0_22, x_aload0, x_aload1, x_aload2, y_call269, y_call425, x_freturn, x_iadd, x_iaload, x_iconst, x_if_icmp_eq_32, x_iload3, klp_0, klp_1, klp_2, klp_3, klp_9, KC_0, KC_1, KC_2, KC_3, KC_4, ne_eq, not_false_eq_true, not_true_eq_false, true_and, and_true, and_self, implies_true, eq_self, true_imp_iff, false_implies, Int.reduceEq, Int.reduceNe, Int.reduceMod, Int.reduceMul, Int.reduceAdd, Int.reduceSub, Int.reduceNeg, Int.reduceLT, Int.reduceLE, Nat.reduceAdd, Nat.reduceLeDiff, Nat.reduceLT, Nat.reduceSub, reduceIte, wds_n, wds_0, wds_1, wds_2, wds_3, or_true, true_or, or_false, false_or, or_self, hS, rd1_50, w1, w2, b1, b2, c1, c2]
  refine ⟨hd, hx.imp fun y h2 hy => ?_⟩
  obtain ⟨e, hy⟩ := hy
  simp only [KC_0, x_if_icmp_eq_32, e]
  exact ⟨fun _ => hy, fun q => (q trivial).elim⟩
theorem law_b23 {d : Nat} {h : HV} {i : Int} {Q : Int → HV → Prop} (hd : 0 < d) (hi : 0 ≤ i) (hL : i + 7 ≤ h 50 (-1)) (hm : h 50 (-1) ≤ 3584) (H : Sp fz1 (d - 1) 272 [(3, 64), (0, (h 50 (i + 1))), (0, (h 50 (i + 2)))] h (fun x h1 => h1 50 = h 50 ∧ Sp fz1 (d - 1) 426 [(3, 6603), (0, (h 50 (i + 1))), (0, (h 50 (i + 2)))] h1 (fun y h2 => x = y ∧ G fz1 d 0 32 [(3, 50), (3, 64), (3, 6603), (0, i)] [] h2 Q))) : G fz1 d 0 23 [(3, 50), (3, 64), (3, 6603), (0, i)] [] h Q := by
  have w1 : w32 (i + 1) = i + 1 := w32_id (by omega)
  have b1 : (0 ≤ i + 1) = True := eq_true (by omega)
  have c1 : (i + 1 < h 50 (-1)) = True := eq_true (by omega)
  have w2 : w32 (i + 2) = i + 2 := w32_id (by omega)
  have b2 : (0 ≤ i + 2) = True := eq_true (by omega)
  have c2 : (i + 2 < h 50 (-1)) = True := eq_true (by omega)
  apply G_in
  simp only [en0, b0_23, x_aload0, x_aload1, x_aload2, y_call272, y_call426, x_freturn, x_iadd, x_iaload, x_iconst, x_if_icmp_eq_32, x_iload3, klp_0, klp_1, klp_2, klp_3, klp_9, KC_0, KC_1, KC_2, KC_3, KC_4, ne_eq, not_false_eq_true, not_true_eq_false, true_and, and_true, and_self, implies_true, eq_self, true_imp_iff, false_implies, Int.reduceEq, Int.reduceNe, Int.reduceMod, Int.reduceMul, Int.reduceAdd, Int.reduceSub, Int.reduceNeg, Int.reduceLT, Int.reduceLE, Nat.reduceAdd, Nat.reduceLeDiff, Nat.reduceLT, Nat.reduceSub, reduceIte, wds_n, wds_0, wds_1, wds_2, wds_3, or_true, true_or, or_false, false_or, or_self, rd1_50, w1, w2, b1, b2, c1, c2]
  refine ⟨hd, H.imp fun x h1 hx => ?_⟩
  obtain ⟨hS, hx⟩ := hx
  simp only [en0, b0_23, x_aload0, x_aload1, x_aload2, y_call272, y_call426, x_freturn, x_iadd, x_iaload, x_iconst, x_if_icmp_eq_32, x_iload3, klp_0, klp_1, klp_2, klp_3, klp_9, KC_0, KC_1, KC_2, KC_3, KC_4, ne_eq, not_false_eq_true, not_true_eq_false, true_and, and_true, and_self, implies_true, eq_self, true_imp_iff, false_implies, Int.reduceEq, Int.reduceNe, Int.reduceMod, Int.reduceMul, Int.reduceAdd, Int.reduceSub, Int.reduceNeg, Int.reduceLT, Int.reduceLE, Nat.reduceAdd, Nat.reduceLeDiff, Nat.reduceLT, Nat.reduceSub, reduceIte, wds_n, wds_0, wds_1, wds_2, wds_3, or_true, true_or, or_false, false_or, or_self, hS, rd1_50, w1, w2, b1, b2, c1, c2]
  refine ⟨hd, hx.imp fun y h2 hy => ?_⟩
  obtain ⟨e, hy⟩ := hy
  simp only [KC_0, x_if_icmp_eq_32, e]
  exact ⟨fun _ => hy, fun q => (q trivial).elim⟩
theorem law_b24 {d : Nat} {h : HV} {i : Int} {Q : Int → HV → Prop} (hd : 0 < d) (hi : 0 ≤ i) (hL : i + 7 ≤ h 50 (-1)) (hm : h 50 (-1) ≤ 3584) (H : Sp fz1 (d - 1) 276 [(3, 64), (0, (h 50 (i + 1)))] h (fun x h1 => h1 50 = h 50 ∧ Sp fz1 (d - 1) 428 [(3, 6603), (0, (h 50 (i + 1)))] h1 (fun y h2 => x = y ∧ G fz1 d 0 32 [(3, 50), (3, 64), (3, 6603), (0, i)] [] h2 Q))) : G fz1 d 0 24 [(3, 50), (3, 64), (3, 6603), (0, i)] [] h Q := by
  have w1 : w32 (i + 1) = i + 1 := w32_id (by omega)
  have b1 : (0 ≤ i + 1) = True := eq_true (by omega)
  have c1 : (i + 1 < h 50 (-1)) = True := eq_true (by omega)
  apply G_in
  simp only [en0, b0_24, x_aload0, x_aload1, x_aload2, y_call276, y_call428, x_freturn, x_iadd, x_iaload, x_iconst, x_if_icmp_eq_32, x_iload3, klp_0, klp_1, klp_2, klp_3, klp_9, KC_0, KC_1, KC_2, KC_3, KC_4, ne_eq, not_false_eq_true, not_true_eq_false, true_and, and_true, and_self, implies_true, eq_self, true_imp_iff, false_implies, Int.reduceEq, Int.reduceNe, Int.reduceMod, Int.reduceMul, Int.reduceAdd, Int.reduceSub, Int.reduceNeg, Int.reduceLT, Int.reduceLE, Nat.reduceAdd, Nat.reduceLeDiff, Nat.reduceLT, Nat.reduceSub, reduceIte, wds_n, wds_0, wds_1, wds_2, wds_3, or_true, true_or, or_false, false_or, or_self, rd1_50, w1, b1, c1]
  refine ⟨hd, H.imp fun x h1 hx => ?_⟩
  obtain ⟨hS, hx⟩ := hx
  simp only [en0, b0_24, x_aload0, x_aload1, x_aload2, y_call276, y_call428, x_freturn, x_iadd, x_iaload, x_iconst, x_if_icmp_eq_32, x_iload3, klp_0, klp_1, klp_2, klp_3, klp_9, KC_0, KC_1, KC_2, KC_3, KC_4, ne_eq, not_false_eq_true, not_true_eq_false, true_and, and_true, and_self, implies_true, eq_self, true_imp_iff, false_implies, Int.reduceEq, Int.reduceNe, Int.reduceMod, Int.reduceMul, Int.reduceAdd, Int.reduceSub, Int.reduceNeg, Int.reduceLT, Int.reduceLE, Nat.reduceAdd, Nat.reduceLeDiff, Nat.reduceLT, Nat.reduceSub, reduceIte, wds_n, wds_0, wds_1, wds_2, wds_3, or_true, true_or, or_false, false_or, or_self, hS, rd1_50, w1, b1, c1]
  refine ⟨hd, hx.imp fun y h2 hy => ?_⟩
  obtain ⟨e, hy⟩ := hy
  simp only [KC_0, x_if_icmp_eq_32, e]
  exact ⟨fun _ => hy, fun q => (q trivial).elim⟩
theorem law_b25 {d : Nat} {h : HV} {i : Int} {Q : Int → HV → Prop} (hd : 0 < d) (hi : 0 ≤ i) (hL : i + 7 ≤ h 50 (-1)) (hm : h 50 (-1) ≤ 3584) (H : Sp fz1 (d - 1) 279 [(3, 64), (0, (h 50 (i + 1))), (0, (h 50 (i + 2)))] h (fun x h1 => h1 50 = h 50 ∧ Sp fz1 (d - 1) 429 [(3, 6603), (0, (h 50 (i + 1))), (0, (h 50 (i + 2)))] h1 (fun y h2 => x = y ∧ G fz1 d 0 32 [(3, 50), (3, 64), (3, 6603), (0, i)] [] h2 Q))) : G fz1 d 0 25 [(3, 50), (3, 64), (3, 6603), (0, i)] [] h Q := by
  have w1 : w32 (i + 1) = i + 1 := w32_id (by omega)
  have b1 : (0 ≤ i + 1) = True := eq_true (by omega)
  have c1 : (i + 1 < h 50 (-1)) = True := eq_true (by omega)
  have w2 : w32 (i + 2) = i + 2 := w32_id (by omega)
  have b2 : (0 ≤ i + 2) = True := eq_true (by omega)
  have c2 : (i + 2 < h 50 (-1)) = True := eq_true (by omega)
  apply G_in
  simp only [en0, b0_25, x_aload0, x_aload1, x_aload2, y_call279, y_call429, x_freturn, x_iadd, x_iaload, x_iconst, x_if_icmp_eq_32, x_iload3, klp_0, klp_1, klp_2, klp_3, klp_9, KC_0, KC_1, KC_2, KC_3, KC_4, ne_eq, not_false_eq_true, not_true_eq_false, true_and, and_true, and_self, implies_true, eq_self, true_imp_iff, false_implies, Int.reduceEq, Int.reduceNe, Int.reduceMod, Int.reduceMul, Int.reduceAdd, Int.reduceSub, Int.reduceNeg, Int.reduceLT, Int.reduceLE, Nat.reduceAdd, Nat.reduceLeDiff, Nat.reduceLT, Nat.reduceSub, reduceIte, wds_n, wds_0, wds_1, wds_2, wds_3, or_true, true_or, or_false, false_or, or_self, rd1_50, w1, w2, b1, b2, c1, c2]
  refine ⟨hd, H.imp fun x h1 hx => ?_⟩
  obtain ⟨hS, hx⟩ := hx
  simp only [en0, b0_25, x_aload0, x_aload1, x_aload2, y_call279, y_call429, x_freturn, x_iadd, x_iaload, x_iconst, x_if_icmp_eq_32, x_iload3, klp_0, klp_1, klp_2, klp_3, klp_9, KC_0, KC_1, KC_2, KC_3, KC_4, ne_eq, not_false_eq_true, not_true_eq_false, true_and, and_true, and_self, implies_true, eq_self, true_imp_iff, false_implies, Int.reduceEq, Int.reduceNe, Int.reduceMod, Int.reduceMul, Int.reduceAdd, Int.reduceSub, Int.reduceNeg, Int.reduceLT, Int.reduceLE, Nat.reduceAdd, Nat.reduceLeDiff, Nat.reduceLT, Nat.reduceSub, reduceIte, wds_n, wds_0, wds_1, wds_2, wds_3, or_true, true_or, or_false, false_or, or_self, hS, rd1_50, w1, w2, b1, b2, c1, c2]
  refine ⟨hd, hx.imp fun y h2 hy => ?_⟩
  obtain ⟨e, hy⟩ := hy
  simp only [KC_0, x_if_icmp_eq_32, e]
  exact ⟨fun _ => hy, fun q => (q trivial).elim⟩
theorem law_b26 {d : Nat} {h : HV} {i : Int} {Q : Int → HV → Prop} (hd : 0 < d) (hi : 0 ≤ i) (hL : i + 7 ≤ h 50 (-1)) (hm : h 50 (-1) ≤ 3584) (H : Sp fz1 (d - 1) 282 [(3, 64), (0, (h 50 (i + 1)))] h (fun x h1 => h1 50 = h 50 ∧ Sp fz1 (d - 1) 431 [(3, 6603), (0, (h 50 (i + 1)))] h1 (fun y h2 => x = y ∧ G fz1 d 0 32 [(3, 50), (3, 64), (3, 6603), (0, i)] [] h2 Q))) : G fz1 d 0 26 [(3, 50), (3, 64), (3, 6603), (0, i)] [] h Q := by
  have w1 : w32 (i + 1) = i + 1 := w32_id (by omega)
  have b1 : (0 ≤ i + 1) = True := eq_true (by omega)
  have c1 : (i + 1 < h 50 (-1)) = True := eq_true (by omega)
  apply G_in
  simp only [en0, b0_26, x_aload0, x_aload1, x_aload2, y_call282, y_call431, x_freturn, x_iadd, x_iaload, x_iconst, x_if_icmp_eq_32, x_iload3, klp_0, klp_1, klp_2, klp_3, klp_9, KC_0, KC_1, KC_2, KC_3, KC_4, ne_eq, not_false_eq_true, not_true_eq_false, true_and, and_true, and_self, implies_true, eq_self, true_imp_iff, false_implies, Int.reduceEq, Int.reduceNe, Int.reduceMod, Int.reduceMul, Int.reduceAdd, Int.reduceSub, Int.reduceNeg, Int.reduceLT, Int.reduceLE, Nat.reduceAdd, Nat.reduceLeDiff, Nat.reduceLT, Nat.reduceSub, reduceIte, wds_n, wds_0, wds_1, wds_2, wds_3, or_true, true_or, or_false, false_or, or_self, rd1_50, w1, b1, c1]
  refine ⟨hd, H.imp fun x h1 hx => ?_⟩
  obtain ⟨hS, hx⟩ := hx
  simp only [en0, b0_26, x_aload0, x_aload1, x_aload2, y_call282, y_call431, x_freturn, x_iadd, x_iaload, x_iconst, x_if_icmp_eq_32, x_iload3, klp_0, klp_1, klp_2, klp_3, klp_9, KC_0, KC_1, KC_2, KC_3, KC_4, ne_eq, not_false_eq_true, not_true_eq_false, true_and, and_true, and_self, implies_true, eq_self, true_imp_iff, false_implies, Int.reduceEq, Int.reduceNe, Int.reduceMod, Int.reduceMul, Int.reduceAdd, Int.reduceSub, Int.reduceNeg, Int.reduceLT, Int.reduceLE, Nat.reduceAdd, Nat.reduceLeDiff, Nat.reduceLT, Nat.reduceSub, reduceIte, wds_n, wds_0, wds_1, wds_2, wds_3, or_true, true_or, or_false, false_or, or_self, hS, rd1_50, w1, b1, c1]
  refine ⟨hd, hx.imp fun y h2 hy => ?_⟩
  obtain ⟨e, hy⟩ := hy
  simp only [KC_0, x_if_icmp_eq_32, e]
  exact ⟨fun _ => hy, fun q => (q trivial).elim⟩
theorem law_b27 {d : Nat} {h : HV} {i : Int} {Q : Int → HV → Prop} (hd : 0 < d) (hi : 0 ≤ i) (hL : i + 7 ≤ h 50 (-1)) (hm : h 50 (-1) ≤ 3584) (H : Sp fz1 (d - 1) 299 [(3, 64), (0, (h 50 (i + 1)))] h (fun x h1 => h1 50 = h 50 ∧ Sp fz1 (d - 1) 437 [(3, 6603), (0, (h 50 (i + 1)))] h1 (fun y h2 => x = y ∧ G fz1 d 0 32 [(3, 50), (3, 64), (3, 6603), (0, i)] [] h2 Q))) : G fz1 d 0 27 [(3, 50), (3, 64), (3, 6603), (0, i)] [] h Q := by
  have w1 : w32 (i + 1) = i + 1 := w32_id (by omega)
  have b1 : (0 ≤ i + 1) = True := eq_true (by omega)
  have c1 : (i + 1 < h 50 (-1)) = True := eq_true (by omega)
  apply G_in
  simp only [en0, b0_27, x_aload0, x_aload1, x_aload2, y_call299, y_call437, x_freturn, x_iadd, x_iaload, x_iconst, x_if_icmp_eq_32, x_iload3, klp_0, klp_1, klp_2, klp_3, klp_9, KC_0, KC_1, KC_2, KC_3, KC_4, ne_eq, not_false_eq_true, not_true_eq_false, true_and, and_true, and_self, implies_true, eq_self, true_imp_iff, false_implies, Int.reduceEq, Int.reduceNe, Int.reduceMod, Int.reduceMul, Int.reduceAdd, Int.reduceSub, Int.reduceNeg, Int.reduceLT, Int.reduceLE, Nat.reduceAdd, Nat.reduceLeDiff, Nat.reduceLT, Nat.reduceSub, reduceIte, wds_n, wds_0, wds_1, wds_2, wds_3, or_true, true_or, or_false, false_or, or_self, rd1_50, w1, b1, c1]
  refine ⟨hd, H.imp fun x h1 hx => ?_⟩
  obtain ⟨hS, hx⟩ := hx
  simp only [en0, b0_27, x_aload0, x_aload1, x_aload2, y_call299, y_call437, x_freturn, x_iadd, x_iaload, x_iconst, x_if_icmp_eq_32, x_iload3, klp_0, klp_1, klp_2, klp_3, klp_9, KC_0, KC_1, KC_2, KC_3, KC_4, ne_eq, not_false_eq_true, not_true_eq_false, true_and, and_true, and_self, implies_true, eq_self, true_imp_iff, false_implies, Int.reduceEq, Int.reduceNe, Int.reduceMod, Int.reduceMul, Int.reduceAdd, Int.reduceSub, Int.reduceNeg, Int.reduceLT, Int.reduceLE, Nat.reduceAdd, Nat.reduceLeDiff, Nat.reduceLT, Nat.reduceSub, reduceIte, wds_n, wds_0, wds_1, wds_2, wds_3, or_true, true_or, or_false, false_or, or_self, hS, rd1_50, w1, b1, c1]
  refine ⟨hd, hx.imp fun y h2 hy => ?_⟩
  obtain ⟨e, hy⟩ := hy
  simp only [KC_0, x_if_icmp_eq_32, e]
  exact ⟨fun _ => hy, fun q => (q trivial).elim⟩
theorem law_b28 {d : Nat} {h : HV} {i : Int} {Q : Int → HV → Prop} (hd : 0 < d) (hi : 0 ≤ i) (hL : i + 7 ≤ h 50 (-1)) (hm : h 50 (-1) ≤ 3584) (H : Sp fz1 (d - 1) 301 [(3, 64)] h (fun x h1 => h1 50 = h 50 ∧ Sp fz1 (d - 1) 438 [(3, 6603)] h1 (fun y h2 => x = y ∧ G fz1 d 0 32 [(3, 50), (3, 64), (3, 6603), (0, i)] [] h2 Q))) : G fz1 d 0 28 [(3, 50), (3, 64), (3, 6603), (0, i)] [] h Q := by

  apply G_in
  simp only [en0, b0_28, x_aload1, x_aload2, y_call301, y_call438, x_freturn, x_iconst, x_if_icmp_eq_32, klp_0, klp_1, klp_2, klp_3, klp_9, KC_0, KC_1, KC_2, KC_3, KC_4, ne_eq, not_false_eq_true, not_true_eq_false, true_and, and_true, and_self, implies_true, eq_self, true_imp_iff, false_implies, Int.reduceEq, Int.reduceNe, Int.reduceMod, Int.reduceMul, Int.reduceAdd, Int.reduceSub, Int.reduceNeg, Int.reduceLT, Int.reduceLE, Nat.reduceAdd, Nat.reduceLeDiff, Nat.reduceLT, Nat.reduceSub, reduceIte, wds_n, wds_0, wds_1, wds_2, wds_3, or_true, true_or, or_false, false_or, or_self, rd1_50]
  refine ⟨hd, H.imp fun x h1 hx => ?_⟩
  obtain ⟨hS, hx⟩ := hx
  simp only [en0, b0_28, x_aload1, x_aload2, y_call301, y_call438, x_freturn, x_iconst, x_if_icmp_eq_32, klp_0, klp_1, klp_2, klp_3, klp_9, KC_0, KC_1, KC_2, KC_3, KC_4, ne_eq, not_false_eq_true, not_true_eq_false, true_and, and_true, and_self, implies_true, eq_self, true_imp_iff, false_implies, Int.reduceEq, Int.reduceNe, Int.reduceMod, Int.reduceMul, Int.reduceAdd, Int.reduceSub, Int.reduceNeg, Int.reduceLT, Int.reduceLE, Nat.reduceAdd, Nat.reduceLeDiff, Nat.reduceLT, Nat.reduceSub, reduceIte, wds_n, wds_0, wds_1, wds_2, wds_3, or_true, true_or, or_false, false_or, or_self, hS, rd1_50]
  refine ⟨hd, hx.imp fun y h2 hy => ?_⟩
  obtain ⟨e, hy⟩ := hy
  simp only [KC_0, x_if_icmp_eq_32, e]
  exact ⟨fun _ => hy, fun q => (q trivial).elim⟩
theorem law_b29 {d : Nat} {h : HV} {i : Int} {Q : Int → HV → Prop} (hd : 0 < d) (hi : 0 ≤ i) (hL : i + 7 ≤ h 50 (-1)) (hm : h 50 (-1) ≤ 3584) (H : Sp fz1 (d - 1) 306 [(3, 64), (0, (h 50 (i + 1))), (0, (h 50 (i + 2))), (0, (h 50 (i + 3)))] h (fun x h1 => h1 50 = h 50 ∧ Sp fz1 (d - 1) 439 [(3, 6603), (0, (h 50 (i + 1))), (0, (h 50 (i + 2))), (0, (h 50 (i + 3)))] h1 (fun y h2 => x = y ∧ G fz1 d 0 32 [(3, 50), (3, 64), (3, 6603), (0, i)] [] h2 Q))) : G fz1 d 0 29 [(3, 50), (3, 64), (3, 6603), (0, i)] [] h Q := by
  have w1 : w32 (i + 1) = i + 1 := w32_id (by omega)
  have b1 : (0 ≤ i + 1) = True := eq_true (by omega)
  have c1 : (i + 1 < h 50 (-1)) = True := eq_true (by omega)
  have w2 : w32 (i + 2) = i + 2 := w32_id (by omega)
  have b2 : (0 ≤ i + 2) = True := eq_true (by omega)
  have c2 : (i + 2 < h 50 (-1)) = True := eq_true (by omega)
  have w3 : w32 (i + 3) = i + 3 := w32_id (by omega)
  have b3 : (0 ≤ i + 3) = True := eq_true (by omega)
  have c3 : (i + 3 < h 50 (-1)) = True := eq_true (by omega)
  apply G_in
  simp only [en0, b0_29, x_aload0, x_aload1, x_aload2, y_call306, y_call439, x_freturn, x_iadd, x_iaload, x_iconst, x_if_icmp_eq_32, x_iload3, klp_0, klp_1, klp_2, klp_3, klp_9, KC_0, KC_1, KC_2, KC_3, KC_4, ne_eq, not_false_eq_true, not_true_eq_false, true_and, and_true, and_self, implies_true, eq_self, true_imp_iff, false_implies, Int.reduceEq, Int.reduceNe, Int.reduceMod, Int.reduceMul, Int.reduceAdd, Int.reduceSub, Int.reduceNeg, Int.reduceLT, Int.reduceLE, Nat.reduceAdd, Nat.reduceLeDiff, Nat.reduceLT, Nat.reduceSub, reduceIte, wds_n, wds_0, wds_1, wds_2, wds_3, or_true, true_or, or_false, false_or, or_self, rd1_50, w1, w2, w3, b1, b2, b3, c1, c2, c3]
  refine ⟨hd, H.imp fun x h1 hx => ?_⟩
  obtain ⟨hS, hx⟩ := hx
  simp only [en0, b0_29, x_aload0, x_aload1, x_aload2, y_call306, y_call439, x_freturn, x_iadd, x_iaload, x_iconst, x_if_icmp_eq_32, x_iload3, klp_0, klp_1, klp_2, klp_3, klp_9, KC_0, KC_1, KC_2, KC_3, KC_4, ne_eq, not_false_eq_true, not_true_eq_false, true_and, and_true, and_self, implies_true, eq_self, true_imp_iff, false_implies, Int.reduceEq, Int.reduceNe, Int.reduceMod, Int.reduceMul, Int.reduceAdd, Int.reduceSub, Int.reduceNeg, Int.reduceLT, Int.reduceLE, Nat.reduceAdd, Nat.reduceLeDiff, Nat.reduceLT, Nat.reduceSub, reduceIte, wds_n, wds_0, wds_1, wds_2, wds_3, or_true, true_or, or_false, false_or, or_self, hS, rd1_50, w1, w2, w3, b1, b2, b3, c1, c2, c3]
  refine ⟨hd, hx.imp fun y h2 hy => ?_⟩
  obtain ⟨e, hy⟩ := hy
  simp only [KC_0, x_if_icmp_eq_32, e]
  exact ⟨fun _ => hy, fun q => (q trivial).elim⟩
theorem law_b30 {d : Nat} {h : HV} {i : Int} {Q : Int → HV → Prop} (hd : 0 < d) (hi : 0 ≤ i) (hL : i + 7 ≤ h 50 (-1)) (hm : h 50 (-1) ≤ 3584) (H : Sp fz1 (d - 1) 308 [(3, 64), (0, (h 50 (i + 1)))] h (fun x h1 => h1 50 = h 50 ∧ Sp fz1 (d - 1) 440 [(3, 6603), (0, (h 50 (i + 1)))] h1 (fun y h2 => x = y ∧ G fz1 d 0 32 [(3, 50), (3, 64), (3, 6603), (0, i)] [] h2 Q))) : G fz1 d 0 30 [(3, 50), (3, 64), (3, 6603), (0, i)] [] h Q := by
  have w1 : w32 (i + 1) = i + 1 := w32_id (by omega)
  have b1 : (0 ≤ i + 1) = True := eq_true (by omega)
  have c1 : (i + 1 < h 50 (-1)) = True := eq_true (by omega)
  apply G_in
  simp only [en0, b0_30, x_aload0, x_aload1, x_aload2, y_call308, y_call440, x_freturn, x_iadd, x_iaload, x_iconst, x_if_icmp_eq_32, x_iload3, klp_0, klp_1, klp_2, klp_3, klp_9, KC_0, KC_1, KC_2, KC_3, KC_4, ne_eq, not_false_eq_true, not_true_eq_false, true_and, and_true, and_self, implies_true, eq_self, true_imp_iff, false_implies, Int.reduceEq, Int.reduceNe, Int.reduceMod, Int.reduceMul, Int.reduceAdd, Int.reduceSub, Int.reduceNeg, Int.reduceLT, Int.reduceLE, Nat.reduceAdd, Nat.reduceLeDiff, Nat.reduceLT, Nat.reduceSub, reduceIte, wds_n, wds_0, wds_1, wds_2, wds_3, or_true, true_or, or_false, false_or, or_self, rd1_50, w1, b1, c1]
  refine ⟨hd, H.imp fun x h1 hx => ?_⟩
  obtain ⟨hS, hx⟩ := hx
  simp only [en0, b0_30, x_aload0, x_aload1, x_aload2, y_call308, y_call440, x_freturn, x_iadd, x_iaload, x_iconst, x_if_icmp_eq_32, x_iload3, klp_0, klp_1, klp_2, klp_3, klp_9, KC_0, KC_1, KC_2, KC_3, KC_4, ne_eq, not_false_eq_true, not_true_eq_false, true_and, and_true, and_self, implies_true, eq_self, true_imp_iff, false_implies, Int.reduceEq, Int.reduceNe, Int.reduceMod, Int.reduceMul, Int.reduceAdd, Int.reduceSub, Int.reduceNeg, Int.reduceLT, Int.reduceLE, Nat.reduceAdd, Nat.reduceLeDiff, Nat.reduceLT, Nat.reduceSub, reduceIte, wds_n, wds_0, wds_1, wds_2, wds_3, or_true, true_or, or_false, false_or, or_self, hS, rd1_50, w1, b1, c1]
  refine ⟨hd, hx.imp fun y h2 hy => ?_⟩
  obtain ⟨e, hy⟩ := hy
  simp only [KC_0, x_if_icmp_eq_32, e]
  exact ⟨fun _ => hy, fun q => (q trivial).elim⟩
theorem law_b31 {d : Nat} {h : HV} {i : Int} {Q : Int → HV → Prop} (hd : 0 < d) (hi : 0 ≤ i) (hL : i + 7 ≤ h 50 (-1)) (hm : h 50 (-1) ≤ 3584) (H : Sp fz1 (d - 1) 314 [(3, 64), (0, (h 50 (i + 1)))] h (fun x h1 => h1 50 = h 50 ∧ Sp fz1 (d - 1) 443 [(3, 6603), (0, (h 50 (i + 1)))] h1 (fun y h2 => x = y ∧ G fz1 d 0 32 [(3, 50), (3, 64), (3, 6603), (0, i)] [] h2 Q))) : G fz1 d 0 31 [(3, 50), (3, 64), (3, 6603), (0, i)] [] h Q := by
  have w1 : w32 (i + 1) = i + 1 := w32_id (by omega)
  have b1 : (0 ≤ i + 1) = True := eq_true (by omega)
  have c1 : (i + 1 < h 50 (-1)) = True := eq_true (by omega)
  apply G_in
  simp only [en0, b0_31, x_aload0, x_aload1, x_aload2, y_call314, y_call443, x_freturn, x_iadd, x_iaload, x_iconst, x_if_icmp_eq_32, x_iload3, klp_0, klp_1, klp_2, klp_3, klp_9, KC_0, KC_1, KC_2, KC_3, KC_4, ne_eq, not_false_eq_true, not_true_eq_false, true_and, and_true, and_self, implies_true, eq_self, true_imp_iff, false_implies, Int.reduceEq, Int.reduceNe, Int.reduceMod, Int.reduceMul, Int.reduceAdd, Int.reduceSub, Int.reduceNeg, Int.reduceLT, Int.reduceLE, Nat.reduceAdd, Nat.reduceLeDiff, Nat.reduceLT, Nat.reduceSub, reduceIte, wds_n, wds_0, wds_1, wds_2, wds_3, or_true, true_or, or_false, false_or, or_self, rd1_50, w1, b1, c1]
  refine ⟨hd, H.imp fun x h1 hx => ?_⟩
  obtain ⟨hS, hx⟩ := hx
  simp only [en0, b0_31, x_aload0, x_aload1, x_aload2, y_call314, y_call443, x_freturn, x_iadd, x_iaload, x_iconst, x_if_icmp_eq_32, x_iload3, klp_0, klp_1, klp_2, klp_3, klp_9, KC_0, KC_1, KC_2, KC_3, KC_4, ne_eq, not_false_eq_true, not_true_eq_false, true_and, and_true, and_self, implies_true, eq_self, true_imp_iff, false_implies, Int.reduceEq, Int.reduceNe, Int.reduceMod, Int.reduceMul, Int.reduceAdd, Int.reduceSub, Int.reduceNeg, Int.reduceLT, Int.reduceLE, Nat.reduceAdd, Nat.reduceLeDiff, Nat.reduceLT, Nat.reduceSub, reduceIte, wds_n, wds_0, wds_1, wds_2, wds_3, or_true, true_or, or_false, false_or, or_self, hS, rd1_50, w1, b1, c1]
  refine ⟨hd, hx.imp fun y h2 hy => ?_⟩
  obtain ⟨e, hy⟩ := hy
  simp only [KC_0, x_if_icmp_eq_32, e]
  exact ⟨fun _ => hy, fun q => (q trivial).elim⟩
