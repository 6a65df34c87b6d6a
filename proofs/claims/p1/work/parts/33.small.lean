/-! THE PURE SIDE, 8: loops that fill, the feeding of the tape: printed by wip/tools/gensmall.py -/
theorem w32_n {x : Int} (h1 : (-2147483648 ≤ x) = True) (h2 : (x ≤ 2147483647) = True) : w32 x = x := w32_id ⟨of_eq_true h1, of_eq_true h2⟩
theorem fill2_s (h : HV) {a b j v : Int} (hab : a ≠ b) (hj : 0 ≤ j) : hset (hset (fillH (fillH h a j v) b j v) a j v) b j v = fillH (fillH h a (j + 1) v) b (j + 1) v := by
  funext o i
  simp only [hset_v, fillH_v]
  by_cases h1 : o = b
  · subst h1
    by_cases h2 : i = j
    · rw [if_pos ⟨rfl, h2⟩, if_pos ⟨rfl, by omega, by omega⟩]
    · rw [if_neg (by omega), if_neg (by omega)]
      by_cases h3 : 0 ≤ i ∧ i < j
      · rw [if_pos ⟨rfl, h3⟩, if_pos ⟨rfl, by omega⟩]
      · rw [if_neg (by omega), if_neg (by omega), if_neg (by omega), if_neg (by omega)]
  · rw [if_neg (by omega), if_neg (show ¬ (o = b ∧ 0 ≤ i ∧ i < j) by omega), if_neg (show ¬ (o = b ∧ 0 ≤ i ∧ i < j + 1) by omega)]
    by_cases h2 : o = a
    · subst h2
      by_cases h3 : i = j
      · rw [if_pos ⟨rfl, h3⟩, if_pos ⟨rfl, by omega, by omega⟩]
      · rw [if_neg (by omega)]
        by_cases h4 : 0 ≤ i ∧ i < j
        · rw [if_pos ⟨rfl, h4⟩, if_pos ⟨rfl, by omega⟩]
        · rw [if_neg (by omega), if_neg (by omega)]
    · rw [if_neg (by omega), if_neg (by omega), if_neg (by omega)]
theorem fill_sp3 {fz : Int → Int → Option Int} {d : Nat} {a v : Int} {h : HV} {Q : Int → HV → Prop} (ha : a % 64 = 32) (hn0 : 0 ≤ rd fz h a (-1)) (hn1 : rd fz h a (-1) ≤ 2147483647) (hQ : Q 0 (fillH h a (rd fz h a (-1)) v)) : Sp fz d 14 [(3, a), (0, v)] h Q := fill_sp ha rfl hn0 hn1 hQ
theorem lp366_3 {d : Nat} {h : HV} {Q : Int → HV → Prop} (hQ : G fz1 d 366 4 [(3, 6603), (0, 240)] [] (fillH h 11808 240 0) Q) : ∀ (m : Nat) (j : Int), 0 ≤ j → j + m = 240 → G fz1 d 366 3 [(3, 6603), (0, j)] [] (fillH h 11808 j 0) Q
  | 0, j, h0, hm => by
    have e : j = 240 := by omega
    subst e
    apply G_in
    simp only [en366, b366_3, x_aload0, x_gc_11811, x_goto_3, x_iastore, x_iconst, x_if_icmp_ge_4, x_iinc1, x_iload1, klp_0, klp_1, klp_2, klp_3, klp_9, KC_0, KC_1, KC_2, KC_3, KC_4, ne_eq, not_false_eq_true, not_true_eq_false, true_and, and_true, and_self, implies_true, eq_self, true_imp_iff, false_implies, Int.reduceEq, Int.reduceNe, Int.reduceMod, Int.reduceMul, Int.reduceAdd, Int.reduceSub, Int.reduceNeg, Int.reduceLT, Int.reduceLE, Nat.reduceAdd, Nat.reduceLeDiff, Nat.reduceLT, Nat.reduceSub, reduceIte, wds_n, wds_0, wds_1, wds_2, wds_3, or_true, true_or, or_false, false_or, or_self, z6603_68, z11808_l]
    first
    | exact hQ
    | exact ⟨fun _ => hQ, fun q => (q (by omega)).elim⟩
  | m + 1, j, h0, hm => by
    have hc : (240 ≤ j) = False := eq_false (by omega)
    have h1 : (0 ≤ j) = True := eq_true h0
    have h2 : (j < 240) = True := eq_true (by omega)
    apply G_in
    simp only [en366, b366_3, x_aload0, x_gc_11811, x_goto_3, x_iastore, x_iconst, x_if_icmp_ge_4, x_iinc1, x_iload1, klp_0, klp_1, klp_2, klp_3, klp_9, KC_0, KC_1, KC_2, KC_3, KC_4, ne_eq, not_false_eq_true, not_true_eq_false, true_and, and_true, and_self, implies_true, eq_self, true_imp_iff, false_implies, Int.reduceEq, Int.reduceNe, Int.reduceMod, Int.reduceMul, Int.reduceAdd, Int.reduceSub, Int.reduceNeg, Int.reduceLT, Int.reduceLE, Nat.reduceAdd, Nat.reduceLeDiff, Nat.reduceLT, Nat.reduceSub, reduceIte, wds_n, wds_0, wds_1, wds_2, wds_3, or_true, true_or, or_false, false_or, or_self, hc, h1, h2, z6603_68, z11808_l]
    rw [fillH_s h h0, w32_id (by omega)]
    exact lp366_3 hQ m (j + 1) (by omega) (by omega)
theorem lp366_5 {d : Nat} {h : HV} {Q : Int → HV → Prop} (hQ : G fz1 d 366 6 [(3, 6603), (0, 10)] [] (fillH (fillH h 11680 10 0) 11744 10 0) Q) : ∀ (m : Nat) (j : Int), 0 ≤ j → j + m = 10 → G fz1 d 366 5 [(3, 6603), (0, j)] [] (fillH (fillH h 11680 j 0) 11744 j 0) Q
  | 0, j, h0, hm => by
    have e : j = 10 := by omega
    subst e
    apply G_in
    simp only [en366, b366_5, x_aload0, x_gc_11795, x_gc_11803, x_goto_5, x_iastore, x_iconst, x_if_icmp_ge_6, x_iinc1, x_iload1, klp_0, klp_1, klp_2, klp_3, klp_9, KC_0, KC_1, KC_2, KC_3, KC_4, ne_eq, not_false_eq_true, not_true_eq_false, true_and, and_true, and_self, implies_true, eq_self, true_imp_iff, false_implies, Int.reduceEq, Int.reduceNe, Int.reduceMod, Int.reduceMul, Int.reduceAdd, Int.reduceSub, Int.reduceNeg, Int.reduceLT, Int.reduceLE, Nat.reduceAdd, Nat.reduceLeDiff, Nat.reduceLT, Nat.reduceSub, reduceIte, wds_n, wds_0, wds_1, wds_2, wds_3, or_true, true_or, or_false, false_or, or_self, z6603_66, z6603_67, z11680_l, z11744_l]
    exact hQ
  | m + 1, j, h0, hm => by
    have hc : (10 ≤ j) = False := eq_false (by omega)
    have h1 : (0 ≤ j) = True := eq_true h0
    have h2 : (j < 10) = True := eq_true (by omega)
    apply G_in
    simp only [en366, b366_5, x_aload0, x_gc_11795, x_gc_11803, x_goto_5, x_iastore, x_iconst, x_if_icmp_ge_6, x_iinc1, x_iload1, klp_0, klp_1, klp_2, klp_3, klp_9, KC_0, KC_1, KC_2, KC_3, KC_4, ne_eq, not_false_eq_true, not_true_eq_false, true_and, and_true, and_self, implies_true, eq_self, true_imp_iff, false_implies, Int.reduceEq, Int.reduceNe, Int.reduceMod, Int.reduceMul, Int.reduceAdd, Int.reduceSub, Int.reduceNeg, Int.reduceLT, Int.reduceLE, Nat.reduceAdd, Nat.reduceLeDiff, Nat.reduceLT, Nat.reduceSub, reduceIte, wds_n, wds_0, wds_1, wds_2, wds_3, or_true, true_or, or_false, false_or, or_self, hc, h1, h2, z6603_66, z6603_67, z11680_l, z11744_l]
    rw [fill2_s h (by decide) h0, w32_id (by omega)]
    exact lp366_5 hQ m (j + 1) (by omega) (by omega)
theorem lp416_2 {d : Nat} {a c : Int} {h : HV} {Q : Int → HV → Prop} (hQ : G fz1 d 416 3 [(3, 6603), (0, a), (0, c), (0, 10)] [] (fillH (fillH h 11680 10 0) 11744 10 0) Q) : ∀ (m : Nat) (j : Int), 0 ≤ j → j + m = 10 → G fz1 d 416 2 [(3, 6603), (0, a), (0, c), (0, j)] [] (fillH (fillH h 11680 j 0) 11744 j 0) Q
  | 0, j, h0, hm => by
    have e : j = 10 := by omega
    subst e
    apply G_in
    simp only [en416, b416_2, x_aload0, x_gc_11795, x_gc_11803, x_goto_2, x_iastore, x_iconst, x_if_icmp_ge_3, x_iinc3, x_iload3, klp_0, klp_1, klp_2, klp_3, klp_9, KC_0, KC_1, KC_2, KC_3, KC_4, ne_eq, not_false_eq_true, not_true_eq_false, true_and, and_true, and_self, implies_true, eq_self, true_imp_iff, false_implies, Int.reduceEq, Int.reduceNe, Int.reduceMod, Int.reduceMul, Int.reduceAdd, Int.reduceSub, Int.reduceNeg, Int.reduceLT, Int.reduceLE, Nat.reduceAdd, Nat.reduceLeDiff, Nat.reduceLT, Nat.reduceSub, reduceIte, wds_n, wds_0, wds_1, wds_2, wds_3, or_true, true_or, or_false, false_or, or_self, z6603_66, z6603_67, z11680_l, z11744_l]
    exact hQ
  | m + 1, j, h0, hm => by
    have hc : (10 ≤ j) = False := eq_false (by omega)
    have h1 : (0 ≤ j) = True := eq_true h0
    have h2 : (j < 10) = True := eq_true (by omega)
    apply G_in
    simp only [en416, b416_2, x_aload0, x_gc_11795, x_gc_11803, x_goto_2, x_iastore, x_iconst, x_if_icmp_ge_3, x_iinc3, x_iload3, klp_0, klp_1, klp_2, klp_3, klp_9, KC_0, KC_1, KC_2, KC_3, KC_4, ne_eq, not_false_eq_true, not_true_eq_false, true_and, and_true, and_self, implies_true, eq_self, true_imp_iff, false_implies, Int.reduceEq, Int.reduceNe, Int.reduceMod, Int.reduceMul, Int.reduceAdd, Int.reduceSub, Int.reduceNeg, Int.reduceLT, Int.reduceLE, Nat.reduceAdd, Nat.reduceLeDiff, Nat.reduceLT, Nat.reduceSub, reduceIte, wds_n, wds_0, wds_1, wds_2, wds_3, or_true, true_or, or_false, false_or, or_self, hc, h1, h2, z6603_66, z6603_67, z11680_l, z11744_l]
    rw [fill2_s h (by decide) h0, w32_id (by omega)]
    exact lp416_2 hQ m (j + 1) (by omega) (by omega)
theorem lp416_4 {d : Nat} {a c : Int} {h : HV} {Q : Int → HV → Prop} (hQ : G fz1 d 416 5 [(3, 6603), (0, a), (0, c), (0, 240)] [] (fillH h 11808 240 0) Q) : ∀ (m : Nat) (j : Int), 0 ≤ j → j + m = 240 → G fz1 d 416 4 [(3, 6603), (0, a), (0, c), (0, j)] [] (fillH h 11808 j 0) Q
  | 0, j, h0, hm => by
    have e : j = 240 := by omega
    subst e
    apply G_in
    simp only [en416, b416_4, x_aload0, x_gc_11811, x_goto_4, x_iastore, x_iconst, x_if_icmp_ge_5, x_iinc3, x_iload3, klp_0, klp_1, klp_2, klp_3, klp_9, KC_0, KC_1, KC_2, KC_3, KC_4, ne_eq, not_false_eq_true, not_true_eq_false, true_and, and_true, and_self, implies_true, eq_self, true_imp_iff, false_implies, Int.reduceEq, Int.reduceNe, Int.reduceMod, Int.reduceMul, Int.reduceAdd, Int.reduceSub, Int.reduceNeg, Int.reduceLT, Int.reduceLE, Nat.reduceAdd, Nat.reduceLeDiff, Nat.reduceLT, Nat.reduceSub, reduceIte, wds_n, wds_0, wds_1, wds_2, wds_3, or_true, true_or, or_false, false_or, or_self, z6603_68, z11808_l]
    first
    | exact hQ
    | exact ⟨fun _ => hQ, fun q => (q (by omega)).elim⟩
  | m + 1, j, h0, hm => by
    have hc : (240 ≤ j) = False := eq_false (by omega)
    have h1 : (0 ≤ j) = True := eq_true h0
    have h2 : (j < 240) = True := eq_true (by omega)
    apply G_in
    simp only [en416, b416_4, x_aload0, x_gc_11811, x_goto_4, x_iastore, x_iconst, x_if_icmp_ge_5, x_iinc3, x_iload3, klp_0, klp_1, klp_2, klp_3, klp_9, KC_0, KC_1, KC_2, KC_3, KC_4, ne_eq, not_false_eq_true, not_true_eq_false, true_and, and_true, and_self, implies_true, eq_self, true_imp_iff, false_implies, Int.reduceEq, Int.reduceNe, Int.reduceMod, Int.reduceMul, Int.reduceAdd, Int.reduceSub, Int.reduceNeg, Int.reduceLT, Int.reduceLE, Nat.reduceAdd, Nat.reduceLeDiff, Nat.reduceLT, Nat.reduceSub, reduceIte, wds_n, wds_0, wds_1, wds_2, wds_3, or_true, true_or, or_false, false_or, or_self, hc, h1, h2, z6603_68, z11808_l]
    rw [fillH_s h h0, w32_id (by omega)]
    exact lp416_4 hQ m (j + 1) (by omega) (by omega)
/-- a text of the reference, a text of the class -/
def TR (T : Int) : Prop := T = 6732 ∨ T = 8076
def TC (T : Int) : Prop := T = 3466 ∨ T = 4938
theorem r0 {T : Int} (hT : TR T) {h : HV} : rd fz1 h T 0 = T + 84 := by rcases hT with rfl | rfl <;> exact rd1_of (by decide +kernel)
theorem r0l {T : Int} (hT : TR T) {h : HV} : rd fz1 h (T + 84) (-1) = 7 := by rcases hT with rfl | rfl <;> exact rd1_of (by decide +kernel)
theorem r0k {T : Int} (hT : TR T) : (T + 84) % 64 = 32 := by rcases hT with rfl | rfl <;> decide
theorem r1 {T : Int} (hT : TR T) {h : HV} : rd fz1 h T 1 = T + 149 := by rcases hT with rfl | rfl <;> exact rd1_of (by decide +kernel)
theorem r1l {T : Int} (hT : TR T) {h : HV} : rd fz1 h (T + 149) (-1) = 112 := by rcases hT with rfl | rfl <;> exact rd1_of (by decide +kernel)
theorem r1k {T : Int} (hT : TR T) : (T + 149) % 64 = 33 := by rcases hT with rfl | rfl <;> decide
theorem r2 {T : Int} (hT : TR T) {h : HV} : rd fz1 h T 2 = T + 212 := by rcases hT with rfl | rfl <;> exact rd1_of (by decide +kernel)
theorem r2l {T : Int} (hT : TR T) {h : HV} : rd fz1 h (T + 212) (-1) = 6 := by rcases hT with rfl | rfl <;> exact rd1_of (by decide +kernel)
theorem r2k {T : Int} (hT : TR T) : (T + 212) % 64 = 32 := by rcases hT with rfl | rfl <;> decide
theorem r3 {T : Int} (hT : TR T) {h : HV} : rd fz1 h T 3 = T + 276 := by rcases hT with rfl | rfl <;> exact rd1_of (by decide +kernel)
theorem r3l {T : Int} (hT : TR T) {h : HV} : rd fz1 h (T + 276) (-1) = 10 := by rcases hT with rfl | rfl <;> exact rd1_of (by decide +kernel)
theorem r3k {T : Int} (hT : TR T) : (T + 276) % 64 = 32 := by rcases hT with rfl | rfl <;> decide
theorem r4 {T : Int} (hT : TR T) {h : HV} : rd fz1 h T 4 = T + 340 := by rcases hT with rfl | rfl <;> exact rd1_of (by decide +kernel)
theorem r4l {T : Int} (hT : TR T) {h : HV} : rd fz1 h (T + 340) (-1) = 10 := by rcases hT with rfl | rfl <;> exact rd1_of (by decide +kernel)
theorem r4k {T : Int} (hT : TR T) : (T + 340) % 64 = 32 := by rcases hT with rfl | rfl <;> decide
theorem r5 {T : Int} (hT : TR T) {h : HV} : rd fz1 h T 5 = T + 404 := by rcases hT with rfl | rfl <;> exact rd1_of (by decide +kernel)
theorem r5l {T : Int} (hT : TR T) {h : HV} : rd fz1 h (T + 404) (-1) = 8 := by rcases hT with rfl | rfl <;> exact rd1_of (by decide +kernel)
theorem r5k {T : Int} (hT : TR T) : (T + 404) % 64 = 32 := by rcases hT with rfl | rfl <;> decide
theorem r6 {T : Int} (hT : TR T) {h : HV} : rd fz1 h T 6 = T + 468 := by rcases hT with rfl | rfl <;> exact rd1_of (by decide +kernel)
theorem r6l {T : Int} (hT : TR T) {h : HV} : rd fz1 h (T + 468) (-1) = 12 := by rcases hT with rfl | rfl <;> exact rd1_of (by decide +kernel)
theorem r6k {T : Int} (hT : TR T) : (T + 468) % 64 = 32 := by rcases hT with rfl | rfl <;> decide
theorem r7 {T : Int} (hT : TR T) {h : HV} : rd fz1 h T 7 = T + 532 := by rcases hT with rfl | rfl <;> exact rd1_of (by decide +kernel)
theorem r7l {T : Int} (hT : TR T) {h : HV} : rd fz1 h (T + 532) (-1) = 12 := by rcases hT with rfl | rfl <;> exact rd1_of (by decide +kernel)
theorem r7k {T : Int} (hT : TR T) : (T + 532) % 64 = 32 := by rcases hT with rfl | rfl <;> decide
theorem r8 {T : Int} (hT : TR T) {h : HV} : rd fz1 h T 8 = T + 596 := by rcases hT with rfl | rfl <;> exact rd1_of (by decide +kernel)
theorem r8l {T : Int} (hT : TR T) {h : HV} : rd fz1 h (T + 596) (-1) = 12 := by rcases hT with rfl | rfl <;> exact rd1_of (by decide +kernel)
theorem r8k {T : Int} (hT : TR T) : (T + 596) % 64 = 32 := by rcases hT with rfl | rfl <;> decide
theorem r9 {T : Int} (hT : TR T) {h : HV} : rd fz1 h T 9 = T + 660 := by rcases hT with rfl | rfl <;> exact rd1_of (by decide +kernel)
theorem r9l {T : Int} (hT : TR T) {h : HV} : rd fz1 h (T + 660) (-1) = 12 := by rcases hT with rfl | rfl <;> exact rd1_of (by decide +kernel)
theorem r9k {T : Int} (hT : TR T) : (T + 660) % 64 = 32 := by rcases hT with rfl | rfl <;> decide
theorem r10 {T : Int} (hT : TR T) {h : HV} : rd fz1 h T 10 = T + 724 := by rcases hT with rfl | rfl <;> exact rd1_of (by decide +kernel)
theorem r10l {T : Int} (hT : TR T) {h : HV} : rd fz1 h (T + 724) (-1) = 8 := by rcases hT with rfl | rfl <;> exact rd1_of (by decide +kernel)
theorem r10k {T : Int} (hT : TR T) : (T + 724) % 64 = 32 := by rcases hT with rfl | rfl <;> decide
theorem r11 {T : Int} (hT : TR T) {h : HV} : rd fz1 h T 11 = T + 788 := by rcases hT with rfl | rfl <;> exact rd1_of (by decide +kernel)
theorem r11l {T : Int} (hT : TR T) {h : HV} : rd fz1 h (T + 788) (-1) = 12 := by rcases hT with rfl | rfl <;> exact rd1_of (by decide +kernel)
theorem r11k {T : Int} (hT : TR T) : (T + 788) % 64 = 32 := by rcases hT with rfl | rfl <;> decide
theorem r12 {T : Int} (hT : TR T) {h : HV} : rd fz1 h T 12 = T + 852 := by rcases hT with rfl | rfl <;> exact rd1_of (by decide +kernel)
theorem r12l {T : Int} (hT : TR T) {h : HV} : rd fz1 h (T + 852) (-1) = 12 := by rcases hT with rfl | rfl <;> exact rd1_of (by decide +kernel)
theorem r12k {T : Int} (hT : TR T) : (T + 852) % 64 = 32 := by rcases hT with rfl | rfl <;> decide
theorem r13 {T : Int} (hT : TR T) {h : HV} : rd fz1 h T 13 = T + 916 := by rcases hT with rfl | rfl <;> exact rd1_of (by decide +kernel)
theorem r13l {T : Int} (hT : TR T) {h : HV} : rd fz1 h (T + 916) (-1) = 12 := by rcases hT with rfl | rfl <;> exact rd1_of (by decide +kernel)
theorem r13k {T : Int} (hT : TR T) : (T + 916) % 64 = 32 := by rcases hT with rfl | rfl <;> decide
theorem r16 {T : Int} (hT : TR T) {h : HV} : rd fz1 h T 16 = T + 980 := by rcases hT with rfl | rfl <;> exact rd1_of (by decide +kernel)
theorem r16l {T : Int} (hT : TR T) {h : HV} : rd fz1 h (T + 980) (-1) = 6000 := by rcases hT with rfl | rfl <;> exact rd1_of (by decide +kernel)
theorem r16k {T : Int} (hT : TR T) : (T + 980) % 64 = 32 := by rcases hT with rfl | rfl <;> decide
theorem r17 {T : Int} (hT : TR T) {h : HV} : rd fz1 h T 17 = T + 1044 := by rcases hT with rfl | rfl <;> exact rd1_of (by decide +kernel)
theorem r17l {T : Int} (hT : TR T) {h : HV} : rd fz1 h (T + 1044) (-1) = 6000 := by rcases hT with rfl | rfl <;> exact rd1_of (by decide +kernel)
theorem r17k {T : Int} (hT : TR T) : (T + 1044) % 64 = 32 := by rcases hT with rfl | rfl <;> decide
theorem r18 {T : Int} (hT : TR T) {h : HV} : rd fz1 h T 18 = T + 1108 := by rcases hT with rfl | rfl <;> exact rd1_of (by decide +kernel)
theorem r18l {T : Int} (hT : TR T) {h : HV} : rd fz1 h (T + 1108) (-1) = 6000 := by rcases hT with rfl | rfl <;> exact rd1_of (by decide +kernel)
theorem r18k {T : Int} (hT : TR T) : (T + 1108) % 64 = 32 := by rcases hT with rfl | rfl <;> decide
theorem r19 {T : Int} (hT : TR T) {h : HV} : rd fz1 h T 19 = T + 1174 := by rcases hT with rfl | rfl <;> exact rd1_of (by decide +kernel)
theorem r19l {T : Int} (hT : TR T) {h : HV} : rd fz1 h (T + 1174) (-1) = 401 := by rcases hT with rfl | rfl <;> exact rd1_of (by decide +kernel)
theorem r19k {T : Int} (hT : TR T) : (T + 1174) % 64 = 34 := by rcases hT with rfl | rfl <;> decide
theorem r23 {T : Int} (hT : TR T) {h : HV} : rd fz1 h T 23 = T + 1236 := by rcases hT with rfl | rfl <;> exact rd1_of (by decide +kernel)
theorem r23l {T : Int} (hT : TR T) {h : HV} : rd fz1 h (T + 1236) (-1) = 3208 := by rcases hT with rfl | rfl <;> exact rd1_of (by decide +kernel)
theorem r23k {T : Int} (hT : TR T) : (T + 1236) % 64 = 32 := by rcases hT with rfl | rfl <;> decide
theorem r24 {T : Int} (hT : TR T) {h : HV} : rd fz1 h T 24 = T + 1300 := by rcases hT with rfl | rfl <;> exact rd1_of (by decide +kernel)
theorem r24l {T : Int} (hT : TR T) {h : HV} : rd fz1 h (T + 1300) (-1) = 401 := by rcases hT with rfl | rfl <;> exact rd1_of (by decide +kernel)
theorem r24k {T : Int} (hT : TR T) : (T + 1300) % 64 = 32 := by rcases hT with rfl | rfl <;> decide
theorem TR_0 {T : Int} (hT : TR T) : (T = 0) = False := by rcases hT with rfl | rfl <;> decide
theorem TR_k {T : Int} (hT : TR T) : T % 64 = 12 := by rcases hT with rfl | rfl <;> decide
theorem c0 {T : Int} (hT : TC T) {h : HV} : rd fz1 h T 0 = T + 91 := by rcases hT with rfl | rfl <;> exact rd1_of (by decide +kernel)
theorem c0l {T : Int} (hT : TC T) {h : HV} : rd fz1 h (T + 91) (-1) = 7 := by rcases hT with rfl | rfl <;> exact rd1_of (by decide +kernel)
theorem c0k {T : Int} (hT : TC T) : (T + 91) % 64 = 37 := by rcases hT with rfl | rfl <;> decide
theorem c1 {T : Int} (hT : TC T) {h : HV} : rd fz1 h T 1 = T + 598 := by rcases hT with rfl | rfl <;> exact rd1_of (by decide +kernel)
theorem c1l {T : Int} (hT : TC T) {h : HV} : rd fz1 h (T + 598) (-1) = 7 := by rcases hT with rfl | rfl <;> exact rd1_of (by decide +kernel)
theorem c1k {T : Int} (hT : TC T) : (T + 598) % 64 = 32 := by rcases hT with rfl | rfl <;> decide
theorem c2 {T : Int} (hT : TC T) {h : HV} : rd fz1 h T 2 = T + 662 := by rcases hT with rfl | rfl <;> exact rd1_of (by decide +kernel)
theorem c2l {T : Int} (hT : TC T) {h : HV} : rd fz1 h (T + 662) (-1) = 6 := by rcases hT with rfl | rfl <;> exact rd1_of (by decide +kernel)
theorem c2k {T : Int} (hT : TC T) : (T + 662) % 64 = 32 := by rcases hT with rfl | rfl <;> decide
theorem c3 {T : Int} (hT : TC T) {h : HV} : rd fz1 h T 3 = T + 726 := by rcases hT with rfl | rfl <;> exact rd1_of (by decide +kernel)
theorem c3l {T : Int} (hT : TC T) {h : HV} : rd fz1 h (T + 726) (-1) = 10 := by rcases hT with rfl | rfl <;> exact rd1_of (by decide +kernel)
theorem c3k {T : Int} (hT : TC T) : (T + 726) % 64 = 32 := by rcases hT with rfl | rfl <;> decide
theorem c4 {T : Int} (hT : TC T) {h : HV} : rd fz1 h T 4 = T + 790 := by rcases hT with rfl | rfl <;> exact rd1_of (by decide +kernel)
theorem c4l {T : Int} (hT : TC T) {h : HV} : rd fz1 h (T + 790) (-1) = 10 := by rcases hT with rfl | rfl <;> exact rd1_of (by decide +kernel)
theorem c4k {T : Int} (hT : TC T) : (T + 790) % 64 = 32 := by rcases hT with rfl | rfl <;> decide
theorem c5 {T : Int} (hT : TC T) {h : HV} : rd fz1 h T 5 = T + 854 := by rcases hT with rfl | rfl <;> exact rd1_of (by decide +kernel)
theorem c5l {T : Int} (hT : TC T) {h : HV} : rd fz1 h (T + 854) (-1) = 8 := by rcases hT with rfl | rfl <;> exact rd1_of (by decide +kernel)
theorem c5k {T : Int} (hT : TC T) : (T + 854) % 64 = 32 := by rcases hT with rfl | rfl <;> decide
theorem c6 {T : Int} (hT : TC T) {h : HV} : rd fz1 h T 6 = T + 918 := by rcases hT with rfl | rfl <;> exact rd1_of (by decide +kernel)
theorem c6l {T : Int} (hT : TC T) {h : HV} : rd fz1 h (T + 918) (-1) = 12 := by rcases hT with rfl | rfl <;> exact rd1_of (by decide +kernel)
theorem c6k {T : Int} (hT : TC T) : (T + 918) % 64 = 32 := by rcases hT with rfl | rfl <;> decide
theorem c7 {T : Int} (hT : TC T) {h : HV} : rd fz1 h T 7 = T + 982 := by rcases hT with rfl | rfl <;> exact rd1_of (by decide +kernel)
theorem c7l {T : Int} (hT : TC T) {h : HV} : rd fz1 h (T + 982) (-1) = 12 := by rcases hT with rfl | rfl <;> exact rd1_of (by decide +kernel)
theorem c7k {T : Int} (hT : TC T) : (T + 982) % 64 = 32 := by rcases hT with rfl | rfl <;> decide
theorem c8 {T : Int} (hT : TC T) {h : HV} : rd fz1 h T 8 = T + 1046 := by rcases hT with rfl | rfl <;> exact rd1_of (by decide +kernel)
theorem c8l {T : Int} (hT : TC T) {h : HV} : rd fz1 h (T + 1046) (-1) = 12 := by rcases hT with rfl | rfl <;> exact rd1_of (by decide +kernel)
theorem c8k {T : Int} (hT : TC T) : (T + 1046) % 64 = 32 := by rcases hT with rfl | rfl <;> decide
theorem c9 {T : Int} (hT : TC T) {h : HV} : rd fz1 h T 9 = T + 1110 := by rcases hT with rfl | rfl <;> exact rd1_of (by decide +kernel)
theorem c9l {T : Int} (hT : TC T) {h : HV} : rd fz1 h (T + 1110) (-1) = 8 := by rcases hT with rfl | rfl <;> exact rd1_of (by decide +kernel)
theorem c9k {T : Int} (hT : TC T) : (T + 1110) % 64 = 32 := by rcases hT with rfl | rfl <;> decide
theorem c10 {T : Int} (hT : TC T) {h : HV} : rd fz1 h T 10 = T + 1174 := by rcases hT with rfl | rfl <;> exact rd1_of (by decide +kernel)
theorem c10l {T : Int} (hT : TC T) {h : HV} : rd fz1 h (T + 1174) (-1) = 36 := by rcases hT with rfl | rfl <;> exact rd1_of (by decide +kernel)
theorem c10k {T : Int} (hT : TC T) : (T + 1174) % 64 = 32 := by rcases hT with rfl | rfl <;> decide
theorem c12 {T : Int} (hT : TC T) {h : HV} : rd fz1 h T 12 = T + 1238 := by rcases hT with rfl | rfl <;> exact rd1_of (by decide +kernel)
theorem c12l {T : Int} (hT : TC T) {h : HV} : rd fz1 h (T + 1238) (-1) = 12 := by rcases hT with rfl | rfl <;> exact rd1_of (by decide +kernel)
theorem c12k {T : Int} (hT : TC T) : (T + 1238) % 64 = 32 := by rcases hT with rfl | rfl <;> decide
theorem c13 {T : Int} (hT : TC T) {h : HV} : rd fz1 h T 13 = T + 1302 := by rcases hT with rfl | rfl <;> exact rd1_of (by decide +kernel)
theorem c13l {T : Int} (hT : TC T) {h : HV} : rd fz1 h (T + 1302) (-1) = 12 := by rcases hT with rfl | rfl <;> exact rd1_of (by decide +kernel)
theorem c13k {T : Int} (hT : TC T) : (T + 1302) % 64 = 32 := by rcases hT with rfl | rfl <;> decide
theorem c14 {T : Int} (hT : TC T) {h : HV} : rd fz1 h T 14 = T + 1366 := by rcases hT with rfl | rfl <;> exact rd1_of (by decide +kernel)
theorem c14l {T : Int} (hT : TC T) {h : HV} : rd fz1 h (T + 1366) (-1) = 12 := by rcases hT with rfl | rfl <;> exact rd1_of (by decide +kernel)
theorem c14k {T : Int} (hT : TC T) : (T + 1366) % 64 = 32 := by rcases hT with rfl | rfl <;> decide
theorem c16 {T : Int} (hT : TC T) {h : HV} : rd fz1 h T 16 = T + 1430 := by rcases hT with rfl | rfl <;> exact rd1_of (by decide +kernel)
theorem c16l {T : Int} (hT : TC T) {h : HV} : rd fz1 h (T + 1430) (-1) = 2400 := by rcases hT with rfl | rfl <;> exact rd1_of (by decide +kernel)
theorem c16k {T : Int} (hT : TC T) : (T + 1430) % 64 = 32 := by rcases hT with rfl | rfl <;> decide
theorem TC_0 {T : Int} (hT : TC T) : (T = 0) = False := by rcases hT with rfl | rfl <;> decide
theorem TC_k {T : Int} (hT : TC T) : T % 64 = 10 := by rcases hT with rfl | rfl <;> decide
theorem TC_n {T j : Int} (hT : TC T) (h0 : 0 ≤ j) (h7 : j < 7) {h : HV} : rd fz1 h (T + 91) j = T + 151 + 64 * j := by
  have hc : j = 0 ∨ j = 1 ∨ j = 2 ∨ j = 3 ∨ j = 4 ∨ j = 5 ∨ j = 6 := by omega
  rcases hT with rfl | rfl <;> rcases hc with rfl | rfl | rfl | rfl | rfl | rfl | rfl <;> exact rd1_of (by decide +kernel)
theorem TC_nl {T j : Int} (hT : TC T) (h0 : 0 ≤ j) (h7 : j < 7) {h : HV} : rd fz1 h (T + 151 + 64 * j) (-1) = 12 := by
  have hc : j = 0 ∨ j = 1 ∨ j = 2 ∨ j = 3 ∨ j = 4 ∨ j = 5 ∨ j = 6 := by omega
  rcases hT with rfl | rfl <;> rcases hc with rfl | rfl | rfl | rfl | rfl | rfl | rfl <;> exact rd1_of (by decide +kernel)
theorem lp320_1 {d : Nat} {a T : Int} {h : HV} {Q : Int → HV → Prop} (hT : TR T) (ht : h 6603 9 = T) (hQ : G fz1 d 320 2 [(3, 6603), (3, a), (0, 7), (9, 0)] [] (fillH h (T + 84) 7 0) Q) : ∀ (m : Nat) (j : Int), 0 ≤ j → j + m = 7 → G fz1 d 320 1 [(3, 6603), (3, a), (0, j), (9, 0)] [] (fillH h (T + 84) j 0) Q
  | 0, j, h0, hm => by
    have e : j = 7 := by omega
    subst e
    apply G_in
    simp only [en320, b320_1, x_aload0, x_gc_12291, x_gf_11339, x_goto_1, x_iastore, x_iconst, x_if_icmp_ge_2, x_iinc2, x_iload2, klp_0, klp_1, klp_2, klp_3, klp_9, KC_0, KC_1, KC_2, KC_3, KC_4, ne_eq, not_false_eq_true, not_true_eq_false, true_and, and_true, and_self, implies_true, eq_self, true_imp_iff, false_implies, Int.reduceEq, Int.reduceNe, Int.reduceMod, Int.reduceMul, Int.reduceAdd, Int.reduceSub, Int.reduceNeg, Int.reduceLT, Int.reduceLE, Nat.reduceAdd, Nat.reduceLeDiff, Nat.reduceLT, Nat.reduceSub, reduceIte, wds_n, wds_0, wds_1, wds_2, wds_3, or_true, true_or, or_false, false_or, or_self, r0 hT, r0l hT, r0k hT, TR_0 hT, TR_k hT]
    first
    | exact hQ
    | exact ⟨fun _ => hQ, fun q => (q (by omega)).elim⟩
  | m + 1, j, h0, hm => by
    have hf : fillH h (T + 84) j 0 6603 = h 6603 := fh_ne (by rcases hT with rfl | rfl <;> decide)
    have hc : (7 ≤ j) = False := eq_false (by omega)
    have h1 : (0 ≤ j) = True := eq_true h0
    have h2 : (j < 7) = True := eq_true (by omega)
    apply G_in
    simp only [en320, b320_1, x_aload0, x_gc_12291, x_gf_11339, x_goto_1, x_iastore, x_iconst, x_if_icmp_ge_2, x_iinc2, x_iload2, klp_0, klp_1, klp_2, klp_3, klp_9, KC_0, KC_1, KC_2, KC_3, KC_4, ne_eq, not_false_eq_true, not_true_eq_false, true_and, and_true, and_self, implies_true, eq_self, true_imp_iff, false_implies, Int.reduceEq, Int.reduceNe, Int.reduceMod, Int.reduceMul, Int.reduceAdd, Int.reduceSub, Int.reduceNeg, Int.reduceLT, Int.reduceLE, Nat.reduceAdd, Nat.reduceLeDiff, Nat.reduceLT, Nat.reduceSub, reduceIte, wds_n, wds_0, wds_1, wds_2, wds_3, or_true, true_or, or_false, false_or, or_self, hc, h1, h2, hf, ht, r0 hT, r0l hT, r0k hT, TR_0 hT, TR_k hT]
    rw [fillH_s h h0, w32_id (by omega)]
    exact lp320_1 hT ht hQ m (j + 1) (by omega) (by omega)
/-- n bytes of a number put into a from t on -/
def bt (b k : Int) : Int := bst 35 (w8 (w32 (l_shr b (w32 (8 * k)))))
def putH (h : HV) (a t n b : Int) : HV := fun o i => if o = a ∧ t ≤ i ∧ i < t + n then bt b (i - t) else h o i
theorem putH_0 (h : HV) (a t b : Int) : putH h a t 0 b = h := by
  funext o i
  unfold putH
  rw [if_neg (by omega)]
theorem putH_s (h : HV) {a t k b x : Int} (hk : 0 ≤ k) (hx : x = t + k) : hset (putH h a t k b) a x (bt b k) = putH h a t (k + 1) b := by
  subst hx
  funext o i
  unfold hset putH
  by_cases h1 : o = a ∧ i = t + k
  · rw [if_pos h1, if_pos (by omega), h1.2, show t + k - t = k by omega]
  · rw [if_neg h1]
    by_cases h2 : o = a ∧ t ≤ i ∧ i < t + k
    · rw [if_pos h2, if_pos (by omega)]
    · rw [if_neg h2, if_neg (by omega)]
theorem ph_ne {h : HV} {a t n b o : Int} (hn : ¬ o = a) : putH h a t n b o = h o := by
  funext i
  unfold putH
  rw [if_neg (fun q => hn q.1)]
theorem ph_eq {h : HV} {a t n b i : Int} : putH h a t n b a i = if t ≤ i ∧ i < t + n then bt b (i - t) else h a i := by
  unfold putH
  by_cases hb : t ≤ i ∧ i < t + n
  · rw [if_pos ⟨rfl, hb⟩, if_pos hb]
  · rw [if_neg (fun q => hb q.2), if_neg hb]
theorem bst_35 {o x : Int} (ho : o % 64 = 35) : bst o x = bst 35 x := by unfold bst; rw [if_pos ho, if_pos (by decide)]
theorem lp22 {d : Nat} {n b t : Int} {h : HV} {Q : Int → HV → Prop} (ht : h 129 1 = t) (h0t : 0 ≤ t) (htn : t + n ≤ 2400) (hQ : Q 1 (hset (putH h 227 t n b) 129 1 (t + n))) : ∀ (m : Nat) (j : Int), 0 ≤ j → j + m = n → G fz1 d 22 3 [(3, 129), (0, n), (1, b), (9, 0), (0, j)] [] (putH h 227 t j b) Q
  | 0, j, h0, hm => by
    have e : j = n := by omega
    subst e
    have hf : putH h 227 t j b 129 = h 129 := ph_ne (by decide)
    apply G_in
    simp only [en22, b22_3, x_aload0, x_bastore, x_gc_1027, x_gf_1032, x_goto_3, x_i2b, x_iadd, x_iconst, x_if_icmp_ge_4, x_iinc4, x_iload1, x_iload4, x_imul, x_l2i, x_lload2, x_lshr, klp_0, klp_1, klp_2, klp_3, klp_9, KC_0, KC_1, KC_2, KC_3, KC_4, ne_eq, not_false_eq_true, not_true_eq_false, true_and, and_true, and_self, implies_true, eq_self, true_imp_iff, false_implies, Int.reduceEq, Int.reduceNe, Int.reduceMod, Int.reduceMul, Int.reduceAdd, Int.reduceSub, Int.reduceNeg, Int.reduceLT, Int.reduceLE, Nat.reduceAdd, Nat.reduceLeDiff, Nat.reduceLT, Nat.reduceSub, reduceIte, wds_n, wds_0, wds_1, wds_2, wds_3, or_true, true_or, or_false, false_or, or_self]
    refine ⟨fun _ => ?_, fun q => (q (by omega)).elim⟩
    apply G_in
    simp only [en22, b22_4, x_aload0, x_dup0, x_dup3, x_freturn, x_gf_1032, x_iadd, x_iconst, x_iload1, x_pf_1032, klp_0, klp_1, klp_2, klp_3, klp_9, KC_0, KC_1, KC_2, KC_3, KC_4, ne_eq, not_false_eq_true, not_true_eq_false, true_and, and_true, and_self, implies_true, eq_self, true_imp_iff, false_implies, Int.reduceEq, Int.reduceNe, Int.reduceMod, Int.reduceMul, Int.reduceAdd, Int.reduceSub, Int.reduceNeg, Int.reduceLT, Int.reduceLE, Nat.reduceAdd, Nat.reduceLeDiff, Nat.reduceLT, Nat.reduceSub, reduceIte, wds_n, wds_0, wds_1, wds_2, wds_3, or_true, true_or, or_false, false_or, or_self, hf, ht]
    rw [w32_id (by omega)]
    exact hQ
  | m + 1, j, h0, hm => by
    have hf : putH h 227 t j b 129 = h 129 := ph_ne (by decide)
    have hc : (n ≤ j) = False := eq_false (by omega)
    have e1 : w32 (t + j) = t + j := w32_id (by omega)
    have h1 : (0 ≤ t + j) = True := eq_true (by omega)
    have h2 : (t + j < 2400) = True := eq_true (by omega)
    apply G_in
    simp only [en22, b22_3, x_aload0, x_bastore, x_gc_1027, x_gf_1032, x_goto_3, x_i2b, x_iadd, x_iconst, x_if_icmp_ge_4, x_iinc4, x_iload1, x_iload4, x_imul, x_l2i, x_lload2, x_lshr, klp_0, klp_1, klp_2, klp_3, klp_9, KC_0, KC_1, KC_2, KC_3, KC_4, ne_eq, not_false_eq_true, not_true_eq_false, true_and, and_true, and_self, implies_true, eq_self, true_imp_iff, false_implies, Int.reduceEq, Int.reduceNe, Int.reduceMod, Int.reduceMul, Int.reduceAdd, Int.reduceSub, Int.reduceNeg, Int.reduceLT, Int.reduceLE, Nat.reduceAdd, Nat.reduceLeDiff, Nat.reduceLT, Nat.reduceSub, reduceIte, wds_n, wds_0, wds_1, wds_2, wds_3, or_true, true_or, or_false, false_or, or_self, hc, hf, ht, z129_0, z227_l, e1, h1, h2, bst_35 (show (227 : Int) % 64 = 35 by decide)]
    rw [w32_id (x := j + 1) (by omega), show bst 35 (w8 (w32 (l_shr b (w32 (8 * j))))) = bt b j from rfl, putH_s h h0 rfl]
    exact lp22 ht h0t htn hQ m (j + 1) (by omega) (by omega)
/-- Scanner.put -/
theorem s22 {d : Nat} {n b t : Int} {h : HV} {Q : Int → HV → Prop} (ht : h 129 1 = t) (h0t : 0 ≤ t) (htm : t ≤ 2400) (hn1 : 1 ≤ n) (hn8 : n ≤ 8) (hA : t + n ≤ 2400 → Q 1 (hset (putH h 227 t n b) 129 1 (t + n))) (hB : 2400 < t + n → Q 0 h) : Sp fz1 d 22 [(3, 129), (0, n), (1, b)] h Q := by
  have e1 : w32 (t + n) = t + n := w32_id (by omega)
  apply G_in
  simp only [en22, b22_0, x_aload0, x_gf_1032, x_goto_1, x_iadd, x_iconst, x_ifCond_lt_1, x_if_icmp_le_2, x_iload1, klp_0, klp_1, klp_2, klp_3, klp_9, KC_0, KC_1, KC_2, KC_3, KC_4, ne_eq, not_false_eq_true, not_true_eq_false, true_and, and_true, and_self, implies_true, eq_self, true_imp_iff, false_implies, Int.reduceEq, Int.reduceNe, Int.reduceMod, Int.reduceMul, Int.reduceAdd, Int.reduceSub, Int.reduceNeg, Int.reduceLT, Int.reduceLE, Nat.reduceAdd, Nat.reduceLeDiff, Nat.reduceLT, Nat.reduceSub, reduceIte, wds_n, wds_0, wds_1, wds_2, wds_3, or_true, true_or, or_false, false_or, or_self, ht, e1]
  refine ⟨fun q => by omega, fun _ => ⟨fun hc => ?_, fun hc => ?_⟩⟩
  · apply G_in
    simp only [en22, b22_2, x_goto_3, x_iconst, x_istore4, klp_0, klp_1, klp_2, klp_3, klp_9, KC_0, KC_1, KC_2, KC_3, KC_4, ne_eq, not_false_eq_true, not_true_eq_false, true_and, and_true, and_self, implies_true, eq_self, true_imp_iff, false_implies, Int.reduceEq, Int.reduceNe, Int.reduceMod, Int.reduceMul, Int.reduceAdd, Int.reduceSub, Int.reduceNeg, Int.reduceLT, Int.reduceLE, Nat.reduceAdd, Nat.reduceLeDiff, Nat.reduceLT, Nat.reduceSub, reduceIte, wds_n, wds_0, wds_1, wds_2, wds_3, or_true, true_or, or_false, false_or, or_self]
    have := lp22 (d := d) ht h0t hc (hA hc) n.toNat 0 (by omega) (by omega)
    rw [putH_0] at this
    exact this
  · apply G_in
    simp only [en22, b22_1, x_freturn, x_iconst, klp_0, klp_1, klp_2, klp_3, klp_9, KC_0, KC_1, KC_2, KC_3, KC_4, ne_eq, not_false_eq_true, not_true_eq_false, true_and, and_true, and_self, implies_true, eq_self, true_imp_iff, false_implies, Int.reduceEq, Int.reduceNe, Int.reduceMod, Int.reduceMul, Int.reduceAdd, Int.reduceSub, Int.reduceNeg, Int.reduceLT, Int.reduceLE, Nat.reduceAdd, Nat.reduceLeDiff, Nat.reduceLT, Nat.reduceSub, reduceIte, wds_n, wds_0, wds_1, wds_2, wds_3, or_true, true_or, or_false, false_or, or_self]
    exact hB (by omega)
theorem lp319 {d : Nat} {n b t : Int} {h : HV} {Q : Int → HV → Prop} (h0t : 0 ≤ t) (htn : t + n ≤ 2400) (hQ : Q (t + n) (hset (putH h 6691 t n b) 6603 1 (t + n))) : ∀ (m : Nat) (j : Int), 0 ≤ j → j + m = n → G fz1 d 319 4 [(3, 6603), (0, n), (1, b), (9, 0), (0, j)] [] (hset (putH h 6691 t j b) 6603 1 (t + j)) Q
  | 0, j, h0, hm => by
    have e : j = n := by omega
    subst e
    apply G_in
    simp only [en319, b319_4, x_aload0, x_bastore, x_dup0, x_dup3, x_gc_11267, x_gf_11272, x_goto_4, x_i2b, x_iadd, x_iconst, x_if_icmp_ge_5, x_iinc4, x_iload1, x_iload4, x_imul, x_l2i, x_lload2, x_lshr, x_pf_11272, klp_0, klp_1, klp_2, klp_3, klp_9, KC_0, KC_1, KC_2, KC_3, KC_4, ne_eq, not_false_eq_true, not_true_eq_false, true_and, and_true, and_self, implies_true, eq_self, true_imp_iff, false_implies, Int.reduceEq, Int.reduceNe, Int.reduceMod, Int.reduceMul, Int.reduceAdd, Int.reduceSub, Int.reduceNeg, Int.reduceLT, Int.reduceLE, Nat.reduceAdd, Nat.reduceLeDiff, Nat.reduceLT, Nat.reduceSub, reduceIte, wds_n, wds_0, wds_1, wds_2, wds_3, or_true, true_or, or_false, false_or, or_self]
    refine ⟨fun _ => ?_, fun q => (q (by omega)).elim⟩
    apply G_in
    simp only [en319, b319_5, x_aload0, x_gf_11272, x_ireturn, klp_0, klp_1, klp_2, klp_3, klp_9, KC_0, KC_1, KC_2, KC_3, KC_4, ne_eq, not_false_eq_true, not_true_eq_false, true_and, and_true, and_self, implies_true, eq_self, true_imp_iff, false_implies, Int.reduceEq, Int.reduceNe, Int.reduceMod, Int.reduceMul, Int.reduceAdd, Int.reduceSub, Int.reduceNeg, Int.reduceLT, Int.reduceLE, Nat.reduceAdd, Nat.reduceLeDiff, Nat.reduceLT, Nat.reduceSub, reduceIte, wds_n, wds_0, wds_1, wds_2, wds_3, or_true, true_or, or_false, false_or, or_self, hs_eq]
    exact hQ
  | m + 1, j, h0, hm => by
    have hc : (n ≤ j) = False := eq_false (by omega)
    have e2 : w32 (t + j + 1) = t + (j + 1) := (w32_id (by omega)).trans (by omega)
    have h1 : (0 ≤ t + j) = True := eq_true (by omega)
    have h2 : (t + j < 2400) = True := eq_true (by omega)
    have e3 : hset (hset (hset (putH h 6691 t j b) 6603 1 (t + j)) 6691 (t + j) (bt b j)) 6603 1 (t + (j + 1)) = hset (putH h 6691 t (j + 1) b) 6603 1 (t + (j + 1)) := by
      rw [← putH_s h h0 rfl]
      funext o i
      simp only [hset_v]
      by_cases hc1 : o = 6603 ∧ i = 1
      · rw [if_pos hc1, if_pos hc1]
      · rw [if_neg hc1, if_neg hc1, if_neg hc1]
    apply G_in
    simp only [en319, b319_4, x_aload0, x_bastore, x_dup0, x_dup3, x_gc_11267, x_gf_11272, x_goto_4, x_i2b, x_iadd, x_iconst, x_if_icmp_ge_5, x_iinc4, x_iload1, x_iload4, x_imul, x_l2i, x_lload2, x_lshr, x_pf_11272, klp_0, klp_1, klp_2, klp_3, klp_9, KC_0, KC_1, KC_2, KC_3, KC_4, ne_eq, not_false_eq_true, not_true_eq_false, true_and, and_true, and_self, implies_true, eq_self, true_imp_iff, false_implies, Int.reduceEq, Int.reduceNe, Int.reduceMod, Int.reduceMul, Int.reduceAdd, Int.reduceSub, Int.reduceNeg, Int.reduceLT, Int.reduceLE, Nat.reduceAdd, Nat.reduceLeDiff, Nat.reduceLT, Nat.reduceSub, reduceIte, wds_n, wds_0, wds_1, wds_2, wds_3, or_true, true_or, or_false, false_or, or_self, hc, hs_ne, hs_eq, z6603_0, z6691_l, e2, h1, h2, bst_35 (show (6691 : Int) % 64 = 35 by decide)]
    rw [w32_id (x := j + 1) (by omega), show bst 35 (w8 (w32 (l_shr b (w32 (8 * j))))) = bt b j from rfl, e3]
    exact lp319 h0t htn hQ m (j + 1) (by omega) (by omega)
/-- feed of the reference -/
theorem s319 {d : Nat} {n b t : Int} {h : HV} {Q : Int → HV → Prop} (ht : h 6603 1 = t) (h0t : 0 ≤ t) (htm : t ≤ 2400) (hA : 1 ≤ n → n ≤ 8 → t + n ≤ 2400 → Q (t + n) (hset (putH h 6691 t n b) 6603 1 (t + n))) (hB : 1 ≤ n → n ≤ 8 → 2400 < t + n → Q (-3) h) (hC : n < 1 ∨ 8 < n → Q (-1) h) : Sp fz1 d 319 [(3, 6603), (0, n), (1, b)] h Q := by
  apply G_in
  simp only [en319, b319_0, x_goto_1, x_iconst, x_if_icmp_le_2, x_if_icmp_lt_1, x_iload1, klp_0, klp_1, klp_2, klp_3, klp_9, KC_0, KC_1, KC_2, KC_3, KC_4, ne_eq, not_false_eq_true, not_true_eq_false, true_and, and_true, and_self, implies_true, eq_self, true_imp_iff, false_implies, Int.reduceEq, Int.reduceNe, Int.reduceMod, Int.reduceMul, Int.reduceAdd, Int.reduceSub, Int.reduceNeg, Int.reduceLT, Int.reduceLE, Nat.reduceAdd, Nat.reduceLeDiff, Nat.reduceLT, Nat.reduceSub, reduceIte, wds_n, wds_0, wds_1, wds_2, wds_3, or_true, true_or, or_false, false_or, or_self]
  refine ⟨fun hc => ?_, fun hc => ⟨fun hc2 => ?_, fun hc2 => ?_⟩⟩
  · apply G_in
    simp only [en319, b319_1, x_iconst, x_ireturn, klp_0, klp_1, klp_2, klp_3, klp_9, KC_0, KC_1, KC_2, KC_3, KC_4, ne_eq, not_false_eq_true, not_true_eq_false, true_and, and_true, and_self, implies_true, eq_self, true_imp_iff, false_implies, Int.reduceEq, Int.reduceNe, Int.reduceMod, Int.reduceMul, Int.reduceAdd, Int.reduceSub, Int.reduceNeg, Int.reduceLT, Int.reduceLE, Nat.reduceAdd, Nat.reduceLeDiff, Nat.reduceLT, Nat.reduceSub, reduceIte, wds_n, wds_0, wds_1, wds_2, wds_3, or_true, true_or, or_false, false_or, or_self]
    exact hC (by omega)
  · have e1 : w32 (t + n) = t + n := w32_id (by omega)
    apply G_in
    simp only [en319, b319_2, x_aload0, x_gf_11272, x_iadd, x_iconst, x_if_icmp_le_3, x_iload1, x_ireturn, klp_0, klp_1, klp_2, klp_3, klp_9, KC_0, KC_1, KC_2, KC_3, KC_4, ne_eq, not_false_eq_true, not_true_eq_false, true_and, and_true, and_self, implies_true, eq_self, true_imp_iff, false_implies, Int.reduceEq, Int.reduceNe, Int.reduceMod, Int.reduceMul, Int.reduceAdd, Int.reduceSub, Int.reduceNeg, Int.reduceLT, Int.reduceLE, Nat.reduceAdd, Nat.reduceLeDiff, Nat.reduceLT, Nat.reduceSub, reduceIte, wds_n, wds_0, wds_1, wds_2, wds_3, or_true, true_or, or_false, false_or, or_self, ht, e1]
    refine ⟨fun hc3 => ?_, fun hc3 => hB (by omega) hc2 (by omega)⟩
    apply G_in
    simp only [en319, b319_3, x_goto_4, x_iconst, x_istore4, klp_0, klp_1, klp_2, klp_3, klp_9, KC_0, KC_1, KC_2, KC_3, KC_4, ne_eq, not_false_eq_true, not_true_eq_false, true_and, and_true, and_self, implies_true, eq_self, true_imp_iff, false_implies, Int.reduceEq, Int.reduceNe, Int.reduceMod, Int.reduceMul, Int.reduceAdd, Int.reduceSub, Int.reduceNeg, Int.reduceLT, Int.reduceLE, Nat.reduceAdd, Nat.reduceLeDiff, Nat.reduceLT, Nat.reduceSub, reduceIte, wds_n, wds_0, wds_1, wds_2, wds_3, or_true, true_or, or_false, false_or, or_self]
    have := lp319 (d := d) (h := h) h0t hc3 (hA (by omega) hc2 hc3) n.toNat 0 (by omega) (by omega)
    rw [putH_0, show t + 0 = t by omega, show hset h 6603 1 t = h from by
      funext o i
      rw [hset_v]
      by_cases hq : o = 6603 ∧ i = 1
      · rw [if_pos hq, hq.1, hq.2, ht]
      · rw [if_neg hq]] at this
    exact this
  · apply G_in
    simp only [en319, b319_1, x_iconst, x_ireturn, klp_0, klp_1, klp_2, klp_3, klp_9, KC_0, KC_1, KC_2, KC_3, KC_4, ne_eq, not_false_eq_true, not_true_eq_false, true_and, and_true, and_self, implies_true, eq_self, true_imp_iff, false_implies, Int.reduceEq, Int.reduceNe, Int.reduceMod, Int.reduceMul, Int.reduceAdd, Int.reduceSub, Int.reduceNeg, Int.reduceLT, Int.reduceLE, Nat.reduceAdd, Nat.reduceLeDiff, Nat.reduceLT, Nat.reduceSub, reduceIte, wds_n, wds_0, wds_1, wds_2, wds_3, or_true, true_or, or_false, false_or, or_self]
    exact hC (by omega)
/-- feed of the class -/
theorem s21 {d : Nat} {n b t : Int} {h : HV} {Q : Int → HV → Prop} (hd : 0 < d) (ht : h 129 1 = t) (h0t : 0 ≤ t) (htm : t ≤ 2400) (hA : 1 ≤ n → n ≤ 8 → t + n ≤ 2400 → Q (t + n) (hset (putH h 227 t n b) 129 1 (t + n))) (hB : 1 ≤ n → n ≤ 8 → 2400 < t + n → Q (-3) h) (hC : n < 1 ∨ 8 < n → Q (-1) h) : Sp fz1 d 21 [(3, 64), (0, n), (1, b)] h Q := by
  apply G_in
  simp only [en21, b21_0, x_goto_1, x_iconst, x_if_icmp_le_2, x_if_icmp_lt_1, x_iload1, klp_0, klp_1, klp_2, klp_3, klp_9, KC_0, KC_1, KC_2, KC_3, KC_4, ne_eq, not_false_eq_true, not_true_eq_false, true_and, and_true, and_self, implies_true, eq_self, true_imp_iff, false_implies, Int.reduceEq, Int.reduceNe, Int.reduceMod, Int.reduceMul, Int.reduceAdd, Int.reduceSub, Int.reduceNeg, Int.reduceLT, Int.reduceLE, Nat.reduceAdd, Nat.reduceLeDiff, Nat.reduceLT, Nat.reduceSub, reduceIte, wds_n, wds_0, wds_1, wds_2, wds_3, or_true, true_or, or_false, false_or, or_self]
  refine ⟨fun hc => ?_, fun hc => ⟨fun hc2 => ?_, fun hc2 => ?_⟩⟩
  · apply G_in
    simp only [en21, b21_1, x_iconst, x_ireturn, klp_0, klp_1, klp_2, klp_3, klp_9, KC_0, KC_1, KC_2, KC_3, KC_4, ne_eq, not_false_eq_true, not_true_eq_false, true_and, and_true, and_self, implies_true, eq_self, true_imp_iff, false_implies, Int.reduceEq, Int.reduceNe, Int.reduceMod, Int.reduceMul, Int.reduceAdd, Int.reduceSub, Int.reduceNeg, Int.reduceLT, Int.reduceLE, Nat.reduceAdd, Nat.reduceLeDiff, Nat.reduceLT, Nat.reduceSub, reduceIte, wds_n, wds_0, wds_1, wds_2, wds_3, or_true, true_or, or_false, false_or, or_self]
    exact hC (by omega)
  · apply G_in
    simp only [en21, b21_2, x_aload0, y_call22, y_call23, x_gc_3, x_goto_4, x_ifCond_eq_3, x_iload1, x_lload2, klp_0, klp_1, klp_2, klp_3, klp_9, KC_0, KC_1, KC_2, KC_3, KC_4, ne_eq, not_false_eq_true, not_true_eq_false, true_and, and_true, and_self, implies_true, eq_self, true_imp_iff, false_implies, Int.reduceEq, Int.reduceNe, Int.reduceMod, Int.reduceMul, Int.reduceAdd, Int.reduceSub, Int.reduceNeg, Int.reduceLT, Int.reduceLE, Nat.reduceAdd, Nat.reduceLeDiff, Nat.reduceLT, Nat.reduceSub, reduceIte, wds_n, wds_0, wds_1, wds_2, wds_3, or_true, true_or, or_false, false_or, or_self, z64_0]
    refine ⟨hd, s22 ht h0t htm (by omega) hc2 (fun hc3 => ?_) (fun hc3 => ?_)⟩
    · simp only [en21, b21_2, x_aload0, y_call22, y_call23, x_gc_3, x_goto_4, x_ifCond_eq_3, x_iload1, x_lload2, klp_0, klp_1, klp_2, klp_3, klp_9, KC_0, KC_1, KC_2, KC_3, KC_4, ne_eq, not_false_eq_true, not_true_eq_false, true_and, and_true, and_self, implies_true, eq_self, true_imp_iff, false_implies, Int.reduceEq, Int.reduceNe, Int.reduceMod, Int.reduceMul, Int.reduceAdd, Int.reduceSub, Int.reduceNeg, Int.reduceLT, Int.reduceLE, Nat.reduceAdd, Nat.reduceLeDiff, Nat.reduceLT, Nat.reduceSub, reduceIte, wds_n, wds_0, wds_1, wds_2, wds_3, or_true, true_or, or_false, false_or, or_self, z64_0]
      refine ⟨hd, G_in ?_⟩
      simp only [en23, b23_0, x_aload0, x_gf_1032, x_ireturn, klp_0, klp_1, klp_2, klp_3, klp_9, KC_0, KC_1, KC_2, KC_3, KC_4, ne_eq, not_false_eq_true, not_true_eq_false, true_and, and_true, and_self, implies_true, eq_self, true_imp_iff, false_implies, Int.reduceEq, Int.reduceNe, Int.reduceMod, Int.reduceMul, Int.reduceAdd, Int.reduceSub, Int.reduceNeg, Int.reduceLT, Int.reduceLE, Nat.reduceAdd, Nat.reduceLeDiff, Nat.reduceLT, Nat.reduceSub, reduceIte, wds_n, wds_0, wds_1, wds_2, wds_3, or_true, true_or, or_false, false_or, or_self, hs_eq, x_goto_4]
      refine G_in ?_
      simp only [en21, b21_4, x_ireturn, klp_0, klp_1, klp_2, klp_3, klp_9, KC_0, KC_1, KC_2, KC_3, KC_4, ne_eq, not_false_eq_true, not_true_eq_false, true_and, and_true, and_self, implies_true, eq_self, true_imp_iff, false_implies, Int.reduceEq, Int.reduceNe, Int.reduceMod, Int.reduceMul, Int.reduceAdd, Int.reduceSub, Int.reduceNeg, Int.reduceLT, Int.reduceLE, Nat.reduceAdd, Nat.reduceLeDiff, Nat.reduceLT, Nat.reduceSub, reduceIte, wds_n, wds_0, wds_1, wds_2, wds_3, or_true, true_or, or_false, false_or, or_self]
      exact hA (by omega) hc2 hc3
    · simp only [en21, b21_2, x_aload0, y_call22, y_call23, x_gc_3, x_goto_4, x_ifCond_eq_3, x_iload1, x_lload2, klp_0, klp_1, klp_2, klp_3, klp_9, KC_0, KC_1, KC_2, KC_3, KC_4, ne_eq, not_false_eq_true, not_true_eq_false, true_and, and_true, and_self, implies_true, eq_self, true_imp_iff, false_implies, Int.reduceEq, Int.reduceNe, Int.reduceMod, Int.reduceMul, Int.reduceAdd, Int.reduceSub, Int.reduceNeg, Int.reduceLT, Int.reduceLE, Nat.reduceAdd, Nat.reduceLeDiff, Nat.reduceLT, Nat.reduceSub, reduceIte, wds_n, wds_0, wds_1, wds_2, wds_3, or_true, true_or, or_false, false_or, or_self]
      refine G_in ?_
      simp only [en21, b21_3, x_goto_4, x_iconst, klp_0, klp_1, klp_2, klp_3, klp_9, KC_0, KC_1, KC_2, KC_3, KC_4, ne_eq, not_false_eq_true, not_true_eq_false, true_and, and_true, and_self, implies_true, eq_self, true_imp_iff, false_implies, Int.reduceEq, Int.reduceNe, Int.reduceMod, Int.reduceMul, Int.reduceAdd, Int.reduceSub, Int.reduceNeg, Int.reduceLT, Int.reduceLE, Nat.reduceAdd, Nat.reduceLeDiff, Nat.reduceLT, Nat.reduceSub, reduceIte, wds_n, wds_0, wds_1, wds_2, wds_3, or_true, true_or, or_false, false_or, or_self]
      refine G_in ?_
      simp only [en21, b21_4, x_ireturn, klp_0, klp_1, klp_2, klp_3, klp_9, KC_0, KC_1, KC_2, KC_3, KC_4, ne_eq, not_false_eq_true, not_true_eq_false, true_and, and_true, and_self, implies_true, eq_self, true_imp_iff, false_implies, Int.reduceEq, Int.reduceNe, Int.reduceMod, Int.reduceMul, Int.reduceAdd, Int.reduceSub, Int.reduceNeg, Int.reduceLT, Int.reduceLE, Nat.reduceAdd, Nat.reduceLeDiff, Nat.reduceLT, Nat.reduceSub, reduceIte, wds_n, wds_0, wds_1, wds_2, wds_3, or_true, true_or, or_false, false_or, or_self]
      exact hB (by omega) hc2 (by omega)
  · apply G_in
    simp only [en21, b21_1, x_iconst, x_ireturn, klp_0, klp_1, klp_2, klp_3, klp_9, KC_0, KC_1, KC_2, KC_3, KC_4, ne_eq, not_false_eq_true, not_true_eq_false, true_and, and_true, and_self, implies_true, eq_self, true_imp_iff, false_implies, Int.reduceEq, Int.reduceNe, Int.reduceMod, Int.reduceMul, Int.reduceAdd, Int.reduceSub, Int.reduceNeg, Int.reduceLT, Int.reduceLE, Nat.reduceAdd, Nat.reduceLeDiff, Nat.reduceLT, Nat.reduceSub, reduceIte, wds_n, wds_0, wds_1, wds_2, wds_3, or_true, true_or, or_false, false_or, or_self]
    exact hC (by omega)
