/-! THE PURE SIDE, 193: staff: the loop of subjects: printed by wip/tools/gen8zk.py -/
section SM
variable {bX : Int} {tp : Int → Int} {t T S s s1 s2 f fu : Int} {h hr g gr k kr m mr : HV} {Q : Int → HV → Prop} {d : Nat}
theorem staff_lp {x kd : Int} (hx : 0 ≤ x ∧ x < 10) (hk : 0 ≤ kd ∧ kd ≤ 2) {e e2 : Nat} : ∀ (N : Nat) {s : Int} {h kr : HV} {m : Nat} {F : Int → Int} {n : Int} (u3 : AV), TKX tp t T S s h kr → CNX T S h kr → kr (S + 340) x = m → m < 2 ^ 12 → 0 ≤ n → n + N = 13 → (∀ i, 0 ≤ i → i < n → (0 ≤ F i ∧ F i < 12) ∧ m.testBit (F i).toNat = true) → (∀ i j, 0 ≤ i → i < n → 0 ≤ j → j < n → F i = F j → i = j) → ∃ (m' : Int) (h1 g gr : HV), (∀ Q, Sp fz1 (e + 10) 64 [(3, 258), (0, m)] h Q = Q m' h1) ∧ (∀ Q, G fz1 (e + 11) 63 3 [(3, 258), (0, x), (0, kd), (0, m'), (0, n)] [] h1 Q = Q 0 g) ∧ (∀ Q, G fz1 (e2 + 10) 336 6 [(3, 6603), (0, x), (0, 1), u3] [] kr Q = Q 0 gr) ∧ ((∃ (mf : Nat) (s1 : Int) (g3 : HV), s + 1 ≤ s1 ∧ mf < 2 ^ 12 ∧ TKX tp t T S s1 g gr ∧ g = hset (hset g3 (T + 726) x (2 + kd)) (T + 790) x mf ∧ SAC h g3 ∧ SAR (hset kr (S + 340) x mf) gr) ∨ ((∃ f, BXC T f g ∧ BXR S f gr) ∧ SAC h g ∧ FIR S kr gr)) := by
  intro N
  induction N with
  | zero =>
    intro s h kr m F n u3 D C e340 hm n0 hN hF hi
    exact absurd (inj_le (n := n) (m := 12) (f := F) (fun i a b => (hF i a b).1) hi (by decide)) (by omega)
  | succ N ih =>
    intro s h kr m F n u3 D C e340 hm n0 hN hF hi
    have hT := D.2.1.1.1
    have hS := D.2.1.2.1
    have kT := kTC hT
    have kS := kTR hS
    have h9 := D.2.1.2.2
    have Fz := D.fz
    have C0 := C.1 0 (by decide) (by decide)
    have m0 : MST 0 = 12 := by decide
    have sb : ∀ a : HV, SAC a (bdH a) := fun a o u => by unfold bdH; rw [hs_ne u, hs_ne u]
    have p0 : ∀ Q, Sp fz1 (e + 9) 28 [(3, 129), (0, 0)] h Q = Q 0 (bdH h) := fun Q => p28f (by omega)
    have gd : ∀ Q, Sp fz1 (e2 + 9) 325 [(3, 6603)] kr Q = Q 1 kr := fun Q => D.g325
    have wr : ∀ Q, Sp fz1 (e2 + 9) 332 [(3, 6603)] kr Q = Q 0 (bdR kr) := fun Q => v332g (by omega)
    obtain ⟨t1, W⟩ := td_pair (q := 0) D C (by decide) e (e2 + 3)
    rcases W with ⟨w, ri, wt, y, tl, W⟩ | ⟨w, ri, ev⟩
    · by_cases z : (tdX T h tp t s 0 = -1 ∧ y = -9) ∨ (0 ≤ y ∧ y = tdX T h tp t s 0 ∧ i_and (i_shr (m : Int) y) 1 = 1)
      · -- none told, or told twice
        have c64 : ∀ Q, Sp fz1 (e + 10) 64 [(3, 258), (0, m)] h Q = Q m (bdH h) := fun Q => c64n (d := e) t1 (by
          rcases z with z | z
          · exact .inl (by rw [z.1]; decide)
          · exact .inr ⟨by rw [← z.2.1]; exact z.1, by rw [← z.2.1]; exact z.2.2⟩) p0
        have nx := fun Q => r336_11 (Q := Q) (y := x) (mo := 1) (v := y) (e2 := e2) D.bad.2
        refine ⟨m, bdH h, bdH h, bdR kr, c64, fun Q => c63_3 D.bad.1, fun Q => ?_, .inr ⟨⟨s, D.bad⟩, sb h, FIR.bd⟩⟩
        rw [q336_6]
        rcases z with z | z
        · have zy := z.2
          subst zy
          simp (implicitDefEqProofs := false) (disch := omega) only [b336_6, b336_8, b336_9, q336_8, q336_9, x_aload0, y_call325, y_call329, y_call330, y_call331, y_call332, x_gc_12323, x_gf_11339, x_goto_11, x_goto_8, x_goto_9, x_iaload, x_iand, x_iconst, x_ifCond_eq_15, x_ifCond_eq_7, x_if_icmp_eq_9, x_if_icmp_ne_10, x_iload1, x_iload2, x_iload3, x_ishr, x_istore3, klp_0, klp_1, klp_2, klp_3, klp_9, KC_0, KC_1, KC_2, KC_3, KC_4, ne_eq, not_false_eq_true, not_true_eq_false, true_and, and_true, and_self, implies_true, eq_self, true_imp_iff, false_implies, Int.reduceEq, Int.reduceNe, Int.reduceMod, Int.reduceMul, Int.reduceAdd, Int.reduceSub, Int.reduceLT, Int.reduceLE, Nat.reduceAdd, Nat.reduceLeDiff, Nat.reduceLT, Nat.reduceSub, reduceIte, wds_n, wds_0, wds_1, wds_2, wds_3, or_true, true_or, or_false, false_or, or_self, false_and, and_false, d_pos, d_s1, d_s2, d_s3, d_s4, d_s5, d_s6, d_s7, d_s8, Classical.not_not, r3 hS, r3l hS, r3k hS, r4 hS, r4l hS, r4k hS, TR_0 hS, TR_k hS, gd, ri, wt, tl, wr, nx, d_s9, d_s10, d_s11, d_s12, d_s13, d_s14, d_s15, d_s16, d_s17, d_s18, d_s19, d_s20, d_s21, d_s22, d_s23, d_s24, d_s25, d_s26, d_s27, d_s28, d_s29, d_s30, hs_ne, hcell, hcel1, le_sub1, le_T, le_F, lt_T, lt_F, eq_F, w32_T, bz0, bz1, lc_le, lc_ge, lc_lt, lc_gt, lc_eq]
        · have zb := z.2.2
          have zy : ¬ y = -9 := by omega
          simp (implicitDefEqProofs := false) (disch := omega) only [b336_6, b336_8, b336_9, q336_8, q336_9, x_aload0, y_call325, y_call329, y_call330, y_call331, y_call332, x_gc_12323, x_gf_11339, x_goto_11, x_goto_8, x_goto_9, x_iaload, x_iand, x_iconst, x_ifCond_eq_15, x_ifCond_eq_7, x_if_icmp_eq_9, x_if_icmp_ne_10, x_iload1, x_iload2, x_iload3, x_ishr, x_istore3, klp_0, klp_1, klp_2, klp_3, klp_9, KC_0, KC_1, KC_2, KC_3, KC_4, ne_eq, not_false_eq_true, not_true_eq_false, true_and, and_true, and_self, implies_true, eq_self, true_imp_iff, false_implies, Int.reduceEq, Int.reduceNe, Int.reduceMod, Int.reduceMul, Int.reduceAdd, Int.reduceSub, Int.reduceLT, Int.reduceLE, Nat.reduceAdd, Nat.reduceLeDiff, Nat.reduceLT, Nat.reduceSub, reduceIte, wds_n, wds_0, wds_1, wds_2, wds_3, or_true, true_or, or_false, false_or, or_self, false_and, and_false, d_pos, d_s1, d_s2, d_s3, d_s4, d_s5, d_s6, d_s7, d_s8, Classical.not_not, r3 hS, r3l hS, r3k hS, r4 hS, r4l hS, r4k hS, TR_0 hS, TR_k hS, h9, gd, ri, wt, tl, wr, nx, e340, zb, zy, d_s9, d_s10, d_s11, d_s12, d_s13, d_s14, d_s15, d_s16, d_s17, d_s18, d_s19, d_s20, d_s21, d_s22, d_s23, d_s24, d_s25, d_s26, d_s27, d_s28, d_s29, d_s30, hs_ne, hcell, hcel1, le_sub1, le_T, le_F, lt_T, lt_F, eq_F, w32_T, bz0, bz1, lc_le, lc_ge, lc_lt, lc_gt, lc_eq]
      · -- one more
        have yy : y = tdX T h tp t s 0 ∧ 0 ≤ y ∧ y < h (T + 598) 0 := by
          rcases W with a | a
          · exact absurd (.inl a) z
          · exact a
        have zb : i_and (i_shr (m : Int) y) 1 = 0 := (and1_01 _).resolve_right (fun a => z (.inr ⟨yy.2.1, yy.1, a⟩))
        have zy : ¬ y = -9 := by omega
        have yn : ((y.toNat : Nat) : Int) = y := by omega
        have nb : ¬ m.testBit y.toNat = true := fun a => by
          have b := sub_bit (m := m) (j := y.toNat) hm (by omega)
          rw [yn, if_pos a] at b
          omega
        have ho : i_or (m : Int) (i_shl 1 y) = ((m ||| 2 ^ y.toNat : Nat) : Int) := by
          have b := sub_or (m := m) (j := y.toNat) hm (by omega)
          rw [yn] at b
          exact b
        have hm2 : m ||| 2 ^ y.toNat < 2 ^ 12 := sub_lt hm (by omega)
        have hF2 : ∀ i, 0 ≤ i → i < n + 1 → (0 ≤ (if i = n then y else F i) ∧ (if i = n then y else F i) < 12) ∧ (m ||| 2 ^ y.toNat).testBit (if i = n then y else F i).toNat = true := fun i a b => by
          by_cases c : i = n
          · rw [if_pos c]
            exact ⟨by omega, sub_tb.mpr (.inr rfl)⟩
          · rw [if_neg c]
            have u := hF i a (by omega)
            exact ⟨u.1, sub_tb.mpr (.inl u.2)⟩
        have hi2 : ∀ i j, 0 ≤ i → i < n + 1 → 0 ≤ j → j < n + 1 → (if i = n then y else F i) = (if j = n then y else F j) → i = j := fun i j i0 i1 j0 j1 q => by
          by_cases c : i = n
          · by_cases c2 : j = n
            · omega
            · rw [if_pos c, if_neg c2] at q
              exact absurd (by rw [q]; exact (hF j j0 (by omega)).2) nb
          · by_cases c2 : j = n
            · rw [if_neg c, if_pos c2] at q
              exact absurd (by rw [← q]; exact (hF i i0 (by omega)).2) nb
            · rw [if_neg c, if_neg c2] at q
              exact hi i j i0 (by omega) j0 (by omega) q
        have n12 : n + 1 ≤ 12 := inj_le (n := n + 1) (m := 12) (f := fun i => if i = n then y else F i) (fun i a b => (hF2 i a b).1) hi2 (by decide)
        generalize m ||| 2 ^ y.toNat = m2 at *
        obtain ⟨g5, r5, X1, X2, -, -, X3, X4, e1, f1⟩ := (D.stR (o := S + 340) (i := x) (v := (m2 : Int)) (by omega)).nx (e + 1) (e2 + 7)
        have ts := D.ts (by have := w.1; omega)
        have X2' := X2 ts
        have h95 : r5 6603 9 = S := X1.2.1.2.2
        have e5 : r5 (S + 340) x = m2 := by rw [X4.1 _ (by omega), hcel1]
        have C5 : CNX T S g5 r5 := C.fr (by rw [X3 _ (by omega)]) (fun q _ _ => by rw [X3 _ (by omega)]) (by rw [X4.1 _ (by omega), hs_ne (by omega)]) (by rw [X4.1 _ (by omega), hs_ne (by omega)])
        have c64 : ∀ Q, Sp fz1 (e + 10) 64 [(3, 258), (0, m)] h Q = Q (m2 : Int) g5 := fun Q => by
          rw [c64y (d := e) t1 (by omega) (by rw [← yy.1]; exact zb) e1, ← yy.1, ho]
        have gd5 : ∀ Q, Sp fz1 (e2 + 9) 325 [(3, 6603)] r5 Q = Q 1 r5 := fun Q => X1.g325
        generalize nxS tp t s = s5 at *
        by_cases sc : sgP tp t s5 44
        · -- another
          have is : ∀ (d : Nat) Q, Sp fz1 d 59 [(3, 129), (0, 44)] g5 Q = Q 1 g5 := fun d Q => by rw [c59 X1.1.2.1 X1.1.1 (by decide)]; exact congrArg (fun x => Q x g5) (if_pos sc)
          have ir : ∀ (d : Nat) Q, Sp fz1 d 334 [(3, 6603), (0, 44)] r5 Q = Q 1 r5 := fun d Q => by rw [v334 X1.1.2.2 X1.1.1]; exact congrArg (fun x => Q x r5) (if_pos sc)
          obtain ⟨g6, r6, Y1, Y2, -, -, Y3, Y4, e2', f2⟩ := X1.nx (e + 2) (e2 + 7)
          have ts2 := X1.ts (by have := sc.1; omega)
          have Y2' := Y2 ts2
          have e6 : r6 (S + 340) x = m2 := by rw [Y4.1 _ (by omega), e5]
          have C6 : CNX T S g6 r6 := C5.fr (by rw [Y3 _ (by omega)]) (fun q _ _ => by rw [Y3 _ (by omega)]) (by rw [Y4.1 _ (by omega)]) (by rw [Y4.1 _ (by omega)])
          obtain ⟨m', h1, g, gr, E1, E2, E3, W⟩ := ih (s := nxS tp t s5) (h := g6) (kr := r6) (m := m2) (F := fun i => if i = n then y else F i) (n := n + 1) (0, y) Y1 C6 e6 hm2 (by omega) (by omega) hF2 hi2
          refine ⟨m2, g5, g, gr, c64, fun Q => ?_, fun Q => ?_, ?_⟩
          · rw [q63_3]
            simp (implicitDefEqProofs := false) (disch := omega) only [b63_3, x_aload0, y_call28, y_call59, y_call64, x_gc_2051, x_goto_3, x_iconst, x_ifCond_eq_4, x_if_icmp_ge_4, x_iinc4, x_iload3, x_iload4, x_istore3, klp_0, klp_1, klp_2, klp_3, klp_9, KC_0, KC_1, KC_2, KC_3, KC_4, ne_eq, not_false_eq_true, not_true_eq_false, true_and, and_true, and_self, implies_true, eq_self, true_imp_iff, false_implies, Int.reduceEq, Int.reduceNe, Int.reduceMod, Int.reduceMul, Int.reduceAdd, Int.reduceSub, Int.reduceLT, Int.reduceLE, Nat.reduceAdd, Nat.reduceLeDiff, Nat.reduceLT, Nat.reduceSub, reduceIte, wds_n, wds_0, wds_1, wds_2, wds_3, or_true, true_or, or_false, false_or, or_self, false_and, and_false, d_pos, d_s1, d_s2, d_s3, d_s4, d_s5, d_s6, d_s7, d_s8, Classical.not_not, c3 hT, c3l hT, c3k hT, c4 hT, c4l hT, c4k hT, z258_0, TC_0 hT, TC_k hT, is, e2', E1, E2, d_s9, d_s10, d_s11, d_s12, d_s13, d_s14, d_s15, d_s16, d_s17, d_s18, d_s19, d_s20, d_s21, d_s22, d_s23, d_s24, d_s25, d_s26, d_s27, d_s28, d_s29, d_s30, hs_ne, hcell, hcel1, le_sub1, le_T, le_F, lt_T, lt_F, eq_F, w32_T, bz0, bz1, lc_le, lc_ge, lc_lt, lc_gt, lc_eq]
          · rw [q336_6]
            simp (implicitDefEqProofs := false) (disch := omega) only [b336_6, b336_8, b336_10, b336_11, b336_13, b336_14, q336_8, q336_10, q336_11, q336_13, q336_14, x_aload0, y_call321, y_call325, y_call329, y_call330, y_call331, y_call334, x_dup203, x_dup21, x_gc_12323, x_gf_11339, x_goto_11, x_goto_13, x_goto_14, x_goto_6, x_goto_8, x_goto_9, x_iaload, x_iand, x_iastore, x_iconst, x_ifCond_eq_12, x_ifCond_eq_14, x_ifCond_eq_15, x_ifCond_eq_7, x_if_icmp_eq_9, x_if_icmp_ne_10, x_iload1, x_iload2, x_iload3, x_ior, x_ishl, x_ishr, x_istore2, x_istore3, klp_0, klp_1, klp_2, klp_3, klp_9, KC_0, KC_1, KC_2, KC_3, KC_4, ne_eq, not_false_eq_true, not_true_eq_false, true_and, and_true, and_self, implies_true, eq_self, true_imp_iff, false_implies, Int.reduceEq, Int.reduceNe, Int.reduceMod, Int.reduceMul, Int.reduceAdd, Int.reduceSub, Int.reduceLT, Int.reduceLE, Nat.reduceAdd, Nat.reduceLeDiff, Nat.reduceLT, Nat.reduceSub, reduceIte, wds_n, wds_0, wds_1, wds_2, wds_3, or_true, true_or, or_false, false_or, or_self, false_and, and_false, d_pos, d_s1, d_s2, d_s3, d_s4, d_s5, d_s6, d_s7, d_s8, Classical.not_not, r3 hS, r3l hS, r3k hS, r4 hS, r4l hS, r4k hS, TR_0 hS, TR_k hS, h9, gd, ri, wt, tl, e340, zb, zy, ho, f1, gd5, ir, f2, E3, d_s9, d_s10, d_s11, d_s12, d_s13, d_s14, d_s15, d_s16, d_s17, d_s18, d_s19, d_s20, d_s21, d_s22, d_s23, d_s24, d_s25, d_s26, d_s27, d_s28, d_s29, d_s30, hs_ne, hcell, hcel1, le_sub1, le_T, le_F, lt_T, lt_F, eq_F, w32_T, bz0, bz1, lc_le, lc_ge, lc_lt, lc_gt, lc_eq]
          · have A6 : SAC h g6 := fun o u => by rw [Y3 o u, X3 o u]
            have B6 : SAR (hset kr (S + 340) x m2) r6 := X4.tr Y4
            rcases W with ⟨mf, s1, g3, a1, a2, a3, a4, a5, a6⟩ | ⟨b1, b2, b3⟩
            · exact .inl ⟨mf, s1, g3, by omega, a2, a3, a4, fun o u => by rw [a5 o u, A6 o u], SAR.hs (by omega) B6 a6⟩
            · exact .inr ⟨b1, fun o u => by rw [b2 o u, A6 o u], FIR.trans (FIR.st (by omega) hS) (B6.i.trans b3)⟩
        · -- the end
          have is : ∀ (d : Nat) Q, Sp fz1 d 59 [(3, 129), (0, 44)] g5 Q = Q 0 g5 := fun d Q => by rw [c59 X1.1.2.1 X1.1.1 (by decide)]; exact congrArg (fun x => Q x g5) (if_neg sc)
          have ir : ∀ (d : Nat) Q, Sp fz1 d 334 [(3, 6603), (0, 44)] r5 Q = Q 0 r5 := fun d Q => by rw [v334 X1.1.2.2 X1.1.1]; exact congrArg (fun x => Q x r5) (if_neg sc)
          obtain ⟨g6, r6, c6, f6, W⟩ := X1.sign (c := 59) (by decide) (e + 1) (e2 + 6)
          have sg : ∀ Q, Sp fz1 (e + 10) 58 [(3, 258), (0, 59)] g5 Q = Q 0 g6 := c6
          have sr : ∀ Q, Sp fz1 (e2 + 9) 333 [(3, 6603), (0, 59)] r5 Q = Q 0 r6 := f6
          have tail : ∀ Q, G fz1 (e2 + 10) 336 6 [(3, 6603), (0, x), (0, 0), (0, y)] [] r5 Q = Q 0 r6 := fun Q => by
            rw [q336_6]
            simp (implicitDefEqProofs := false) (disch := omega) only [b336_6, b336_15, q336_15, x_aload0, y_call325, y_call329, y_call330, y_call331, y_call333, x_goto_8, x_iconst, x_ifCond_eq_15, x_ifCond_eq_7, x_iload2, x_return, klp_0, klp_1, klp_2, klp_3, klp_9, KC_0, KC_1, KC_2, KC_3, KC_4, ne_eq, not_false_eq_true, not_true_eq_false, true_and, and_true, and_self, implies_true, eq_self, true_imp_iff, false_implies, Int.reduceEq, Int.reduceNe, Int.reduceMod, Int.reduceMul, Int.reduceAdd, Int.reduceSub, Int.reduceLT, Int.reduceLE, Nat.reduceAdd, Nat.reduceLeDiff, Nat.reduceLT, Nat.reduceSub, reduceIte, wds_n, wds_0, wds_1, wds_2, wds_3, or_true, true_or, or_false, false_or, or_self, false_and, and_false, d_pos, d_s1, d_s2, d_s3, d_s4, d_s5, d_s6, d_s7, d_s8, Classical.not_not, r3 hS, r3l hS, r3k hS, r4 hS, r4l hS, r4k hS, TR_0 hS, TR_k hS, gd5, sr, d_s9, d_s10, d_s11, d_s12, d_s13, d_s14, d_s15, d_s16, d_s17, d_s18, d_s19, d_s20, d_s21, d_s22, d_s23, d_s24, d_s25, d_s26, d_s27, d_s28, d_s29, d_s30, hs_ne, hcell, hcel1, le_sub1, le_T, le_F, lt_T, lt_F, eq_F, w32_T, bz0, bz1, lc_le, lc_ge, lc_lt, lc_gt, lc_eq]
          have R : ∀ Q, G fz1 (e2 + 10) 336 6 [(3, 6603), (0, x), (0, 1), u3] [] kr Q = Q 0 r6 := fun Q => by
            rw [q336_6]
            simp (implicitDefEqProofs := false) (disch := omega) only [b336_6, b336_8, b336_10, b336_11, b336_12, b336_13, b336_14, q336_8, q336_10, q336_11, q336_12, q336_13, q336_14, x_aload0, y_call321, y_call325, y_call329, y_call330, y_call331, y_call334, x_dup203, x_dup21, x_gc_12323, x_gf_11339, x_goto_11, x_goto_13, x_goto_14, x_goto_6, x_goto_8, x_goto_9, x_iaload, x_iand, x_iastore, x_iconst, x_ifCond_eq_12, x_ifCond_eq_14, x_ifCond_eq_15, x_ifCond_eq_7, x_if_icmp_eq_9, x_if_icmp_ne_10, x_iload1, x_iload2, x_iload3, x_ior, x_ishl, x_ishr, x_istore2, x_istore3, klp_0, klp_1, klp_2, klp_3, klp_9, KC_0, KC_1, KC_2, KC_3, KC_4, ne_eq, not_false_eq_true, not_true_eq_false, true_and, and_true, and_self, implies_true, eq_self, true_imp_iff, false_implies, Int.reduceEq, Int.reduceNe, Int.reduceMod, Int.reduceMul, Int.reduceAdd, Int.reduceSub, Int.reduceLT, Int.reduceLE, Nat.reduceAdd, Nat.reduceLeDiff, Nat.reduceLT, Nat.reduceSub, reduceIte, wds_n, wds_0, wds_1, wds_2, wds_3, or_true, true_or, or_false, false_or, or_self, false_and, and_false, d_pos, d_s1, d_s2, d_s3, d_s4, d_s5, d_s6, d_s7, d_s8, Classical.not_not, r3 hS, r3l hS, r3k hS, r4 hS, r4l hS, r4k hS, TR_0 hS, TR_k hS, h9, gd, ri, wt, tl, e340, zb, zy, ho, f1, gd5, ir, tail, d_s9, d_s10, d_s11, d_s12, d_s13, d_s14, d_s15, d_s16, d_s17, d_s18, d_s19, d_s20, d_s21, d_s22, d_s23, d_s24, d_s25, d_s26, d_s27, d_s28, d_s29, d_s30, hs_ne, hcell, hcel1, le_sub1, le_T, le_F, lt_T, lt_F, eq_F, w32_T, bz0, bz1, lc_le, lc_ge, lc_lt, lc_gt, lc_eq]
          rcases W with ⟨-, s6, q6, D6, A6, B6⟩ | ⟨-, ge, re⟩
          · have st : ∀ Q, Sp fz1 (e + 10) 41 [(3, 258)] g6 Q = Q 1 g6 := fun Q => D6.c41 (d := e + 9)
            have hp : g6 258 1 = T := D6.2.1.1.2
            refine ⟨m2, g5, hset (hset g6 (T + 726) x (2 + kd)) (T + 790) x m2, r6, c64, fun Q => ?_, R, .inl ⟨m2, s6, g6, by omega, hm2, (D6.stC (by omega)).stC (by omega), rfl, fun o u => by rw [A6 o u, X3 o u], X4.tr B6⟩⟩
            rw [q63_3]
            simp (implicitDefEqProofs := false) (disch := omega) only [b63_3, b63_4, b63_5, q63_4, q63_5, x_aload0, y_call28, y_call41, y_call58, y_call59, y_call64, x_gc_10267, x_gc_10275, x_gc_2051, x_gf_2059, x_goto_3, x_goto_5, x_iadd, x_iastore, x_iconst, x_ifCond_eq_4, x_ifCond_eq_5, x_if_icmp_ge_4, x_iinc4, x_iload1, x_iload2, x_iload3, x_iload4, x_istore3, x_return, klp_0, klp_1, klp_2, klp_3, klp_9, KC_0, KC_1, KC_2, KC_3, KC_4, ne_eq, not_false_eq_true, not_true_eq_false, true_and, and_true, and_self, implies_true, eq_self, true_imp_iff, false_implies, Int.reduceEq, Int.reduceNe, Int.reduceMod, Int.reduceMul, Int.reduceAdd, Int.reduceSub, Int.reduceLT, Int.reduceLE, Nat.reduceAdd, Nat.reduceLeDiff, Nat.reduceLT, Nat.reduceSub, reduceIte, wds_n, wds_0, wds_1, wds_2, wds_3, or_true, true_or, or_false, false_or, or_self, false_and, and_false, d_pos, d_s1, d_s2, d_s3, d_s4, d_s5, d_s6, d_s7, d_s8, Classical.not_not, c3 hT, c3l hT, c3k hT, c4 hT, c4l hT, c4k hT, z258_0, TC_0 hT, TC_k hT, hp, is, sg, st, d_s9, d_s10, d_s11, d_s12, d_s13, d_s14, d_s15, d_s16, d_s17, d_s18, d_s19, d_s20, d_s21, d_s22, d_s23, d_s24, d_s25, d_s26, d_s27, d_s28, d_s29, d_s30, hs_ne, hcell, hcel1, le_sub1, le_T, le_F, lt_T, lt_F, eq_F, w32_T, bz0, bz1, lc_le, lc_ge, lc_lt, lc_gt, lc_eq]
          · have B1 : BXC T s5 g6 := by rw [ge]; exact X1.bad.1
            have B2 : BXR S s5 r6 := by rw [re]; exact X1.bad.2
            have st : ∀ Q, Sp fz1 (e + 10) 41 [(3, 258)] g6 Q = Q 0 g6 := fun Q => B1.c41 (d := e + 9)
            have hp := B1.1.2
            have A6 : SAC g5 g6 := by rw [ge]; exact sb g5
            have F6 : FIR S r5 r6 := by rw [re]; exact FIR.bd
            refine ⟨m2, g5, g6, r6, c64, fun Q => ?_, R, .inr ⟨⟨s5, B1, B2⟩, fun o u => by rw [A6 o u, X3 o u], FIR.trans (FIR.st (by omega) hS) (X4.i.trans F6)⟩⟩
            rw [q63_3]
            simp (implicitDefEqProofs := false) (disch := omega) only [b63_3, b63_4, b63_5, q63_4, q63_5, x_aload0, y_call28, y_call41, y_call58, y_call59, y_call64, x_gc_10267, x_gc_10275, x_gc_2051, x_gf_2059, x_goto_3, x_goto_5, x_iadd, x_iastore, x_iconst, x_ifCond_eq_4, x_ifCond_eq_5, x_if_icmp_ge_4, x_iinc4, x_iload1, x_iload2, x_iload3, x_iload4, x_istore3, x_return, klp_0, klp_1, klp_2, klp_3, klp_9, KC_0, KC_1, KC_2, KC_3, KC_4, ne_eq, not_false_eq_true, not_true_eq_false, true_and, and_true, and_self, implies_true, eq_self, true_imp_iff, false_implies, Int.reduceEq, Int.reduceNe, Int.reduceMod, Int.reduceMul, Int.reduceAdd, Int.reduceSub, Int.reduceLT, Int.reduceLE, Nat.reduceAdd, Nat.reduceLeDiff, Nat.reduceLT, Nat.reduceSub, reduceIte, wds_n, wds_0, wds_1, wds_2, wds_3, or_true, true_or, or_false, false_or, or_self, false_and, and_false, d_pos, d_s1, d_s2, d_s3, d_s4, d_s5, d_s6, d_s7, d_s8, Classical.not_not, c3 hT, c3l hT, c3k hT, c4 hT, c4l hT, c4k hT, z258_0, TC_0 hT, TC_k hT, hp, is, sg, st, d_s9, d_s10, d_s11, d_s12, d_s13, d_s14, d_s15, d_s16, d_s17, d_s18, d_s19, d_s20, d_s21, d_s22, d_s23, d_s24, d_s25, d_s26, d_s27, d_s28, d_s29, d_s30, hs_ne, hcell, hcel1, le_sub1, le_T, le_F, lt_T, lt_F, eq_F, w32_T, bz0, bz1, lc_le, lc_ge, lc_lt, lc_gt, lc_eq]
    · -- no name
      rw [ev] at t1
      have c64 : ∀ Q, Sp fz1 (e + 10) 64 [(3, 258), (0, m)] h Q = Q m (bdH h) := fun Q => c64n (d := e) t1 (.inl (by decide)) p0
      have nx := fun Q => r336_11 (Q := Q) (y := x) (mo := 1) (v := -9) (e2 := e2) D.bad.2
      refine ⟨m, bdH h, bdH h, bdR kr, c64, fun Q => c63_3 D.bad.1, fun Q => ?_, .inr ⟨⟨s, D.bad⟩, sb h, FIR.bd⟩⟩
      rw [q336_6]
      simp (implicitDefEqProofs := false) (disch := omega) only [b336_6, b336_7, b336_8, b336_9, q336_7, q336_8, q336_9, x_aload0, y_call325, y_call329, y_call330, y_call331, y_call332, x_gc_12323, x_gf_11339, x_goto_11, x_goto_8, x_goto_9, x_iaload, x_iand, x_iconst, x_ifCond_eq_15, x_ifCond_eq_7, x_if_icmp_eq_9, x_if_icmp_ne_10, x_iload1, x_iload2, x_iload3, x_ishr, x_istore3, klp_0, klp_1, klp_2, klp_3, klp_9, KC_0, KC_1, KC_2, KC_3, KC_4, ne_eq, not_false_eq_true, not_true_eq_false, true_and, and_true, and_self, implies_true, eq_self, true_imp_iff, false_implies, Int.reduceEq, Int.reduceNe, Int.reduceMod, Int.reduceMul, Int.reduceAdd, Int.reduceSub, Int.reduceLT, Int.reduceLE, Nat.reduceAdd, Nat.reduceLeDiff, Nat.reduceLT, Nat.reduceSub, reduceIte, wds_n, wds_0, wds_1, wds_2, wds_3, or_true, true_or, or_false, false_or, or_self, false_and, and_false, d_pos, d_s1, d_s2, d_s3, d_s4, d_s5, d_s6, d_s7, d_s8, Classical.not_not, r3 hS, r3l hS, r3k hS, r4 hS, r4l hS, r4k hS, TR_0 hS, TR_k hS, gd, ri, wr, nx, d_s9, d_s10, d_s11, d_s12, d_s13, d_s14, d_s15, d_s16, d_s17, d_s18, d_s19, d_s20, d_s21, d_s22, d_s23, d_s24, d_s25, d_s26, d_s27, d_s28, d_s29, d_s30, hs_ne, hcell, hcel1, le_sub1, le_T, le_F, lt_T, lt_F, eq_F, w32_T, bz0, bz1, lc_le, lc_ge, lc_lt, lc_gt, lc_eq]
end SM
