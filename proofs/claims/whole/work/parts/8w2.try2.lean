/-! THE PURE SIDE, 171: acts on both sides: try, whole: printed by wip/tools/gen8w2.py -/
section SM
variable {bX : Int} {tp : Int → Int} {t T S s s1 s2 f : Int} {h hr g gr k kr m mr : HV} {Q : Int → HV → Prop} {d : Nat}
set_option maxHeartbeats 4000000 in
theorem or_256 {m f : Nat} (hm : m < 256) (hf : f < 8) : m ||| 2 ^ f < 256 := Nat.or_lt_two_pow (n := 8) hm (Nat.pow_lt_pow_right (by decide) hf)
set_option maxHeartbeats 4000000 in
theorem tb_or {m f j : Nat} : (m ||| 2 ^ f).testBit j = true ↔ m.testBit j = true ∨ f = j := by
  rw [Nat.testBit_or, Nat.testBit_two_pow]
  simp
set_option maxHeartbeats 4000000 in
theorem r362s {r : HV} {tn k : Int} {e2 : Nat} (hS : TR S) (h9 : r 6603 9 = S) (hk : 0 ≤ k ∧ k < 8) (ht : 0 ≤ tn ∧ tn ≤ 399) : G fz1 (e2 + 14) 362 1 [(3, 6603), (0, tn), (0, k)] [] r Q = G fz1 (e2 + 14) 362 1 [(3, 6603), (0, tn), (0, k + 1)] [] (hset r (S + 1236) (8 * tn + k) (-9)) Q := by
  rw [q362_1]
  simp (implicitDefEqProofs := false) (disch := omega) only [b362_1, x_aload0, x_gc_12475, x_gf_11339, x_goto_1, x_iadd, x_iastore, x_iconst, x_if_icmp_ge_2, x_iinc2, x_iload1, x_iload2, x_imul, klp_0, klp_1, klp_2, klp_3, klp_9, KC_0, KC_1, KC_2, KC_3, KC_4, ne_eq, not_false_eq_true, not_true_eq_false, true_and, and_true, and_self, implies_true, eq_self, true_imp_iff, false_implies, Int.reduceEq, Int.reduceNe, Int.reduceMod, Int.reduceMul, Int.reduceAdd, Int.reduceSub, Int.reduceLT, Int.reduceLE, Nat.reduceAdd, Nat.reduceLeDiff, Nat.reduceLT, Nat.reduceSub, reduceIte, wds_n, wds_0, wds_1, wds_2, wds_3, or_true, true_or, or_false, false_or, or_self, false_and, and_false, d_pos, d_s1, d_s2, d_s3, d_s4, d_s5, d_s6, d_s7, d_s8, Classical.not_not, r16 hS, r16l hS, r16k hS, r17 hS, r17l hS, r17k hS, r18 hS, r18l hS, r18k hS, r23 hS, r23l hS, r23k hS, r24 hS, r24l hS, r24k hS, TR_0 hS, TR_k hS, h9, hk, d_s9, d_s10, d_s11, d_s12, d_s13, d_s14, d_s15, d_s16, d_s17, d_s18, d_s19, d_s20, d_s21, d_s22, d_s23, d_s24, d_s25, d_s26, d_s27, d_s28, d_s29, d_s30, hs_ne, hcell, hcel1, le_sub1, le_T, le_F, lt_T, lt_F, eq_F, w32_T, bz0, bz1, lc_le, lc_ge, lc_lt, lc_gt, lc_eq]
set_option maxHeartbeats 4000000 in
theorem r362e {r : HV} {tn : Int} {e2 : Nat} (hS : TR S) : G fz1 (e2 + 14) 362 1 [(3, 6603), (0, tn), (0, 8)] [] r Q = G fz1 (e2 + 14) 362 2 [(3, 6603), (0, tn), (0, 8)] [] r Q := by
  rw [q362_1]
  simp (implicitDefEqProofs := false) (disch := omega) only [b362_1, x_aload0, x_gc_12475, x_gf_11339, x_goto_1, x_iadd, x_iastore, x_iconst, x_if_icmp_ge_2, x_iinc2, x_iload1, x_iload2, x_imul, klp_0, klp_1, klp_2, klp_3, klp_9, KC_0, KC_1, KC_2, KC_3, KC_4, ne_eq, not_false_eq_true, not_true_eq_false, true_and, and_true, and_self, implies_true, eq_self, true_imp_iff, false_implies, Int.reduceEq, Int.reduceNe, Int.reduceMod, Int.reduceMul, Int.reduceAdd, Int.reduceSub, Int.reduceLT, Int.reduceLE, Nat.reduceAdd, Nat.reduceLeDiff, Nat.reduceLT, Nat.reduceSub, reduceIte, wds_n, wds_0, wds_1, wds_2, wds_3, or_true, true_or, or_false, false_or, or_self, false_and, and_false, d_pos, d_s1, d_s2, d_s3, d_s4, d_s5, d_s6, d_s7, d_s8, Classical.not_not, r16 hS, r16l hS, r16k hS, r17 hS, r17l hS, r17k hS, r18 hS, r18l hS, r18k hS, r23 hS, r23l hS, r23k hS, r24 hS, r24l hS, r24k hS, d_s9, d_s10, d_s11, d_s12, d_s13, d_s14, d_s15, d_s16, d_s17, d_s18, d_s19, d_s20, d_s21, d_s22, d_s23, d_s24, d_s25, d_s26, d_s27, d_s28, d_s29, d_s30, hs_ne, hcell, hcel1, le_sub1, le_T, le_F, lt_T, lt_F, eq_F, w32_T, bz0, bz1, lc_le, lc_ge, lc_lt, lc_gt, lc_eq]
def t0A (S : Int) (r : HV) (tn : Int) : HV := hset (hset (hset (hset (hset (hset (hset (hset (hset r S 22 (tn + 1)) (S + 1236) (8 * tn + 0) (-9)) (S + 1236) (8 * tn + 1) (-9)) (S + 1236) (8 * tn + 2) (-9)) (S + 1236) (8 * tn + 3) (-9)) (S + 1236) (8 * tn + 4) (-9)) (S + 1236) (8 * tn + 5) (-9)) (S + 1236) (8 * tn + 6) (-9)) (S + 1236) (8 * tn + 7) (-9)
set_option maxHeartbeats 4000000 in
theorem r362 {r : HV} {tn : Int} {e2 : Nat} (hS : TR S) (h9 : r 6603 9 = S) (ht : 0 ≤ tn ∧ tn ≤ 399) : G fz1 (e2 + 14) 362 1 [(3, 6603), (0, tn), (0, 0)] [] (hset r S 22 (tn + 1)) Q = G fz1 (e2 + 14) 362 2 [(3, 6603), (0, tn), (0, 8)] [] (t0A S r tn) Q := by
  have kS := kTR hS
  have a : ∀ (b : HV) (i v : Int), b 6603 9 = S → hset b (S + 1236) i v 6603 9 = S := fun b i v w => by rw [hs_ne (by omega)]; exact w
  have b0 : hset r S 22 (tn + 1) 6603 9 = S := by rw [hs_ne (by omega)]; exact h9
  rw [r362s hS b0 (by decide) ht]
  rw [r362s hS (a _ _ _ b0) (by decide) ht]
  rw [r362s hS (a _ _ _ (a _ _ _ b0)) (by decide) ht]
  rw [r362s hS (a _ _ _ (a _ _ _ (a _ _ _ b0))) (by decide) ht]
  rw [r362s hS (a _ _ _ (a _ _ _ (a _ _ _ (a _ _ _ b0)))) (by decide) ht]
  rw [r362s hS (a _ _ _ (a _ _ _ (a _ _ _ (a _ _ _ (a _ _ _ b0))))) (by decide) ht]
  rw [r362s hS (a _ _ _ (a _ _ _ (a _ _ _ (a _ _ _ (a _ _ _ (a _ _ _ b0)))))) (by decide) ht]
  rw [r362s hS (a _ _ _ (a _ _ _ (a _ _ _ (a _ _ _ (a _ _ _ (a _ _ _ (a _ _ _ b0))))))) (by decide) ht]
  exact r362e hS
set_option maxHeartbeats 4000000 in
/-- the loop of on -/
theorem lpT {tn dep cL rL : Int} {B e e2 : Nat} (hB : 110 ≤ B) (he : B ≤ e + 13) (he2 : B ≤ e2 + 13) (hdp : 1 ≤ dep ∧ dep ≤ 12) (OB : BLKP bX tp t T S dep B) (D : GD bX tp t T S s h hr) (PR : PRA T S s h hr) (hd : hr 6603 12 = dep ∧ h 258 11 = 0) : ∀ (j : Nat) (n sk : Int) (k kr : HV) (l : List (Int × Int)) (m : Nat) (x2 : Int) (x5 x6 x7 : AV), n + j = 8 → (l.length : Int) = n → TRY bX tp t T S s tn dep h hr sk k kr cL rL l m → ∃ g gr, (∀ Q, G fz1 (e + 14) 118 1 [(3, 258), (0, dep), (0, x2), (0, (m : Int)), (0, n), x5, x6] [] k Q = Q 0 g) ∧ (∀ Q, G fz1 (e2 + 14) 362 3 [(3, 6603), (0, tn), x7] [] kr Q = Q 0 gr) ∧ OUTA bX tp t T S s h hr g gr (dep - 1)
  | 0, n, sk, k, kr, l, m, x2, x5, x6, x7, h1, h2, W => by
    have := W.2.2.2.2.1.2.2
    omega
  | j + 1, n, sk, k, kr, l, m, x2, x5, x6, x7, h1, h2, W => by
    obtain ⟨Z0, NV0, DX0, nm0, ls0, bt0, on0, PX0⟩ := id W
    have D0 := Z0.2.1
    have F := D0.f
    have N := D.nb
    have nk := D0.nb
    have nk0 := nk
    have n00 := N
    have S0 := D.sb
    have sk0 := D0.sb
    have hT := D.2.1.1.1
    have hS := D.2.1.2.1
    have kT := kTC hT
    have kS := kTR hS
    have PR0 := PR
    unfold NBR at N nk
    unfold PRA at PR
    have DX0' := DX0
    unfold DXB at DX0'
    have ql := ls0.2.2
    have R0 := D.2.2.2.2.2.2
    have hp0 : k 258 1 = T := D0.2.1.1.2
    have h90 : kr 6603 9 = S := D0.2.1.2.2
    by_cases wo : tkK tp t sk = 1 ∧ wdT tp t sk = 28526
    rotate_left
    · obtain ⟨g, gr, x, y, OO⟩ := endT (e := e) (e2 := e2) hB he he2 hdp OB D PR0 hd W (0, x2) (0, (m : Int)) (0, n) x5 x6 x7
      have hp0 : k 258 1 = T := D0.2.1.1.2
      have gd0 : ∀ Q, Sp fz1 (e2 + 13) 325 [(3, 6603)] kr Q = Q 1 kr := fun Q => v325g D0
      have jc : ∀ Q, Sp fz1 (e + 13) 45 [(3, 129), (3, NV_1715)] k Q = Q (-1) k := fun Q => by rw [NV_1715_e, D0.fw (d := e + 8) (str_13 D0.2.2.1.1) (by decide) w1_13, if_neg wo]
      have jon : ∀ (d : Nat) Q, Sp fz1 (d + 5) 327 [(3, 6603), (3, NV_1715)] kr Q = Q 0 kr := fun d Q => by rw [NV_1715_e, iw_on D0.1.2.2 D0.1.1 D0.2.2.1.2]; exact congrArg (fun x => Q x kr) (if_neg wo)
      have nle : (n > 7) = False := eq_false (by omega)
      refine ⟨g, gr, fun Q => ?_, fun Q => ?_, OO⟩
      · rw [← x Q, q118_1]
        simp (implicitDefEqProofs := false) (disch := omega) only [n118_1, x_aload0, y_call114, y_call115, y_call119, y_call28, y_call45, y_call78, y_call82, y_call93, x_gc_2051, x_gf_2059, x_goto_1, x_iconst, x_ifCond_ne_2, x_if_icmp_gt_2, x_iinc4, x_iload1, x_iload3, x_iload4, x_iload5, x_iload6, x_ior, x_ishl, x_istore3, x_istore5, x_istore6, x_jsr, klp_0, klp_1, klp_2, klp_3, klp_9, KC_0, KC_1, KC_2, KC_3, KC_4, ne_eq, not_false_eq_true, not_true_eq_false, true_and, and_true, and_self, implies_true, eq_self, true_imp_iff, false_implies, Int.reduceEq, Int.reduceNe, Int.reduceMod, Int.reduceMul, Int.reduceAdd, Int.reduceSub, Int.reduceLT, Int.reduceLE, Nat.reduceAdd, Nat.reduceLeDiff, Nat.reduceLT, Nat.reduceSub, reduceIte, wds_n, wds_0, wds_1, wds_2, wds_3, or_true, true_or, or_false, false_or, or_self, false_and, and_false, d_pos, d_s1, d_s2, d_s3, d_s4, d_s5, d_s6, d_s7, d_s8, Classical.not_not, z258_0, TC_0 hT, TC_k hT, hp0, jc, nle, d_s9, d_s10, d_s11, d_s12, d_s13, d_s14, d_s15, d_s16, d_s17, d_s18, d_s19, d_s20, d_s21, d_s22, d_s23, d_s24, d_s25, d_s26, d_s27, d_s28, d_s29, d_s30, hs_ne, hcell, hcel1, le_sub1, le_T, le_F, lt_T, lt_F, eq_F, w32_T, bz0, bz1, lc_le, lc_ge, lc_lt, lc_gt, lc_eq]
      · rw [← y Q, q362_3]
        simp (implicitDefEqProofs := false) (disch := omega) only [n362_3, x_aload0, y_call321, y_call325, y_call327, y_call363, x_gc_12475, x_gf_11339, x_goto_4, x_iadd, x_iaload, x_iconst, x_ifCond_eq_7, x_if_icmp_eq_4, x_if_icmp_eq_5, x_iload1, x_iload2, x_imul, x_istore2, x_jsr, klp_0, klp_1, klp_2, klp_3, klp_9, KC_0, KC_1, KC_2, KC_3, KC_4, ne_eq, not_false_eq_true, not_true_eq_false, true_and, and_true, and_self, implies_true, eq_self, true_imp_iff, false_implies, Int.reduceEq, Int.reduceNe, Int.reduceMod, Int.reduceMul, Int.reduceAdd, Int.reduceSub, Int.reduceLT, Int.reduceLE, Nat.reduceAdd, Nat.reduceLeDiff, Nat.reduceLT, Nat.reduceSub, reduceIte, wds_n, wds_0, wds_1, wds_2, wds_3, or_true, true_or, or_false, false_or, or_self, false_and, and_false, d_pos, d_s1, d_s2, d_s3, d_s4, d_s5, d_s6, d_s7, d_s8, Classical.not_not, r16 hS, r16l hS, r16k hS, r17 hS, r17l hS, r17k hS, r18 hS, r18l hS, r18k hS, r23 hS, r23l hS, r23k hS, r24 hS, r24l hS, r24k hS, TR_0 hS, TR_k hS, h90, gd0, jon, d_s9, d_s10, d_s11, d_s12, d_s13, d_s14, d_s15, d_s16, d_s17, d_s18, d_s19, d_s20, d_s21, d_s22, d_s23, d_s24, d_s25, d_s26, d_s27, d_s28, d_s29, d_s30, hs_ne, hcell, hcel1, le_sub1, le_T, le_F, lt_T, lt_F, eq_F, w32_T, bz0, bz1, lc_le, lc_ge, lc_lt, lc_gt, lc_eq]
    have gd0 : ∀ Q, Sp fz1 (e2 + 13) 325 [(3, 6603)] kr Q = Q 1 kr := fun Q => v325g D0
    have jc : ∀ Q, Sp fz1 (e + 13) 45 [(3, 129), (3, NV_1715)] k Q = Q 0 k := fun Q => by rw [NV_1715_e, D0.fw (d := e + 8) (str_13 D0.2.2.1.1) (by decide) w1_13, if_pos wo]
    have jon : ∀ (d : Nat) Q, Sp fz1 (d + 5) 327 [(3, 6603), (3, NV_1715)] kr Q = Q 1 kr := fun d Q => by rw [NV_1715_e, iw_on D0.1.2.2 D0.1.1 D0.2.2.1.2]; exact congrArg (fun x => Q x kr) (if_pos wo)
    have wl := wlen D0 wo.1 wo.2 (l := [111, 110]) (by decide) (by decide)
    simp (implicitDefEqProofs := false) only [List.length_cons, List.length_nil] at wl
    have nle : (n > 7) = False := eq_false (by omega)
    obtain ⟨g1, r1, X1, X1a, X1b, X1c, N1, M1, -, -, ec1, er1⟩ := D0.nx (e + 5) (e2 + 11)
    obtain ⟨p1, hp1p⟩ : ∃ p, p = nxS tp t sk := ⟨_, rfl⟩
    rw [← hp1p] at X1 X1a X1c
    have N1' := N1
    have M1' := M1
    unfold NC at N1'
    unfold NR at M1'
    have D1 := X1.2.1
    have Z1 := Z0.trans X1
    have pq1 := X1.1
    have hp1 : g1 258 1 = T := D1.2.1.1.2
    have h91 : r1 6603 9 = S := D1.2.1.2.2
    have sb1 := D1.sb
    have lm1 := D1.lim
    rcases D1.f119 (m := m) (by omega) (e + 4) (e2 + 7) with W2 | W2
    rotate_left
    · obtain ⟨f2, fr2, ft2, ec2, er2, B0, E00, F0, H0, b14, b15, -⟩ := W2
      have z19 := E00.2.1
      have E0 := E00.q
      have wz : ∀ Q, Sp fz1 (e2 + 13) 332 [(3, 6603)] r1 Q = Q 0 (bdR r1) := fun Q => v332g (by have := D1.f; omega)
      have RB : ∀ Q, G fz1 (e2 + 14) 362 3 [(3, 6603), (0, tn), x7] [] kr Q = G fz1 (e2 + 14) 362 6 [(3, 6603), (0, tn), (0, if f2 = 0 then -9 else f2)] [] (bdR r1) Q := fun Q => by
        by_cases z : f2 = 0
        · rw [if_pos z] at er2 ⊢
          rw [q362_3]
          simp (implicitDefEqProofs := false) (disch := omega) only [n362_3, b362_4, q362_4, x_aload0, y_call321, y_call325, y_call327, y_call332, y_call363, x_gc_12475, x_gf_11339, x_goto_4, x_goto_6, x_iadd, x_iaload, x_iconst, x_ifCond_eq_7, x_if_icmp_eq_4, x_if_icmp_eq_5, x_iload1, x_iload2, x_imul, x_istore2, x_jsr, klp_0, klp_1, klp_2, klp_3, klp_9, KC_0, KC_1, KC_2, KC_3, KC_4, ne_eq, not_false_eq_true, not_true_eq_false, true_and, and_true, and_self, implies_true, eq_self, true_imp_iff, false_implies, Int.reduceEq, Int.reduceNe, Int.reduceMod, Int.reduceMul, Int.reduceAdd, Int.reduceSub, Int.reduceLT, Int.reduceLE, Nat.reduceAdd, Nat.reduceLeDiff, Nat.reduceLT, Nat.reduceSub, reduceIte, wds_n, wds_0, wds_1, wds_2, wds_3, or_true, true_or, or_false, false_or, or_self, false_and, and_false, d_pos, d_s1, d_s2, d_s3, d_s4, d_s5, d_s6, d_s7, d_s8, Classical.not_not, r16 hS, r16l hS, r16k hS, r17 hS, r17l hS, r17k hS, r18 hS, r18l hS, r18k hS, r23 hS, r23l hS, r23k hS, r24 hS, r24l hS, r24k hS, TR_0 hS, TR_k hS, h90, gd0, jon, er1, er2, wz, d_s9, d_s10, d_s11, d_s12, d_s13, d_s14, d_s15, d_s16, d_s17, d_s18, d_s19, d_s20, d_s21, d_s22, d_s23, d_s24, d_s25, d_s26, d_s27, d_s28, d_s29, d_s30, hs_ne, hcell, hcel1, le_sub1, le_T, le_F, lt_T, lt_F, eq_F, w32_T, bz0, bz1, lc_le, lc_ge, lc_lt, lc_gt, lc_eq]
        · rw [if_neg z] at er2 ⊢
          obtain ⟨p, hp, hpf⟩ := (bt0.2 f2.toNat (by omega)).mp (ft2.resolve_left z)
          have o1 := on0.2.1 p hp
          rw [show p.1 = f2 by omega] at o1
          have o2 : r1 (S + 1236) (8 * tn + f2) = kr (S + 1236) (8 * tn + f2) := X1.2.2.2.1.2.2.2.2.2.2.2.1 _ (by omega) (by omega) (by omega)
          have on_ne : r1 (S + 1236) (8 * tn + f2) ≠ -9 := by omega
          rw [q362_3]
          simp (implicitDefEqProofs := false) (disch := omega) only [n362_3, b362_4, b362_5, q362_4, q362_5, x_aload0, y_call321, y_call325, y_call327, y_call332, y_call363, x_gc_12475, x_gf_11339, x_gf_12408, x_goto_4, x_goto_6, x_iadd, x_iaload, x_iastore, x_iconst, x_ifCond_eq_7, x_if_icmp_eq_4, x_if_icmp_eq_5, x_iload1, x_iload2, x_imul, x_istore2, x_jsr, klp_0, klp_1, klp_2, klp_3, klp_9, KC_0, KC_1, KC_2, KC_3, KC_4, ne_eq, not_false_eq_true, not_true_eq_false, true_and, and_true, and_self, implies_true, eq_self, true_imp_iff, false_implies, Int.reduceEq, Int.reduceNe, Int.reduceMod, Int.reduceMul, Int.reduceAdd, Int.reduceSub, Int.reduceLT, Int.reduceLE, Nat.reduceAdd, Nat.reduceLeDiff, Nat.reduceLT, Nat.reduceSub, reduceIte, wds_n, wds_0, wds_1, wds_2, wds_3, or_true, true_or, or_false, false_or, or_self, false_and, and_false, d_pos, d_s1, d_s2, d_s3, d_s4, d_s5, d_s6, d_s7, d_s8, Classical.not_not, r16 hS, r16l hS, r16k hS, r17 hS, r17l hS, r17k hS, r18 hS, r18l hS, r18k hS, r23 hS, r23l hS, r23k hS, r24 hS, r24l hS, r24k hS, TR_0 hS, TR_k hS, h90, gd0, jon, er1, er2, wz, h91, on_ne, d_s9, d_s10, d_s11, d_s12, d_s13, d_s14, d_s15, d_s16, d_s17, d_s18, d_s19, d_s20, d_s21, d_s22, d_s23, d_s24, d_s25, d_s26, d_s27, d_s28, d_s29, d_s30, hs_ne, hcell, hcel1, le_sub1, le_T, le_F, lt_T, lt_F, eq_F, w32_T, bz0, bz1, lc_le, lc_ge, lc_lt, lc_gt, lc_eq]
      have hp_0 := B0.1.2
      have h9_0 := E0.1.2
      have y0 := E0.2.2.2
      obtain ⟨k1, ⟨B1, F1⟩, x1⟩ := B0.e2 (p := 22) (x := f2)
      have hp_1 := B1.1.2
      obtain ⟨w2, k2, ⟨B2, F2⟩, x2⟩ := B1.h1
      have hp_2 := B2.1.2
      have x3 : ∀ Q, Sp fz1 (e + 13) 78 [(3, 258), (0, dep)] k2 Q = Q 0 k2 := fun Q => b78 B2
      obtain ⟨k4, ⟨B4, F4⟩, x4⟩ := B2.e1 (x := 23)
      have hp_4 := B4.1.2
      obtain ⟨k5, ⟨B5, F5⟩, x5⟩ := B4.fi (i := w2)
      have hp_5 := B5.1.2
      obtain ⟨k6, ⟨B6, F6⟩, x6⟩ := xT118 (e := e) (dep := dep) B5
      obtain ⟨m7, ⟨E7, H7, y7a, y7b, y7c⟩, x7⟩ := E0.bl
      have h9_7 := E7.1.2
      have y7 := E7.2.2.2
      obtain ⟨m8, ⟨E8, H8, y8a, y8b, y8c⟩, x8⟩ := E7.cx (p := 24) (a := tn) (b := 0) (by omega)
      have h9_8 := E8.1.2
      have y8 := E8.2.2.2
      obtain ⟨m9, ⟨E9, H9, y9a, y9b, y9c⟩, x9⟩ := zT362 (e2 := e2) (tn := tn) E8
      refine ⟨k6, m9, fun Q => ?_, fun Q => ?_, .inr ⟨⟨_, B6, E9⟩, (Z1.2.2.1.2.trans (F0.trans (F1.trans (F2.trans (F4.trans (F5.trans F6)))))), (Z1.2.2.2.2.trans (H0.trans (H7.trans (H8.trans H9)))), by omega, by omega, by omega⟩⟩
      · rw [q118_1]
        simp (implicitDefEqProofs := false) (disch := omega) only [n118_1, x_aload0, y_call114, y_call115, y_call119, y_call28, y_call45, y_call78, y_call82, y_call93, x_gc_2051, x_gf_2059, x_goto_1, x_iconst, x_ifCond_ne_2, x_if_icmp_gt_2, x_iinc4, x_iload1, x_iload3, x_iload4, x_iload5, x_iload6, x_ior, x_ishl, x_istore3, x_istore5, x_istore6, x_jsr, klp_0, klp_1, klp_2, klp_3, klp_9, KC_0, KC_1, KC_2, KC_3, KC_4, ne_eq, not_false_eq_true, not_true_eq_false, true_and, and_true, and_self, implies_true, eq_self, true_imp_iff, false_implies, Int.reduceEq, Int.reduceNe, Int.reduceMod, Int.reduceMul, Int.reduceAdd, Int.reduceSub, Int.reduceLT, Int.reduceLE, Nat.reduceAdd, Nat.reduceLeDiff, Nat.reduceLT, Nat.reduceSub, reduceIte, wds_n, wds_0, wds_1, wds_2, wds_3, or_true, true_or, or_false, false_or, or_self, false_and, and_false, d_pos, d_s1, d_s2, d_s3, d_s4, d_s5, d_s6, d_s7, d_s8, Classical.not_not, z258_0, TC_0 hT, TC_k hT, hp0, jc, nle, ec1, hp1, ec2, hp_0, x1, hp_1, x2, hp_2, x3, x4, hp_4, x5, hp_5, x6, d_s9, d_s10, d_s11, d_s12, d_s13, d_s14, d_s15, d_s16, d_s17, d_s18, d_s19, d_s20, d_s21, d_s22, d_s23, d_s24, d_s25, d_s26, d_s27, d_s28, d_s29, d_s30, hs_ne, hcell, hcel1, le_sub1, le_T, le_F, lt_T, lt_F, eq_F, w32_T, bz0, bz1, lc_le, lc_ge, lc_lt, lc_gt, lc_eq]
      · rw [RB, q362_6]
        simp (implicitDefEqProofs := false) (disch := omega) only [b362_6, q362_6, x_aload0, y_call343, y_call347, x_goto_3, x_iconst, x_iload1, x_pop0, x_pop3, klp_0, klp_1, klp_2, klp_3, klp_9, KC_0, KC_1, KC_2, KC_3, KC_4, ne_eq, not_false_eq_true, not_true_eq_false, true_and, and_true, and_self, implies_true, eq_self, true_imp_iff, false_implies, Int.reduceEq, Int.reduceNe, Int.reduceMod, Int.reduceMul, Int.reduceAdd, Int.reduceSub, Int.reduceLT, Int.reduceLE, Nat.reduceAdd, Nat.reduceLeDiff, Nat.reduceLT, Nat.reduceSub, reduceIte, wds_n, wds_0, wds_1, wds_2, wds_3, or_true, true_or, or_false, false_or, or_self, false_and, and_false, d_pos, d_s1, d_s2, d_s3, d_s4, d_s5, d_s6, d_s7, d_s8, Classical.not_not, r16 hS, r16l hS, r16k hS, r17 hS, r17l hS, r17k hS, r18 hS, r18l hS, r18k hS, r23 hS, r23l hS, r23k hS, r24 hS, r24l hS, r24k hS, TR_0 hS, TR_k hS, h90, gd0, jon, er1, h91, h9_0, x7, h9_7, x8, h9_8, x9, d_s9, d_s10, d_s11, d_s12, d_s13, d_s14, d_s15, d_s16, d_s17, d_s18, d_s19, d_s20, d_s21, d_s22, d_s23, d_s24, d_s25, d_s26, d_s27, d_s28, d_s29, d_s30, hs_ne, hcell, hcel1, le_sub1, le_T, le_F, lt_T, lt_F, eq_F, w32_T, bz0, bz1, lc_le, lc_ge, lc_lt, lc_gt, lc_eq]
    obtain ⟨f2, g2, r2, fr2, ft2, ec2, er2a, er2, p2, q2, X2, N2, M2⟩ := W2
    have N2' := N2
    have M2' := M2
    unfold NC at N2'
    unfold NR at M2'
    have nl2 : ∀ p ∈ l, p.1 ≠ f2 := fun p hp hq => by
      have b := (bt0.2 f2.toNat (by omega)).mpr ⟨p, hp, by omega⟩
      rw [ft2] at b
      exact absurd b (by decide)
    have o9 : r1 (S + 1236) (8 * tn + f2) = -9 := by
      rw [X1.2.2.2.1.2.2.2.2.2.2.2.1 _ (by omega) (by omega) (by omega)]
      exact on0.1 f2 fr2.1 fr2.2 nl2
    have D2 := X2.2.1
    have Z2 := Z1.trans X2
    have pq2 := X2.1
    have hp2 : g2 258 1 = T := D2.2.1.1.2
    have h92 : r2 6603 9 = S := D2.2.1.2.2
    have sb2 := D2.sb
    have lm2 := D2.lim
    have tnb : 0 ≤ tn ∧ tn ≤ 399 := by have := D2.nb; unfold NBR at this; omega
    have bor : i_or (m : Int) (i_shl 1 f2) = ((m ||| 2 ^ f2.toNat : Nat) : Int) := by
      have b := bit_or (m := m) (s := f2.toNat) (by omega) (by omega)
      rw [show ((f2.toNat : Nat) : Int) = f2 by omega] at b
      exact b
    have X3x := Z2.on (a := S + 1236) (i := 8 * tn + f2) (v := r2 S 15) (.inl ⟨rfl, by omega⟩)
    have eq3 : ∀ r0, ERP S r0 (tn + 1) r2 (hset r2 (S + 1236) (8 * tn + f2) (r2 S 15)) := fun r0 => ERP.on1 hS (.inl ⟨rfl, by omega⟩)
    obtain ⟨r3, hr3⟩ : ∃ a, a = hset r2 (S + 1236) (8 * tn + f2) (r2 S 15) := ⟨_, rfl⟩
    rw [← hr3] at X3x eq3
    obtain ⟨Z3, M3⟩ := X3x
    have M3' := M3
    unfold NR at M3'
    have D3 := Z3.2.1
    have hp3 : g2 258 1 = T := D3.2.1.1.2
    have h93 : r3 6603 9 = S := D3.2.1.2.2
    have sb3 := D3.sb
    have lm3 := D3.lim
    obtain ⟨X4, N4, C4⟩ := D3.em (x := 22) (by omega)
    have N4' := N4
    unfold NC at N4'
    obtain ⟨X5, N5, C5⟩ := X4.2.1.em (x := f2) (by omega)
    have N5' := N5
    unfold NC at N5'
    have sb4 := X4.2.1.sb
    have ec5 : ∀ Q, Sp fz1 (e + 13) 93 [(3, 258), (0, 22), (0, f2)] g2 Q = Q 0 (emH T (emH T g2 22) f2) := fun Q => q93 hT D3.2.1.1.2 (by omega)
    have HO5 := X4.2.1.hol (x := f2) (by omega)
    have XC5 := X4.trans X5
    generalize emH T (emH T g2 22) f2 = g5 at *
    generalize emH T g2 22 = g4 at *
    have D5 := XC5.2.1
    have Z5 := Z3.trans XC5
    have pq5 := XC5.1
    have hp5 : g5 258 1 = T := D5.2.1.1.2
    have h95 : r3 6603 9 = S := D5.2.1.2.2
    have sb5 := D5.sb
    have lm5 := D5.lim
    obtain ⟨X6, N6, C6⟩ := D5.em (x := 0) (by omega)
    have N6' := N6
    unfold NC at N6'
    have ec6 : ∀ Q, Sp fz1 (e + 13) 114 [(3, 258)] g5 Q = Q (g5 T 17) (emH T g5 0) := fun Q => by rw [q114 hT D5.2.1.1.2 (by omega), show emH T g5 0 T 17 - 1 = g5 T 17 by omega]
    have HO6 := D5.hol (x := 0) (by omega)
    generalize emH T g5 0 = g6 at *
    have D6 := X6.2.1
    have Z6 := Z5.trans X6
    have pq6 := X6.1
    have hp6 : g6 258 1 = T := D6.2.1.1.2
    have h96 : r3 6603 9 = S := D6.2.1.2.2
    have sb6 := D6.sb
    have lm6 := D6.lim
    obtain ⟨g7, r7, ec7, er7, W7⟩ := OB (e + 13) (e2 + 13) _ _ _ (by omega) (by omega) D6 (by omega)
    rcases W7 with W7 | W7
    rotate_left
    · obtain ⟨⟨f0, B0, E0⟩, F0, H0, b14, b15, b16⟩ := W7
      have hp_0 := B0.1.2
      have h9_0 := E0.1.2
      have y0 := E0.2.2.2
      obtain ⟨k1, ⟨B1, F1⟩, x1⟩ := B0.e1 (x := 23)
      have hp_1 := B1.1.2
      obtain ⟨k2, ⟨B2, F2⟩, x2⟩ := B1.fi (i := g5 T 17)
      have hp_2 := B2.1.2
      obtain ⟨k3, ⟨B3, F3⟩, x3⟩ := xT118 (e := e) (dep := dep) B2
      obtain ⟨m4, ⟨E4, H4, y4a, y4b, y4c⟩, x4⟩ := E0.cx (p := 24) (a := tn) (b := 0) (by omega)
      have h9_4 := E4.1.2
      have y4 := E4.2.2.2
      obtain ⟨m5, ⟨E5, H5, y5a, y5b, y5c⟩, x5⟩ := zT362 (e2 := e2) (tn := tn) E4
      refine ⟨k3, m5, fun Q => ?_, fun Q => ?_, .inr ⟨⟨_, B3, E5⟩, (Z6.2.2.1.2.trans (F0.trans (F1.trans (F2.trans F3)))), (Z6.2.2.2.2.trans (H0.trans (H4.trans H5))), by omega, by omega, by omega⟩⟩
      · rw [q118_1]
        simp (implicitDefEqProofs := false) (disch := omega) only [n118_1, x_aload0, y_call114, y_call115, y_call119, y_call28, y_call45, y_call78, y_call82, y_call93, x_gc_2051, x_gf_2059, x_goto_1, x_iconst, x_ifCond_ne_2, x_if_icmp_gt_2, x_iinc4, x_iload1, x_iload3, x_iload4, x_iload5, x_iload6, x_ior, x_ishl, x_istore3, x_istore5, x_istore6, x_jsr, klp_0, klp_1, klp_2, klp_3, klp_9, KC_0, KC_1, KC_2, KC_3, KC_4, ne_eq, not_false_eq_true, not_true_eq_false, true_and, and_true, and_self, implies_true, eq_self, true_imp_iff, false_implies, Int.reduceEq, Int.reduceNe, Int.reduceMod, Int.reduceMul, Int.reduceAdd, Int.reduceSub, Int.reduceLT, Int.reduceLE, Nat.reduceAdd, Nat.reduceLeDiff, Nat.reduceLT, Nat.reduceSub, reduceIte, wds_n, wds_0, wds_1, wds_2, wds_3, or_true, true_or, or_false, false_or, or_self, false_and, and_false, d_pos, d_s1, d_s2, d_s3, d_s4, d_s5, d_s6, d_s7, d_s8, Classical.not_not, z258_0, TC_0 hT, TC_k hT, hp0, jc, nle, ec1, hp1, ec2, bor, hp2, hp3, ec5, hp5, ec6, hp6, ec7, hp_0, x1, hp_1, x2, hp_2, x3, d_s9, d_s10, d_s11, d_s12, d_s13, d_s14, d_s15, d_s16, d_s17, d_s18, d_s19, d_s20, d_s21, d_s22, d_s23, d_s24, d_s25, d_s26, d_s27, d_s28, d_s29, d_s30, hs_ne, hcell, hcel1, le_sub1, le_T, le_F, lt_T, lt_F, eq_F, w32_T, bz0, bz1, lc_le, lc_ge, lc_lt, lc_gt, lc_eq]
      · rw [q362_3]
        simp (implicitDefEqProofs := false) (disch := omega) only [n362_3, b362_4, b362_5, b362_6, q362_4, q362_5, q362_6, x_aload0, y_call321, y_call325, y_call327, y_call332, y_call343, y_call347, y_call363, x_gc_12475, x_gf_11339, x_gf_12408, x_goto_3, x_goto_4, x_goto_6, x_iadd, x_iaload, x_iastore, x_iconst, x_ifCond_eq_7, x_if_icmp_eq_4, x_if_icmp_eq_5, x_iload1, x_iload2, x_imul, x_istore2, x_jsr, x_pop0, x_pop3, klp_0, klp_1, klp_2, klp_3, klp_9, KC_0, KC_1, KC_2, KC_3, KC_4, ne_eq, not_false_eq_true, not_true_eq_false, true_and, and_true, and_self, implies_true, eq_self, true_imp_iff, false_implies, Int.reduceEq, Int.reduceNe, Int.reduceMod, Int.reduceMul, Int.reduceAdd, Int.reduceSub, Int.reduceLT, Int.reduceLE, Nat.reduceAdd, Nat.reduceLeDiff, Nat.reduceLT, Nat.reduceSub, reduceIte, wds_n, wds_0, wds_1, wds_2, wds_3, or_true, true_or, or_false, false_or, or_self, false_and, and_false, d_pos, d_s1, d_s2, d_s3, d_s4, d_s5, d_s6, d_s7, d_s8, Classical.not_not, r16 hS, r16l hS, r16k hS, r17 hS, r17l hS, r17k hS, r18 hS, r18l hS, r18k hS, r23 hS, r23l hS, r23k hS, r24 hS, r24l hS, r24k hS, TR_0 hS, TR_k hS, h90, gd0, jon, er1, h91, er2a, er2, o9, tnb, h92, h93, ← hr3, h95, h96, er7, h9_0, x4, h9_4, x5, d_s9, d_s10, d_s11, d_s12, d_s13, d_s14, d_s15, d_s16, d_s17, d_s18, d_s19, d_s20, d_s21, d_s22, d_s23, d_s24, d_s25, d_s26, d_s27, d_s28, d_s29, d_s30, hs_ne, hcell, hcel1, le_sub1, le_T, le_F, lt_T, lt_F, eq_F, w32_T, bz0, bz1, lc_le, lc_ge, lc_lt, lc_gt, lc_eq]
    obtain ⟨p7, q7, fst7, X7, V7, DX7, PX7⟩ := W7
    have DX7' := DX7
    unfold DXB at DX7'
    have D7 := X7.2.1
    have Z7 := Z6.trans X7
    have pq7 := X7.1
    have hp7 : g7 258 1 = T := D7.2.1.1.2
    have h97 : r7 6603 9 = S := D7.2.1.2.2
    have sb7 := D7.sb
    have lm7 := D7.lim
    obtain ⟨X8, N8, C8⟩ := D7.em (x := 23) (by omega)
    have ec8 : ∀ Q, Sp fz1 (e + 13) 82 [(3, T), (0, 23)] g7 Q = Q 0 (emH T g7 23) := fun Q => q82 hT (by omega)
    have HO8 := D7.hol (x := 23) (by omega)
    generalize emH T g7 23 = g8 at X8 N8 C8 ec8 HO8
    have N8' := N8
    unfold NC at N8'
    have D8 := X8.2.1
    have Z8 := Z7.trans X8
    have pq8 := X8.1
    have hp8 : g8 258 1 = T := D8.2.1.1.2
    have h98 : r7 6603 9 = S := D8.2.1.2.2
    have sb8 := D8.sb
    have lm8 := D8.lim
    obtain ⟨X9, M9, R9⟩ := D8.cd (p := 24) (a := tn) (b := 0) (by omega) (fun _ => by omega)
    have er9 : ∀ Q, Sp fz1 (e2 + 13) 347 [(3, 6603), (0, 24), (0, tn), (0, 0)] r7 Q = Q (r7 S 15) (cdR S r7 24 tn 0) := fun Q => v347 D8.2.1.2.1 D8.2.1.2.2 (by omega)
    generalize cdR S r7 24 tn 0 = r9 at X9 M9 R9 er9
    have M9' := M9
    unfold NR at M9'
    have D9 := X9.2.1
    have Z9 := Z8.trans X9
    have pq9 := X9.1
    have hp9 : g8 258 1 = T := D9.2.1.1.2
    have h99 : r9 6603 9 = S := D9.2.1.2.2
    have sb9 := D9.sb
    have lm9 := D9.lim
    obtain ⟨Z10, N10, EP10, C10⟩ := Z9.pa (i := g5 T 17) (x := g8 T 17) (HO6.ec (((ECP.rfl' (T := T) (c := 2400) (h := g6)).trans (X7.2.2.1.1.lo (by omega))).trans (X8.2.2.1.1.lo (by omega)))) (by omega)
    have ec10 : ∀ Q, Sp fz1 (e + 13) 115 [(3, 258), (0, g5 T 17)] g8 Q = Q 0 (hset g8 (T + 1430) (g5 T 17) (g8 T 17)) := fun Q => by rw [q115 hT D9.2.1.1.2 (by omega)]; unfold paH; rw [if_pos (by omega)]
    obtain ⟨g10, hg10⟩ : ∃ a, a = hset g8 (T + 1430) (g5 T 17) (g8 T 17) := ⟨_, rfl⟩
    rw [← hg10] at Z10 N10 EP10 C10 ec10
    have N10' := N10
    unfold NC at N10'
    have D10 := Z10.2.1
    have hp10 : g10 258 1 = T := D10.2.1.1.2
    have h910 : r9 6603 9 = S := D10.2.1.2.2
    have sb10 := D10.sb
    have lm10 := D10.lim
    have EK : ECP T 0 k g10 := ECP.paE ((((((X1.2.2.1.1.trans X2.2.2.1.1).trans X4.2.2.1.1).trans X5.2.2.1.1).trans X6.2.2.1.1).trans X7.2.2.1.1).trans X8.2.2.1.1) hg10 hT (by omega)
    have FK : ERP S 0 (tn + 1) kr r9 := ((((X1.2.2.2.1.lo (by omega) (by omega)).trans (X2.2.2.2.1.lo (by omega) (by omega))).trans (eq3 0)).trans (X7.2.2.2.1.lo (by omega) (by omega))).trans (X9.2.2.2.1.lo (by omega) (by omega))
    have nz := D10.nb
    unfold NBR at nz
    have on1 : ∀ i, 8 * tn ≤ i → i < 8 * tn + 8 → i ≠ 8 * tn + f2 → r9 (S + 1236) i = kr (S + 1236) i := fun i i0 i1 i2 => by
      have a1 := X1.2.2.2.1.2.2.2.2.2.2.2.1 i (by omega) (by omega) (by omega)
      have a2 := X2.2.2.2.1.2.2.2.2.2.2.2.1 i (by omega) (by omega) (by omega)
      have a3 : r3 (S + 1236) i = r2 (S + 1236) i := by rw [hr3, hcell i2]
      have a7 := X7.2.2.2.1.2.2.2.2.2.2.2.1 i (by omega) (by omega) (by omega)
      have a9 := X9.2.2.2.1.2.2.2.2.2.2.2.1 i (by omega) (by omega) (by omega)
      rw [a9, a7, a3, a2, a1]
    have on2 : r9 (S + 1236) (8 * tn + f2) = r2 S 15 := by
      have a3 : r3 (S + 1236) (8 * tn + f2) = r2 S 15 := by rw [hr3, hcel1]
      have a7 := X7.2.2.2.1.2.2.2.2.2.2.2.1 (8 * tn + f2) (by omega) (by omega) (by omega)
      have a9 := X9.2.2.2.1.2.2.2.2.2.2.2.1 (8 * tn + f2) (by omega) (by omega) (by omega)
      rw [a9, a7, a3]
    have al1 : r9 (S + 1300) tn = -9 := by
      have a1 := X1.2.2.2.1.2.2.2.2.2.2.2.2 tn (by omega) (by omega) (by omega)
      have a2 := X2.2.2.2.1.2.2.2.2.2.2.2.2 tn (by omega) (by omega) (by omega)
      have a3 : r3 (S + 1300) tn = r2 (S + 1300) tn := by rw [hr3, hs_ne (by omega)]
      have a7 := X7.2.2.2.1.2.2.2.2.2.2.2.2 tn (by omega) (by omega) (by omega)
      have a9 := X9.2.2.2.1.2.2.2.2.2.2.2.2 tn (by omega) (by omega) (by omega)
      rw [a9, a7, a3, a2, a1]
      exact on0.2.2
    have nd1 : ((l ++ [(f2, g6 T 17)]).map Prod.fst).Nodup := by
      rw [List.map_append, List.nodup_append]
      refine ⟨ls0.1, by simp, fun a ha b hb => ?_⟩
      obtain ⟨p, hp, hpa⟩ := List.mem_map.mp ha
      simp (implicitDefEqProofs := false) only [List.map_cons, List.map_nil, List.mem_cons, List.not_mem_nil, or_false] at hb
      intro w
      exact nl2 p hp (by rw [hpa, w, hb])
    have rg1 : ∀ p ∈ l ++ [(f2, g6 T 17)], 1 ≤ p.1 ∧ p.1 ≤ 7 := fun p hp => by
      rcases List.mem_append.mp hp with q | q
      · exact ls0.2.1 p q
      · simp (implicitDefEqProofs := false) only [List.mem_cons, List.not_mem_nil, or_false] at q
        rw [q]
        exact fr2
    have ln1 : (l ++ [(f2, g6 T 17)]).length ≤ 7 := by
      have z := pig7 7 ((l ++ [(f2, g6 T 17)]).map Prod.fst) nd1 (fun x hx => by
        obtain ⟨p, hp, hpa⟩ := List.mem_map.mp hx
        rw [← hpa]
        exact rg1 p hp)
      rw [List.length_map] at z
      exact z
    have ll1 : (l ++ [(f2, g6 T 17)]).length = l.length + 1 := by simp
    have NVK : NVR k g10 r9 := (NVR.trans (NVR.same (g := g6) (gr := r3) (by omega)) ((X7.2.2.1.1.trans X8.2.2.1.1).lo (c2 := 2400) (by decide) |>.trans (EP10.lo (by omega))) (ERP.lo (r2 := 6000) (t2 := 500) (X7.2.2.2.1.trans X9.2.2.2.1) (by decide) (by decide)) (NVR.trans V7 (ECP.trans (X8.2.2.1.1.lo (c2 := 2400) (by decide)) (EP10.lo (by omega))) (X9.2.2.2.1) (NVR.same (by omega))))
    have WN : TRY bX tp t T S s tn dep h hr p7 g10 r9 cL rL (l ++ [(f2, g6 T 17)]) (m ||| 2 ^ f2.toNat) := by
      refine ⟨Z10, NVR.trans NV0 EK FK NVK, ?_, by omega, ⟨nd1, rg1, ln1⟩, ⟨or_256 bt0.1 (by omega), fun j hj => ?_⟩, ⟨fun a a1 a2 a3 => ?_, fun p hp => ?_, al1⟩, fun K V CL A HK => ?_⟩
      · rw [ll1]
        unfold DXB
        omega
      · rw [tb_or, bt0.2 j hj]
        constructor
        · rintro (⟨p, hp, hq⟩ | w)
          · exact ⟨p, List.mem_append.mpr (.inl hp), hq⟩
          · exact ⟨(f2, g6 T 17), List.mem_append.mpr (.inr List.mem_cons_self), by show f2 = (j : Int); omega⟩
        · rintro ⟨p, hp, hq⟩
          rcases List.mem_append.mp hp with q | q
          · exact .inl ⟨p, q, hq⟩
          · simp (implicitDefEqProofs := false) only [List.mem_cons, List.not_mem_nil, or_false] at q
            rw [q] at hq
            exact .inr (by have : f2 = (j : Int) := hq; omega)
      · have b1 : a ≠ f2 := fun w => a3 (f2, g6 T 17) (List.mem_append.mpr (.inr List.mem_cons_self)) w.symm
        rw [on1 _ (by omega) (by omega) (by omega)]
        exact on0.1 a a1 a2 (fun p hp => a3 p (List.mem_append.mpr (.inl hp)))
      · rcases List.mem_append.mp hp with q | q
        · have b := ls0.2.1 p q
          have b2 := nl2 p q
          rw [on1 _ (by omega) (by omega) (by omega)]
          exact on0.2.1 p q
        · simp (implicitDefEqProofs := false) only [List.mem_cons, List.not_mem_nil, or_false] at q
          rw [q]
          show 0 ≤ r9 (S + 1236) (8 * tn + f2)
          omega
      · have AK := A.sub (h := k) (hr := kr) (c2 := h T 17) (r2 := hr S 15) (t2 := tn + 1) (by omega) (EK.lo (by omega)) (FK.lo (by omega) (Int.le_refl _)) (Int.le_refl _) (Int.le_refl _) (Int.le_refl _)
        obtain ⟨y1, y2, y3, y4, y5⟩ := PX0 K V CL AK (fun p hp => by
          have b := ls0.2.1 p hp
          have b2 := nl2 p hp
          rw [HK p (List.mem_append.mpr (.inl hp)), on1 _ (by omega) (by omega) (by omega)])
        have E7 : ECP T (g6 T 17) g7 g10 := (X8.2.2.1.1.lo (by omega)).trans (EP10.lo (by omega))
        have A7 := A.sub (h := g7) (hr := r7) (c2 := g6 T 17) (r2 := r3 S 15) (t2 := r3 S 22) (by have := D7.nb; unfold NBR at this; omega) E7 (X9.2.2.2.1.lo (by omega) (by omega)) (by omega) (by omega) (by omega)
        have PB := PX7 K V CL A7
        have u1 := A.cel (by omega) (CEL.paE (CEL.ec (c := 0) (CEL.ec (c := 0) (CEL.ec (c := 0) (CEL.ec (c := 0) C4 X5.2.2.1.1 (by omega)) X6.2.2.1.1 (by omega)) X7.2.2.1.1 (by omega)) X8.2.2.1.1 (by omega)) hg10 (by omega) hT)
        have u2 := A.cel (by omega) (CEL.paE (CEL.ec (c := 0) (CEL.ec (c := 0) (CEL.ec (c := 0) C5 X6.2.2.1.1 (by omega)) X7.2.2.1.1 (by omega)) X8.2.2.1.1 (by omega)) hg10 (by omega) hT)
        have u3 := A.cel (by omega) C10
        have u4 := A.cel (by omega) (CEL.paE C8 hg10 (by omega) hT)
        have vv := A.rco (by omega) R9
        refine ⟨y1, y2, y3.up (by omega), ?_, fun p hp => ?_⟩
        · have cs := CHN.snoc (p := (f2, g6 T 17)) l (cL + 1) (k T 17) y4 (by omega) (by rw [show k T 17 = g2 T 17 by omega]; exact u1) (by rw [show k T 17 + 1 = g4 T 17 by omega]; exact u2) (by show g6 T 17 = k T 17 + 3; omega)
          rw [show k T 17 + 2 = g5 T 17 by omega, u3] at cs
          rw [show g10 T 17 = g8 T 17 by omega]
          exact cs
        · rcases List.mem_append.mp hp with q | q
          · obtain ⟨cl, rl, z1, z2⟩ := y5 p q
            exact ⟨cl, rl, z1, z2.up (by omega)⟩
          · have k4 := HK p hp
            simp (implicitDefEqProofs := false) only [List.mem_cons, List.not_mem_nil, or_false] at q
            rw [q] at k4 ⊢
            have k4' : K 4 (8 * tn + f2) = r2 S 15 := k4.trans on2
            refine ⟨g7 T 17, r7 S 15, ?_, ⟨⟨by omega, by omega, by omega⟩, u4, vv.1, vv.2.1 (by decide) (by decide) (by decide)⟩⟩
            show BKP K V CL (g6 T 17) (K 4 (8 * tn + f2)) (g7 T 17) (r7 S 15) (hr S 21) (tn + 1) dep
            rw [k4', show r2 S 15 = r3 S 15 by omega]
            exact PB.low (by omega) (by omega)
    obtain ⟨gf, rf, x9, y9, OO⟩ := lpT (e := e) (e2 := e2) hB he he2 hdp OB D PR0 hd j (n + 1) p7 g10 r9 (l ++ [(f2, g6 T 17)]) (m ||| 2 ^ f2.toNat) x2 (0, f2) (0, g5 T 17) (0, f2) (by omega) (by rw [ll1]; omega) WN
    refine ⟨gf, rf, fun Q => ?_, fun Q => ?_, OO⟩
    · rw [← x9 Q, q118_1]
      simp (implicitDefEqProofs := false) (disch := omega) only [n118_1, x_aload0, y_call114, y_call115, y_call119, y_call28, y_call45, y_call78, y_call82, y_call93, x_gc_2051, x_gf_2059, x_goto_1, x_iconst, x_ifCond_ne_2, x_if_icmp_gt_2, x_iinc4, x_iload1, x_iload3, x_iload4, x_iload5, x_iload6, x_ior, x_ishl, x_istore3, x_istore5, x_istore6, x_jsr, klp_0, klp_1, klp_2, klp_3, klp_9, KC_0, KC_1, KC_2, KC_3, KC_4, ne_eq, not_false_eq_true, not_true_eq_false, true_and, and_true, and_self, implies_true, eq_self, true_imp_iff, false_implies, Int.reduceEq, Int.reduceNe, Int.reduceMod, Int.reduceMul, Int.reduceAdd, Int.reduceSub, Int.reduceLT, Int.reduceLE, Nat.reduceAdd, Nat.reduceLeDiff, Nat.reduceLT, Nat.reduceSub, reduceIte, wds_n, wds_0, wds_1, wds_2, wds_3, or_true, true_or, or_false, false_or, or_self, false_and, and_false, d_pos, d_s1, d_s2, d_s3, d_s4, d_s5, d_s6, d_s7, d_s8, Classical.not_not, z258_0, TC_0 hT, TC_k hT, hp0, jc, nle, ec1, hp1, ec2, bor, hp2, hp3, ec5, hp5, ec6, hp6, ec7, hp7, ec8, hp8, hp9, ec10, hp10, d_s9, d_s10, d_s11, d_s12, d_s13, d_s14, d_s15, d_s16, d_s17, d_s18, d_s19, d_s20, d_s21, d_s22, d_s23, d_s24, d_s25, d_s26, d_s27, d_s28, d_s29, d_s30, hs_ne, hcell, hcel1, le_sub1, le_T, le_F, lt_T, lt_F, eq_F, w32_T, bz0, bz1, lc_le, lc_ge, lc_lt, lc_gt, lc_eq]
    · rw [← y9 Q, q362_3]
      simp (implicitDefEqProofs := false) (disch := omega) only [n362_3, b362_4, b362_5, b362_6, q362_4, q362_5, q362_6, x_aload0, y_call321, y_call325, y_call327, y_call332, y_call343, y_call347, y_call363, x_gc_12475, x_gf_11339, x_gf_12408, x_goto_3, x_goto_4, x_goto_6, x_iadd, x_iaload, x_iastore, x_iconst, x_ifCond_eq_7, x_if_icmp_eq_4, x_if_icmp_eq_5, x_iload1, x_iload2, x_imul, x_istore2, x_jsr, x_pop0, x_pop3, klp_0, klp_1, klp_2, klp_3, klp_9, KC_0, KC_1, KC_2, KC_3, KC_4, ne_eq, not_false_eq_true, not_true_eq_false, true_and, and_true, and_self, implies_true, eq_self, true_imp_iff, false_implies, Int.reduceEq, Int.reduceNe, Int.reduceMod, Int.reduceMul, Int.reduceAdd, Int.reduceSub, Int.reduceLT, Int.reduceLE, Nat.reduceAdd, Nat.reduceLeDiff, Nat.reduceLT, Nat.reduceSub, reduceIte, wds_n, wds_0, wds_1, wds_2, wds_3, or_true, true_or, or_false, false_or, or_self, false_and, and_false, d_pos, d_s1, d_s2, d_s3, d_s4, d_s5, d_s6, d_s7, d_s8, Classical.not_not, r16 hS, r16l hS, r16k hS, r17 hS, r17l hS, r17k hS, r18 hS, r18l hS, r18k hS, r23 hS, r23l hS, r23k hS, r24 hS, r24l hS, r24k hS, TR_0 hS, TR_k hS, h90, gd0, jon, er1, h91, er2a, er2, o9, tnb, h92, h93, ← hr3, h95, h96, er7, h97, h98, er9, h99, h910, d_s9, d_s10, d_s11, d_s12, d_s13, d_s14, d_s15, d_s16, d_s17, d_s18, d_s19, d_s20, d_s21, d_s22, d_s23, d_s24, d_s25, d_s26, d_s27, d_s28, d_s29, d_s30, hs_ne, hcell, hcel1, le_sub1, le_T, le_F, lt_T, lt_F, eq_F, w32_T, bz0, bz1, lc_le, lc_ge, lc_lt, lc_gt, lc_eq]
set_option maxHeartbeats 4000000 in
/-- try -/
theorem try_pair {dep : Int} {B e e2 : Nat} (hB : 110 ≤ B) (he : B ≤ e + 13) (he2 : B ≤ e2 + 13) (hdp : 1 ≤ dep ∧ dep ≤ 12) (OB : BLKP bX tp t T S dep B) (D : GD bX tp t T S s h hr) (PR : PRA T S s h hr) (hd : hr 6603 12 = dep ∧ h 258 11 = 0) (w0 : tkK tp t s = 1 ∧ wdT tp t s = 7631481) : ∃ h1 g gr, (∀ Q, Sp fz1 (e + 14) 28 [(3, 129), (0, 1)] h Q = Q 0 h1) ∧ (∀ Q, Sp fz1 (e + 14) 118 [(3, 258), (0, dep)] h1 Q = Q 0 g) ∧ (∀ Q, Sp fz1 (e2 + 14) 362 [(3, 6603)] hr Q = Q 0 gr) ∧ OUTA bX tp t T S s h hr g gr (dep - 1) := by
  have F := D.f
  have N := D.nb
  have S0 := D.sb
  have hT := D.2.1.1.1
  have hS := D.2.1.2.1
  have kT := kTC D.2.1.1.1
  have kS := kTR D.2.1.2.1
  unfold NBR at N
  have PR0 := PR
  unfold PRA at PR
  have wl := wlen D w0.1 w0.2 (l := [116, 114, 121]) (by decide) (by decide)
  simp (implicitDefEqProofs := false) only [List.length_cons, List.length_nil] at wl
  obtain ⟨g1, r1, X1, X1a, X1b, X1c, N1, M1, -, -, ec1, er1⟩ := D.nx (e + 6) (e2 + 11)
  obtain ⟨p1, hp1p⟩ : ∃ p, p = nxS tp t s := ⟨_, rfl⟩
  rw [← hp1p] at X1 X1a X1c
  have N1' := N1
  have M1' := M1
  unfold NC at N1'
  unfold NR at M1'
  have D1 := X1.2.1
  have Z1 := (GOM.rfl' D).trans X1
  have pq1 := X1.1
  have hp1 : g1 258 1 = T := D1.2.1.1.2
  have h91 : r1 6603 9 = S := D1.2.1.2.2
  have sb1 := D1.sb
  have lm1 := D1.lim
  obtain ⟨tn, htn⟩ : ∃ x, x = hr S 22 := ⟨_, rfl⟩
  have X2x := D1.t0 (by omega)
  obtain ⟨fo2, fi2, f222, fn2, fa2⟩ := t0_f (h := r1) hS
  have et : r1 S 22 = tn := by omega
  have tnb : 0 ≤ tn ∧ tn ≤ 399 := by omega
  have ini : ∀ Q, G fz1 (e2 + 14) 362 1 [(3, 6603), (0, tn), (0, 0)] [] (hset r1 S 22 (tn + 1)) Q = G fz1 (e2 + 14) 362 2 [(3, 6603), (0, tn), (0, 8)] [] (t0A S r1 tn) Q := fun Q => r362 hS D1.2.1.2.2 tnb
  have t0e : t0H S r1 = hset (t0A S r1 tn) (S + 1300) tn (-9) := by rw [← et]; rfl
  rw [et] at fn2 fa2
  have t09 : t0A S r1 tn 6603 9 = S := by unfold t0A; rw [hs_ne (by omega), hs_ne (by omega), hs_ne (by omega), hs_ne (by omega), hs_ne (by omega), hs_ne (by omega), hs_ne (by omega), hs_ne (by omega), hs_ne (by omega)]; exact D1.2.1.2.2
  have h90x := h91
  obtain ⟨r2, hr2⟩ : ∃ a, a = t0H S r1 := ⟨_, rfl⟩
  rw [← hr2] at X2x fn2 fa2 t0e
  obtain ⟨X2, M2⟩ := X2x
  have M2' := M2
  unfold NR at M2'
  have D2 := X2.2.1
  have Z2 := Z1.trans X2
  have pq2 := X2.1
  have hp2 : g1 258 1 = T := D2.2.1.1.2
  have h92 : r2 6603 9 = S := D2.2.1.2.2
  have sb2 := D2.sb
  have lm2 := D2.lim
  obtain ⟨X3, N3, C3⟩ := D2.em (x := 21) (by omega)
  have N3' := N3
  unfold NC at N3'
  obtain ⟨X4, N4, C4⟩ := X3.2.1.em (x := 0) (by omega)
  have N4' := N4
  unfold NC at N4'
  have sb3 := X3.2.1.sb
  have ec4 : ∀ Q, Sp fz1 (e + 13) 113 [(3, 258), (0, 21)] g1 Q = Q (emH T g1 21 T 17) (emH T (emH T g1 21) 0) := fun Q => by rw [q113 hT D2.2.1.1.2 (by omega), show emH T (emH T g1 21) 0 T 17 - 1 = emH T g1 21 T 17 by omega]
  have HO4 := X3.2.1.hol (x := 0) (by omega)
  have XC4 := X3.trans X4
  generalize emH T (emH T g1 21) 0 = g4 at *
  generalize emH T g1 21 = g3 at *
  have D4 := XC4.2.1
  have Z4 := Z2.trans XC4
  have pq4 := XC4.1
  have hp4 : g4 258 1 = T := D4.2.1.1.2
  have h94 : r2 6603 9 = S := D4.2.1.2.2
  have sb4 := D4.sb
  have lm4 := D4.lim
  obtain ⟨X5, M5, R5⟩ := D4.cd (p := 23) (a := tn) (b := 0) (by omega) (fun w => absurd w (by decide))
  have er5 : ∀ Q, Sp fz1 (e2 + 13) 347 [(3, 6603), (0, 23), (0, tn), (0, 0)] r2 Q = Q (r2 S 15) (cdR S r2 23 tn 0) := fun Q => v347 D4.2.1.2.1 D4.2.1.2.2 (by omega)
  generalize cdR S r2 23 tn 0 = r5 at X5 M5 R5 er5
  have M5' := M5
  unfold NR at M5'
  have D5 := X5.2.1
  have Z5 := Z4.trans X5
  have pq5 := X5.1
  have hp5 : g4 258 1 = T := D5.2.1.1.2
  have h95 : r5 6603 9 = S := D5.2.1.2.2
  have sb5 := D5.sb
  have lm5 := D5.lim
  obtain ⟨g6, r6, ec6, er6, W6⟩ := OB (e + 13) (e2 + 13) _ _ _ (by omega) (by omega) D5 (by omega)
  rcases W6 with W6 | W6
  rotate_left
  · obtain ⟨⟨f0, B0, E0⟩, F0, H0, b14, b15, b16⟩ := W6
    have hp_0 := B0.1.2
    have h9_0 := E0.1.2
    have y0 := E0.2.2.2
    obtain ⟨k1, ⟨B1, F1⟩, x1⟩ := B0.e1 (x := 23)
    have hp_1 := B1.1.2
    obtain ⟨k2, ⟨B2, F2⟩, x2⟩ := B1.fi (i := g3 T 17)
    have hp_2 := B2.1.2
    obtain ⟨k3, ⟨B3, F3⟩, x3⟩ := xT118 (e := e) (dep := dep) B2
    obtain ⟨m4, ⟨E4, H4, y4a, y4b, y4c⟩, x4⟩ := E0.cx (p := 24) (a := tn) (b := 0) (by omega)
    have h9_4 := E4.1.2
    have y4 := E4.2.2.2
    obtain ⟨m5, ⟨E5, H5, y5a, y5b, y5c⟩, x5⟩ := zT362 (e2 := e2) (tn := tn) E4
    refine ⟨g1, k3, m5, ec1, fun Q => ?_, fun Q => ?_, .inr ⟨⟨_, B3, E5⟩, (Z5.2.2.1.2.trans (F0.trans (F1.trans (F2.trans F3)))), (Z5.2.2.2.2.trans (H0.trans (H4.trans H5))), by omega, by omega, by omega⟩⟩
    · simp (implicitDefEqProofs := false) (disch := omega) only [sp118, b118_0, x_aload0, y_call113, y_call115, y_call78, y_call82, x_gf_2059, x_goto_1, x_iconst, x_iload1, x_iload2, x_istore2, x_istore3, x_istore4, klp_0, klp_1, klp_2, klp_3, klp_9, KC_0, KC_1, KC_2, KC_3, KC_4, ne_eq, not_false_eq_true, not_true_eq_false, true_and, and_true, and_self, implies_true, eq_self, true_imp_iff, false_implies, Int.reduceEq, Int.reduceNe, Int.reduceMod, Int.reduceMul, Int.reduceAdd, Int.reduceSub, Int.reduceLT, Int.reduceLE, Nat.reduceAdd, Nat.reduceLeDiff, Nat.reduceLT, Nat.reduceSub, reduceIte, wds_n, wds_0, wds_1, wds_2, wds_3, or_true, true_or, or_false, false_or, or_self, false_and, and_false, d_pos, d_s1, d_s2, d_s3, d_s4, d_s5, d_s6, d_s7, d_s8, Classical.not_not, z258_0, TC_0 hT, TC_k hT, hp1, hp2, ec4, hp4, hp5, ec6, hp_0, x1, hp_1, x2, hp_2, x3, d_s9, d_s10, d_s11, d_s12, d_s13, d_s14, d_s15, d_s16, d_s17, d_s18, d_s19, d_s20, d_s21, d_s22, d_s23, d_s24, d_s25, d_s26, d_s27, d_s28, d_s29, d_s30, hs_ne, hcell, hcel1, le_sub1, le_T, le_F, lt_T, lt_F, eq_F, w32_T, bz0, bz1, lc_le, lc_ge, lc_lt, lc_gt, lc_eq]
    · simp (implicitDefEqProofs := false) (disch := omega) only [sp362, b362_0, x_aload0, y_call321, x_dup0, x_dup3, x_gf_11339, x_gf_12464, x_goto_1, x_iadd, x_iconst, x_istore1, x_istore2, x_pf_12464, klp_0, klp_1, klp_2, klp_3, klp_9, KC_0, KC_1, KC_2, KC_3, KC_4, ne_eq, not_false_eq_true, not_true_eq_false, true_and, and_true, and_self, implies_true, eq_self, true_imp_iff, false_implies, Int.reduceEq, Int.reduceNe, Int.reduceMod, Int.reduceMul, Int.reduceAdd, Int.reduceSub, Int.reduceLT, Int.reduceLE, Nat.reduceAdd, Nat.reduceLeDiff, Nat.reduceLT, Nat.reduceSub, reduceIte, wds_n, wds_0, wds_1, wds_2, wds_3, or_true, true_or, or_false, false_or, or_self, false_and, and_false, d_pos, d_s1, d_s2, d_s3, d_s4, d_s5, d_s6, d_s7, d_s8, Classical.not_not, r16 hS, r16l hS, r16k hS, r17 hS, r17l hS, r17k hS, r18 hS, r18l hS, r18k hS, r23 hS, r23l hS, r23k hS, r24 hS, r24l hS, r24k hS, TR_0 hS, TR_k hS, et, h91, er1, h90x, d_s9, d_s10, d_s11, d_s12, d_s13, d_s14, d_s15, d_s16, d_s17, d_s18, d_s19, d_s20, d_s21, d_s22, d_s23, d_s24, d_s25, d_s26, d_s27, d_s28, d_s29, d_s30, hs_ne, hcell, hcel1, le_sub1, le_T, le_F, lt_T, lt_F, eq_F, w32_T, bz0, bz1, lc_le, lc_ge, lc_lt, lc_gt, lc_eq]
      rw [ini, q362_2]
      simp (implicitDefEqProofs := false) (disch := omega) only [b362_2, x_aload0, y_call343, y_call347, x_gc_12483, x_gf_11339, x_goto_3, x_iastore, x_iconst, x_iload1, x_pop0, x_pop3, klp_0, klp_1, klp_2, klp_3, klp_9, KC_0, KC_1, KC_2, KC_3, KC_4, ne_eq, not_false_eq_true, not_true_eq_false, true_and, and_true, and_self, implies_true, eq_self, true_imp_iff, false_implies, Int.reduceEq, Int.reduceNe, Int.reduceMod, Int.reduceMul, Int.reduceAdd, Int.reduceSub, Int.reduceLT, Int.reduceLE, Nat.reduceAdd, Nat.reduceLeDiff, Nat.reduceLT, Nat.reduceSub, reduceIte, wds_n, wds_0, wds_1, wds_2, wds_3, or_true, true_or, or_false, false_or, or_self, false_and, and_false, d_pos, d_s1, d_s2, d_s3, d_s4, d_s5, d_s6, d_s7, d_s8, Classical.not_not, r16 hS, r16l hS, r16k hS, r17 hS, r17l hS, r17k hS, r18 hS, r18l hS, r18k hS, r23 hS, r23l hS, r23k hS, r24 hS, r24l hS, r24k hS, TR_0 hS, TR_k hS, h91, ← t0e, tnb, t09, h92, h94, er5, h95, er6, h9_0, x4, h9_4, x5, d_s9, d_s10, d_s11, d_s12, d_s13, d_s14, d_s15, d_s16, d_s17, d_s18, d_s19, d_s20, d_s21, d_s22, d_s23, d_s24, d_s25, d_s26, d_s27, d_s28, d_s29, d_s30, hs_ne, hcell, hcel1, le_sub1, le_T, le_F, lt_T, lt_F, eq_F, w32_T, bz0, bz1, lc_le, lc_ge, lc_lt, lc_gt, lc_eq]
  obtain ⟨p6, q6, fst6, X6, V6, DX6, PX6⟩ := W6
  have DX6' := DX6
  unfold DXB at DX6'
  have D6 := X6.2.1
  have Z6 := Z5.trans X6
  have pq6 := X6.1
  have hp6 : g6 258 1 = T := D6.2.1.1.2
  have h96 : r6 6603 9 = S := D6.2.1.2.2
  have sb6 := D6.sb
  have lm6 := D6.lim
  obtain ⟨X7, N7, C7⟩ := D6.em (x := 23) (by omega)
  have ec7 : ∀ Q, Sp fz1 (e + 13) 82 [(3, T), (0, 23)] g6 Q = Q 0 (emH T g6 23) := fun Q => q82 hT (by omega)
  have HO7 := D6.hol (x := 23) (by omega)
  generalize emH T g6 23 = g7 at X7 N7 C7 ec7 HO7
  have N7' := N7
  unfold NC at N7'
  have D7 := X7.2.1
  have Z7 := Z6.trans X7
  have pq7 := X7.1
  have hp7 : g7 258 1 = T := D7.2.1.1.2
  have h97 : r6 6603 9 = S := D7.2.1.2.2
  have sb7 := D7.sb
  have lm7 := D7.lim
  obtain ⟨X8, M8, R8⟩ := D7.cd (p := 24) (a := tn) (b := 0) (by omega) (fun _ => by omega)
  have er8 : ∀ Q, Sp fz1 (e2 + 13) 347 [(3, 6603), (0, 24), (0, tn), (0, 0)] r6 Q = Q (r6 S 15) (cdR S r6 24 tn 0) := fun Q => v347 D7.2.1.2.1 D7.2.1.2.2 (by omega)
  generalize cdR S r6 24 tn 0 = r8 at X8 M8 R8 er8
  have M8' := M8
  unfold NR at M8'
  have D8 := X8.2.1
  have Z8 := Z7.trans X8
  have pq8 := X8.1
  have hp8 : g7 258 1 = T := D8.2.1.1.2
  have h98 : r8 6603 9 = S := D8.2.1.2.2
  have sb8 := D8.sb
  have lm8 := D8.lim
  obtain ⟨Z9, N9, EP9, C9⟩ := Z8.pa (i := g3 T 17) (x := g7 T 17) (HO4.ec (((ECP.rfl' (T := T) (c := 2400) (h := g4)).trans (X6.2.2.1.1.lo (by omega))).trans (X7.2.2.1.1.lo (by omega)))) (by omega)
  have ec9 : ∀ Q, Sp fz1 (e + 13) 115 [(3, 258), (0, g3 T 17)] g7 Q = Q 0 (hset g7 (T + 1430) (g3 T 17) (g7 T 17)) := fun Q => by rw [q115 hT D8.2.1.1.2 (by omega)]; unfold paH; rw [if_pos (by omega)]
  obtain ⟨g9, hg9⟩ : ∃ a, a = hset g7 (T + 1430) (g3 T 17) (g7 T 17) := ⟨_, rfl⟩
  rw [← hg9] at Z9 N9 EP9 C9 ec9
  have N9' := N9
  unfold NC at N9'
  have D9 := Z9.2.1
  have hp9 : g9 258 1 = T := D9.2.1.1.2
  have h99 : r8 6603 9 = S := D9.2.1.2.2
  have sb9 := D9.sb
  have lm9 := D9.lim
  have on6 : ∀ i, 8 * tn ≤ i → i < 8 * tn + 8 → r8 (S + 1236) i = -9 := fun i i0 i1 => by
    have a5 := X5.2.2.2.1.2.2.2.2.2.2.2.1 i (by omega) (by omega) (by omega)
    have a6 := X6.2.2.2.1.2.2.2.2.2.2.2.1 i (by omega) (by omega) (by omega)
    have a8 := X8.2.2.2.1.2.2.2.2.2.2.2.1 i (by omega) (by omega) (by omega)
    rw [a8, a6, a5, fn2, if_pos ⟨i0, i1⟩]
  have al6 : r8 (S + 1300) tn = -9 := by
    have a5 := X5.2.2.2.1.2.2.2.2.2.2.2.2 tn (by omega) (by omega) (by omega)
    have a6 := X6.2.2.2.1.2.2.2.2.2.2.2.2 tn (by omega) (by omega) (by omega)
    have a8 := X8.2.2.2.1.2.2.2.2.2.2.2.2 tn (by omega) (by omega) (by omega)
    rw [a8, a6, a5, fa2, if_pos rfl]
  have nz := D9.nb
  unfold NBR at nz
  have WN : TRY bX tp t T S s tn dep h hr p6 g9 r8 (g6 T 17) (r6 S 15) [] 0 := by
    refine ⟨Z9, (NVR.trans (NVR.same (g := g4) (gr := r5) (by omega)) (ECP.trans ((X6.2.2.1.1.trans X7.2.2.1.1).lo (c2 := 2400) (by decide)) (EP9.lo (by omega))) (ERP.lo (r2 := 6000) (t2 := 500) (X6.2.2.2.1.trans X8.2.2.2.1) (by decide) (by decide)) (NVR.trans V6 (ECP.trans (X7.2.2.1.1.lo (c2 := 2400) (by decide)) (EP9.lo (by omega))) (X8.2.2.2.1) (NVR.same (by omega)))), by show DXB T S s p6 (2 + ((0 : Nat) : Int)) 1 1 h hr g9 r8; unfold DXB; omega, by omega, ⟨List.nodup_nil, fun p hp => absurd hp List.not_mem_nil, by decide⟩, ⟨by decide, fun j hj => ⟨fun w => by simp at w, fun ⟨p, hp, _⟩ => absurd hp List.not_mem_nil⟩⟩, ⟨fun a a1 a2 _ => on6 _ (by omega) (by omega), fun p hp => absurd hp List.not_mem_nil, al6⟩, fun K V CL A HK => ?_⟩
    have E6 : ECP T (g4 T 17) g6 g9 := (X7.2.2.1.1.lo (by omega)).trans (EP9.lo (by omega))
    have A6 := A.sub (h := g6) (hr := r6) (c2 := g4 T 17) (r2 := r5 S 15) (t2 := r5 S 22) (by have := D6.nb; unfold NBR at this; omega) E6 (X8.2.2.2.1.lo (by omega) (by omega)) (by omega) (by omega) (by omega)
    have PB := PX6 K V CL A6
    have u1 := A.cel (by omega) (CEL.paE (CEL.ec (c := 0) (CEL.ec (c := 0) (CEL.ec (c := 0) C3 X4.2.2.1.1 (by omega)) X6.2.2.1.1 (by omega)) X7.2.2.1.1 (by omega)) hg9 (by omega) hT)
    have u2 := A.cel (by omega) C9
    have u3 := A.cel (by omega) (CEL.paE C7 hg9 (by omega) hT)
    have v1 := A.rco (by omega) (RCO.er (r := 0) (t := 0) (RCO.er (r := 0) (t := 0) R5 X6.2.2.2.1 (by omega)) X8.2.2.2.1 (by omega))
    have v2 := A.rco (by omega) R8
    refine ⟨⟨by rw [show h T 17 = g1 T 17 by omega]; exact u1, by rw [show hr S 15 = r2 S 15 by omega]; exact v1.1, by rw [show hr S 15 = r2 S 15 by omega]; exact v1.2.1 (by decide) (by decide) (by decide), by rw [show h T 17 + 1 = g3 T 17 by omega, u2]; omega⟩, ?_, ⟨⟨by omega, by omega, by omega⟩, u3, v2.1, v2.2.1 (by decide) (by decide) (by decide)⟩, by show g6 T 17 + 1 = g9 T 17; omega, fun p hp => absurd hp List.not_mem_nil⟩
    rw [show h T 17 + 2 = g4 T 17 by omega, show hr S 15 + 1 = r5 S 15 by omega]
    exact PB.low (by omega) (by omega)
  obtain ⟨gf, rf, x9, y9, OO⟩ := lpT (e := e) (e2 := e2) hB he he2 hdp OB D PR0 hd 8 0 p6 g9 r8 [] 0 (g3 T 17) (9, 0) (9, 0) (0, 8) (by decide) rfl WN
  refine ⟨g1, gf, rf, ec1, fun Q => ?_, fun Q => ?_, OO⟩
  · rw [← x9 Q]
    simp (implicitDefEqProofs := false) (disch := omega) only [sp118, b118_0, x_aload0, y_call113, y_call115, y_call78, y_call82, x_gf_2059, x_goto_1, x_iconst, x_iload1, x_iload2, x_istore2, x_istore3, x_istore4, klp_0, klp_1, klp_2, klp_3, klp_9, KC_0, KC_1, KC_2, KC_3, KC_4, ne_eq, not_false_eq_true, not_true_eq_false, true_and, and_true, and_self, implies_true, eq_self, true_imp_iff, false_implies, Int.reduceEq, Int.reduceNe, Int.reduceMod, Int.reduceMul, Int.reduceAdd, Int.reduceSub, Int.reduceLT, Int.reduceLE, Nat.reduceAdd, Nat.reduceLeDiff, Nat.reduceLT, Nat.reduceSub, reduceIte, wds_n, wds_0, wds_1, wds_2, wds_3, or_true, true_or, or_false, false_or, or_self, false_and, and_false, d_pos, d_s1, d_s2, d_s3, d_s4, d_s5, d_s6, d_s7, d_s8, Classical.not_not, z258_0, TC_0 hT, TC_k hT, hp1, hp2, ec4, hp4, hp5, ec6, hp6, ec7, hp7, hp8, ec9, hp9, d_s9, d_s10, d_s11, d_s12, d_s13, d_s14, d_s15, d_s16, d_s17, d_s18, d_s19, d_s20, d_s21, d_s22, d_s23, d_s24, d_s25, d_s26, d_s27, d_s28, d_s29, d_s30, hs_ne, hcell, hcel1, le_sub1, le_T, le_F, lt_T, lt_F, eq_F, w32_T, bz0, bz1, lc_le, lc_ge, lc_lt, lc_gt, lc_eq]
    rfl
  · rw [← y9 Q]
    simp (implicitDefEqProofs := false) (disch := omega) only [sp362, b362_0, x_aload0, y_call321, x_dup0, x_dup3, x_gf_11339, x_gf_12464, x_goto_1, x_iadd, x_iconst, x_istore1, x_istore2, x_pf_12464, klp_0, klp_1, klp_2, klp_3, klp_9, KC_0, KC_1, KC_2, KC_3, KC_4, ne_eq, not_false_eq_true, not_true_eq_false, true_and, and_true, and_self, implies_true, eq_self, true_imp_iff, false_implies, Int.reduceEq, Int.reduceNe, Int.reduceMod, Int.reduceMul, Int.reduceAdd, Int.reduceSub, Int.reduceLT, Int.reduceLE, Nat.reduceAdd, Nat.reduceLeDiff, Nat.reduceLT, Nat.reduceSub, reduceIte, wds_n, wds_0, wds_1, wds_2, wds_3, or_true, true_or, or_false, false_or, or_self, false_and, and_false, d_pos, d_s1, d_s2, d_s3, d_s4, d_s5, d_s6, d_s7, d_s8, Classical.not_not, r16 hS, r16l hS, r16k hS, r17 hS, r17l hS, r17k hS, r18 hS, r18l hS, r18k hS, r23 hS, r23l hS, r23k hS, r24 hS, r24l hS, r24k hS, TR_0 hS, TR_k hS, et, h91, er1, h90x, d_s9, d_s10, d_s11, d_s12, d_s13, d_s14, d_s15, d_s16, d_s17, d_s18, d_s19, d_s20, d_s21, d_s22, d_s23, d_s24, d_s25, d_s26, d_s27, d_s28, d_s29, d_s30, hs_ne, hcell, hcel1, le_sub1, le_T, le_F, lt_T, lt_F, eq_F, w32_T, bz0, bz1, lc_le, lc_ge, lc_lt, lc_gt, lc_eq]
    rw [ini, q362_2]
    simp (implicitDefEqProofs := false) (disch := omega) only [b362_2, x_aload0, y_call343, y_call347, x_gc_12483, x_gf_11339, x_goto_3, x_iastore, x_iconst, x_iload1, x_pop0, x_pop3, klp_0, klp_1, klp_2, klp_3, klp_9, KC_0, KC_1, KC_2, KC_3, KC_4, ne_eq, not_false_eq_true, not_true_eq_false, true_and, and_true, and_self, implies_true, eq_self, true_imp_iff, false_implies, Int.reduceEq, Int.reduceNe, Int.reduceMod, Int.reduceMul, Int.reduceAdd, Int.reduceSub, Int.reduceLT, Int.reduceLE, Nat.reduceAdd, Nat.reduceLeDiff, Nat.reduceLT, Nat.reduceSub, reduceIte, wds_n, wds_0, wds_1, wds_2, wds_3, or_true, true_or, or_false, false_or, or_self, false_and, and_false, d_pos, d_s1, d_s2, d_s3, d_s4, d_s5, d_s6, d_s7, d_s8, Classical.not_not, r16 hS, r16l hS, r16k hS, r17 hS, r17l hS, r17k hS, r18 hS, r18l hS, r18k hS, r23 hS, r23l hS, r23k hS, r24 hS, r24l hS, r24k hS, TR_0 hS, TR_k hS, h91, ← t0e, tnb, t09, h92, h94, er5, h95, er6, h96, h97, er8, h98, h99, d_s9, d_s10, d_s11, d_s12, d_s13, d_s14, d_s15, d_s16, d_s17, d_s18, d_s19, d_s20, d_s21, d_s22, d_s23, d_s24, d_s25, d_s26, d_s27, d_s28, d_s29, d_s30, hs_ne, hcell, hcel1, le_sub1, le_T, le_F, lt_T, lt_F, eq_F, w32_T, bz0, bz1, lc_le, lc_ge, lc_lt, lc_gt, lc_eq]
end SM
