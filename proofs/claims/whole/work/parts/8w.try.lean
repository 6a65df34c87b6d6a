/-! THE PURE SIDE, 170: acts on both sides: try: printed by wip/tools/gen8w.py -/
set_option maxHeartbeats 4000000 in
theorem pig7 : ∀ (n : Nat) (l : List Int), l.Nodup → (∀ x ∈ l, 1 ≤ x ∧ x ≤ (n : Int)) → l.length ≤ n
  | 0, [], _, _ => Nat.le_refl _
  | 0, a :: l, _, h => by
    have := h a List.mem_cons_self
    omega
  | n + 1, l, hd, h => by
    by_cases m : ((n + 1 : Nat) : Int) ∈ l
    · have e := List.length_erase_of_mem m
      have p := List.length_pos_of_mem m
      have i := pig7 n (l.erase ((n + 1 : Nat) : Int)) (hd.erase _) (fun x hx => by
        have q := (hd.mem_erase_iff).mp hx
        have := h x q.2
        have := q.1
        omega)
      omega
    · have i := pig7 n l hd (fun x hx => by
        have q := h x hx
        have : x ≠ ((n + 1 : Nat) : Int) := fun w => m (w ▸ hx)
        omega)
      omega
def LVp (K : HV) (lo hi c r tn : Int) : Prop := ((0 ≤ c ∧ c < 2400) ∧ lo ≤ r ∧ r < hi) ∧ K 0 c = 23 ∧ K 1 r = 24 ∧ K 2 r = tn
set_option maxHeartbeats 4000000 in
theorem LVp.up {K : HV} {lo hi hi2 c r tn : Int} (L : LVp K lo hi c r tn) (h : hi ≤ hi2) : LVp K lo hi2 c r tn := ⟨⟨L.1.1, L.1.2.1, by have := L.1.2.2; omega⟩, L.2⟩
def TRS (K : HV) (V CL : Int → Int → Prop) (T S tn dep : Int) (h hr k kr : HV) (cL rL : Int) (l : List (Int × Int)) : Prop := (K 0 (h T 17) = 21 ∧ K 1 (hr S 15) = 23 ∧ K 2 (hr S 15) = tn ∧ K 0 (h T 17 + 1) = cL + 1) ∧ BKP K V CL (h T 17 + 2) (hr S 15 + 1) cL rL (hr S 21) (tn + 1) dep ∧ LVp K (hr S 15) (kr S 15) cL rL tn ∧ CHN K l (cL + 1) (k T 17) ∧ ∀ p ∈ l, ∃ cl rl, BKP K V CL p.2 (K 4 (8 * tn + p.1)) cl rl (hr S 21) (tn + 1) dep ∧ LVp K (hr S 15) (kr S 15) cl rl tn
/-- a try under way -/
def TRY (bX : Int) (tp : Int → Int) (t T S s tn dep : Int) (h hr : HV) (sk : Int) (k kr : HV) (cL rL : Int) (l : List (Int × Int)) (m : Nat) : Prop := GOM bX tp t T S s h hr sk k kr ∧ NVR h k kr ∧ DXB T S s sk (2 + (l.length : Int)) 1 1 h hr k kr ∧ (tn = hr S 22 ∧ tn < kr S 22 ∧ h T 17 + 2 ≤ cL ∧ cL < k T 17 ∧ hr S 15 + 1 ≤ rL ∧ rL < kr S 15) ∧ ((l.map Prod.fst).Nodup ∧ (∀ p ∈ l, 1 ≤ p.1 ∧ p.1 ≤ 7) ∧ l.length ≤ 7) ∧ (m < 256 ∧ ∀ f : Nat, f ≤ 7 → (m.testBit f = true ↔ ∃ p ∈ l, p.1 = (f : Int))) ∧ ((∀ f, 1 ≤ f → f ≤ 7 → (∀ p ∈ l, p.1 ≠ f) → kr (S + 1236) (8 * tn + f) = -9) ∧ (∀ p ∈ l, 0 ≤ kr (S + 1236) (8 * tn + p.1)) ∧ kr (S + 1300) tn = -9) ∧
  ∀ K V CL, AGK K V CL T S (h T 17) (hr S 15) (tn + 1) k kr → (∀ p ∈ l, K 4 (8 * tn + p.1) = kr (S + 1236) (8 * tn + p.1)) → TRS K V CL T S tn dep h hr k kr cL rL l
section SM
variable {bX : Int} {tp : Int → Int} {t T S s s1 s2 f : Int} {h hr g gr k kr m mr : HV} {Q : Int → HV → Prop} {d : Nat}
set_option maxHeartbeats 4000000 in
theorem BKP.low {K : HV} {V CL : Int → Int → Prop} {c0 r0 c1 r1 f t f2 t2 dp : Int} (B : BKP K V CL c0 r0 c1 r1 f2 t2 dp) (hf : f ≤ f2) (ht : t ≤ t2) : BKP K V CL c0 r0 c1 r1 f t dp := BKP.nil.seq B hf ht
set_option maxHeartbeats 4000000 in
theorem lp362z {r : HV} {tn : Int} {e2 : Nat} (hS : TR S) (h9 : r 6603 9 = S) (hz : 0 ≤ r S 15 ∧ r S 15 < 6000) : G fz1 (e2 + 14) 362 9 [(3, 6603), (0, tn), (0, 0)] [] r Q = Q 0 (ptG S r tn (r S 15)) := by
  have i := lp362 (Q := Q) (e2 := e2) (tn := tn) hS h9 hz (r S 15).toNat 0 (Int.le_refl _) (by omega)
  rw [pt_0] at i
  exact i
set_option maxHeartbeats 4000000 in
theorem LVp.lv {K : HV} {V CL : Int → Int → Prop} {lo hi c rl tn cc : Int} {r : HV} (L : LVp K lo hi c rl tn) (hS : TR S) (A : AGK K V CL T S cc lo tn g (ptG S r tn (r S 15))) (h0 : 0 ≤ lo) (hh : hi ≤ r S 15) (hz : r S 15 < 6000) : LV K c rl tn (r S 15) := by
  obtain ⟨⟨l1, l2, l3⟩, l4, l5, l6⟩ := L
  have kS := kTR hS
  have e15 : ptG S r tn (r S 15) S = r S := pt_ne (by omega)
  have e1 : ptG S r tn (r S 15) (S + 980) = r (S + 980) := pt_ne (by omega)
  have e2 : ptG S r tn (r S 15) (S + 1044) = r (S + 1044) := pt_ne (by omega)
  obtain ⟨a1, a2, a3⟩ := A.2.1 rl l2 (by omega) (by rw [e15]; omega)
  rw [e1] at a1 a2 a3
  rw [e2] at a2 a3
  have o24 : r (S + 980) rl = 24 := by rw [← a1]; exact l5
  have b := a2 (by omega) (by omega) (by omega)
  have c2 := a3 o24 (by rw [← b, l6]; exact Int.le_refl _)
  refine ⟨⟨l1, by omega, by omega⟩, l4, l5, l6, c2.trans ?_⟩
  unfold ptG
  exact if_pos ⟨rfl, by omega, o24, by rw [← b]; exact l6⟩
set_option maxHeartbeats 4000000 in
/-- a try's code, whole -/
theorem TRY.fin {K : HV} {V CL : Int → Int → Prop} {tn dep sk cL rL cF rF : Int} {l : List (Int × Int)} {m : Nat} {r : HV} (W : TRY bX tp t T S s tn dep h hr sk k kr cL rL l m) (hdp : 1 ≤ dep ∧ dep ≤ 12) (PR : PRA T S s h hr) (n0 : NBR bX T S s h hr) (nk : NBR bX T S sk k kr) (A : AGK K V CL T S (h T 17) (hr S 15) (hr S 22) g (ptG S r tn (r S 15))) (E : ECP T (h T 17) k g) (F : ERQ S (hr S 15) (tn + 1) kr (ptG S r tn (r S 15))) (on : ∀ i, 8 * tn ≤ i → i < 8 * tn + 8 → r (S + 1236) i = kr (S + 1236) i) (hS : TR S) (s1 : K 0 (h T 17 - 1) = 1) (s2 : K 1 (hr S 15 - 1) = 0) (hz : kr S 15 ≤ r S 15 ∧ r S 15 < 6000) (hz2 : tn < r S 22) (he : k T 17 < 2400) (he22 : K 0 (k T 17) ≠ 22)
    (Z : (K 5 tn = -9 ∧ K 0 (k T 17) = 24 ∧ g T 17 = k T 17 + 1) ∨ (K 5 tn ≠ -9 ∧ BKP K V CL (k T 17) (K 5 tn) cF rF (hr S 21) (tn + 1) dep ∧ ((0 ≤ cF ∧ cF < 2400) ∧ 0 ≤ rF ∧ rF < 6000) ∧ K 0 cF = 24 ∧ K 1 rF = 25 ∧ K 2 rF = tn ∧ g T 17 = cF + 1 ∧ r S 15 = rF + 1)) : BKP K V CL (h T 17 - 1) (hr S 15 - 1) (g T 17) (ptG S r tn (r S 15) S 15) (hr S 21) (hr S 22) (dep - 1) := by
  obtain ⟨w1, w2, w3, ⟨w4, w5, w6, w7, w8, w8b⟩, ⟨w9, x1, x2⟩, -, ⟨x3, x4, x5⟩, x6⟩ := W
  have kS := kTR hS
  unfold PRA at PR
  unfold NBR at n0 nk
  have e15 : ptG S r tn (r S 15) S = r S := pt_ne (by omega)
  have eo : ptG S r tn (r S 15) (S + 1236) = r (S + 1236) := pt_ne (by omega)
  have K4 : ∀ f, 1 ≤ f → f ≤ 7 → K 4 (8 * tn + f) = kr (S + 1236) (8 * tn + f) := fun f f1 f2 => by
    rw [A.2.2.2.1 (8 * tn + f) (by omega) (by omega) (by rw [e15]; omega), eo]
    exact on _ (by omega) (by omega)
  have A1 := A.subq (h := k) (hr := kr) (c2 := h T 17) (r2 := hr S 15) (t2 := tn + 1) (by omega) E F (Int.le_refl _) (Int.le_refl _) (by omega)
  obtain ⟨⟨y1, y2, y3, y4⟩, y5, y6, y7, y8⟩ := x6 K V CL A1 (fun p hp => K4 _ (x1 p hp).1 (x1 p hp).2)
  have AL : AGK K V CL T S (h T 17) (hr S 15) tn g (ptG S r tn (r S 15)) := by rw [w4]; rw [w4] at A; exact A
  have y6l := y6.1
  rw [e15]
  have R := a_TRY (K := K) (V := V) (CL := CL) (c0 := h T 17 - 1) (r0 := hr S 15 - 1) (cL := cL) (rL := rL) (e := k T 17) (tn := tn) (rX := r S 15) (cF := cF) (rF := rF) (l := l) (f := hr S 21) (dp := dep - 1) (c2 := g T 17) (r2 := r S 15) (by omega) (by omega) (by omega) (by omega) s1 s2 (by rw [show h T 17 - 1 + 1 = h T 17 by omega]; exact y1) (by rw [show hr S 15 - 1 + 1 = hr S 15 by omega]; exact y2) (by rw [show hr S 15 - 1 + 1 = hr S 15 by omega]; exact y3) (by omega) (by rw [show h T 17 - 1 + 2 = h T 17 + 1 by omega]; exact y4) (by rw [show h T 17 - 1 + 3 = h T 17 + 2 by omega, show hr S 15 - 1 + 2 = hr S 15 + 1 by omega, show dep - 1 + 1 = dep by omega]; exact y5) (y6.lv hS AL (by omega) (by omega) (by omega)) y7 x2 w9 he22 (fun f f1 f2 hn => by rw [K4 f f1 f2]; exact x3 f f1 f2 hn) (fun p hp => ⟨by have := x4 p hp; rw [K4 p.1 (x1 p hp).1 (x1 p hp).2]; omega, by
    obtain ⟨cl, rl, z1, z2⟩ := y8 p hp
    exact ⟨cl, rl, by rw [show dep - 1 + 1 = dep by omega]; exact z1, z2.lv hS AL (by omega) (by omega) (by omega)⟩⟩) (by
    rcases Z with ⟨z1, z2, z3⟩ | ⟨z1, z2, z3, z4, z5, z6, z7, z8⟩
    · exact .inl ⟨z1, z2, z3, rfl⟩
    · exact .inr ⟨z1, by rw [show dep - 1 + 1 = dep by omega]; exact z2, z3, z4, z5, z6, z7, z8⟩)
  rw [w4] at R
  exact R
set_option maxHeartbeats 4000000 in
/-- behind a fault: the class's loop of on, and on to its end -/
theorem xT118 {dep : Int} {e : Nat} (B : BDC T f h) : ∃ g, KPC T f h g ∧ ∀ (n : Int) (x2 x3 x5 x6 : AV) Q, G fz1 (e + 14) 118 1 [(3, 258), (0, dep), x2, x3, (0, n), x5, x6] [] h Q = Q 0 g := by
  have hT := B.1.1
  obtain ⟨g, W, e1⟩ := B.e1 (x := 24)
  have ec1 : ∀ Q, Sp fz1 (e + 13) 82 [(3, T), (0, 24)] h Q = Q 0 g := fun Q => e1 _ Q
  have hp := B.1.2
  have f1 : ∀ Q, Sp fz1 (e + 13) 45 [(3, 129), (3, NV_1715)] h Q = Q (-1) h := fun Q => by rw [NV_1715_e]; exact B.fd (str_13 B.2.2.1) (by decide)
  have f2 : ∀ Q, Sp fz1 (e + 13) 45 [(3, 129), (3, NV_1843)] h Q = Q (-1) h := fun Q => by rw [NV_1843_e]; exact B.fd (str_14 B.2.2.1) (by decide)
  refine ⟨g, W, fun n x2 x3 x5 x6 Q => ?_⟩
  rw [q118_1]
  by_cases z : n > 7
  · simp (implicitDefEqProofs := false) (disch := omega) only [n118_1, n118_2, b118_3, q118_2, q118_3, x_aload0, y_call114, y_call115, y_call119, y_call28, y_call45, y_call78, y_call82, y_call93, x_gc_2051, x_gf_2059, x_goto_1, x_goto_3, x_iconst, x_ifCond_ne_2, x_ifCond_ne_3, x_if_icmp_gt_2, x_iinc4, x_iload1, x_iload3, x_iload4, x_iload5, x_iload6, x_ior, x_ishl, x_istore3, x_istore5, x_istore6, x_jsr, x_return, klp_0, klp_1, klp_2, klp_3, klp_9, KC_0, KC_1, KC_2, KC_3, KC_4, ne_eq, not_false_eq_true, not_true_eq_false, true_and, and_true, and_self, implies_true, eq_self, true_imp_iff, false_implies, Int.reduceEq, Int.reduceNe, Int.reduceMod, Int.reduceMul, Int.reduceAdd, Int.reduceSub, Int.reduceLT, Int.reduceLE, Nat.reduceAdd, Nat.reduceLeDiff, Nat.reduceLT, Nat.reduceSub, reduceIte, wds_n, wds_0, wds_1, wds_2, wds_3, or_true, true_or, or_false, false_or, or_self, false_and, and_false, d_pos, d_s1, d_s2, d_s3, d_s4, d_s5, d_s6, d_s7, d_s8, Classical.not_not, z258_0, TC_0 hT, TC_k hT, hp, f1, f2, ec1, d_s9, d_s10, d_s11, d_s12, d_s13, d_s14, d_s15, d_s16, d_s17, d_s18, d_s19, d_s20, d_s21, d_s22, d_s23, d_s24, d_s25, d_s26, d_s27, d_s28, d_s29, d_s30, hs_ne, hcell, hcel1, le_sub1, le_T, le_F, lt_T, lt_F, eq_F, w32_T, bz0, bz1, lc_le, lc_ge, lc_lt, lc_gt, lc_eq]
  · simp (implicitDefEqProofs := false) (disch := omega) only [n118_1, n118_2, b118_3, q118_2, q118_3, x_aload0, y_call114, y_call115, y_call119, y_call28, y_call45, y_call78, y_call82, y_call93, x_gc_2051, x_gf_2059, x_goto_1, x_goto_3, x_iconst, x_ifCond_ne_2, x_ifCond_ne_3, x_if_icmp_gt_2, x_iinc4, x_iload1, x_iload3, x_iload4, x_iload5, x_iload6, x_ior, x_ishl, x_istore3, x_istore5, x_istore6, x_jsr, x_return, klp_0, klp_1, klp_2, klp_3, klp_9, KC_0, KC_1, KC_2, KC_3, KC_4, ne_eq, not_false_eq_true, not_true_eq_false, true_and, and_true, and_self, implies_true, eq_self, true_imp_iff, false_implies, Int.reduceEq, Int.reduceNe, Int.reduceMod, Int.reduceMul, Int.reduceAdd, Int.reduceSub, Int.reduceLT, Int.reduceLE, Nat.reduceAdd, Nat.reduceLeDiff, Nat.reduceLT, Nat.reduceSub, reduceIte, wds_n, wds_0, wds_1, wds_2, wds_3, or_true, true_or, or_false, false_or, or_self, false_and, and_false, d_pos, d_s1, d_s2, d_s3, d_s4, d_s5, d_s6, d_s7, d_s8, Classical.not_not, z258_0, TC_0 hT, TC_k hT, hp, f1, f2, ec1, d_s9, d_s10, d_s11, d_s12, d_s13, d_s14, d_s15, d_s16, d_s17, d_s18, d_s19, d_s20, d_s21, d_s22, d_s23, d_s24, d_s25, d_s26, d_s27, d_s28, d_s29, d_s30, hs_ne, hcell, hcel1, le_sub1, le_T, le_F, lt_T, lt_F, eq_F, w32_T, bz0, bz1, lc_le, lc_ge, lc_lt, lc_gt, lc_eq]
set_option maxHeartbeats 4000000 in
theorem zT362 {tn : Int} {e2 : Nat} (B : BDQ S f hr) : ∃ gr, KPR S f hr gr 0 ∧ ∀ (x2 : AV) Q, G fz1 (e2 + 14) 362 3 [(3, 6603), (0, tn), x2] [] hr Q = Q 0 gr := by
  have hS := B.1.1
  have y := B.2.2.2
  have h9 := B.1.2
  have gd : ∀ Q, Sp fz1 (e2 + 13) 325 [(3, 6603)] hr Q = Q 0 hr := fun Q => B.g325
  have lp : ∀ Q, G fz1 (e2 + 14) 362 9 [(3, 6603), (0, tn), (0, 0)] [] hr Q = Q 0 (ptG S hr tn (hr S 15)) := fun Q => lp362z hS h9 (by omega)
  refine ⟨_, B.pt (tn := tn) (n := hr S 15), fun x2 Q => ?_⟩
  rw [q362_3]
  simp (implicitDefEqProofs := false) (disch := omega) only [n362_3, n362_7, b362_8, q362_7, q362_8, x_aload0, y_call321, y_call325, y_call327, y_call343, y_call347, y_call363, x_gc_12475, x_gc_12483, x_gf_11339, x_gf_12408, x_goto_4, x_goto_8, x_goto_9, x_iadd, x_iaload, x_iastore, x_iconst, x_ifCond_eq_7, x_ifCond_eq_8, x_if_icmp_eq_4, x_if_icmp_eq_5, x_iload1, x_iload2, x_imul, x_istore2, x_jsr, x_pop0, x_pop3, klp_0, klp_1, klp_2, klp_3, klp_9, KC_0, KC_1, KC_2, KC_3, KC_4, ne_eq, not_false_eq_true, not_true_eq_false, true_and, and_true, and_self, implies_true, eq_self, true_imp_iff, false_implies, Int.reduceEq, Int.reduceNe, Int.reduceMod, Int.reduceMul, Int.reduceAdd, Int.reduceSub, Int.reduceLT, Int.reduceLE, Nat.reduceAdd, Nat.reduceLeDiff, Nat.reduceLT, Nat.reduceSub, reduceIte, wds_n, wds_0, wds_1, wds_2, wds_3, or_true, true_or, or_false, false_or, or_self, false_and, and_false, d_pos, d_s1, d_s2, d_s3, d_s4, d_s5, d_s6, d_s7, d_s8, Classical.not_not, r16 hS, r16l hS, r16k hS, r17 hS, r17l hS, r17k hS, r18 hS, r18l hS, r18k hS, r23 hS, r23l hS, r23k hS, r24 hS, r24l hS, r24k hS, TR_0 hS, TR_k hS, gd, lp, d_s9, d_s10, d_s11, d_s12, d_s13, d_s14, d_s15, d_s16, d_s17, d_s18, d_s19, d_s20, d_s21, d_s22, d_s23, d_s24, d_s25, d_s26, d_s27, d_s28, d_s29, d_s30, hs_ne, hcell, hcel1, le_sub1, le_T, le_F, lt_T, lt_F, eq_F, w32_T, bz0, bz1, lc_le, lc_ge, lc_lt, lc_gt, lc_eq]
set_option maxHeartbeats 4000000 in
theorem ERQ.up {r t1 t2 : Int} (A : ERQ S r t1 h g) (l : t1 ≤ t2) : ERQ S r t2 h g := by
  obtain ⟨⟨a1, a2, a3, a4⟩, b1, b2, b3, b4, b5, b6, b7, b8⟩ := A
  exact ⟨⟨a1, a2, a3, fun i x y z w => a4 i x y z (fun q => by have := w q; omega)⟩, b1, b2, b3, b4, b5, b6, fun i x y z => b7 i (by omega) y z, fun i x y z => b8 i (by omega) y z⟩
set_option maxHeartbeats 4000000 in
/-- the end of a try: always, and where it is left to -/
theorem endT {tn dep sk cL rL : Int} {l : List (Int × Int)} {m : Nat} {B e e2 : Nat} (hB : 110 ≤ B) (he : B ≤ e + 13) (he2 : B ≤ e2 + 13) (hdp : 1 ≤ dep ∧ dep ≤ 12) (OB : BLKP bX tp t T S dep B) (D : GD bX tp t T S s h hr) (PR : PRA T S s h hr) (hd : hr 6603 12 = dep ∧ h 258 11 = 0) (W : TRY bX tp t T S s tn dep h hr sk k kr cL rL l m) (x2 x3 x4 x5 x6 x7 : AV) : ∃ g gr, (∀ Q, G fz1 (e + 14) 118 2 [(3, 258), (0, dep), x2, x3, x4, x5, x6] [] k Q = Q 0 g) ∧ (∀ Q, G fz1 (e2 + 14) 362 7 [(3, 6603), (0, tn), x7] [] kr Q = Q 0 gr) ∧ OUTA bX tp t T S s h hr g gr (dep - 1) := by
  obtain ⟨Z0, NV0, DX0, nm0, ls0, bt0, on0, PX0⟩ := id W
  have D0 := Z0.2.1
  have F := D0.f
  have N := D.nb
  have nk := D0.nb
  have nk0 := nk
  have n00 := N
  have S0 := D.sb
  have sk0 := D0.sb
  have hT := D.2.1.1.1
  have hS := D.2.1.2.1
  have kT := kTC hT
  have kS := kTR hS
  have PR0 := PR
  unfold NBR at N nk
  unfold PRA at PR
  have DX0' := DX0
  unfold DXB at DX0'
  have ql := ls0.2.2
  have R0 := D.2.2.2.2.2.2
  have hp0 : k 258 1 = T := D0.2.1.1.2
  have h90 : kr 6603 9 = S := D0.2.1.2.2
  have gd0 : ∀ Q, Sp fz1 (e2 + 13) 325 [(3, 6603)] kr Q = Q 1 kr := fun Q => v325g D0
  by_cases wa : tkK tp t sk = 1 ∧ wdT tp t sk = 107118487239027
  · have jc : ∀ Q, Sp fz1 (e + 13) 45 [(3, 129), (3, NV_1843)] k Q = Q (0) k := fun Q => by rw [NV_1843_e, D0.fw (d := e + 8) (str_14 D0.2.2.1.1) (by decide) w1_14, if_pos wa]
    have jalways : ∀ (d : Nat) Q, Sp fz1 (d + 5) 327 [(3, 6603), (3, NV_1843)] kr Q = Q 1 kr := fun d Q => by rw [NV_1843_e, iw_always D0.1.2.2 D0.1.1 D0.2.2.1.2]; exact congrArg (fun x => Q x kr) (if_pos wa)
    obtain ⟨g1, r1, X1, X1a, X1b, X1c, N1, M1, -, -, ec1, er1⟩ := D0.nx (e + 5) (e2 + 11)
    obtain ⟨p1, hp1p⟩ : ∃ p, p = nxS tp t sk := ⟨_, rfl⟩
    rw [← hp1p] at X1 X1a X1c
    have N1' := N1
    have M1' := M1
    unfold NC at N1'
    unfold NR at M1'
    have D1 := X1.2.1
    have Z1 := Z0.trans X1
    have pq1 := X1.1
    have hp1 : g1 258 1 = T := D1.2.1.1.2
    have h91 : r1 6603 9 = S := D1.2.1.2.2
    have sb1 := D1.sb
    have lm1 := D1.lim
    have X2x := Z1.on (a := S + 1300) (i := tn) (v := r1 S 15) (.inr ⟨rfl, by omega⟩)
    have eq2 := ERP.on1 (S := S) (g := r1) (i := tn) (v := r1 S 15) (a := S + 1300) (r := hr S 15) (t2 := tn + 1) hS (.inr ⟨rfl, by omega⟩)
    obtain ⟨r2, hr2⟩ : ∃ a, a = hset r1 (S + 1300) tn (r1 S 15) := ⟨_, rfl⟩
    rw [← hr2] at X2x eq2
    obtain ⟨Z2, M2⟩ := X2x
    have M2' := M2
    unfold NR at M2'
    have D2 := Z2.2.1
    have hp2 : g1 258 1 = T := D2.2.1.1.2
    have h92 : r2 6603 9 = S := D2.2.1.2.2
    have sb2 := D2.sb
    have lm2 := D2.lim
    obtain ⟨g3, r3, ec3, er3, W3⟩ := OB (e + 13) (e2 + 13) _ _ _ (by omega) (by omega) D2 (by omega)
    rcases W3 with W3 | W3
    rotate_left
    · obtain ⟨⟨f0, B0, E0⟩, F0, H0, b14, b15, b16⟩ := W3
      have hp_0 := B0.1.2
      have h9_0 := E0.1.2
      have y0 := E0.2.2.2
      obtain ⟨k1, ⟨B1, F1⟩, x1⟩ := B0.e1 (x := 24)
      have hp_1 := B1.1.2
      obtain ⟨m2, ⟨E2, H2, y2a, y2b, y2c⟩, x2⟩ := E0.cx (p := 25) (a := tn) (b := 0) (by omega)
      have h9_2 := E2.1.2
      have y2 := E2.2.2.2
      have U3 := E2.pt (tn := tn) (n := m2 S 15)
      have x3 : ∀ Q, G fz1 (e2 + 14) 362 9 [(3, 6603), (0, tn), (0, 0)] [] m2 Q = Q 0 (ptG S m2 tn (m2 S 15)) := fun Q => lp362z hS E2.1.2 (by omega)
      obtain ⟨m3, hm3⟩ : ∃ a, a = ptG S m2 tn (m2 S 15) := ⟨_, rfl⟩
      rw [← hm3] at U3 x3
      obtain ⟨E3, H3, y3a, y3b, y3c⟩ := U3
      refine ⟨k1, m3, fun Q => ?_, fun Q => ?_, .inr ⟨⟨_, B1, E3⟩, (Z2.2.2.1.2.trans (F0.trans F1)), (Z2.2.2.2.2.trans (H0.trans (H2.trans H3))), by omega, by omega, by omega⟩⟩
      · rw [q118_2]
        simp (implicitDefEqProofs := false) (disch := omega) only [n118_2, b118_3, q118_3, x_aload0, y_call28, y_call45, y_call78, y_call82, x_gc_2051, x_gf_2059, x_goto_3, x_iconst, x_ifCond_ne_3, x_iload1, x_jsr, x_return, klp_0, klp_1, klp_2, klp_3, klp_9, KC_0, KC_1, KC_2, KC_3, KC_4, ne_eq, not_false_eq_true, not_true_eq_false, true_and, and_true, and_self, implies_true, eq_self, true_imp_iff, false_implies, Int.reduceEq, Int.reduceNe, Int.reduceMod, Int.reduceMul, Int.reduceAdd, Int.reduceSub, Int.reduceLT, Int.reduceLE, Nat.reduceAdd, Nat.reduceLeDiff, Nat.reduceLT, Nat.reduceSub, reduceIte, wds_n, wds_0, wds_1, wds_2, wds_3, or_true, true_or, or_false, false_or, or_self, false_and, and_false, d_pos, d_s1, d_s2, d_s3, d_s4, d_s5, d_s6, d_s7, d_s8, Classical.not_not, z258_0, TC_0 hT, TC_k hT, hp0, jc, ec1, hp1, hp2, ec3, hp_0, x1, hp_1, d_s9, d_s10, d_s11, d_s12, d_s13, d_s14, d_s15, d_s16, d_s17, d_s18, d_s19, d_s20, d_s21, d_s22, d_s23, d_s24, d_s25, d_s26, d_s27, d_s28, d_s29, d_s30, hs_ne, hcell, hcel1, le_sub1, le_T, le_F, lt_T, lt_F, eq_F, w32_T, bz0, bz1, lc_le, lc_ge, lc_lt, lc_gt, lc_eq]
      · rw [q362_7]
        simp (implicitDefEqProofs := false) (disch := omega) only [n362_7, b362_8, q362_8, x_aload0, y_call321, y_call325, y_call327, y_call343, y_call347, x_gc_12483, x_gf_11339, x_gf_12408, x_goto_8, x_goto_9, x_iastore, x_iconst, x_ifCond_eq_8, x_iload1, x_istore2, x_jsr, x_pop0, x_pop3, klp_0, klp_1, klp_2, klp_3, klp_9, KC_0, KC_1, KC_2, KC_3, KC_4, ne_eq, not_false_eq_true, not_true_eq_false, true_and, and_true, and_self, implies_true, eq_self, true_imp_iff, false_implies, Int.reduceEq, Int.reduceNe, Int.reduceMod, Int.reduceMul, Int.reduceAdd, Int.reduceSub, Int.reduceLT, Int.reduceLE, Nat.reduceAdd, Nat.reduceLeDiff, Nat.reduceLT, Nat.reduceSub, reduceIte, wds_n, wds_0, wds_1, wds_2, wds_3, or_true, true_or, or_false, false_or, or_self, false_and, and_false, d_pos, d_s1, d_s2, d_s3, d_s4, d_s5, d_s6, d_s7, d_s8, Classical.not_not, r16 hS, r16l hS, r16k hS, r17 hS, r17l hS, r17k hS, r18 hS, r18l hS, r18k hS, r23 hS, r23l hS, r23k hS, r24 hS, r24l hS, r24k hS, TR_0 hS, TR_k hS, h90, gd0, jalways, er1, h91, h92, ← hr2, er3, h9_0, x2, h9_2, x3, d_s9, d_s10, d_s11, d_s12, d_s13, d_s14, d_s15, d_s16, d_s17, d_s18, d_s19, d_s20, d_s21, d_s22, d_s23, d_s24, d_s25, d_s26, d_s27, d_s28, d_s29, d_s30, hs_ne, hcell, hcel1, le_sub1, le_T, le_F, lt_T, lt_F, eq_F, w32_T, bz0, bz1, lc_le, lc_ge, lc_lt, lc_gt, lc_eq]
    obtain ⟨p3, q3, fst3, X3, V3, DX3, PX3⟩ := W3
    have DX3' := DX3
    unfold DXB at DX3'
    have D3 := X3.2.1
    have Z3 := Z2.trans X3
    have pq3 := X3.1
    have hp3 : g3 258 1 = T := D3.2.1.1.2
    have h93 : r3 6603 9 = S := D3.2.1.2.2
    have sb3 := D3.sb
    have lm3 := D3.lim
    obtain ⟨X4, N4, C4⟩ := D3.em (x := 24) (by omega)
    have ec4 : ∀ Q, Sp fz1 (e + 13) 82 [(3, T), (0, 24)] g3 Q = Q 0 (emH T g3 24) := fun Q => q82 hT (by omega)
    have HO4 := D3.hol (x := 24) (by omega)
    generalize emH T g3 24 = g4 at X4 N4 C4 ec4 HO4
    have N4' := N4
    unfold NC at N4'
    have D4 := X4.2.1
    have Z4 := Z3.trans X4
    have pq4 := X4.1
    have hp4 : g4 258 1 = T := D4.2.1.1.2
    have h94 : r3 6603 9 = S := D4.2.1.2.2
    have sb4 := D4.sb
    have lm4 := D4.lim
    obtain ⟨X5, M5, R5⟩ := D4.cd (p := 25) (a := tn) (b := 0) (by omega) (fun w => absurd w (by decide))
    have er5 : ∀ Q, Sp fz1 (e2 + 13) 347 [(3, 6603), (0, 25), (0, tn), (0, 0)] r3 Q = Q (r3 S 15) (cdR S r3 25 tn 0) := fun Q => v347 D4.2.1.2.1 D4.2.1.2.2 (by omega)
    generalize cdR S r3 25 tn 0 = r5 at X5 M5 R5 er5
    have M5' := M5
    unfold NR at M5'
    have D5 := X5.2.1
    have Z5 := Z4.trans X5
    have pq5 := X5.1
    have hp5 : g4 258 1 = T := D5.2.1.1.2
    have h95 : r5 6603 9 = S := D5.2.1.2.2
    have sb5 := D5.sb
    have lm5 := D5.lim
    have Z6x := Z5.pt (tn := tn) (n := r5 S 15) R0 (by omega)
    have er6 : ∀ Q, G fz1 (e2 + 14) 362 9 [(3, 6603), (0, tn), (0, 0)] [] r5 Q = Q 0 (ptG S r5 tn (r5 S 15)) := fun Q => lp362z hS D5.2.1.2.2 (by have := D5.nb; unfold NBR at this; omega)
    obtain ⟨Z6, M6⟩ := Z6x
    have M6' := M6
    unfold NR at M6'
    have nvX : NVR h g4 (ptG S r5 tn (r5 S 15)) := by
      have E1 : ECP T 2400 k g1 := X1.2.2.1.1.lo (by decide)
      have E2 : ECP T 2400 g3 g4 := X4.2.2.1.1.lo (by decide)
      have F1 : ERP S 6000 500 kr r2 := (X1.2.2.2.1.lo (by decide) (by decide)).trans (by rw [hr2]; exact ERP.on1 hS (.inr ⟨rfl, by omega⟩))
      have V4 : NVR k g3 r3 := NVR.trans (NVR.same (gr := r2) (by omega)) (X3.2.2.1.1) (X3.2.2.2.1) V3
      have NA : NVR h g3 r3 := NVR.trans NV0 (E1.trans (X3.2.2.1.1.lo (by decide))) (F1.trans (X3.2.2.2.1.lo (by decide) (by decide))) V4
      have NB : NVR h g4 r5 := NVR.trans NA E2 (X5.2.2.2.1.lo (r2 := 6000) (t2 := 500) (by decide) (by decide)) (NVR.same (by omega))
      have e3 : ptG S r5 tn (r5 S 15) 6603 = r5 6603 := pt_ne (by omega)
      have e4 : ptG S r5 tn (r5 S 15) 9569 = r5 9569 := pt_ne (by omega)
      have e5 : ptG S r5 tn (r5 S 15) 9632 = r5 9632 := pt_ne (by omega)
      unfold NVR at *
      rw [e3, e4, e5]
      exact NB
    refine ⟨g4, (ptG S r5 tn (r5 S 15)), fun Q => ?_, fun Q => ?_, .inl ⟨p3, Z6, nvX, by unfold DXB; omega, fun K V CL A s1 s2 => ?_⟩⟩
    · rw [q118_2]
      simp (implicitDefEqProofs := false) (disch := omega) only [n118_2, b118_3, q118_3, x_aload0, y_call28, y_call45, y_call78, y_call82, x_gc_2051, x_gf_2059, x_goto_3, x_iconst, x_ifCond_ne_3, x_iload1, x_jsr, x_return, klp_0, klp_1, klp_2, klp_3, klp_9, KC_0, KC_1, KC_2, KC_3, KC_4, ne_eq, not_false_eq_true, not_true_eq_false, true_and, and_true, and_self, implies_true, eq_self, true_imp_iff, false_implies, Int.reduceEq, Int.reduceNe, Int.reduceMod, Int.reduceMul, Int.reduceAdd, Int.reduceSub, Int.reduceLT, Int.reduceLE, Nat.reduceAdd, Nat.reduceLeDiff, Nat.reduceLT, Nat.reduceSub, reduceIte, wds_n, wds_0, wds_1, wds_2, wds_3, or_true, true_or, or_false, false_or, or_self, false_and, and_false, d_pos, d_s1, d_s2, d_s3, d_s4, d_s5, d_s6, d_s7, d_s8, Classical.not_not, z258_0, TC_0 hT, TC_k hT, hp0, jc, ec1, hp1, hp2, ec3, hp3, ec4, hp4, hp5, d_s9, d_s10, d_s11, d_s12, d_s13, d_s14, d_s15, d_s16, d_s17, d_s18, d_s19, d_s20, d_s21, d_s22, d_s23, d_s24, d_s25, d_s26, d_s27, d_s28, d_s29, d_s30, hs_ne, hcell, hcel1, le_sub1, le_T, le_F, lt_T, lt_F, eq_F, w32_T, bz0, bz1, lc_le, lc_ge, lc_lt, lc_gt, lc_eq]
    · rw [q362_7]
      simp (implicitDefEqProofs := false) (disch := omega) only [n362_7, b362_8, q362_8, x_aload0, y_call321, y_call325, y_call327, y_call343, y_call347, x_gc_12483, x_gf_11339, x_gf_12408, x_goto_8, x_goto_9, x_iastore, x_iconst, x_ifCond_eq_8, x_iload1, x_istore2, x_jsr, x_pop0, x_pop3, klp_0, klp_1, klp_2, klp_3, klp_9, KC_0, KC_1, KC_2, KC_3, KC_4, ne_eq, not_false_eq_true, not_true_eq_false, true_and, and_true, and_self, implies_true, eq_self, true_imp_iff, false_implies, Int.reduceEq, Int.reduceNe, Int.reduceMod, Int.reduceMul, Int.reduceAdd, Int.reduceSub, Int.reduceLT, Int.reduceLE, Nat.reduceAdd, Nat.reduceLeDiff, Nat.reduceLT, Nat.reduceSub, reduceIte, wds_n, wds_0, wds_1, wds_2, wds_3, or_true, true_or, or_false, false_or, or_self, false_and, and_false, d_pos, d_s1, d_s2, d_s3, d_s4, d_s5, d_s6, d_s7, d_s8, Classical.not_not, r16 hS, r16l hS, r16k hS, r17 hS, r17l hS, r17k hS, r18 hS, r18l hS, r18k hS, r23 hS, r23l hS, r23k hS, r24 hS, r24l hS, r24k hS, TR_0 hS, TR_k hS, h90, gd0, jalways, er1, h91, h92, ← hr2, er3, h93, h94, er5, h95, er6, d_s9, d_s10, d_s11, d_s12, d_s13, d_s14, d_s15, d_s16, d_s17, d_s18, d_s19, d_s20, d_s21, d_s22, d_s23, d_s24, d_s25, d_s26, d_s27, d_s28, d_s29, d_s30, hs_ne, hcell, hcel1, le_sub1, le_T, le_F, lt_T, lt_F, eq_F, w32_T, bz0, bz1, lc_le, lc_ge, lc_lt, lc_gt, lc_eq]
    · have eS : ptG S r5 tn (r5 S 15) S = r5 S := pt_ne (by omega)
      have ea : ptG S r5 tn (r5 S 15) (S + 1300) = r5 (S + 1300) := pt_ne (by omega)
      have nz := Z5.2.1.nb
      unfold NBR at nz
      have FE : ERP S (hr S 15) (tn + 1) kr r5 := (((X1.2.2.2.1.lo (by omega) (by omega)).trans eq2).trans (X3.2.2.2.1.lo (by omega) (by omega))).trans (X5.2.2.2.1.lo (by omega) (by omega))
      have EE : ECP T 0 k g4 := ((ECP.rfl'.trans X1.2.2.1.1).trans X3.2.2.1.1).trans X4.2.2.1.1
      have F5 : ERQ S (hr S 15) (tn + 1) kr (ptG S r5 tn (r5 S 15)) := ERQ.of FE (ERQ.pt hS)
      have FB : ERQ S (hr S 15) (tn + 1) r3 (ptG S r5 tn (r5 S 15)) := ERQ.of (X5.2.2.2.1.lo (by omega) (by omega)) (ERQ.pt hS)
      have o1 : ∀ i, 8 * tn ≤ i → i < 8 * tn + 8 → r5 (S + 1236) i = kr (S + 1236) i := fun i i0 i1 => by
        have a1 := X1.2.2.2.1.2.2.2.2.2.2.2.1 i (by omega) (by omega) (by omega)
        have a2 : r2 (S + 1236) i = r1 (S + 1236) i := by rw [hr2, hs_ne (by omega)]
        have a3 := X3.2.2.2.1.2.2.2.2.2.2.2.1 i (by omega) (by omega) (by omega)
        have a5 := X5.2.2.2.1.2.2.2.2.2.2.2.1 i (by omega) (by omega) (by omega)
        rw [a5, a3, a2, a1]
      have al : r5 (S + 1300) tn = r1 S 15 := by
        have a3 := X3.2.2.2.1.2.2.2.2.2.2.2.2 tn (by omega) (by omega) (by omega)
        have a5 := X5.2.2.2.1.2.2.2.2.2.2.2.2 tn (by omega) (by omega) (by omega)
        rw [a5, a3, hr2, hcel1]
      have k5 : K 5 tn = r1 S 15 := by rw [A.2.2.2.2.1 tn (by omega) (by omega) (by rw [eS]; omega), ea]; exact al
      have AB := A.subq (h := g3) (hr := r3) (c2 := g1 T 17) (r2 := r2 S 15) (t2 := r2 S 22) (by have := D3.nb; unfold NBR at this; omega) (X4.2.2.1.1.lo (by omega)) (ERQ.of (X5.2.2.2.1.lo (by omega) (by omega)) (ERQ.up (ERQ.pt (r := r2 S 15) hS) (by omega))) (by omega) (by omega) (by omega)
      have PB := PX3 K V CL AB
      have u1 := A.cel (by omega) C4
      have f1 := fst3
      have v0 := R5
      have v1 : K 1 (r3 S 15) = 25 ∧ K 2 (r3 S 15) = tn := by
        obtain ⟨a1, a2, -⟩ := A.2.1 (r3 S 15) (by omega) (by omega) (by rw [eS]; omega)
        rw [pt_ne (o := S + 980) (by omega), R5.2.1] at a1 a2
        rw [pt_ne (o := S + 1044) (by omega), R5.2.2.1] at a2
        exact ⟨a1, a2 (by decide) (by decide) (by decide)⟩
      have h22 : K 0 (k T 17) ≠ 22 := by
        rcases fst3 with q | q
        · rw [show k T 17 = g3 T 17 by omega, u1]; decide
        · have u2 := A.cel (by omega) (q.ec (c := g1 T 17) (X4.2.2.1.1.lo (by omega)) (Int.le_refl _))
          rw [show k T 17 = g1 T 17 by omega, u2]; decide
      exact W.fin (cF := g3 T 17) (rF := r3 S 15) hdp PR0 n00 nk0 A (EE.lo (by omega)) F5 o1 hS s1 s2 (by omega) (by omega) (by omega) h22 (.inr ⟨by omega, by rw [k5, show k T 17 = g1 T 17 by omega, show r1 S 15 = r2 S 15 by omega]; exact PB.low (by omega) (by omega), by omega, u1, v1.1, v1.2, by omega, by omega⟩)
  · have jc : ∀ Q, Sp fz1 (e + 13) 45 [(3, 129), (3, NV_1843)] k Q = Q (-1) k := fun Q => by rw [NV_1843_e, D0.fw (d := e + 8) (str_14 D0.2.2.1.1) (by decide) w1_14, if_neg wa]
    have jalways : ∀ (d : Nat) Q, Sp fz1 (d + 5) 327 [(3, 6603), (3, NV_1843)] kr Q = Q 0 kr := fun d Q => by rw [NV_1843_e, iw_always D0.1.2.2 D0.1.1 D0.2.2.1.2]; exact congrArg (fun x => Q x kr) (if_neg wa)
    obtain ⟨X1, N1, C1⟩ := D0.em (x := 24) (by omega)
    have ec1 : ∀ Q, Sp fz1 (e + 13) 82 [(3, T), (0, 24)] k Q = Q 0 (emH T k 24) := fun Q => q82 hT (by omega)
    have HO1 := D0.hol (x := 24) (by omega)
    generalize emH T k 24 = g1 at X1 N1 C1 ec1 HO1
    have N1' := N1
    unfold NC at N1'
    have D1 := X1.2.1
    have Z1 := Z0.trans X1
    have pq1 := X1.1
    have hp1 : g1 258 1 = T := D1.2.1.1.2
    have h91 : kr 6603 9 = S := D1.2.1.2.2
    have sb1 := D1.sb
    have lm1 := D1.lim
    have Z2x := Z1.pt (tn := tn) (n := kr S 15) R0 (by omega)
    have er2 : ∀ Q, G fz1 (e2 + 14) 362 9 [(3, 6603), (0, tn), (0, 0)] [] kr Q = Q 0 (ptG S kr tn (kr S 15)) := fun Q => lp362z hS D1.2.1.2.2 (by have := D1.nb; unfold NBR at this; omega)
    obtain ⟨Z2, M2⟩ := Z2x
    have M2' := M2
    unfold NR at M2'
    have nvX : NVR h g1 (ptG S kr tn (kr S 15)) := by
      have e3 : ptG S kr tn (kr S 15) 6603 = kr 6603 := pt_ne (by omega)
      have e4 : ptG S kr tn (kr S 15) 9569 = kr 9569 := pt_ne (by omega)
      have e5 : ptG S kr tn (kr S 15) 9632 = kr 9632 := pt_ne (by omega)
      have NB : NVR h g1 kr := NVR.trans NV0 (X1.2.2.1.1.lo (c2 := 2400) (by decide)) (ERP.rfl' (S := S) (r := 6000) (t := 500)) (NVR.same (by omega))
      unfold NVR at *
      rw [e3, e4, e5]
      exact NB
    refine ⟨g1, (ptG S kr tn (kr S 15)), fun Q => ?_, fun Q => ?_, .inl ⟨sk, Z2, nvX, by unfold DXB; omega, fun K V CL A s1 s2 => ?_⟩⟩
    · rw [q118_2]
      simp (implicitDefEqProofs := false) (disch := omega) only [n118_2, b118_3, q118_3, x_aload0, y_call28, y_call45, y_call78, y_call82, x_gc_2051, x_gf_2059, x_goto_3, x_iconst, x_ifCond_ne_3, x_iload1, x_jsr, x_return, klp_0, klp_1, klp_2, klp_3, klp_9, KC_0, KC_1, KC_2, KC_3, KC_4, ne_eq, not_false_eq_true, not_true_eq_false, true_and, and_true, and_self, implies_true, eq_self, true_imp_iff, false_implies, Int.reduceEq, Int.reduceNe, Int.reduceMod, Int.reduceMul, Int.reduceAdd, Int.reduceSub, Int.reduceLT, Int.reduceLE, Nat.reduceAdd, Nat.reduceLeDiff, Nat.reduceLT, Nat.reduceSub, reduceIte, wds_n, wds_0, wds_1, wds_2, wds_3, or_true, true_or, or_false, false_or, or_self, false_and, and_false, d_pos, d_s1, d_s2, d_s3, d_s4, d_s5, d_s6, d_s7, d_s8, Classical.not_not, z258_0, TC_0 hT, TC_k hT, hp0, jc, ec1, hp1, d_s9, d_s10, d_s11, d_s12, d_s13, d_s14, d_s15, d_s16, d_s17, d_s18, d_s19, d_s20, d_s21, d_s22, d_s23, d_s24, d_s25, d_s26, d_s27, d_s28, d_s29, d_s30, hs_ne, hcell, hcel1, le_sub1, le_T, le_F, lt_T, lt_F, eq_F, w32_T, bz0, bz1, lc_le, lc_ge, lc_lt, lc_gt, lc_eq]
    · rw [q362_7]
      simp (implicitDefEqProofs := false) (disch := omega) only [n362_7, b362_8, q362_8, x_aload0, y_call321, y_call325, y_call327, y_call343, y_call347, x_gc_12483, x_gf_11339, x_gf_12408, x_goto_8, x_goto_9, x_iastore, x_iconst, x_ifCond_eq_8, x_iload1, x_istore2, x_jsr, x_pop0, x_pop3, klp_0, klp_1, klp_2, klp_3, klp_9, KC_0, KC_1, KC_2, KC_3, KC_4, ne_eq, not_false_eq_true, not_true_eq_false, true_and, and_true, and_self, implies_true, eq_self, true_imp_iff, false_implies, Int.reduceEq, Int.reduceNe, Int.reduceMod, Int.reduceMul, Int.reduceAdd, Int.reduceSub, Int.reduceLT, Int.reduceLE, Nat.reduceAdd, Nat.reduceLeDiff, Nat.reduceLT, Nat.reduceSub, reduceIte, wds_n, wds_0, wds_1, wds_2, wds_3, or_true, true_or, or_false, false_or, or_self, false_and, and_false, d_pos, d_s1, d_s2, d_s3, d_s4, d_s5, d_s6, d_s7, d_s8, Classical.not_not, r16 hS, r16l hS, r16k hS, r17 hS, r17l hS, r17k hS, r18 hS, r18l hS, r18k hS, r23 hS, r23l hS, r23k hS, r24 hS, r24l hS, r24k hS, TR_0 hS, TR_k hS, h90, gd0, jalways, h91, er2, d_s9, d_s10, d_s11, d_s12, d_s13, d_s14, d_s15, d_s16, d_s17, d_s18, d_s19, d_s20, d_s21, d_s22, d_s23, d_s24, d_s25, d_s26, d_s27, d_s28, d_s29, d_s30, hs_ne, hcell, hcel1, le_sub1, le_T, le_F, lt_T, lt_F, eq_F, w32_T, bz0, bz1, lc_le, lc_ge, lc_lt, lc_gt, lc_eq]
    · have eS : ptG S kr tn (kr S 15) S = kr S := pt_ne (by omega)
      have ea : ptG S kr tn (kr S 15) (S + 1300) = kr (S + 1300) := pt_ne (by omega)
      have k5 : K 5 tn = -9 := by rw [A.2.2.2.2.1 tn (by omega) (by omega) (by rw [eS]; omega), ea]; exact on0.2.2
      have u1 := A.cel (by omega) C1
      exact W.fin (cF := 0) (rF := 0) hdp PR0 n00 nk0 A (X1.2.2.1.1.lo (by omega)) (ERQ.pt hS) (fun i _ _ => rfl) hS s1 s2 (by omega) (by omega) (by omega) (by rw [u1]; decide) (.inl ⟨k5, u1, by omega⟩)
end SM
