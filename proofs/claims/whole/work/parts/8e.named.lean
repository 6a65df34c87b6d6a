/-! THE PURE SIDE, 152: names in exps on both sides: printed by wip/tools/gen8e.py -/
section SM
variable {bX : Int} {tp : Int → Int} {t T S s s1 s2 f : Int} {h hr g gr k kr : HV} {Q : Int → HV → Prop} {d : Nat}
theorem GD.use {w p : Int} (D : GD bX tp t T S s h hr) (l : h 258 6 + 1 ≤ 4 + h T 15) (p0 : 0 ≤ p) (ps : p ≤ s) (hp : ∀ v, 0 ≤ v → v < h 258 6 → h 416 v ≤ p) : GOM bX tp t T S s h hr s (useH h w p) hr ∧ (∃ e, (0 ≤ e ∧ e ≤ 1) ∧ NC T h (useH h w p) 0 0 0 e 0) ∧ ((0 ≤ useV h w ∧ useV h w < useH h w p 258 6) ∧ useH h w p 353 (useV h w) = w ∧ useH h w p 416 (useV h w) ≤ p) ∧ (∀ v, h 258 6 ≤ v → v < useH h w p 258 6 → v = useV h w ∧ useH h w p 416 v = p) := by
  have kT := kTC D.2.1.1.1
  obtain ⟨a1, ⟨a2, a3⟩, a4, a5, a6, a7, a8⟩ := D.2.use (w := w) l p0 ps hp
  refine ⟨⟨Int.le_refl _, D.cls a1 (a7 _ (by decide) (by decide) (by decide)) (a7 _ (by decide) (by decide) (by decide)), ⟨a2, a3⟩, ERP.rfl', FXR.rfl'⟩, ⟨useH h w p 258 6 - h 258 6, by omega, ?_⟩, a4, a6⟩
  unfold NC
  rw [a7 T (by omega) (by omega) (by omega), a8 3 (by decide), a8 10 (by decide), a8 11 (by decide)]
  omega
theorem RFI.nx {p a b : Int} (N : RFI S hr) (hS : TR S) (E : ERP S 0 0 hr gr) (F : FXR S hr gr) (e19 : gr 6603 19 = hr 6603 19) (C : RCO S gr (hr S 15) p a b) (hp : p = 4 ∨ p = 6) : (gr (S + 916) (gr (S + 84) 6 - 1) ≤ hr S 15 ∧ 0 ≤ hr S 15 ∧ hr S 15 < gr S 15) ∧ (gr (S + 980) (hr S 15) = 4 ∨ gr (S + 980) (hr S 15) = 6) ∧ ∀ j, 0 ≤ j → j < gr 6603 19 → gr 9696 j < hr S 15 := by
  have kS := kTR hS
  have f1 := F.1 (S + 916) (by omega) (by omega) (by omega) (by omega) (by omega) (by omega) (by omega) (by omega) (by omega) (by omega) (by omega) (by omega) (by omega) (by omega) (by omega) (by omega)
  have f2 := F.1 (S + 84) (by omega) (by omega) (by omega) (by omega) (by omega) (by omega) (by omega) (by omega) (by omega) (by omega) (by omega) (by omega) (by omega) (by omega) (by omega) (by omega)
  rw [f1, f2]
  refine ⟨⟨N.1, C.1.1, C.1.2⟩, by rw [C.2.1]; exact hp, fun j j0 j1 => ?_⟩
  have z := E.2.2.2.1.2.2.2 j j0 j0 (by omega)
  rw [z]
  exact (N.2 j j0 (by omega)).1.2.2
theorem GD.rf {w p c : Int} (D : GD bX tp t T S s h hr) (l : hr 6603 19 + 1 ≤ h T 15) (hv : ∃ v, (0 ≤ v ∧ v < h 258 6) ∧ h 353 v = w ∧ h 416 v ≤ p) (hc : (hr (S + 916) (hr (S + 84) 6 - 1) ≤ c ∧ 0 ≤ c ∧ c < hr S 15) ∧ (hr (S + 980) c = 4 ∨ hr (S + 980) c = 6) ∧ ∀ j, 0 ≤ j → j < hr 6603 19 → hr 9696 j < c) : GOM bX tp t T S s h hr s h (refH hr w p c) ∧ NR S hr (refH hr w p c) 0 0 0 0 0 0 1 ∧ (refH hr w p c 9569 (hr 6603 19) = w ∧ refH hr w p c 9632 (hr 6603 19) = p ∧ refH hr w p c 9696 (hr 6603 19) = c) := by
  have kS := kTR D.2.1.2.1
  obtain ⟨a1, ⟨a2, a3⟩, ⟨a4, a5, a6, a7⟩, a8, a9⟩ := D.2.rf (c := c) l hv hc
  refine ⟨⟨Int.le_refl _, D.ref a1 (fun i _ _ => a9 i (by omega)) (a8 _ (by decide) (by decide) (by decide) (by decide)), ⟨ECP.rfl', FXC.rfl'⟩, a2, a3⟩, ?_, a5, a6, a7⟩
  unfold NR
  rw [a8 S (by omega) (by omega) (by omega) (by omega), a8 (S + 84) (by omega) (by omega) (by omega) (by omega), a4, a9 12 (by decide), a9 15 (by decide)]
  omega
theorem GD.rl {v : Int} (D : GD bX tp t T S s h hr) (l : hr S 15 + 1 ≤ 11 * h T 15 + hr (S + 84) 6) (l2 : hr S 20 + 1 ≤ h T 15) : GOM bX tp t T S s h hr s h (rlH S hr v) ∧ NR S hr (rlH S hr v) 1 1 0 0 0 0 0 ∧ rlH S hr v (S + 1174) (hr S 20) = v ∧ RCO S (rlH S hr v) (hr S 15) 2 (hr S 20) 0 := by
  have kS := kTR D.2.1.2.1
  obtain ⟨a1, ⟨a2, a3⟩, ⟨a4, a5, a6⟩, a7, a8, a9⟩ := D.2.rl (v := v) l l2
  have e3 := a8 6603 (by omega) (by omega) (by omega) (by omega) (by omega)
  refine ⟨⟨Int.le_refl _, D.ref a1 (fun i _ _ => by rw [e3]) (a8 _ (by omega) (by omega) (by omega) (by omega) (by omega)), ⟨ECP.rfl', FXC.rfl'⟩, a2, a3⟩, ?_, a6, a7⟩
  unfold NR
  rw [a4, a5, e3, a9 21 (by decide) (by decide), a9 22 (by decide) (by decide), a8 (S + 84) (by omega) (by omega) (by omega) (by omega) (by omega)]
  omega
theorem GD.call {w p n : Int} (D : GD bX tp t T S s h hr) (n0 : 0 ≤ n) (p0 : 0 ≤ p) (l1 : 2 * (h T 17 + 3) ≤ 6 * h T 15 + s) (l2 : hr S 15 + 1 ≤ 11 * h T 15 + hr (S + 84) 6) (l3 : h 258 10 + 1 ≤ h T 15) : GOM bX tp t T S s h hr s (clH T h w p n) (clR S hr w p n) ∧ NC T h (clH T h w p n) 0 0 3 0 1 ∧ NR S hr (clR S hr w p n) 1 0 0 0 0 0 0 ∧ (CEL T (clH T h w p n) (h T 17) 13 ∧ CEL T (clH T h w p n) (h T 17 + 2) n) ∧ (clH T h w p n 608 (h 258 10) = h T 17 + 1 ∧ clR S hr w p n 9888 (h 258 10) = hr S 15) ∧ RCO S (clR S hr w p n) (hr S 15) 7 0 0 := by
  have kT := kTC D.2.1.1.1
  have kS := kTR D.2.1.2.1
  obtain ⟨a1, a2, a3, ⟨a4, a5, a6⟩, a7, a8, a9, ⟨b1, b2, b3⟩, b4, b5, b6⟩ := D.2.call (w := w) (p := p) (by have := D.sb; omega) n0 p0 l1 l2 l3
  refine ⟨⟨Int.le_refl _, ⟨⟨D.1.1, D.1.2.1.fr (b1 _ (by omega) (by omega) (by omega) (by omega) (by omega) (by omega)) (b1 _ (by omega) (by omega) (by omega) (by omega) (by omega) (by omega)), D.1.2.2.fr (fun i _ _ => b6 i (by omega)) (b4 _ (by omega) (by omega) (by omega) (by omega) (by omega) (by omega) (by omega) (by omega) (by omega))⟩, a1⟩, a2, a3⟩, ?_, ?_, a7, a8, a9⟩
  · unfold NC
    rw [a4, a6, b3 15 (by decide), b2 3 (by decide), b2 6 (by decide), b2 11 (by decide)]
    omega
  · unfold NR
    rw [a5, b5 20 (by decide), b5 21 (by decide), b5 22 (by decide), b6 12 (by decide), b6 15 (by decide), b6 19 (by decide), b4 (S + 84) (by omega) (by omega) (by omega) (by omega) (by omega) (by omega) (by omega) (by omega) (by omega)]
    omega
theorem GD.up (D : GD bX tp t T S s h hr) : ∀ v, 0 ≤ v → v < h 258 6 → h 416 v ≤ s := D.2.2.2.2.1.2
/-- an exp's node as a piece: what remains of OUTC for one op that leaves one more -/
theorem one_out (D : GD 1 tp t T S s h hr) (G : GOM 1 tp t T S s h hr s1 g gr) (N : NVR h g gr) (X : DXP T S h hr g gr) (e : gr S 15 = hr S 15 + 1) (P : ∀ K V CL, AGK K V CL T S (h T 17) (hr S 15) (hr S 22) g gr → EXK K V CL (h T 17) (hr S 15) (g T 17) (hr S 15 + 1) 1 1 1 0) : OUTC 1 tp t T S s h hr g gr 1 0 := by
  refine .inl ⟨s1, G, N, X, by omega, fun K V CL A => ?_⟩
  have p := P K V CL A
  rw [show gr S 15 - hr S 15 = 1 by omega, e]
  exact p
/-- a name that is read -/
theorem get_pair {dep : Int} {e e2 : Nat} (D : GD 1 tp t T S s h hr) (hn : nmP tp t s) (n1 : h T 15 < 400) (n2 : h 258 3 < 30) (np : ¬ sgP tp t (nxS tp t s) 40) : ∃ g gr, (∀ Q, Sp fz1 (e + 12) 108 [(3, 258), (0, dep)] (ndH T h) Q = Q 0 g) ∧ (∀ Q, Sp fz1 (e2 + 13) 357 [(3, 6603)] hr Q = Q 0 gr) ∧ OUTC 1 tp t T S s h hr g gr 1 0 := by
  have F := D.f
  have N := D.nb
  have S0 := D.sb
  have kT := kTC D.2.1.1.1
  have kS := kTR D.2.1.2.1
  unfold NBR STQ at N
  obtain ⟨X1, X2, X3, X4⟩ := D.nd n1 n2
  have X2' := X2
  have X3' := X3
  unfold NC at X2'
  unfold NR at X3'
  have D1 := X1.2.1
  have wd : ndH T h 129 6 = wdT tp t s := D1.1.2.1.2.1 hn.1
  have wd5 : ndH T h 129 5 = s := D1.1.2.1.1.2.2.1
  have F1 := D1.f
  obtain ⟨g2, gr2, Y1, Y2, -, -, Y3, Y4, Y5, Y6, e3, f3⟩ := D1.nx (e + 3) (e2 + 9)
  have Y3' := Y3
  have Y4' := Y4
  unfold NC at Y3'
  unfold NR at Y4'
  have ss := Y1.1
  have D2 := Y1.2.1
  have nN := D2.nb
  unfold NBR STQ at nN
  have hu : ∀ v, 0 ≤ v → v < g2 258 6 → g2 416 v ≤ s := fun v v0 v1 => by
    rw [Y5 416 (by decide)]
    exact D1.up v v0 (by omega)
  obtain ⟨U1, ⟨ev, ev1, U2⟩, ⟨U3, U4, U5⟩, U6⟩ := D2.use (w := wdT tp t s) (p := s) (by omega) S0.1 ss hu
  have U2' := U2
  unfold NC at U2'
  have c76' : ∀ Q, Sp fz1 (e + 11) 76 [(3, 258), (1, wdT tp t s), (0, s)] g2 Q = Q (useV g2 (wdT tp t s)) (useH g2 (wdT tp t s) s) := fun Q => c76 (by omega)
  generalize useH g2 (wdT tp t s) s = g3 at *
  generalize useV g2 (wdT tp t s) = v at *
  have D3 := U1.2.1
  have sN := D3.sb
  obtain ⟨E1, E2, E3⟩ := D3.em (x := 5) (by omega)
  have E2' := E2
  unfold NC at E2'
  obtain ⟨H1, H2, H3⟩ := E1.2.1.em (x := v) (by omega)
  have H2' := H2
  unfold NC at H2'
  have em : ∀ Q, Sp fz1 (e + 11) 93 [(3, 258), (0, 5), (0, v)] g3 Q = Q 0 (emH T (emH T g3 5) v) := fun Q => q93 D3.2.1.1.1 D3.2.1.1.2 (by omega)
  obtain ⟨C1, C2, C3⟩ := H1.2.1.cd (p := 4) (a := 0) (b := 0) (by omega) (fun z => absurd z (by decide))
  have C2' := C2
  unfold NR at C2'
  have cd : ∀ Q, Sp fz1 (e2 + 12) 347 [(3, 6603), (0, 4), (0, 0), (0, 0)] gr2 Q = Q (gr2 S 15) (cdR S gr2 4 0 0) := fun Q => v347 D2.2.1.2.1 D2.2.1.2.2 (by omega)
  have o1 : emH T (emH T g3 5) v 353 = g3 353 := by rw [em_ne (by omega) (by omega), em_ne (by omega) (by omega)]
  have o2 : emH T (emH T g3 5) v 416 = g3 416 := by rw [em_ne (by omega) (by omega), em_ne (by omega) (by omega)]
  generalize hg4 : emH T (emH T g3 5) v = g4 at *
  generalize hr3 : cdR S gr2 4 0 0 = gr3 at *
  have hc0 := RFI.nx D2.2.2.2.2.2.2.2.1 D2.2.1.2.1 C1.2.2.2.1 C1.2.2.2.2 (by omega) C3 (.inl rfl)
  obtain ⟨R1, R2, R3, R4, R5⟩ := C1.2.1.rf (w := wdT tp t s) (p := s) (c := gr2 S 15) (by omega) ⟨v, ⟨U3.1, by omega⟩, by rw [o1]; exact U4, by rw [o2]; exact U5⟩ hc0
  have R2' := R2
  unfold NR at R2'
  have rf : ∀ Q, Sp fz1 (e2 + 12) 358 [(3, 6603), (1, wdT tp t s), (0, s), (0, gr2 S 15)] gr3 Q = Q 0 (refH gr3 (wdT tp t s) s (gr2 S 15)) := fun Q => v358 (by omega)
  generalize refH gr3 (wdT tp t s) s (gr2 S 15) = gr4 at *
  have GA := ((((X1.trans Y1).trans U1).trans (E1.trans H1)).trans C1).trans R1
  refine ⟨g4, gr4, fun Q => ?_, fun Q => ?_, ?_⟩
  · have k43 : tkK tp t s = 1 ∧ ¬ wdT tp t s ∈ wRES := hn
    have nm : ∀ Q, Sp fz1 (e + 11) 52 [(3, 258)] (ndH T h) Q = Q 1 (ndH T h) := fun Q => by rw [c52 D1.1.2.1 D1.2.2.1.1]; exact congrArg (fun x => Q x _) (if_pos k43)
    have sg : ∀ (d : Nat) Q, Sp fz1 d 59 [(3, 129), (0, 40)] g2 Q = Q 0 g2 := fun d Q => c59n D2 (by decide) np
    simp (implicitDefEqProofs := false) (disch := omega) only [sp108, b108_0, b108_1, b108_2, q108_1, q108_2, x_aload0, y_call109, y_call28, y_call52, y_call53, y_call59, y_call76, y_call84, y_call93, x_gc_2051, x_goto_2, x_iconst, x_ifCond_eq_1, x_iload1, x_iload4, x_istore4, x_lload2, x_lstore2, x_return, klp_0, klp_1, klp_2, klp_3, klp_9, KC_0, KC_1, KC_2, KC_3, KC_4, ne_eq, not_false_eq_true, not_true_eq_false, true_and, and_true, and_self, implies_true, eq_self, true_imp_iff, false_implies, Int.reduceEq, Int.reduceNe, Int.reduceMod, Int.reduceMul, Int.reduceAdd, Int.reduceSub, Int.reduceLT, Int.reduceLE, Nat.reduceAdd, Nat.reduceLeDiff, Nat.reduceLT, Nat.reduceSub, reduceIte, wds_n, wds_0, wds_1, wds_2, wds_3, or_true, true_or, or_false, false_or, or_self, false_and, and_false, d_pos, d_s1, d_s2, d_s3, d_s4, d_s5, d_s6, d_s7, d_s8, Classical.not_not, z258_0, q53, q84, wd, wd5, nm, e3, sg, c76', em, hg4, d_s9, d_s10, d_s11, d_s12, d_s13, d_s14, d_s15, d_s16, d_s17, d_s18, d_s19, d_s20, d_s21, d_s22, d_s23, d_s24, d_s25, d_s26, d_s27, d_s28, d_s29, d_s30, le_sub1, le_T, le_F, lt_T, lt_F, eq_F, w32_T, bz0, bz1, lc_le, lc_ge, lc_lt, lc_gt, lc_eq]
  · have q1 : ∀ (d : Nat) Q, Sp fz1 d 325 [(3, 6603)] gr2 Q = Q 1 gr2 := fun d Q => v325g D2
    have sg : ∀ (d : Nat) Q, Sp fz1 d 334 [(3, 6603), (0, 40)] gr2 Q = Q 0 gr2 := fun d Q => v334n D2 np
    have nd : ∀ Q, Sp fz1 (e2 + 12) 346 [(3, 6603), (0, 1)] hr Q = Q 0 (ndR S hr) := fun Q => v346p D.2.1.2.1 D.2.1.2.2 (by omega) (by omega) (by omega)
    have nmw : ∀ (d : Nat) Q, Sp fz1 d 330 [(3, 6603)] (ndR S hr) Q = Q (wdT tp t s) (ndR S hr) := fun d Q => v330 D1.1.2.2 D1.1.1
    have t3 : ndR S hr 6603 3 = s := F1.2.2.1
    have st : ∀ Q, Sp fz1 (e2 + 12) 355 [(3, 6603)] (ndR S hr) Q = Q 0 gr2 := fun Q => by
      have q2 : ∀ (d : Nat) Q, Sp fz1 d 325 [(3, 6603)] (ndR S hr) Q = Q 1 (ndR S hr) := fun d Q => v325g D1
      simp (implicitDefEqProofs := false) (disch := omega) only [sp355, b355_0, b355_1, q355_1, x_aload0, y_call321, y_call325, x_goto_1, x_ifCond_eq_1, x_return, klp_0, klp_1, klp_2, klp_3, klp_9, KC_0, KC_1, KC_2, KC_3, KC_4, ne_eq, not_false_eq_true, not_true_eq_false, true_and, and_true, and_self, implies_true, eq_self, true_imp_iff, false_implies, Int.reduceEq, Int.reduceNe, Int.reduceMod, Int.reduceMul, Int.reduceAdd, Int.reduceSub, Int.reduceLT, Int.reduceLE, Nat.reduceAdd, Nat.reduceLeDiff, Nat.reduceLT, Nat.reduceSub, reduceIte, wds_n, wds_0, wds_1, wds_2, wds_3, or_true, true_or, or_false, false_or, or_self, false_and, and_false, d_pos, d_s1, d_s2, d_s3, d_s4, d_s5, d_s6, d_s7, d_s8, Classical.not_not, q2, f3, d_s9, d_s10, d_s11, d_s12, d_s13, d_s14, d_s15, d_s16, d_s17, d_s18, d_s19, d_s20, d_s21, d_s22, d_s23, d_s24, d_s25, d_s26, d_s27, d_s28, d_s29, d_s30, le_sub1, le_T, le_F, lt_T, lt_F, eq_F, w32_T, bz0, bz1, lc_le, lc_ge, lc_lt, lc_gt, lc_eq]
    simp (implicitDefEqProofs := false) (disch := omega) only [sp357, b357_0, b357_1, b357_2, b357_3, b357_4, b357_5, q357_1, q357_2, q357_3, q357_4, q357_5, x_aload0, y_call321, y_call325, y_call330, y_call333, y_call334, y_call344, y_call346, y_call347, y_call350, y_call355, y_call358, x_dup0, x_dup3, x_gc_11427, x_gc_11435, x_gc_11443, x_gc_11451, x_gf_11288, x_gf_11360, x_gf_11456, x_goto_3, x_goto_5, x_iadd, x_iastore, x_iconst, x_ifCond_eq_4, x_ifCond_eq_5, x_ifCond_ne_1, x_ifCond_ne_2, x_ifCond_ne_4, x_iinc4, x_iload3, x_iload4, x_istore3, x_istore4, x_isub, x_lastore, x_lload1, x_lstore1, x_pf_11360, x_pf_11456, x_return, klp_0, klp_1, klp_2, klp_3, klp_9, KC_0, KC_1, KC_2, KC_3, KC_4, ne_eq, not_false_eq_true, not_true_eq_false, true_and, and_true, and_self, implies_true, eq_self, true_imp_iff, false_implies, Int.reduceEq, Int.reduceNe, Int.reduceMod, Int.reduceMul, Int.reduceAdd, Int.reduceSub, Int.reduceLT, Int.reduceLE, Nat.reduceAdd, Nat.reduceLeDiff, Nat.reduceLT, Nat.reduceSub, reduceIte, wds_n, wds_0, wds_1, wds_2, wds_3, or_true, true_or, or_false, false_or, or_self, false_and, and_false, d_pos, d_s1, d_s2, d_s3, d_s4, d_s5, d_s6, d_s7, d_s8, Classical.not_not, z6603_20, z9761_l, z6603_21, z9824_l, z6603_22, z9888_l, z6603_23, z9952_l, nd, nmw, t3, st, q1, sg, cd, hr3, rf, d_s9, d_s10, d_s11, d_s12, d_s13, d_s14, d_s15, d_s16, d_s17, d_s18, d_s19, d_s20, d_s21, d_s22, d_s23, d_s24, d_s25, d_s26, d_s27, d_s28, d_s29, d_s30, le_sub1, le_T, le_F, lt_T, lt_F, eq_F, w32_T, bz0, bz1, lc_le, lc_ge, lc_lt, lc_gt, lc_eq]
  · refine one_out D GA (fun u u0 u1 u2 u3 => ?_) (by unfold DXP; omega) (by omega) (fun K V CL A => ?_)
    · have q := U6 u (by omega) (by omega)
      rw [o2] at u3 ⊢
      rw [o1]
      refine ⟨gr3 6603 19, by omega, ?_, ?_⟩
      · rw [R3, q.1, U4]
      · rw [R4, q.2]
    · have z1 := A.cel (i := g3 T 17) (by omega) (E3.ec H1.2.2.1.1 (by omega))
      have z2 := A.cel (i := emH T g3 5 T 17) (by omega) H3
      have z3 := A.rco (i := gr2 S 15) (by omega) (C3.er R1.2.2.2.1 (by omega))
      have z4 := A.2.2.2.2.2.2.2.1 (gr3 6603 19) v (by omega) (by omega) U3.1 (by omega) (by rw [o1, U4, R3])
      rw [R5] at z4
      have P := e_GET (K := K) (V := V) (CL := CL) (c := h T 17) (r := hr S 15) (by omega) (by omega) (by rw [show h T 17 = g3 T 17 by omega]; exact z1) (by rw [show hr S 15 = gr2 S 15 by omega]; exact z3.1) (by rw [show h T 17 + 1 = emH T g3 5 T 17 by omega, z2, show hr S 15 = gr2 S 15 by omega]; exact z4)
      rw [show g4 T 17 = h T 17 + 2 by omega]
      exact P
end SM
