/-! THE PURE SIDE, 119: the two machines alike: a value that is given: printed by wip/tools/gen89zw.py -/
def GM (g : CFG) (K B Br : HV) (n0 : Nat) (l : List FRT) (x : CX) : Prop := ∀ (q E k : Int) (n : Nat) (T kc bc kr br : Int) (h hr : HV) (d1 d2 : Nat) (a4 s7 s8 s9 : AV), n ≤ n0 → FST K B Br h hr n ((q, x, E, k) :: l) → VVh h hr kc bc kr br → h 1157 5 = l.length → (∀ f ∈ ((q, x, E, k) :: l : List FRT), RKx f.2.2.2 f.2.1) → 400 * (h 1157 16 - h 1157 17) + phF ((q, x, E, k) :: l) ≤ n → 0 ≤ T → T + n ≤ 4000000 →
  R2 (fun P => G fz1 (d1 + 2) 214 0 [(3, 1157), (0, kc), (1, bc), (9, 0), a4] [] h (fun _ h1 => LC g T h1 P)) (fun P => G fz1 (d2 + 1) 388 1 [(3, 6603), (0, 0), (0, 0), (0, kr), (1, br), (9, 0), (0, hr 6603 41 - 1), s7, s8, s9] [] hr (fun _ h1 => LRf g h1 P)) (POST B Br)
theorem s223e {d : Nat} {h : HV} {Q : Int → HV → Prop} (ht : 1 ≤ h 1157 8 ∧ h 1157 8 ≤ 96) (hw : 8 ≤ h 1824 (h 1157 8 - 1) ∧ h 1824 (h 1157 8 - 1) ≤ 100) : Sp fz1 (d + 1) 223 [(3, 1157)] h Q = Sp fz1 d 214 [(3, 1157), (0, h 1824 (h 1157 8 - 1) - 8), (1, h 1889 (h 1157 8 - 1))] (hset h 1157 8 (h 1157 8 - 1)) (fun _ => Q 0) := by
  simp (implicitDefEqProofs := false) (disch := omega) only [sp223, b223_0, b223_1, b223_2, b223_3, q223_1, q223_2, q223_3, x_aload0, y_call214, x_dup0, x_dup3, x_gc_5227, x_gc_5235, x_gf_5184, x_goto_3, x_iaload, x_iconst, x_ifCond_gt_1, x_if_icmp_lt_2, x_iload1, x_istore1, x_isub, x_laload, x_pf_5184, x_pf_5264, x_return, klp_0, klp_1, klp_2, klp_3, klp_9, KC_0, KC_1, KC_2, KC_3, KC_4, ne_eq, not_false_eq_true, not_true_eq_false, true_and, and_true, and_self, implies_true, eq_self, true_imp_iff, false_implies, Int.reduceEq, Int.reduceNe, Int.reduceMod, Int.reduceMul, Int.reduceAdd, Int.reduceSub, Int.reduceLT, Int.reduceLE, Nat.reduceAdd, Nat.reduceLeDiff, Nat.reduceLT, Nat.reduceSub, reduceIte, wds_n, wds_0, wds_1, wds_2, wds_3, or_true, true_or, or_false, false_or, or_self, false_and, and_false, d_pos, d_s1, d_s2, d_s3, d_s4, d_s5, d_s6, d_s7, d_s8, Classical.not_not, z1157_13, z1824_l, z1157_14, z1889_l, hs_ne, hcell, hcel1, le_sub1, le_T, le_F, lt_T, lt_F, eq_F, w32_T, bz0, bz1, lc_le, lc_ge, lc_lt, lc_gt, lc_eq] <;> (first | done | rfl | (refine congrArg (Sp _ _ _ _ _) (funext fun r => funext fun h1 => ?_); simp (implicitDefEqProofs := false) (disch := omega) only [sp223, b223_0, b223_1, b223_2, b223_3, q223_1, q223_2, q223_3, x_aload0, y_call214, x_dup0, x_dup3, x_gc_5227, x_gc_5235, x_gf_5184, x_goto_3, x_iaload, x_iconst, x_ifCond_gt_1, x_if_icmp_lt_2, x_iload1, x_istore1, x_isub, x_laload, x_pf_5184, x_pf_5264, x_return, klp_0, klp_1, klp_2, klp_3, klp_9, KC_0, KC_1, KC_2, KC_3, KC_4, ne_eq, not_false_eq_true, not_true_eq_false, true_and, and_true, and_self, implies_true, eq_self, true_imp_iff, false_implies, Int.reduceEq, Int.reduceNe, Int.reduceMod, Int.reduceMul, Int.reduceAdd, Int.reduceSub, Int.reduceLT, Int.reduceLE, Nat.reduceAdd, Nat.reduceLeDiff, Nat.reduceLT, Nat.reduceSub, reduceIte, wds_n, wds_0, wds_1, wds_2, wds_3, or_true, true_or, or_false, false_or, or_self, false_and, and_false, d_pos, d_s1, d_s2, d_s3, d_s4, d_s5, d_s6, d_s7, d_s8, Classical.not_not, z1157_13, z1824_l, z1157_14, z1889_l, hs_ne, hcell, hcel1, le_sub1, le_T, le_F, lt_T, lt_F, eq_F, w32_T, bz0, bz1, lc_le, lc_ge, lc_lt, lc_gt, lc_eq] <;> (first | done | rfl)))
section VM
variable {K B Br h hr h2 hr2 : HV} {n n2 n0 : Nat} {q E k k2 : Int} {x y : CX} {l L L2 : List FRT} {g : CFG}
theorem fin_g {T kc bc kr br : Int} (M : STA B Br h hr) (hs : h 1157 17 = hr 6603 53 ∧ 0 ≤ h 1157 17 ∧ h 1157 17 ≤ 3000) (hf : h 1157 15 = hr 6603 55 ∧ 0 ≤ h 1157 15 ∧ h 1157 15 ≤ 10000) (v : VVh h hr kc bc kr br) (c : Int) :
    R2 (LC g T (hset (hset h 1157 19 kc) 1157 20 bc)) (LRf g (hset (hset (spR (hset hr 6603 41 c) kc) 6603 58 kr) 6603 59 br)) (POST B Br) := by
  have V := M.2.2.1
  have C1 : CCG h (hset h 1157 19 kc) := cg_set V (by decide) (by decide) (fun _ => by decide)
  have C : CCG h (hset (hset h 1157 19 kc) 1157 20 bc) := C1.tr (cg_set (C1.V V) (by decide) (by decide) (fun _ => by decide))
  have R : RCG hr (hset (hset (spR (hset hr 6603 41 c) kc) 6603 58 kr) 6603 59 br) := by
    unfold spR
    exact ((((rg_set (.inr ⟨rfl, by decide⟩)).tr (rg_set (.inr ⟨rfl, by decide⟩))).tr (rg_set (.inr ⟨rfl, by decide⟩))).tr (rg_set (.inr ⟨rfl, by decide⟩))).tr (rg_set (.inr ⟨rfl, by decide⟩))
  have c19 : hset (hset h 1157 19 kc) 1157 20 bc 1157 19 = kc := by rw [hcell (by decide), hcel1]
  have c56 : hset (hset (spR (hset hr 6603 41 c) kc) 6603 58 kr) 6603 59 br 6603 56 = 0 := by unfold spR; rw [hcell (by decide), hcell (by decide), hcell (by decide), hcel1]
  have c57 : hset (hset (spR (hset hr 6603 41 c) kc) 6603 58 kr) 6603 59 br 6603 57 = kc := by unfold spR; rw [hcell (by decide), hcell (by decide), hcel1]
  have kr' := v.r
  refine R2_eq (a' := fun P => P kc _) (b' := fun P => P kc _) (fun P => by rw [LC_end (by rw [c19]; omega), c19]) (fun P => by rw [LRf_end c56, c57]) (R2_fin ⟨rfl, c57, M.cg C R, ?_, ?_, .inr ⟨kr'.1.1, ?_⟩⟩)
  · unfold spR
    rw [hcell (by decide), hcell (by decide), hcell (by decide), hcell (by decide), hcell (by decide), hcell (by decide), hcell (by decide)]
    exact hs
  · unfold spR
    rw [hcell (by decide), hcell (by decide), hcell (by decide), hcell (by decide), hcell (by decide), hcell (by decide), hcell (by decide)]
    exact hf
  · rw [VVh.cg V C R, hcel1, hcel1, hcell (by decide), hcel1]
    exact v
theorem give0 (N : ENV K B Br) (IH : SIM g K B Br n0) : GM g K B Br n0 [] [] := by
  intro q E k n T kc bc kr br h hr d1 d2 a4 s7 s8 s9 hn M v h5 RK bud T0 Tn
  obtain ⟨S, ⟨s1, s2, s3, s4, s5, s6, s7', s8', s9', s10, s11⟩, A⟩ := M
  have e8 : h 1157 8 = 0 := s4
  have e44 : hr 6603 44 = 0 := s5
  have e41 : hr 6603 41 = 1 := s3
  have h5 : h 1157 5 = 0 := h5
  have z := fin_g (g := g) (T := T) (c := 0) S ⟨s6.1, s6.2.2.1, by omega⟩ s7' v
  have kr' := v.r
  have ea : ∀ P, G fz1 (d1 + 2) 214 0 [(3, 1157), (0, kc), (1, bc), (9, 0), a4] [] h (fun _ h1 => LC g T h1 P) = LC g T (hset (hset h 1157 19 kc) 1157 20 bc) P := fun P => gv_end (d := d1 + 1) (by omega) (.inl e8) (by omega)
  by_cases k4 : kr = 4
  · have e4 := v.e4 (v.i4.mpr k4)
    have rw_ := S.RW
    refine R2_eq ea (fun P => uw_endr (l6 := (9, 0)) (by omega) (by omega) (.inl e44) k4 (by omega) e41) ?_
    rw [show hr 10272 br = kc by rw [e4.1]; exact e4.2.2]
    exact z
  · have e : kr = kc := by
      by_cases w0 : kc = 0
      · rw [w0]; exact v.i0.mp w0
      by_cases w1 : kc = 1
      · rw [w1]; exact v.i1.mp w1
      by_cases w2 : kc = 2
      · rw [w2]; exact v.i2.mp w2
      by_cases w3 : kc = 3
      · rw [w3]; exact v.i3.mp w3
      exact absurd (v.i4.mp (by omega)) k4
    refine R2_eq ea (fun P => uw_endg (l6 := (9, 0)) (by omega) (by omega) (.inl e44) (by omega) e41) ?_
    rw [e] at z ⊢
    exact z
theorem giveF {f0 : FRT} (N : ENV K B Br) (IH : SIM g K B Br n0) : GM g K B Br n0 (f0 :: l) [] := by
  obtain ⟨q', x', E', k'⟩ := f0
  intro q E k n T kc bc kr br h hr d1 d2 a4 s7 s8 s9 hn M v h5 RK bud T0 Tn
  have O := N.1
  obtain ⟨S, ⟨s1, s2, s3, s4, s5, s6, s7', s8', s9', s10, s11⟩, A⟩ := M
  have V := S.2.2.1
  have ar := V.ar
  have md := V.md
  have za := ALF.sz O _ A.2
  have zl := ALF.sz O _ A.2.2
  have r1 := A.rk
  have r2 := A.2.rk
  rw [phF_c, phF_c] at bud
  have bud : 400 * (h 1157 16 - h 1157 17) + (phF l + k' + k) ≤ n := bud
  have pl := phF_0 l A.2.2
  have st := s6
  have en : bsF K ((q', x', E', k') :: l) = bsF K l + (K 7 q' + 2 * lps x' + E') := rfl
  have ef : ftF ((q', x', E', k') :: l) = ftF l + E' := rfl
  have s2 : bsF K ((q', x', E', k') :: l) + K 7 q + 2 * lps [] ≤ h 1222 2 := s2
  have kq := (O.2 q A.1.2.1.1 A.1.2.1.2).1
  have s4 : h 1157 8 = ntF ((q', x', E', k') :: l) + ntX [] := s4
  have s5 : hr 6603 44 = ngF K ((q', x', E', k') :: l) + ngX K [] := s5
  unfold lps at s2
  unfold ntX at s4
  unfold ngX at s5
  rw [Int.add_zero] at s4 s5
  have D : h 1157 5 = l.length + 1 := by rw [h5, List.length_cons]; omega
  have s3 : hr 6603 41 = l.length + 2 := by rw [s3, List.length_cons, List.length_cons]; omega
  rw [List.length_cons, List.length_cons] at s1
  rw [List.length_cons] at za
  have len : bsF K ((q', x', E', k') :: l) + K 7 q + 64 ≤ cK h (-1) := A.1.2.2.2.2.1
  have a0 : h 1440 (h 1157 5) = bsF K ((q', x', E', k') :: l) := by
    have := A.1.1.1
    rw [List.length_cons] at this
    rw [D]
    exact this
  have a1 : hr 10912 (hr 6603 41 - 1) = ftF ((q', x', E', k') :: l) := by
    have := A.1.1.2
    rw [List.length_cons] at this
    rw [show hr 6603 41 - 1 = ((l.length + 1 : Nat) : Int) by omega]
    exact this
  have rt : MEM K (VS K q') (CLS K) n (h 1504 (h 1157 5)) (hr 10848 (hr 6603 41 - 1)) x' (E' + 1) k' := by
    have := A.1.2.2.2.2.2.2.2.2.2
    rw [List.length_cons] at this
    rw [show hr 6603 41 - 1 = ((l.length + 1 : Nat) : Int) by omega, D]
    exact this
  have lt := gfr_j O _ A.2
  rw [List.length_cons, ← s4, ← s5] at lt
  have hd : h 1157 8 = 0 ∨ ¬ h 1696 (h 1157 8 - 1) = h 1157 5 := by
    by_cases w : h 1157 8 = 0
    · exact .inl w
    · have := lt.2 (by omega)
      exact .inr (by omega)
  have gn : hr 6603 44 = 0 ∨ ¬ hr 11040 (hr 6603 44 - 1) = hr 6603 41 - 1 := by
    by_cases w : hr 6603 44 = 0
    · exact .inl w
    · have := lt.1 (by omega)
      exact .inr (by omega)
  have E36 : E' + 1 ≤ 36 := by
    obtain ⟨m, hm⟩ : ∃ m, n = m + 1 := ⟨n - 1, by omega⟩
    rw [hm] at rt
    exact rt.1.2.2.1.2
  have E0 : 0 ≤ E' := A.2.1.2.2.1.1
  -- the class's heap
  obtain ⟨C1, r12, rK, rB, ro⟩ := cut_3 (h := h) (m := h 1222 2 - bsF K ((q', x', E', k') :: l)) V (by omega)
  rw [show h 1222 2 - (h 1222 2 - bsF K ((q', x', E', k') :: l)) = h 1440 (h 1157 5) by omega] at C1 r12 rK rB ro
  have V1 := C1.V V
  have ea : ∀ P, G fz1 (d1 + 2) 214 0 [(3, 1157), (0, kc), (1, bc), (9, 0), a4] [] h (fun _ h1 => LC g T h1 P) = LC g T (hset (hset (pshH (cutH h (h 1440 (h 1157 5))) kc bc) 1157 4 (h 1504 (h 1157 5))) 1157 5 (h 1157 5 - 1)) P := fun P => gv_ret V (by omega) hd (by omega) (by unfold cK at len; omega)
  have eb : ∀ P, G fz1 (d2 + 1) 388 1 [(3, 6603), (0, 0), (0, 0), (0, kr), (1, br), (9, 0), (0, hr 6603 41 - 1), s7, s8, s9] [] hr (fun _ h1 => LRf g h1 P) = LRf g (puR (hset (hset (hset hr 6603 41 (hr 6603 41 - 1)) 6603 36 (hr 10912 (hr 6603 41 - 1))) 6603 52 (hr 10848 (hr 6603 41 - 1))) kr br) P := fun P => uw_ret (l6 := (9, 0)) (by omega) (by omega) gn (by omega) (by omega)
  generalize cutH h (h 1440 (h 1157 5)) = h1 at *
  rw [psh_rp] at ea
  have len1 : cK h1 (-1) = cK h (-1) := rK _
  obtain ⟨C2, x2, xK, xB, xo⟩ := rpH_2 (h := h1) (n := 0) (k := kc) (b := bc) V1 (by omega) (by omega)
  have V2 := C2.V V1
  have a11 : h1 1222 0 = h 1222 0 ∧ h1 1222 1 = h 1222 1 := C1.2.2.1
  generalize rpH h1 0 kc bc = h2 at *
  have C3 : CCG h2 (hset h2 1157 4 (h 1504 (h 1157 5))) := cg_set V2 (by decide) (by decide) (fun _ => by decide)
  have V3 := C3.V V2
  have C4 : CCG (hset h2 1157 4 (h 1504 (h 1157 5))) (hset (hset h2 1157 4 (h 1504 (h 1157 5))) 1157 5 (h 1157 5 - 1)) := cg_set V3 (by decide) (by decide) (fun _ => by decide)
  have C := ((C1.tr C2).tr C3).tr C4
  have k3 := cK_set (i := 4) (v := h 1504 (h 1157 5)) V2 (o := 1157) (by decide) (by decide)
  have k4 := cK_set (i := 5) (v := h 1157 5 - 1) V3 (o := 1157) (by decide) (by decide)
  have w57 : ∀ s, s ≠ 4 → s ≠ 5 → hset (hset h2 1157 4 (h 1504 (h 1157 5))) 1157 5 (h 1157 5 - 1) 1157 s = h 1157 s := fun s a b => by rw [hcell b, hcell a, xo 1157 (by decide) (by omega) (by omega), ro 1157 (by decide)]
  have w5 : hset (hset h2 1157 4 (h 1504 (h 1157 5))) 1157 5 (h 1157 5 - 1) 1157 5 = h 1157 5 - 1 := hcel1
  have w4 : hset (hset h2 1157 4 (h 1504 (h 1157 5))) 1157 5 (h 1157 5 - 1) 1157 4 = h 1504 (h 1157 5) := by rw [hcell (by decide), hcel1]
  have w12 : hset (hset h2 1157 4 (h 1504 (h 1157 5))) 1157 5 (h 1157 5 - 1) 1222 2 = bsF K ((q', x', E', k') :: l) + 1 := by rw [hs_ne (by decide), hs_ne (by decide), x2, r12, a0]; omega
  have wo : ∀ o, 1440 ≤ o → o ≤ 1926 → hset (hset h2 1157 4 (h 1504 (h 1157 5))) 1157 5 (h 1157 5 - 1) o = h o := fun o a b => by rw [hs_ne (by omega), hs_ne (by omega), xo o (by omega) (by omega) (by omega), ro o (by omega)]
  have wK : ∀ p, cK (hset (hset h2 1157 4 (h 1504 (h 1157 5))) 1157 5 (h 1157 5 - 1)) p = if p = bsF K ((q', x', E', k') :: l) then kc else cK h p := fun p => by
    rw [(k4 p).1, (k3 p).1, xK, rK, show h1 1222 2 - 0 = bsF K ((q', x', E', k') :: l) by omega]
  have wB : ∀ p, cB (hset (hset h2 1157 4 (h 1504 (h 1157 5))) 1157 5 (h 1157 5 - 1)) p = if p = bsF K ((q', x', E', k') :: l) then bc else cB h p := fun p => by
    rw [(k4 p).2, (k3 p).2, xB, rB, show h1 1222 2 - 0 = bsF K ((q', x', E', k') :: l) by omega]
  generalize hset (hset h2 1157 4 (h 1504 (h 1157 5))) 1157 5 (h 1157 5 - 1) = h4 at *
  -- the reference's
  rw [pu_rp] at eb
  generalize eR : hset (hset (hset hr 6603 41 (hr 6603 41 - 1)) 6603 36 (hr 10912 (hr 6603 41 - 1))) 6603 52 (hr 10848 (hr 6603 41 - 1)) = hr1 at *
  have R1 : RCG hr hr1 := by rw [← eR]; exact ((rg_set (.inr ⟨rfl, by decide⟩)).tr (rg_set (.inr ⟨rfl, by decide⟩))).tr (rg_set (.inr ⟨rfl, by decide⟩))
  have t41 : hr1 6603 41 = hr 6603 41 - 1 := by rw [← eR, hcell (by decide), hcell (by decide), hcel1]
  have t36 : hr1 6603 36 = ftF ((q', x', E', k') :: l) := by rw [← eR, hcell (by decide), hcel1, a1]
  have t52 : hr1 6603 52 = hr 10848 (hr 6603 41 - 1) := by rw [← eR, hcel1]
  have ts : ∀ s, s ≠ 36 → s ≠ 41 → s ≠ 52 → hr1 6603 s = hr 6603 s := fun s a b c => by rw [← eR, hcell c, hcell a, hcell b]
  have to : ∀ o, o ≠ 6603 → hr1 o = hr o := fun o a => by rw [← eR, hs_ne a, hs_ne a, hs_ne a]
  obtain ⟨R2', u36, us, uK', uB', uo⟩ := puR_2 (h := hr1) (n := 0) (k := kr) (b := br)
  rw [t36] at u36 uK' uB'
  generalize puR (tpR hr1 0) kr br = hr4 at *
  have R := R1.tr R2'
  have G' : AGR K h h4 hr hr4 ((q', x', E', k') :: l) := by
    refine AGR.stk V C R wo (fun o a b => (uo o (by omega) (by omega) (by omega)).trans (to o (by omega))) (fun p p0 p1 => ?_) (fun i i0 i1 => ?_)
    · rw [wK, wB, if_neg (by omega), if_neg (by omega)]
      exact ⟨rfl, rfl⟩
    · rw [uK', uB', to _ (by decide), to _ (by decide), if_neg (by omega), if_neg (by omega)]
      exact ⟨rfl, rfl⟩
  have A2 := ALF.ag O (Nat.le_refl n) _ G' A.2
  have ev0 : EVR h4 hr4 (bsF K l + K 7 q' + 2 * lps x') (ftF l) E' := A2.1.2.2.2.2.2.2.2.1
  have MV : VMS K B Br h4 hr4 n ((q', x', E' + 1, k') :: l) := by
    refine ⟨S.cg C R, ⟨by rw [List.length_cons]; omega, by rw [w5, D, List.length_cons]; omega, ?_, ?_, by rw [us 41 (by decide), t41, s3, List.length_cons]; omega, by rw [w57 8 (by decide) (by decide), s4]; rfl, by rw [us 44 (by decide), ts 44 (by decide) (by decide) (by decide), s5]; rfl, ?_, ?_, ?_, by rw [w57 20 (by decide) (by decide)]; exact s9', by rw [w57 19 (by decide) (by decide)]; exact s10, by rw [w57 18 (by decide) (by decide)]; exact s11⟩, ?_⟩
    · rw [w12, en]
      show _ = bsF K l + (K 7 q' + 2 * lps x' + (E' + 1))
      omega
    · rw [u36, ef]
      show _ = ftF l + (E' + 1)
      omega
    · rw [w57 17 (by decide) (by decide), w57 16 (by decide) (by decide), us 53 (by decide), us 54 (by decide), ts 53 (by decide) (by decide) (by decide), ts 54 (by decide) (by decide) (by decide)]
      exact s6
    · rw [w57 15 (by decide) (by decide), us 55 (by decide), ts 55 (by decide) (by decide) (by decide)]
      exact s7'
    · rw [us 56 (by decide), us 58 (by decide), us 59 (by decide), ts 56 (by decide) (by decide) (by decide), ts 58 (by decide) (by decide) (by decide), ts 59 (by decide) (by decide) (by decide)]
      exact s8'
    · refine A2.ev ⟨by omega, E36⟩ r2 (fun i i0 i1 => ?_)
      by_cases w : i = E'
      · rw [wK, wB, uK', uB', if_pos (by omega), if_pos (by omega), if_pos (by omega), if_pos (by omega), VVh.cg V C R]
        exact v
      · exact ev0 i i0 (by omega)
  refine R2_eq ea eb (IH n hn T _ _ _ ⟨MV, fun f m => ?_, ?_, ?_, T0, Tn⟩)
  · rcases List.mem_cons.mp m with u | u
    · subst u
      exact RK (q', x', E', k') (List.mem_cons_of_mem _ List.mem_cons_self)
    · exact RK f (List.mem_cons_of_mem _ (List.mem_cons_of_mem _ u))
  · show MEM K (VS K q') (CLS K) n _ _ x' (E' + 1) k'
    rw [w4, us 52 (by decide), t52]
    exact rt
  · rw [w57 16 (by decide) (by decide), w57 17 (by decide) (by decide), phF_c]
    show 400 * (h 1157 16 - h 1157 17) + (phF l + k') + 1 ≤ n
    omega
theorem giveE {e : Int × Int × Int × Int} (N : ENV K B Br) (IH : SIM g K B Br n0) (ih : GM g K B Br n0 l y) : GM g K B Br n0 l (e :: y) := by
  obtain ⟨a, ph, kx, ch⟩ := e
  intro q E k n T kc bc kr br h hr d1 d2 a4 s7 s8 s9 hn M v h5 RK bud T0 Tn
  have O := N.1
  have S := M.1
  have N' := S.env N
  have V := S.2.2.1
  have A := M.2.2
  have r1 := A.rk
  have rk := RK _ List.mem_cons_self
  have rl : ∀ f ∈ l, RKx f.2.2.2 f.2.1 := fun f m => RK f (List.mem_cons_of_mem _ m)
  have nx := ntX_0 y
  have gx := ngX_0 (K := K) y
  have za := ALF.sz O l A.2
  rw [phF_c] at bud
  have bud : 400 * (h 1157 16 - h 1157 17) + (phF l + k) ≤ n := bud
  have pl := phF_0 l A.2
  have st := M.2.1.2.2.2.2.2.1
  have vr := v.r
  by_cases w : ph = -1
  · subst w
    have s4 := M.2.1.2.2.2.1
    have s5 := M.2.1.2.2.2.2.1
    have s2 : bsF K l + K 7 q + 2 * lps ((a, -1, kx, ch) :: y) ≤ h 1222 2 := M.2.1.2.1
    rw [ntF_c] at s4
    rw [ngF_c] at s5
    have s4 : h 1157 8 = ntF l + ntX ((a, -1, kx, ch) :: y) := s4
    have s5 : hr 6603 44 = ngF K l + ngX K ((a, -1, kx, ch) :: y) := s5
    rw [ntX_c, if_pos rfl, Int.zero_add] at s4
    rw [ngX_c, if_pos (.inl rfl), Int.zero_add] at s5
    rw [lps_c, if_pos rfl] at s2
    have M2 := M.drop O r1 (CCG.id V) RCG.id (fun _ _ _ _ => rfl) s4 (by omega) (fun _ => ⟨rfl, rfl⟩) (fun _ _ _ _ => rfl) (fun _ _ => ⟨rfl, rfl, rfl⟩) s5 (fun _ _ _ _ => rfl) (fun _ _ _ => rfl)
    refine ih q 0 k n T kc bc kr br h hr d1 d2 a4 s7 s8 s9 hn M2 v h5 (fun f m => ?_) (by rw [phF_c]; show 400 * (h 1157 16 - h 1157 17) + (phF l + k) ≤ n; exact bud) T0 Tn
    rcases List.mem_cons.mp m with u | u
    · subst u; exact rk.tl
    · exact rl f u
  · obtain ⟨e8, t8, ⟨a0, p0, p2⟩, ⟨c1, c2, c3, c4⟩, TF, p5, gg, gn, b44, b41, bt⟩ := M.try_ O w
    have rk0 : kx + 12 - 4 * ph ≤ k := rk _ List.mem_cons_self w
    obtain ⟨⟨chb, kx0, rky⟩, hd, al⟩ := TF
    obtain ⟨hT, hl, hK⟩ := N'.cd
    have alf := N'.al a0
    have chb' : chB K 7 (h 1568 (h 1157 8 - 1)) := by rw [c1]; exact chb
    have c35 : h 1696 (h 1157 8 - 1) = h 1157 5 := by rw [c3, h5]
    by_cases ph2 : ph = 2
    · obtain ⟨g1, ⟨g2, g3, g4, g5⟩, -⟩ := gg (by omega)
      have C : CCG h (hset h 1157 8 (h 1157 8 - 1)) := cg_set V (by decide) (by decide) (fun _ => by decide)
      have R : RCG hr (hset hr 6603 44 (hr 6603 44 - 1)) := rg_set (.inr ⟨rfl, by decide⟩)
      have M2 := M.drop (h2 := hset h 1157 8 (h 1157 8 - 1)) (hr2 := hset hr 6603 44 (hr 6603 44 - 1)) O r1 C R (fun s _ _ w => hcell w) (by rw [hcel1]; omega) (by rw [hs_ne (by decide)]; omega) (cK_set V (by decide) (by decide)) (fun o p q r => hs_ne (by omega)) (fun i _ => by rw [hs_ne (by decide), hs_ne (by decide), hs_ne (by decide)]; exact ⟨rfl, rfl, rfl⟩) (by rw [hcel1]; omega) (fun s _ w _ => hcell w) (fun o p q => hs_ne (by omega))
      have z := ih q 0 k n T kc bc kr br _ _ d1 d2 (0, h 1157 8 - 1) (0, hr 6603 44 - 1) (0, a) (0, ph) hn M2 (by rw [VVh.cg V C R]; exact v) (by rw [hcell (by decide)]; exact h5) (fun f m => by
        rcases List.mem_cons.mp m with u | u
        · subst u; exact rk.tl
        · exact rl f u) (by rw [phF_c, hcell (by decide), hcell (by decide)]; show 400 * (h 1157 16 - h 1157 17) + (phF l + k) ≤ n; exact bud) T0 Tn
      rw [hcell (show (41 : Int) ≠ 44 by decide)] at z
      exact R2_eq (fun P => gv_pop (d := d1 + 1) t8 c35 (by rw [c2]; exact ph2)) (fun P => uw_popg (l6 := (9, 0)) N'.S (by omega) (by omega) g3 g2 a0 g5 (.inr ph2)) z
    · have p01 : ph = 0 ∨ ph = 1 := by omega
      have hs : ¬ h 1632 (h 1157 8 - 1) = 2 := by rw [c2]; exact ph2
      have z2 := alH_2 (h := h) (t := h 1157 8 - 1) (w := 8 + kc) (b := bc) (pc := endF K 7 ch) (p := h 1760 (h 1157 8 - 1)) (j := h 1157 5) V (by rw [c4]; exact bt)
      rw [hset_id] at z2
      obtain ⟨C, x1, x2, x3, x4, x5, x6, x7, x8, x9, x10⟩ := z2
      have ea : ∀ P, G fz1 (d1 + 2) 214 0 [(3, 1157), (0, kc), (1, bc), (9, 0), a4] [] h (fun _ h1 => LC g T h1 P) = LC g T (alH (cutH h (h 1760 (h 1157 8 - 1))) (h 1157 8 - 1) (8 + kc) bc (endF K 7 ch)) P := fun P => by
        rw [gv_on hT hl hK (by omega) t8 chb' c35 hs, c1]
      have e1 : h 1157 8 - 1 = ntF l + ntX y := by omega
      generalize alH (cutH h (h 1760 (h 1157 8 - 1))) (h 1157 8 - 1) (8 + kc) bc (endF K 7 ch) = h2 at *
      by_cases kA : K 5 a = -9
      · have fin24 : K 0 (endF K 7 ch) = 24 := al.elim (fun u => u.2) (fun u => absurd kA u.1)
        have S2 : STA B Br h2 hr := S.cg C RCG.id
        have N2 := S2.env N
        obtain ⟨hT2, hl2, hK2⟩ := N2.cd
        have V2 := C.V V
        have ck : cdT h2 (h2 1157 4) = 24 := by rw [hK2, x2]; exact fin24
        have pcr := cd_pos hl2 (by rw [ck]; decide)
        have s10 := M.2.1.2.2.2.2.2.2.2.2.2
        have n2' : 2 ≤ n := by
          rcases p01 with u | u <;> omega
        have CT2 : CTN h2 T := ⟨⟨T0, by omega⟩, by rw [x3 19 (by decide) (by decide)]; exact s10.1, hT2, hl2, pcr.1, by omega⟩
        have f18 : h2 1157 18 = 0 := by rw [x3 18 (by decide) (by decide)]; exact s10.2
        have h28 : h2 1157 8 = h 1157 8 := x3 8 (by decide) (by decide)
        have C3a : CCG h2 (hset h2 1157 4 (h2 1157 4 + 1)) := cg_set V2 (by decide) (by decide) (fun _ => by decide)
        have V3a := C3a.V V2
        have k3a := cK_set (i := 4) (v := h2 1157 4 + 1) V2 (o := 1157) (by decide) (by decide)
        have C3 : CCG h2 (hset (hset h2 1157 4 (h2 1157 4 + 1)) 1157 8 (h2 1157 8 - 1)) := C3a.tr (cg_set V3a (by decide) (by decide) (fun _ => by decide))
        have k3b := cK_set (i := 8) (v := h2 1157 8 - 1) V3a (o := 1157) (by decide) (by decide)
        have eb : ∀ P, LC g T h2 P = G fz1 (g.1.1 + 5) 214 0 [(3, 1157), (0, kc), (1, bc), (9, 0), (9, 0)] [] (hset (hset h2 1157 4 (h2 1157 4 + 1)) 1157 8 (h2 1157 8 - 1)) (fun _ h1 => LC g (T + 1) h1 P) := fun P => by
          have := tn_24 (d := g.1.1) (l1 := g.1.2.1) (l2 := g.1.2.2.1) (l3 := g.1.2.2.2.1) (l4 := g.1.2.2.2.2.1) (l5 := g.1.2.2.2.2.2.1) (l6 := g.1.2.2.2.2.2.2.1) (l7 := g.1.2.2.2.2.2.2.2) (Q := P) CT2 f18 ck
          refine this.trans ?_
          have e8' : hset h2 1157 4 (h2 1157 4 + 1) 1157 8 = h2 1157 8 := hcell (by decide)
          have e24 : hset h2 1157 4 (h2 1157 4 + 1) 1824 = h2 1824 := hs_ne (by decide)
          have e89 : hset h2 1157 4 (h2 1157 4 + 1) 1889 = h2 1889 := hs_ne (by decide)
          rw [s223e (d := g.1.1 + 5) (by rw [e8']; omega) (by rw [e8', e24, h28, x9]; omega), e8', e24, e89, h28, x9, x10, show 8 + kc - 8 = kc by omega, s214]
          rfl
        generalize e3 : hset (hset h2 1157 4 (h2 1157 4 + 1)) 1157 8 (h2 1157 8 - 1) = h3 at *
        have k3 : ∀ s, s ≠ 4 → s ≠ 8 → h3 1157 s = h2 1157 s := fun s u w => by rw [← e3, hcell w, hcell u]
        have k38 : h3 1157 8 = h2 1157 8 - 1 := by rw [← e3, hcel1]
        have k3o : ∀ o, o ≠ 1157 → h3 o = h2 o := fun o u => by rw [← e3, hs_ne u, hs_ne u]
        have C4 : CCG h h3 := C.tr C3
        have cc4 : ∀ p, cK h3 p = cK h p ∧ cB h3 p = cB h p := fun p => ⟨((k3b p).1.trans (k3a p).1).trans (x5 p).1, ((k3b p).2.trans (k3a p).2).trans (x5 p).2⟩
        have fin : ∀ hr2, RCG hr hr2 → hr2 6603 44 = ngF K l + ngX K y → (∀ s, s ≠ 36 → s ≠ 44 → s ≠ 52 → hr2 6603 s = hr 6603 s) → (∀ o, 10464 ≤ o → o ≤ 11487 → hr2 o = hr o) → ∀ s7 s8 s9, R2 (fun P => G fz1 (g.1.1 + 5) 214 0 [(3, 1157), (0, kc), (1, bc), (9, 0), (9, 0)] [] h3 (fun _ h1 => LC g (T + 1) h1 P)) (fun P => G fz1 (d2 + 1) 388 1 [(3, 6603), (0, 0), (0, 0), (0, kr), (1, br), (9, 0), (0, hr 6603 41 - 1), s7, s8, s9] [] hr2 (fun _ h1 => LRf g h1 P)) (POST B Br) := fun hr2 R r44 rs ro s7 s8 s9 => by
          have M2 := M.drop (h2 := h3) (hr2 := hr2) (k2 := max kx 1) O (by omega) C4 R (fun s u v z => by rw [k3 s u z, x3 s u v]) (by rw [k38, h28]; exact e1) (by rw [k3o 1222 (by decide), x4, c4]; omega) cc4 (fun o u v z => by rw [k3o o (by omega), x6 o u v z]) (fun i u => by
            have := x7 i (by omega)
            rw [k3o 1632 (by decide), k3o 1824 (by decide), k3o 1889 (by decide)]
            exact this) r44 rs ro
          have z := ih q 0 (max kx 1) (n - 1) (T + 1) kc bc kr br h3 hr2 (g.1.1 + 3) d2 (9, 0) s7 s8 s9 (by omega) (M2.le O (by omega)) (by rw [VVh.cg V C4 R]; exact v) (by rw [k3 5 (by decide) (by decide), x1]; exact h5) (fun f m => by
            rcases List.mem_cons.mp m with u | u
            · subst u; exact rky.le (by show kx ≤ max kx 1; omega)
            · exact rl f u) (by
            rw [phF_c, k3 16 (by decide) (by decide), k3 17 (by decide) (by decide), x3 16 (by decide) (by decide), x3 17 (by decide) (by decide)]
            show 400 * (h 1157 16 - h 1157 17) + (phF l + max kx 1) ≤ ((n - 1 : Nat) : Int)
            rcases p01 with u | u <;> omega) (by omega) (by omega)
          rw [rs 41 (by decide) (by decide) (by decide)] at z
          exact z
        have ed : ∀ P, G fz1 (d1 + 2) 214 0 [(3, 1157), (0, kc), (1, bc), (9, 0), a4] [] h (fun _ h1 => LC g T h1 P) = G fz1 (g.1.1 + 5) 214 0 [(3, 1157), (0, kc), (1, bc), (9, 0), (9, 0)] [] h3 (fun _ h1 => LC g (T + 1) h1 P) := fun P => (ea P).trans (eb P)
        by_cases p1 : ph = 1
        · exact R2_eq ed (fun P => rfl) (fin hr RCG.id (gn ⟨p1, kA⟩) (fun _ _ _ _ => rfl) (fun _ _ _ => rfl) s7 s8 s9)
        · have p0 : ph = 0 := p01.resolve_right p1
          obtain ⟨g1, ⟨g2, g3, g4, g5⟩, -⟩ := gg (fun u => p1 u.1)
          refine R2_eq ed (fun P => uw_popg (l6 := (9, 0)) N'.S (by omega) (by omega) g3 g2 a0 g5 (.inl ⟨p01, by rw [alf]; exact kA⟩)) (fin _ (rg_set (.inr ⟨rfl, by decide⟩)) (by rw [hcel1]; omega) (fun s _ u _ => hcell u) (fun o u v => hs_ne (by omega)) _ _ _)
      · obtain ⟨g1, ⟨g2, g3, g4, g5⟩, -⟩ := gg (fun u => kA u.2)
        obtain ⟨R, y1, y2, y3, y4, y5, y6, y7, y8, y9⟩ := alR_2 (h := hr) (tp := hr 11104 (hr 6603 44 - 1)) (g := hr 6603 44 - 1) (nx := -1) (k := kr) (b := br) (pc := hr (hr 6603 9 + 1300) a)
        have e2 : hr 6603 44 - 1 = ngF K l + ngX K y := by omega
        have al1 := al.resolve_left (fun u => kA u.1)
        have eb : ∀ P, G fz1 (d2 + 1) 388 1 [(3, 6603), (0, 0), (0, 0), (0, kr), (1, br), (9, 0), (0, hr 6603 41 - 1), s7, s8, s9] [] hr (fun _ h1 => LRf g h1 P) = LRf g (alR hr (hr 11104 (hr 6603 44 - 1)) (hr 6603 44 - 1) (-1) kr br (hr (hr 6603 9 + 1300) a)) P := fun P => uw_alg (l6 := (9, 0)) N'.S (by omega) (by omega) g3 g2 a0 g5 p01 (by rw [alf]; exact kA)
        generalize alR hr (hr 11104 (hr 6603 44 - 1)) (hr 6603 44 - 1) (-1) kr br (hr (hr 6603 9 + 1300) a) = hr2 at *
        have MV := M.rph (h2 := h2) (hr2 := hr2) (k2 := kx + 4) O p01 (fun u => kA u.2) (.inr ⟨rfl, kA⟩) (by rcases p01 with u | u <;> omega) C R (by rw [x1]; exact h5) x3 (by rw [x4]; exact c4) x5 x6 (fun i w => x7 i (by omega)) (by rw [← e1]; exact x8) (by rw [y1]; exact g4) (by
          rw [y3 44 (by decide) (by decide), ngX_c, if_neg (by show ¬ ((2 : Int) = -1 ∨ (2 : Int) = 1 ∧ K 5 a = -9); omega)]
          omega) (fun s u _ w => y3 s u w) (fun o p q => y4 o (by omega) (by omega)) (fun i w => y5 i (by omega)) (by rw [← e2]; exact y6) (fun _ => .inr ⟨by rw [← e1, x9]; omega, by rw [← e2, y7], by rw [← e1, ← e2, x9, x10, y8, y9, VVh.cg V C R, show 8 + kc - 8 = kc by omega]; exact v⟩)
        refine R2_eq ea eb (IH n hn T _ _ _ ⟨MV, fun f m => ?_, ?_, ?_, T0, Tn⟩)
        · rcases List.mem_cons.mp m with u | u
          · subst u
            intro e' m' w'
            rcases List.mem_cons.mp m' with u | u
            · subst u; show kx + 12 - 4 * 2 ≤ kx + 4; omega
            · exact (rky.le (by show kx ≤ kx + 4; omega)) e' u w'
          · exact rl f u
        · show MEM K (VS K q) (CLS K) n _ _ ((a, 2, kx, ch) :: y) 0 (kx + 4)
          rw [x2, y2, alf]
          exact al1.2
        · rw [x3 16 (by decide) (by decide), x3 17 (by decide) (by decide), phF_c]
          show 400 * (h 1157 16 - h 1157 17) + (phF l + (kx + 4)) + 1 ≤ n
          rcases p01 with u | u <;> omega
theorem giveM (N : ENV K B Br) (IH : SIM g K B Br n0) (l : List FRT) : ∀ (x : CX), GM g K B Br n0 l x := by
  intro x
  induction x with
  | nil =>
    cases l with
    | nil => exact give0 N IH
    | cons f l => exact giveF N IH
  | cons e y ih => exact giveE N IH ih
end VM
