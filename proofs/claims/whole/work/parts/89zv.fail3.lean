/-! THE PURE SIDE, 118: the two machines alike: a failure, its proof: printed by wip/tools/gen89zv.py -/
section VM
variable {K B Br h hr h2 hr2 : HV} {n n2 n0 : Nat} {q E k k2 : Int} {x y : CX} {l L L2 : List FRT} {g : CFG}
theorem ALF.rk (A : ALF K h hr n ((q, x, E, k) :: l)) : 1 ≤ k ∧ k ≤ 399 := A.1.2.2.2.2.2.1
theorem fin_n {T f : Int} (M : STA B Br h hr) (hs : h 1157 17 = hr 6603 53 ∧ 0 ≤ h 1157 17 ∧ h 1157 17 ≤ 3000) (hf : h 1157 15 = hr 6603 55 ∧ 0 ≤ h 1157 15 ∧ h 1157 15 ≤ 10000) (hn : f < 0) (h8 : hr 6603 58 = 0 ∧ hr 6603 59 = 0) (c : Int) :
    R2 (LC g T (hset (hset h 1157 19 f) 1157 20 0)) (LRf g (hset (hset (spR (hset hr 6603 41 c) f) 6603 58 0) 6603 59 0)) (POST B Br) := by
  have V := M.2.2.1
  have C1 : CCG h (hset h 1157 19 f) := cg_set V (by decide) (by decide) (fun _ => by decide)
  have C : CCG h (hset (hset h 1157 19 f) 1157 20 0) := C1.tr (cg_set (C1.V V) (by decide) (by decide) (fun _ => by decide))
  have R : RCG hr (hset (hset (spR (hset hr 6603 41 c) f) 6603 58 0) 6603 59 0) := by
    unfold spR
    exact ((((rg_set (.inr ⟨rfl, by decide⟩)).tr (rg_set (.inr ⟨rfl, by decide⟩))).tr (rg_set (.inr ⟨rfl, by decide⟩))).tr (rg_set (.inr ⟨rfl, by decide⟩))).tr (rg_set (.inr ⟨rfl, by decide⟩))
  have c19 : hset (hset h 1157 19 f) 1157 20 0 1157 19 = f := by rw [hcell (by decide), hcel1]
  have c56 : hset (hset (spR (hset hr 6603 41 c) f) 6603 58 0) 6603 59 0 6603 56 = 0 := by unfold spR; rw [hcell (by decide), hcell (by decide), hcell (by decide), hcel1]
  have c57 : hset (hset (spR (hset hr 6603 41 c) f) 6603 58 0) 6603 59 0 6603 57 = f := by unfold spR; rw [hcell (by decide), hcell (by decide), hcel1]
  refine R2_eq (a' := fun P => P f _) (b' := fun P => P f _) (fun P => by rw [LC_end (by rw [c19]; omega), c19]) (fun P => by rw [LRf_end c56, c57]) (R2_fin ⟨rfl, c57, M.cg C R, ?_, ?_, .inl ⟨hn, hcel1, ?_, hcel1⟩⟩)
  · unfold spR
    rw [hcell (by decide), hcell (by decide), hcell (by decide), hcell (by decide), hcell (by decide), hcell (by decide), hcell (by decide)]
    exact hs
  · unfold spR
    rw [hcell (by decide), hcell (by decide), hcell (by decide), hcell (by decide), hcell (by decide), hcell (by decide), hcell (by decide)]
    exact hf
  · rw [hcell (by decide), hcel1]
theorem gx_j {P : PT} {j lo ft T G : Int} : ∀ x : CX, CXR K P h hr j lo ft T G x → (1 ≤ ngX K x → hr 11040 (G + ngX K x - 1) = j) ∧ (1 ≤ ntX x → h 1696 (T + ntX x - 1) = j)
  | [], _ => ⟨fun w => absurd w (by unfold ngX; decide), fun w => absurd w (by unfold ntX; decide)⟩
  | e :: y, ⟨C, _, R⟩ => by
    have ih := gx_j y C
    rw [ngX_c, ntX_c]
    refine ⟨fun w => ?_, fun w => ?_⟩
    · by_cases c : e.2.1 = -1 ∨ e.2.1 = 1 ∧ K 5 e.1 = -9
      · rw [if_pos c] at w ⊢
        rw [Int.zero_add] at w ⊢
        exact ih.1 w
      · rw [if_neg c]
        have z := ((R (fun v => c (.inl v))).2.2.2.2 (fun v => c (.inr v))).1.2.1
        rw [show G + (1 + ngX K y) - 1 = G + ngX K y by omega]
        exact z
    · by_cases c : e.2.1 = -1
      · rw [if_pos c] at w ⊢
        rw [Int.zero_add] at w ⊢
        exact ih.2 w
      · rw [if_neg c]
        have z := (R c).2.1.2.2.1
        rw [show T + (1 + ntX y) - 1 = T + ntX y by omega]
        exact z
theorem gfr_j (O : KOK K) : ∀ L : List FRT, ALF K h hr n L → (1 ≤ ngF K L → hr 11040 (ngF K L - 1) < L.length) ∧ (1 ≤ ntF L → h 1696 (ntF L - 1) < L.length)
  | [], _ => ⟨fun w => absurd w (by unfold ngF; decide), fun w => absurd w (by unfold ntF; decide)⟩
  | f :: l, ⟨F, A⟩ => by
    have ih := gfr_j O l A
    have c := gx_j f.2.1 F.2.2.2.2.2.2.2.2.1
    have g0 := ngX_0 (K := K) f.2.1
    have za := ALF.sz O l A
    rw [ngF_c, ntF_c, List.length_cons]
    refine ⟨fun w => ?_, fun w => ?_⟩
    · by_cases q : 1 ≤ ngX K f.2.1
      · rw [c.1 q]; omega
      · have := ih.1 (by omega)
        rw [show ngF K l + ngX K f.2.1 - 1 = ngF K l - 1 by omega]
        omega
    · by_cases q : 1 ≤ ntX f.2.1
      · rw [c.2 q]; omega
      · have n0 := ntX_0 f.2.1
        have := ih.2 (by omega)
        rw [show ntF l + ntX f.2.1 - 1 = ntF l - 1 by omega]
        omega
theorem fail0 (N : ENV K B Br) (IH : SIM g K B Br n0) : FM g K B Br n0 [] [] := by
  intro q E k n T f h hr d2 a2 a3 s7 s8 s9 hn M RK bud T0 Tn hf
  obtain ⟨S, ⟨s1, s2, s3, s4, s5, s6, s7', s8', s9', s10, s11⟩, A⟩ := M
  have e8 : h 1157 8 = 0 := s4
  have e44 : hr 6603 44 = 0 := s5
  have e41 : hr 6603 41 = 1 := s3
  have z := fin_n (g := g) (T := T) (f := -10 - f) (c := 0) S ⟨s6.1, s6.2.2.1, by omega⟩ s7' (by omega) s8'.2
  exact R2_eq (fun P => ps_end e8 (by omega)) (fun P => uw_endf (l6 := (9, 0)) (by omega) (by omega) (.inl e44) (by omega) e41) z
theorem failF {f0 : FRT} (N : ENV K B Br) (IH : SIM g K B Br n0) (ih : FM g K B Br n0 l f0.2.1) : FM g K B Br n0 (f0 :: l) [] := by
  intro q E k n T f h hr d2 a2 a3 s7 s8 s9 hn M RK bud T0 Tn hf
  have O := N.1
  have s := M.2.1
  obtain ⟨s1, s2, s3, s4, s5, s6, s7', s8', s9', s10, s11⟩ := s
  have A := M.2.2
  have za := ALF.sz O _ A.2
  rw [List.length_cons] at za
  rw [List.length_cons, List.length_cons] at s1 s3
  have r1 := A.rk
  rw [phF_c] at bud
  have bud : 400 * (h 1157 16 - h 1157 17) + (phF (f0 :: l) + k) ≤ n + 2 := bud
  generalize e2 : hset (hset (hset hr 6603 41 (hr 6603 41 - 1)) 6603 36 (hr 10912 (hr 6603 41 - 1))) 6603 52 (hr 10848 (hr 6603 41 - 1)) = hr2
  have R : RCG hr hr2 := by rw [← e2]; exact ((rg_set (.inr ⟨rfl, by decide⟩)).tr (rg_set (.inr ⟨rfl, by decide⟩))).tr (rg_set (.inr ⟨rfl, by decide⟩))
  have r41 : hr2 6603 41 = hr 6603 41 - 1 := by rw [← e2, hcell (by decide), hcell (by decide), hcel1]
  have rs : ∀ s, s ≠ 36 → s ≠ 41 → s ≠ 52 → hr2 6603 s = hr 6603 s := fun s a b c => by rw [← e2, hcell c, hcell a, hcell b]
  have ro : ∀ o, 10464 ≤ o → o ≤ 11487 → hr2 o = hr o := fun o a b => by rw [← e2, hs_ne (by omega), hs_ne (by omega), hs_ne (by omega)]
  have M2 := M.fpop O (by rw [List.length_cons]; omega) ⟨rfl, rfl⟩ r41 R rs ro
  have e44 : hr 6603 44 = ngF K (f0 :: l) := by
    rw [s5, ngF_c]
    show _ + ngX K [] = _
    unfold ngX
    omega
  have gn : hr 6603 44 = 0 ∨ ¬ hr 11040 (hr 6603 44 - 1) = hr 6603 41 - 1 := by
    by_cases w : hr 6603 44 = 0
    · exact .inl w
    · have za4 := za.2.2.2
      have := (gfr_j O (f0 :: l) A.2).1 (by omega)
      rw [List.length_cons] at this
      refine .inr (fun v => ?_)
      rw [e44] at v
      omega
  have z := ih f0.1 f0.2.2.1 f0.2.2.2 n T f h hr2 d2 a2 a3 s7 s8 s9 hn M2 (fun f m => RK f (List.mem_cons_of_mem _ m)) (by show 400 * (h 1157 16 - h 1157 17) + phF (f0 :: l) ≤ n + 2; omega) T0 Tn hf
  refine R2_eq (fun P => rfl) (fun P => ?_) z
  rw [uw_frm (l6 := (9, 0)) (by omega) (by omega) gn (by omega), e2, uw_01 (by rw [rs 56 (by decide) (by decide) (by decide)]; exact s8'.1) (by rw [r41]; omega)]
theorem failE {e : Int × Int × Int × Int} (N : ENV K B Br) (IH : SIM g K B Br n0) (ih : FM g K B Br n0 l y) : FM g K B Br n0 l (e :: y) := by
  obtain ⟨a, ph, kx, ch⟩ := e
  intro q E k n T f h hr d2 a2 a3 s7 s8 s9 hn M RK bud T0 Tn hf
  have O := N.1
  have S := M.1
  have N' := S.env N
  have V := S.2.2.1
  have A := M.2.2
  have r1 := A.rk
  have rk := RK _ List.mem_cons_self
  have rl : ∀ f ∈ l, RKx f.2.2.2 f.2.1 := fun f m => RK f (List.mem_cons_of_mem _ m)
  have nx := ntX_0 y
  have gx := ngX_0 (K := K) y
  have za := ALF.sz O l A.2
  rw [phF_c] at bud
  have bud : 400 * (h 1157 16 - h 1157 17) + (phF l + k) ≤ n + 2 := bud
  have pl := phF_0 l A.2
  have st := M.2.1.2.2.2.2.2.1
  by_cases w : ph = -1
  · -- a loop
    subst w
    have s4 := M.2.1.2.2.2.1
    have s5 := M.2.1.2.2.2.2.1
    have s2 : bsF K l + K 7 q + 2 * lps ((a, -1, kx, ch) :: y) ≤ h 1222 2 := M.2.1.2.1
    rw [ntF_c] at s4
    rw [ngF_c] at s5
    have s4 : h 1157 8 = ntF l + ntX ((a, -1, kx, ch) :: y) := s4
    have s5 : hr 6603 44 = ngF K l + ngX K ((a, -1, kx, ch) :: y) := s5
    rw [ntX_c, if_pos rfl, Int.zero_add] at s4
    rw [ngX_c, if_pos (.inl rfl), Int.zero_add] at s5
    rw [lps_c, if_pos rfl] at s2
    have M2 := M.drop O r1 (CCG.id V) RCG.id (fun _ _ _ _ => rfl) s4 (by omega) (fun _ => ⟨rfl, rfl⟩) (fun _ _ _ _ => rfl) (fun _ _ => ⟨rfl, rfl, rfl⟩) s5 (fun _ _ _ _ => rfl) (fun _ _ _ => rfl)
    refine ih q 0 k n T f h hr d2 a2 a3 s7 s8 s9 hn M2 (fun f m => ?_) (by rw [phF_c]; show 400 * (h 1157 16 - h 1157 17) + (phF l + k) ≤ n + 2; exact bud) T0 Tn hf
    rcases List.mem_cons.mp m with v | v
    · subst v; exact rk.tl
    · exact rl f v
  · obtain ⟨e8, t8, ⟨a0, p0, p2⟩, ⟨c1, c2, c3, c4⟩, TF, p5, gg, gn, b44, b41, bt⟩ := M.try_ O w
    have rk0 : kx + 12 - 4 * ph ≤ k := rk _ List.mem_cons_self w
    obtain ⟨⟨chb, kx0, rky⟩, hd, al⟩ := TF
    obtain ⟨hT, hl, hK⟩ := N'.cd
    have onf := N'.on (i := 8 * a + f) (by omega)
    have alf := N'.al a0
    have chb' : chB K 7 (h 1568 (h 1157 8 - 1)) := by rw [c1]; exact chb
    by_cases ph2 : ph = 2
    · -- always, under way
      obtain ⟨g1, ⟨g2, g3, g4, g5⟩, -⟩ := gg (by omega)
      have C : CCG h (hset h 1157 8 (h 1157 8 - 1)) := cg_set V (by decide) (by decide) (fun _ => by decide)
      have R : RCG hr (hset hr 6603 44 (hr 6603 44 - 1)) := rg_set (.inr ⟨rfl, by decide⟩)
      have M2 := M.drop (h2 := hset h 1157 8 (h 1157 8 - 1)) (hr2 := hset hr 6603 44 (hr 6603 44 - 1)) O r1 C R (fun s _ _ w => hcell w) (by rw [hcel1]; omega) (by rw [hs_ne (by decide)]; omega) (cK_set V (by decide) (by decide)) (fun o p q r => hs_ne (by omega)) (fun i _ => by rw [hs_ne (by decide), hs_ne (by decide), hs_ne (by decide)]; exact ⟨rfl, rfl, rfl⟩) (by rw [hcel1]; omega) (fun s _ w _ => hcell w) (fun o p q => hs_ne (by omega))
      have z := ih q 0 k n T f _ _ d2 (0, h 1157 8 - 1) a3 (0, hr 6603 44 - 1) (0, a) (0, ph) hn M2 (fun f m => by
        rcases List.mem_cons.mp m with v | v
        · subst v; exact rk.tl
        · exact rl f v) (by rw [phF_c, hcell (by decide), hcell (by decide)]; show 400 * (h 1157 16 - h 1157 17) + (phF l + k) ≤ n + 2; exact bud) T0 Tn hf
      rw [hcell (show (41 : Int) ≠ 44 by decide)] at z
      exact R2_eq (fun P => ps_pop t8 (by rw [c2]; exact ph2)) (fun P => uw_popf (l6 := (9, 0)) N'.S (by omega) (by omega) g3 g2 a0 g5 (by omega) (.inr (.inr ph2))) z
    · have p01 : ph = 0 ∨ ph = 1 := by omega
      by_cases on : ph = 0 ∧ 0 ≤ blkF K f 7 ch
      · -- it is caught
        obtain ⟨on0, on1⟩ := on
        subst on0
        obtain ⟨g1, ⟨g2, g3, g4, g5⟩, -⟩ := gg (by omega)
        have hd1 := (hd f hf.1 hf.2).resolve_left (fun v => by omega)
        obtain ⟨C, x1, x2, x3, x4, x5, x6, x7, x8⟩ := onH_2 (h := h) (t := h 1157 8 - 1) (b := blkF K f 7 ch) (p := h 1760 (h 1157 8 - 1)) (j := h 1696 (h 1157 8 - 1)) V (by rw [c4]; exact bt)
        have hb := fun (gq : Int) => onR_2 (h := hr) (tp := hr 11104 (hr 6603 44 - 1)) (on := hr (hr 6603 9 + 1236) (8 * a + f)) (g := hr 6603 44 - 1) (gg := gq)
        have fin : ∀ gq, gq = ngF K l + ngX K ((a, 1, kx, ch) :: y) → R2 (LC g T (onH h (h 1696 (h 1157 8 - 1)) (h 1760 (h 1157 8 - 1)) (h 1157 8 - 1) (blkF K f 7 ch))) (LRf g (onR hr (hr 11104 (hr 6603 44 - 1)) (hr (hr 6603 9 + 1236) (8 * a + f)) (hr 6603 44 - 1) gq)) (POST B Br) := fun gq hgq => by
          obtain ⟨R, y1, y2, y3, y4, y5, y6, y7⟩ := hb gq
          have e1 : h 1157 8 - 1 = ntF l + ntX y := by omega
          have e2 : hr 6603 44 - 1 = ngF K l + ngX K y := by omega
          have MV := M.rph (k2 := kx + 8) O p01 (by omega) (.inl rfl) (by omega) C R (by rw [x1]; exact c3) x3 (by rw [x4]; exact c4) x5 x6 (fun i w => x7 i (by omega)) (by rw [← e1]; exact x8) (by rw [y1]; exact g4) (by rw [y2]; exact hgq) y4 (fun o p q => y5 o (by omega) (by omega)) (fun i w => by rw [y6 i (by omega), y5 11232 (by decide) (by decide), y5 11296 (by decide) (by decide), y5 11361 (by decide) (by decide)]; exact ⟨rfl, rfl, rfl, rfl⟩) (by rw [← e2]; exact y7) (fun w => absurd w (by decide))
          refine IH n hn T _ _ _ ⟨MV, fun f m => ?_, ?_, ?_, T0, Tn⟩
          · rcases List.mem_cons.mp m with v | v
            · subst v
              intro e' m' w'
              rcases List.mem_cons.mp m' with v | v
              · subst v; show kx + 12 - 4 * 1 ≤ kx + 8; omega
              · exact (rky.le (by show kx ≤ kx + 8; omega)) e' v w'
            · exact rl f v
          · show MEM K (VS K q) (CLS K) n _ _ ((a, 1, kx, ch) :: y) 0 (kx + 8)
            rw [x2, y3, onf]
            exact hd1.2.2
          · rw [x3 16 (by decide) (by decide), x3 17 (by decide) (by decide), phF_c]
            show 400 * (h 1157 16 - h 1157 17) + (phF l + (kx + 8)) + 1 ≤ n
            omega
        have ea : ∀ P, G fz1 (g.1.1 + 7) 231 1 [(3, 1157), (0, f), a2, a3] [] h (fun _ h1 => LC g T h1 P) = LC g T (onH h (h 1696 (h 1157 8 - 1)) (h 1760 (h 1157 8 - 1)) (h 1157 8 - 1) (blkF K f 7 ch)) P := fun P => ps_on (d := g.1.1 + 5) hT hl hK t8 chb' c2 (by rw [c1]) on1
        by_cases kA : K 5 a = -9
        · refine R2_eq ea (fun P => uw_onp (l6 := (9, 0)) N'.S (by omega) (by omega) g3 g2 a0 g5 (by omega) rfl (by rw [onf]; exact hd1.2.1) (by rw [alf]; exact kA)) (fin (hr 6603 44 - 1) ?_)
          rw [ngX_c, if_pos (.inr ⟨rfl, kA⟩)]
          omega
        · refine R2_eq ea (fun P => uw_onk (l6 := (9, 0)) N'.S (by omega) (by omega) g3 g2 a0 g5 (by omega) rfl (by rw [onf]; exact hd1.2.1) (by rw [alf]; exact kA)) (fin (hr 6603 44) ?_)
          rw [ngX_c, if_neg (by show ¬ ((1 : Int) = -1 ∨ (1 : Int) = 1 ∧ K 5 a = -9); omega)]
          omega
      · -- it goes on
        have no : ph = 0 → blkF K f 7 ch = -1 ∧ K 4 (8 * a + f) = -9 := fun v => (hd f hf.1 hf.2).resolve_right (fun u => on ⟨v, u.1⟩)
        have hs : (h 1632 (h 1157 8 - 1) = 0 ∧ blkF K f 7 (h 1568 (h 1157 8 - 1)) = -1) ∨ h 1632 (h 1157 8 - 1) = 1 := by
          rw [c2, c1]
          exact p01.imp (fun v => ⟨v, (no v).1⟩) id
        obtain ⟨C, x1, x2, x3, x4, x5, x6, x7, x8, x9, x10⟩ := alH_2 (h := h) (t := h 1157 8 - 1) (w := f) (b := 0) (pc := endF K 7 ch) (p := h 1760 (h 1157 8 - 1)) (j := h 1696 (h 1157 8 - 1)) V (by rw [c4]; exact bt)
        have ea : ∀ P, G fz1 (g.1.1 + 7) 231 1 [(3, 1157), (0, f), a2, a3] [] h (fun _ h1 => LC g T h1 P) = LC g T (alH (cutH (hset h 1157 5 (h 1696 (h 1157 8 - 1))) (h 1760 (h 1157 8 - 1))) (h 1157 8 - 1) f 0 (endF K 7 ch)) P := fun P => by
          rw [ps_alw (d := g.1.1 + 5) hT hl hK t8 (by omega) chb' hs, c1]
        have e1 : h 1157 8 - 1 = ntF l + ntX y := by omega
        generalize alH (cutH (hset h 1157 5 (h 1696 (h 1157 8 - 1))) (h 1760 (h 1157 8 - 1))) (h 1157 8 - 1) f 0 (endF K 7 ch) = h2 at *
        by_cases kA : K 5 a = -9
        · -- there is no always
          have fin24 : K 0 (endF K 7 ch) = 24 := al.elim (fun v => v.2) (fun v => absurd kA v.1)
          have S2 : STA B Br h2 hr := S.cg C RCG.id
          have N2 := S2.env N
          obtain ⟨hT2, hl2, hK2⟩ := N2.cd
          have V2 := C.V V
          have ck : cdT h2 (h2 1157 4) = 24 := by rw [hK2, x2]; exact fin24
          have pcr := cd_pos hl2 (by rw [ck]; decide)
          have s10 := M.2.1.2.2.2.2.2.2.2.2.2
          have n2' : 2 ≤ n := by
            rcases p01 with v | v <;> omega
          have CT2 : CTN h2 T := ⟨⟨T0, by omega⟩, by rw [x3 19 (by decide) (by decide)]; exact s10.1, hT2, hl2, pcr.1, by omega⟩
          have f18 : h2 1157 18 = 0 := by rw [x3 18 (by decide) (by decide)]; exact s10.2
          have h28 : h2 1157 8 = h 1157 8 := x3 8 (by decide) (by decide)
          generalize e3 : hset (hset (hset h2 1157 4 (h2 1157 4 + 1)) 1157 8 (h2 1157 8 - 1)) 1157 18 f = h3
          have k3 : ∀ s, s ≠ 4 → s ≠ 8 → s ≠ 18 → h3 1157 s = h2 1157 s := fun s u v z => by rw [← e3, hcell z, hcell v, hcell u]
          have k38 : h3 1157 8 = h2 1157 8 - 1 := by rw [← e3, hcell (by decide), hcel1]
          have k318 : h3 1157 18 = f := by rw [← e3, hcel1]
          have k3o : ∀ o, o ≠ 1157 → h3 o = h2 o := fun o u => by rw [← e3, hs_ne u, hs_ne u, hs_ne u]
          have C3a : CCG h2 (hset h2 1157 4 (h2 1157 4 + 1)) := cg_set V2 (by decide) (by decide) (fun _ => by decide)
          have C3b : CCG h2 (hset (hset h2 1157 4 (h2 1157 4 + 1)) 1157 8 (h2 1157 8 - 1)) := C3a.tr (cg_set (C3a.V V2) (by decide) (by decide) (fun _ => by decide))
          have C3 : CCG h2 h3 := by rw [← e3]; exact C3b.tr (cg_set (C3b.V V2) (by decide) (by decide) (fun _ => by decide))
          have V3 := C3.V V2
          have pr : h3 1157 4 = h2 1157 4 + 1 := by rw [← e3, hcell (by decide), hcell (by decide), hcel1]
          have eb : ∀ P, LC g T h2 P = LC g (T + 1) h3 P := fun P => by
            have := tn_24 (d := g.1.1) (l1 := g.1.2.1) (l2 := g.1.2.2.1) (l3 := g.1.2.2.2.1) (l4 := g.1.2.2.2.2.1) (l5 := g.1.2.2.2.2.2.1) (l6 := g.1.2.2.2.2.2.2.1) (l7 := g.1.2.2.2.2.2.2.2) (Q := P) CT2 f18 ck
            refine this.trans ?_
            have e8' : hset h2 1157 4 (h2 1157 4 + 1) 1157 8 = h2 1157 8 := hcell (by decide)
            have e24 : hset h2 1157 4 (h2 1157 4 + 1) 1824 = h2 1824 := hs_ne (by decide)
            rw [s223f (d := g.1.1 + 5) (by rw [e8']; omega) (by rw [e8', e24, h28, x9]; omega), e8', e24, show h2 1824 (h2 1157 8 - 1) = f by rw [h28, x9], e3]
            rfl
          have hT3 := (S2.cg C3 RCG.id : STA B Br h3 hr)
          have N3 := hT3.env N
          obtain ⟨hT3', hl3, -⟩ := N3.cd
          have CT3 : CTN h3 (T + 1) := ⟨by omega, by rw [k3 19 (by decide) (by decide) (by decide), x3 19 (by decide) (by decide)]; exact s10.1, hT3', hl3, by rw [pr]; omega, by rw [pr]; omega⟩
          have ec : ∀ P, LC g (T + 1) h3 P = G fz1 (g.1.1 + 7) 231 1 [(3, 1157), (0, f), (9, 0), (9, 0)] [] (hset h3 1157 18 0) (fun _ h1 => LC g (T + 2) h1 P) := fun P => by
            have := tn_f (d := g.1.1) (l1 := g.1.2.1) (l2 := g.1.2.2.1) (l3 := g.1.2.2.2.1) (l4 := g.1.2.2.2.2.1) (l5 := g.1.2.2.2.2.2.1) (l6 := g.1.2.2.2.2.2.2.1) (l7 := g.1.2.2.2.2.2.2.2) (Q := P) CT3 (by rw [k318]; omega)
            refine this.trans ?_
            rw [ps_start, k318, show T + 1 + 1 = T + 2 by omega]
            rfl
          have C4 : CCG h (hset h3 1157 18 0) := (C.tr C3).tr (cg_set V3 (by decide) (by decide) (fun _ => by decide))
          have cc4 : ∀ p, cK (hset h3 1157 18 0) p = cK h p ∧ cB (hset h3 1157 18 0) p = cB h p := fun p => by
            have u1 := cK_set (i := 18) (v := 0) V3 (o := 1157) (by decide) (by decide) p
            have u2 : cK h3 p = cK h2 p ∧ cB h3 p = cB h2 p := by
              have a2 := V2.ar
              unfold cK cB
              rw [k3o 1222 (by decide), k3o _ (by omega), k3o _ (by omega)]
              exact ⟨rfl, rfl⟩
            have u3 := x5 p
            exact ⟨(u1.1.trans u2.1).trans u3.1, (u1.2.trans u2.2).trans u3.2⟩
          have fin : ∀ hr2, RCG hr hr2 → hr2 6603 44 = ngF K l + ngX K y → (∀ s, s ≠ 36 → s ≠ 44 → s ≠ 52 → hr2 6603 s = hr 6603 s) → (∀ o, 10464 ≤ o → o ≤ 11487 → hr2 o = hr o) → ∀ s7 s8 s9, R2 (fun P => G fz1 (g.1.1 + 7) 231 1 [(3, 1157), (0, f), (9, 0), (9, 0)] [] (hset h3 1157 18 0) (fun _ h1 => LC g (T + 2) h1 P)) (fun P => G fz1 (d2 + 1) 388 1 [(3, 6603), (0, f), (0, 1), (0, 0), (1, 0), (9, 0), (0, hr 6603 41 - 1), s7, s8, s9] [] hr2 (fun _ h1 => LRf g h1 P)) (POST B Br) := fun hr2 R r44 rs ro s7 s8 s9 => by
            have M2 := M.drop (h2 := hset h3 1157 18 0) (hr2 := hr2) (k2 := max kx 1) O (by omega) C4 R (fun s u v z => by
              by_cases w18 : s = 18
              · subst w18; rw [hcel1]; exact s10.2.symm
              · rw [hcell w18, k3 s u z w18, x3 s u v]) (by rw [hcell (by decide), k38, h28]; exact e1) (by rw [hs_ne (by decide), k3o 1222 (by decide), x4, c4]; omega) cc4 (fun o u v z => by rw [hs_ne (by omega), k3o o (by omega), x6 o u v z]) (fun i u => by
              have := x7 i (by omega)
              rw [hs_ne (by decide), hs_ne (by decide), hs_ne (by decide), k3o 1632 (by decide), k3o 1824 (by decide), k3o 1889 (by decide)]
              exact this) r44 rs ro
            have z := ih q 0 (max kx 1) (n - 2) (T + 2) f (hset h3 1157 18 0) hr2 d2 (9, 0) (9, 0) s7 s8 s9 (by omega) (M2.le O (by omega)) (fun f m => by
              rcases List.mem_cons.mp m with v | v
              · subst v; exact rky.le (by show kx ≤ max kx 1; omega)
              · exact rl f v) (by
              rw [phF_c, hcell (by decide), hcell (by decide), k3 16 (by decide) (by decide) (by decide), k3 17 (by decide) (by decide) (by decide), x3 16 (by decide) (by decide), x3 17 (by decide) (by decide)]
              show 400 * (h 1157 16 - h 1157 17) + (phF l + max kx 1) ≤ ((n - 2 : Nat) : Int) + 2
              rcases p01 with v | v <;> omega) (by omega) (by omega) hf
            rw [rs 41 (by decide) (by decide) (by decide)] at z
            exact z
          have ed : ∀ P, G fz1 (g.1.1 + 7) 231 1 [(3, 1157), (0, f), a2, a3] [] h (fun _ h1 => LC g T h1 P) = G fz1 (g.1.1 + 7) 231 1 [(3, 1157), (0, f), (9, 0), (9, 0)] [] (hset h3 1157 18 0) (fun _ h1 => LC g (T + 2) h1 P) := fun P => ((ea P).trans (eb P)).trans (ec P)
          by_cases p1 : ph = 1
          · exact R2_eq ed (fun P => rfl) (fin hr RCG.id (gn ⟨p1, kA⟩) (fun _ _ _ _ => rfl) (fun _ _ _ => rfl) s7 s8 s9)
          · have p0 : ph = 0 := p01.resolve_right p1
            obtain ⟨g1, ⟨g2, g3, g4, g5⟩, -⟩ := gg (fun v => p1 v.1)
            refine R2_eq ed (fun P => uw_popf (l6 := (9, 0)) N'.S (by omega) (by omega) g3 g2 a0 g5 (by omega) (.inl ⟨p0, by rw [onf]; exact (no p0).2, by rw [alf]; exact kA⟩)) (fin _ (rg_set (.inr ⟨rfl, by decide⟩)) (by rw [hcel1]; omega) (fun s _ u _ => hcell u) (fun o u v => hs_ne (by omega)) _ _ _)
        · -- always is done
          obtain ⟨g1, ⟨g2, g3, g4, g5⟩, -⟩ := gg (fun v => kA v.2)
          obtain ⟨R, y1, y2, y3, y4, y5, y6, y7, y8, y9⟩ := alR_2 (h := hr) (tp := hr 11104 (hr 6603 44 - 1)) (g := hr 6603 44 - 1) (nx := f) (k := 0) (b := 0) (pc := hr (hr 6603 9 + 1300) a)
          have e2 : hr 6603 44 - 1 = ngF K l + ngX K y := by omega
          have al1 := al.resolve_left (fun v => kA v.1)
          have eb : ∀ P, G fz1 (d2 + 1) 388 1 [(3, 6603), (0, f), (0, 1), (0, 0), (1, 0), (9, 0), (0, hr 6603 41 - 1), s7, s8, s9] [] hr (fun _ h1 => LRf g h1 P) = LRf g (alR hr (hr 11104 (hr 6603 44 - 1)) (hr 6603 44 - 1) f 0 0 (hr (hr 6603 9 + 1300) a)) P := fun P => uw_alf (l6 := (9, 0)) N'.S (by omega) (by omega) g3 g2 a0 g5 (by omega) (p01.imp (fun v => ⟨v, by rw [onf]; exact (no v).2⟩) id) (by rw [alf]; exact kA)
          generalize alR hr (hr 11104 (hr 6603 44 - 1)) (hr 6603 44 - 1) f 0 0 (hr (hr 6603 9 + 1300) a) = hr2 at *
          have MV := M.rph (h2 := h2) (hr2 := hr2) (k2 := kx + 4) O p01 (fun v => kA v.2) (.inr ⟨rfl, kA⟩) (by rcases p01 with v | v <;> omega) C R (by rw [x1]; exact c3) x3 (by rw [x4]; exact c4) x5 x6 (fun i w => x7 i (by omega)) (by rw [← e1]; exact x8) (by rw [y1]; exact g4) (by
            rw [y3 44 (by decide) (by decide), ngX_c, if_neg (by show ¬ ((2 : Int) = -1 ∨ (2 : Int) = 1 ∧ K 5 a = -9); omega)]
            omega) (fun s u _ v => y3 s u v) (fun o p q => y4 o (by omega) (by omega)) (fun i w => y5 i (by omega)) (by rw [← e2]; exact y6) (fun _ => .inl ⟨by rw [← e1, x9]; omega, by rw [← e1, ← e2, x9, y7]⟩)
          refine R2_eq ea eb (IH n hn T _ _ _ ⟨MV, fun f m => ?_, ?_, ?_, T0, Tn⟩)
          · rcases List.mem_cons.mp m with v | v
            · subst v
              intro e' m' w'
              rcases List.mem_cons.mp m' with v | v
              · subst v; show kx + 12 - 4 * 2 ≤ kx + 4; omega
              · exact (rky.le (by show kx ≤ kx + 4; omega)) e' v w'
            · exact rl f v
          · show MEM K (VS K q) (CLS K) n _ _ ((a, 2, kx, ch) :: y) 0 (kx + 4)
            rw [x2, y2, alf]
            exact al1.2
          · rw [x3 16 (by decide) (by decide), x3 17 (by decide) (by decide), phF_c]
            show 400 * (h 1157 16 - h 1157 17) + (phF l + (kx + 4)) + 1 ≤ n
            rcases p01 with v | v <;> omega
theorem failM (N : ENV K B Br) (IH : SIM g K B Br n0) : ∀ (l : List FRT) (x : CX), FM g K B Br n0 l x := by
  intro l
  induction l with
  | nil =>
    intro x
    induction x with
    | nil => exact fail0 N IH
    | cons e y ih => exact failE N IH ih
  | cons f l ihl =>
    intro x
    induction x with
    | nil => exact failF N IH (ihl f.2.1)
    | cons e y ih => exact failE N IH ih
end VM
