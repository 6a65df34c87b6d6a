/-! THE PURE SIDE, 115: the two machines alike: tries: printed by wip/tools/gen89zs.py -/
def bsT (K : HV) : List FRT → Int
  | [] => 0
  | f :: l => bsF K l + K 7 f.1 + 2 * lps f.2.1
/-- a failure or a value on its way outwards -/
def SCF (K h hr : HV) (l : List FRT) : Prop := (1 ≤ l.length ∧ l.length ≤ 8) ∧ bsT K l ≤ h 1222 2 ∧ hr 6603 41 = l.length ∧ h 1157 8 = ntF l ∧ hr 6603 44 = ngF K l ∧
  (h 1157 17 = hr 6603 53 ∧ h 1157 16 = hr 6603 54 ∧ 0 ≤ h 1157 17 ∧ h 1157 17 ≤ h 1157 16 ∧ h 1157 16 ≤ 3000) ∧ (h 1157 15 = hr 6603 55 ∧ 0 ≤ h 1157 15 ∧ h 1157 15 ≤ 10000) ∧ (hr 6603 56 = 1 ∧ hr 6603 58 = 0 ∧ hr 6603 59 = 0) ∧ h 1157 20 = 0 ∧ h 1157 19 = 100 ∧ h 1157 18 = 0
def FST (K B Br h hr : HV) (n : Nat) (l : List FRT) : Prop := STA B Br h hr ∧ SCF K h hr l ∧ ALF K h hr n l
section VM
variable {K B Br h hr h2 hr2 : HV} {n : Nat} {q E k k2 : Int} {x y : CX} {l L L2 : List FRT}
theorem VMS.f (O : KOK K) (M : VMS K B Br h hr n ((q, x, E, k) :: l)) : FST K B Br h hr n ((q, x, E, k) :: l) := by
  have z := M.hs O
  obtain ⟨S, ⟨s1, s2, s3, s4, s5, s6, s7, s8, s9, s10, s11, s12, s13⟩, A⟩ := M
  refine ⟨S, ⟨s1, ?_, s5, s6, s7, s8, s9, s10, s11, s12, s13⟩, A⟩
  show bsF K l + K 7 q + 2 * lps x ≤ _
  omega
/-- a try's block begins -/
theorem VMS.try_ (O : KOK K) (M : VMS K B Br h hr n ((q, x, 0, k) :: l)) {a kx ch : Int} (ha : 0 ≤ a ∧ a < 401) (T : TRYF K (MEM K (VS K q) (CLS K) n) a ch x kx) (hx : x.length + 1 ≤ 12) (hk : 1 ≤ k2 ∧ k2 ≤ 399) : VMS K B Br (hset (hset (hset (hset (hset h 1568 (h 1157 8) ch) 1632 (h 1157 8) 0) 1696 (h 1157 8) (h 1157 5)) 1760 (h 1157 8) (h 1222 2)) 1157 8 (h 1157 8 + 1)) (hset (hset (hset (hset (hset hr 10976 (hr 6603 44) a) 11040 (hr 6603 44) (hr 6603 41 - 1)) 11104 (hr 6603 44) (hr 6603 36)) 11168 (hr 6603 44) 0) 6603 44 (hr 6603 44 + 1)) n ((q, (a, 0, kx, ch) :: x, 0, k2) :: l) := by
  have z := M.hs O
  have f := M.fr
  obtain ⟨S, s, A⟩ := M
  have V := S.2.2.1
  have ar := V.ar
  have zz := ALF.sz O l A.2
  have nx := ntX_0 x
  have gx := ngX_0 (K := K) x
  generalize eh : hset (hset (hset (hset (hset h 1568 (h 1157 8) ch) 1632 (h 1157 8) 0) 1696 (h 1157 8) (h 1157 5)) 1760 (h 1157 8) (h 1222 2)) 1157 8 (h 1157 8 + 1) = h2
  generalize er : hset (hset (hset (hset (hset hr 10976 (hr 6603 44) a) 11040 (hr 6603 44) (hr 6603 41 - 1)) 11104 (hr 6603 44) (hr 6603 36)) 11168 (hr 6603 44) 0) 6603 44 (hr 6603 44 + 1) = hr2
  have ho : ∀ o, o ≠ 1568 → o ≠ 1632 → o ≠ 1696 → o ≠ 1760 → o ≠ 1157 → h2 o = h o := fun o a b c d e => by rw [← eh, hs_ne e, hs_ne d, hs_ne c, hs_ne b, hs_ne a]
  have hsx : ∀ s, s ≠ 8 → h2 1157 s = h 1157 s := fun s w => by rw [← eh, hcell w, hs_ne (by decide), hs_ne (by decide), hs_ne (by decide), hs_ne (by decide)]
  have h8 : h2 1157 8 = h 1157 8 + 1 := by rw [← eh, hcel1]
  have c68 : ∀ i, h2 1568 i = if i = h 1157 8 then ch else h 1568 i := fun i => by
    rw [← eh, hs_ne (by decide), hs_ne (by decide), hs_ne (by decide), hs_ne (by decide), hs2]
    by_cases w : i = h 1157 8
    · rw [if_pos ⟨rfl, w⟩, if_pos w]
    · rw [if_neg (fun z => w z.2), if_neg w]
  have c32 : ∀ i, h2 1632 i = if i = h 1157 8 then 0 else h 1632 i := fun i => by
    rw [← eh, hs_ne (by decide), hs_ne (by decide), hs_ne (by decide), hs2, hs_ne (by decide)]
    by_cases w : i = h 1157 8
    · rw [if_pos ⟨rfl, w⟩, if_pos w]
    · rw [if_neg (fun z => w z.2), if_neg w]
  have c96 : ∀ i, h2 1696 i = if i = h 1157 8 then h 1157 5 else h 1696 i := fun i => by
    rw [← eh, hs_ne (by decide), hs_ne (by decide), hs2, hs_ne (by decide), hs_ne (by decide)]
    by_cases w : i = h 1157 8
    · rw [if_pos ⟨rfl, w⟩, if_pos w]
    · rw [if_neg (fun z => w z.2), if_neg w]
  have c60 : ∀ i, h2 1760 i = if i = h 1157 8 then h 1222 2 else h 1760 i := fun i => by
    rw [← eh, hs_ne (by decide), hs2, hs_ne (by decide), hs_ne (by decide), hs_ne (by decide)]
    by_cases w : i = h 1157 8
    · rw [if_pos ⟨rfl, w⟩, if_pos w]
    · rw [if_neg (fun z => w z.2), if_neg w]
  have ro : ∀ o, o ≠ 10976 → o ≠ 11040 → o ≠ 11104 → o ≠ 11168 → o ≠ 6603 → hr2 o = hr o := fun o a b c d e => by rw [← er, hs_ne e, hs_ne d, hs_ne c, hs_ne b, hs_ne a]
  have rs : ∀ s, s ≠ 44 → hr2 6603 s = hr 6603 s := fun s w => by rw [← er, hcell w, hs_ne (by decide), hs_ne (by decide), hs_ne (by decide), hs_ne (by decide)]
  have r44 : hr2 6603 44 = hr 6603 44 + 1 := by rw [← er, hcel1]
  have d76 : ∀ i, hr2 10976 i = if i = hr 6603 44 then a else hr 10976 i := fun i => by
    rw [← er, hs_ne (by decide), hs_ne (by decide), hs_ne (by decide), hs_ne (by decide), hs2]
    by_cases w : i = hr 6603 44
    · rw [if_pos ⟨rfl, w⟩, if_pos w]
    · rw [if_neg (fun z => w z.2), if_neg w]
  have d40 : ∀ i, hr2 11040 i = if i = hr 6603 44 then hr 6603 41 - 1 else hr 11040 i := fun i => by
    rw [← er, hs_ne (by decide), hs_ne (by decide), hs_ne (by decide), hs2, hs_ne (by decide)]
    by_cases w : i = hr 6603 44
    · rw [if_pos ⟨rfl, w⟩, if_pos w]
    · rw [if_neg (fun z => w z.2), if_neg w]
  have d04 : ∀ i, hr2 11104 i = if i = hr 6603 44 then hr 6603 36 else hr 11104 i := fun i => by
    rw [← er, hs_ne (by decide), hs_ne (by decide), hs2, hs_ne (by decide), hs_ne (by decide)]
    by_cases w : i = hr 6603 44
    · rw [if_pos ⟨rfl, w⟩, if_pos w]
    · rw [if_neg (fun z => w z.2), if_neg w]
  have d68 : ∀ i, hr2 11168 i = if i = hr 6603 44 then 0 else hr 11168 i := fun i => by
    rw [← er, hs_ne (by decide), hs2, hs_ne (by decide), hs_ne (by decide), hs_ne (by decide)]
    by_cases w : i = hr 6603 44
    · rw [if_pos ⟨rfl, w⟩, if_pos w]
    · rw [if_neg (fun z => w z.2), if_neg w]
  have e12 : h2 1222 = h 1222 := ho _ (by decide) (by decide) (by decide) (by decide) (by decide)
  have eK : ∀ p, cK h2 p = cK h p := fun p => by unfold cK; rw [e12, ho _ (by omega) (by omega) (by omega) (by omega) (by omega)]
  have eB : ∀ p, cB h2 p = cB h p := fun p => by unfold cB; rw [e12, ho _ (by omega) (by omega) (by omega) (by omega) (by omega)]
  have C : CCG h h2 := ⟨fun o p _ _ => ho o (by omega) (by omega) (by omega) (by omega) (by omega), fun s w => hsx s (by omega), ⟨by rw [e12], by rw [e12]⟩, ⟨eK _, eB _⟩, by rw [e12]; exact V.2.2.2.1⟩
  have R : RCG hr hr2 := ⟨fun o p q => ro o (by omega) (by omega) (by omega) (by omega) p, fun s _ _ w _ => rs s w⟩
  clear eh er
  have mv : ∀ k b k' b', VVh h hr k b k' b' → VVh h2 hr2 k b k' b' := fun k b k' b' w => by rw [VVh.cg V C R]; exact w
  have tr : TRA h h2 hr hr2 0 (ntF l + ntX x) 0 (ngF K l + ngX K x) := by
    refine ⟨fun t _ b => ?_, fun g _ b => ?_⟩
    · rw [c68, c32, c96, c60, ho 1824 (by decide) (by decide) (by decide) (by decide) (by decide), ho 1889 (by decide) (by decide) (by decide) (by decide) (by decide), if_neg (by omega), if_neg (by omega), if_neg (by omega), if_neg (by omega)]
      exact ⟨rfl, rfl, rfl, rfl, rfl, rfl⟩
    · rw [d76, d40, d04, d68, ro 11232 (by decide) (by decide) (by decide) (by decide) (by decide), ro 11296 (by decide) (by decide) (by decide) (by decide) (by decide), ro 11361 (by decide) (by decide) (by decide) (by decide) (by decide), if_neg (by omega), if_neg (by omega), if_neg (by omega), if_neg (by omega)]
      exact ⟨rfl, rfl, rfl, rfl, rfl, rfl, rfl⟩
  have h14 : h2 1440 = h 1440 ∧ h2 1504 = h 1504 ∧ hr2 10848 = hr 10848 ∧ hr2 10912 = hr 10912 := ⟨ho _ (by decide) (by decide) (by decide) (by decide) (by decide), ho _ (by decide) (by decide) (by decide) (by decide) (by decide), ro _ (by decide) (by decide) (by decide) (by decide) (by decide), ro _ (by decide) (by decide) (by decide) (by decide) (by decide)⟩
  have hq : ∀ o, o ≠ 6603 → o < 10976 → hr2 o = hr o := fun o w p => ro o (by omega) (by omega) (by omega) (by omega) w
  have s0 : SLR K h hr q l.length (bsF K l) := A.1.2.2.2.2.2.2.1
  have cx : CXR K (MEM K (VS K q) (CLS K) n) h hr l.length (bsF K l + K 7 q) (ftF l) (ntF l) (ngF K l) x := A.1.2.2.2.2.2.2.2.2.1
  refine ⟨S.cg C R, s.up rfl (fun s _ w => hsx s w) (fun s _ w _ => rs s w) ?_ ?_ ?_ ?_, ?_⟩
  · rw [e12, bsF_c]
    show _ = bsF K l + (K 7 q + 2 * lps ((a, 0, kx, ch) :: x) + 0)
    rw [lps_c, if_neg (by show ¬ (0 : Int) = -1; decide)]
    omega
  · rw [rs 36 (by decide), ftF_c]
    show _ = ftF l + 0
    omega
  · rw [h8, ntF_c]
    show _ = ntF l + ntX ((a, 0, kx, ch) :: x)
    rw [ntX_c, if_neg (by show ¬ (0 : Int) = -1; decide)]
    omega
  · rw [r44, ngF_c]
    show _ = ngF K l + ngX K ((a, 0, kx, ch) :: x)
    rw [ngX_c, if_neg (by show ¬ ((0 : Int) = -1 ∨ (0 : Int) = 1 ∧ _); omega)]
    omega
  · refine ALF.tp O A rfl ⟨mv, fun p _ _ => ⟨eK p, eB p⟩, fun j _ _ => by rw [h14.1, h14.2.1, h14.2.2.1, h14.2.2.2]; exact ⟨rfl, rfl, rfl, rfl⟩, fun i _ _ => by rw [hq 10592 (by decide) (by decide), hq 10657 (by decide) (by decide)]; exact ⟨rfl, rfl⟩, fun i _ _ => by rw [hq 10720 (by decide) (by decide), hq 10784 (by decide) (by decide)]; exact ⟨rfl, rfl⟩, fun i _ _ => by rw [hq 10464 (by decide) (by decide), hq 10529 (by decide) (by decide)]; exact ⟨rfl, rfl⟩, ⟨fun t a b => tr.1 t a (by omega), fun g a b => tr.2 g a (by omega)⟩, by rw [eK]; omega⟩ (by rw [h14.1]) (by rw [h14.2.2.2]) (by rw [h14.2.1]) (by rw [h14.2.2.1]) ⟨by decide, by decide⟩ (by rw [List.length_cons]; exact hx) hk (s0.ag O f.2.2.2.2.2.2.2.2.1 mv (fun p _ _ => ⟨eK p, eB p⟩) (fun i _ _ => by rw [hq 10592 (by decide) (by decide), hq 10657 (by decide) (by decide)]; exact ⟨rfl, rfl⟩)) (fun i a b => by omega) ?_
    refine ⟨CXR.ag (fun _ _ _ _ _ w => w) mv x (fun p _ _ => ⟨eK p, eB p⟩) (fun e' m w => by rw [hq 10720 (by decide) (by decide), hq 10784 (by decide) (by decide)]; exact ⟨rfl, rfl⟩) ⟨fun t a b => tr.1 t (by omega) b, fun g a b => tr.2 g (by omega) b⟩ cx, fun w => absurd w (by show ¬ (0 : Int) = -1; decide), fun _ => ?_⟩
    show TRR K _ h2 hr2 (a, 0, kx, ch) x l.length (bsF K l + K 7 q + 2 * lps x) (ftF l) (ntF l + ntX x) (ngF K l + ngX K x)
    rw [← f.2.2.2.2.2.2.1, ← f.2.2.2.2.2.2.2.1]
    unfold TRR
    rw [c68, c32, c96, c60, d76, d40, d04, d68, if_pos rfl, if_pos rfl, if_pos rfl, if_pos rfl, if_pos rfl, if_pos rfl, if_pos rfl, if_pos rfl]
    refine ⟨⟨ha, by show (0 : Int) ≤ 0; decide, by show (0 : Int) ≤ 2; decide⟩, ⟨rfl, rfl, f.1, by omega⟩, T, fun w => absurd w (by show ¬ (0 : Int) = 2; decide), fun _ => ⟨⟨rfl, by omega, by omega, rfl⟩, fun w => absurd w (by show ¬ (0 : Int) = 2; decide)⟩⟩
/-- the innermost try in another phase -/
theorem FST.rph {a ph ph2 kx ch : Int} (O : KOK K) (M : FST K B Br h hr n ((q, (a, ph, kx, ch) :: y, E, k) :: l)) (h0 : ph = 0 ∨ ph = 1) (hg : ¬ (ph = 1 ∧ K 5 a = -9)) (hp : ph2 = 1 ∨ ph2 = 2 ∧ K 5 a ≠ -9) (hk : 1 ≤ k2 ∧ k2 ≤ 399) (C : CCG h h2) (R : RCG hr hr2)
    (c5 : h2 1157 5 = l.length) (cs : ∀ s, s ≠ 4 → s ≠ 5 → h2 1157 s = h 1157 s) (c12 : h2 1222 2 = bsF K l + K 7 q + 2 * lps y) (cc : ∀ p, cK h2 p = cK h p ∧ cB h2 p = cB h p) (co : ∀ o, 1440 ≤ o → o ≤ 1760 → o ≠ 1632 → h2 o = h o) (c32 : ∀ i, i ≠ ntF l + ntX y → h2 1632 i = h 1632 i ∧ h2 1824 i = h 1824 i ∧ h2 1889 i = h 1889 i) (c33 : h2 1632 (ntF l + ntX y) = ph2)
    (r36 : hr2 6603 36 = ftF l) (r44 : hr2 6603 44 = ngF K l + ngX K ((a, ph2, kx, ch) :: y)) (rs : ∀ s, s ≠ 36 → s ≠ 44 → s ≠ 52 → hr2 6603 s = hr 6603 s) (ro : ∀ o, 10464 ≤ o → o ≤ 11104 → hr2 o = hr o) (rg : ∀ i, i ≠ ngF K l + ngX K y → hr2 11168 i = hr 11168 i ∧ hr2 11232 i = hr 11232 i ∧ hr2 11296 i = hr 11296 i ∧ hr2 11361 i = hr 11361 i) (r68 : hr2 11168 (ngF K l + ngX K y) = ph2) (pn : ph2 = 2 → PND h2 hr2 (ntF l + ntX y) (ngF K l + ngX K y)) : VMS K B Br h2 hr2 n ((q, (a, ph2, kx, ch) :: y, 0, k2) :: l) := by
  obtain ⟨S, ⟨s1, s2, s3, s4, s5, s6, s7, s8, s9, s10, s11⟩, A⟩ := M
  have V := S.2.2.1
  have ar := V.ar
  have zz := ALF.sz O l A.2
  have nx := ntX_0 y
  have gx := ngX_0 (K := K) y
  have n1 : ¬ ph = -1 := by omega
  have n2 : ¬ ph2 = -1 := by omega
  have mv : ∀ k b k' b', VVh h hr k b k' b' → VVh h2 hr2 k b k' b' := fun k b k' b' w => by rw [VVh.cg V C R]; exact w
  have tr : TRA h h2 hr hr2 0 (ntF l + ntX y) 0 (ngF K l + ngX K y) := by
    refine ⟨fun t _ b => ?_, fun g _ b => ?_⟩
    · have e := c32 t (by omega)
      rw [co 1568 (by decide) (by decide) (by decide), co 1696 (by decide) (by decide) (by decide), co 1760 (by decide) (by decide) (by decide)]
      exact ⟨rfl, e.1, rfl, rfl, e.2.1, e.2.2⟩
    · have e := rg g (by omega)
      rw [ro 10976 (by decide) (by decide), ro 11040 (by decide) (by decide), ro 11104 (by decide) (by decide)]
      exact ⟨rfl, rfl, rfl, e.1, e.2.1, e.2.2.1, e.2.2.2⟩
  have s0 : SLR K h hr q l.length (bsF K l) := A.1.2.2.2.2.2.2.1
  have cx : CXR K (MEM K (VS K q) (CLS K) n) h hr l.length (bsF K l + K 7 q) (ftF l) (ntF l) (ngF K l) ((a, ph, kx, ch) :: y) := A.1.2.2.2.2.2.2.2.2.1
  obtain ⟨cy, -, tt⟩ := cx
  have tt := tt n1
  have lx : ((a, ph, kx, ch) :: y).length ≤ 12 := A.1.2.2.2.1
  rw [List.length_cons] at lx
  have n4 : h 1157 8 = ntF l + ntX ((a, ph, kx, ch) :: y) := s4
  refine ⟨S.cg C R, ⟨s1, by rw [c5, List.length_cons]; omega, ?_, ?_, by rw [rs 41 (by decide) (by decide) (by decide)]; exact s3, ?_, r44, by rw [cs 17 (by decide) (by decide), cs 16 (by decide) (by decide), rs 53 (by decide) (by decide) (by decide), rs 54 (by decide) (by decide) (by decide)]; exact s6, by rw [cs 15 (by decide) (by decide), rs 55 (by decide) (by decide) (by decide)]; exact s7, by rw [rs 56 (by decide) (by decide) (by decide), rs 58 (by decide) (by decide) (by decide), rs 59 (by decide) (by decide) (by decide)]; exact s8, by rw [cs 20 (by decide) (by decide)]; exact s9, by rw [cs 19 (by decide) (by decide)]; exact s10, by rw [cs 18 (by decide) (by decide)]; exact s11⟩, ?_⟩
  · rw [c12, bsF_c]
    show _ = bsF K l + (K 7 q + 2 * lps ((a, ph2, kx, ch) :: y) + 0)
    rw [lps_c, if_neg n2]
    omega
  · rw [r36, ftF_c]
    show _ = ftF l + 0
    omega
  · rw [cs 8 (by decide) (by decide), n4, ntF_c]
    show _ = ntF l + ntX ((a, ph2, kx, ch) :: y)
    rw [ntX_c, ntX_c, if_neg n1, if_neg n2]
  · refine ALF.tp O A rfl ⟨mv, fun p _ _ => cc p, fun j _ _ => by rw [co 1440 (by decide) (by decide) (by decide), co 1504 (by decide) (by decide) (by decide), ro 10848 (by decide) (by decide), ro 10912 (by decide) (by decide)]; exact ⟨rfl, rfl, rfl, rfl⟩, fun i _ _ => by rw [ro 10592 (by decide) (by decide), ro 10657 (by decide) (by decide)]; exact ⟨rfl, rfl⟩, fun i _ _ => by rw [ro 10720 (by decide) (by decide), ro 10784 (by decide) (by decide)]; exact ⟨rfl, rfl⟩, fun i _ _ => by rw [ro 10464 (by decide) (by decide), ro 10529 (by decide) (by decide)]; exact ⟨rfl, rfl⟩, ⟨fun t a b => tr.1 t a (by omega), fun g a b => tr.2 g a (by omega)⟩, by rw [(cc _).1]; omega⟩ (by rw [co 1440 (by decide) (by decide) (by decide)]) (by rw [ro 10912 (by decide) (by decide)]) (by rw [co 1504 (by decide) (by decide) (by decide)]) (by rw [ro 10848 (by decide) (by decide)]) ⟨by decide, by decide⟩ (by rw [List.length_cons]; omega) hk (s0.ag O A.1.2.1 mv (fun p _ _ => cc p) (fun i _ _ => by rw [ro 10592 (by decide) (by decide), ro 10657 (by decide) (by decide)]; exact ⟨rfl, rfl⟩)) (fun i a b => by omega) ?_
    refine ⟨CXR.ag (fun _ _ _ _ _ w => w) mv y (fun p _ _ => cc p) (fun e' m w => by rw [ro 10720 (by decide) (by decide), ro 10784 (by decide) (by decide)]; exact ⟨rfl, rfl⟩) ⟨fun t a b => tr.1 t (by omega) b, fun g a b => tr.2 g (by omega) b⟩ cy, fun w => absurd w n2, fun _ => ?_⟩
    obtain ⟨⟨t1, t2⟩, t3, t4, t5, t6⟩ := tt
    have t6 := (t6 hg).1
    refine ⟨⟨t1, by show 0 ≤ ph2; omega, by show ph2 ≤ 2; omega⟩, ⟨?_, c33, ?_, ?_⟩, t4, fun w => (hp.resolve_left (by show ¬ ph2 = 1; have w : ph2 = 2 := w; omega)).2, fun _ => ⟨⟨?_, ?_, ?_, r68⟩, pn⟩⟩
    · rw [co 1568 (by decide) (by decide) (by decide)]; exact t3.1
    · rw [co 1696 (by decide) (by decide) (by decide)]; exact t3.2.2.1
    · rw [co 1760 (by decide) (by decide) (by decide)]; exact t3.2.2.2
    · rw [ro 10976 (by decide) (by decide)]; exact t6.1
    · rw [ro 11040 (by decide) (by decide)]; exact t6.2.1
    · rw [ro 11104 (by decide) (by decide)]; exact t6.2.2.1
end VM
