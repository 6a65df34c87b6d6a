/-! THE PURE SIDE, 116: the two machines alike: a failure on its way: printed by wip/tools/gen89zt.py -/
/-- the reference's loop -/
def LPR (d : Nat) (q0 m0 a0 b0 c0 e0 : Int) (l7 l8 : AV) (h : HV) (Q : Int → HV → Prop) : Prop := G fz1 (d + 8) 382 13 [(3, 6603), (0, q0), (0, m0), (0, a0), (0, b0), (0, c0), (0, e0), l7, l8] [] h Q
/-- how a run has ended on both sides -/
def FINR (B Br h hr : HV) (x : Int) : Prop := STA B Br h hr ∧ (h 1157 17 = hr 6603 53 ∧ 0 ≤ h 1157 17 ∧ h 1157 17 ≤ 3000) ∧ (h 1157 15 = hr 6603 55 ∧ 0 ≤ h 1157 15 ∧ h 1157 15 ≤ 10000) ∧ ((x < 0 ∧ h 1157 20 = 0 ∧ hr 6603 58 = 0 ∧ hr 6603 59 = 0) ∨ (0 ≤ x ∧ VVh h hr x (h 1157 20) (hr 6603 58) (hr 6603 59)))
def POST (B Br : HV) : Int → HV → Int → HV → Prop := fun x h1 y hr1 => x = y ∧ hr1 6603 57 = x ∧ FINR B Br h1 hr1 x
theorem R2_eq {a a' b b' : (Int → HV → Prop) → Prop} {Q : Int → HV → Int → HV → Prop} (ea : ∀ P, a P = a' P) (eb : ∀ P, b P = b' P) (g : R2 a' b' Q) : R2 a b Q := by
  rw [show a = a' from funext ea, show b = b' from funext eb]
  exact g
def MEMt (K : HV) (n : Nat) (c r : Int) : List FRT → Prop
  | [] => True
  | f :: _ => MEM K (VS K f.1) (CLS K) n c r f.2.1 f.2.2.1 f.2.2.2
def RUNS (K B Br : HV) (n : Nat) (T : Int) (h hr : HV) (L : List FRT) : Prop := VMS K B Br h hr n L ∧ (∀ f ∈ L, RKx f.2.2.2 f.2.1) ∧ MEMt K n (h 1157 4) (hr 6603 52) L ∧ 400 * (h 1157 16 - h 1157 17) + phF L + 1 ≤ n ∧ 0 ≤ T ∧ T + n ≤ 4000000
theorem RKx.le {k k2 : Int} {x : CX} (h : RKx k x) (hk : k ≤ k2) : RKx k2 x := fun e m w => Int.le_trans (h e m w) hk
theorem RKx.tl {k : Int} {e : Int × Int × Int × Int} {x : CX} (h : RKx k (e :: x)) : RKx k x := fun e m w => h e (List.mem_cons_of_mem _ m) w
section VM
variable {K B Br h hr h2 hr2 : HV} {n n2 : Nat} {q E k k2 : Int} {x y : CX} {l L L2 : List FRT}
theorem phF_0 : ∀ l : List FRT, ALF K h hr n l → (l.length : Int) ≤ phF l
  | [], _ => Int.le_refl _
  | f :: l, ⟨F, A⟩ => by
    have i := phF_0 l A
    have := F.2.2.2.2.2.1
    rw [phF_c, List.length_cons]
    omega
theorem FST.le (O : KOK K) (hn : n2 ≤ n) (M : FST K B Br h hr n L) : FST K B Br h hr n2 L := ⟨M.1, M.2.1, ALF.ag O hn _ AGR.id M.2.2⟩
/-- the innermost thing is gone -/
theorem FST.drop {e : Int × Int × Int × Int} (O : KOK K) (M : FST K B Br h hr n ((q, e :: y, E, k) :: l)) (hk : 1 ≤ k2 ∧ k2 ≤ 399) (C : CCG h h2) (R : RCG hr hr2)
    (cs : ∀ s, s ≠ 4 → s ≠ 5 → s ≠ 8 → h2 1157 s = h 1157 s) (c8 : h2 1157 8 = ntF l + ntX y) (c12 : bsF K l + K 7 q + 2 * lps y ≤ h2 1222 2) (cc : ∀ p, cK h2 p = cK h p ∧ cB h2 p = cB h p) (co : ∀ o, 1440 ≤ o → o ≤ 1760 → o ≠ 1632 → h2 o = h o) (c32 : ∀ i, i < ntF l + ntX y → h2 1632 i = h 1632 i ∧ h2 1824 i = h 1824 i ∧ h2 1889 i = h 1889 i)
    (r44 : hr2 6603 44 = ngF K l + ngX K y) (rs : ∀ s, s ≠ 36 → s ≠ 44 → s ≠ 52 → hr2 6603 s = hr 6603 s) (ro : ∀ o, 10464 ≤ o → o ≤ 11487 → hr2 o = hr o) : FST K B Br h2 hr2 n ((q, y, 0, k2) :: l) := by
  obtain ⟨S, ⟨s1, s2, s3, s4, s5, s6, s7, s8, s9, s10, s11⟩, A⟩ := M
  have V := S.2.2.1
  have zz := ALF.sz O l A.2
  have nx := ntX_0 y
  have gx := ngX_0 (K := K) y
  have mv : ∀ k b k' b', VVh h hr k b k' b' → VVh h2 hr2 k b k' b' := fun k b k' b' w => by rw [VVh.cg V C R]; exact w
  have tr : TRA h h2 hr hr2 0 (ntF l + ntX y) 0 (ngF K l + ngX K y) := by
    refine ⟨fun t _ b => ?_, fun g _ b => ?_⟩
    · have e := c32 t b
      rw [co 1568 (by decide) (by decide) (by decide), co 1696 (by decide) (by decide) (by decide), co 1760 (by decide) (by decide) (by decide)]
      exact ⟨rfl, e.1, rfl, rfl, e.2.1, e.2.2⟩
    · rw [ro 10976 (by decide) (by decide), ro 11040 (by decide) (by decide), ro 11104 (by decide) (by decide), ro 11168 (by decide) (by decide), ro 11232 (by decide) (by decide), ro 11296 (by decide) (by decide), ro 11361 (by decide) (by decide)]
      exact ⟨rfl, rfl, rfl, rfl, rfl, rfl, rfl⟩
  have s0 : SLR K h hr q l.length (bsF K l) := A.1.2.2.2.2.2.2.1
  have cy : CXR K (MEM K (VS K q) (CLS K) n) h hr l.length (bsF K l + K 7 q) (ftF l) (ntF l) (ngF K l) y := A.1.2.2.2.2.2.2.2.2.1.1
  have lx : (e :: y).length ≤ 12 := A.1.2.2.2.1
  rw [List.length_cons] at lx
  refine ⟨S.cg C R, ⟨s1, c12, by rw [rs 41 (by decide) (by decide) (by decide)]; exact s3, c8, r44, by rw [cs 17 (by decide) (by decide) (by decide), cs 16 (by decide) (by decide) (by decide), rs 53 (by decide) (by decide) (by decide), rs 54 (by decide) (by decide) (by decide)]; exact s6, by rw [cs 15 (by decide) (by decide) (by decide), rs 55 (by decide) (by decide) (by decide)]; exact s7, by rw [rs 56 (by decide) (by decide) (by decide), rs 58 (by decide) (by decide) (by decide), rs 59 (by decide) (by decide) (by decide)]; exact s8, by rw [cs 20 (by decide) (by decide) (by decide)]; exact s9, by rw [cs 19 (by decide) (by decide) (by decide)]; exact s10, by rw [cs 18 (by decide) (by decide) (by decide)]; exact s11⟩, ?_⟩
  exact ALF.tp O A rfl ⟨mv, fun p _ _ => cc p, fun j _ _ => by rw [co 1440 (by decide) (by decide) (by decide), co 1504 (by decide) (by decide) (by decide), ro 10848 (by decide) (by decide), ro 10912 (by decide) (by decide)]; exact ⟨rfl, rfl, rfl, rfl⟩, fun i _ _ => by rw [ro 10592 (by decide) (by decide), ro 10657 (by decide) (by decide)]; exact ⟨rfl, rfl⟩, fun i _ _ => by rw [ro 10720 (by decide) (by decide), ro 10784 (by decide) (by decide)]; exact ⟨rfl, rfl⟩, fun i _ _ => by rw [ro 10464 (by decide) (by decide), ro 10529 (by decide) (by decide)]; exact ⟨rfl, rfl⟩, ⟨fun t a b => tr.1 t a (by omega), fun g a b => tr.2 g a (by omega)⟩, by rw [(cc _).1]; omega⟩ (by rw [co 1440 (by decide) (by decide) (by decide)]) (by rw [ro 10912 (by decide) (by decide)]) (by rw [co 1504 (by decide) (by decide) (by decide)]) (by rw [ro 10848 (by decide) (by decide)]) ⟨by decide, by decide⟩ (by omega) hk (s0.ag O A.1.2.1 mv (fun p _ _ => cc p) (fun i _ _ => by rw [ro 10592 (by decide) (by decide), ro 10657 (by decide) (by decide)]; exact ⟨rfl, rfl⟩)) (fun i a b => by omega) (CXR.ag (fun _ _ _ _ _ w => w) mv y (fun p _ _ => cc p) (fun e' m w => by rw [ro 10720 (by decide) (by decide), ro 10784 (by decide) (by decide)]; exact ⟨rfl, rfl⟩) ⟨fun t a b => tr.1 t (by omega) b, fun g a b => tr.2 g (by omega) b⟩ cy)
/-- the frame is gone -/
theorem FST.fpop (O : KOK K) {f : FRT} (M : FST K B Br h hr n (f :: L)) (hL : 1 ≤ L.length) (hx : ntX f.2.1 = 0 ∧ ngX K f.2.1 = 0) (r41 : hr2 6603 41 = hr 6603 41 - 1) (R : RCG hr hr2) (rs : ∀ s, s ≠ 36 → s ≠ 41 → s ≠ 52 → hr2 6603 s = hr 6603 s) (ro : ∀ o, 10464 ≤ o → o ≤ 11487 → hr2 o = hr o) : FST K B Br h hr2 n L := by
  obtain ⟨S, ⟨s1, s2, s3, s4, s5, s6, s7, s8, s9, s10, s11⟩, A⟩ := M
  have V := S.2.2.1
  have C : CCG h h := CCG.id V
  rw [List.length_cons] at s1 s3
  rw [ntF_c, hx.1] at s4
  rw [ngF_c, hx.2] at s5
  have s2 : bsF K L + K 7 f.1 + 2 * lps f.2.1 ≤ h 1222 2 := s2
  have lx := lps_0 f.2.1
  have kq := (O.2 f.1 A.1.2.1.1 A.1.2.1.2).1
  refine ⟨S.cg C R, ⟨by omega, ?_, by omega, by omega, by rw [rs 44 (by decide) (by decide) (by decide)]; omega, by rw [rs 53 (by decide) (by decide) (by decide), rs 54 (by decide) (by decide) (by decide)]; exact s6, by rw [rs 55 (by decide) (by decide) (by decide)]; exact s7, by rw [rs 56 (by decide) (by decide) (by decide), rs 58 (by decide) (by decide) (by decide), rs 59 (by decide) (by decide) (by decide)]; exact s8, s9, s10, s11⟩, ?_⟩
  · cases L with
    | nil => rw [List.length_nil] at hL; omega
    | cons g L' =>
      show bsF K L' + K 7 g.1 + 2 * lps g.2.1 ≤ _
      have e := A.2.1.2.2.1
      rw [bsF_c] at s2
      omega
  · refine ALF.ag O (Nat.le_refl n) _ (AGR.stk V C R (fun _ _ _ => rfl) (fun o a b => ro o (by omega) b) (fun _ _ _ => ⟨rfl, rfl⟩) (fun i _ _ => by rw [ro 10464 (by decide) (by decide), ro 10529 (by decide) (by decide)]; exact ⟨rfl, rfl⟩)) A.2
theorem ENV.cd (N : ENV K h hr) : TC (h 1157 3) ∧ h (h 1157 3) 17 ≤ 2400 ∧ ∀ i, cdT h i = K 0 i := N.2.2.1
theorem ENV.on (N : ENV K h hr) {i : Int} (hi : 0 ≤ i ∧ i < 3208) : hr (hr 6603 9 + 1236) i = K 4 i := N.2.2.2.2.2.2.1 i hi.1 hi.2
theorem ENV.al (N : ENV K h hr) {t : Int} (ht : 0 ≤ t ∧ t < 401) : hr (hr 6603 9 + 1300) t = K 5 t := (N.2.2.2.2.2.2.2.1 t ht.1 ht.2).1
theorem ENV.S (N : ENV K h hr) : TR (hr 6603 9) := N.2.2.2.2.1
theorem ENV.op (N : ENV K h hr) {r : Int} (hr' : 0 ≤ r ∧ r < 6000) : hr (hr 6603 9 + 980) r = K 1 r ∧ hr (hr 6603 9 + 1044) r = K 2 r ∧ hr (hr 6603 9 + 1108) r = K 3 r := N.2.2.2.2.2.1 r hr'.1 hr'.2
end VM
