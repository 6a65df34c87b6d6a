/-! THE PURE SIDE, 109: the two machines alike: what is held: printed by wip/tools/gen89zm.py -/
/-- a frame of a rule: the rule, what lies open, the values of the exp, the rank -/
abbrev FRT := Int × CX × Int × Int
def ntX : CX → Int
  | [] => 0
  | e :: y => (if e.2.1 = -1 then 0 else 1) + ntX y
def ngX (K : HV) : CX → Int
  | [] => 0
  | e :: y => (if e.2.1 = -1 ∨ e.2.1 = 1 ∧ K 5 e.1 = -9 then 0 else 1) + ngX K y
def bsF (K : HV) : List FRT → Int
  | [] => 0
  | f :: l => bsF K l + (K 7 f.1 + 2 * lps f.2.1 + f.2.2.1)
def ftF : List FRT → Int
  | [] => 0
  | f :: l => ftF l + f.2.2.1
def ntF : List FRT → Int
  | [] => 0
  | f :: l => ntF l + ntX f.2.1
def ngF (K : HV) : List FRT → Int
  | [] => 0
  | f :: l => ngF K l + ngX K f.2.1
def phF : List FRT → Int
  | [] => 0
  | f :: l => phF l + f.2.2.2
theorem ntX_c {e : Int × Int × Int × Int} {y : CX} : ntX (e :: y) = (if e.2.1 = -1 then 0 else 1) + ntX y := rfl
theorem ngX_c {K : HV} {e : Int × Int × Int × Int} {y : CX} : ngX K (e :: y) = (if e.2.1 = -1 ∨ e.2.1 = 1 ∧ K 5 e.1 = -9 then 0 else 1) + ngX K y := rfl
theorem lps_c {e : Int × Int × Int × Int} {y : CX} : lps (e :: y) = (if e.2.1 = -1 then 1 else 0) + lps y := rfl
theorem lps_0 : ∀ x : CX, 0 ≤ lps x ∧ lps x ≤ x.length
  | [] => ⟨Int.le_refl _, Int.le_refl _⟩
  | e :: y => by have := lps_0 y; unfold lps; rw [List.length_cons]; split <;> omega
theorem ntX_0 : ∀ x : CX, 0 ≤ ntX x ∧ ntX x ≤ x.length
  | [] => ⟨Int.le_refl _, Int.le_refl _⟩
  | e :: y => by have := ntX_0 y; unfold ntX; rw [List.length_cons]; split <;> omega
theorem ngX_0 {K : HV} : ∀ x : CX, 0 ≤ ngX K x ∧ ngX K x ≤ ntX x
  | [] => ⟨Int.le_refl _, Int.le_refl _⟩
  | e :: y => by have := ngX_0 (K := K) y; unfold ngX ntX; split <;> split <;> omega
/-- the two heaps in one: the reference's things from the second -/
def mixH (h hr : HV) : HV := fun a => if 6603 ≤ a ∧ a < 13056 then hr a else h a
theorem mx_c {h hr : HV} {a : Int} (ha : ¬ (6603 ≤ a ∧ a < 13056)) : mixH h hr a = h a := if_neg ha
theorem mx_r {h hr : HV} {a : Int} (h1 : 6603 ≤ a) (h2 : a < 13056) : mixH h hr a = hr a := if_pos ⟨h1, h2⟩
/-- a value on both sides -/
def VV (B m np : Int) (st : Int → Int) (k b k' b' : Int) : Prop :=
  (k = 0 ∧ k' = 0 ∧ b' = 0) ∨ (k = 1 ∧ k' = 1 ∧ b' = b ∧ I32 b) ∨ (k = 2 ∧ k' = 2 ∧ b' = b ∧ CANR b) ∨ (k = 3 ∧ k' = 3 ∧ b' = b ∧ 0 ≤ b ∧ b < np) ∨ ((4 ≤ k ∧ k ≤ 7) ∧ k' = 4 ∧ b' = b + B ∧ (0 ≤ b ∧ b < m) ∧ st (b + B) = k)
def VVh (h hr : HV) (k b k' b' : Int) : Prop := VV (rb h) (h 643 2) (h 836 4) (hr 10272) k b k' b'
def cK (h : HV) (p : Int) : Int := h (h 1222 0) p
def cB (h : HV) (p : Int) : Int := h (h 1222 1) p
def SLR (K h hr : HV) (q j base : Int) : Prop := ∀ v, 0 ≤ v → v < K 7 q → VVh h hr (cK h (base + v)) (cB h (base + v)) (hr 10592 (420 * j + K 11 (512 * q + v))) (hr 10657 (420 * j + K 11 (512 * q + v)))
def EVR (h hr : HV) (p ft E : Int) : Prop := ∀ i, 0 ≤ i → i < E → VVh h hr (cK h (p + i)) (cB h (p + i)) (hr 10464 (ft + i)) (hr 10529 (ft + i))
def LOR (h hr : HV) (n : Int) (y : CX) (j p : Int) : Prop := (0 ≤ n ∧ n < 402) ∧ (∀ e ∈ y, e.2.1 = -1 → e.1 ≠ n) ∧ (cK h p = 1 ∧ cK h (p + 1) = 1) ∧ (cB h p = hr 10720 (402 * j + n) ∧ cB h (p + 1) = hr 10784 (402 * j + n)) ∧ I32 (cB h p) ∧ 0 ≤ cB h (p + 1) ∧ cB h (p + 1) ≤ 2147483647
def PND (h hr : HV) (t g : Int) : Prop := ((0 ≤ h 1824 t ∧ h 1824 t ≤ 7) ∧ hr 11232 g = h 1824 t) ∨ ((8 ≤ h 1824 t ∧ h 1824 t ≤ 15) ∧ hr 11232 g = -1 ∧ VVh h hr (h 1824 t - 8) (h 1889 t) (hr 11296 g) (hr 11361 g))
def TRR (K : HV) (P : PT) (h hr : HV) (e : Int × Int × Int × Int) (y : CX) (j p ft t g : Int) : Prop :=
  ((0 ≤ e.1 ∧ e.1 < 401) ∧ 0 ≤ e.2.1 ∧ e.2.1 ≤ 2) ∧ (h 1568 t = e.2.2.2 ∧ h 1632 t = e.2.1 ∧ h 1696 t = j ∧ h 1760 t = p) ∧ TRYF K P e.1 e.2.2.2 y e.2.2.1 ∧ (e.2.1 = 2 → K 5 e.1 ≠ -9) ∧
  (¬ (e.2.1 = 1 ∧ K 5 e.1 = -9) → (hr 10976 g = e.1 ∧ hr 11040 g = j ∧ hr 11104 g = ft ∧ hr 11168 g = e.2.1) ∧ (e.2.1 = 2 → PND h hr t g))
def CXR (K : HV) (P : PT) (h hr : HV) (j lo ft T G : Int) : CX → Prop
  | [] => True
  | e :: y => CXR K P h hr j lo ft T G y ∧ (e.2.1 = -1 → LOR h hr e.1 y j (lo + 2 * lps y)) ∧ (e.2.1 ≠ -1 → TRR K P h hr e y j (lo + 2 * lps y) ft (T + ntX y) (G + ngX K y))
def VS (K : HV) (q v r : Int) : Prop := (0 ≤ v ∧ v < K 7 q) ∧ (K 1 r = 22 → K 3 r = K 11 (512 * q + v)) ∧ (K 1 r ≠ 22 → K 2 r = K 11 (512 * q + v))
def CLS (K : HV) (c r : Int) : Prop := K 2 r = K 0 (c + 1) ∧ (0 ≤ K 0 (c + 1) ∧ K 0 (c + 1) < K 12 0) ∧ K 0 (c + 2) = K 8 (K 0 (c + 1))
def KOK (K : HV) : Prop := (0 ≤ K 12 0 ∧ K 12 0 ≤ 12) ∧ ∀ q, 0 ≤ q → q < K 12 0 → (0 ≤ K 8 q ∧ K 8 q ≤ 4 ∧ K 8 q ≤ K 7 q ∧ K 7 q ≤ 420) ∧ (∀ v, 0 ≤ v → v < K 7 q → 0 ≤ K 11 (512 * q + v) ∧ K 11 (512 * q + v) < K 7 q) ∧ (∀ v w, 0 ≤ v → v < K 7 q → 0 ≤ w → w < K 7 q → K 11 (512 * q + v) = K 11 (512 * q + w) → v = w) ∧ (∀ v, 0 ≤ v → v < K 8 q → K 11 (512 * q + v) = v) ∧ ∀ n, ∃ k, MEM K (VS K q) (CLS K) n (K 9 q) (K 10 q) [] 0 k
def RET (K h hr : HV) (n : Nat) (j : Int) : List FRT → Prop
  | [] => True
  | g :: _ => MEM K (VS K g.1) (CLS K) n (h 1504 j) (hr 10848 j) g.2.1 (g.2.2.1 + 1) g.2.2.2
def FRR (K h hr : HV) (n : Nat) (f : FRT) (l : List FRT) : Prop :=
  (h 1440 l.length = bsF K l ∧ hr 10912 l.length = ftF l) ∧ (0 ≤ f.1 ∧ f.1 < K 12 0) ∧ (0 ≤ f.2.2.1 ∧ f.2.2.1 ≤ 36) ∧ f.2.1.length ≤ 12 ∧ bsF K l + K 7 f.1 + 64 ≤ cK h (-1) ∧ (1 ≤ f.2.2.2 ∧ f.2.2.2 ≤ 399) ∧
  SLR K h hr f.1 l.length (bsF K l) ∧ EVR h hr (bsF K l + K 7 f.1 + 2 * lps f.2.1) (ftF l) f.2.2.1 ∧
  CXR K (MEM K (VS K f.1) (CLS K) n) h hr l.length (bsF K l + K 7 f.1) (ftF l) (ntF l) (ngF K l) f.2.1 ∧ RET K h hr n l.length l
def ALF (K h hr : HV) (n : Nat) : List FRT → Prop
  | [] => True
  | f :: l => FRR K h hr n f l ∧ ALF K h hr n l
theorem ALF.sz {K h hr : HV} {n : Nat} (O : KOK K) : ∀ l : List FRT, ALF K h hr n l → (0 ≤ bsF K l ∧ bsF K l ≤ 480 * l.length) ∧ (0 ≤ ftF l ∧ ftF l ≤ 36 * l.length) ∧ (0 ≤ ntF l ∧ ntF l ≤ 12 * l.length) ∧ (0 ≤ ngF K l ∧ ngF K l ≤ ntF l)
  | [], _ => by unfold bsF ftF ntF ngF; omega
  | f :: l, ⟨⟨_, q, e, x, _⟩, A⟩ => by
    have i := ALF.sz O l A
    have k := (O.2 f.1 q.1 q.2).1
    have a := lps_0 f.2.1
    have b := ntX_0 f.2.1
    have c := ngX_0 (K := K) f.2.1
    unfold bsF ftF ntF ngF
    rw [List.length_cons]
    omega
/-! what is not touched stays -/
theorem SLR.ag {K h hr h2 hr2 : HV} {q j base : Int} (O : KOK K) (hq : 0 ≤ q ∧ q < K 12 0) (mv : ∀ k b k' b', VVh h hr k b k' b' → VVh h2 hr2 k b k' b') (hc : ∀ p, base ≤ p → p < base + K 7 q → cK h2 p = cK h p ∧ cB h2 p = cB h p) (hs : ∀ i, 420 * j ≤ i → i < 420 * j + 420 → hr2 10592 i = hr 10592 i ∧ hr2 10657 i = hr 10657 i) (S : SLR K h hr q j base) : SLR K h2 hr2 q j base := by
  intro v v0 v1
  have k := (O.2 q hq.1 hq.2)
  have m := k.2.1 v v0 v1
  have e := hs (420 * j + K 11 (512 * q + v)) (by omega) (by omega)
  rw [(hc (base + v) (by omega) (by omega)).1, (hc (base + v) (by omega) (by omega)).2, e.1, e.2]
  exact mv _ _ _ _ (S v v0 v1)
theorem EVR.ag {h hr h2 hr2 : HV} {p ft E : Int} (mv : ∀ k b k' b', VVh h hr k b k' b' → VVh h2 hr2 k b k' b') (hc : ∀ i, p ≤ i → i < p + E → cK h2 i = cK h i ∧ cB h2 i = cB h i) (hs : ∀ i, ft ≤ i → i < ft + E → hr2 10464 i = hr 10464 i ∧ hr2 10529 i = hr 10529 i) (S : EVR h hr p ft E) : EVR h2 hr2 p ft E := by
  intro v v0 v1
  have e := hs (ft + v) (by omega) (by omega)
  have c := hc (p + v) (by omega) (by omega)
  rw [c.1, c.2, e.1, e.2]
  exact mv _ _ _ _ (S v v0 v1)
theorem PND.ag {h hr h2 hr2 : HV} {t g : Int} (mv : ∀ k b k' b', VVh h hr k b k' b' → VVh h2 hr2 k b k' b') (e1 : h2 1824 t = h 1824 t) (e2 : h2 1889 t = h 1889 t) (e3 : hr2 11232 g = hr 11232 g) (e4 : hr2 11296 g = hr 11296 g) (e5 : hr2 11361 g = hr 11361 g) (S : PND h hr t g) : PND h2 hr2 t g := by
  unfold PND at *
  rw [e1, e2, e3, e4, e5]
  exact S.imp id (fun w => ⟨w.1, w.2.1, mv _ _ _ _ w.2.2⟩)
/-- the records of the tries from T on, the guards from G on -/
def TRA (h h2 hr hr2 : HV) (T T' G G' : Int) : Prop := (∀ t, T ≤ t → t < T' → h2 1568 t = h 1568 t ∧ h2 1632 t = h 1632 t ∧ h2 1696 t = h 1696 t ∧ h2 1760 t = h 1760 t ∧ h2 1824 t = h 1824 t ∧ h2 1889 t = h 1889 t) ∧ ∀ g, G ≤ g → g < G' → hr2 10976 g = hr 10976 g ∧ hr2 11040 g = hr 11040 g ∧ hr2 11104 g = hr 11104 g ∧ hr2 11168 g = hr 11168 g ∧ hr2 11232 g = hr 11232 g ∧ hr2 11296 g = hr 11296 g ∧ hr2 11361 g = hr 11361 g
theorem CXR.ag {K h hr h2 hr2 : HV} {P P2 : PT} {j lo ft T G : Int} (mP : ∀ c r x E k, P c r x E k → P2 c r x E k) (mv : ∀ k b k' b', VVh h hr k b k' b' → VVh h2 hr2 k b k' b') : ∀ x : CX, (∀ p, lo ≤ p → p < lo + 2 * lps x → cK h2 p = cK h p ∧ cB h2 p = cB h p) → (∀ e ∈ x, e.2.1 = -1 → hr2 10720 (402 * j + e.1) = hr 10720 (402 * j + e.1) ∧ hr2 10784 (402 * j + e.1) = hr 10784 (402 * j + e.1)) → TRA h h2 hr hr2 T (T + ntX x) G (G + ngX K x) → CXR K P h hr j lo ft T G x → CXR K P2 h2 hr2 j lo ft T G x
  | [], _, _, _, _ => trivial
  | e :: y, hc, hl, ht, ⟨C, L, R⟩ => by
    have l0 := lps_0 y
    have n0 := ntX_0 y
    have g0 := ngX_0 (K := K) y
    refine ⟨CXR.ag mP mv y (fun p a b => hc p a (by rw [lps_c]; split <;> omega)) (fun e' m => hl e' (List.mem_cons_of_mem _ m)) ⟨fun t a b => ht.1 t a (by rw [ntX_c]; split <;> omega), fun g a b => ht.2 g a (by rw [ngX_c]; split <;> omega)⟩ C, fun w => ?_, fun w => ?_⟩
    · have L := L w
      unfold LOR at *
      rw [lps_c, if_pos w] at hc
      have c1 := hc (lo + 2 * lps y) (by omega) (by omega)
      have c2 := hc (lo + 2 * lps y + 1) (by omega) (by omega)
      have e1 := hl e (List.mem_cons_self) w
      rw [c1.1, c1.2, c2.1, c2.2, e1.1, e1.2]
      exact L
    · have R := R w
      unfold TRR at *
      have t1 := ht.1 (T + ntX y) (by omega) (by rw [ntX_c, if_neg w]; omega)
      rw [t1.1, t1.2.1, t1.2.2.1, t1.2.2.2.1]
      refine ⟨R.1, R.2.1, R.2.2.1.m mP, R.2.2.2.1, fun z => ?_⟩
      have g1 := ht.2 (G + ngX K y) (by omega) (by rw [ngX_c, if_neg (by intro v; rcases v with v | v; exact w v; exact z v)]; omega)
      rw [g1.1, g1.2.1, g1.2.2.1, g1.2.2.2.1]
      refine ⟨(R.2.2.2.2 z).1, fun p => PND.ag mv t1.2.2.2.2.1 t1.2.2.2.2.2 g1.2.2.2.2.1 g1.2.2.2.2.2.1 g1.2.2.2.2.2.2 ((R.2.2.2.2 z).2 p)⟩
/-- nothing of the frames is touched -/
def AGR (K h h2 hr hr2 : HV) (l : List FRT) : Prop :=
  (∀ k b k' b', VVh h hr k b k' b' → VVh h2 hr2 k b k' b') ∧ (∀ p : Int, 0 ≤ p → p < bsF K l → cK h2 p = cK h p ∧ cB h2 p = cB h p) ∧
  (∀ j : Int, 0 ≤ j → j < (l.length : Int) → h2 1440 j = h 1440 j ∧ h2 1504 j = h 1504 j ∧ hr2 10848 j = hr 10848 j ∧ hr2 10912 j = hr 10912 j) ∧
  (∀ i : Int, 0 ≤ i → i < 420 * (l.length : Int) → hr2 10592 i = hr 10592 i ∧ hr2 10657 i = hr 10657 i) ∧ (∀ i : Int, 0 ≤ i → i < 402 * (l.length : Int) → hr2 10720 i = hr 10720 i ∧ hr2 10784 i = hr 10784 i) ∧
  (∀ i : Int, 0 ≤ i → i < ftF l → hr2 10464 i = hr 10464 i ∧ hr2 10529 i = hr 10529 i) ∧ TRA h h2 hr hr2 0 (ntF l) 0 (ngF K l) ∧ cK h (-1) ≤ cK h2 (-1)
theorem RET.le {K h hr h2 hr2 : HV} {n n2 : Nat} {j : Int} (hn : n2 ≤ n) (e1 : h2 1504 j = h 1504 j) (e2 : hr2 10848 j = hr 10848 j) : ∀ l : List FRT, RET K h hr n j l → RET K h2 hr2 n2 j l
  | [], _ => trivial
  | g :: _, R => by
    unfold RET at *
    rw [e1, e2]
    exact MEM.le hn R
theorem lor_num {K : HV} {P : PT} {h hr : HV} {j lo ft T G : Int} : ∀ x : CX, CXR K P h hr j lo ft T G x → ∀ e ∈ x, e.2.1 = -1 → 0 ≤ e.1 ∧ e.1 < 402
  | [], _, _, m, _ => by cases m
  | a :: y, ⟨C, L, _⟩, e, m, w => by
    rcases List.mem_cons.mp m with q | q
    · subst q; exact (L w).1
    · exact lor_num y C e q w
theorem ALF.ag {K h hr h2 hr2 : HV} {n n2 : Nat} (O : KOK K) (hn : n2 ≤ n) : ∀ l : List FRT, AGR K h h2 hr hr2 l → ALF K h hr n l → ALF K h2 hr2 n2 l
  | [], _, _ => trivial
  | f :: l, A, ⟨F, R⟩ => by
    have z := ALF.sz O l R
    obtain ⟨⟨f0, f1⟩, q, e, x, ln, rk, S, E, C, B⟩ := F
    obtain ⟨mv, a1, a2, a3, a4, a5, a6, a7⟩ := A
    have k := (O.2 f.1 q.1 q.2).1
    have l0 := lps_0 f.2.1
    have n0 := ntX_0 f.2.1
    have g0 := ngX_0 (K := K) f.2.1
    unfold bsF at a1
    unfold ftF at a5
    unfold ntF ngF at a6
    rw [List.length_cons] at a2 a3 a4
    have j2 := a2 l.length (by omega) (by omega)
    refine ⟨⟨⟨by rw [j2.1]; exact f0, by rw [j2.2.2.2]; exact f1⟩, q, e, x, by omega, rk, S.ag O q mv (fun p a b => a1 p (by omega) (by omega)) (fun i a b => a3 i (by omega) (by omega)), E.ag mv (fun p a b => a1 p (by omega) (by omega)) (fun i a b => a5 i (by omega) (by omega)), ?_, RET.le hn j2.2.1 j2.2.2.1 l B⟩, ALF.ag O hn l ⟨mv, fun p a b => a1 p a (by omega), fun j a b => a2 j a (by omega), fun i a b => a3 i a (by omega), fun i a b => a4 i a (by omega), fun i a b => a5 i a (by omega), ⟨fun t a b => a6.1 t a (by omega), fun t a b => a6.2 t a (by omega)⟩, a7⟩ R⟩
    refine CXR.ag (fun c r x E k => MEM.le hn) mv f.2.1 (fun p a b => a1 p (by omega) (by omega)) (fun e' m w => ?_) ⟨fun t a b => a6.1 t (by omega) b, fun t a b => a6.2 t (by omega) b⟩ C
    have := lor_num f.2.1 C e' m w
    exact a4 _ (by omega) (by omega)
theorem AGR.id {K h hr : HV} {l : List FRT} : AGR K h h hr hr l := ⟨fun _ _ _ _ w => w, fun _ _ _ => ⟨Eq.refl _, Eq.refl _⟩, fun _ _ _ => ⟨Eq.refl _, Eq.refl _, Eq.refl _, Eq.refl _⟩, fun _ _ _ => ⟨Eq.refl _, Eq.refl _⟩, fun _ _ _ => ⟨Eq.refl _, Eq.refl _⟩, fun _ _ _ => ⟨Eq.refl _, Eq.refl _⟩, ⟨fun _ _ _ => ⟨Eq.refl _, Eq.refl _, Eq.refl _, Eq.refl _, Eq.refl _, Eq.refl _⟩, fun _ _ _ => ⟨Eq.refl _, Eq.refl _, Eq.refl _, Eq.refl _, Eq.refl _, Eq.refl _, Eq.refl _⟩⟩, Int.le_refl _⟩
