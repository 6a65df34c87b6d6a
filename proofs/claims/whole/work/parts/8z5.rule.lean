/-! THE PURE SIDE, 178: rules on both sides, whole: printed by wip/tools/gen8z5.py -/
/-- what a text's reading may touch, on each side -/
def FIC (T : Int) (h g : HV) : Prop := (∀ o, o ≠ 129 → o ≠ 258 → o ≠ 353 → o ≠ 416 → o ≠ 481 → o ≠ 544 → o ≠ 608 → ¬ (T ≤ o ∧ o ≤ T + 1462) → g o = h o) ∧ ∀ i, i ≠ 2 → (i ≠ 3 ∧ i ≠ 11) → i ≠ 6 → i ≠ 10 → g 258 i = h 258 i
def FIR (S : Int) (h g : HV) : Prop := (∀ o, o ≠ 6603 → o ≠ 9505 → o ≠ 9569 → o ≠ 9632 → o ≠ 9696 → o ≠ 9761 → o ≠ 9824 → o ≠ 9888 → o ≠ 9952 → ¬ (S ≤ o ∧ o ≤ S + 1341) → g o = h o) ∧ ∀ i, ¬ (2 ≤ i ∧ i ≤ 8) → i ≠ 12 → i ≠ 13 → i ≠ 15 → i ≠ 19 → i ≠ 24 → g 6603 i = h 6603 i
theorem FIC.rfl' {T : Int} {h : HV} : FIC T h h := ⟨fun _ _ _ _ _ _ _ _ _ => rfl, fun _ _ _ _ _ => rfl⟩
theorem FIR.rfl' {S : Int} {h : HV} : FIR S h h := ⟨fun _ _ _ _ _ _ _ _ _ _ _ => rfl, fun _ _ _ _ _ _ _ => rfl⟩
theorem FIC.trans {T : Int} {h g k : HV} (a : FIC T h g) (b : FIC T g k) : FIC T h k := ⟨fun o x1 x2 x3 x4 x5 x6 x7 x8 => (b.1 o x1 x2 x3 x4 x5 x6 x7 x8).trans (a.1 o x1 x2 x3 x4 x5 x6 x7 x8), fun i x1 x2 x3 x4 => (b.2 i x1 x2 x3 x4).trans (a.2 i x1 x2 x3 x4)⟩
theorem FIR.trans {S : Int} {h g k : HV} (a : FIR S h g) (b : FIR S g k) : FIR S h k := ⟨fun o x1 x2 x3 x4 x5 x6 x7 x8 x9 y => (b.1 o x1 x2 x3 x4 x5 x6 x7 x8 x9 y).trans (a.1 o x1 x2 x3 x4 x5 x6 x7 x8 x9 y), fun i x1 x2 x3 x4 x5 x6 => (b.2 i x1 x2 x3 x4 x5 x6).trans (a.2 i x1 x2 x3 x4 x5 x6)⟩
theorem FXC.i {T : Int} {h g : HV} (F : FXC T h g) : FIC T h g := ⟨fun o a b c d e f x y => F.1 o a b c d e f x (fun w => y (by omega)) (fun w => y (by omega)), fun i _ b c d => F.2.2 i b c d⟩
theorem FXR.i {S : Int} {h g : HV} (F : FXR S h g) : FIR S h g := ⟨fun o a b c d e f x y z w => F.1 o a b c d e f x y z (fun u => w (by omega)) (fun u => w (by omega)) (fun u => w (by omega)) (fun u => w (by omega)) (fun u => w (by omega)) (fun u => w (by omega)) (fun u => w (by omega)), fun i a b c d e f => F.2.2 i (by omega) (by omega) (by omega) (by omega) (by omega) (by omega) b c d e f⟩
theorem SAC.i {T : Int} {h g : HV} (a : SAC h g) : FIC T h g := ⟨fun o x _ _ _ _ _ _ _ => a o x, fun i _ _ _ _ => by rw [a 258 (by decide)]⟩
theorem SAR.i {S : Int} {h g : HV} (a : SAR h g) : FIR S h g := ⟨fun o x _ _ _ _ _ _ _ _ _ => a.1 o x, fun i x _ _ _ _ _ => a.2 i (by omega) (by omega) (by omega) (by omega) (by omega)⟩
theorem FIC.st {T : Int} {h : HV} {o i v : Int} (w : T ≤ o ∧ o ≤ T + 1462) (hT : TC T) : FIC T h (hset h o i v) := by
  have kT := kTC hT
  exact ⟨fun a _ _ _ _ _ _ _ x => hs_ne (fun u => x (by omega)), fun i _ _ _ _ => by rw [hs_ne (by omega)]⟩
theorem FIR.st {S : Int} {h : HV} {o i v : Int} (w : S ≤ o ∧ o ≤ S + 1341) (hS : TR S) : FIR S h (hset h o i v) := by
  have kS := kTR hS
  exact ⟨fun a _ _ _ _ _ _ _ _ _ x => hs_ne (fun u => x (by omega)), fun i _ _ _ _ _ _ => by rw [hs_ne (by omega)]⟩
theorem FIC.s8 {T : Int} {h : HV} {i v : Int} (w : i = 2 ∨ i = 3 ∨ i = 6 ∨ i = 10) : FIC T h (hset h 258 i v) := ⟨fun a _ x _ _ _ _ _ _ => hs_ne x, fun j a b c d => hcell (by omega)⟩
theorem FIR.s6 {S : Int} {h : HV} {i v : Int} (w : (2 ≤ i ∧ i ≤ 8) ∨ i = 12 ∨ i = 13 ∨ i = 15 ∨ i = 19 ∨ i = 24) : FIR S h (hset h 6603 i v) := ⟨fun a x _ _ _ _ _ _ _ _ _ => hs_ne x, fun j a b c d e f => hcell (by omega)⟩
theorem FIC.bd {T : Int} {h : HV} : FIC T h (bdH h) := by
  unfold bdH
  exact ⟨fun o x _ _ _ _ _ _ _ => by rw [hs_ne x, hs_ne x], fun i _ _ _ _ => by rw [hs_ne (by decide), hs_ne (by decide)]⟩
theorem FIR.bd {S : Int} {h : HV} : FIR S h (bdR h) := FIR.s6 (.inl (by decide))
theorem FIR.of_hm {S : Int} {h g : HV} (e : g = h) : FIR S h g := by rw [e]; exact FIR.rfl'
/-- the numbers at items -/
def NBI (T S s : Int) (h hr : HV) : Prop := (0 ≤ h T 15 ∧ h T 15 ≤ 400 ∧ hr S 14 = h T 15) ∧ (0 ≤ hr 6603 13 ∧ hr 6603 13 ≤ 30) ∧ (0 ≤ h T 17 ∧ 2 * h T 17 ≤ 6 * h T 15 + s) ∧ (0 ≤ hr S 15 ∧ hr S 15 ≤ 11 * h T 15 + hr (S + 84) 6) ∧ (h 258 10 = hr 6603 24 ∧ 0 ≤ h 258 10 ∧ h 258 10 ≤ h T 15) ∧ (0 ≤ hr S 20 ∧ hr S 20 ≤ h T 15) ∧ (0 ≤ hr S 21 ∧ hr S 21 ≤ h T 15) ∧ (0 ≤ hr S 22 ∧ hr S 22 ≤ h T 15) ∧ hr 6603 12 = 0 ∧ h 258 11 = 0
def ITB (T S s : Int) (h hr : HV) : Prop := NBI T S s h hr ∧ LATX (h 258 2) (hr 6603 8) ∧ CLR T S h hr ∧ TRI0 S hr ∧ CLI S hr
def RNM (T S : Int) (h hr : HV) : Prop := ∀ q, 0 ≤ q → q < h (T + 598) 6 → h (T + 1302) q = hr (S + 788) q ∧ 0 ≤ h (T + 1302) q ∧ h (T + 1302) q ≤ 4
def RLS (T S : Int) (h hr : HV) : Prop := h 258 2 = -1 → ∀ q, 0 ≤ q → q < h (T + 598) 6 → RLX T S h hr q
/-- both have met the fault, at items -/
def BXI (T S : Int) (h hr : HV) : Prop := (∃ f, BXC T f h ∧ BXR S f hr) ∧ (0 ≤ h T 17 ∧ h T 17 ≤ 2400) ∧ (0 ≤ h 258 10 ∧ h 258 10 ≤ 400) ∧ 0 ≤ h (T + 598) 6 ∧ h (T + 598) 6 ≤ 12
section SM
variable {bX : Int} {tp : Int → Int} {t T S s s1 s2 f : Int} {h hr g gr k kr m mr : HV} {Q : Int → HV → Prop} {d : Nat}
/-- things that no rule's reading looks at -/
theorem GD.oC {o i v : Int} (D : GD bX tp t T S s h hr) (w : T + 662 ≤ o ∧ o ≤ T + 1429) : GOM bX tp t T S s h hr s (hset h o i v) hr ∨ True := .inr trivial
theorem GD.othC {o i v : Int} (D : GD bX tp t T S s h hr) (w : T + 662 ≤ o ∧ o ≤ T + 1429) : GD bX tp t T S s (hset h o i v) hr ∧ CEP T h (hset h o i v) := by
  have hT := D.2.1.1.1
  have kT := kTC hT
  have fo : ∀ a, a ≠ o → hset h o i v a = h a := fun a x => hs_ne x
  have e8 := fo 258 (by omega)
  have eT := fo T (by omega)
  have D0 := D
  obtain ⟨K, -, -, N, M, L, R⟩ := D
  refine ⟨D0.cls (D0.2.cls (by rw [e8]) (fun a x => fo a (by omega)) ?_ (M.fr (by rw [e8]) (fo _ (by omega)) (fo _ (by omega)) rfl rfl rfl rfl rfl) (L.fr (by rw [e8]) (fo _ (by omega)) (fo _ (by omega)) (fo _ (by omega)) (by rw [eT]; exact Int.le_refl _) (PRE.of_eq (fo _ (by omega))) rfl rfl rfl rfl (Int.le_refl _))) (fo _ (by omega)) (fo _ (by omega)), CEP.of (by rw [eT]) (fo _ (by omega)) (by rw [e8]) (fo _ (by omega))⟩
  unfold NBR STQ at *
  rw [eT, e8]
  exact N
theorem GD.othR {o i v : Int} (D : GD bX tp t T S s h hr) (w : o = S + 788 ∨ o = S + 852) : GD bX tp t T S s h (hset hr o i v) ∧ REP S hr (hset hr o i v) := by
  have hS := D.2.1.2.1
  have kS := kTR hS
  have fo : ∀ a, a ≠ o → hset hr o i v a = hr a := fun a x => hs_ne x
  have e3 := fo 6603 (by omega)
  have eS := fo S (by omega)
  have D0 := D
  obtain ⟨K, -, -, N, M, L, R⟩ := D
  refine ⟨D0.ref (D0.2.ref (by rw [e3]) (fun a x => fo a (by omega)) ?_ (M.fr rfl rfl rfl (by rw [e3]) (fo _ (by omega)) (by rw [e3]) (fo _ (by omega)) (fo _ (by omega))) (L.fr rfl rfl rfl rfl (Int.le_refl _) PRE.rfl' (fo _ (by omega)) (fo _ (by omega)) (fo _ (by omega)) (fo _ (by omega)) (by rw [eS]; exact Int.le_refl _)) (R.fr (by rw [eS]) (fo _ (by omega)) (fo _ (by omega)) (by rw [eS]; exact Int.le_refl _) ⟨by rw [e3], by rw [e3]⟩ ⟨fo _ (by omega), fo _ (by omega), fo _ (by omega), fo _ (by omega)⟩)) (fun a _ _ => by rw [e3]) (fo _ (by omega)), REP.of ⟨by rw [eS], by rw [eS], by rw [eS]⟩ ⟨fo _ (by omega), fo _ (by omega), fo _ (by omega)⟩ ⟨fo _ (by omega), fo _ (by omega), fo _ (by omega)⟩ ⟨by rw [e3], fo _ (by omega)⟩⟩
  unfold NBR STQ at *
  rw [eS, e3, fo (S + 84) (by omega)]
  exact N
theorem BDQ.oth {o i v : Int} (B : BDQ S f hr) (w : S + 788 ≤ o ∧ o ≤ S + 916) : BDQ S f (hset hr o i v) := by
  have kS := kTR B.1.1
  have fo : ∀ a, a ≠ o → hset hr o i v a = hr a := fun a x => hs_ne x
  have e3 := fo 6603 (by omega)
  have eS := fo S (by omega)
  unfold BDQ at *
  rw [e3, eS]
  exact ⟨B.1, B.2.1, fun a x => by rw [fo a (by omega)]; exact B.2.2.1 a x, B.2.2.2⟩
/-- a rule begins: its counts are set to 0 -/
theorem gd_start {x : Int} (I : ITB T S s h hr) (D : TKX tp t T S s g gr) (hs0 : 0 ≤ s) (c1 : ∀ o, o ≠ 129 → o ≠ T + 535 → o ≠ T + 598 → g o = h o) (r1 : ∀ o, o ≠ 6603 → o ≠ S + 149 → o ≠ S + 84 → gr o = hr o) (r2 : ∀ i, i ≠ 2 → i ≠ 3 → i ≠ 4 → i ≠ 5 → i ≠ 6 → gr 6603 i = hr 6603 i) (x1 : gr (S + 84) 6 = x + 1 ∧ hr (S + 84) 6 ≤ x + 1 ∧ x < 12 ∧ 0 ≤ x) : GD 0 tp t T S s (hset g 258 6 0) (hset (hset (hset gr 6603 15 0) 6603 19 0) (S + 916) x (gr S 15)) ∧ PARI (hset g 258 6 0) (hset (hset (hset gr 6603 15 0) 6603 19 0) (S + 916) x (gr S 15)) ∧ (CEP T h (hset g 258 6 0) ∧ REP S hr (hset (hset (hset gr 6603 15 0) 6603 19 0) (S + 916) x (gr S 15))) := by
  obtain ⟨N, LT, L, T0, C0⟩ := I
  have hT := D.2.1.1.1
  have hS := D.2.1.2.1
  have kT := kTC hT
  have kS := kTR hS
  unfold NBI at N
  have a1 : ∀ o, o ≠ 129 → o ≠ 258 → o ≠ T + 535 → o ≠ T + 598 → hset g 258 6 0 o = h o := fun o y1 y2 y3 y4 => by rw [hs_ne y2, c1 o y1 y3 y4]
  have a2 : ∀ i, i ≠ 6 → hset g 258 6 0 258 i = h 258 i := fun i y => by rw [hcell y, c1 258 (by decide) (by omega) (by omega)]
  have a3 : hset g 258 6 0 258 6 = 0 := hcel1
  have a4 : ∀ o, o ≠ 258 → hset g 258 6 0 o = g o := fun o y => hs_ne y
  have eT := a1 T (by omega) (by omega) (by omega) (by omega)
  have b1 : ∀ o, o ≠ 6603 → o ≠ S + 916 → o ≠ S + 149 → o ≠ S + 84 → hset (hset (hset gr 6603 15 0) 6603 19 0) (S + 916) x (gr S 15) o = hr o := fun o y1 y2 y3 y4 => by rw [hs_ne y2, hs_ne y1, hs_ne y1, r1 o y1 y3 y4]
  have b2 : ∀ i, i ≠ 15 → i ≠ 19 → hset (hset (hset gr 6603 15 0) 6603 19 0) (S + 916) x (gr S 15) 6603 i = gr 6603 i := fun i y1 y2 => by rw [hs_ne (by omega), hcell y2, hcell y1]
  have b3 : hset (hset (hset gr 6603 15 0) 6603 19 0) (S + 916) x (gr S 15) 6603 15 = 0 := by rw [hs_ne (by omega), hcell (by decide), hcel1]
  have b4 : hset (hset (hset gr 6603 15 0) 6603 19 0) (S + 916) x (gr S 15) 6603 19 = 0 := by rw [hs_ne (by omega), hcel1]
  have b5 : hset (hset (hset gr 6603 15 0) 6603 19 0) (S + 916) x (gr S 15) (S + 84) = gr (S + 84) := by rw [hs_ne (by omega), hs_ne (by omega), hs_ne (by omega)]
  have b6 : hset (hset (hset gr 6603 15 0) 6603 19 0) (S + 916) x (gr S 15) (S + 916) x = gr S 15 := hcel1
  have eS := b1 S (by omega) (by omega) (by omega) (by omega)
  have gS : gr S = hr S := r1 S (by omega) (by omega) (by omega)
  have b24 : hset (hset (hset gr 6603 15 0) 6603 19 0) (S + 916) x (gr S 15) 6603 24 = hr 6603 24 := by rw [b2 24 (by decide) (by decide), r2 24 (by decide) (by decide) (by decide) (by decide) (by decide)]
  have D1 : TKX tp t T S s (hset g 258 6 0) (hset (hset (hset gr 6603 15 0) 6603 19 0) (S + 916) x (gr S 15)) := D.fr ⟨a4 _ (by decide), a4 _ (by decide), hcell (by decide)⟩ (fun o y => a4 o (by omega)) (fun i _ _ => b2 i (by omega) (by omega)) ⟨by rw [hs_ne (by omega), hs_ne (by decide), hs_ne (by decide)], b2 9 (by decide) (by decide)⟩ (fun o y => by rw [hs_ne (by omega), hs_ne (by omega), hs_ne (by omega)])
  generalize hset g 258 6 0 = G at *
  generalize hset (hset (hset gr 6603 15 0) 6603 19 0) (S + 916) x (gr S 15) = R at *
  refine ⟨⟨D1.1, D1.2.1, D1.2.2, ?_, ⟨⟨?_, ?_, ?_, ?_, ?_⟩, ?_⟩, L.fr (a2 10 (by decide)) (a1 _ (by omega) (by omega) (by omega) (by omega)) (a1 _ (by omega) (by omega) (by omega) (by omega)) (a1 _ (by omega) (by omega) (by omega) (by omega)) (by rw [eT]; exact Int.le_refl _) (PRE.of_eq (a1 _ (by omega) (by omega) (by omega) (by omega))) (b1 _ (by omega) (by omega) (by omega) (by omega)) (b1 _ (by omega) (by omega) (by omega) (by omega)) (b1 _ (by omega) (by omega) (by omega) (by omega)) (b1 _ (by omega) (by omega) (by omega) (by omega)) (by rw [eS]; exact Int.le_refl _), ?_, ?_, ?_⟩, ⟨by omega, by omega, fun v v0 v1 => by omega, b4⟩, CEP.of (by rw [eT]) (a1 _ (by omega) (by omega) (by omega) (by omega)) (a2 10 (by decide)) (a1 _ (by omega) (by omega) (by omega) (by omega)), REP.of ⟨by rw [eS], by rw [eS], by rw [eS]⟩ ⟨b1 _ (by omega) (by omega) (by omega) (by omega), b1 _ (by omega) (by omega) (by omega) (by omega), b1 _ (by omega) (by omega) (by omega) (by omega)⟩ ⟨b1 _ (by omega) (by omega) (by omega) (by omega), b1 _ (by omega) (by omega) (by omega) (by omega), b1 _ (by omega) (by omega) (by omega) (by omega)⟩ ⟨b24, b1 _ (by omega) (by omega) (by omega) (by omega)⟩⟩
  · have r13 := r2 13 (by decide) (by decide) (by decide) (by decide) (by decide)
    unfold NBR
    rw [eT, a3, a2 10 (by decide), eS, b3, b4, b24, b5, b2 13 (by decide) (by decide)]
    refine ⟨by omega, ⟨fun w => absurd w (by decide), by omega⟩, by omega, by omega, by omega, by omega, by omega, by omega, by omega, by omega, by omega⟩
  · intro v w v0 v1
    omega
  · intro v w v0 v1
    omega
  · intro v v0 v1
    omega
  · intro v v0 v1
    omega
  · intro v v0 v1
    omega
  · intro v v0 v1
    omega
  · unfold TRI0
    rw [eS, b1 (S + 980) (by omega) (by omega) (by omega) (by omega), b1 (S + 1044) (by omega) (by omega) (by omega) (by omega)]
    exact T0
  · unfold RFI
    rw [eS, b4, b5, x1.1, show x + 1 - 1 = x by omega, b6, gS]
    exact ⟨Int.le_refl _, fun v v0 v1 => by omega⟩
  · exact C0.gr (by rw [eS]; exact Int.le_refl _) (fun i _ _ => by rw [b1 (S + 980) (by omega) (by omega) (by omega) (by omega)]) b24 (b1 _ (by omega) (by omega) (by omega) (by omega))
/-- a rule, behind a fault: from the names' end on -/
theorem xr2 {x : Int} {n2 : AV} {e : Nat} (B : BXC T f h) : G fz1 (e + 10) 72 2 [(3, 258), (0, x), n2] [] h Q = Q 0 h := by
  have hT := B.1.1
  have sg : ∀ Q, Sp fz1 (e + 9) 58 [(3, 258), (0, 41)] h Q = Q 0 h := fun Q => B.sg (d := e + 8)
  have st : ∀ Q, Sp fz1 (e + 9) 41 [(3, 258)] h Q = Q 0 h := fun Q => B.c41 (d := e + 8)
  rw [q72_2]
  simp (implicitDefEqProofs := false) (disch := omega) only [b72_2, x_aload0, y_call41, y_call58, x_iconst, x_ifCond_ne_3, x_return, klp_0, klp_1, klp_2, klp_3, klp_9, KC_0, KC_1, KC_2, KC_3, KC_4, ne_eq, not_false_eq_true, not_true_eq_false, true_and, and_true, and_self, implies_true, eq_self, true_imp_iff, false_implies, Int.reduceEq, Int.reduceNe, Int.reduceMod, Int.reduceMul, Int.reduceAdd, Int.reduceSub, Int.reduceLT, Int.reduceLE, Nat.reduceAdd, Nat.reduceLeDiff, Nat.reduceLT, Nat.reduceSub, reduceIte, wds_n, wds_0, wds_1, wds_2, wds_3, or_true, true_or, or_false, false_or, or_self, false_and, and_false, d_pos, d_s1, d_s2, d_s3, d_s4, d_s5, d_s6, d_s7, d_s8, Classical.not_not, c12 hT, c12l hT, c12k hT, c13 hT, c13l hT, c13k hT, c14 hT, c14l hT, c14k hT, z258_0, z258_5, z416_l, TC_0 hT, TC_k hT, sg, st, d_s9, d_s10, d_s11, d_s12, d_s13, d_s14, d_s15, d_s16, d_s17, d_s18, d_s19, d_s20, d_s21, d_s22, d_s23, d_s24, d_s25, d_s26, d_s27, d_s28, d_s29, d_s30, hs_ne, hcell, hcel1, le_sub1, le_T, le_F, lt_T, lt_F, eq_F, w32_T, bz0, bz1, lc_le, lc_ge, lc_lt, lc_gt, lc_eq]
theorem zr5 {y : Int} {l3 : AV} {e2 : Nat} (B : BDQ S f kr) (hy : 0 ≤ y ∧ y < 12) : ∃ gr, BDQ S f gr ∧ FIR S kr gr ∧ ∀ Q, G fz1 (e2 + 10) 339 3 [(3, 6603), (0, y), (0, 0), l3] [] kr Q = Q 0 gr := by
  have hS := B.1.1
  have kS := kTR hS
  have h9 := B.1.2
  have gd : ∀ Q, Sp fz1 (e2 + 9) 325 [(3, 6603)] kr Q = Q 0 kr := fun Q => B.g325
  refine ⟨hset kr (S + 852) y (kr 6603 15), B.oth (by omega), FIR.st (by omega) hS, fun Q => ?_⟩
  by_cases c : 0 < kr 6603 19
  · rw [q339_3]
    simp (implicitDefEqProofs := false) (disch := omega) only [b339_3, x_aload0, y_call325, y_call341, y_call365, x_gc_11395, x_gc_11403, x_gf_11416, x_goto_4, x_iaload, x_iconst, x_ifCond_eq_5, x_if_icmp_ge_5, x_if_icmp_ne_4, x_iload2, x_iload3, x_istore3, x_laload, klp_0, klp_1, klp_2, klp_3, klp_9, KC_0, KC_1, KC_2, KC_3, KC_4, ne_eq, not_false_eq_true, not_true_eq_false, true_and, and_true, and_self, implies_true, eq_self, true_imp_iff, false_implies, Int.reduceEq, Int.reduceNe, Int.reduceMod, Int.reduceMul, Int.reduceAdd, Int.reduceSub, Int.reduceLT, Int.reduceLE, Nat.reduceAdd, Nat.reduceLeDiff, Nat.reduceLT, Nat.reduceSub, reduceIte, wds_n, wds_0, wds_1, wds_2, wds_3, or_true, true_or, or_false, false_or, or_self, false_and, and_false, d_pos, d_s1, d_s2, d_s3, d_s4, d_s5, d_s6, d_s7, d_s8, Classical.not_not, z6603_16, z9569_l, z6603_17, z9632_l, z6603_18, z9696_l, r11 hS, r11l hS, r11k hS, r12 hS, r12l hS, r12k hS, r13 hS, r13l hS, r13k hS, r17 hS, r17l hS, r17k hS, TR_0 hS, TR_k hS, gd, c, d_s9, d_s10, d_s11, d_s12, d_s13, d_s14, d_s15, d_s16, d_s17, d_s18, d_s19, d_s20, d_s21, d_s22, d_s23, d_s24, d_s25, d_s26, d_s27, d_s28, d_s29, d_s30, hs_ne, hcell, hcel1, le_sub1, le_T, le_F, lt_T, lt_F, eq_F, w32_T, bz0, bz1, lc_le, lc_ge, lc_lt, lc_gt, lc_eq]
    rw [q339_5]
    simp (implicitDefEqProofs := false) (disch := omega) only [b339_5, x_aload0, x_gc_12387, x_gf_11339, x_gf_11384, x_iastore, x_iload1, x_return, klp_0, klp_1, klp_2, klp_3, klp_9, KC_0, KC_1, KC_2, KC_3, KC_4, ne_eq, not_false_eq_true, not_true_eq_false, true_and, and_true, and_self, implies_true, eq_self, true_imp_iff, false_implies, Int.reduceEq, Int.reduceNe, Int.reduceMod, Int.reduceMul, Int.reduceAdd, Int.reduceSub, Int.reduceLT, Int.reduceLE, Nat.reduceAdd, Nat.reduceLeDiff, Nat.reduceLT, Nat.reduceSub, reduceIte, wds_n, wds_0, wds_1, wds_2, wds_3, or_true, true_or, or_false, false_or, or_self, false_and, and_false, d_pos, d_s1, d_s2, d_s3, d_s4, d_s5, d_s6, d_s7, d_s8, Classical.not_not, z6603_16, z9569_l, z6603_17, z9632_l, z6603_18, z9696_l, r11 hS, r11l hS, r11k hS, r12 hS, r12l hS, r12k hS, r13 hS, r13l hS, r13k hS, r17 hS, r17l hS, r17k hS, TR_0 hS, TR_k hS, h9, d_s9, d_s10, d_s11, d_s12, d_s13, d_s14, d_s15, d_s16, d_s17, d_s18, d_s19, d_s20, d_s21, d_s22, d_s23, d_s24, d_s25, d_s26, d_s27, d_s28, d_s29, d_s30, hs_ne, hcell, hcel1, le_sub1, le_T, le_F, lt_T, lt_F, eq_F, w32_T, bz0, bz1, lc_le, lc_ge, lc_lt, lc_gt, lc_eq]
  · rw [q339_3]
    simp (implicitDefEqProofs := false) (disch := omega) only [b339_3, x_aload0, y_call325, y_call341, y_call365, x_gc_11395, x_gc_11403, x_gf_11416, x_goto_4, x_iaload, x_iconst, x_ifCond_eq_5, x_if_icmp_ge_5, x_if_icmp_ne_4, x_iload2, x_iload3, x_istore3, x_laload, klp_0, klp_1, klp_2, klp_3, klp_9, KC_0, KC_1, KC_2, KC_3, KC_4, ne_eq, not_false_eq_true, not_true_eq_false, true_and, and_true, and_self, implies_true, eq_self, true_imp_iff, false_implies, Int.reduceEq, Int.reduceNe, Int.reduceMod, Int.reduceMul, Int.reduceAdd, Int.reduceSub, Int.reduceLT, Int.reduceLE, Nat.reduceAdd, Nat.reduceLeDiff, Nat.reduceLT, Nat.reduceSub, reduceIte, wds_n, wds_0, wds_1, wds_2, wds_3, or_true, true_or, or_false, false_or, or_self, false_and, and_false, d_pos, d_s1, d_s2, d_s3, d_s4, d_s5, d_s6, d_s7, d_s8, Classical.not_not, z6603_16, z9569_l, z6603_17, z9632_l, z6603_18, z9696_l, r11 hS, r11l hS, r11k hS, r12 hS, r12l hS, r12k hS, r13 hS, r13l hS, r13k hS, r17 hS, r17l hS, r17k hS, TR_0 hS, TR_k hS, gd, c, d_s9, d_s10, d_s11, d_s12, d_s13, d_s14, d_s15, d_s16, d_s17, d_s18, d_s19, d_s20, d_s21, d_s22, d_s23, d_s24, d_s25, d_s26, d_s27, d_s28, d_s29, d_s30, hs_ne, hcell, hcel1, le_sub1, le_T, le_F, lt_T, lt_F, eq_F, w32_T, bz0, bz1, lc_le, lc_ge, lc_lt, lc_gt, lc_eq]
    rw [q339_5]
    simp (implicitDefEqProofs := false) (disch := omega) only [b339_5, x_aload0, x_gc_12387, x_gf_11339, x_gf_11384, x_iastore, x_iload1, x_return, klp_0, klp_1, klp_2, klp_3, klp_9, KC_0, KC_1, KC_2, KC_3, KC_4, ne_eq, not_false_eq_true, not_true_eq_false, true_and, and_true, and_self, implies_true, eq_self, true_imp_iff, false_implies, Int.reduceEq, Int.reduceNe, Int.reduceMod, Int.reduceMul, Int.reduceAdd, Int.reduceSub, Int.reduceLT, Int.reduceLE, Nat.reduceAdd, Nat.reduceLeDiff, Nat.reduceLT, Nat.reduceSub, reduceIte, wds_n, wds_0, wds_1, wds_2, wds_3, or_true, true_or, or_false, false_or, or_self, false_and, and_false, d_pos, d_s1, d_s2, d_s3, d_s4, d_s5, d_s6, d_s7, d_s8, Classical.not_not, z6603_16, z9569_l, z6603_17, z9632_l, z6603_18, z9696_l, r11 hS, r11l hS, r11k hS, r12 hS, r12l hS, r12k hS, r13 hS, r13l hS, r13k hS, r17 hS, r17l hS, r17k hS, TR_0 hS, TR_k hS, h9, d_s9, d_s10, d_s11, d_s12, d_s13, d_s14, d_s15, d_s16, d_s17, d_s18, d_s19, d_s20, d_s21, d_s22, d_s23, d_s24, d_s25, d_s26, d_s27, d_s28, d_s29, d_s30, hs_ne, hcell, hcel1, le_sub1, le_T, le_F, lt_T, lt_F, eq_F, w32_T, bz0, bz1, lc_le, lc_ge, lc_lt, lc_gt, lc_eq]
theorem zr2 {y : Int} {l2 l3 : AV} {e2 : Nat} {r1 : HV} (h9 : hr 6603 9 = S) (hS : TR S) (hy : 0 ≤ y ∧ y < 12) (sg : ∀ Q, Sp fz1 (e2 + 9) 333 [(3, 6603), (0, 41)] (hset hr (S + 788) y (hr 6603 15)) Q = Q 0 r1) (B : BDQ S f r1) (l : r1 S 15 + 1 ≤ 11 * r1 S 14 + 14) : ∃ gr, BDQ S f gr ∧ FIR S r1 gr ∧ ∀ Q, G fz1 (e2 + 10) 339 2 [(3, 6603), (0, y), l2, l3] [] hr Q = Q 0 gr := by
  have kS := kTR hS
  obtain ⟨m1, ⟨B1, F1, a1, a2, -⟩, x1⟩ := B.bl
  obtain ⟨m2, ⟨B2, F2, c1, c2, -⟩, x2⟩ := B1.cx (p := 29) (a := 0) (b := 0) (by omega)
  have bl : ∀ Q, Sp fz1 (e2 + 9) 343 [(3, 6603)] r1 Q = Q 0 m1 := fun Q => x1 (e2 + 7) Q
  obtain ⟨gr, B3, F3, x3⟩ := zr5 (e2 := e2) (l3 := l3) B2 hy
  refine ⟨gr, B3, F1.i.trans (F2.i.trans F3), fun Q => ?_⟩
  rw [← x3 Q, q339_2]
  simp (implicitDefEqProofs := false) (disch := omega) only [b339_2, x_aload0, y_call333, y_call343, y_call347, x_gc_12379, x_gf_11339, x_gf_11384, x_goto_3, x_iastore, x_iconst, x_iload1, x_istore2, x_pop0, x_pop3, klp_0, klp_1, klp_2, klp_3, klp_9, KC_0, KC_1, KC_2, KC_3, KC_4, ne_eq, not_false_eq_true, not_true_eq_false, true_and, and_true, and_self, implies_true, eq_self, true_imp_iff, false_implies, Int.reduceEq, Int.reduceNe, Int.reduceMod, Int.reduceMul, Int.reduceAdd, Int.reduceSub, Int.reduceLT, Int.reduceLE, Nat.reduceAdd, Nat.reduceLeDiff, Nat.reduceLT, Nat.reduceSub, reduceIte, wds_n, wds_0, wds_1, wds_2, wds_3, or_true, true_or, or_false, false_or, or_self, false_and, and_false, d_pos, d_s1, d_s2, d_s3, d_s4, d_s5, d_s6, d_s7, d_s8, Classical.not_not, z6603_16, z9569_l, z6603_17, z9632_l, z6603_18, z9696_l, r11 hS, r11l hS, r11k hS, r12 hS, r12l hS, r12k hS, r13 hS, r13l hS, r13k hS, r17 hS, r17l hS, r17k hS, TR_0 hS, TR_k hS, h9, sg, bl, x2, d_s9, d_s10, d_s11, d_s12, d_s13, d_s14, d_s15, d_s16, d_s17, d_s18, d_s19, d_s20, d_s21, d_s22, d_s23, d_s24, d_s25, d_s26, d_s27, d_s28, d_s29, d_s30, hs_ne, hcell, hcel1, le_sub1, le_T, le_F, lt_T, lt_F, eq_F, w32_T, bz0, bz1, lc_le, lc_ge, lc_lt, lc_gt, lc_eq]
end SM
