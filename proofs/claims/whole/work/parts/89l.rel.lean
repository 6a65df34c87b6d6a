/-! THE PURE SIDE, 82: the relation of the two halves, but for code and machine: printed by wip/tools/gen89l.py -/
def RAb (h : HV) : Prop := ∀ s, 0 ≤ s → s < 10 → h 11744 s = h 2656 s
def RMi (h : HV) : Prop := h (h 6603 9) 14 = h (h 64 8) 15 ∧ h 6603 55 = h 1157 15 ∧ h 64 12 = h 6603 53 ∧ h 2568 1 = h 64 8
/-- the values' two arrays, and the room -/
def RVl (h : HV) : Prop := NFA (h 0 0) (h 1222 0) 32 1312 ∧ NFA (h 0 0) (h 1222 1) 33 1377 ∧ h 1222 0 ≠ h 643 0 ∧ h 1222 1 ≠ h 643 1 ∧ (256 ≤ h (h 1222 0) (-1) ∧ h (h 1222 0) (-1) ≤ 16384) ∧ (256 ≤ h (h 1222 1) (-1) ∧ h (h 1222 1) (-1) ≤ 16384)
def RRm (h : HV) : Prop := 64 * (h 0 0 - 204) ≤ rm h + h (h 1222 0) (-1) + h (h 1222 1) (-1) ∧ h 0 1 ≤ 509953 + 2 * (rm h + h (h 1222 0) (-1) + h (h 1222 1) (-1))
/-- an int; the bits of a real; what an item of a row of a sort may be -/
def I32 (v : Int) : Prop := -2147483648 ≤ v ∧ v ≤ 2147483647
def CANR (v : Int) : Prop := L64 v ∧ (v = 9221120237041090560 ∨ FP.Core.val64 (d_U v) ≠ .nan)
def ITK (s n : Int) (kd : Int → Int) (v : Int) : Prop := (s = 4 → I32 v) ∧ (s = 5 → CANR v) ∧ (6 ≤ s → v = -9 ∨ (0 ≤ v ∧ v < n) ∧ (s = 7 → 2 ≤ kd v))
def RIt (h : HV) : Prop := ∀ j, 0 ≤ j → j < h 643 2 → (4 ≤ h 10272 (j + rb h) ∧ h 10272 (j + rb h) ≤ 7) ∧ ∀ i, 0 ≤ i → i < rwZ h j → ITK (h 10272 (j + rb h)) (h 836 4) (h 928) (rwI h j i)
def RB (h : HV) : Prop := RTx h ∧ RTg h ∧ RTu h ∧ RTl h ∧ RTm h ∧ RTp h ∧ RPp h ∧ RTb h ∧ RTw h ∧ RTa h ∧ RTt h ∧ RTi h ∧ RCv h ∧ RAb h ∧ RSd h ∧ RCh h ∧ RPc h ∧ RRw h ∧ RMk h ∧ RGv h ∧ RMi h ∧ RVl h ∧ RRm h ∧ RIt h
/-- the texts at hand are the same -/
def TXF (h h2 : HV) : Prop := h2 64 8 = h 64 8 ∧ h2 6603 9 = h 6603 9 ∧ (∀ x, 0 ≤ x → x < 1450 → h2 (h 64 8 + x) = h (h 64 8 + x)) ∧ (∀ x, 0 ≤ x → x < 1310 → h2 (h 6603 9 + x) = h (h 6603 9 + x))
theorem txf_U {h h2 : HV} (F : TXF h h2) : h2 (h 64 8) = h (h 64 8) := by have := F.2.2.1 0 (by decide) (by decide); rw [Int.add_zero] at this; exact this
theorem txf_S {h h2 : HV} (F : TXF h h2) : h2 (h 6603 9) = h (h 6603 9) := by have := F.2.2.2 0 (by decide) (by decide); rw [Int.add_zero] at this; exact this
theorem f_X {h h2 : HV} (F : TXF h h2) (R : RTx h) : RTx h2 := by
  unfold RTx
  rw [F.1, F.2.1, F.2.2.1 598 (by decide) (by decide), F.2.2.2 84 (by decide) (by decide)]; exact R
theorem f_G {h h2 : HV} (F : TXF h h2) (R : RTg h) : RTg h2 := by
  unfold RTg
  rw [F.1, F.2.1, F.2.2.1 598 (by decide) (by decide), F.2.2.1 854 (by decide) (by decide), F.2.2.2 404 (by decide) (by decide)]; exact R
theorem f_U {h h2 : HV} (F : TXF h h2) (R : RTu h) : RTu h2 := by
  have l : lsT h2 = lsT h := by funext l; unfold lsT; rw [F.2.1, F.2.2.2 660 (by decide) (by decide)]
  unfold RTu
  rw [l, F.1, txf_U F, F.2.2.1 598 (by decide) (by decide), F.2.2.1 1174 (by decide) (by decide)]; exact R
theorem f_L {h h2 : HV} (F : TXF h h2) (R : RTl h) : RTl h2 := by
  unfold RTl
  rw [F.1, F.2.1, F.2.2.1 598 (by decide) (by decide), F.2.2.1 790 (by decide) (by decide), F.2.2.1 918 (by decide) (by decide), F.2.2.1 1046 (by decide) (by decide), F.2.2.2 340 (by decide) (by decide), F.2.2.2 468 (by decide) (by decide), F.2.2.2 596 (by decide) (by decide)]; exact R
theorem f_M {h h2 : HV} (F : TXF h h2) (R : RTm h) : RTm h2 := by
  unfold RTm
  rw [F.1, F.2.1, F.2.2.1 598 (by decide) (by decide), F.2.2.1 662 (by decide) (by decide), F.2.2.1 982 (by decide) (by decide), F.2.2.2 212 (by decide) (by decide), F.2.2.2 532 (by decide) (by decide)]; exact R
theorem f_TP {h h2 : HV} (e1 : h2 129 1 = h 129 1) (e2 : h2 6603 1 = h 6603 1) (e3 : h2 6691 = h 6691) (e4 : h2 227 = h 227) (R : RTp h) : RTp h2 := by unfold RTp; rw [e1, e2, e3, e4]; exact R
theorem f_P {h h2 : HV} (e0 : h2 6603 25 = h 6603 25) (e1 : h2 836 4 = h 836 4) (e2 : h2 10016 = h 10016) (e3 : h2 928 = h 928) (e4 : h2 10080 = h 10080) (e5 : h2 992 = h 992) (e6 : h2 10144 = h 10144) (e7 : h2 1056 = h 1056) (R : RPp h) : RPp h2 := by unfold RPp; rw [e0, e1, e2, e3, e4, e5, e6, e7]; exact R
theorem f_B {h h2 : HV} (e0 : h2 6603 65 = h 6603 65) (e1 : h2 1927 1 = h 1927 1) (e2 : h2 11680 = h 11680) (e3 : h2 2016 = h 2016) (e4 : h2 11808 = h 11808) (e5 : h2 2080 = h 2080) (R : RTb h) : RTb h2 := by unfold RTb; rw [e0, e1, e2, e3, e4, e5]; exact R
theorem f_W {h h2 : HV} (e5 : h2 2080 = h 2080) (R : RTw h) : RTw h2 := by unfold RTw; rw [e5]; exact R
theorem f_A {h h2 : HV} (e1 : ∀ s, 12 ≤ s → s ≤ 15 → h2 1927 s = h 1927 s) (e2 : ∀ s, 69 ≤ s → s ≤ 73 → s ≠ 71 → h2 6603 s = h 6603 s) (R : RTa h) : RTa h2 := by
  unfold RTa
  rw [e1 12 (by decide) (by decide), e1 13 (by decide) (by decide), e1 14 (by decide) (by decide), e1 15 (by decide) (by decide), e2 69 (by decide) (by decide) (by decide), e2 70 (by decide) (by decide) (by decide), e2 72 (by decide) (by decide) (by decide), e2 73 (by decide) (by decide) (by decide)]; exact R
theorem f_pr {h h2 : HV} (F : TXF h h2) : perF h2 = perF h ∧ rooF h2 = rooF h := by
  constructor
  · funext v; unfold perF; rw [F.1, F.2.2.1 598 (by decide) (by decide)]
  · funext v; unfold rooF; rw [F.1, F.2.2.1 598 (by decide) (by decide)]
theorem f_T {h h2 : HV} (F : TXF h h2) (e0 : h2 1927 0 = h 1927 0) (e1 : h2 1927 13 = h 1927 13) (e2 : h2 11872 = h 11872) (e3 : h2 11936 = h 11936) (e4 : h2 2528 = h 2528) (R : RTt h) : RTt h2 := by
  unfold RTt
  rw [(f_pr F).1, (f_pr F).2, F.1, txf_U F, e0, e1, e2, e3, e4]; exact R
theorem f_I {h h2 : HV} (F : TXF h h2) (e1 : h2 1927 13 = h 1927 13) (e4 : h2 2528 = h 2528) (R : RTi h) : RTi h2 := by
  unfold RTi
  rw [F.1, txf_U F, F.2.2.1 598 (by decide) (by decide), e1, e4]; exact R
theorem f_V {h h2 : HV} (F : TXF h h2) (e0 : h2 2568 4 = h 2568 4) (e1 : h2 1927 13 = h 1927 13) (e2 : h2 6603 71 = h 6603 71) (e3 : h2 12896 = h 12896) (e4 : h2 2720 = h 2720) (R : RCv h) : RCv h2 := by
  unfold RCv
  rw [F.1, txf_U F, e0, e1, e2, e3, e4]; exact R
theorem f_Ab {h h2 : HV} (e0 : h2 11744 = h 11744) (e1 : h2 2656 = h 2656) (R : RAb h) : RAb h2 := by unfold RAb; rw [e0, e1]; exact R
theorem f_Sd {h h2 : HV} (e0 : h2 64 16 = h 64 16) (e1 : h2 6603 61 = h 6603 61) (e2 : h2 11488 = h 11488) (e3 : h2 6432 = h 6432) (R : RSd h) : RSd h2 := by unfold RSd; rw [e0, e1, e2, e3]; exact R
theorem f_Ch {h h2 : HV} (F : TXF h h2) (e0 : h2 836 4 = h 836 4) (e1 : h2 12384 = h 12384) (e2 : h2 3104 = h 3104) (e3 : h2 12448 = h 12448) (e4 : h2 3040 = h 3040) (e5 : h2 12512 = h 12512) (e6 : h2 3168 = h 3168) (e7 : h2 928 = h 928) (e8 : h2 12576 = h 12576) (e9 : h2 3232 = h 3232) (e10 : h2 6603 86 = h 6603 86) (e11 : h2 2953 6 = h 2953 6) (R : RCh h) : RCh h2 := by
  unfold RCh
  rw [F.1, F.2.2.1 598 (by decide) (by decide), e0, e1, e2, e3, e4, e5, e6, e7, e8, e9, e10, e11]; exact R
theorem f_Pc {h h2 : HV} (F : TXF h h2) (e0 : h2 836 4 = h 836 4) (e1 : h2 2953 1 = h 2953 1) (e9 : h2 3232 = h 3232) (R : RPc h) : RPc h2 := by
  unfold RPc
  rw [F.1, F.2.1, F.2.2.1 598 (by decide) (by decide), F.2.2.1 1110 (by decide) (by decide), F.2.2.2 724 (by decide) (by decide), e0, e1, e9]; exact R
/-- nothing of the rows, values and the room is touched -/
def DYF (h h2 : HV) : Prop := h2 643 = h 643 ∧ h2 1222 = h 1222 ∧ h2 0 = h 0 ∧ h2 (h 643 0) = h (h 643 0) ∧ h2 (h 643 1) = h (h 643 1) ∧ h2 (h 1222 0) = h (h 1222 0) ∧ h2 (h 1222 1) = h (h 1222 1) ∧ h2 10336 = h 10336 ∧ h2 10401 = h 10401 ∧ h2 10272 = h 10272 ∧ h2 6603 30 = h 6603 30
theorem f_rb {h h2 : HV} (D : DYF h h2) : rb h2 = rb h ∧ rwZ h2 = rwZ h ∧ rwI h2 = rwI h := by
  obtain ⟨d1, d2, d3, d4, d5, d6, d7, d8, d9, d10, d11⟩ := D
  refine ⟨by unfold rb; rw [d1], by funext r; unfold rwZ; rw [d1, d4], by funext r i; unfold rwI; rw [d1, d4, d5]⟩
theorem f_Rw {h h2 : HV} (D : DYF h h2) (R : RRw h) : RRw h2 := by
  obtain ⟨b1, b2, b3⟩ := f_rb D
  obtain ⟨d1, d2, d3, d4, d5, d6, d7, d8, d9, d10, d11⟩ := D
  unfold RRw RW
  rw [b1, b2, b3, d1, d3, d4, d5, d8, d9, d11]; exact R
theorem f_Mk {h h2 : HV} (D : DYF h h2) (e0 : h2 836 4 = h 836 4) (e1 : h2 1120 = h 1120) (e2 : h2 10208 = h 10208) (e3 : h2 928 = h 928) (R : RMk h) : RMk h2 := by
  obtain ⟨b1, b2, b3⟩ := f_rb D
  unfold RMk
  rw [b1, D.1, D.2.2.2.2.2.2.2.2.2.1, e0, e1, e2, e3]; exact R
theorem f_Gv {h h2 : HV} (D : DYF h h2) (e0 : h2 64 10 = h 64 10) (e1 : h2 64 11 = h 64 11) (e2 : h2 6603 58 = h 6603 58) (e3 : h2 6603 59 = h 6603 59) (R : RGv h) : RGv h2 := by
  obtain ⟨b1, b2, b3⟩ := f_rb D
  unfold RGv
  rw [b1, D.1, e0, e1, e2, e3]; exact R
theorem f_Mi {h h2 : HV} (F : TXF h h2) (e1 : h2 6603 55 = h 6603 55) (e2 : h2 1157 15 = h 1157 15) (e3 : h2 64 12 = h 64 12) (e4 : h2 6603 53 = h 6603 53) (e5 : h2 2568 1 = h 2568 1) (R : RMi h) : RMi h2 := by
  unfold RMi
  rw [F.1, F.2.1, txf_U F, txf_S F, e1, e2, e3, e4, e5]; exact R
theorem f_Vl {h h2 : HV} (D : DYF h h2) (R : RVl h) : RVl h2 := by
  obtain ⟨d1, d2, d3, d4, d5, d6, d7, d8, d9, d10, d11⟩ := D
  unfold RVl
  rw [d1, d2, d3, d6, d7]; exact R
theorem f_Itm {h h2 : HV} (D : DYF h h2) (e : h 836 4 ≤ h2 836 4) (e9 : ∀ p, 0 ≤ p → p < h 836 4 → h2 928 p = h 928 p) (R : RIt h) : RIt h2 := by
  obtain ⟨b1, b2, b3⟩ := f_rb D
  intro j j0 j1
  rw [D.1] at j1
  rw [b1, b2, b3, D.2.2.2.2.2.2.2.2.2.1]
  refine ⟨(R j j0 j1).1, fun i i0 i1 => ?_⟩
  obtain ⟨q1, q2, q3⟩ := (R j j0 j1).2 i i0 i1
  exact ⟨q1, q2, fun w => by
    rcases q3 w with t | ⟨t, s⟩
    · exact .inl t
    · exact .inr ⟨by omega, fun z => by rw [e9 _ t.1 t.2]; exact s z⟩⟩
theorem f_It {h h2 : HV} (D : DYF h h2) (e : h2 836 4 = h 836 4) (e9 : h2 928 = h 928) (R : RIt h) : RIt h2 := f_Itm D (by omega) (fun _ _ _ => by rw [e9]) R
theorem f_Rm {h h2 : HV} (D : DYF h h2) (R : RRm h) : RRm h2 := by
  obtain ⟨d1, d2, d3, d4, d5, d6, d7, d8, d9, d10, d11⟩ := D
  unfold RRm rm
  rw [d1, d2, d3, d4, d5, d6, d7]; exact R
/-- what code and machine lie in: the machine, the values, both texts each -/
def KO (a : Int) : Prop := a < 0 ∨ 1157 ≤ a ∧ a ≤ 1926 ∨ 3466 ≤ a ∧ a ≤ 6400 ∨ 6732 ≤ a ∧ a ≤ 9445
def UF (h h2 : HV) : Prop := (∀ a, KO a → h2 a = h a) ∧ h2 64 8 = h 64 8 ∧ h2 64 9 = h 64 9 ∧ h2 6603 9 = h 6603 9 ∧ h2 6603 10 = h 6603 10 ∧ h2 (h 1222 0) = h (h 1222 0) ∧ h2 (h 1222 1) = h (h 1222 1) ∧ h2 50 = h 50
theorem uf_tx {h h2 : HV} (X : RTx h) (U : UF h h2) : TXF h h2 := by
  obtain ⟨x1, x2, -⟩ := X
  exact ⟨U.2.1, U.2.2.2.1, fun x a b => U.1 _ (by unfold KO; rcases x1 with w | w <;> omega), fun x a b => U.1 _ (by unfold KO; rcases x2 with w | w <;> omega)⟩
/-- where nothing is made, what lies at a place that isn't told is the same -/
def DN (a : Int) : Prop := (1157 ≤ a ∧ a ≤ 1926) ∨ (3466 ≤ a ∧ a ≤ 6400) ∨ (6732 ≤ a ∧ a ≤ 9445) ∨ a = 643 ∨ a = 736 ∨ a = 801 ∨ a = 0 ∨ 13056 ≤ a ∨ a = 10336 ∨ a = 10401 ∨ a = 10272 ∨ a = 50 ∨ a < 0
theorem dyf_of {h h2 : HV} (R : RRw h) (V : RVl h) (e : ∀ a, DN a → h2 a = h a) (e30 : h2 6603 30 = h 6603 30) : DYF h h2 := by
  obtain ⟨⟨n1, n2, -⟩, -⟩ := R
  obtain ⟨n3, n4, -⟩ := V
  unfold NFA at n1 n2 n3 n4
  refine ⟨e _ ?_, e _ ?_, e _ ?_, e _ ?_, e _ ?_, e _ ?_, e _ ?_, e _ ?_, e _ ?_, e _ ?_, e30⟩
  all_goals unfold DN
  all_goals omega
theorem uf_of {h h2 : HV} (V : RVl h) (e : ∀ a, DN a → h2 a = h a) (e1 : h2 64 8 = h 64 8) (e2 : h2 64 9 = h 64 9) (e3 : h2 6603 9 = h 6603 9) (e4 : h2 6603 10 = h 6603 10) : UF h h2 := by
  obtain ⟨n3, n4, -⟩ := V
  unfold NFA at n3 n4
  refine ⟨fun a q => e a (by unfold KO at q; unfold DN; omega), e1, e2, e3, e4, e _ (by unfold DN; omega), e _ (by unfold DN; omega), e _ (by unfold DN; omega)⟩
