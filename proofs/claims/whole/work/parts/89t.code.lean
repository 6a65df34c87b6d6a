/-! THE PURE SIDE, 90: the code of a rule on both sides: printed by wip/tools/gen89t.py -/
/-- what lies open at a place: (number, -1 a for's or a try's 0 block 1 on 2 always, rank behind it, chain), the innermost first -/
abbrev CX := List (Int × Int × Int × Int)
def lps : CX → Int
  | [] => 0
  | e :: y => (if e.2.1 = -1 then 1 else 0) + lps y
def blkF (K : HV) (f : Int) : Nat → Int → Int
  | 0, _ => -1
  | n + 1, a => if K 0 a = 22 then (if K 0 (a + 1) = f then a + 3 else blkF K f n (K 0 (a + 2))) else -1
def endF (K : HV) : Nat → Int → Int
  | 0, a => a
  | n + 1, a => if K 0 a = 22 then endF K n (K 0 (a + 2)) else a
def chB (K : HV) : Nat → Int → Prop
  | 0, _ => True
  | n + 1, a => (0 ≤ a ∧ a ≤ 5000) ∧ (K 0 a = 22 → chB K n (K 0 (a + 2)))
def RKx (k : Int) (x : CX) : Prop := ∀ e ∈ x, e.2.1 ≠ -1 → e.2.2.1 + 12 - 4 * e.2.1 ≤ k
abbrev PT := Int → Int → CX → Int → Int → Prop
/-- what catches a failure in a try, and what is always done -/
def TRYF (K : HV) (P : PT) (t ch : Int) (y : CX) (kx : Int) : Prop :=
  (chB K 7 ch ∧ 0 ≤ kx ∧ RKx kx y) ∧ (∀ f, 1 ≤ f → f ≤ 7 → (blkF K f 7 ch = -1 ∧ K 4 (8 * t + f) = -9) ∨ (0 ≤ blkF K f 7 ch ∧ K 4 (8 * t + f) ≠ -9 ∧ P (blkF K f 7 ch) (K 4 (8 * t + f)) ((t, 1, kx, ch) :: y) 0 (kx + 8))) ∧
  ((K 5 t = -9 ∧ K 0 (endF K 7 ch) = 24) ∨ (K 5 t ≠ -9 ∧ P (endF K 7 ch) (K 5 t) ((t, 2, kx, ch) :: y) 0 (kx + 4)))
theorem TRYF.m {K : HV} {P P' : PT} {t ch kx : Int} {y : CX} (m : ∀ c r x E k, P c r x E k → P' c r x E k) (T : TRYF K P t ch y kx) : TRYF K P' t ch y kx :=
  ⟨T.1, fun f a b => (T.2.1 f a b).imp id (fun w => ⟨w.1, w.2.1, m _ _ _ _ _ w.2.2⟩), T.2.2.imp id (fun w => ⟨w.1, m _ _ _ _ _ w.2⟩)⟩
def wkO (o a : Int) : Prop := (o = 0 ∧ a = 43) ∨ (o = 1 ∧ a = 45) ∨ (o = 2 ∧ a = 42) ∨ (o = 3 ∧ a = 47) ∨ (o = 4 ∧ a = 37)
def cmO (o a : Int) : Prop := (o = 0 ∧ a = 60) ∨ (o = 1 ∧ a = 62) ∨ (o = 2 ∧ a = 61)
def lSTEP (K : HV) (V CL : Int → Int → Prop) (P : PT) (c r : Int) (x : CX) (E k : Int) : Prop := K 0 c = 1 ∧ K 1 r = 0 ∧ E = 0 ∧ ∃ j, P (c + 1) (r + 1) x 0 j
def lNONE (K : HV) (V CL : Int → Int → Prop) (P : PT) (c r : Int) (x : CX) (E k : Int) : Prop := K 0 c = 2 ∧ K 1 r = 3 ∧ P (c + 1) (r + 1) x (E + 1) (k - 1)
def lWHOLE (K : HV) (V CL : Int → Int → Prop) (P : PT) (c r : Int) (x : CX) (E k : Int) : Prop := K 0 c = 3 ∧ K 1 r = 1 ∧ K 2 r = K 0 (c + 1) ∧ (0 ≤ K 0 (c + 1) ∧ K 0 (c + 1) ≤ 999999) ∧ P (c + 2) (r + 1) x (E + 1) (k - 1)
def lREAL (K : HV) (V CL : Int → Int → Prop) (P : PT) (c r : Int) (x : CX) (E k : Int) : Prop := K 0 c = 4 ∧ K 1 r = 2 ∧ (0 ≤ K 2 r ∧ K 2 r < 401) ∧ (CANR (K 6 (K 2 r)) ∧ 0 ≤ K 6 (K 2 r) ∧ K 0 (c + 1) = K 6 (K 2 r) / 4294967296 ∧ K 0 (c + 2) = w32 (K 6 (K 2 r))) ∧ P (c + 3) (r + 1) x (E + 1) (k - 1)
def lGET (K : HV) (V CL : Int → Int → Prop) (P : PT) (c r : Int) (x : CX) (E k : Int) : Prop := K 0 c = 5 ∧ K 1 r = 4 ∧ V (K 0 (c + 1)) r ∧ P (c + 2) (r + 1) x (E + 1) (k - 1)
def lSET (K : HV) (V CL : Int → Int → Prop) (P : PT) (c r : Int) (x : CX) (E k : Int) : Prop := K 0 c = 6 ∧ K 1 r = 5 ∧ V (K 0 (c + 1)) r ∧ E = 1 ∧ P (c + 2) (r + 1) x 0 (k - 1)
def lSETITEM (K : HV) (V CL : Int → Int → Prop) (P : PT) (c r : Int) (x : CX) (E k : Int) : Prop := K 0 c = 7 ∧ K 1 r = 6 ∧ V (K 0 (c + 1)) r ∧ E = 2 ∧ P (c + 2) (r + 1) x 0 (k - 1)
def lWORK (K : HV) (V CL : Int → Int → Prop) (P : PT) (c r : Int) (x : CX) (E k : Int) : Prop := K 0 c = 8 ∧ K 1 r = 8 ∧ wkO (K 0 (c + 1)) (K 2 r) ∧ 2 ≤ E ∧ P (c + 2) (r + 1) x (E - 1) (k - 1)
def lCOMP (K : HV) (V CL : Int → Int → Prop) (P : PT) (c r : Int) (x : CX) (E k : Int) : Prop := K 0 c = 9 ∧ K 1 r = 8 ∧ cmO (K 0 (c + 1)) (K 2 r) ∧ 2 ≤ E ∧ P (c + 2) (r + 1) x (E - 1) (k - 1)
def lNEG (K : HV) (V CL : Int → Int → Prop) (P : PT) (c r : Int) (x : CX) (E k : Int) : Prop := K 0 c = 10 ∧ K 1 r = 9 ∧ 1 ≤ E ∧ P (c + 1) (r + 1) x E (k - 1)
def lITEM (K : HV) (V CL : Int → Int → Prop) (P : PT) (c r : Int) (x : CX) (E k : Int) : Prop := K 0 c = 11 ∧ K 1 r = 10 ∧ 2 ≤ E ∧ P (c + 1) (r + 1) x (E - 1) (k - 1)
def lMAKE (K : HV) (V CL : Int → Int → Prop) (P : PT) (c r : Int) (x : CX) (E k : Int) : Prop := K 0 c = 12 ∧ K 1 r = 11 ∧ K 2 r = K 0 (c + 1) + 4 ∧ (0 ≤ K 0 (c + 1) ∧ K 0 (c + 1) ≤ 3) ∧ 1 ≤ E ∧ P (c + 2) (r + 1) x E (k - 1)
def lONE (K : HV) (V CL : Int → Int → Prop) (P : PT) (c r : Int) (x : CX) (E k : Int) : Prop := (25 ≤ K 0 c ∧ K 0 c ≤ 29) ∧ K 1 r = K 0 c - 13 ∧ 1 ≤ E ∧ P (c + 1) (r + 1) x E (k - 1)
def lTWO2 (K : HV) (V CL : Int → Int → Prop) (P : PT) (c r : Int) (x : CX) (E k : Int) : Prop := (30 ≤ K 0 c ∧ K 0 c ≤ 31) ∧ K 1 r = K 0 c - 13 ∧ 2 ≤ E ∧ P (c + 1) (r + 1) x (E - 1) (k - 1)
def lCALL (K : HV) (V CL : Int → Int → Prop) (P : PT) (c r : Int) (x : CX) (E k : Int) : Prop := K 0 c = 13 ∧ K 1 r = 7 ∧ CL c r ∧ (0 ≤ K 0 (c + 2) ∧ K 0 (c + 2) ≤ E) ∧ P (c + 3) (r + 1) x (E - K 0 (c + 2) + 1) (k - 1)
def lGIVE (K : HV) (V CL : Int → Int → Prop) (P : PT) (c r : Int) (x : CX) (E k : Int) : Prop := K 0 c = 14 ∧ K 1 r = 27 ∧ E = 1
def lJUMP (K : HV) (V CL : Int → Int → Prop) (P : PT) (c r : Int) (x : CX) (E k : Int) : Prop := K 0 c = 15 ∧ K 1 r = 20 ∧ E = 0 ∧ P (K 0 (c + 1)) (K 2 r) x 0 (k - 1)
def lUNLESS (K : HV) (V CL : Int → Int → Prop) (P : PT) (c r : Int) (x : CX) (E k : Int) : Prop := K 0 c = 16 ∧ K 1 r = 19 ∧ E = 1 ∧ P (c + 2) (r + 1) x 0 (k - 1) ∧ P (K 0 (c + 1)) (K 2 r) x 0 (k - 1)
def lLOOP (K : HV) (V CL : Int → Int → Prop) (P : PT) (c r : Int) (x : CX) (E k : Int) : Prop := K 0 c = 17 ∧ K 1 r = 21 ∧ E = 1 ∧ (0 ≤ K 2 r ∧ K 2 r < 402) ∧ (∀ e ∈ x, e.2.1 = -1 → e.1 ≠ K 2 r) ∧ P (c + 1) (r + 1) ((K 2 r, -1, 0, 0) :: x) 0 (k - 1)
def lROUND (K : HV) (V CL : Int → Int → Prop) (P : PT) (c r : Int) (x : CX) (E k : Int) : Prop := K 0 c = 18 ∧ K 1 r = 22 ∧ E = 0 ∧ K 1 (r + 1) = 20 ∧ V (K 0 (c + 1)) r ∧ ∃ y, x = (K 2 r, -1, 0, 0) :: y ∧ (∃ j, P (c + 3) (r + 2) x 0 j) ∧ P (K 0 (c + 2)) (K 2 (r + 1)) y 0 (k - 1)
def lRAISE (K : HV) (V CL : Int → Int → Prop) (P : PT) (c r : Int) (x : CX) (E k : Int) : Prop := K 0 c = 19 ∧ K 1 r = 26 ∧ E = 0 ∧ K 2 r = K 0 (c + 1) ∧ 1 ≤ K 0 (c + 1) ∧ K 0 (c + 1) ≤ 7
def lCOPY (K : HV) (V CL : Int → Int → Prop) (P : PT) (c r : Int) (x : CX) (E k : Int) : Prop := K 0 c = 20 ∧ K 1 r = 28 ∧ E = 5 ∧ P (c + 1) (r + 1) x 0 (k - 1)
def lTRY (K : HV) (V CL : Int → Int → Prop) (P : PT) (c r : Int) (x : CX) (E k : Int) : Prop := K 0 c = 21 ∧ K 1 r = 23 ∧ E = 0 ∧ (0 ≤ K 2 r ∧ K 2 r < 401) ∧ (∀ e ∈ x, e.2.1 ≠ -1 → e.1 ≠ K 2 r) ∧ ∃ kx, P (c + 2) (r + 1) ((K 2 r, 0, kx, K 0 (c + 1)) :: x) 0 (k - 1) ∧ TRYF K P (K 2 r) (K 0 (c + 1)) x kx
def lLEAVE (K : HV) (V CL : Int → Int → Prop) (P : PT) (c r : Int) (x : CX) (E k : Int) : Prop := K 0 c = 23 ∧ K 1 r = 24 ∧ E = 0 ∧ ∃ ph kx ch y, x = (K 2 r, ph, kx, ch) :: y ∧ (ph = 0 ∨ ph = 1) ∧ (∀ e ∈ y, e.2.1 ≠ -1 → e.1 ≠ K 2 r) ∧ (K 5 (K 2 r) = -9 → K 0 (endF K 7 ch) = 24 ∧ P (endF K 7 ch + 1) (K 3 r) y 0 kx) ∧ (K 5 (K 2 r) ≠ -9 → P (endF K 7 ch) (K 5 (K 2 r)) ((K 2 r, 2, kx, ch) :: y) 0 (kx + 4))
def lFINISH (K : HV) (V CL : Int → Int → Prop) (P : PT) (c r : Int) (x : CX) (E k : Int) : Prop := K 0 c = 24 ∧ K 1 r = 25 ∧ E = 0 ∧ ∃ kx ch y, x = (K 2 r, 2, kx, ch) :: y ∧ P (c + 1) (r + 1) y 0 kx
def lEND (K : HV) (V CL : Int → Int → Prop) (P : PT) (c r : Int) (x : CX) (E k : Int) : Prop := K 0 c = 0 ∧ K 1 r = 29 ∧ E = 0
def LocB (c r : Int) (x : CX) (E k : Int) : Prop := ((0 ≤ c ∧ c < 2400) ∧ 0 ≤ r ∧ r < 6000) ∧ (1 ≤ k ∧ k ≤ 399) ∧ (0 ≤ E ∧ E ≤ 36) ∧ x.length ≤ 12 ∧ RKx k x
def Loc (K : HV) (V CL : Int → Int → Prop) (P : PT) (c r : Int) (x : CX) (E k : Int) : Prop := LocB c r x E k ∧ (lSTEP K V CL P c r x E k ∨ lNONE K V CL P c r x E k ∨ lWHOLE K V CL P c r x E k ∨ lREAL K V CL P c r x E k ∨ lGET K V CL P c r x E k ∨ lSET K V CL P c r x E k ∨ lSETITEM K V CL P c r x E k ∨ lWORK K V CL P c r x E k ∨ lCOMP K V CL P c r x E k ∨ lNEG K V CL P c r x E k ∨ lITEM K V CL P c r x E k ∨ lMAKE K V CL P c r x E k ∨ lONE K V CL P c r x E k ∨ lTWO2 K V CL P c r x E k ∨ lCALL K V CL P c r x E k ∨ lGIVE K V CL P c r x E k ∨ lJUMP K V CL P c r x E k ∨ lUNLESS K V CL P c r x E k ∨ lLOOP K V CL P c r x E k ∨ lROUND K V CL P c r x E k ∨ lRAISE K V CL P c r x E k ∨ lCOPY K V CL P c r x E k ∨ lTRY K V CL P c r x E k ∨ lLEAVE K V CL P c r x E k ∨ lFINISH K V CL P c r x E k ∨ lEND K V CL P c r x E k)
theorem lSTEP.m {K : HV} {V CL V2 CL2 : Int → Int → Prop} {P P2 : PT} {c r : Int} {x : CX} {E k : Int} (m : ∀ c r x E k, P c r x E k → P2 c r x E k) (mV : ∀ v s, V v s → V2 v s) (mC : ∀ v s, CL v s → CL2 v s) (w : lSTEP K V CL P c r x E k) : lSTEP K V2 CL2 P2 c r x E k := by
  obtain ⟨a, b, c, j, q⟩ := w; exact ⟨a, b, c, j, m _ _ _ _ _ q⟩
theorem lNONE.m {K : HV} {V CL V2 CL2 : Int → Int → Prop} {P P2 : PT} {c r : Int} {x : CX} {E k : Int} (m : ∀ c r x E k, P c r x E k → P2 c r x E k) (mV : ∀ v s, V v s → V2 v s) (mC : ∀ v s, CL v s → CL2 v s) (w : lNONE K V CL P c r x E k) : lNONE K V2 CL2 P2 c r x E k := by
  obtain ⟨a, b, q⟩ := w; exact ⟨a, b, m _ _ _ _ _ q⟩
theorem lWHOLE.m {K : HV} {V CL V2 CL2 : Int → Int → Prop} {P P2 : PT} {c r : Int} {x : CX} {E k : Int} (m : ∀ c r x E k, P c r x E k → P2 c r x E k) (mV : ∀ v s, V v s → V2 v s) (mC : ∀ v s, CL v s → CL2 v s) (w : lWHOLE K V CL P c r x E k) : lWHOLE K V2 CL2 P2 c r x E k := by
  obtain ⟨a, b, c, d, q⟩ := w; exact ⟨a, b, c, d, m _ _ _ _ _ q⟩
theorem lREAL.m {K : HV} {V CL V2 CL2 : Int → Int → Prop} {P P2 : PT} {c r : Int} {x : CX} {E k : Int} (m : ∀ c r x E k, P c r x E k → P2 c r x E k) (mV : ∀ v s, V v s → V2 v s) (mC : ∀ v s, CL v s → CL2 v s) (w : lREAL K V CL P c r x E k) : lREAL K V2 CL2 P2 c r x E k := by
  obtain ⟨a, b, c, d, q⟩ := w; exact ⟨a, b, c, d, m _ _ _ _ _ q⟩
theorem lGET.m {K : HV} {V CL V2 CL2 : Int → Int → Prop} {P P2 : PT} {c r : Int} {x : CX} {E k : Int} (m : ∀ c r x E k, P c r x E k → P2 c r x E k) (mV : ∀ v s, V v s → V2 v s) (mC : ∀ v s, CL v s → CL2 v s) (w : lGET K V CL P c r x E k) : lGET K V2 CL2 P2 c r x E k := by
  obtain ⟨a, b, c, q⟩ := w; exact ⟨a, b, mV _ _ c, m _ _ _ _ _ q⟩
theorem lSET.m {K : HV} {V CL V2 CL2 : Int → Int → Prop} {P P2 : PT} {c r : Int} {x : CX} {E k : Int} (m : ∀ c r x E k, P c r x E k → P2 c r x E k) (mV : ∀ v s, V v s → V2 v s) (mC : ∀ v s, CL v s → CL2 v s) (w : lSET K V CL P c r x E k) : lSET K V2 CL2 P2 c r x E k := by
  obtain ⟨a, b, c, d, q⟩ := w; exact ⟨a, b, mV _ _ c, d, m _ _ _ _ _ q⟩
theorem lSETITEM.m {K : HV} {V CL V2 CL2 : Int → Int → Prop} {P P2 : PT} {c r : Int} {x : CX} {E k : Int} (m : ∀ c r x E k, P c r x E k → P2 c r x E k) (mV : ∀ v s, V v s → V2 v s) (mC : ∀ v s, CL v s → CL2 v s) (w : lSETITEM K V CL P c r x E k) : lSETITEM K V2 CL2 P2 c r x E k := by
  obtain ⟨a, b, c, d, q⟩ := w; exact ⟨a, b, mV _ _ c, d, m _ _ _ _ _ q⟩
theorem lWORK.m {K : HV} {V CL V2 CL2 : Int → Int → Prop} {P P2 : PT} {c r : Int} {x : CX} {E k : Int} (m : ∀ c r x E k, P c r x E k → P2 c r x E k) (mV : ∀ v s, V v s → V2 v s) (mC : ∀ v s, CL v s → CL2 v s) (w : lWORK K V CL P c r x E k) : lWORK K V2 CL2 P2 c r x E k := by
  obtain ⟨a, b, c, d, q⟩ := w; exact ⟨a, b, c, d, m _ _ _ _ _ q⟩
theorem lCOMP.m {K : HV} {V CL V2 CL2 : Int → Int → Prop} {P P2 : PT} {c r : Int} {x : CX} {E k : Int} (m : ∀ c r x E k, P c r x E k → P2 c r x E k) (mV : ∀ v s, V v s → V2 v s) (mC : ∀ v s, CL v s → CL2 v s) (w : lCOMP K V CL P c r x E k) : lCOMP K V2 CL2 P2 c r x E k := by
  obtain ⟨a, b, c, d, q⟩ := w; exact ⟨a, b, c, d, m _ _ _ _ _ q⟩
theorem lNEG.m {K : HV} {V CL V2 CL2 : Int → Int → Prop} {P P2 : PT} {c r : Int} {x : CX} {E k : Int} (m : ∀ c r x E k, P c r x E k → P2 c r x E k) (mV : ∀ v s, V v s → V2 v s) (mC : ∀ v s, CL v s → CL2 v s) (w : lNEG K V CL P c r x E k) : lNEG K V2 CL2 P2 c r x E k := by
  obtain ⟨a, b, c, q⟩ := w; exact ⟨a, b, c, m _ _ _ _ _ q⟩
theorem lITEM.m {K : HV} {V CL V2 CL2 : Int → Int → Prop} {P P2 : PT} {c r : Int} {x : CX} {E k : Int} (m : ∀ c r x E k, P c r x E k → P2 c r x E k) (mV : ∀ v s, V v s → V2 v s) (mC : ∀ v s, CL v s → CL2 v s) (w : lITEM K V CL P c r x E k) : lITEM K V2 CL2 P2 c r x E k := by
  obtain ⟨a, b, c, q⟩ := w; exact ⟨a, b, c, m _ _ _ _ _ q⟩
theorem lMAKE.m {K : HV} {V CL V2 CL2 : Int → Int → Prop} {P P2 : PT} {c r : Int} {x : CX} {E k : Int} (m : ∀ c r x E k, P c r x E k → P2 c r x E k) (mV : ∀ v s, V v s → V2 v s) (mC : ∀ v s, CL v s → CL2 v s) (w : lMAKE K V CL P c r x E k) : lMAKE K V2 CL2 P2 c r x E k := by
  obtain ⟨a, b, c, d, e, q⟩ := w; exact ⟨a, b, c, d, e, m _ _ _ _ _ q⟩
theorem lONE.m {K : HV} {V CL V2 CL2 : Int → Int → Prop} {P P2 : PT} {c r : Int} {x : CX} {E k : Int} (m : ∀ c r x E k, P c r x E k → P2 c r x E k) (mV : ∀ v s, V v s → V2 v s) (mC : ∀ v s, CL v s → CL2 v s) (w : lONE K V CL P c r x E k) : lONE K V2 CL2 P2 c r x E k := by
  obtain ⟨a, b, c, q⟩ := w; exact ⟨a, b, c, m _ _ _ _ _ q⟩
theorem lTWO2.m {K : HV} {V CL V2 CL2 : Int → Int → Prop} {P P2 : PT} {c r : Int} {x : CX} {E k : Int} (m : ∀ c r x E k, P c r x E k → P2 c r x E k) (mV : ∀ v s, V v s → V2 v s) (mC : ∀ v s, CL v s → CL2 v s) (w : lTWO2 K V CL P c r x E k) : lTWO2 K V2 CL2 P2 c r x E k := by
  obtain ⟨a, b, c, q⟩ := w; exact ⟨a, b, c, m _ _ _ _ _ q⟩
theorem lCALL.m {K : HV} {V CL V2 CL2 : Int → Int → Prop} {P P2 : PT} {c r : Int} {x : CX} {E k : Int} (m : ∀ c r x E k, P c r x E k → P2 c r x E k) (mV : ∀ v s, V v s → V2 v s) (mC : ∀ v s, CL v s → CL2 v s) (w : lCALL K V CL P c r x E k) : lCALL K V2 CL2 P2 c r x E k := by
  obtain ⟨a, b, c, d, q⟩ := w; exact ⟨a, b, mC _ _ c, d, m _ _ _ _ _ q⟩
theorem lGIVE.m {K : HV} {V CL V2 CL2 : Int → Int → Prop} {P P2 : PT} {c r : Int} {x : CX} {E k : Int} (m : ∀ c r x E k, P c r x E k → P2 c r x E k) (mV : ∀ v s, V v s → V2 v s) (mC : ∀ v s, CL v s → CL2 v s) (w : lGIVE K V CL P c r x E k) : lGIVE K V2 CL2 P2 c r x E k := w
theorem lJUMP.m {K : HV} {V CL V2 CL2 : Int → Int → Prop} {P P2 : PT} {c r : Int} {x : CX} {E k : Int} (m : ∀ c r x E k, P c r x E k → P2 c r x E k) (mV : ∀ v s, V v s → V2 v s) (mC : ∀ v s, CL v s → CL2 v s) (w : lJUMP K V CL P c r x E k) : lJUMP K V2 CL2 P2 c r x E k := by
  obtain ⟨a, b, c, q⟩ := w; exact ⟨a, b, c, m _ _ _ _ _ q⟩
theorem lUNLESS.m {K : HV} {V CL V2 CL2 : Int → Int → Prop} {P P2 : PT} {c r : Int} {x : CX} {E k : Int} (m : ∀ c r x E k, P c r x E k → P2 c r x E k) (mV : ∀ v s, V v s → V2 v s) (mC : ∀ v s, CL v s → CL2 v s) (w : lUNLESS K V CL P c r x E k) : lUNLESS K V2 CL2 P2 c r x E k := by
  obtain ⟨a, b, c, q, s⟩ := w; exact ⟨a, b, c, m _ _ _ _ _ q, m _ _ _ _ _ s⟩
theorem lLOOP.m {K : HV} {V CL V2 CL2 : Int → Int → Prop} {P P2 : PT} {c r : Int} {x : CX} {E k : Int} (m : ∀ c r x E k, P c r x E k → P2 c r x E k) (mV : ∀ v s, V v s → V2 v s) (mC : ∀ v s, CL v s → CL2 v s) (w : lLOOP K V CL P c r x E k) : lLOOP K V2 CL2 P2 c r x E k := by
  obtain ⟨a, b, c, d, e, q⟩ := w; exact ⟨a, b, c, d, e, m _ _ _ _ _ q⟩
theorem lROUND.m {K : HV} {V CL V2 CL2 : Int → Int → Prop} {P P2 : PT} {c r : Int} {x : CX} {E k : Int} (m : ∀ c r x E k, P c r x E k → P2 c r x E k) (mV : ∀ v s, V v s → V2 v s) (mC : ∀ v s, CL v s → CL2 v s) (w : lROUND K V CL P c r x E k) : lROUND K V2 CL2 P2 c r x E k := by
  obtain ⟨a, b, c, d, e, y, f, ⟨j, q⟩, s⟩ := w; exact ⟨a, b, c, d, mV _ _ e, y, f, ⟨j, m _ _ _ _ _ q⟩, m _ _ _ _ _ s⟩
theorem lRAISE.m {K : HV} {V CL V2 CL2 : Int → Int → Prop} {P P2 : PT} {c r : Int} {x : CX} {E k : Int} (m : ∀ c r x E k, P c r x E k → P2 c r x E k) (mV : ∀ v s, V v s → V2 v s) (mC : ∀ v s, CL v s → CL2 v s) (w : lRAISE K V CL P c r x E k) : lRAISE K V2 CL2 P2 c r x E k := w
theorem lCOPY.m {K : HV} {V CL V2 CL2 : Int → Int → Prop} {P P2 : PT} {c r : Int} {x : CX} {E k : Int} (m : ∀ c r x E k, P c r x E k → P2 c r x E k) (mV : ∀ v s, V v s → V2 v s) (mC : ∀ v s, CL v s → CL2 v s) (w : lCOPY K V CL P c r x E k) : lCOPY K V2 CL2 P2 c r x E k := by
  obtain ⟨a, b, c, q⟩ := w; exact ⟨a, b, c, m _ _ _ _ _ q⟩
theorem lTRY.m {K : HV} {V CL V2 CL2 : Int → Int → Prop} {P P2 : PT} {c r : Int} {x : CX} {E k : Int} (m : ∀ c r x E k, P c r x E k → P2 c r x E k) (mV : ∀ v s, V v s → V2 v s) (mC : ∀ v s, CL v s → CL2 v s) (w : lTRY K V CL P c r x E k) : lTRY K V2 CL2 P2 c r x E k := by
  obtain ⟨a, b, c, d, e, kx, q, T⟩ := w; exact ⟨a, b, c, d, e, kx, m _ _ _ _ _ q, T.m m⟩
theorem lLEAVE.m {K : HV} {V CL V2 CL2 : Int → Int → Prop} {P P2 : PT} {c r : Int} {x : CX} {E k : Int} (m : ∀ c r x E k, P c r x E k → P2 c r x E k) (mV : ∀ v s, V v s → V2 v s) (mC : ∀ v s, CL v s → CL2 v s) (w : lLEAVE K V CL P c r x E k) : lLEAVE K V2 CL2 P2 c r x E k := by
  obtain ⟨a, b, c, ph, kx, ch, y, d, e, u, q, s⟩ := w; exact ⟨a, b, c, ph, kx, ch, y, d, e, u, fun z => ⟨(q z).1, m _ _ _ _ _ (q z).2⟩, fun z => m _ _ _ _ _ (s z)⟩
theorem lFINISH.m {K : HV} {V CL V2 CL2 : Int → Int → Prop} {P P2 : PT} {c r : Int} {x : CX} {E k : Int} (m : ∀ c r x E k, P c r x E k → P2 c r x E k) (mV : ∀ v s, V v s → V2 v s) (mC : ∀ v s, CL v s → CL2 v s) (w : lFINISH K V CL P c r x E k) : lFINISH K V2 CL2 P2 c r x E k := by
  obtain ⟨a, b, c, kx, ch, y, d, q⟩ := w; exact ⟨a, b, c, kx, ch, y, d, m _ _ _ _ _ q⟩
theorem lEND.m {K : HV} {V CL V2 CL2 : Int → Int → Prop} {P P2 : PT} {c r : Int} {x : CX} {E k : Int} (m : ∀ c r x E k, P c r x E k → P2 c r x E k) (mV : ∀ v s, V v s → V2 v s) (mC : ∀ v s, CL v s → CL2 v s) (w : lEND K V CL P c r x E k) : lEND K V2 CL2 P2 c r x E k := w
theorem Loc.m {K : HV} {V CL V2 CL2 : Int → Int → Prop} {P P2 : PT} {c r : Int} {x : CX} {E k : Int} (m : ∀ c r x E k, P c r x E k → P2 c r x E k) (mV : ∀ v s, V v s → V2 v s) (mC : ∀ v s, CL v s → CL2 v s) (w : Loc K V CL P c r x E k) : Loc K V2 CL2 P2 c r x E k := by
  obtain ⟨b, w⟩ := w
  refine ⟨b, ?_⟩
  rcases w with w | w | w | w | w | w | w | w | w | w | w | w | w | w | w | w | w | w | w | w | w | w | w | w | w | w
  · exact .inl (lSTEP.m m mV mC w)
  · exact .inr (.inl (lNONE.m m mV mC w))
  · exact .inr (.inr (.inl (lWHOLE.m m mV mC w)))
  · exact .inr (.inr (.inr (.inl (lREAL.m m mV mC w))))
  · exact .inr (.inr (.inr (.inr (.inl (lGET.m m mV mC w)))))
  · exact .inr (.inr (.inr (.inr (.inr (.inl (lSET.m m mV mC w))))))
  · exact .inr (.inr (.inr (.inr (.inr (.inr (.inl (lSETITEM.m m mV mC w)))))))
  · exact .inr (.inr (.inr (.inr (.inr (.inr (.inr (.inl (lWORK.m m mV mC w))))))))
  · exact .inr (.inr (.inr (.inr (.inr (.inr (.inr (.inr (.inl (lCOMP.m m mV mC w)))))))))
  · exact .inr (.inr (.inr (.inr (.inr (.inr (.inr (.inr (.inr (.inl (lNEG.m m mV mC w))))))))))
  · exact .inr (.inr (.inr (.inr (.inr (.inr (.inr (.inr (.inr (.inr (.inl (lITEM.m m mV mC w)))))))))))
  · exact .inr (.inr (.inr (.inr (.inr (.inr (.inr (.inr (.inr (.inr (.inr (.inl (lMAKE.m m mV mC w))))))))))))
  · exact .inr (.inr (.inr (.inr (.inr (.inr (.inr (.inr (.inr (.inr (.inr (.inr (.inl (lONE.m m mV mC w)))))))))))))
  · exact .inr (.inr (.inr (.inr (.inr (.inr (.inr (.inr (.inr (.inr (.inr (.inr (.inr (.inl (lTWO2.m m mV mC w))))))))))))))
  · exact .inr (.inr (.inr (.inr (.inr (.inr (.inr (.inr (.inr (.inr (.inr (.inr (.inr (.inr (.inl (lCALL.m m mV mC w)))))))))))))))
  · exact .inr (.inr (.inr (.inr (.inr (.inr (.inr (.inr (.inr (.inr (.inr (.inr (.inr (.inr (.inr (.inl (lGIVE.m m mV mC w))))))))))))))))
  · exact .inr (.inr (.inr (.inr (.inr (.inr (.inr (.inr (.inr (.inr (.inr (.inr (.inr (.inr (.inr (.inr (.inl (lJUMP.m m mV mC w)))))))))))))))))
  · exact .inr (.inr (.inr (.inr (.inr (.inr (.inr (.inr (.inr (.inr (.inr (.inr (.inr (.inr (.inr (.inr (.inr (.inl (lUNLESS.m m mV mC w))))))))))))))))))
  · exact .inr (.inr (.inr (.inr (.inr (.inr (.inr (.inr (.inr (.inr (.inr (.inr (.inr (.inr (.inr (.inr (.inr (.inr (.inl (lLOOP.m m mV mC w)))))))))))))))))))
  · exact .inr (.inr (.inr (.inr (.inr (.inr (.inr (.inr (.inr (.inr (.inr (.inr (.inr (.inr (.inr (.inr (.inr (.inr (.inr (.inl (lROUND.m m mV mC w))))))))))))))))))))
  · exact .inr (.inr (.inr (.inr (.inr (.inr (.inr (.inr (.inr (.inr (.inr (.inr (.inr (.inr (.inr (.inr (.inr (.inr (.inr (.inr (.inl (lRAISE.m m mV mC w)))))))))))))))))))))
  · exact .inr (.inr (.inr (.inr (.inr (.inr (.inr (.inr (.inr (.inr (.inr (.inr (.inr (.inr (.inr (.inr (.inr (.inr (.inr (.inr (.inr (.inl (lCOPY.m m mV mC w))))))))))))))))))))))
  · exact .inr (.inr (.inr (.inr (.inr (.inr (.inr (.inr (.inr (.inr (.inr (.inr (.inr (.inr (.inr (.inr (.inr (.inr (.inr (.inr (.inr (.inr (.inl (lTRY.m m mV mC w)))))))))))))))))))))))
  · exact .inr (.inr (.inr (.inr (.inr (.inr (.inr (.inr (.inr (.inr (.inr (.inr (.inr (.inr (.inr (.inr (.inr (.inr (.inr (.inr (.inr (.inr (.inr (.inl (lLEAVE.m m mV mC w))))))))))))))))))))))))
  · exact .inr (.inr (.inr (.inr (.inr (.inr (.inr (.inr (.inr (.inr (.inr (.inr (.inr (.inr (.inr (.inr (.inr (.inr (.inr (.inr (.inr (.inr (.inr (.inr (.inl (lFINISH.m m mV mC w)))))))))))))))))))))))))
  · exact .inr (.inr (.inr (.inr (.inr (.inr (.inr (.inr (.inr (.inr (.inr (.inr (.inr (.inr (.inr (.inr (.inr (.inr (.inr (.inr (.inr (.inr (.inr (.inr (.inr (lEND.m m mV mC w)))))))))))))))))))))))))
def MEM (K : HV) (V CL : Int → Int → Prop) : Nat → PT
  | 0 => fun _ _ _ _ _ => True
  | n + 1 => fun c r x E k => Loc K V CL (MEM K V CL n) c r x E k
theorem MEM.down {K : HV} {V CL : Int → Int → Prop} : ∀ (n : Nat) (c r : Int) (x : CX) (E k : Int), MEM K V CL (n + 1) c r x E k → MEM K V CL n c r x E k := by
  intro n
  induction n with
  | zero => exact fun _ _ _ _ _ _ => trivial
  | succ n ih => exact fun c r x E k w => Loc.m ih (fun _ _ q => q) (fun _ _ q => q) w
theorem MEM.le {K : HV} {V CL : Int → Int → Prop} {n m : Nat} (h : n ≤ m) {c r : Int} {x : CX} {E k : Int} (w : MEM K V CL m c r x E k) : MEM K V CL n c r x E k := by
  induction m with
  | zero => rw [show n = 0 by omega]; trivial
  | succ m ih =>
    by_cases e : n = m + 1
    · rw [e]; exact w
    · exact ih (by omega) (MEM.down _ _ _ _ _ _ w)
theorem MEM.V {K : HV} {V CL V2 CL2 : Int → Int → Prop} (mV : ∀ v s, V v s → V2 v s) (mC : ∀ v s, CL v s → CL2 v s) : ∀ (n : Nat) (c r : Int) (x : CX) (E k : Int), MEM K V CL n c r x E k → MEM K V2 CL2 n c r x E k := by
  intro n
  induction n with
  | zero => exact fun _ _ _ _ _ _ => trivial
  | succ n ih => exact fun c r x E k w => Loc.m ih mV mC w
