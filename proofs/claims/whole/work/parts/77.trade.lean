/-! THE PURE SIDE, 58: trades, the pure machine: printed by wip/tools/gen77.py -/
/-- places left -/
def lfT (h : HV) (pl : Int → Int) (c : Int) : Int := h (h 64 8 + 1110) c - sumI (fun p => isE (pl p) c) (h 836 4).toNat
/-- the first place from k on of p's row with places left -/
def kT (h : HV) (pl : Int → Int) (p : Int) : Nat → Int → Int
  | 0, k => k
  | n + 1, k => if k < h 3104 p ∧ ¬ 0 < lfT h pl (h 3040 (p * 8 + k)) then kT h pl p n (k + 1) else k
def wT (h : HV) (pl : Int → Int) (p : Int) : Int := if pl p = -9 ∧ kT h pl p 8 0 < h 3104 p then 1 else 0
def cwT (h : HV) (pl : Int → Int) (p : Int) : Int := h 3040 (p * 8 + kT h pl p 8 0)
/-- to whom a course points -/
def fsT (h : HV) (pl : Int → Int) (c : Int) : Nat → Int
  | 0 => -1
  | n + 1 => if wT h pl n = 1 ∧ (fsT h pl c n < 0 ∨ bfF (fun x => h 3168 (x * 8 + c)) n (fsT h pl c n) ≠ 0) then n else fsT h pl c n
def gT (h : HV) (pl : Int → Int) (p : Int) : Int := fsT h pl (cwT h pl p) (h 836 4).toNat
def cbT (h : HV) (pl : Int → Int) (p : Int) : Nat → Int → Int
  | 0, _ => 0
  | n + 1, a => if gT h pl a = p then 1 else cbT h pl p n (gT h pl a)
def rgT (h : HV) (pl : Int → Int) (p : Int) : Int := if wT h pl p = 1 ∧ cbT h pl p 24 p = 1 then 1 else 0
def anT (h : HV) (pl : Int → Int) : Nat → Int
  | 0 => 0
  | n + 1 => if anT h pl n ≠ 0 ∨ rgT h pl n = 1 then 1 else 0
/-- a round -/
def trT (h : HV) (pl : Int → Int) : Int → Int := fun p => if (0 ≤ p ∧ p < h 836 4) ∧ rgT h pl p = 1 then cwT h pl p else pl p
def itT (h : HV) : Nat → Int → Int
  | 0 => fun _ => -9
  | n + 1 => trT h (itT h n)
theorem wT_b (h : HV) (pl : Int → Int) (p : Int) : wT h pl p = 0 ∨ wT h pl p = 1 := by unfold wT; split <;> omega
theorem kT_spec {h : HV} {pl : Int → Int} {p : Int} : ∀ (n : Nat) (k : Int), k ≤ h 3104 p → h 3104 p - k ≤ n → (k ≤ kT h pl p n k ∧ kT h pl p n k ≤ h 3104 p) ∧ (∀ j, k ≤ j → j < kT h pl p n k → ¬ 0 < lfT h pl (h 3040 (p * 8 + j))) ∧ (kT h pl p n k < h 3104 p → 0 < lfT h pl (h 3040 (p * 8 + kT h pl p n k)))
  | 0, k, h1, h2 => by
    rw [kT]
    exact ⟨by omega, fun j a b => by omega, fun w => by omega⟩
  | n + 1, k, h1, h2 => by
    rw [kT]
    by_cases q : k < h 3104 p ∧ ¬ 0 < lfT h pl (h 3040 (p * 8 + k))
    · rw [if_pos q]
      obtain ⟨a1, a2, a3⟩ := kT_spec (h := h) (pl := pl) (p := p) n (k + 1) (by omega) (by omega)
      refine ⟨by omega, fun j b1 b2 => ?_, a3⟩
      by_cases e : j = k
      · rw [e]; exact q.2
      · exact a2 j (by omega) b2
    · rw [if_neg q]
      refine ⟨by omega, fun j a b => by omega, fun w => ?_⟩
      by_cases z : 0 < lfT h pl (h 3040 (p * 8 + k))
      · exact z
      · exact absurd ⟨w, z⟩ q
theorem kT_same {h : HV} {pl : Int → Int} {p k : Int} (h8 : 0 ≤ h 3104 p ∧ h 3104 p ≤ 8) (hk : 0 ≤ k ∧ k ≤ h 3104 p) (f : ∀ j, 0 ≤ j → j < k → ¬ 0 < lfT h pl (h 3040 (p * 8 + j))) : kT h pl p 8 k = kT h pl p 8 0 := by
  obtain ⟨a1, a2, a3⟩ := kT_spec (h := h) (pl := pl) (p := p) 8 k hk.2 (by omega)
  obtain ⟨b1, b2, b3⟩ := kT_spec (h := h) (pl := pl) (p := p) 8 0 h8.1 (by omega)
  generalize kT h pl p 8 k = x at *
  generalize kT h pl p 8 0 = y at *
  rcases Int.lt_trichotomy x y with w | w | w
  · exact absurd (a3 (by omega)) (b2 x (by omega) w)
  · exact w
  · by_cases yk : y < k
    · exact absurd (b3 (by omega)) (f y (by omega) yk)
    · exact absurd (b3 (by omega)) (a2 y (by omega) w)
theorem fsT_b {h : HV} {pl : Int → Int} {c : Int} : ∀ n : Nat, (fsT h pl c n = -1 ∧ ∀ x : Int, 0 ≤ x → x < n → wT h pl x = 0) ∨ (0 ≤ fsT h pl c n ∧ fsT h pl c n < n ∧ wT h pl (fsT h pl c n) = 1)
  | 0 => .inl ⟨rfl, fun x a b => by omega⟩
  | n + 1 => by
    have ih := fsT_b (h := h) (pl := pl) (c := c) n
    rw [fsT]
    generalize fsT h pl c n = l at *
    by_cases q : wT h pl n = 1 ∧ (l < 0 ∨ bfF (fun x => h 3168 (x * 8 + c)) n l ≠ 0)
    · rw [if_pos q]
      exact .inr ⟨by omega, by omega, q.1⟩
    · rw [if_neg q]
      rcases ih with ⟨e, f⟩ | ⟨e1, e2, e3⟩
      · refine .inl ⟨e, fun x a b => ?_⟩
        by_cases z : x = n
        · rw [z]
          exact (wT_b h pl n).elim id (fun w => absurd ⟨w, .inl (by omega)⟩ q)
        · exact f x a (by omega)
      · exact .inr ⟨e1, by omega, e3⟩
theorem gT_b {h : HV} {pl : Int → Int} {p x : Int} (hx : 0 ≤ x ∧ x < h 836 4) (hw : wT h pl x = 1) : (0 ≤ gT h pl p ∧ gT h pl p < h 836 4) ∧ wT h pl (gT h pl p) = 1 := by
  unfold gT
  rcases fsT_b (h := h) (pl := pl) (c := cwT h pl p) (h 836 4).toNat with ⟨e, f⟩ | ⟨e1, e2, e3⟩
  · have := f x hx.1 (by omega)
    omega
  · exact ⟨by omega, e3⟩
theorem wT_c {h : HV} {pl : Int → Int} {p : Int} (hw : wT h pl p = 1) : pl p = -9 ∧ kT h pl p 8 0 < h 3104 p := by
  unfold wT at hw
  by_cases q : pl p = -9 ∧ kT h pl p 8 0 < h 3104 p
  · exact q
  · rw [if_neg q] at hw; omega
theorem wT_n {h : HV} {pl : Int → Int} {p : Int} (hw : wT h pl p = 0) : ¬ (pl p = -9 ∧ kT h pl p 8 0 < h 3104 p) := fun q => by
  unfold wT at hw
  rw [if_pos q] at hw
  omega
theorem rgT_c {h : HV} {pl : Int → Int} {p : Int} (hw : rgT h pl p = 1) : wT h pl p = 1 ∧ cbT h pl p 24 p = 1 := by
  unfold rgT at hw
  by_cases q : wT h pl p = 1 ∧ cbT h pl p 24 p = 1
  · exact q
  · rw [if_neg q] at hw; omega
theorem sumI_leT {f g : Int → Int} : ∀ n : Nat, (∀ x, 0 ≤ x → x < (n : Int) → f x ≤ g x) → sumI f n ≤ sumI g n
  | 0, _ => Int.le_refl _
  | n + 1, h => by
    have ih := sumI_leT (f := f) (g := g) n (fun x a b => h x a (by omega))
    have := h n (by omega) (by omega)
    rw [sumI, sumI]
    omega
/-- the places left never grow -/
theorem lfT_le {h : HV} {pl : Int → Int} {c : Int} (hc : 0 ≤ c) : lfT h (trT h pl) c ≤ lfT h pl c := by
  unfold lfT
  have := sumI_leT (f := fun p => isE (pl p) c) (g := fun p => isE (trT h pl p) c) (h 836 4).toNat (fun x x0 x1 => by
    show isE (pl x) c ≤ isE (trT h pl x) c
    unfold trT
    by_cases q : (0 ≤ x ∧ x < h 836 4) ∧ rgT h pl x = 1
    · rw [if_pos q, (wT_c (rgT_c q.2).1).1, show isE (-9) c = 0 by rw [isE, if_neg (by omega)]]
      exact (isE_b _ _).1
    · rw [if_neg q]
      exact Int.le_refl _)
  omega
/-- who points nowhere, points nowhere ever after -/
theorem wT_stop {h : HV} {pl : Int → Int} {p : Int} (h8 : 0 ≤ h 3104 p ∧ h 3104 p ≤ 8) (c0 : ∀ j, 0 ≤ j → j < h 3104 p → 0 ≤ h 3040 (p * 8 + j)) (h9 : pl p = -9) (hw : wT h pl p = 0) : trT h pl p = -9 ∧ wT h (trT h pl) p = 0 := by
  have n0 := wT_n hw
  have e9 : trT h pl p = -9 := by
    unfold trT
    rw [if_neg (fun w => by have := (rgT_c w.2).1; omega)]
    exact h9
  refine ⟨e9, ?_⟩
  obtain ⟨b1, b2, b3⟩ := kT_spec (h := h) (pl := pl) (p := p) 8 0 h8.1 (by omega)
  obtain ⟨a1, a2, a3⟩ := kT_spec (h := h) (pl := trT h pl) (p := p) 8 0 h8.1 (by omega)
  unfold wT
  rw [if_neg]
  intro w
  have a4 := a3 w.2
  have c4 := c0 (kT h (trT h pl) p 8 0) (by omega) w.2
  have := lfT_le (h := h) (pl := pl) c4
  have := b2 (kT h (trT h pl) p 8 0) (by omega) (by
    by_cases z : kT h pl p 8 0 < h 3104 p
    · exact absurd ⟨h9, z⟩ n0
    · omega)
  omega
theorem anT_0 {h : HV} {pl : Int → Int} : ∀ n : Nat, anT h pl n = 0 → ∀ x : Int, 0 ≤ x → x < n → rgT h pl x ≠ 1
  | 0, _, x, a, b => by omega
  | n + 1, e, x, a, b => by
    rw [anT] at e
    by_cases q : anT h pl n ≠ 0 ∨ rgT h pl n = 1
    · rw [if_pos q] at e; omega
    · by_cases z : x = n
      · rw [z]; exact fun w => q (.inr w)
      · exact anT_0 n (by
          by_cases y : anT h pl n = 0
          · exact y
          · exact absurd (.inl y) q) x a (by omega)
theorem anT_1 {h : HV} {pl : Int → Int} : ∀ n : Nat, anT h pl n ≠ 0 → ∃ x : Int, 0 ≤ x ∧ x < n ∧ rgT h pl x = 1
  | 0, e => absurd rfl e
  | n + 1, e => by
    rw [anT] at e
    by_cases q : anT h pl n ≠ 0 ∨ rgT h pl n = 1
    · rcases q with q | q
      · obtain ⟨x, a, b, c⟩ := anT_1 n q
        exact ⟨x, a, by omega, c⟩
      · exact ⟨n, by omega, by omega, q⟩
    · rw [if_neg q] at e; exact absurd rfl e
theorem anT_b {h : HV} {pl : Int → Int} (n : Nat) : 0 ≤ anT h pl n ∧ anT h pl n ≤ 1 := by
  cases n with
  | zero => rw [anT]; decide
  | succ n => rw [anT]; split <;> decide
theorem tr_fix {h : HV} {pl : Int → Int} (h24 : 0 ≤ h 836 4) (e : anT h pl (h 836 4).toNat = 0) : trT h pl = pl := by
  funext p
  unfold trT
  rw [if_neg (fun w => anT_0 _ e p w.1.1 (by omega) w.2)]
/-- how many are not placed -/
def unT (h : HV) (pl : Int → Int) : Int := sumI (fun p => isE (pl p) (-9)) (h 836 4).toNat
theorem sumI_lt {f g : Int → Int} {p : Int} (h0 : 0 ≤ p) : ∀ n : Nat, p < n → (∀ x, 0 ≤ x → x < (n : Int) → f x ≤ g x) → f p < g p → sumI f n < sumI g n
  | 0, hp, _, _ => by omega
  | n + 1, hp, h, hl => by
    rw [sumI, sumI]
    have hn := h n (by omega) (by omega)
    by_cases e : p = n
    · have := sumI_leT (f := f) (g := g) n (fun x a b => h x a (by omega))
      rw [e] at hl
      omega
    · have ih := sumI_lt (f := f) (g := g) h0 n (by omega) (fun x a b => h x a (by omega)) hl
      omega
theorem un_lt {h : HV} {pl : Int → Int} (h24 : 0 ≤ h 836 4) (c9 : ∀ p k : Int, 0 ≤ p → p < h 836 4 → 0 ≤ k → k < h 3104 p → 0 ≤ h 3040 (p * 8 + k)) (h3 : ∀ p, 0 ≤ p → p < h 836 4 → 0 ≤ h 3104 p ∧ h 3104 p ≤ 8) (e : anT h pl (h 836 4).toNat ≠ 0) : unT h (trT h pl) < unT h pl := by
  obtain ⟨x, a, b, c⟩ := anT_1 _ e
  have key : ∀ y, 0 ≤ y → y < h 836 4 → rgT h pl y = 1 → isE (trT h pl y) (-9) = 0 ∧ isE (pl y) (-9) = 1 := fun y y0 y1 yr => by
    have w := wT_c (rgT_c yr).1
    have k0 := (kT_spec (h := h) (pl := pl) (p := y) 8 0 (h3 y y0 y1).1 (by have := (h3 y y0 y1).2; omega)).1
    have := c9 y _ y0 y1 k0.1 w.2
    constructor
    · unfold trT
      rw [if_pos ⟨⟨y0, y1⟩, yr⟩, isE, if_neg]
      unfold cwT
      omega
    · rw [isE, if_pos w.1]
  unfold unT
  refine sumI_lt a _ b (fun y y0 y1 => ?_) (by
    have := key x a (by omega) c
    show isE (trT h pl x) (-9) < isE (pl x) (-9)
    omega)
  show isE (trT h pl y) (-9) ≤ isE (pl y) (-9)
  by_cases q : rgT h pl y = 1
  · have := key y y0 (by omega) q
    omega
  · unfold trT
    rw [if_neg (fun w => q w.2)]
    exact Int.le_refl _
/-- more than n of numbers below n are not all apart -/
theorem pigeonT : ∀ (n : Nat) (f : Nat → Nat), (∀ i, i ≤ n → f i < n) → ∃ i j, i < j ∧ j ≤ n ∧ f i = f j
  | 0, f, h => by have := h 0 (Nat.le_refl _); omega
  | n + 1, f, h => by
    by_cases q : ∃ i, i ≤ n ∧ f i = f (n + 1)
    · obtain ⟨i, a, b⟩ := q
      exact ⟨i, n + 1, by omega, Nat.le_refl _, b⟩
    · have q2 : ∀ i, i ≤ n → f i ≠ f (n + 1) := fun i a b => q ⟨i, a, b⟩
      obtain ⟨i, j, a, b, c⟩ := pigeonT n (fun i => if f i = n then f (n + 1) else f i) (fun i hi => by
        have h1 := h i (by omega)
        have h2 := h (n + 1) (Nat.le_refl _)
        have h3 := q2 i hi
        show (if f i = n then f (n + 1) else f i) < n
        split <;> omega)
      refine ⟨i, j, a, by omega, ?_⟩
      change (if f i = n then f (n + 1) else f i) = (if f j = n then f (n + 1) else f j) at c
      have h1 := q2 i (by omega)
      have h2 := q2 j b
      split at c <;> split at c <;> omega
/-- f, many times -/
def gN (h : HV) (pl : Int → Int) : Nat → Int → Int
  | 0, a => a
  | n + 1, a => gN h pl n (gT h pl a)
theorem gN_add {h : HV} {pl : Int → Int} : ∀ (m n : Nat) (a : Int), gN h pl (m + n) a = gN h pl n (gN h pl m a)
  | 0, n, a => by rw [Nat.zero_add]; rfl
  | m + 1, n, a => by
    rw [show m + 1 + n = (m + n) + 1 by omega]
    show gN h pl (m + n) (gT h pl a) = gN h pl n (gN h pl m (gT h pl a))
    exact gN_add m n _
theorem cbT_iff {h : HV} {pl : Int → Int} {p : Int} : ∀ (n : Nat) (a : Int), cbT h pl p n a = 1 ↔ ∃ j, 1 ≤ j ∧ j ≤ n ∧ gN h pl j a = p
  | 0, a => ⟨fun w => by rw [cbT] at w; omega, fun ⟨j, a, b, _⟩ => by omega⟩
  | n + 1, a => by
    rw [cbT]
    by_cases q : gT h pl a = p
    · rw [if_pos q]
      exact ⟨fun _ => ⟨1, Nat.le_refl _, by omega, q⟩, fun _ => rfl⟩
    · rw [if_neg q, cbT_iff n]
      constructor
      · rintro ⟨j, a1, a2, a3⟩
        exact ⟨j + 1, by omega, by omega, a3⟩
      · rintro ⟨j, a1, a2, a3⟩
        cases j with
        | zero => omega
        | succ j =>
          cases j with
          | zero => exact absurd a3 q
          | succ j => exact ⟨j + 1, by omega, by omega, a3⟩
/-- the reference's way round -/
def rT (h : HV) (pl : Int → Int) (p : Int) : Nat → Int → Int
  | 0, q => q
  | n + 1, q => if q = p then q else rT h pl p n (gT h pl q)
theorem rT_iff {h : HV} {pl : Int → Int} {p : Int} : ∀ (n : Nat) (a : Int), rT h pl p n a = p ↔ ∃ j, j ≤ n ∧ gN h pl j a = p
  | 0, a => ⟨fun w => ⟨0, Nat.le_refl _, w⟩, fun ⟨j, a, b⟩ => by
      cases j with
      | zero => exact b
      | succ j => omega⟩
  | n + 1, a => by
    rw [rT]
    by_cases q : a = p
    · rw [if_pos q]
      exact ⟨fun _ => ⟨0, by omega, q⟩, fun _ => q⟩
    · rw [if_neg q, rT_iff n]
      constructor
      · rintro ⟨j, a2, a3⟩
        exact ⟨j + 1, by omega, a3⟩
      · rintro ⟨j, a2, a3⟩
        cases j with
        | zero => exact absurd a3 q
        | succ j => exact ⟨j, by omega, a3⟩
theorem gN_b {h : HV} {pl : Int → Int} : ∀ (j : Nat) (a : Int), (0 ≤ a ∧ a < h 836 4) → wT h pl a = 1 → (0 ≤ gN h pl j a ∧ gN h pl j a < h 836 4)
  | 0, a, ha, _ => ha
  | j + 1, a, ha, hw => by
    have := gT_b (p := a) ha hw
    exact gN_b j _ this.1 this.2
theorem ring_eq {h : HV} {pl : Int → Int} {p : Int} (h24 : h 836 4 ≤ 24) (hp : 0 ≤ p ∧ p < h 836 4) (hw : wT h pl p = 1) : rT h pl p 24 (gT h pl p) = p ↔ cbT h pl p 24 p = 1 := by
  rw [rT_iff, cbT_iff]
  constructor
  · rintro ⟨j, a1, a2⟩
    by_cases e : j + 1 ≤ 24
    · exact ⟨j + 1, by omega, e, a2⟩
    · have j24 : j = 24 := by omega
      subst j24
      have a3 : gN h pl 25 p = p := a2
      obtain ⟨x, y, b1, b2, b3⟩ := pigeonT 24 (fun i => (gN h pl i p).toNat) (fun i _ => by
        have := gN_b (h := h) (pl := pl) i p hp hw
        show (gN h pl i p).toNat < 24
        omega)
      change (gN h pl x p).toNat = (gN h pl y p).toNat at b3
      have c1 := gN_b (h := h) (pl := pl) x p hp hw
      have c2 := gN_b (h := h) (pl := pl) y p hp hw
      have b4 : gN h pl x p = gN h pl y p := by omega
      refine ⟨x + (25 - y), by omega, by omega, ?_⟩
      rw [gN_add, b4, ← gN_add, show y + (25 - y) = 25 by omega]
      exact a3
  · rintro ⟨j, a0, a1, a2⟩
    cases j with
    | zero => omega
    | succ j => exact ⟨j, by omega, a2⟩
