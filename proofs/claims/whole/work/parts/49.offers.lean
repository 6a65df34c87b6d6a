/-! THE PURE SIDE, 30: offers, in whatever order, come to the same -/
def cnt (f : Nat → Prop) [DecidablePred f] : Nat → Nat
  | 0 => 0
  | n + 1 => cnt f n + if f n then 1 else 0
theorem cnt_congr {f g : Nat → Prop} [DecidablePred f] [DecidablePred g] : ∀ (n : Nat), (∀ p, p < n → (f p ↔ g p)) → cnt f n = cnt g n
  | 0, _ => rfl
  | n + 1, h => by
    rw [cnt, cnt, cnt_congr n (fun p hp => h p (by omega))]
    have := h n (by omega)
    by_cases hf : f n
    · rw [if_pos hf, if_pos (this.mp hf)]
    · rw [if_neg hf, if_neg (fun q => hf (this.mpr q))]
theorem cnt_le {f g : Nat → Prop} [DecidablePred f] [DecidablePred g] : ∀ (n : Nat), (∀ p, p < n → f p → g p) → cnt f n ≤ cnt g n
  | 0, _ => Nat.le_refl _
  | n + 1, h => by
    rw [cnt, cnt]
    have ih := cnt_le (f := f) (g := g) n (fun p hp => h p (by omega))
    have := h n (by omega)
    by_cases hf : f n
    · rw [if_pos hf, if_pos (this hf)]; omega
    · rw [if_neg hf]; omega
/-- one is added -/
theorem cnt_add {f g : Nat → Prop} [DecidablePred f] [DecidablePred g] {p0 : Nat} : ∀ (n : Nat), p0 < n → ¬ f p0 → g p0 → (∀ p, p < n → p ≠ p0 → (f p ↔ g p)) → cnt g n = cnt f n + 1
  | 0, h0, _, _, _ => by omega
  | n + 1, h0, h1, h2, h => by
    rw [cnt, cnt]
    by_cases e : p0 = n
    · subst e
      rw [if_neg h1, if_pos h2, cnt_congr (f := g) (g := f) p0 (fun p hp => (h p (by omega) (by omega)).symm)]
    · have ih := cnt_add (f := f) (g := g) n (by omega) h1 h2 (fun p hp hq => h p (by omega) hq)
      have := h n (by omega) (by omega)
      by_cases hf : f n
      · rw [if_pos hf, if_pos (this.mp hf)]; omega
      · rw [if_neg hf, if_neg (fun q => hf (this.mpr q))]; omega
/-- of two sets, the one that isn't the lesser has one that the other has not -/
theorem cnt_ex {f g : Nat → Prop} [DecidablePred f] [DecidablePred g] {n p0 : Nat} (hp : p0 < n) (hf : f p0) (hg : ¬ g p0) (hc : cnt f n ≤ cnt g n) : ∃ q, q < n ∧ g q ∧ ¬ f q := by
  by_cases h : ∃ q, q < n ∧ g q ∧ ¬ f q
  · exact h
  · exfalso
    have h2 : ∀ q, q < n → g q → f q := fun q h3 h4 => by
      by_cases h5 : f q
      · exact h5
      · exact (h ⟨q, h3, h4, h5⟩).elim
    have h3 : cnt g n ≤ cnt (fun q => f q ∧ q ≠ p0) n := cnt_le n (fun q h4 h5 => ⟨h2 q h4 h5, fun e => hg (by rw [← e]; exact h5)⟩)
    have h4 := cnt_add (f := fun q => f q ∧ q ≠ p0) (g := f) n hp (fun q => q.2 rfl) hf (fun p _ h6 => ⟨fun q => q.1, fun q => ⟨q, h6⟩⟩)
    omega
section OFF
variable {n : Nat} {rc : Nat → Nat} {rk : Nat → Nat → Int} {cap : Int → Nat} {bt : Int → Nat → Nat → Prop}
/-- how many are placed in a course -/
def hd (n : Nat) (pl : Nat → Int) (c : Int) : Nat := cnt (fun p => pl p = c) n
/-- what holds on the way: who is placed is placed where it asked last; who was refused was refused by a full course of better ones -/
def OI (n : Nat) (rc : Nat → Nat) (rk : Nat → Nat → Int) (cap : Int → Nat) (bt : Int → Nat → Nat → Prop) (pl : Nat → Int) (ak : Nat → Nat) : Prop :=
  (∀ p, p < n → pl p ≠ -9 → 1 ≤ ak p ∧ pl p = rk p (ak p - 1)) ∧ (∀ p, p < n → ak p ≤ rc p) ∧ (∀ c, c ≠ -9 → hd n pl c ≤ cap c) ∧
  (∀ p k, p < n → k < ak p → pl p ≠ rk p k → hd n pl (rk p k) = cap (rk p k) ∧ ∀ q, q < n → pl q = rk p k → bt (rk p k) q p)
/-- one offer: p asks c; w, the worst of those there and p, goes away if they are too many -/
def OS (n : Nat) (rc : Nat → Nat) (rk : Nat → Nat → Int) (cap : Int → Nat) (bt : Int → Nat → Nat → Prop) (pl : Nat → Int) (ak : Nat → Nat) (pl' : Nat → Int) (ak' : Nat → Nat) : Prop :=
  ∃ p, p < n ∧ pl p = -9 ∧ ak p < rc p ∧ (∀ x, x < n → ak' x = if x = p then ak p + 1 else ak x) ∧
    ((hd n pl (rk p (ak p)) < cap (rk p (ak p)) ∧ ∀ x, x < n → pl' x = if x = p then rk p (ak p) else pl x) ∨
     (hd n pl (rk p (ak p)) = cap (rk p (ak p)) ∧ (∀ q, q < n → pl q = rk p (ak p) → bt (rk p (ak p)) q p) ∧ ∀ x, x < n → pl' x = pl x) ∨
     (hd n pl (rk p (ak p)) = cap (rk p (ak p)) ∧ ∃ w, w < n ∧ pl w = rk p (ak p) ∧ bt (rk p (ak p)) p w ∧ (∀ q, q < n → pl q = rk p (ak p) → q ≠ w → bt (rk p (ak p)) q w) ∧ ∀ x, x < n → pl' x = if x = p then rk p (ak p) else if x = w then -9 else pl x))
theorem OI_0 (pl : Nat → Int) (ak : Nat → Nat) (hp : ∀ p, p < n → pl p = -9) (ha : ∀ p, p < n → ak p = 0) : OI n rc rk cap bt pl ak := by
  refine ⟨fun p h1 h2 => (h2 (hp p h1)).elim, fun p h1 => by rw [ha p h1]; exact Nat.zero_le _, fun c hc => ?_, fun p k h1 h2 => by rw [ha p h1] at h2; omega⟩
  have : hd n pl c = 0 := by
    unfold hd
    have h0 : ∀ m, m ≤ n → cnt (fun p => pl p = c) m = 0 := by
      intro m
      induction m with
      | zero => exact fun _ => rfl
      | succ m ih =>
        intro hm
        rw [cnt, ih (by omega), if_neg (by rw [hp m (by omega)]; omega)]
    exact h0 n (Nat.le_refl _)
  omega
theorem OI_step {pl pl' : Nat → Int} {ak ak' : Nat → Nat} (hrk : ∀ p k, p < n → k < rc p → rk p k ≠ -9) (hin : ∀ p k j, p < n → k < rc p → j < rc p → rk p k = rk p j → k = j)
    (htr : ∀ c p q r, bt c p q → bt c q r → bt c p r) (I : OI n rc rk cap bt pl ak) (S : OS n rc rk cap bt pl ak pl' ak') : OI n rc rk cap bt pl' ak' := by
  obtain ⟨i1, i2, i3, i4⟩ := I
  obtain ⟨p, hp, hpl, hak, hA, hS⟩ := S
  generalize hc : rk p (ak p) = c at *
  have hc9 : c ≠ -9 := by rw [← hc]; exact hrk p _ hp hak
  have hake : ak' p = ak p + 1 := by rw [hA p hp, if_pos rfl]
  -- p's earlier courses are others
  have hne : ∀ k, k < ak p → rk p k ≠ c := fun k hk e => by
    have := hin p k (ak p) hp (by omega) hak (by rw [e, hc])
    omega
  have hle : ∀ x, x < n → ak' x ≤ rc x := fun x hx => by
    rw [hA x hx]
    split
    · rename_i e; rw [e]; omega
    · exact i2 x hx
  rcases hS with ⟨hlt, hP⟩ | ⟨heq, hall, hP⟩ | ⟨heq, w, hw, hwc, hpw, hww, hP⟩
  · -- there was a place
    have hnew : hd n pl' c = hd n pl c + 1 := by
      unfold hd
      refine cnt_add n hp (by rw [hpl]; omega) (by rw [hP p hp, if_pos rfl]) (fun x hx hxp => ?_)
      rw [hP x hx, if_neg hxp]
    have hoth : ∀ c', c' ≠ c → c' ≠ -9 → hd n pl' c' = hd n pl c' := fun c' h1 h2 => by
      unfold hd
      refine cnt_congr n (fun x hx => ?_)
      rw [hP x hx]
      split
      · rename_i e; rw [e, hpl]; constructor <;> intro q <;> omega
      · exact Iff.rfl
    refine ⟨fun x hx h9 => ?_, hle, fun c' h9 => ?_, fun x k hx hk hr => ?_⟩
    · by_cases e : x = p
      · subst e
        rw [hP x hx, if_pos rfl, hake]
        exact ⟨by omega, by rw [Nat.add_sub_cancel]; exact hc.symm⟩
      · rw [hP x hx, if_neg e] at h9 ⊢
        rw [hA x hx, if_neg e]
        exact i1 x hx h9
    · by_cases e : c' = c
      · rw [e, hnew]; omega
      · rw [hoth c' e h9]; exact i3 c' h9
    · have hkr : k < rc x := Nat.lt_of_lt_of_le hk (hle x hx)
      have h9 := hrk x k hx hkr
      by_cases e : x = p
      · subst e
        rw [hake] at hk
        by_cases ek : k = ak x
        · rw [ek, hc, hP x hx, if_pos rfl] at hr
          exact (hr rfl).elim
        · have hk2 : k < ak x := by omega
          have hnc := hne k hk2
          have o := i4 x k hx hk2 (by rw [hpl]; exact fun q => h9 q.symm)
          rw [hoth _ hnc h9]
          refine ⟨o.1, fun q hq hqc => o.2 q hq ?_⟩
          rw [hP q hq] at hqc
          split at hqc
          · exact (hnc hqc.symm).elim
          · exact hqc
      · rw [hA x hx, if_neg e] at hk
        rw [hP x hx, if_neg e] at hr
        have o := i4 x k hx hk hr
        have hnc : rk x k ≠ c := fun q => by rw [q] at o; omega
        rw [hoth _ hnc h9]
        refine ⟨o.1, fun q hq hqc => o.2 q hq ?_⟩
        rw [hP q hq] at hqc
        split at hqc
        · exact (hnc hqc.symm).elim
        · exact hqc
  · -- p itself is refused
    have hoth : ∀ c', hd n pl' c' = hd n pl c' := fun c' => cnt_congr n (fun x hx => by rw [hP x hx])
    refine ⟨fun x hx h9 => ?_, hle, fun c' h9 => by rw [hoth]; exact i3 c' h9, fun x k hx hk hr => ?_⟩
    · rw [hP x hx] at h9 ⊢
      by_cases e : x = p
      · rw [e, hpl] at h9; exact (h9 rfl).elim
      · rw [hA x hx, if_neg e]
        exact i1 x hx h9
    · rw [hoth]
      have key : hd n pl (rk x k) = cap (rk x k) ∧ ∀ q, q < n → pl q = rk x k → bt (rk x k) q x := by
        rw [hP x hx] at hr
        by_cases e : x = p
        · subst e
          rw [hake] at hk
          by_cases ek : k = ak x
          · rw [ek, hc]
            exact ⟨heq, hall⟩
          · exact i4 x k hx (by omega) hr
        · rw [hA x hx, if_neg e] at hk
          exact i4 x k hx hk hr
      exact ⟨key.1, fun q hq hqc => key.2 q hq (by rw [← hP q hq]; exact hqc)⟩
  · -- another one goes
    have hwp : w ≠ p := fun e => by rw [e, hpl] at hwc; omega
    have hPp : pl' p = c := by rw [hP p hp, if_pos rfl]
    have hPw : pl' w = -9 := by rw [hP w hw, if_neg hwp, if_pos rfl]
    have hPo : ∀ x, x < n → x ≠ p → x ≠ w → pl' x = pl x := fun x hx h1 h2 => by rw [hP x hx, if_neg h1, if_neg h2]
    have hnew : hd n pl' c = hd n pl c := by
      have e1 : hd n pl c = cnt (fun x => pl x = c ∧ x ≠ w) n + 1 := by
        unfold hd
        exact cnt_add n hw (fun q => q.2 rfl) hwc (fun x _ hxw => ⟨fun q => q.1, fun q => ⟨q, hxw⟩⟩)
      have e2 : hd n pl' c = cnt (fun x => pl x = c ∧ x ≠ w) n + 1 := by
        unfold hd
        refine cnt_add n hp (fun q => by rw [hpl] at q; omega) hPp (fun x hx hxp => ?_)
        by_cases e : x = w
        · subst e
          rw [hPw]
          exact ⟨fun q => (q.2 rfl).elim, fun q => by omega⟩
        · rw [hPo x hx hxp e]
          exact ⟨fun q => q.1, fun q => ⟨q, e⟩⟩
      omega
    have hoth : ∀ c', c' ≠ c → c' ≠ -9 → hd n pl' c' = hd n pl c' := fun c' h1 h2 => by
      unfold hd
      refine cnt_congr n (fun x hx => ?_)
      by_cases e1 : x = p
      · rw [e1, hPp, hpl]; constructor <;> intro q <;> omega
      · by_cases e2 : x = w
        · rw [e2, hPw, hwc]; constructor <;> intro q <;> omega
        · rw [hPo x hx e1 e2]
    refine ⟨fun x hx h9 => ?_, hle, fun c' h9 => ?_, fun x k hx hk hr => ?_⟩
    · by_cases e1 : x = p
      · subst e1
        rw [hPp, hake]
        exact ⟨by omega, by rw [Nat.add_sub_cancel]; exact hc.symm⟩
      · by_cases e2 : x = w
        · rw [e2, hPw] at h9; exact (h9 rfl).elim
        · rw [hPo x hx e1 e2] at h9 ⊢
          rw [hA x hx, if_neg e1]
          exact i1 x hx h9
    · by_cases e : c' = c
      · rw [e, hnew]; omega
      · rw [hoth c' e h9]; exact i3 c' h9
    · have hkr : k < rc x := Nat.lt_of_lt_of_le hk (hle x hx)
      have h9 := hrk x k hx hkr
      -- was refused before, or is w now
      by_cases hnc : rk x k = c
      · rw [hnc, hnew]
        refine ⟨heq, fun q hq hqc => ?_⟩
        have hold : x = w ∨ ∀ y, y < n → pl y = c → bt c y x := by
          by_cases e1 : x = p
          · subst e1
            rw [hake] at hk
            by_cases ek : k = ak x
            · rw [ek, hc, hPp] at hr; exact (hr rfl).elim
            · exact (hne k (by omega) hnc).elim
          · by_cases e2 : x = w
            · exact .inl e2
            · rw [hA x hx, if_neg e1] at hk
              rw [hPo x hx e1 e2] at hr
              have o := i4 x k hx hk hr
              rw [hnc] at o
              exact .inr o.2
        have hq2 : q = p ∨ (pl q = c ∧ q ≠ w) := by
          by_cases e1 : q = p
          · exact .inl e1
          · by_cases e2 : q = w
            · rw [e2, hPw] at hqc; omega
            · rw [hPo q hq e1 e2] at hqc; exact .inr ⟨hqc, e2⟩
        rcases hold with e | hold
        · subst e
          rcases hq2 with e | ⟨h1, h2⟩
          · rw [e]; exact hpw
          · exact hww q hq h1 h2
        · rcases hq2 with e | ⟨h1, h2⟩
          · rw [e]; exact htr c p w x hpw (hold w hw hwc)
          · exact hold q hq h1
      · rw [hoth _ hnc h9]
        have o : hd n pl (rk x k) = cap (rk x k) ∧ ∀ q, q < n → pl q = rk x k → bt (rk x k) q x := by
          by_cases e1 : x = p
          · subst e1
            rw [hake] at hk
            by_cases ek : k = ak x
            · rw [ek, hc] at hnc; exact (hnc rfl).elim
            · exact i4 x k hx (by omega) (by rw [hpl]; exact fun q => h9 q.symm)
          · rw [hA x hx, if_neg e1] at hk
            by_cases e2 : x = w
            · subst e2
              by_cases ek : pl x = rk x k
              · rw [hwc] at ek; exact (hnc ek.symm).elim
              · exact i4 x k hx hk ek
            · rw [hPo x hx e1 e2] at hr
              exact i4 x k hx hk hr
        refine ⟨o.1, fun q hq hqc => o.2 q hq ?_⟩
        by_cases e1 : q = p
        · rw [e1, hPp] at hqc; exact (hnc hqc.symm).elim
        · by_cases e2 : q = w
          · rw [e2, hPw] at hqc; exact (h9 hqc.symm).elim
          · rw [hPo q hq e1 e2] at hqc; exact hqc
/-- nobody asks any more -/
def OE (n : Nat) (rc : Nat → Nat) (pl : Nat → Int) (ak : Nat → Nat) : Prop := ∀ p, p < n → pl p = -9 → rc p ≤ ak p
/-- the heart: one who has gone as far as the other end and is free there was refused by a course full of better ones: one of these was refused at the other end -/
theorem off_key {pl1 pl2 : Nat → Int} {ak1 ak2 : Nat → Nat} (hrk : ∀ p k, p < n → k < rc p → rk p k ≠ -9) (has : ∀ c p q, bt c p q → ¬ bt c q p) (I1 : OI n rc rk cap bt pl1 ak1) (I2 : OI n rc rk cap bt pl2 ak2)
    (hle : ∀ p, p < n → ak2 p ≤ ak1 p) {p : Nat} (hp : p < n) (hfree : pl2 p = -9) (h1 : pl1 p ≠ -9) (he : ak2 p = ak1 p) : False := by
  obtain ⟨a1, a2, a3, a4⟩ := I1
  obtain ⟨b1, b2, b3, b4⟩ := I2
  obtain ⟨k1, k2⟩ := a1 p hp h1
  have hr := a2 p hp
  have h9 : rk p (ak1 p - 1) ≠ -9 := by rw [← k2]; exact h1
  have o := b4 p (ak1 p - 1) hp (by omega) (by rw [hfree]; exact fun q => h9 q.symm)
  generalize hc : rk p (ak1 p - 1) = c at *
  obtain ⟨q, hq, hq2, hq1⟩ := cnt_ex (f := fun x => pl1 x = c) (g := fun x => pl2 x = c) hp k2 (by rw [hfree]; exact fun q => h9 q.symm) (by
    have := a3 c h9
    have := o.1
    unfold hd at *
    omega)
  have hq2' : pl2 q = c := hq2
  obtain ⟨m1, m2⟩ := b1 q hq (by rw [hq2']; exact h9)
  have hqa := hle q hq
  have o2 := a4 q (ak2 q - 1) hq (by omega) (by rw [← m2, hq2']; exact hq1)
  rw [← m2, hq2'] at o2
  exact has c p q (o2.2 p hp k2) (o.2 q hq hq2')
theorem off_le {pl1 pl2 pl2' : Nat → Int} {ak1 ak2 ak2' : Nat → Nat} (hrk : ∀ p k, p < n → k < rc p → rk p k ≠ -9) (has : ∀ c p q, bt c p q → ¬ bt c q p) (I1 : OI n rc rk cap bt pl1 ak1) (E1 : OE n rc pl1 ak1) (I2 : OI n rc rk cap bt pl2 ak2)
    (hle : ∀ p, p < n → ak2 p ≤ ak1 p) (S : OS n rc rk cap bt pl2 ak2 pl2' ak2') : ∀ p, p < n → ak2' p ≤ ak1 p := by
  obtain ⟨p, hp, hpl, hak, hA, -⟩ := S
  intro x hx
  rw [hA x hx]
  split
  · rename_i e
    rw [e]
    have h0 := hle p hp
    by_cases he : ak2 p = ak1 p
    · exfalso
      have h1 : pl1 p ≠ -9 := fun q => by
        have := E1 p hp q
        omega
      exact off_key hrk has I1 I2 hle hp hpl h1 he
    · omega
  · exact hle x hx
theorem off_same {pl1 pl2 : Nat → Int} {ak1 ak2 : Nat → Nat} (hrk : ∀ p k, p < n → k < rc p → rk p k ≠ -9) (has : ∀ c p q, bt c p q → ¬ bt c q p) (I1 : OI n rc rk cap bt pl1 ak1) (I2 : OI n rc rk cap bt pl2 ak2)
    (h12 : ∀ p, p < n → ak1 p ≤ ak2 p) (h21 : ∀ p, p < n → ak2 p ≤ ak1 p) : ∀ p, p < n → pl1 p = pl2 p := by
  intro p hp
  have he : ak1 p = ak2 p := Nat.le_antisymm (h12 p hp) (h21 p hp)
  by_cases h1 : pl1 p = -9
  · by_cases h2 : pl2 p = -9
    · rw [h1, h2]
    · exact (off_key hrk has I2 I1 h12 hp h1 h2 he).elim
  · by_cases h2 : pl2 p = -9
    · exact (off_key hrk has I1 I2 h21 hp h2 h1 he.symm).elim
    · rw [(I1.1 p hp h1).2, (I2.1 p hp h2).2, he]
end OFF
