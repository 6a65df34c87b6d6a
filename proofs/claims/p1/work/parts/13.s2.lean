/-! SOUNDNESS, 2: stack and locals; one instruction at a time -/
abbrev cvv (vF : Value) (ad : Int → Nat) (v : AV) : Value := cv vF ad v.1 v.2
theorem rng_tag {al : Int → Prop} {t : Nat} {x : Int} (h : rng al t x) : t ≤ 3 := by
  match t, h with
  | 0, _ => decide
  | 1, _ => decide
  | 2, _ => decide
  | 3, _ => decide
/-- the locals that are known -/
def kl (vF : Value) (ad : Int → Nat) (ls : List AV) : List (Nat × Value) := (List.range ls.length).filterMap fun i => match ls[i]? with
  | some v => if v.1 ≤ 3 then some (i, cvv vF ad v) else none
  | none => none
theorem kl_mem {vF : Value} {ad : Int → Nat} {ls : List AV} {q : Nat × Value} : q ∈ kl vF ad ls ↔ ∃ v, ls[q.1]? = some v ∧ v.1 ≤ 3 ∧ q.2 = cvv vF ad v := by
  unfold kl
  rw [List.mem_filterMap]
  constructor
  · rintro ⟨i, hi, h⟩
    cases hv : ls[i]? with
    | none => rw [hv] at h; cases h
    | some v =>
      rw [hv] at h
      dsimp only at h
      by_cases h3 : v.1 ≤ 3
      · rw [if_pos h3] at h
        cases h
        exact ⟨v, hv, h3, rfl⟩
      · rw [if_neg h3] at h; cases h
  · rintro ⟨v, hv, h3, e⟩
    refine ⟨q.1, List.mem_range.mpr (List.getElem?_eq_some_iff.mp hv).1, ?_⟩
    rw [hv]
    dsimp only
    rw [if_pos h3, ← e]
theorem klp_cat {n : Nat} {v : AV} (h : (klp n v).1 ≤ 3) (hn : n = 0) : klp n v = v ∧ v.1 ≠ 1 ∧ v.1 ≠ 2 := by
  subst hn
  obtain ⟨t, x⟩ := v
  match t, h with
  | 0, _ => exact ⟨rfl, by show (0 : Nat) ≠ 1; decide, by show (0 : Nat) ≠ 2; decide⟩
  | 1, h => exact absurd h (by show ¬ 9 ≤ 3; decide)
  | 2, h => exact absurd h (by show ¬ 9 ≤ 3; decide)
  | t + 3, _ => exact ⟨rfl, by show t + 3 ≠ 1; omega, by show t + 3 ≠ 2; omega⟩
theorem klp_s (n : Nat) (v : AV) : klp (n + 1) v = v := by
  obtain ⟨t, x⟩ := v
  match t with
  | 0 => rfl
  | 1 => rfl
  | 2 => rfl
  | t + 3 => rfl
theorem stl_len : ∀ (ls : List AV) (i : Nat) (v : AV), (stl ls i v).length = ls.length
  | [], _, _ => rfl
  | _ :: r, 0, _ => rfl
  | a :: r, i + 1, v => by show (stl r i v).length + 1 = r.length + 1; rw [stl_len r i v]
theorem stl_get : ∀ (ls : List AV) (i : Nat) (v : AV) (j : Nat) (u : AV), (stl ls i v)[j]? = some u → (j = i ∧ u = v) ∨ (j ≠ i ∧ ∃ a, ls[j]? = some a ∧ (u = a ∨ (j + 1 = i ∧ u = klp 0 a)))
  | [], _, _, j, u, h => by cases h
  | a :: r, 0, v, 0, u, h => by cases h; exact Or.inl ⟨rfl, rfl⟩
  | a :: r, 0, v, j + 1, u, h => Or.inr ⟨by omega, u, h, Or.inl rfl⟩
  | a :: r, i + 1, v, 0, u, h => by
    have h : some (klp i a) = some u := h
    cases h
    refine Or.inr ⟨by omega, a, rfl, ?_⟩
    cases i with
    | zero => exact Or.inr ⟨rfl, rfl⟩
    | succ i => exact Or.inl (klp_s i a)
  | a :: r, i + 1, v, j + 1, u, h => by
    rcases stl_get r i v j u h with ⟨rfl, rfl⟩ | ⟨h1, b, h2, h3⟩
    · exact Or.inl ⟨rfl, rfl⟩
    · exact Or.inr ⟨by omega, b, h2, h3.imp id (fun ⟨x, y⟩ => ⟨by omega, y⟩)⟩
theorem stl2_s (a : AV) (r : List AV) (i : Nat) (v : AV) : stl2 (a :: r) (i + 1) v = klp i a :: stl2 r i v := by cases r <;> rfl
theorem stl2_len : ∀ (ls : List AV) (i : Nat) (v : AV), i + 1 < ls.length → (stl2 ls i v).length = ls.length
  | [], _, _, h => absurd h (Nat.not_lt_zero _)
  | [_], 0, _, h => absurd h (by show ¬ 0 + 1 < 1; omega)
  | _ :: _ :: r, 0, _, _ => rfl
  | a :: r, i + 1, v, h => by
    have h : i + 1 + 1 < r.length + 1 := h
    rw [stl2_s]
    show (stl2 r i v).length + 1 = r.length + 1
    rw [stl2_len r i v (by omega)]
theorem stl2_get : ∀ (ls : List AV) (i : Nat) (v : AV) (j : Nat) (u : AV), (stl2 ls i v)[j]? = some u → (j = i ∧ u = v) ∨ (j = i + 1 ∧ u = (9, 0)) ∨ (j ≠ i ∧ j ≠ i + 1 ∧ ∃ a, ls[j]? = some a ∧ (u = a ∨ (j + 1 = i ∧ u = klp 0 a)))
  | [], _, _, j, u, h => by cases h
  | [_], 0, _, j, u, h => by cases h
  | a :: b :: r, 0, v, 0, u, h => by cases h; exact Or.inl ⟨rfl, rfl⟩
  | a :: b :: r, 0, v, 1, u, h => by cases h; exact Or.inr (Or.inl ⟨rfl, rfl⟩)
  | a :: b :: r, 0, v, j + 2, u, h => Or.inr (Or.inr ⟨by omega, by omega, u, h, Or.inl rfl⟩)
  | a :: r, i + 1, v, 0, u, h => by
    rw [stl2_s] at h
    have h : some (klp i a) = some u := h
    cases h
    refine Or.inr (Or.inr ⟨by omega, by omega, a, rfl, ?_⟩)
    cases i with
    | zero => exact Or.inr ⟨rfl, rfl⟩
    | succ i => exact Or.inl (klp_s i a)
  | a :: r, i + 1, v, j + 1, u, h => by
    rw [stl2_s] at h
    rcases stl2_get r i v j u h with ⟨rfl, rfl⟩ | ⟨rfl, rfl⟩ | ⟨h1, h1', b, h2, h3⟩
    · exact Or.inl ⟨rfl, rfl⟩
    · exact Or.inr (Or.inl ⟨rfl, rfl⟩)
    · exact Or.inr (Or.inr ⟨by omega, by omega, b, h2, h3.imp id (fun ⟨x, y⟩ => ⟨by omega, y⟩)⟩)
theorem stl_prev : ∀ (ls : List AV) (i : Nat) (v : AV) (j : Nat) (b : AV), j + 1 = i → ls[j]? = some b → i < ls.length → (stl ls i v)[j]? = some (klp 0 b)
  | [], _, _, _, _, _, h, _ => by cases h
  | _ :: _, 0, _, j, _, hj, _, _ => by omega
  | c :: r, i + 1, v, 0, b, hj, hb, _ => by
    have e : i = 0 := by omega
    subst e
    cases hb
    rfl
  | c :: r, i + 1, v, j + 1, b, hj, hb, hl => stl_prev r i v j b (by omega) hb (by have hl : i + 1 < r.length + 1 := hl; omega)
theorem stl2_prev : ∀ (ls : List AV) (i : Nat) (v : AV) (j : Nat) (b : AV), j + 1 = i → ls[j]? = some b → i + 1 < ls.length → (stl2 ls i v)[j]? = some (klp 0 b)
  | [], _, _, _, _, _, h, _ => by cases h
  | _ :: _, 0, _, j, _, hj, _, _ => by omega
  | c :: r, i + 1, v, 0, b, hj, hb, _ => by
    have e : i = 0 := by omega
    subst e
    cases hb
    rw [stl2_s]
    rfl
  | c :: r, i + 1, v, j + 1, b, hj, hb, hl => by
    rw [stl2_s]
    exact stl2_prev r i v j b (by omega) hb (by have hl : i + 1 + 1 < r.length + 1 := hl; omega)
section ST0
variable (fz : Int → Int → Option Int) (base : Nat) (H0 : Heap) (hI : HV) (dC : Nat → ClassId) (dI : Nat → Nat → Nat) (vF : Value) (adS adV : Nat → Nat) (bS : Nat) (s : State) (R : Room) (hE : HV) (al0 : Int → Prop) (ad0 : Int → Nat)
def LR (al : Int → Prop) (ad : Int → Nat) (ls : List AV) (lc : Array Slot) : Prop := lv_has lc ls.length (kl vF ad ls) ∧ ∀ v ∈ ls, v.1 ≤ 3 → rng al v.1 v.2
def ST (al : Int → Prop) (ad : Int → Nat) (h : HV) (H : Heap) (locs : List Loc) (cells slots : Nat) (ls st : List AV) (lc : Array Slot) (sc : List Value) : Prop :=
  Sm fz base H0 hI dC dI vF s al ad adS adV bS h H ∧ (∀ o, al0 o → al o ∧ ad o = ad0 o) ∧ LR vF al ad ls lc ∧ (sc = st.map (cvv vF ad) ∧ ∀ v ∈ st, rng al v.1 v.2) ∧ (∀ q ∈ locs, base ≤ q.base) ∧ (cells : Int) + (hE 0 0 - h 0 0) = R.cells ∧ (slots : Int) + (hE 0 1 - h 0 1) = R.slots
end ST0
section ST1
variable {fz : Int → Int → Option Int} {base : Nat} {H0 : Heap} {hI : HV} {dC : Nat → ClassId} {dI : Nat → Nat → Nat} {vF : Value} {adS adV : Nat → Nat} {bS : Nat} {s : State} {R : Room} {hE : HV} {al0 : Int → Prop} {ad0 : Int → Nat}
variable {al : Int → Prop} {ad : Int → Nat} {h : HV} {H : Heap} {locs : List Loc} {cells slots : Nat} {ls st : List AV} {lc : Array Slot} {sc : List Value}
theorem ST.pop {v : AV} (g : ST fz base H0 hI dC dI vF adS adV bS s R hE al0 ad0 al ad h H locs cells slots ls (v :: st) lc sc) : ∃ sc', sc = cvv vF ad v :: sc' ∧ rng al v.1 v.2 ∧ ST fz base H0 hI dC dI vF adS adV bS s R hE al0 ad0 al ad h H locs cells slots ls st lc sc' := by
  obtain ⟨g1, g2, g3, ⟨g4, g5⟩, g6⟩ := g
  exact ⟨st.map (cvv vF ad), g4, g5 v List.mem_cons_self, g1, g2, g3, ⟨rfl, fun w hw => g5 w (List.mem_cons_of_mem _ hw)⟩, g6⟩
theorem ST.push {v : AV} (g : ST fz base H0 hI dC dI vF adS adV bS s R hE al0 ad0 al ad h H locs cells slots ls st lc sc) (hv : rng al v.1 v.2) : ST fz base H0 hI dC dI vF adS adV bS s R hE al0 ad0 al ad h H locs cells slots ls (v :: st) lc (cvv vF ad v :: sc) := by
  obtain ⟨g1, g2, g3, ⟨g4, g5⟩, g6⟩ := g
  refine ⟨g1, g2, g3, ⟨by rw [g4]; rfl, fun w hw => ?_⟩, g6⟩
  rcases List.mem_cons.mp hw with rfl | hw
  · exact hv
  · exact g5 w hw
theorem ST.load {v : AV} {i : Nat} (g : ST fz base H0 hI dC dI vF adS adV bS s R hE al0 ad0 al ad h H locs cells slots ls st lc sc) (hi : ls.getD i nun = v) (ht : v.1 ≤ 3) : lc[i]? = some (.val (cvv vF ad v)) ∧ rng al v.1 v.2 := by
  have hv : ls[i]? = some v := by
    rw [List.getD_eq_getElem?_getD] at hi
    cases e : ls[i]? with
    | none => rw [e] at hi; subst hi; exact absurd ht (by decide)
    | some w => rw [e] at hi; exact congrArg some hi
  exact ⟨g.2.2.1.1.2.2 (i, cvv vF ad v) (kl_mem.mpr ⟨v, hv, ht, rfl⟩), g.2.2.1.2 v (List.mem_of_getElem? hv) ht⟩
theorem ST.lcs (g : ST fz base H0 hI dC dI vF adS adV bS s R hE al0 ad0 al ad h H locs cells slots ls st lc sc) : lc.size = ls.length := g.2.2.1.1.1
/-- the locals behind a store of one word -/
theorem ST.sto1 {v : AV} {i : Nat} {lc' : Array Slot} (g : ST fz base H0 hI dC dI vF adS adV bS s R hE al0 ad0 al ad h H locs cells slots ls st lc sc) (hi : i < ls.length) (hr : rng al v.1 v.2) (hl : lv_has lc' ls.length ((i, cvv vF ad v) :: (kl vF ad ls).filter (fun q => !(q.1 == i) && !(q.1 + 1 == i && q.2.category == 2)))) (hcat : ∀ (t : Nat) (x : Int), t ≠ 1 → t ≠ 2 → rng al t x → (cv vF ad t x).category = 1) :
    ST fz base H0 hI dC dI vF adS adV bS s R hE al0 ad0 al ad h H locs cells slots (stl ls i v) st lc' sc := by
  obtain ⟨g1, g2, ⟨g3, g3'⟩, g4, g6⟩ := g
  refine ⟨g1, g2, ⟨⟨by rw [stl_len]; exact hl.1, hl.2.1, fun q hq => ?_⟩, fun u hu h3 => ?_⟩, g4, g6⟩
  · obtain ⟨u, h1, h2, h4⟩ := kl_mem.mp hq
    rcases stl_get ls i v q.1 u h1 with ⟨e1, e2⟩ | ⟨e1, a, e2, e3⟩
    · subst e2
      have := hl.2.2 (i, cvv vF ad u) List.mem_cons_self
      rw [e1, h4]; exact this
    · refine hl.2.2 q (List.mem_cons_of_mem _ (List.mem_filter.mpr ⟨?_, ?_⟩))
      · rcases e3 with e3 | ⟨e3, e4⟩
        · subst e3; exact kl_mem.mpr ⟨u, e2, h2, h4⟩
        · have hk := klp_cat (n := 0) (v := a) (by rw [← e4]; exact h2) rfl
          rw [hk.1] at e4
          subst e4; exact kl_mem.mpr ⟨u, e2, h2, h4⟩
      · have hc : ¬ (q.1 + 1 = i ∧ q.2.category = 2) := by
          rintro ⟨c1, c2⟩
          have e5 : u = klp 0 a := by
            rcases e3 with e3 | ⟨-, e4⟩
            · have : (stl ls i v)[q.1]? = some (klp 0 a) := by
                have hlt := (List.getElem?_eq_some_iff.mp h1).1
                subst e3
                exact stl_prev ls i v q.1 u c1 e2 hi
              rw [h1] at this
              exact Option.some.inj this
            · exact e4
          have hk := klp_cat (n := 0) (v := a) (by rw [← e5]; exact h2) rfl
          rw [hk.1] at e5
          subst e5
          have hr' := g3' u (List.mem_of_getElem? e2) h2
          rw [h4, hcat u.1 u.2 hk.2.1 hk.2.2 hr'] at c2
          exact absurd c2 (by decide)
        have hb : (q.1 == i) = false := by simpa using e1
        rw [hb]
        by_cases c1 : q.1 + 1 = i
        · have c2 : ¬ q.2.category = 2 := fun c => hc ⟨c1, c⟩
          have : (q.2.category == 2) = false := by simpa using c2
          rw [this]; simp
        · have : (q.1 + 1 == i) = false := by simpa using c1
          rw [this]; rfl
  · obtain ⟨j, hj⟩ := List.getElem?_of_mem hu
    rcases stl_get ls i v j u hj with ⟨e1, e2⟩ | ⟨e1, a, e2, e3⟩
    · subst e2; exact hr
    · rcases e3 with e3 | ⟨e3, e4⟩
      · subst e3; exact g3' u (List.mem_of_getElem? e2) h3
      · have hk := klp_cat (n := 0) (v := a) (by rw [← e4]; exact h3) rfl
        rw [hk.1] at e4
        subst e4; exact g3' u (List.mem_of_getElem? e2) h3
/-- the locals behind a store of two words -/
theorem ST.sto2 {v : AV} {i : Nat} {lc' : Array Slot} (g : ST fz base H0 hI dC dI vF adS adV bS s R hE al0 ad0 al ad h H locs cells slots ls st lc sc) (hi : i + 1 < ls.length) (hr : rng al v.1 v.2) (hl : lv_has lc' ls.length ((i, cvv vF ad v) :: (kl vF ad ls).filter (fun q => !(q.1 == i) && (!(q.1 == i + 1) && !(q.1 + 1 == i && q.2.category == 2))))) (hcat : ∀ (t : Nat) (x : Int), t ≠ 1 → t ≠ 2 → rng al t x → (cv vF ad t x).category = 1) :
    ST fz base H0 hI dC dI vF adS adV bS s R hE al0 ad0 al ad h H locs cells slots (stl2 ls i v) st lc' sc := by
  obtain ⟨g1, g2, ⟨g3, g3'⟩, g4, g6⟩ := g
  refine ⟨g1, g2, ⟨⟨by rw [stl2_len ls i v hi]; exact hl.1, hl.2.1, fun q hq => ?_⟩, fun u hu h3 => ?_⟩, g4, g6⟩
  · obtain ⟨u, h1, h2, h4⟩ := kl_mem.mp hq
    rcases stl2_get ls i v q.1 u h1 with ⟨e1, e2⟩ | ⟨e1, e2⟩ | ⟨e1, e1', a, e2, e3⟩
    · subst e2
      have := hl.2.2 (i, cvv vF ad u) List.mem_cons_self
      rw [e1, h4]; exact this
    · subst e2; exact absurd h2 (by decide)
    · refine hl.2.2 q (List.mem_cons_of_mem _ (List.mem_filter.mpr ⟨?_, ?_⟩))
      · rcases e3 with e3 | ⟨e3, e4⟩
        · subst e3; exact kl_mem.mpr ⟨u, e2, h2, h4⟩
        · have hk := klp_cat (n := 0) (v := a) (by rw [← e4]; exact h2) rfl
          rw [hk.1] at e4
          subst e4; exact kl_mem.mpr ⟨u, e2, h2, h4⟩
      · have hc : ¬ (q.1 + 1 = i ∧ q.2.category = 2) := by
          rintro ⟨c1, c2⟩
          have e5 : u = klp 0 a := by
            rcases e3 with e3 | ⟨-, e4⟩
            · have : (stl2 ls i v)[q.1]? = some (klp 0 a) := by
                have hlt := (List.getElem?_eq_some_iff.mp h1).1
                subst e3
                exact stl2_prev ls i v q.1 u c1 e2 hi
              rw [h1] at this
              exact Option.some.inj this
            · exact e4
          have hk := klp_cat (n := 0) (v := a) (by rw [← e5]; exact h2) rfl
          rw [hk.1] at e5
          subst e5
          have hr' := g3' u (List.mem_of_getElem? e2) h2
          rw [h4, hcat u.1 u.2 hk.2.1 hk.2.2 hr'] at c2
          exact absurd c2 (by decide)
        have hb : (q.1 == i) = false := by simpa using e1
        have hb2 : (q.1 == i + 1) = false := by simpa using e1'
        rw [hb, hb2]
        by_cases c1 : q.1 + 1 = i
        · have c2 : ¬ q.2.category = 2 := fun c => hc ⟨c1, c⟩
          have : (q.2.category == 2) = false := by simpa using c2
          rw [this]; simp
        · have : (q.1 + 1 == i) = false := by simpa using c1
          rw [this]; rfl
  · obtain ⟨j, hj⟩ := List.getElem?_of_mem hu
    rcases stl2_get ls i v j u hj with ⟨e1, e2⟩ | ⟨e1, e2⟩ | ⟨e1, e1', a, e2, e3⟩
    · subst e2; exact hr
    · subst e2; exact absurd h3 (by decide)
    · rcases e3 with e3 | ⟨e3, e4⟩
      · subst e3; exact g3' u (List.mem_of_getElem? e2) h3
      · have hk := klp_cat (n := 0) (v := a) (by rw [← e4]; exact h3) rfl
        rw [hk.1] at e4
        subst e4; exact g3' u (List.mem_of_getElem? e2) h3
end ST1
