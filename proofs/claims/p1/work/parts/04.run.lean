/-! RUNS, and what they need -/
noncomputable def oif {α : Type} (c : Prop) (a b : Option α) : Option α := @ite _ c (Classical.propDecidable c) a b
theorem oif_pos {α : Type} {c : Prop} {a b : Option α} (h : c) : oif c a b = a := by unfold oif; rw [if_pos h]
theorem oif_neg {α : Type} {c : Prop} {a b : Option α} (h : ¬ c) : oif c a b = b := by unfold oif; rw [if_neg h]
noncomputable abbrev ochk {α : Type} (c : Prop) (a : Option α) : Option α := oif c a none
abbrev pbr (c A B : Prop) : Prop := (c → A) ∧ (¬ c → B)
def ent (m : Nat) (as : List AV) : List AV := entL as ++ List.replicate (ml m - (entL as).length) nun
noncomputable def runM (fz : Int → Int → Option Int) : Nat → Nat → Nat → Nat → List AV → List AV → HV → Option (Int × HV)
  | 0, _, _, _, _, _, _ => none
  | n + 1, d, k, b, ls, st, h => xl ochk oif none fz (fun m as h c => match d with
      | 0 => none
      | d' + 1 => ochk ((entL as).length ≤ ml m) (match runM fz n d' m 0 (ent m as) [] h with
        | some (r, h') => c r h'
        | none => none)) (fun b ls st h => runM fz n d k b ls st h) (fun _ r h => some (r, h)) (blk k b) ls st h
/-- from block b of method k the run ends, and Q holds of its result -/
def G (fz : Int → Int → Option Int) (d k b : Nat) (ls st : List AV) (h : HV) (Q : Int → HV → Prop) : Prop := ∃ (n : Nat) (r : Int) (h' : HV), runM fz n d k b ls st h = some (r, h') ∧ Q r h'
def Sp (fz : Int → Int → Option Int) (d m : Nat) (as : List AV) (h : HV) (Q : Int → HV → Prop) : Prop := G fz d m 0 (ent m as) [] h Q
/-- what a block needs, spelled out -/
def X (fz : Int → Int → Option Int) (d k : Nat) (Q : Int → HV → Prop) (is : List Instr) (ls st : List AV) (h : HV) : Prop :=
  xl And pbr False fz (fun m as h c => (0 < d ∧ (entL as).length ≤ ml m) ∧ Sp fz (d - 1) m as h c) (fun b ls st h => G fz d k b ls st h Q) (fun _ r h => Q r h) is ls st h
theorem G.imp {fz : Int → Int → Option Int} {d k b : Nat} {ls st : List AV} {h : HV} {Q Q' : Int → HV → Prop} (g : G fz d k b ls st h Q) (hq : ∀ r h', Q r h' → Q' r h') : G fz d k b ls st h Q' := by
  obtain ⟨n, r, h', e, q⟩ := g
  exact ⟨n, r, h', e, hq _ _ q⟩
theorem Sp.imp {fz : Int → Int → Option Int} {d m : Nat} {as : List AV} {h : HV} {Q Q' : Int → HV → Prop} (g : Sp fz d m as h Q) (hq : ∀ r h', Q r h' → Q' r h') : Sp fz d m as h Q' := G.imp g hq
section MONO
variable {fz : Int → Int → Option Int} {X0 : Type} {x : X0}
  {C C' : Nat → List AV → HV → (Int → HV → Option X0) → Option X0} {J J' : Nat → List AV → List AV → HV → Option X0} {R : Nat → Int → HV → Option X0} {K K' : List AV → List AV → HV → Option X0}
theorem ochk_mono {c : Prop} {a b : Option X0} (h : a = some x → b = some x) : ochk c a = some x → ochk c b = some x := by
  intro e
  by_cases hc : c
  · rw [ochk, oif_pos hc] at *; exact h e
  · rw [ochk, oif_neg hc] at *; exact e
theorem oif_mono {c : Prop} {a b a' b' : Option X0} (h : a = some x → a' = some x) (h2 : b = some x → b' = some x) : oif c a b = some x → oif c a' b' = some x := by
  intro e
  by_cases hc : c
  · rw [oif_pos hc] at *; exact h e
  · rw [oif_neg hc] at *; exact h2 e
theorem sw_mono (hJ : ∀ b ls st h, J b ls st h = some x → J' b ls st h = some x) (v d : Int) (ls st : List AV) (h : HV) : ∀ (os : List Int) (lo : Int), sw oif J v d ls st h lo os = some x → sw oif J' v d ls st h lo os = some x
  | [], _ => hJ _ _ _ _
  | _ :: os, lo => oif_mono (hJ _ _ _ _) (sw_mono hJ v d ls st h os (lo + 1))
theorem xs_mono (hC : ∀ m as h c c', (∀ r h', c r h' = some x → c' r h' = some x) → C m as h c = some x → C' m as h c' = some x) (hJ : ∀ b ls st h, J b ls st h = some x → J' b ls st h = some x) (hK : ∀ ls st h, K ls st h = some x → K' ls st h = some x) (i : Instr) (ls st : List AV) (h : HV) :
    xs ochk oif none fz C J R K i ls st h = some x → xs ochk oif none fz C' J' R K' i ls st h = some x := by
  unfold xs
  split
  all_goals first
    | exact hK _ _ _
    | exact ochk_mono (hK _ _ _)
    | exact oif_mono (hJ _ _ _ _) (hK _ _ _)
    | exact hJ _ _ _ _
    | exact sw_mono hJ _ _ _ _ _ _ _
    | exact id
    | skip
  all_goals (split <;> first
    | exact hK _ _ _
    | exact id
    | exact ochk_mono (hC _ _ _ _ _ (fun _ _ => hK _ _ _))
    | skip)
theorem xl_mono (hC : ∀ m as h c c', (∀ r h', c r h' = some x → c' r h' = some x) → C m as h c = some x → C' m as h c' = some x) (hJ : ∀ b ls st h, J b ls st h = some x → J' b ls st h = some x) : ∀ (is : List Instr) (ls st : List AV) (h : HV),
    xl ochk oif none fz C J R is ls st h = some x → xl ochk oif none fz C' J' R is ls st h = some x
  | [], _, _, _ => id
  | _ :: is, _, _, _ => xs_mono hC hJ (xl_mono hC hJ is) _ _ _ _
end MONO
theorem runM_succ {fz : Int → Int → Option Int} : ∀ (n d k b : Nat) (ls st : List AV) (h : HV) (x : Int × HV), runM fz n d k b ls st h = some x → runM fz (n + 1) d k b ls st h = some x
  | 0, _, _, _, _, _, _, _ => fun e => by cases e
  | n + 1, d, k, b, ls, st, h, x => by
    intro e
    rw [runM] at e ⊢
    refine xl_mono ?_ (fun b ls st h => runM_succ n d k b ls st h x) _ _ _ _ e
    intro m as h c c' hc
    cases d with
    | zero => exact id
    | succ d' =>
      refine ochk_mono ?_
      intro e2
      cases hr : runM fz n d' m 0 (ent m as) [] h with
      | none => rw [hr] at e2; cases e2
      | some p =>
        rw [hr] at e2
        rw [runM_succ n d' m 0 (ent m as) [] h p hr]
        exact hc _ _ e2
theorem runM_le {fz : Int → Int → Option Int} {n n' d k b : Nat} {ls st : List AV} {h : HV} {x : Int × HV} (hn : n ≤ n') (e : runM fz n d k b ls st h = some x) : runM fz n' d k b ls st h = some x := by
  induction hn with
  | refl => exact e
  | step _ ih => exact runM_succ _ _ _ _ _ _ _ _ ih
section LINK
variable {fz : Int → Int → Option Int} {X0 : Type} {Q : X0 → Prop}
  {CP : Nat → List AV → HV → (Int → HV → Prop) → Prop} {JP : Nat → List AV → List AV → HV → Prop} {RP : Nat → Int → HV → Prop} {KP : List AV → List AV → HV → Prop}
  {C : Nat → Nat → List AV → HV → (Int → HV → Option X0) → Option X0} {J : Nat → Nat → List AV → List AV → HV → Option X0} {R : Nat → Int → HV → Option X0} {K : Nat → List AV → List AV → HV → Option X0}
def Ev {X0 : Type} (Q : X0 → Prop) (P : Prop) (f : Nat → Option X0) : Prop := P → ∃ (N : Nat) (x : X0), Q x ∧ ∀ n, N ≤ n → f n = some x
theorem Ev.chk {c P : Prop} {f : Nat → Option X0} (h : Ev Q P f) : Ev Q (c ∧ P) (fun n => ochk c (f n)) := by
  rintro ⟨hc, hp⟩
  obtain ⟨N, x, q, e⟩ := h hp
  exact ⟨N, x, q, fun n hn => by show oif c (f n) none = _; rw [oif_pos hc]; exact e n hn⟩
theorem Ev.br {c P P2 : Prop} {f f2 : Nat → Option X0} (h : Ev Q P f) (h2 : Ev Q P2 f2) : Ev Q (pbr c P P2) (fun n => oif c (f n) (f2 n)) := by
  rintro ⟨p1, p2⟩
  by_cases hc : c
  · obtain ⟨N, x, q, e⟩ := h (p1 hc)
    exact ⟨N, x, q, fun n hn => by show oif c (f n) (f2 n) = _; rw [oif_pos hc]; exact e n hn⟩
  · obtain ⟨N, x, q, e⟩ := h2 (p2 hc)
    exact ⟨N, x, q, fun n hn => by show oif c (f n) (f2 n) = _; rw [oif_neg hc]; exact e n hn⟩
theorem Ev.no {f : Nat → Option X0} : Ev Q False f := fun h => h.elim
theorem sw_link (hJ : ∀ b ls st h, Ev Q (JP b ls st h) (fun n => J n b ls st h)) (v d : Int) (ls st : List AV) (h : HV) : ∀ (os : List Int) (lo : Int), Ev Q (sw pbr JP v d ls st h lo os) (fun n => sw oif (J n) v d ls st h lo os)
  | [], _ => hJ _ _ _ _
  | _ :: os, lo => Ev.br (hJ _ _ _ _) (sw_link hJ v d ls st h os (lo + 1))
theorem xs_link (hC : ∀ m as h cP (cn : Nat → Int → HV → Option X0), (∀ r h', Ev Q (cP r h') (fun n => cn n r h')) → Ev Q (CP m as h cP) (fun n => C n m as h (cn n))) (hJ : ∀ b ls st h, Ev Q (JP b ls st h) (fun n => J n b ls st h)) (hR : ∀ t r h, Ev Q (RP t r h) (fun _ => R t r h)) (hK : ∀ ls st h, Ev Q (KP ls st h) (fun n => K n ls st h)) (i : Instr) (ls st : List AV) (h : HV) :
    Ev Q (xs And pbr False fz CP JP RP KP i ls st h) (fun n => xs ochk oif none fz (C n) (J n) R (K n) i ls st h) := by
  unfold xs
  split
  all_goals first
    | exact hK _ _ _
    | exact Ev.chk (hK _ _ _)
    | exact Ev.br (hJ _ _ _ _) (hK _ _ _)
    | exact hJ _ _ _ _
    | exact sw_link hJ _ _ _ _ _ _ _
    | exact hR _ _ _
    | exact Ev.no
    | skip
  all_goals (split <;> first
    | exact hK _ _ _
    | exact Ev.no
    | exact Ev.chk (hC _ _ _ _ (fun n x h' => K n _ (psh _ x _) h') (fun _ _ => hK _ _ _))
    | skip)
theorem xl_link (hC : ∀ m as h cP (cn : Nat → Int → HV → Option X0), (∀ r h', Ev Q (cP r h') (fun n => cn n r h')) → Ev Q (CP m as h cP) (fun n => C n m as h (cn n))) (hJ : ∀ b ls st h, Ev Q (JP b ls st h) (fun n => J n b ls st h)) (hR : ∀ t r h, Ev Q (RP t r h) (fun _ => R t r h)) : ∀ (is : List Instr) (ls st : List AV) (h : HV),
    Ev Q (xl And pbr False fz CP JP RP is ls st h) (fun n => xl ochk oif none fz (C n) (J n) R is ls st h)
  | [], _, _, _ => Ev.no
  | _ :: is, _, _, _ => xs_link hC hJ hR (xl_link hC hJ hR is) _ _ _ _
end LINK
theorem G_in {fz : Int → Int → Option Int} {d k b : Nat} {ls st : List AV} {h : HV} {Q : Int → HV → Prop} : X fz d k Q (blk k b) ls st h → G fz d k b ls st h Q := by
  have key := xl_link (fz := fz) (Q := fun p : Int × HV => Q p.1 p.2) (CP := fun m as h c => (0 < d ∧ (entL as).length ≤ ml m) ∧ Sp fz (d - 1) m as h c) (JP := fun b ls st h => G fz d k b ls st h Q) (RP := fun _ r h => Q r h)
    (C := fun n m as h c => match d with
      | 0 => none
      | d' + 1 => ochk ((entL as).length ≤ ml m) (match runM fz n d' m 0 (ent m as) [] h with
        | some (r, h') => c r h'
        | none => none)) (J := fun n b ls st h => runM fz n d k b ls st h) (R := fun _ r h => some (r, h)) ?_ ?_ ?_ (blk k b) ls st h
  · intro hx
    obtain ⟨N, x, q, e⟩ := key hx
    exact ⟨N + 1, x.1, x.2, by rw [runM]; exact e N (Nat.le_refl N), q⟩
  · intro m as h cP cn hc
    rintro ⟨⟨hd, hl⟩, n0, r0, h0, e0, q0⟩
    obtain ⟨N, x, q, e⟩ := hc r0 h0 q0
    cases d with
    | zero => exact absurd hd (Nat.lt_irrefl 0)
    | succ d' =>
      refine ⟨max n0 N, x, q, fun n hn => ?_⟩
      have e1 := runM_le (Nat.le_trans (Nat.le_max_left n0 N) hn) e0
      dsimp only [Nat.add_sub_cancel] at e1 ⊢
      rw [ochk, oif_pos hl, show runM fz n d' m 0 (ent m as) [] h = some (r0, h0) from e1]
      exact e n (Nat.le_trans (Nat.le_max_right n0 N) hn)
  · intro b ls st h
    rintro ⟨n0, r0, h0, e0, q0⟩
    exact ⟨n0, (r0, h0), q0, fun n hn => runM_le hn e0⟩
  · intro t r h hq
    exact ⟨0, (r, h), hq, fun n _ => rfl⟩
