/-! THE PURE SIDE, 10: a run from a block is just what the block needs: printed by wip/tools/gengeq.py -/
section BACK
variable {fz : Int → Int → Option Int} {X0 : Type} {x : X0}
  {CP : Nat → List AV → HV → (Int → HV → Prop) → Prop} {JP : Nat → List AV → List AV → HV → Prop} {RP : Nat → Int → HV → Prop} {KP : List AV → List AV → HV → Prop}
  {C : Nat → List AV → HV → (Int → HV → Option X0) → Option X0} {J : Nat → List AV → List AV → HV → Option X0} {R : Nat → Int → HV → Option X0} {K : List AV → List AV → HV → Option X0}
theorem ochk_back {c P : Prop} {f : Option X0} (h : f = some x → P) : ochk c f = some x → c ∧ P := by
  intro e
  by_cases hc : c
  · rw [ochk, oif_pos hc] at e; exact ⟨hc, h e⟩
  · rw [ochk, oif_neg hc] at e; cases e
theorem oif_back {c P P2 : Prop} {f f2 : Option X0} (h : f = some x → P) (h2 : f2 = some x → P2) : oif c f f2 = some x → pbr c P P2 := by
  intro e
  by_cases hc : c
  · rw [oif_pos hc] at e; exact ⟨fun _ => h e, fun q => (q hc).elim⟩
  · rw [oif_neg hc] at e; exact ⟨fun q => (hc q).elim, fun _ => h2 e⟩
theorem no_back {P : Prop} : (none : Option X0) = some x → P := fun e => by cases e
theorem sw_back (hJ : ∀ b ls st h, J b ls st h = some x → JP b ls st h) (v d : Int) (ls st : List AV) (h : HV) : ∀ (os : List Int) (lo : Int), sw oif J v d ls st h lo os = some x → sw pbr JP v d ls st h lo os
  | [], _ => hJ _ _ _ _
  | _ :: os, lo => oif_back (hJ _ _ _ _) (sw_back hJ v d ls st h os (lo + 1))
theorem xs_back (hC : ∀ m as h (cP : Int → HV → Prop) cn, (∀ r h', cn r h' = some x → cP r h') → C m as h cn = some x → CP m as h cP) (hJ : ∀ b ls st h, J b ls st h = some x → JP b ls st h) (hR : ∀ t r h, R t r h = some x → RP t r h) (hK : ∀ ls st h, K ls st h = some x → KP ls st h) (i : Instr) (ls st : List AV) (h : HV) :
    xs ochk oif none fz C J R K i ls st h = some x → xs And pbr False fz CP JP RP KP i ls st h := by
  unfold xs
  split
  all_goals first
    | exact hK _ _ _
    | exact ochk_back (hK _ _ _)
    | exact oif_back (hJ _ _ _ _) (hK _ _ _)
    | exact hJ _ _ _ _
    | exact sw_back hJ _ _ _ _ _ _ _
    | exact hR _ _ _
    | exact no_back
    | skip
  all_goals (split <;> first
    | exact hK _ _ _
    | exact no_back
    | exact ochk_back (hC _ _ _ _ _ (fun _ _ => hK _ _ _))
    | skip)
theorem xl_back (hC : ∀ m as h (cP : Int → HV → Prop) cn, (∀ r h', cn r h' = some x → cP r h') → C m as h cn = some x → CP m as h cP) (hJ : ∀ b ls st h, J b ls st h = some x → JP b ls st h) (hR : ∀ t r h, R t r h = some x → RP t r h) : ∀ (is : List Instr) (ls st : List AV) (h : HV),
    xl ochk oif none fz C J R is ls st h = some x → xl And pbr False fz CP JP RP is ls st h
  | [], _, _, _ => no_back
  | _ :: is, _, _, _ => xs_back hC hJ hR (xl_back hC hJ hR is) _ _ _ _
end BACK
theorem G_out {fz : Int → Int → Option Int} {d k b : Nat} {ls st : List AV} {h : HV} {Q : Int → HV → Prop} : G fz d k b ls st h Q → X fz d k Q (blk k b) ls st h := by
  rintro ⟨n, r, h', e, q⟩
  cases n with
  | zero => cases e
  | succ n =>
    rw [runM] at e
    refine xl_back ?_ ?_ ?_ _ _ _ _ e
    · intro m as h cP cn hc e2
      cases d with
      | zero => cases e2
      | succ d' =>
        have e3 := ochk_back (P := Sp fz d' m as h cP) (fun e4 => by
          cases hr : runM fz n d' m 0 (ent m as) [] h with
          | none => rw [hr] at e4; cases e4
          | some p =>
            rw [hr] at e4
            exact ⟨n, p.1, p.2, hr, hc _ _ e4⟩) e2
        exact ⟨⟨Nat.succ_pos _, e3.1⟩, e3.2⟩
    · intro b ls st h e2
      exact ⟨n, r, h', e2, q⟩
    · intro t r2 h2 e2
      cases e2
      exact q
theorem G_eq {fz : Int → Int → Option Int} {d k b : Nat} {ls st : List AV} {h : HV} {Q : Int → HV → Prop} : G fz d k b ls st h Q = X fz d k Q (blk k b) ls st h := propext ⟨G_out, G_in⟩
theorem G_det {fz : Int → Int → Option Int} {d k b : Nat} {ls st : List AV} {h h1 : HV} {x : Int} (g : G fz d k b ls st h (fun r h' => r = x ∧ h' = h1)) (Q : Int → HV → Prop) : G fz d k b ls st h Q = Q x h1 := by
  obtain ⟨n, r, h', e, rfl, rfl⟩ := g
  refine propext ⟨?_, fun q => ⟨n, r, h', e, q⟩⟩
  rintro ⟨n', r', h'', e', q⟩
  have := runM_det e e'
  rw [show r = r' from congrArg Prod.fst this, show h' = h'' from congrArg Prod.snd this]
  exact q
/-- a call whose end is known -/
theorem Sp_is {fz : Int → Int → Option Int} {d m : Nat} {as : List AV} {h h1 : HV} {x : Int} (g : Sp fz d m as h (fun r h' => r = x ∧ h' = h1)) (Q : Int → HV → Prop) : Sp fz d m as h Q = Q x h1 := G_det g Q
theorem d_pos {d : Nat} : (0 < d + 1) = True := eq_true (Nat.succ_pos d)
theorem sp0 {fz : Int → Int → Option Int} {d : Nat} {h : HV} {Q : Int → HV → Prop} {a0 : Int} : Sp fz d 0 [(3, a0)] h Q = X fz d 0 Q (blk 0 0) [(3, a0), (9, 0), (9, 0), (9, 0)] [] h := G_eq
theorem sp1 {fz : Int → Int → Option Int} {d : Nat} {h : HV} {Q : Int → HV → Prop} {a0 : Int} : Sp fz d 1 [(3, a0)] h Q = X fz d 1 Q (blk 1 0) [(3, a0)] [] h := G_eq
theorem sp2 {fz : Int → Int → Option Int} {d : Nat} {h : HV} {Q : Int → HV → Prop} {a0 : Int} : Sp fz d 2 [(3, a0)] h Q = X fz d 2 Q (blk 2 0) [(3, a0)] [] h := G_eq
theorem sp3 {fz : Int → Int → Option Int} {d : Nat} {h : HV} {Q : Int → HV → Prop} {a0 a1 : Int} : Sp fz d 3 [(3, a0), (3, a1)] h Q = X fz d 3 Q (blk 3 0) [(3, a0), (3, a1)] [] h := G_eq
theorem sp4 {fz : Int → Int → Option Int} {d : Nat} {h : HV} {Q : Int → HV → Prop} {a0 : Int} : Sp fz d 4 [(3, a0)] h Q = X fz d 4 Q (blk 4 0) [(3, a0)] [] h := G_eq
theorem sp5 {fz : Int → Int → Option Int} {d : Nat} {h : HV} {Q : Int → HV → Prop} {a0 : Int} : Sp fz d 5 [(3, a0)] h Q = X fz d 5 Q (blk 5 0) [(3, a0)] [] h := G_eq
theorem sp6 {fz : Int → Int → Option Int} {d : Nat} {h : HV} {Q : Int → HV → Prop} {a0 a1 a2 : Int} : Sp fz d 6 [(3, a0), (3, a1), (3, a2)] h Q = X fz d 6 Q (blk 6 0) [(3, a0), (3, a1), (3, a2)] [] h := G_eq
theorem sp7 {fz : Int → Int → Option Int} {d : Nat} {h : HV} {Q : Int → HV → Prop} {a0 : Int} : Sp fz d 7 [(3, a0)] h Q = X fz d 7 Q (blk 7 0) [(3, a0)] [] h := G_eq
theorem sp8 {fz : Int → Int → Option Int} {d : Nat} {h : HV} {Q : Int → HV → Prop} {a0 : Int} : Sp fz d 8 [(3, a0)] h Q = X fz d 8 Q (blk 8 0) [(3, a0)] [] h := G_eq
theorem sp9 {fz : Int → Int → Option Int} {d : Nat} {h : HV} {Q : Int → HV → Prop} {a0 a1 : Int} : Sp fz d 9 [(3, a0), (3, a1)] h Q = X fz d 9 Q (blk 9 0) [(3, a0), (3, a1)] [] h := G_eq
theorem sp10 {fz : Int → Int → Option Int} {d : Nat} {h : HV} {Q : Int → HV → Prop} {a0 a1 : Int} : Sp fz d 10 [(3, a0), (3, a1)] h Q = X fz d 10 Q (blk 10 0) [(3, a0), (3, a1)] [] h := G_eq
theorem sp11 {fz : Int → Int → Option Int} {d : Nat} {h : HV} {Q : Int → HV → Prop} {a0 : Int} : Sp fz d 11 [(3, a0)] h Q = X fz d 11 Q (blk 11 0) [(3, a0)] [] h := G_eq
theorem sp12 {fz : Int → Int → Option Int} {d : Nat} {h : HV} {Q : Int → HV → Prop} {a0 a1 : Int} : Sp fz d 12 [(3, a0), (3, a1)] h Q = X fz d 12 Q (blk 12 0) [(3, a0), (3, a1)] [] h := G_eq
theorem sp13 {fz : Int → Int → Option Int} {d : Nat} {h : HV} {Q : Int → HV → Prop} {a0 : Int} : Sp fz d 13 [(3, a0)] h Q = X fz d 13 Q (blk 13 0) [(3, a0)] [] h := G_eq
theorem sp14 {fz : Int → Int → Option Int} {d : Nat} {h : HV} {Q : Int → HV → Prop} {a0 a1 : Int} : Sp fz d 14 [(3, a0), (0, a1)] h Q = X fz d 14 Q (blk 14 0) [(3, a0), (0, a1), (9, 0), (9, 0)] [] h := G_eq
theorem sp15 {fz : Int → Int → Option Int} {d : Nat} {h : HV} {Q : Int → HV → Prop} {a0 : Int} : Sp fz d 15 [(3, a0)] h Q = X fz d 15 Q (blk 15 0) [(3, a0)] [] h := G_eq
theorem sp16 {fz : Int → Int → Option Int} {d : Nat} {h : HV} {Q : Int → HV → Prop} {a0 a1 : Int} : Sp fz d 16 [(3, a0), (3, a1)] h Q = X fz d 16 Q (blk 16 0) [(3, a0), (3, a1)] [] h := G_eq
theorem sp17 {fz : Int → Int → Option Int} {d : Nat} {h : HV} {Q : Int → HV → Prop} {a0 a1 : Int} : Sp fz d 17 [(3, a0), (3, a1)] h Q = X fz d 17 Q (blk 17 0) [(3, a0), (3, a1)] [] h := G_eq
theorem sp18 {fz : Int → Int → Option Int} {d : Nat} {h : HV} {Q : Int → HV → Prop} {a0 : Int} : Sp fz d 18 [(3, a0)] h Q = X fz d 18 Q (blk 18 0) [(3, a0)] [] h := G_eq
theorem sp19 {fz : Int → Int → Option Int} {d : Nat} {h : HV} {Q : Int → HV → Prop} {a0 : Int} : Sp fz d 19 [(3, a0)] h Q = X fz d 19 Q (blk 19 0) [(3, a0)] [] h := G_eq
theorem sp20 {fz : Int → Int → Option Int} {d : Nat} {h : HV} {Q : Int → HV → Prop} {a0 a1 : Int} : Sp fz d 20 [(3, a0), (3, a1)] h Q = X fz d 20 Q (blk 20 0) [(3, a0), (3, a1)] [] h := G_eq
theorem sp21 {fz : Int → Int → Option Int} {d : Nat} {h : HV} {Q : Int → HV → Prop} {a0 a1 a2 : Int} : Sp fz d 21 [(3, a0), (0, a1), (1, a2)] h Q = X fz d 21 Q (blk 21 0) [(3, a0), (0, a1), (1, a2), (9, 0)] [] h := G_eq
theorem sp22 {fz : Int → Int → Option Int} {d : Nat} {h : HV} {Q : Int → HV → Prop} {a0 a1 a2 : Int} : Sp fz d 22 [(3, a0), (0, a1), (1, a2)] h Q = X fz d 22 Q (blk 22 0) [(3, a0), (0, a1), (1, a2), (9, 0), (9, 0)] [] h := G_eq
theorem sp23 {fz : Int → Int → Option Int} {d : Nat} {h : HV} {Q : Int → HV → Prop} {a0 : Int} : Sp fz d 23 [(3, a0)] h Q = X fz d 23 Q (blk 23 0) [(3, a0)] [] h := G_eq
theorem sp24 {fz : Int → Int → Option Int} {d : Nat} {h : HV} {Q : Int → HV → Prop} {a0 : Int} : Sp fz d 24 [(3, a0)] h Q = X fz d 24 Q (blk 24 0) [(3, a0), (9, 0), (9, 0)] [] h := G_eq
theorem sp25 {fz : Int → Int → Option Int} {d : Nat} {h : HV} {Q : Int → HV → Prop} {a0 a1 : Int} : Sp fz d 25 [(3, a0), (3, a1)] h Q = X fz d 25 Q (blk 25 0) [(3, a0), (3, a1), (9, 0), (9, 0)] [] h := G_eq
theorem sp26 {fz : Int → Int → Option Int} {d : Nat} {h : HV} {Q : Int → HV → Prop} {a0 : Int} : Sp fz d 26 [(3, a0)] h Q = X fz d 26 Q (blk 26 0) [(3, a0)] [] h := G_eq
theorem sp27 {fz : Int → Int → Option Int} {d : Nat} {h : HV} {Q : Int → HV → Prop} {a0 : Int} : Sp fz d 27 [(3, a0)] h Q = X fz d 27 Q (blk 27 0) [(3, a0)] [] h := G_eq
theorem sp28 {fz : Int → Int → Option Int} {d : Nat} {h : HV} {Q : Int → HV → Prop} {a0 a1 : Int} : Sp fz d 28 [(3, a0), (0, a1)] h Q = X fz d 28 Q (blk 28 0) [(3, a0), (0, a1)] [] h := G_eq
theorem sp29 {fz : Int → Int → Option Int} {d : Nat} {h : HV} {Q : Int → HV → Prop} {a0 a1 : Int} : Sp fz d 29 [(3, a0), (0, a1)] h Q = X fz d 29 Q (blk 29 0) [(3, a0), (0, a1)] [] h := G_eq
theorem sp30 {fz : Int → Int → Option Int} {d : Nat} {h : HV} {Q : Int → HV → Prop} {a0 : Int} : Sp fz d 30 [(3, a0)] h Q = X fz d 30 Q (blk 30 0) [(3, a0)] [] h := G_eq
theorem sp31 {fz : Int → Int → Option Int} {d : Nat} {h : HV} {Q : Int → HV → Prop} {a0 a1 : Int} : Sp fz d 31 [(3, a0), (0, a1)] h Q = X fz d 31 Q (blk 31 0) [(3, a0), (0, a1)] [] h := G_eq
theorem sp32 {fz : Int → Int → Option Int} {d : Nat} {h : HV} {Q : Int → HV → Prop} {a0 : Int} : Sp fz d 32 [(3, a0)] h Q = X fz d 32 Q (blk 32 0) [(3, a0), (9, 0)] [] h := G_eq
theorem sp33 {fz : Int → Int → Option Int} {d : Nat} {h : HV} {Q : Int → HV → Prop} {a0 a1 : Int} : Sp fz d 33 [(3, a0), (0, a1)] h Q = X fz d 33 Q (blk 33 0) [(3, a0), (0, a1)] [] h := G_eq
theorem sp34 {fz : Int → Int → Option Int} {d : Nat} {h : HV} {Q : Int → HV → Prop} {a0 a1 a2 : Int} : Sp fz d 34 [(3, a0), (0, a1), (0, a2)] h Q = X fz d 34 Q (blk 34 0) [(3, a0), (0, a1), (0, a2)] [] h := G_eq
theorem sp35 {fz : Int → Int → Option Int} {d : Nat} {h : HV} {Q : Int → HV → Prop} {a0 : Int} : Sp fz d 35 [(3, a0)] h Q = X fz d 35 Q (blk 35 0) [(3, a0)] [] h := G_eq
theorem sp36 {fz : Int → Int → Option Int} {d : Nat} {h : HV} {Q : Int → HV → Prop} {a0 : Int} : Sp fz d 36 [(3, a0)] h Q = X fz d 36 Q (blk 36 0) [(3, a0)] [] h := G_eq
theorem sp37 {fz : Int → Int → Option Int} {d : Nat} {h : HV} {Q : Int → HV → Prop} {a0 : Int} : Sp fz d 37 [(3, a0)] h Q = X fz d 37 Q (blk 37 0) [(3, a0)] [] h := G_eq
theorem sp38 {fz : Int → Int → Option Int} {d : Nat} {h : HV} {Q : Int → HV → Prop} {a0 a1 a2 a3 : Int} : Sp fz d 38 [(3, a0), (0, a1), (0, a2), (0, a3)] h Q = X fz d 38 Q (blk 38 0) [(3, a0), (0, a1), (0, a2), (0, a3)] [] h := G_eq
theorem sp39 {fz : Int → Int → Option Int} {d : Nat} {h : HV} {Q : Int → HV → Prop} {a0 : Int} : Sp fz d 39 [(0, a0)] h Q = X fz d 39 Q (blk 39 0) [(0, a0)] [] h := G_eq
theorem sp40 {fz : Int → Int → Option Int} {d : Nat} {h : HV} {Q : Int → HV → Prop} {a0 a1 a2 a3 : Int} : Sp fz d 40 [(3, a0), (0, a1), (0, a2), (0, a3)] h Q = X fz d 40 Q (blk 40 0) [(3, a0), (0, a1), (0, a2), (0, a3), (9, 0), (9, 0)] [] h := G_eq
theorem sp41 {fz : Int → Int → Option Int} {d : Nat} {h : HV} {Q : Int → HV → Prop} {a0 : Int} : Sp fz d 41 [(3, a0)] h Q = X fz d 41 Q (blk 41 0) [(3, a0)] [] h := G_eq
theorem sp42 {fz : Int → Int → Option Int} {d : Nat} {h : HV} {Q : Int → HV → Prop} {a0 : Int} : Sp fz d 42 [(3, a0)] h Q = X fz d 42 Q (blk 42 0) [(3, a0)] [] h := G_eq
theorem sp43 {fz : Int → Int → Option Int} {d : Nat} {h : HV} {Q : Int → HV → Prop} {a0 : Int} : Sp fz d 43 [(3, a0)] h Q = X fz d 43 Q (blk 43 0) [(3, a0)] [] h := G_eq
theorem sp44 {fz : Int → Int → Option Int} {d : Nat} {h : HV} {Q : Int → HV → Prop} {a0 : Int} : Sp fz d 44 [(3, a0)] h Q = X fz d 44 Q (blk 44 0) [(3, a0)] [] h := G_eq
theorem sp45 {fz : Int → Int → Option Int} {d : Nat} {h : HV} {Q : Int → HV → Prop} {a0 a1 : Int} : Sp fz d 45 [(3, a0), (3, a1)] h Q = X fz d 45 Q (blk 45 0) [(3, a0), (3, a1), (9, 0), (9, 0), (9, 0), (9, 0)] [] h := G_eq
theorem sp46 {fz : Int → Int → Option Int} {d : Nat} {h : HV} {Q : Int → HV → Prop} {a0 a1 : Int} : Sp fz d 46 [(3, a0), (0, a1)] h Q = X fz d 46 Q (blk 46 0) [(3, a0), (0, a1)] [] h := G_eq
theorem sp47 {fz : Int → Int → Option Int} {d : Nat} {h : HV} {Q : Int → HV → Prop} {a0 a1 : Int} : Sp fz d 47 [(3, a0), (0, a1)] h Q = X fz d 47 Q (blk 47 0) [(3, a0), (0, a1)] [] h := G_eq
theorem sp48 {fz : Int → Int → Option Int} {d : Nat} {h : HV} {Q : Int → HV → Prop} {a0 a1 : Int} : Sp fz d 48 [(0, a0), (0, a1)] h Q = X fz d 48 Q (blk 48 0) [(0, a0), (0, a1)] [] h := G_eq
theorem sp49 {fz : Int → Int → Option Int} {d : Nat} {h : HV} {Q : Int → HV → Prop} {a0 a1 a2 : Int} : Sp fz d 49 [(0, a0), (0, a1), (3, a2)] h Q = X fz d 49 Q (blk 49 0) [(0, a0), (0, a1), (3, a2)] [] h := G_eq
theorem sp50 {fz : Int → Int → Option Int} {d : Nat} {h : HV} {Q : Int → HV → Prop} {a0 : Int} : Sp fz d 50 [(3, a0)] h Q = X fz d 50 Q (blk 50 0) [(3, a0)] [] h := G_eq
theorem sp51 {fz : Int → Int → Option Int} {d : Nat} {h : HV} {Q : Int → HV → Prop} {a0 a1 : Int} : Sp fz d 51 [(3, a0), (0, a1)] h Q = X fz d 51 Q (blk 51 0) [(3, a0), (0, a1), (9, 0)] [] h := G_eq
theorem sp52 {fz : Int → Int → Option Int} {d : Nat} {h : HV} {Q : Int → HV → Prop} {a0 : Int} : Sp fz d 52 [(3, a0)] h Q = X fz d 52 Q (blk 52 0) [(3, a0)] [] h := G_eq
theorem sp53 {fz : Int → Int → Option Int} {d : Nat} {h : HV} {Q : Int → HV → Prop} {a0 : Int} : Sp fz d 53 [(3, a0)] h Q = X fz d 53 Q (blk 53 0) [(3, a0)] [] h := G_eq
theorem sp54 {fz : Int → Int → Option Int} {d : Nat} {h : HV} {Q : Int → HV → Prop} {a0 a1 a2 : Int} : Sp fz d 54 [(3, a0), (0, a1), (1, a2)] h Q = X fz d 54 Q (blk 54 0) [(3, a0), (0, a1), (1, a2), (9, 0)] [] h := G_eq
theorem sp55 {fz : Int → Int → Option Int} {d : Nat} {h : HV} {Q : Int → HV → Prop} {a0 a1 : Int} : Sp fz d 55 [(3, a0), (0, a1)] h Q = X fz d 55 Q (blk 55 0) [(3, a0), (0, a1)] [] h := G_eq
theorem sp56 {fz : Int → Int → Option Int} {d : Nat} {h : HV} {Q : Int → HV → Prop} {a0 : Int} : Sp fz d 56 [(0, a0)] h Q = X fz d 56 Q (blk 56 0) [(0, a0)] [] h := G_eq
theorem sp57 {fz : Int → Int → Option Int} {d : Nat} {h : HV} {Q : Int → HV → Prop} {a0 a1 a2 : Int} : Sp fz d 57 [(3, a0), (0, a1), (1, a2)] h Q = X fz d 57 Q (blk 57 0) [(3, a0), (0, a1), (1, a2), (9, 0), (9, 0)] [] h := G_eq
theorem sp58 {fz : Int → Int → Option Int} {d : Nat} {h : HV} {Q : Int → HV → Prop} {a0 a1 : Int} : Sp fz d 58 [(3, a0), (0, a1)] h Q = X fz d 58 Q (blk 58 0) [(3, a0), (0, a1)] [] h := G_eq
theorem sp59 {fz : Int → Int → Option Int} {d : Nat} {h : HV} {Q : Int → HV → Prop} {a0 a1 : Int} : Sp fz d 59 [(3, a0), (0, a1)] h Q = X fz d 59 Q (blk 59 0) [(3, a0), (0, a1)] [] h := G_eq
theorem sp60 {fz : Int → Int → Option Int} {d : Nat} {h : HV} {Q : Int → HV → Prop} {a0 : Int} : Sp fz d 60 [(3, a0)] h Q = X fz d 60 Q (blk 60 0) [(3, a0), (9, 0), (9, 0)] [] h := G_eq
theorem sp61 {fz : Int → Int → Option Int} {d : Nat} {h : HV} {Q : Int → HV → Prop} {a0 a1 : Int} : Sp fz d 61 [(3, a0), (0, a1)] h Q = X fz d 61 Q (blk 61 0) [(3, a0), (0, a1), (9, 0)] [] h := G_eq
theorem sp62 {fz : Int → Int → Option Int} {d : Nat} {h : HV} {Q : Int → HV → Prop} {a0 : Int} : Sp fz d 62 [(3, a0)] h Q = X fz d 62 Q (blk 62 0) [(3, a0)] [] h := G_eq
theorem sp63 {fz : Int → Int → Option Int} {d : Nat} {h : HV} {Q : Int → HV → Prop} {a0 : Int} : Sp fz d 63 [(3, a0)] h Q = X fz d 63 Q (blk 63 0) [(3, a0), (9, 0), (9, 0), (9, 0), (9, 0)] [] h := G_eq
theorem sp64 {fz : Int → Int → Option Int} {d : Nat} {h : HV} {Q : Int → HV → Prop} {a0 a1 : Int} : Sp fz d 64 [(3, a0), (0, a1)] h Q = X fz d 64 Q (blk 64 0) [(3, a0), (0, a1), (9, 0), (9, 0)] [] h := G_eq
theorem sp65 {fz : Int → Int → Option Int} {d : Nat} {h : HV} {Q : Int → HV → Prop} {a0 a1 : Int} : Sp fz d 65 [(3, a0), (0, a1)] h Q = X fz d 65 Q (blk 65 0) [(3, a0), (0, a1)] [] h := G_eq
theorem sp66 {fz : Int → Int → Option Int} {d : Nat} {h : HV} {Q : Int → HV → Prop} {a0 : Int} : Sp fz d 66 [(3, a0)] h Q = X fz d 66 Q (blk 66 0) [(3, a0), (9, 0), (9, 0)] [] h := G_eq
theorem sp67 {fz : Int → Int → Option Int} {d : Nat} {h : HV} {Q : Int → HV → Prop} {a0 : Int} : Sp fz d 67 [(3, a0)] h Q = X fz d 67 Q (blk 67 0) [(3, a0), (9, 0), (9, 0), (9, 0), (9, 0), (9, 0)] [] h := G_eq
theorem sp68 {fz : Int → Int → Option Int} {d : Nat} {h : HV} {Q : Int → HV → Prop} {a0 a1 a2 : Int} : Sp fz d 68 [(3, a0), (0, a1), (0, a2)] h Q = X fz d 68 Q (blk 68 0) [(3, a0), (0, a1), (0, a2)] [] h := G_eq
theorem sp69 {fz : Int → Int → Option Int} {d : Nat} {h : HV} {Q : Int → HV → Prop} {a0 a1 a2 : Int} : Sp fz d 69 [(3, a0), (0, a1), (0, a2)] h Q = X fz d 69 Q (blk 69 0) [(3, a0), (0, a1), (0, a2)] [] h := G_eq
theorem sp70 {fz : Int → Int → Option Int} {d : Nat} {h : HV} {Q : Int → HV → Prop} {a0 a1 a2 : Int} : Sp fz d 70 [(3, a0), (0, a1), (0, a2)] h Q = X fz d 70 Q (blk 70 0) [(3, a0), (0, a1), (0, a2), (9, 0)] [] h := G_eq
theorem sp71 {fz : Int → Int → Option Int} {d : Nat} {h : HV} {Q : Int → HV → Prop} {a0 : Int} : Sp fz d 71 [(3, a0)] h Q = X fz d 71 Q (blk 71 0) [(3, a0), (9, 0), (9, 0)] [] h := G_eq
theorem sp72 {fz : Int → Int → Option Int} {d : Nat} {h : HV} {Q : Int → HV → Prop} {a0 : Int} : Sp fz d 72 [(3, a0)] h Q = X fz d 72 Q (blk 72 0) [(3, a0), (9, 0), (9, 0)] [] h := G_eq
theorem sp73 {fz : Int → Int → Option Int} {d : Nat} {h : HV} {Q : Int → HV → Prop} {a0 : Int} : Sp fz d 73 [(3, a0)] h Q = X fz d 73 Q (blk 73 0) [(3, a0), (9, 0)] [] h := G_eq
theorem sp74 {fz : Int → Int → Option Int} {d : Nat} {h : HV} {Q : Int → HV → Prop} {a0 a1 : Int} : Sp fz d 74 [(3, a0), (1, a1)] h Q = X fz d 74 Q (blk 74 0) [(3, a0), (1, a1), (9, 0), (9, 0)] [] h := G_eq
theorem sp75 {fz : Int → Int → Option Int} {d : Nat} {h : HV} {Q : Int → HV → Prop} {a0 a1 : Int} : Sp fz d 75 [(3, a0), (1, a1)] h Q = X fz d 75 Q (blk 75 0) [(3, a0), (1, a1), (9, 0), (9, 0)] [] h := G_eq
theorem sp76 {fz : Int → Int → Option Int} {d : Nat} {h : HV} {Q : Int → HV → Prop} {a0 a1 a2 : Int} : Sp fz d 76 [(3, a0), (1, a1), (0, a2)] h Q = X fz d 76 Q (blk 76 0) [(3, a0), (1, a1), (9, 0), (0, a2), (9, 0)] [] h := G_eq
theorem sp77 {fz : Int → Int → Option Int} {d : Nat} {h : HV} {Q : Int → HV → Prop} {a0 : Int} : Sp fz d 77 [(3, a0)] h Q = X fz d 77 Q (blk 77 0) [(3, a0)] [] h := G_eq
theorem sp78 {fz : Int → Int → Option Int} {d : Nat} {h : HV} {Q : Int → HV → Prop} {a0 a1 : Int} : Sp fz d 78 [(3, a0), (0, a1)] h Q = X fz d 78 Q (blk 78 0) [(3, a0), (0, a1), (9, 0)] [] h := G_eq
theorem sp79 {fz : Int → Int → Option Int} {d : Nat} {h : HV} {Q : Int → HV → Prop} {a0 a1 a2 : Int} : Sp fz d 79 [(3, a0), (0, a1), (0, a2)] h Q = X fz d 79 Q (blk 79 0) [(3, a0), (0, a1), (0, a2)] [] h := G_eq
theorem sp80 {fz : Int → Int → Option Int} {d : Nat} {h : HV} {Q : Int → HV → Prop} {a0 a1 : Int} : Sp fz d 80 [(3, a0), (0, a1)] h Q = X fz d 80 Q (blk 80 0) [(3, a0), (0, a1), (9, 0)] [] h := G_eq
theorem sp81 {fz : Int → Int → Option Int} {d : Nat} {h : HV} {Q : Int → HV → Prop} {a0 : Int} : Sp fz d 81 [(3, a0)] h Q = X fz d 81 Q (blk 81 0) [(3, a0)] [] h := G_eq
theorem sp82 {fz : Int → Int → Option Int} {d : Nat} {h : HV} {Q : Int → HV → Prop} {a0 a1 : Int} : Sp fz d 82 [(3, a0), (0, a1)] h Q = X fz d 82 Q (blk 82 0) [(3, a0), (0, a1)] [] h := G_eq
theorem sp83 {fz : Int → Int → Option Int} {d : Nat} {h : HV} {Q : Int → HV → Prop} {a0 a1 : Int} : Sp fz d 83 [(3, a0), (0, a1)] h Q = X fz d 83 Q (blk 83 0) [(3, a0), (0, a1), (9, 0), (9, 0), (9, 0), (9, 0)] [] h := G_eq
theorem sp84 {fz : Int → Int → Option Int} {d : Nat} {h : HV} {Q : Int → HV → Prop} {a0 : Int} : Sp fz d 84 [(3, a0)] h Q = X fz d 84 Q (blk 84 0) [(3, a0)] [] h := G_eq
theorem sp85 {fz : Int → Int → Option Int} {d : Nat} {h : HV} {Q : Int → HV → Prop} {a0 : Int} : Sp fz d 85 [(3, a0)] h Q = X fz d 85 Q (blk 85 0) [(3, a0)] [] h := G_eq
theorem sp86 {fz : Int → Int → Option Int} {d : Nat} {h : HV} {Q : Int → HV → Prop} {a0 a1 : Int} : Sp fz d 86 [(3, a0), (0, a1)] h Q = X fz d 86 Q (blk 86 0) [(3, a0), (0, a1), (9, 0)] [] h := G_eq
theorem sp87 {fz : Int → Int → Option Int} {d : Nat} {h : HV} {Q : Int → HV → Prop} {a0 a1 : Int} : Sp fz d 87 [(3, a0), (0, a1)] h Q = X fz d 87 Q (blk 87 0) [(3, a0), (0, a1), (9, 0), (9, 0)] [] h := G_eq
theorem sp88 {fz : Int → Int → Option Int} {d : Nat} {h : HV} {Q : Int → HV → Prop} {a0 a1 : Int} : Sp fz d 88 [(3, a0), (0, a1)] h Q = X fz d 88 Q (blk 88 0) [(3, a0), (0, a1), (9, 0), (9, 0)] [] h := G_eq
theorem sp89 {fz : Int → Int → Option Int} {d : Nat} {h : HV} {Q : Int → HV → Prop} {a0 a1 : Int} : Sp fz d 89 [(3, a0), (0, a1)] h Q = X fz d 89 Q (blk 89 0) [(3, a0), (0, a1), (9, 0)] [] h := G_eq
theorem sp90 {fz : Int → Int → Option Int} {d : Nat} {h : HV} {Q : Int → HV → Prop} {a0 : Int} : Sp fz d 90 [(3, a0)] h Q = X fz d 90 Q (blk 90 0) [(3, a0)] [] h := G_eq
theorem sp91 {fz : Int → Int → Option Int} {d : Nat} {h : HV} {Q : Int → HV → Prop} {a0 a1 : Int} : Sp fz d 91 [(3, a0), (0, a1)] h Q = X fz d 91 Q (blk 91 0) [(3, a0), (0, a1), (9, 0), (9, 0)] [] h := G_eq
theorem sp92 {fz : Int → Int → Option Int} {d : Nat} {h : HV} {Q : Int → HV → Prop} {a0 a1 a2 a3 : Int} : Sp fz d 92 [(3, a0), (0, a1), (0, a2), (0, a3)] h Q = X fz d 92 Q (blk 92 0) [(3, a0), (0, a1), (0, a2), (0, a3)] [] h := G_eq
theorem sp93 {fz : Int → Int → Option Int} {d : Nat} {h : HV} {Q : Int → HV → Prop} {a0 a1 a2 : Int} : Sp fz d 93 [(3, a0), (0, a1), (0, a2)] h Q = X fz d 93 Q (blk 93 0) [(3, a0), (0, a1), (0, a2)] [] h := G_eq
theorem sp94 {fz : Int → Int → Option Int} {d : Nat} {h : HV} {Q : Int → HV → Prop} {a0 : Int} : Sp fz d 94 [(3, a0)] h Q = X fz d 94 Q (blk 94 0) [(3, a0)] [] h := G_eq
theorem sp95 {fz : Int → Int → Option Int} {d : Nat} {h : HV} {Q : Int → HV → Prop} {a0 : Int} : Sp fz d 95 [(3, a0)] h Q = X fz d 95 Q (blk 95 0) [(3, a0)] [] h := G_eq
theorem sp96 {fz : Int → Int → Option Int} {d : Nat} {h : HV} {Q : Int → HV → Prop} {a0 a1 : Int} : Sp fz d 96 [(1, a0), (0, a1)] h Q = X fz d 96 Q (blk 96 0) [(1, a0), (9, 0), (0, a1), (9, 0), (9, 0), (9, 0)] [] h := G_eq
theorem sp97 {fz : Int → Int → Option Int} {d : Nat} {h : HV} {Q : Int → HV → Prop} {a0 : Int} : Sp fz d 97 [(1, a0)] h Q = X fz d 97 Q (blk 97 0) [(1, a0), (9, 0)] [] h := G_eq
theorem sp98 {fz : Int → Int → Option Int} {d : Nat} {h : HV} {Q : Int → HV → Prop} {a0 a1 a2 : Int} : Sp fz d 98 [(1, a0), (1, a1), (0, a2)] h Q = X fz d 98 Q (blk 98 0) [(1, a0), (9, 0), (1, a1), (9, 0), (0, a2), (9, 0), (9, 0), (9, 0), (9, 0), (9, 0), (9, 0), (9, 0)] [] h := G_eq
theorem sp99 {fz : Int → Int → Option Int} {d : Nat} {h : HV} {Q : Int → HV → Prop} {a0 : Int} : Sp fz d 99 [(1, a0)] h Q = X fz d 99 Q (blk 99 0) [(1, a0), (9, 0), (9, 0), (9, 0), (9, 0), (9, 0)] [] h := G_eq
theorem sp100 {fz : Int → Int → Option Int} {d : Nat} {h : HV} {Q : Int → HV → Prop} {a0 a1 : Int} : Sp fz d 100 [(1, a0), (1, a1)] h Q = X fz d 100 Q (blk 100 0) [(1, a0), (9, 0), (1, a1), (9, 0), (9, 0), (9, 0), (9, 0), (9, 0), (9, 0), (9, 0), (9, 0), (9, 0), (9, 0)] [] h := G_eq
theorem sp101 {fz : Int → Int → Option Int} {d : Nat} {h : HV} {Q : Int → HV → Prop} {a0 : Int} : Sp fz d 101 [(1, a0)] h Q = X fz d 101 Q (blk 101 0) [(1, a0), (9, 0)] [] h := G_eq
theorem sp102 {fz : Int → Int → Option Int} {d : Nat} {h : HV} {Q : Int → HV → Prop} {a0 : Int} : Sp fz d 102 [(1, a0)] h Q = X fz d 102 Q (blk 102 0) [(1, a0), (9, 0)] [] h := G_eq
theorem sp103 {fz : Int → Int → Option Int} {d : Nat} {h : HV} {Q : Int → HV → Prop} {a0 : Int} : Sp fz d 103 [(1, a0)] h Q = X fz d 103 Q (blk 103 0) [(1, a0), (9, 0)] [] h := G_eq
theorem sp104 {fz : Int → Int → Option Int} {d : Nat} {h : HV} {Q : Int → HV → Prop} {a0 : Int} : Sp fz d 104 [(1, a0)] h Q = X fz d 104 Q (blk 104 0) [(1, a0), (9, 0), (9, 0), (9, 0)] [] h := G_eq
theorem sp105 {fz : Int → Int → Option Int} {d : Nat} {h : HV} {Q : Int → HV → Prop} {a0 : Int} : Sp fz d 105 [(1, a0)] h Q = X fz d 105 Q (blk 105 0) [(1, a0), (9, 0)] [] h := G_eq
theorem sp106 {fz : Int → Int → Option Int} {d : Nat} {h : HV} {Q : Int → HV → Prop} {a0 : Int} : Sp fz d 106 [(1, a0)] h Q = X fz d 106 Q (blk 106 0) [(1, a0), (9, 0)] [] h := G_eq
theorem sp107 {fz : Int → Int → Option Int} {d : Nat} {h : HV} {Q : Int → HV → Prop} {a0 a1 : Int} : Sp fz d 107 [(3, a0), (1, a1)] h Q = X fz d 107 Q (blk 107 0) [(3, a0), (1, a1), (9, 0)] [] h := G_eq
theorem sp108 {fz : Int → Int → Option Int} {d : Nat} {h : HV} {Q : Int → HV → Prop} {a0 a1 : Int} : Sp fz d 108 [(3, a0), (0, a1)] h Q = X fz d 108 Q (blk 108 0) [(3, a0), (0, a1), (9, 0), (9, 0), (9, 0)] [] h := G_eq
theorem sp109 {fz : Int → Int → Option Int} {d : Nat} {h : HV} {Q : Int → HV → Prop} {a0 a1 a2 a3 : Int} : Sp fz d 109 [(3, a0), (1, a1), (0, a2), (0, a3)] h Q = X fz d 109 Q (blk 109 0) [(3, a0), (1, a1), (9, 0), (0, a2), (0, a3), (9, 0), (9, 0)] [] h := G_eq
theorem sp110 {fz : Int → Int → Option Int} {d : Nat} {h : HV} {Q : Int → HV → Prop} {a0 a1 a2 : Int} : Sp fz d 110 [(3, a0), (0, a1), (0, a2)] h Q = X fz d 110 Q (blk 110 0) [(3, a0), (0, a1), (0, a2)] [] h := G_eq
theorem sp111 {fz : Int → Int → Option Int} {d : Nat} {h : HV} {Q : Int → HV → Prop} {a0 a1 : Int} : Sp fz d 111 [(3, a0), (3, a1)] h Q = X fz d 111 Q (blk 111 0) [(3, a0), (3, a1)] [] h := G_eq
theorem sp112 {fz : Int → Int → Option Int} {d : Nat} {h : HV} {Q : Int → HV → Prop} {a0 a1 : Int} : Sp fz d 112 [(3, a0), (0, a1)] h Q = X fz d 112 Q (blk 112 0) [(3, a0), (0, a1), (9, 0), (9, 0)] [] h := G_eq
theorem sp113 {fz : Int → Int → Option Int} {d : Nat} {h : HV} {Q : Int → HV → Prop} {a0 a1 : Int} : Sp fz d 113 [(3, a0), (0, a1)] h Q = X fz d 113 Q (blk 113 0) [(3, a0), (0, a1)] [] h := G_eq
theorem sp114 {fz : Int → Int → Option Int} {d : Nat} {h : HV} {Q : Int → HV → Prop} {a0 : Int} : Sp fz d 114 [(3, a0)] h Q = X fz d 114 Q (blk 114 0) [(3, a0)] [] h := G_eq
theorem sp115 {fz : Int → Int → Option Int} {d : Nat} {h : HV} {Q : Int → HV → Prop} {a0 a1 : Int} : Sp fz d 115 [(3, a0), (0, a1)] h Q = X fz d 115 Q (blk 115 0) [(3, a0), (0, a1)] [] h := G_eq
theorem sp116 {fz : Int → Int → Option Int} {d : Nat} {h : HV} {Q : Int → HV → Prop} {a0 a1 a2 : Int} : Sp fz d 116 [(3, a0), (0, a1), (0, a2)] h Q = X fz d 116 Q (blk 116 0) [(3, a0), (0, a1), (0, a2)] [] h := G_eq
theorem sp117 {fz : Int → Int → Option Int} {d : Nat} {h : HV} {Q : Int → HV → Prop} {a0 a1 : Int} : Sp fz d 117 [(3, a0), (0, a1)] h Q = X fz d 117 Q (blk 117 0) [(3, a0), (0, a1), (9, 0), (9, 0), (9, 0), (9, 0), (9, 0)] [] h := G_eq
theorem sp118 {fz : Int → Int → Option Int} {d : Nat} {h : HV} {Q : Int → HV → Prop} {a0 a1 : Int} : Sp fz d 118 [(3, a0), (0, a1)] h Q = X fz d 118 Q (blk 118 0) [(3, a0), (0, a1), (9, 0), (9, 0), (9, 0), (9, 0), (9, 0)] [] h := G_eq
theorem sp119 {fz : Int → Int → Option Int} {d : Nat} {h : HV} {Q : Int → HV → Prop} {a0 a1 : Int} : Sp fz d 119 [(3, a0), (0, a1)] h Q = X fz d 119 Q (blk 119 0) [(3, a0), (0, a1), (9, 0)] [] h := G_eq
theorem sp120 {fz : Int → Int → Option Int} {d : Nat} {h : HV} {Q : Int → HV → Prop} {a0 : Int} : Sp fz d 120 [(3, a0)] h Q = X fz d 120 Q (blk 120 0) [(3, a0)] [] h := G_eq
theorem sp121 {fz : Int → Int → Option Int} {d : Nat} {h : HV} {Q : Int → HV → Prop} {a0 a1 : Int} : Sp fz d 121 [(3, a0), (0, a1)] h Q = X fz d 121 Q (blk 121 0) [(3, a0), (0, a1)] [] h := G_eq
theorem sp122 {fz : Int → Int → Option Int} {d : Nat} {h : HV} {Q : Int → HV → Prop} {a0 a1 : Int} : Sp fz d 122 [(3, a0), (0, a1)] h Q = X fz d 122 Q (blk 122 0) [(3, a0), (0, a1), (9, 0)] [] h := G_eq
theorem sp123 {fz : Int → Int → Option Int} {d : Nat} {h : HV} {Q : Int → HV → Prop} {a0 a1 : Int} : Sp fz d 123 [(3, a0), (0, a1)] h Q = X fz d 123 Q (blk 123 0) [(3, a0), (0, a1)] [] h := G_eq
theorem sp124 {fz : Int → Int → Option Int} {d : Nat} {h : HV} {Q : Int → HV → Prop} {a0 : Int} : Sp fz d 124 [(3, a0)] h Q = X fz d 124 Q (blk 124 0) [(3, a0), (9, 0), (9, 0), (9, 0)] [] h := G_eq
theorem sp125 {fz : Int → Int → Option Int} {d : Nat} {h : HV} {Q : Int → HV → Prop} {a0 a1 : Int} : Sp fz d 125 [(3, a0), (0, a1)] h Q = X fz d 125 Q (blk 125 0) [(3, a0), (0, a1)] [] h := G_eq
theorem sp126 {fz : Int → Int → Option Int} {d : Nat} {h : HV} {Q : Int → HV → Prop} {a0 : Int} : Sp fz d 126 [(3, a0)] h Q = X fz d 126 Q (blk 126 0) [(3, a0)] [] h := G_eq
theorem sp127 {fz : Int → Int → Option Int} {d : Nat} {h : HV} {Q : Int → HV → Prop} {a0 : Int} : Sp fz d 127 [(3, a0)] h Q = X fz d 127 Q (blk 127 0) [(3, a0), (9, 0)] [] h := G_eq
theorem sp128 {fz : Int → Int → Option Int} {d : Nat} {h : HV} {Q : Int → HV → Prop} {a0 : Int} : Sp fz d 128 [(3, a0)] h Q = X fz d 128 Q (blk 128 0) [(3, a0)] [] h := G_eq
theorem sp129 {fz : Int → Int → Option Int} {d : Nat} {h : HV} {Q : Int → HV → Prop} {a0 : Int} : Sp fz d 129 [(3, a0)] h Q = X fz d 129 Q (blk 129 0) [(3, a0)] [] h := G_eq
theorem sp130 {fz : Int → Int → Option Int} {d : Nat} {h : HV} {Q : Int → HV → Prop} {a0 a1 a2 a3 : Int} : Sp fz d 130 [(3, a0), (0, a1), (0, a2), (0, a3)] h Q = X fz d 130 Q (blk 130 0) [(3, a0), (0, a1), (0, a2), (0, a3), (9, 0)] [] h := G_eq
theorem sp131 {fz : Int → Int → Option Int} {d : Nat} {h : HV} {Q : Int → HV → Prop} {a0 a1 : Int} : Sp fz d 131 [(3, a0), (0, a1)] h Q = X fz d 131 Q (blk 131 0) [(3, a0), (0, a1)] [] h := G_eq
theorem sp132 {fz : Int → Int → Option Int} {d : Nat} {h : HV} {Q : Int → HV → Prop} {a0 : Int} : Sp fz d 132 [(3, a0)] h Q = X fz d 132 Q (blk 132 0) [(3, a0)] [] h := G_eq
theorem sp133 {fz : Int → Int → Option Int} {d : Nat} {h : HV} {Q : Int → HV → Prop} {a0 : Int} : Sp fz d 133 [(3, a0)] h Q = X fz d 133 Q (blk 133 0) [(3, a0)] [] h := G_eq
theorem sp134 {fz : Int → Int → Option Int} {d : Nat} {h : HV} {Q : Int → HV → Prop} {a0 : Int} : Sp fz d 134 [(3, a0)] h Q = X fz d 134 Q (blk 134 0) [(3, a0)] [] h := G_eq
theorem sp135 {fz : Int → Int → Option Int} {d : Nat} {h : HV} {Q : Int → HV → Prop} {a0 a1 a2 : Int} : Sp fz d 135 [(3, a0), (0, a1), (0, a2)] h Q = X fz d 135 Q (blk 135 0) [(3, a0), (0, a1), (0, a2)] [] h := G_eq
theorem sp136 {fz : Int → Int → Option Int} {d : Nat} {h : HV} {Q : Int → HV → Prop} {a0 : Int} : Sp fz d 136 [(0, a0)] h Q = X fz d 136 Q (blk 136 0) [(0, a0)] [] h := G_eq
theorem sp137 {fz : Int → Int → Option Int} {d : Nat} {h : HV} {Q : Int → HV → Prop} {a0 a1 : Int} : Sp fz d 137 [(3, a0), (0, a1)] h Q = X fz d 137 Q (blk 137 0) [(3, a0), (0, a1), (9, 0), (9, 0)] [] h := G_eq
theorem sp138 {fz : Int → Int → Option Int} {d : Nat} {h : HV} {Q : Int → HV → Prop} {a0 a1 : Int} : Sp fz d 138 [(3, a0), (0, a1)] h Q = X fz d 138 Q (blk 138 0) [(3, a0), (0, a1)] [] h := G_eq
theorem sp139 {fz : Int → Int → Option Int} {d : Nat} {h : HV} {Q : Int → HV → Prop} {a0 a1 : Int} : Sp fz d 139 [(3, a0), (0, a1)] h Q = X fz d 139 Q (blk 139 0) [(3, a0), (0, a1)] [] h := G_eq
theorem sp140 {fz : Int → Int → Option Int} {d : Nat} {h : HV} {Q : Int → HV → Prop} {a0 a1 : Int} : Sp fz d 140 [(3, a0), (1, a1)] h Q = X fz d 140 Q (blk 140 0) [(3, a0), (1, a1), (9, 0)] [] h := G_eq
theorem sp141 {fz : Int → Int → Option Int} {d : Nat} {h : HV} {Q : Int → HV → Prop} {a0 a1 : Int} : Sp fz d 141 [(3, a0), (0, a1)] h Q = X fz d 141 Q (blk 141 0) [(3, a0), (0, a1)] [] h := G_eq
theorem sp142 {fz : Int → Int → Option Int} {d : Nat} {h : HV} {Q : Int → HV → Prop} {a0 a1 a2 : Int} : Sp fz d 142 [(3, a0), (0, a1), (0, a2)] h Q = X fz d 142 Q (blk 142 0) [(3, a0), (0, a1), (0, a2)] [] h := G_eq
theorem sp143 {fz : Int → Int → Option Int} {d : Nat} {h : HV} {Q : Int → HV → Prop} {a0 a1 : Int} : Sp fz d 143 [(3, a0), (0, a1)] h Q = X fz d 143 Q (blk 143 0) [(3, a0), (0, a1)] [] h := G_eq
theorem sp144 {fz : Int → Int → Option Int} {d : Nat} {h : HV} {Q : Int → HV → Prop} {a0 a1 : Int} : Sp fz d 144 [(3, a0), (0, a1)] h Q = X fz d 144 Q (blk 144 0) [(3, a0), (0, a1)] [] h := G_eq
theorem sp145 {fz : Int → Int → Option Int} {d : Nat} {h : HV} {Q : Int → HV → Prop} {a0 a1 a2 : Int} : Sp fz d 145 [(3, a0), (0, a1), (0, a2)] h Q = X fz d 145 Q (blk 145 0) [(3, a0), (0, a1), (0, a2)] [] h := G_eq
theorem sp146 {fz : Int → Int → Option Int} {d : Nat} {h : HV} {Q : Int → HV → Prop} {a0 : Int} : Sp fz d 146 [(0, a0)] h Q = X fz d 146 Q (blk 146 0) [(0, a0)] [] h := G_eq
theorem sp147 {fz : Int → Int → Option Int} {d : Nat} {h : HV} {Q : Int → HV → Prop} {a0 a1 a2 : Int} : Sp fz d 147 [(3, a0), (0, a1), (0, a2)] h Q = X fz d 147 Q (blk 147 0) [(3, a0), (0, a1), (0, a2), (9, 0)] [] h := G_eq
theorem sp148 {fz : Int → Int → Option Int} {d : Nat} {h : HV} {Q : Int → HV → Prop} {a0 : Int} : Sp fz d 148 [(0, a0)] h Q = X fz d 148 Q (blk 148 0) [(0, a0)] [] h := G_eq
theorem sp149 {fz : Int → Int → Option Int} {d : Nat} {h : HV} {Q : Int → HV → Prop} {a0 : Int} : Sp fz d 149 [(0, a0)] h Q = X fz d 149 Q (blk 149 0) [(0, a0)] [] h := G_eq
theorem sp150 {fz : Int → Int → Option Int} {d : Nat} {h : HV} {Q : Int → HV → Prop} {a0 : Int} : Sp fz d 150 [(0, a0)] h Q = X fz d 150 Q (blk 150 0) [(0, a0)] [] h := G_eq
theorem sp151 {fz : Int → Int → Option Int} {d : Nat} {h : HV} {Q : Int → HV → Prop} {a0 a1 a2 a3 : Int} : Sp fz d 151 [(3, a0), (0, a1), (0, a2), (0, a3)] h Q = X fz d 151 Q (blk 151 0) [(3, a0), (0, a1), (0, a2), (0, a3), (9, 0)] [] h := G_eq
theorem sp152 {fz : Int → Int → Option Int} {d : Nat} {h : HV} {Q : Int → HV → Prop} {a0 a1 a2 : Int} : Sp fz d 152 [(3, a0), (0, a1), (0, a2)] h Q = X fz d 152 Q (blk 152 0) [(3, a0), (0, a1), (0, a2)] [] h := G_eq
theorem sp153 {fz : Int → Int → Option Int} {d : Nat} {h : HV} {Q : Int → HV → Prop} {a0 a1 a2 : Int} : Sp fz d 153 [(3, a0), (0, a1), (1, a2)] h Q = X fz d 153 Q (blk 153 0) [(3, a0), (0, a1), (1, a2), (9, 0), (9, 0), (9, 0)] [] h := G_eq
theorem sp154 {fz : Int → Int → Option Int} {d : Nat} {h : HV} {Q : Int → HV → Prop} {a0 a1 : Int} : Sp fz d 154 [(3, a0), (0, a1)] h Q = X fz d 154 Q (blk 154 0) [(3, a0), (0, a1), (9, 0)] [] h := G_eq
theorem sp155 {fz : Int → Int → Option Int} {d : Nat} {h : HV} {Q : Int → HV → Prop} {a0 a1 : Int} : Sp fz d 155 [(3, a0), (0, a1)] h Q = X fz d 155 Q (blk 155 0) [(3, a0), (0, a1), (9, 0)] [] h := G_eq
theorem sp156 {fz : Int → Int → Option Int} {d : Nat} {h : HV} {Q : Int → HV → Prop} {a0 a1 a2 a3 : Int} : Sp fz d 156 [(3, a0), (0, a1), (0, a2), (0, a3)] h Q = X fz d 156 Q (blk 156 0) [(3, a0), (0, a1), (0, a2), (0, a3)] [] h := G_eq
theorem sp157 {fz : Int → Int → Option Int} {d : Nat} {h : HV} {Q : Int → HV → Prop} {a0 a1 a2 a3 a4 : Int} : Sp fz d 157 [(3, a0), (0, a1), (0, a2), (0, a3), (0, a4)] h Q = X fz d 157 Q (blk 157 0) [(3, a0), (0, a1), (0, a2), (0, a3), (0, a4), (9, 0), (9, 0)] [] h := G_eq
theorem sp158 {fz : Int → Int → Option Int} {d : Nat} {h : HV} {Q : Int → HV → Prop} {a0 a1 a2 : Int} : Sp fz d 158 [(3, a0), (0, a1), (0, a2)] h Q = X fz d 158 Q (blk 158 0) [(3, a0), (0, a1), (0, a2)] [] h := G_eq
theorem sp159 {fz : Int → Int → Option Int} {d : Nat} {h : HV} {Q : Int → HV → Prop} {a0 a1 a2 : Int} : Sp fz d 159 [(3, a0), (0, a1), (1, a2)] h Q = X fz d 159 Q (blk 159 0) [(3, a0), (0, a1), (1, a2), (9, 0)] [] h := G_eq
theorem sp160 {fz : Int → Int → Option Int} {d : Nat} {h : HV} {Q : Int → HV → Prop} {a0 a1 : Int} : Sp fz d 160 [(3, a0), (0, a1)] h Q = X fz d 160 Q (blk 160 0) [(3, a0), (0, a1)] [] h := G_eq
theorem sp161 {fz : Int → Int → Option Int} {d : Nat} {h : HV} {Q : Int → HV → Prop} {a0 a1 a2 : Int} : Sp fz d 161 [(3, a0), (0, a1), (0, a2)] h Q = X fz d 161 Q (blk 161 0) [(3, a0), (0, a1), (0, a2)] [] h := G_eq
theorem sp162 {fz : Int → Int → Option Int} {d : Nat} {h : HV} {Q : Int → HV → Prop} {a0 a1 a2 a3 : Int} : Sp fz d 162 [(3, a0), (0, a1), (0, a2), (1, a3)] h Q = X fz d 162 Q (blk 162 0) [(3, a0), (0, a1), (0, a2), (1, a3), (9, 0)] [] h := G_eq
theorem sp163 {fz : Int → Int → Option Int} {d : Nat} {h : HV} {Q : Int → HV → Prop} {a0 a1 a2 a3 : Int} : Sp fz d 163 [(3, a0), (0, a1), (0, a2), (0, a3)] h Q = X fz d 163 Q (blk 163 0) [(3, a0), (0, a1), (0, a2), (0, a3), (9, 0)] [] h := G_eq
theorem sp164 {fz : Int → Int → Option Int} {d : Nat} {h : HV} {Q : Int → HV → Prop} {a0 a1 a2 a3 a4 a5 a6 : Int} : Sp fz d 164 [(3, a0), (0, a1), (0, a2), (0, a3), (0, a4), (0, a5), (0, a6)] h Q = X fz d 164 Q (blk 164 0) [(3, a0), (0, a1), (0, a2), (0, a3), (0, a4), (0, a5), (0, a6), (9, 0)] [] h := G_eq
theorem sp165 {fz : Int → Int → Option Int} {d : Nat} {h : HV} {Q : Int → HV → Prop} {a0 : Int} : Sp fz d 165 [(0, a0)] h Q = X fz d 165 Q (blk 165 0) [(0, a0)] [] h := G_eq
theorem sp166 {fz : Int → Int → Option Int} {d : Nat} {h : HV} {Q : Int → HV → Prop} {a0 a1 a2 a3 a4 a5 a6 : Int} : Sp fz d 166 [(3, a0), (0, a1), (0, a2), (0, a3), (0, a4), (0, a5), (0, a6)] h Q = X fz d 166 Q (blk 166 0) [(3, a0), (0, a1), (0, a2), (0, a3), (0, a4), (0, a5), (0, a6), (9, 0), (9, 0)] [] h := G_eq
theorem sp167 {fz : Int → Int → Option Int} {d : Nat} {h : HV} {Q : Int → HV → Prop} {a0 a1 : Int} : Sp fz d 167 [(3, a0), (0, a1)] h Q = X fz d 167 Q (blk 167 0) [(3, a0), (0, a1)] [] h := G_eq
theorem sp168 {fz : Int → Int → Option Int} {d : Nat} {h : HV} {Q : Int → HV → Prop} {a0 a1 a2 : Int} : Sp fz d 168 [(3, a0), (0, a1), (1, a2)] h Q = X fz d 168 Q (blk 168 0) [(3, a0), (0, a1), (1, a2), (9, 0)] [] h := G_eq
theorem sp169 {fz : Int → Int → Option Int} {d : Nat} {h : HV} {Q : Int → HV → Prop} {a0 a1 a2 : Int} : Sp fz d 169 [(3, a0), (0, a1), (0, a2)] h Q = X fz d 169 Q (blk 169 0) [(3, a0), (0, a1), (0, a2), (9, 0), (9, 0)] [] h := G_eq
theorem sp170 {fz : Int → Int → Option Int} {d : Nat} {h : HV} {Q : Int → HV → Prop} {a0 : Int} : Sp fz d 170 [(3, a0)] h Q = X fz d 170 Q (blk 170 0) [(3, a0)] [] h := G_eq
theorem sp171 {fz : Int → Int → Option Int} {d : Nat} {h : HV} {Q : Int → HV → Prop} {a0 a1 : Int} : Sp fz d 171 [(3, a0), (0, a1)] h Q = X fz d 171 Q (blk 171 0) [(3, a0), (0, a1), (9, 0)] [] h := G_eq
theorem sp172 {fz : Int → Int → Option Int} {d : Nat} {h : HV} {Q : Int → HV → Prop} {a0 : Int} : Sp fz d 172 [(3, a0)] h Q = X fz d 172 Q (blk 172 0) [(3, a0), (9, 0)] [] h := G_eq
theorem sp173 {fz : Int → Int → Option Int} {d : Nat} {h : HV} {Q : Int → HV → Prop} {a0 a1 : Int} : Sp fz d 173 [(3, a0), (0, a1)] h Q = X fz d 173 Q (blk 173 0) [(3, a0), (0, a1)] [] h := G_eq
theorem sp174 {fz : Int → Int → Option Int} {d : Nat} {h : HV} {Q : Int → HV → Prop} {a0 : Int} : Sp fz d 174 [(3, a0)] h Q = X fz d 174 Q (blk 174 0) [(3, a0)] [] h := G_eq
theorem sp175 {fz : Int → Int → Option Int} {d : Nat} {h : HV} {Q : Int → HV → Prop} {a0 a1 a2 : Int} : Sp fz d 175 [(3, a0), (0, a1), (1, a2)] h Q = X fz d 175 Q (blk 175 0) [(3, a0), (0, a1), (1, a2), (9, 0)] [] h := G_eq
theorem sp176 {fz : Int → Int → Option Int} {d : Nat} {h : HV} {Q : Int → HV → Prop} {a0 : Int} : Sp fz d 176 [(3, a0)] h Q = X fz d 176 Q (blk 176 0) [(3, a0), (9, 0), (9, 0)] [] h := G_eq
theorem sp177 {fz : Int → Int → Option Int} {d : Nat} {h : HV} {Q : Int → HV → Prop} {a0 a1 : Int} : Sp fz d 177 [(3, a0), (0, a1)] h Q = X fz d 177 Q (blk 177 0) [(3, a0), (0, a1), (9, 0)] [] h := G_eq
theorem sp178 {fz : Int → Int → Option Int} {d : Nat} {h : HV} {Q : Int → HV → Prop} {a0 a1 : Int} : Sp fz d 178 [(3, a0), (0, a1)] h Q = X fz d 178 Q (blk 178 0) [(3, a0), (0, a1)] [] h := G_eq
theorem sp179 {fz : Int → Int → Option Int} {d : Nat} {h : HV} {Q : Int → HV → Prop} {a0 a1 : Int} : Sp fz d 179 [(3, a0), (0, a1)] h Q = X fz d 179 Q (blk 179 0) [(3, a0), (0, a1)] [] h := G_eq
theorem sp180 {fz : Int → Int → Option Int} {d : Nat} {h : HV} {Q : Int → HV → Prop} {a0 a1 : Int} : Sp fz d 180 [(3, a0), (0, a1)] h Q = X fz d 180 Q (blk 180 0) [(3, a0), (0, a1)] [] h := G_eq
theorem sp181 {fz : Int → Int → Option Int} {d : Nat} {h : HV} {Q : Int → HV → Prop} {a0 a1 : Int} : Sp fz d 181 [(3, a0), (0, a1)] h Q = X fz d 181 Q (blk 181 0) [(3, a0), (0, a1)] [] h := G_eq
theorem sp182 {fz : Int → Int → Option Int} {d : Nat} {h : HV} {Q : Int → HV → Prop} {a0 a1 : Int} : Sp fz d 182 [(3, a0), (0, a1)] h Q = X fz d 182 Q (blk 182 0) [(3, a0), (0, a1)] [] h := G_eq
theorem sp183 {fz : Int → Int → Option Int} {d : Nat} {h : HV} {Q : Int → HV → Prop} {a0 a1 : Int} : Sp fz d 183 [(3, a0), (0, a1)] h Q = X fz d 183 Q (blk 183 0) [(3, a0), (0, a1)] [] h := G_eq
theorem sp184 {fz : Int → Int → Option Int} {d : Nat} {h : HV} {Q : Int → HV → Prop} {a0 a1 a2 a3 : Int} : Sp fz d 184 [(3, a0), (0, a1), (0, a2), (1, a3)] h Q = X fz d 184 Q (blk 184 0) [(3, a0), (0, a1), (0, a2), (1, a3), (9, 0)] [] h := G_eq
theorem sp185 {fz : Int → Int → Option Int} {d : Nat} {h : HV} {Q : Int → HV → Prop} {a0 a1 : Int} : Sp fz d 185 [(3, a0), (0, a1)] h Q = X fz d 185 Q (blk 185 0) [(3, a0), (0, a1), (9, 0), (9, 0), (9, 0), (9, 0), (9, 0)] [] h := G_eq
theorem sp186 {fz : Int → Int → Option Int} {d : Nat} {h : HV} {Q : Int → HV → Prop} {a0 a1 : Int} : Sp fz d 186 [(3, a0), (0, a1)] h Q = X fz d 186 Q (blk 186 0) [(3, a0), (0, a1), (9, 0)] [] h := G_eq
theorem sp187 {fz : Int → Int → Option Int} {d : Nat} {h : HV} {Q : Int → HV → Prop} {a0 a1 : Int} : Sp fz d 187 [(3, a0), (0, a1)] h Q = X fz d 187 Q (blk 187 0) [(3, a0), (0, a1)] [] h := G_eq
theorem sp188 {fz : Int → Int → Option Int} {d : Nat} {h : HV} {Q : Int → HV → Prop} {a0 a1 : Int} : Sp fz d 188 [(3, a0), (0, a1)] h Q = X fz d 188 Q (blk 188 0) [(3, a0), (0, a1)] [] h := G_eq
theorem sp189 {fz : Int → Int → Option Int} {d : Nat} {h : HV} {Q : Int → HV → Prop} {a0 : Int} : Sp fz d 189 [(0, a0)] h Q = X fz d 189 Q (blk 189 0) [(0, a0)] [] h := G_eq
theorem sp190 {fz : Int → Int → Option Int} {d : Nat} {h : HV} {Q : Int → HV → Prop} {a0 a1 : Int} : Sp fz d 190 [(3, a0), (0, a1)] h Q = X fz d 190 Q (blk 190 0) [(3, a0), (0, a1), (9, 0)] [] h := G_eq
theorem sp191 {fz : Int → Int → Option Int} {d : Nat} {h : HV} {Q : Int → HV → Prop} {a0 a1 a2 : Int} : Sp fz d 191 [(3, a0), (1, a1), (1, a2)] h Q = X fz d 191 Q (blk 191 0) [(3, a0), (1, a1), (9, 0), (1, a2), (9, 0)] [] h := G_eq
theorem sp192 {fz : Int → Int → Option Int} {d : Nat} {h : HV} {Q : Int → HV → Prop} {a0 a1 : Int} : Sp fz d 192 [(3, a0), (0, a1)] h Q = X fz d 192 Q (blk 192 0) [(3, a0), (0, a1), (9, 0)] [] h := G_eq
theorem sp193 {fz : Int → Int → Option Int} {d : Nat} {h : HV} {Q : Int → HV → Prop} {a0 a1 : Int} : Sp fz d 193 [(3, a0), (0, a1)] h Q = X fz d 193 Q (blk 193 0) [(3, a0), (0, a1)] [] h := G_eq
theorem sp194 {fz : Int → Int → Option Int} {d : Nat} {h : HV} {Q : Int → HV → Prop} {a0 a1 : Int} : Sp fz d 194 [(3, a0), (0, a1)] h Q = X fz d 194 Q (blk 194 0) [(3, a0), (0, a1)] [] h := G_eq
theorem sp195 {fz : Int → Int → Option Int} {d : Nat} {h : HV} {Q : Int → HV → Prop} {a0 a1 : Int} : Sp fz d 195 [(3, a0), (0, a1)] h Q = X fz d 195 Q (blk 195 0) [(3, a0), (0, a1), (9, 0), (9, 0), (9, 0), (9, 0), (9, 0), (9, 0)] [] h := G_eq
theorem sp196 {fz : Int → Int → Option Int} {d : Nat} {h : HV} {Q : Int → HV → Prop} {a0 : Int} : Sp fz d 196 [(3, a0)] h Q = X fz d 196 Q (blk 196 0) [(3, a0)] [] h := G_eq
theorem sp197 {fz : Int → Int → Option Int} {d : Nat} {h : HV} {Q : Int → HV → Prop} {a0 : Int} : Sp fz d 197 [(3, a0)] h Q = X fz d 197 Q (blk 197 0) [(3, a0)] [] h := G_eq
theorem sp198 {fz : Int → Int → Option Int} {d : Nat} {h : HV} {Q : Int → HV → Prop} {a0 a1 a2 a3 : Int} : Sp fz d 198 [(3, a0), (0, a1), (1, a2), (1, a3)] h Q = X fz d 198 Q (blk 198 0) [(3, a0), (0, a1), (1, a2), (9, 0), (1, a3), (9, 0), (9, 0), (9, 0)] [] h := G_eq
theorem sp199 {fz : Int → Int → Option Int} {d : Nat} {h : HV} {Q : Int → HV → Prop} {a0 a1 a2 : Int} : Sp fz d 199 [(3, a0), (0, a1), (1, a2)] h Q = X fz d 199 Q (blk 199 0) [(3, a0), (0, a1), (1, a2), (9, 0)] [] h := G_eq
theorem sp200 {fz : Int → Int → Option Int} {d : Nat} {h : HV} {Q : Int → HV → Prop} {a0 a1 a2 a3 : Int} : Sp fz d 200 [(3, a0), (0, a1), (0, a2), (1, a3)] h Q = X fz d 200 Q (blk 200 0) [(3, a0), (0, a1), (0, a2), (1, a3), (9, 0)] [] h := G_eq
theorem sp201 {fz : Int → Int → Option Int} {d : Nat} {h : HV} {Q : Int → HV → Prop} {a0 a1 : Int} : Sp fz d 201 [(1, a0), (1, a1)] h Q = X fz d 201 Q (blk 201 0) [(1, a0), (9, 0), (1, a1), (9, 0), (9, 0), (9, 0), (9, 0), (9, 0), (9, 0), (9, 0), (9, 0)] [] h := G_eq
theorem sp202 {fz : Int → Int → Option Int} {d : Nat} {h : HV} {Q : Int → HV → Prop} {a0 a1 : Int} : Sp fz d 202 [(1, a0), (0, a1)] h Q = X fz d 202 Q (blk 202 0) [(1, a0), (9, 0), (0, a1)] [] h := G_eq
theorem sp203 {fz : Int → Int → Option Int} {d : Nat} {h : HV} {Q : Int → HV → Prop} {a0 : Int} : Sp fz d 203 [(1, a0)] h Q = X fz d 203 Q (blk 203 0) [(1, a0), (9, 0)] [] h := G_eq
theorem sp204 {fz : Int → Int → Option Int} {d : Nat} {h : HV} {Q : Int → HV → Prop} {a0 a1 : Int} : Sp fz d 204 [(1, a0), (1, a1)] h Q = X fz d 204 Q (blk 204 0) [(1, a0), (9, 0), (1, a1), (9, 0), (9, 0), (9, 0), (9, 0), (9, 0), (9, 0), (9, 0), (9, 0), (9, 0), (9, 0), (9, 0), (9, 0), (9, 0), (9, 0)] [] h := G_eq
theorem sp205 {fz : Int → Int → Option Int} {d : Nat} {h : HV} {Q : Int → HV → Prop} {a0 a1 : Int} : Sp fz d 205 [(1, a0), (1, a1)] h Q = X fz d 205 Q (blk 205 0) [(1, a0), (9, 0), (1, a1), (9, 0), (9, 0), (9, 0), (9, 0), (9, 0), (9, 0), (9, 0)] [] h := G_eq
theorem sp206 {fz : Int → Int → Option Int} {d : Nat} {h : HV} {Q : Int → HV → Prop} {a0 a1 : Int} : Sp fz d 206 [(3, a0), (0, a1)] h Q = X fz d 206 Q (blk 206 0) [(3, a0), (0, a1), (9, 0), (9, 0), (9, 0), (9, 0), (9, 0)] [] h := G_eq
theorem sp207 {fz : Int → Int → Option Int} {d : Nat} {h : HV} {Q : Int → HV → Prop} {a0 a1 : Int} : Sp fz d 207 [(1, a0), (1, a1)] h Q = X fz d 207 Q (blk 207 0) [(1, a0), (9, 0), (1, a1), (9, 0)] [] h := G_eq
theorem sp208 {fz : Int → Int → Option Int} {d : Nat} {h : HV} {Q : Int → HV → Prop} {a0 : Int} : Sp fz d 208 [(1, a0)] h Q = X fz d 208 Q (blk 208 0) [(1, a0), (9, 0)] [] h := G_eq
theorem sp209 {fz : Int → Int → Option Int} {d : Nat} {h : HV} {Q : Int → HV → Prop} {a0 a1 : Int} : Sp fz d 209 [(1, a0), (1, a1)] h Q = X fz d 209 Q (blk 209 0) [(1, a0), (9, 0), (1, a1), (9, 0)] [] h := G_eq
theorem sp210 {fz : Int → Int → Option Int} {d : Nat} {h : HV} {Q : Int → HV → Prop} {a0 : Int} : Sp fz d 210 [(3, a0)] h Q = X fz d 210 Q (blk 210 0) [(3, a0)] [] h := G_eq
theorem sp211 {fz : Int → Int → Option Int} {d : Nat} {h : HV} {Q : Int → HV → Prop} {a0 : Int} : Sp fz d 211 [(3, a0)] h Q = X fz d 211 Q (blk 211 0) [(3, a0), (9, 0), (9, 0), (9, 0), (9, 0)] [] h := G_eq
theorem sp212 {fz : Int → Int → Option Int} {d : Nat} {h : HV} {Q : Int → HV → Prop} {a0 a1 : Int} : Sp fz d 212 [(3, a0), (0, a1)] h Q = X fz d 212 Q (blk 212 0) [(3, a0), (0, a1), (9, 0), (9, 0), (9, 0)] [] h := G_eq
theorem sp213 {fz : Int → Int → Option Int} {d : Nat} {h : HV} {Q : Int → HV → Prop} {a0 : Int} : Sp fz d 213 [(3, a0)] h Q = X fz d 213 Q (blk 213 0) [(3, a0), (9, 0), (9, 0)] [] h := G_eq
theorem sp214 {fz : Int → Int → Option Int} {d : Nat} {h : HV} {Q : Int → HV → Prop} {a0 a1 a2 : Int} : Sp fz d 214 [(3, a0), (0, a1), (1, a2)] h Q = X fz d 214 Q (blk 214 0) [(3, a0), (0, a1), (1, a2), (9, 0), (9, 0)] [] h := G_eq
theorem sp215 {fz : Int → Int → Option Int} {d : Nat} {h : HV} {Q : Int → HV → Prop} {a0 a1 a2 a3 : Int} : Sp fz d 215 [(3, a0), (0, a1), (0, a2), (1, a3)] h Q = X fz d 215 Q (blk 215 0) [(3, a0), (0, a1), (0, a2), (1, a3), (9, 0), (9, 0), (9, 0)] [] h := G_eq
theorem sp216 {fz : Int → Int → Option Int} {d : Nat} {h : HV} {Q : Int → HV → Prop} {a0 a1 : Int} : Sp fz d 216 [(3, a0), (0, a1)] h Q = X fz d 216 Q (blk 216 0) [(3, a0), (0, a1)] [] h := G_eq
theorem sp217 {fz : Int → Int → Option Int} {d : Nat} {h : HV} {Q : Int → HV → Prop} {a0 : Int} : Sp fz d 217 [(3, a0)] h Q = X fz d 217 Q (blk 217 0) [(3, a0)] [] h := G_eq
theorem sp218 {fz : Int → Int → Option Int} {d : Nat} {h : HV} {Q : Int → HV → Prop} {a0 : Int} : Sp fz d 218 [(3, a0)] h Q = X fz d 218 Q (blk 218 0) [(3, a0), (9, 0), (9, 0), (9, 0), (9, 0)] [] h := G_eq
theorem sp219 {fz : Int → Int → Option Int} {d : Nat} {h : HV} {Q : Int → HV → Prop} {a0 : Int} : Sp fz d 219 [(3, a0)] h Q = X fz d 219 Q (blk 219 0) [(3, a0), (9, 0), (9, 0), (9, 0), (9, 0), (9, 0), (9, 0), (9, 0), (9, 0), (9, 0), (9, 0), (9, 0)] [] h := G_eq
theorem sp220 {fz : Int → Int → Option Int} {d : Nat} {h : HV} {Q : Int → HV → Prop} {a0 : Int} : Sp fz d 220 [(3, a0)] h Q = X fz d 220 Q (blk 220 0) [(3, a0), (9, 0), (9, 0), (9, 0), (9, 0), (9, 0), (9, 0), (9, 0), (9, 0), (9, 0)] [] h := G_eq
theorem sp221 {fz : Int → Int → Option Int} {d : Nat} {h : HV} {Q : Int → HV → Prop} {a0 a1 : Int} : Sp fz d 221 [(3, a0), (0, a1)] h Q = X fz d 221 Q (blk 221 0) [(3, a0), (0, a1)] [] h := G_eq
theorem sp222 {fz : Int → Int → Option Int} {d : Nat} {h : HV} {Q : Int → HV → Prop} {a0 : Int} : Sp fz d 222 [(3, a0)] h Q = X fz d 222 Q (blk 222 0) [(3, a0)] [] h := G_eq
theorem sp223 {fz : Int → Int → Option Int} {d : Nat} {h : HV} {Q : Int → HV → Prop} {a0 : Int} : Sp fz d 223 [(3, a0)] h Q = X fz d 223 Q (blk 223 0) [(3, a0), (9, 0)] [] h := G_eq
theorem sp224 {fz : Int → Int → Option Int} {d : Nat} {h : HV} {Q : Int → HV → Prop} {a0 : Int} : Sp fz d 224 [(3, a0)] h Q = X fz d 224 Q (blk 224 0) [(3, a0)] [] h := G_eq
theorem sp225 {fz : Int → Int → Option Int} {d : Nat} {h : HV} {Q : Int → HV → Prop} {a0 : Int} : Sp fz d 225 [(3, a0)] h Q = X fz d 225 Q (blk 225 0) [(3, a0)] [] h := G_eq
theorem sp226 {fz : Int → Int → Option Int} {d : Nat} {h : HV} {Q : Int → HV → Prop} {a0 : Int} : Sp fz d 226 [(1, a0)] h Q = X fz d 226 Q (blk 226 0) [(1, a0), (9, 0), (9, 0), (9, 0), (9, 0)] [] h := G_eq
theorem sp227 {fz : Int → Int → Option Int} {d : Nat} {h : HV} {Q : Int → HV → Prop} {a0 : Int} : Sp fz d 227 [(3, a0)] h Q = X fz d 227 Q (blk 227 0) [(3, a0)] [] h := G_eq
theorem sp228 {fz : Int → Int → Option Int} {d : Nat} {h : HV} {Q : Int → HV → Prop} {a0 : Int} : Sp fz d 228 [(3, a0)] h Q = X fz d 228 Q (blk 228 0) [(3, a0)] [] h := G_eq
theorem sp229 {fz : Int → Int → Option Int} {d : Nat} {h : HV} {Q : Int → HV → Prop} {a0 : Int} : Sp fz d 229 [(3, a0)] h Q = X fz d 229 Q (blk 229 0) [(3, a0), (9, 0), (9, 0)] [] h := G_eq
theorem sp230 {fz : Int → Int → Option Int} {d : Nat} {h : HV} {Q : Int → HV → Prop} {a0 : Int} : Sp fz d 230 [(3, a0)] h Q = X fz d 230 Q (blk 230 0) [(3, a0), (9, 0), (9, 0), (9, 0)] [] h := G_eq
theorem sp231 {fz : Int → Int → Option Int} {d : Nat} {h : HV} {Q : Int → HV → Prop} {a0 : Int} : Sp fz d 231 [(3, a0)] h Q = X fz d 231 Q (blk 231 0) [(3, a0), (9, 0), (9, 0), (9, 0)] [] h := G_eq
theorem sp232 {fz : Int → Int → Option Int} {d : Nat} {h : HV} {Q : Int → HV → Prop} {a0 a1 a2 : Int} : Sp fz d 232 [(3, a0), (0, a1), (0, a2)] h Q = X fz d 232 Q (blk 232 0) [(3, a0), (0, a1), (0, a2), (9, 0), (9, 0)] [] h := G_eq
theorem sp233 {fz : Int → Int → Option Int} {d : Nat} {h : HV} {Q : Int → HV → Prop} {a0 : Int} : Sp fz d 233 [(3, a0)] h Q = X fz d 233 Q (blk 233 0) [(3, a0)] [] h := G_eq
theorem sp234 {fz : Int → Int → Option Int} {d : Nat} {h : HV} {Q : Int → HV → Prop} {a0 : Int} : Sp fz d 234 [(3, a0)] h Q = X fz d 234 Q (blk 234 0) [(3, a0)] [] h := G_eq
theorem sp235 {fz : Int → Int → Option Int} {d : Nat} {h : HV} {Q : Int → HV → Prop} {a0 a1 : Int} : Sp fz d 235 [(3, a0), (0, a1)] h Q = X fz d 235 Q (blk 235 0) [(3, a0), (0, a1), (9, 0)] [] h := G_eq
theorem sp236 {fz : Int → Int → Option Int} {d : Nat} {h : HV} {Q : Int → HV → Prop} {a0 : Int} : Sp fz d 236 [(3, a0)] h Q = X fz d 236 Q (blk 236 0) [(3, a0)] [] h := G_eq
theorem sp237 {fz : Int → Int → Option Int} {d : Nat} {h : HV} {Q : Int → HV → Prop} {a0 a1 a2 : Int} : Sp fz d 237 [(3, a0), (0, a1), (0, a2)] h Q = X fz d 237 Q (blk 237 0) [(3, a0), (0, a1), (0, a2), (9, 0)] [] h := G_eq
theorem sp238 {fz : Int → Int → Option Int} {d : Nat} {h : HV} {Q : Int → HV → Prop} {a0 a1 a2 : Int} : Sp fz d 238 [(3, a0), (0, a1), (0, a2)] h Q = X fz d 238 Q (blk 238 0) [(3, a0), (0, a1), (0, a2), (9, 0), (9, 0), (9, 0), (9, 0)] [] h := G_eq
theorem sp239 {fz : Int → Int → Option Int} {d : Nat} {h : HV} {Q : Int → HV → Prop} {a0 a1 a2 a3 : Int} : Sp fz d 239 [(3, a0), (0, a1), (1, a2), (0, a3)] h Q = X fz d 239 Q (blk 239 0) [(3, a0), (0, a1), (1, a2), (9, 0), (0, a3)] [] h := G_eq
theorem sp240 {fz : Int → Int → Option Int} {d : Nat} {h : HV} {Q : Int → HV → Prop} {a0 a1 : Int} : Sp fz d 240 [(3, a0), (0, a1)] h Q = X fz d 240 Q (blk 240 0) [(3, a0), (0, a1)] [] h := G_eq
theorem sp241 {fz : Int → Int → Option Int} {d : Nat} {h : HV} {Q : Int → HV → Prop} {a0 a1 : Int} : Sp fz d 241 [(3, a0), (0, a1)] h Q = X fz d 241 Q (blk 241 0) [(3, a0), (0, a1), (9, 0)] [] h := G_eq
theorem sp242 {fz : Int → Int → Option Int} {d : Nat} {h : HV} {Q : Int → HV → Prop} {a0 : Int} : Sp fz d 242 [(3, a0)] h Q = X fz d 242 Q (blk 242 0) [(3, a0)] [] h := G_eq
theorem sp243 {fz : Int → Int → Option Int} {d : Nat} {h : HV} {Q : Int → HV → Prop} {a0 a1 : Int} : Sp fz d 243 [(3, a0), (0, a1)] h Q = X fz d 243 Q (blk 243 0) [(3, a0), (0, a1)] [] h := G_eq
theorem sp244 {fz : Int → Int → Option Int} {d : Nat} {h : HV} {Q : Int → HV → Prop} {a0 a1 a2 a3 : Int} : Sp fz d 244 [(3, a0), (0, a1), (0, a2), (0, a3)] h Q = X fz d 244 Q (blk 244 0) [(3, a0), (0, a1), (0, a2), (0, a3)] [] h := G_eq
theorem sp245 {fz : Int → Int → Option Int} {d : Nat} {h : HV} {Q : Int → HV → Prop} {a0 a1 a2 a3 : Int} : Sp fz d 245 [(3, a0), (0, a1), (0, a2), (0, a3)] h Q = X fz d 245 Q (blk 245 0) [(3, a0), (0, a1), (0, a2), (0, a3)] [] h := G_eq
theorem sp246 {fz : Int → Int → Option Int} {d : Nat} {h : HV} {Q : Int → HV → Prop} {a0 a1 : Int} : Sp fz d 246 [(3, a0), (0, a1)] h Q = X fz d 246 Q (blk 246 0) [(3, a0), (0, a1)] [] h := G_eq
theorem sp247 {fz : Int → Int → Option Int} {d : Nat} {h : HV} {Q : Int → HV → Prop} {a0 : Int} : Sp fz d 247 [(3, a0)] h Q = X fz d 247 Q (blk 247 0) [(3, a0)] [] h := G_eq
theorem sp248 {fz : Int → Int → Option Int} {d : Nat} {h : HV} {Q : Int → HV → Prop} {a0 a1 a2 a3 : Int} : Sp fz d 248 [(3, a0), (0, a1), (0, a2), (0, a3)] h Q = X fz d 248 Q (blk 248 0) [(3, a0), (0, a1), (0, a2), (0, a3)] [] h := G_eq
theorem sp249 {fz : Int → Int → Option Int} {d : Nat} {h : HV} {Q : Int → HV → Prop} {a0 a1 a2 a3 : Int} : Sp fz d 249 [(3, a0), (0, a1), (0, a2), (0, a3)] h Q = X fz d 249 Q (blk 249 0) [(3, a0), (0, a1), (0, a2), (0, a3)] [] h := G_eq
theorem sp250 {fz : Int → Int → Option Int} {d : Nat} {h : HV} {Q : Int → HV → Prop} {a0 a1 a2 a3 : Int} : Sp fz d 250 [(3, a0), (0, a1), (0, a2), (0, a3)] h Q = X fz d 250 Q (blk 250 0) [(3, a0), (0, a1), (0, a2), (0, a3), (9, 0), (9, 0)] [] h := G_eq
theorem sp251 {fz : Int → Int → Option Int} {d : Nat} {h : HV} {Q : Int → HV → Prop} {a0 a1 a2 : Int} : Sp fz d 251 [(3, a0), (0, a1), (0, a2)] h Q = X fz d 251 Q (blk 251 0) [(3, a0), (0, a1), (0, a2), (9, 0)] [] h := G_eq
theorem sp252 {fz : Int → Int → Option Int} {d : Nat} {h : HV} {Q : Int → HV → Prop} {a0 a1 : Int} : Sp fz d 252 [(3, a0), (0, a1)] h Q = X fz d 252 Q (blk 252 0) [(3, a0), (0, a1)] [] h := G_eq
theorem sp253 {fz : Int → Int → Option Int} {d : Nat} {h : HV} {Q : Int → HV → Prop} {a0 a1 : Int} : Sp fz d 253 [(3, a0), (0, a1)] h Q = X fz d 253 Q (blk 253 0) [(3, a0), (0, a1), (9, 0), (9, 0), (9, 0), (9, 0)] [] h := G_eq
theorem sp254 {fz : Int → Int → Option Int} {d : Nat} {h : HV} {Q : Int → HV → Prop} {a0 : Int} : Sp fz d 254 [(3, a0)] h Q = X fz d 254 Q (blk 254 0) [(3, a0), (9, 0)] [] h := G_eq
theorem sp255 {fz : Int → Int → Option Int} {d : Nat} {h : HV} {Q : Int → HV → Prop} {a0 a1 : Int} : Sp fz d 255 [(3, a0), (0, a1)] h Q = X fz d 255 Q (blk 255 0) [(3, a0), (0, a1), (9, 0), (9, 0)] [] h := G_eq
theorem sp256 {fz : Int → Int → Option Int} {d : Nat} {h : HV} {Q : Int → HV → Prop} {a0 : Int} : Sp fz d 256 [(3, a0)] h Q = X fz d 256 Q (blk 256 0) [(3, a0), (9, 0)] [] h := G_eq
theorem sp257 {fz : Int → Int → Option Int} {d : Nat} {h : HV} {Q : Int → HV → Prop} {a0 a1 : Int} : Sp fz d 257 [(3, a0), (0, a1)] h Q = X fz d 257 Q (blk 257 0) [(3, a0), (0, a1)] [] h := G_eq
theorem sp258 {fz : Int → Int → Option Int} {d : Nat} {h : HV} {Q : Int → HV → Prop} {a0 a1 a2 a3 : Int} : Sp fz d 258 [(3, a0), (0, a1), (0, a2), (0, a3)] h Q = X fz d 258 Q (blk 258 0) [(3, a0), (0, a1), (0, a2), (0, a3), (9, 0), (9, 0), (9, 0), (9, 0)] [] h := G_eq
theorem sp259 {fz : Int → Int → Option Int} {d : Nat} {h : HV} {Q : Int → HV → Prop} {a0 a1 : Int} : Sp fz d 259 [(3, a0), (0, a1)] h Q = X fz d 259 Q (blk 259 0) [(3, a0), (0, a1), (9, 0)] [] h := G_eq
theorem sp260 {fz : Int → Int → Option Int} {d : Nat} {h : HV} {Q : Int → HV → Prop} {a0 a1 : Int} : Sp fz d 260 [(3, a0), (0, a1)] h Q = X fz d 260 Q (blk 260 0) [(3, a0), (0, a1), (9, 0)] [] h := G_eq
theorem sp261 {fz : Int → Int → Option Int} {d : Nat} {h : HV} {Q : Int → HV → Prop} {a0 a1 : Int} : Sp fz d 261 [(3, a0), (0, a1)] h Q = X fz d 261 Q (blk 261 0) [(3, a0), (0, a1)] [] h := G_eq
theorem sp262 {fz : Int → Int → Option Int} {d : Nat} {h : HV} {Q : Int → HV → Prop} {a0 a1 : Int} : Sp fz d 262 [(3, a0), (0, a1)] h Q = X fz d 262 Q (blk 262 0) [(3, a0), (0, a1), (9, 0), (9, 0)] [] h := G_eq
theorem sp263 {fz : Int → Int → Option Int} {d : Nat} {h : HV} {Q : Int → HV → Prop} {a0 a1 a2 : Int} : Sp fz d 263 [(3, a0), (0, a1), (0, a2)] h Q = X fz d 263 Q (blk 263 0) [(3, a0), (0, a1), (0, a2), (9, 0), (9, 0), (9, 0), (9, 0), (9, 0), (9, 0)] [] h := G_eq
theorem sp264 {fz : Int → Int → Option Int} {d : Nat} {h : HV} {Q : Int → HV → Prop} {a0 a1 : Int} : Sp fz d 264 [(3, a0), (0, a1)] h Q = X fz d 264 Q (blk 264 0) [(3, a0), (0, a1)] [] h := G_eq
theorem sp265 {fz : Int → Int → Option Int} {d : Nat} {h : HV} {Q : Int → HV → Prop} {a0 : Int} : Sp fz d 265 [(3, a0)] h Q = X fz d 265 Q (blk 265 0) [(3, a0)] [] h := G_eq
theorem sp266 {fz : Int → Int → Option Int} {d : Nat} {h : HV} {Q : Int → HV → Prop} {a0 : Int} : Sp fz d 266 [(3, a0)] h Q = X fz d 266 Q (blk 266 0) [(3, a0)] [] h := G_eq
theorem sp267 {fz : Int → Int → Option Int} {d : Nat} {h : HV} {Q : Int → HV → Prop} {a0 : Int} : Sp fz d 267 [(3, a0)] h Q = X fz d 267 Q (blk 267 0) [(3, a0)] [] h := G_eq
theorem sp268 {fz : Int → Int → Option Int} {d : Nat} {h : HV} {Q : Int → HV → Prop} {a0 : Int} : Sp fz d 268 [(3, a0)] h Q = X fz d 268 Q (blk 268 0) [(3, a0)] [] h := G_eq
theorem sp269 {fz : Int → Int → Option Int} {d : Nat} {h : HV} {Q : Int → HV → Prop} {a0 a1 a2 : Int} : Sp fz d 269 [(3, a0), (0, a1), (0, a2)] h Q = X fz d 269 Q (blk 269 0) [(3, a0), (0, a1), (0, a2)] [] h := G_eq
theorem sp270 {fz : Int → Int → Option Int} {d : Nat} {h : HV} {Q : Int → HV → Prop} {a0 a1 : Int} : Sp fz d 270 [(3, a0), (0, a1)] h Q = X fz d 270 Q (blk 270 0) [(3, a0), (0, a1)] [] h := G_eq
theorem sp271 {fz : Int → Int → Option Int} {d : Nat} {h : HV} {Q : Int → HV → Prop} {a0 a1 : Int} : Sp fz d 271 [(3, a0), (0, a1)] h Q = X fz d 271 Q (blk 271 0) [(3, a0), (0, a1)] [] h := G_eq
theorem sp272 {fz : Int → Int → Option Int} {d : Nat} {h : HV} {Q : Int → HV → Prop} {a0 a1 a2 : Int} : Sp fz d 272 [(3, a0), (0, a1), (0, a2)] h Q = X fz d 272 Q (blk 272 0) [(3, a0), (0, a1), (0, a2)] [] h := G_eq
theorem sp273 {fz : Int → Int → Option Int} {d : Nat} {h : HV} {Q : Int → HV → Prop} {a0 a1 a2 : Int} : Sp fz d 273 [(3, a0), (0, a1), (0, a2)] h Q = X fz d 273 Q (blk 273 0) [(3, a0), (0, a1), (0, a2), (9, 0)] [] h := G_eq
theorem sp274 {fz : Int → Int → Option Int} {d : Nat} {h : HV} {Q : Int → HV → Prop} {a0 a1 a2 : Int} : Sp fz d 274 [(3, a0), (0, a1), (0, a2)] h Q = X fz d 274 Q (blk 274 0) [(3, a0), (0, a1), (0, a2)] [] h := G_eq
theorem sp275 {fz : Int → Int → Option Int} {d : Nat} {h : HV} {Q : Int → HV → Prop} {a0 a1 a2 : Int} : Sp fz d 275 [(3, a0), (0, a1), (0, a2)] h Q = X fz d 275 Q (blk 275 0) [(3, a0), (0, a1), (0, a2)] [] h := G_eq
theorem sp276 {fz : Int → Int → Option Int} {d : Nat} {h : HV} {Q : Int → HV → Prop} {a0 a1 : Int} : Sp fz d 276 [(3, a0), (0, a1)] h Q = X fz d 276 Q (blk 276 0) [(3, a0), (0, a1)] [] h := G_eq
theorem sp277 {fz : Int → Int → Option Int} {d : Nat} {h : HV} {Q : Int → HV → Prop} {a0 a1 : Int} : Sp fz d 277 [(3, a0), (0, a1)] h Q = X fz d 277 Q (blk 277 0) [(3, a0), (0, a1), (9, 0), (9, 0), (9, 0)] [] h := G_eq
theorem sp278 {fz : Int → Int → Option Int} {d : Nat} {h : HV} {Q : Int → HV → Prop} {a0 a1 a2 : Int} : Sp fz d 278 [(0, a0), (0, a1), (0, a2)] h Q = X fz d 278 Q (blk 278 0) [(0, a0), (0, a1), (0, a2), (9, 0)] [] h := G_eq
theorem sp279 {fz : Int → Int → Option Int} {d : Nat} {h : HV} {Q : Int → HV → Prop} {a0 a1 a2 : Int} : Sp fz d 279 [(3, a0), (0, a1), (0, a2)] h Q = X fz d 279 Q (blk 279 0) [(3, a0), (0, a1), (0, a2)] [] h := G_eq
theorem sp280 {fz : Int → Int → Option Int} {d : Nat} {h : HV} {Q : Int → HV → Prop} {a0 a1 a2 : Int} : Sp fz d 280 [(3, a0), (0, a1), (0, a2)] h Q = X fz d 280 Q (blk 280 0) [(3, a0), (0, a1), (0, a2)] [] h := G_eq
theorem sp281 {fz : Int → Int → Option Int} {d : Nat} {h : HV} {Q : Int → HV → Prop} {a0 : Int} : Sp fz d 281 [(0, a0)] h Q = X fz d 281 Q (blk 281 0) [(0, a0)] [] h := G_eq
theorem sp282 {fz : Int → Int → Option Int} {d : Nat} {h : HV} {Q : Int → HV → Prop} {a0 a1 : Int} : Sp fz d 282 [(3, a0), (0, a1)] h Q = X fz d 282 Q (blk 282 0) [(3, a0), (0, a1)] [] h := G_eq
theorem sp283 {fz : Int → Int → Option Int} {d : Nat} {h : HV} {Q : Int → HV → Prop} {a0 : Int} : Sp fz d 283 [(3, a0)] h Q = X fz d 283 Q (blk 283 0) [(3, a0), (9, 0), (9, 0)] [] h := G_eq
theorem sp284 {fz : Int → Int → Option Int} {d : Nat} {h : HV} {Q : Int → HV → Prop} {a0 : Int} : Sp fz d 284 [(3, a0)] h Q = X fz d 284 Q (blk 284 0) [(3, a0)] [] h := G_eq
theorem sp285 {fz : Int → Int → Option Int} {d : Nat} {h : HV} {Q : Int → HV → Prop} {a0 : Int} : Sp fz d 285 [(3, a0)] h Q = X fz d 285 Q (blk 285 0) [(3, a0), (9, 0)] [] h := G_eq
theorem sp286 {fz : Int → Int → Option Int} {d : Nat} {h : HV} {Q : Int → HV → Prop} {a0 : Int} : Sp fz d 286 [(3, a0)] h Q = X fz d 286 Q (blk 286 0) [(3, a0), (9, 0)] [] h := G_eq
theorem sp287 {fz : Int → Int → Option Int} {d : Nat} {h : HV} {Q : Int → HV → Prop} {a0 a1 a2 : Int} : Sp fz d 287 [(3, a0), (0, a1), (0, a2)] h Q = X fz d 287 Q (blk 287 0) [(3, a0), (0, a1), (0, a2), (9, 0)] [] h := G_eq
theorem sp288 {fz : Int → Int → Option Int} {d : Nat} {h : HV} {Q : Int → HV → Prop} {a0 a1 : Int} : Sp fz d 288 [(3, a0), (0, a1)] h Q = X fz d 288 Q (blk 288 0) [(3, a0), (0, a1)] [] h := G_eq
theorem sp289 {fz : Int → Int → Option Int} {d : Nat} {h : HV} {Q : Int → HV → Prop} {a0 a1 a2 : Int} : Sp fz d 289 [(3, a0), (0, a1), (0, a2)] h Q = X fz d 289 Q (blk 289 0) [(3, a0), (0, a1), (0, a2)] [] h := G_eq
theorem sp290 {fz : Int → Int → Option Int} {d : Nat} {h : HV} {Q : Int → HV → Prop} {a0 a1 : Int} : Sp fz d 290 [(3, a0), (0, a1)] h Q = X fz d 290 Q (blk 290 0) [(3, a0), (0, a1), (9, 0), (9, 0)] [] h := G_eq
theorem sp291 {fz : Int → Int → Option Int} {d : Nat} {h : HV} {Q : Int → HV → Prop} {a0 a1 a2 a3 : Int} : Sp fz d 291 [(3, a0), (0, a1), (0, a2), (0, a3)] h Q = X fz d 291 Q (blk 291 0) [(3, a0), (0, a1), (0, a2), (0, a3), (9, 0), (9, 0)] [] h := G_eq
theorem sp292 {fz : Int → Int → Option Int} {d : Nat} {h : HV} {Q : Int → HV → Prop} {a0 : Int} : Sp fz d 292 [(3, a0)] h Q = X fz d 292 Q (blk 292 0) [(3, a0), (9, 0), (9, 0)] [] h := G_eq
theorem sp293 {fz : Int → Int → Option Int} {d : Nat} {h : HV} {Q : Int → HV → Prop} {a0 : Int} : Sp fz d 293 [(3, a0)] h Q = X fz d 293 Q (blk 293 0) [(3, a0), (9, 0)] [] h := G_eq
theorem sp294 {fz : Int → Int → Option Int} {d : Nat} {h : HV} {Q : Int → HV → Prop} {a0 : Int} : Sp fz d 294 [(3, a0)] h Q = X fz d 294 Q (blk 294 0) [(3, a0), (9, 0), (9, 0)] [] h := G_eq
theorem sp295 {fz : Int → Int → Option Int} {d : Nat} {h : HV} {Q : Int → HV → Prop} {a0 a1 : Int} : Sp fz d 295 [(3, a0), (0, a1)] h Q = X fz d 295 Q (blk 295 0) [(3, a0), (0, a1)] [] h := G_eq
theorem sp296 {fz : Int → Int → Option Int} {d : Nat} {h : HV} {Q : Int → HV → Prop} {a0 : Int} : Sp fz d 296 [(3, a0)] h Q = X fz d 296 Q (blk 296 0) [(3, a0), (9, 0), (9, 0)] [] h := G_eq
theorem sp297 {fz : Int → Int → Option Int} {d : Nat} {h : HV} {Q : Int → HV → Prop} {a0 a1 : Int} : Sp fz d 297 [(3, a0), (0, a1)] h Q = X fz d 297 Q (blk 297 0) [(3, a0), (0, a1), (9, 0), (9, 0)] [] h := G_eq
theorem sp298 {fz : Int → Int → Option Int} {d : Nat} {h : HV} {Q : Int → HV → Prop} {a0 a1 : Int} : Sp fz d 298 [(3, a0), (0, a1)] h Q = X fz d 298 Q (blk 298 0) [(3, a0), (0, a1), (9, 0), (9, 0)] [] h := G_eq
theorem sp299 {fz : Int → Int → Option Int} {d : Nat} {h : HV} {Q : Int → HV → Prop} {a0 a1 : Int} : Sp fz d 299 [(3, a0), (0, a1)] h Q = X fz d 299 Q (blk 299 0) [(3, a0), (0, a1)] [] h := G_eq
theorem sp300 {fz : Int → Int → Option Int} {d : Nat} {h : HV} {Q : Int → HV → Prop} {a0 a1 : Int} : Sp fz d 300 [(3, a0), (0, a1)] h Q = X fz d 300 Q (blk 300 0) [(3, a0), (0, a1)] [] h := G_eq
theorem sp301 {fz : Int → Int → Option Int} {d : Nat} {h : HV} {Q : Int → HV → Prop} {a0 : Int} : Sp fz d 301 [(3, a0)] h Q = X fz d 301 Q (blk 301 0) [(3, a0)] [] h := G_eq
theorem sp302 {fz : Int → Int → Option Int} {d : Nat} {h : HV} {Q : Int → HV → Prop} {a0 : Int} : Sp fz d 302 [(3, a0)] h Q = X fz d 302 Q (blk 302 0) [(3, a0)] [] h := G_eq
theorem sp303 {fz : Int → Int → Option Int} {d : Nat} {h : HV} {Q : Int → HV → Prop} {a0 : Int} : Sp fz d 303 [(3, a0)] h Q = X fz d 303 Q (blk 303 0) [(3, a0), (9, 0), (9, 0)] [] h := G_eq
theorem sp304 {fz : Int → Int → Option Int} {d : Nat} {h : HV} {Q : Int → HV → Prop} {a0 a1 a2 : Int} : Sp fz d 304 [(3, a0), (0, a1), (0, a2)] h Q = X fz d 304 Q (blk 304 0) [(3, a0), (0, a1), (0, a2), (9, 0)] [] h := G_eq
theorem sp305 {fz : Int → Int → Option Int} {d : Nat} {h : HV} {Q : Int → HV → Prop} {a0 a1 a2 : Int} : Sp fz d 305 [(3, a0), (0, a1), (0, a2)] h Q = X fz d 305 Q (blk 305 0) [(3, a0), (0, a1), (0, a2), (9, 0)] [] h := G_eq
theorem sp306 {fz : Int → Int → Option Int} {d : Nat} {h : HV} {Q : Int → HV → Prop} {a0 a1 a2 a3 : Int} : Sp fz d 306 [(3, a0), (0, a1), (0, a2), (0, a3)] h Q = X fz d 306 Q (blk 306 0) [(3, a0), (0, a1), (0, a2), (0, a3)] [] h := G_eq
theorem sp307 {fz : Int → Int → Option Int} {d : Nat} {h : HV} {Q : Int → HV → Prop} {a0 a1 a2 a3 : Int} : Sp fz d 307 [(3, a0), (0, a1), (0, a2), (0, a3)] h Q = X fz d 307 Q (blk 307 0) [(3, a0), (0, a1), (0, a2), (0, a3)] [] h := G_eq
theorem sp308 {fz : Int → Int → Option Int} {d : Nat} {h : HV} {Q : Int → HV → Prop} {a0 a1 : Int} : Sp fz d 308 [(3, a0), (0, a1)] h Q = X fz d 308 Q (blk 308 0) [(3, a0), (0, a1)] [] h := G_eq
theorem sp309 {fz : Int → Int → Option Int} {d : Nat} {h : HV} {Q : Int → HV → Prop} {a0 a1 : Int} : Sp fz d 309 [(3, a0), (0, a1)] h Q = X fz d 309 Q (blk 309 0) [(3, a0), (0, a1), (9, 0), (9, 0)] [] h := G_eq
theorem sp310 {fz : Int → Int → Option Int} {d : Nat} {h : HV} {Q : Int → HV → Prop} {a0 a1 : Int} : Sp fz d 310 [(3, a0), (0, a1)] h Q = X fz d 310 Q (blk 310 0) [(3, a0), (0, a1)] [] h := G_eq
theorem sp311 {fz : Int → Int → Option Int} {d : Nat} {h : HV} {Q : Int → HV → Prop} {a0 a1 : Int} : Sp fz d 311 [(3, a0), (0, a1)] h Q = X fz d 311 Q (blk 311 0) [(3, a0), (0, a1)] [] h := G_eq
theorem sp312 {fz : Int → Int → Option Int} {d : Nat} {h : HV} {Q : Int → HV → Prop} {a0 a1 a2 a3 : Int} : Sp fz d 312 [(3, a0), (0, a1), (0, a2), (0, a3)] h Q = X fz d 312 Q (blk 312 0) [(3, a0), (0, a1), (0, a2), (0, a3), (9, 0), (9, 0)] [] h := G_eq
theorem sp313 {fz : Int → Int → Option Int} {d : Nat} {h : HV} {Q : Int → HV → Prop} {a0 a1 a2 : Int} : Sp fz d 313 [(3, a0), (0, a1), (0, a2)] h Q = X fz d 313 Q (blk 313 0) [(3, a0), (0, a1), (0, a2)] [] h := G_eq
theorem sp314 {fz : Int → Int → Option Int} {d : Nat} {h : HV} {Q : Int → HV → Prop} {a0 a1 : Int} : Sp fz d 314 [(3, a0), (0, a1)] h Q = X fz d 314 Q (blk 314 0) [(3, a0), (0, a1)] [] h := G_eq
theorem sp315 {fz : Int → Int → Option Int} {d : Nat} {h : HV} {Q : Int → HV → Prop} {a0 : Int} : Sp fz d 315 [(3, a0)] h Q = X fz d 315 Q (blk 315 0) [(3, a0)] [] h := G_eq
theorem sp316 {fz : Int → Int → Option Int} {d : Nat} {h : HV} {Q : Int → HV → Prop} {a0 a1 : Int} : Sp fz d 316 [(3, a0), (0, a1)] h Q = X fz d 316 Q (blk 316 0) [(3, a0), (0, a1)] [] h := G_eq
theorem sp317 {fz : Int → Int → Option Int} {d : Nat} {h : HV} {Q : Int → HV → Prop} {a0 : Int} : Sp fz d 317 [(3, a0)] h Q = X fz d 317 Q (blk 317 0) [(3, a0)] [] h := G_eq
theorem sp318 {fz : Int → Int → Option Int} {d : Nat} {h : HV} {Q : Int → HV → Prop} {a0 : Int} : Sp fz d 318 [(3, a0)] h Q = X fz d 318 Q (blk 318 0) [(3, a0)] [] h := G_eq
theorem sp319 {fz : Int → Int → Option Int} {d : Nat} {h : HV} {Q : Int → HV → Prop} {a0 a1 a2 : Int} : Sp fz d 319 [(3, a0), (0, a1), (1, a2)] h Q = X fz d 319 Q (blk 319 0) [(3, a0), (0, a1), (1, a2), (9, 0), (9, 0)] [] h := G_eq
theorem sp320 {fz : Int → Int → Option Int} {d : Nat} {h : HV} {Q : Int → HV → Prop} {a0 : Int} : Sp fz d 320 [(3, a0)] h Q = X fz d 320 Q (blk 320 0) [(3, a0), (9, 0), (9, 0), (9, 0)] [] h := G_eq
theorem sp321 {fz : Int → Int → Option Int} {d : Nat} {h : HV} {Q : Int → HV → Prop} {a0 : Int} : Sp fz d 321 [(3, a0)] h Q = X fz d 321 Q (blk 321 0) [(3, a0), (9, 0), (9, 0), (9, 0), (9, 0), (9, 0), (9, 0), (9, 0), (9, 0)] [] h := G_eq
theorem sp322 {fz : Int → Int → Option Int} {d : Nat} {h : HV} {Q : Int → HV → Prop} {a0 : Int} : Sp fz d 322 [(0, a0)] h Q = X fz d 322 Q (blk 322 0) [(0, a0)] [] h := G_eq
theorem sp323 {fz : Int → Int → Option Int} {d : Nat} {h : HV} {Q : Int → HV → Prop} {a0 a1 : Int} : Sp fz d 323 [(3, a0), (0, a1)] h Q = X fz d 323 Q (blk 323 0) [(3, a0), (0, a1)] [] h := G_eq
theorem sp324 {fz : Int → Int → Option Int} {d : Nat} {h : HV} {Q : Int → HV → Prop} {a0 : Int} : Sp fz d 324 [(0, a0)] h Q = X fz d 324 Q (blk 324 0) [(0, a0)] [] h := G_eq
theorem sp325 {fz : Int → Int → Option Int} {d : Nat} {h : HV} {Q : Int → HV → Prop} {a0 : Int} : Sp fz d 325 [(3, a0)] h Q = X fz d 325 Q (blk 325 0) [(3, a0)] [] h := G_eq
theorem sp326 {fz : Int → Int → Option Int} {d : Nat} {h : HV} {Q : Int → HV → Prop} {a0 : Int} : Sp fz d 326 [(3, a0)] h Q = X fz d 326 Q (blk 326 0) [(3, a0), (9, 0)] [] h := G_eq
theorem sp327 {fz : Int → Int → Option Int} {d : Nat} {h : HV} {Q : Int → HV → Prop} {a0 a1 : Int} : Sp fz d 327 [(3, a0), (3, a1)] h Q = X fz d 327 Q (blk 327 0) [(3, a0), (3, a1), (9, 0)] [] h := G_eq
theorem sp328 {fz : Int → Int → Option Int} {d : Nat} {h : HV} {Q : Int → HV → Prop} {a0 a1 a2 : Int} : Sp fz d 328 [(3, a0), (0, a1), (0, a2)] h Q = X fz d 328 Q (blk 328 0) [(3, a0), (0, a1), (0, a2)] [] h := G_eq
theorem sp329 {fz : Int → Int → Option Int} {d : Nat} {h : HV} {Q : Int → HV → Prop} {a0 : Int} : Sp fz d 329 [(3, a0)] h Q = X fz d 329 Q (blk 329 0) [(3, a0), (9, 0)] [] h := G_eq
theorem sp330 {fz : Int → Int → Option Int} {d : Nat} {h : HV} {Q : Int → HV → Prop} {a0 : Int} : Sp fz d 330 [(3, a0)] h Q = X fz d 330 Q (blk 330 0) [(3, a0), (9, 0), (9, 0), (9, 0)] [] h := G_eq
theorem sp331 {fz : Int → Int → Option Int} {d : Nat} {h : HV} {Q : Int → HV → Prop} {a0 a1 a2 : Int} : Sp fz d 331 [(3, a0), (0, a1), (1, a2)] h Q = X fz d 331 Q (blk 331 0) [(3, a0), (0, a1), (1, a2), (9, 0), (9, 0)] [] h := G_eq
theorem sp332 {fz : Int → Int → Option Int} {d : Nat} {h : HV} {Q : Int → HV → Prop} {a0 : Int} : Sp fz d 332 [(3, a0)] h Q = X fz d 332 Q (blk 332 0) [(3, a0)] [] h := G_eq
theorem sp333 {fz : Int → Int → Option Int} {d : Nat} {h : HV} {Q : Int → HV → Prop} {a0 a1 : Int} : Sp fz d 333 [(3, a0), (0, a1)] h Q = X fz d 333 Q (blk 333 0) [(3, a0), (0, a1)] [] h := G_eq
theorem sp334 {fz : Int → Int → Option Int} {d : Nat} {h : HV} {Q : Int → HV → Prop} {a0 a1 : Int} : Sp fz d 334 [(3, a0), (0, a1)] h Q = X fz d 334 Q (blk 334 0) [(3, a0), (0, a1)] [] h := G_eq
theorem sp335 {fz : Int → Int → Option Int} {d : Nat} {h : HV} {Q : Int → HV → Prop} {a0 a1 a2 : Int} : Sp fz d 335 [(3, a0), (0, a1), (0, a2)] h Q = X fz d 335 Q (blk 335 0) [(3, a0), (0, a1), (0, a2), (9, 0)] [] h := G_eq
theorem sp336 {fz : Int → Int → Option Int} {d : Nat} {h : HV} {Q : Int → HV → Prop} {a0 : Int} : Sp fz d 336 [(3, a0)] h Q = X fz d 336 Q (blk 336 0) [(3, a0), (9, 0), (9, 0), (9, 0)] [] h := G_eq
theorem sp337 {fz : Int → Int → Option Int} {d : Nat} {h : HV} {Q : Int → HV → Prop} {a0 : Int} : Sp fz d 337 [(3, a0)] h Q = X fz d 337 Q (blk 337 0) [(3, a0), (9, 0), (9, 0)] [] h := G_eq
theorem sp338 {fz : Int → Int → Option Int} {d : Nat} {h : HV} {Q : Int → HV → Prop} {a0 a1 : Int} : Sp fz d 338 [(3, a0), (0, a1)] h Q = X fz d 338 Q (blk 338 0) [(3, a0), (0, a1), (9, 0)] [] h := G_eq
theorem sp339 {fz : Int → Int → Option Int} {d : Nat} {h : HV} {Q : Int → HV → Prop} {a0 : Int} : Sp fz d 339 [(3, a0)] h Q = X fz d 339 Q (blk 339 0) [(3, a0), (9, 0), (9, 0), (9, 0)] [] h := G_eq
theorem sp340 {fz : Int → Int → Option Int} {d : Nat} {h : HV} {Q : Int → HV → Prop} {a0 : Int} : Sp fz d 340 [(3, a0)] h Q = X fz d 340 Q (blk 340 0) [(3, a0)] [] h := G_eq
theorem sp341 {fz : Int → Int → Option Int} {d : Nat} {h : HV} {Q : Int → HV → Prop} {a0 a1 : Int} : Sp fz d 341 [(3, a0), (1, a1)] h Q = X fz d 341 Q (blk 341 0) [(3, a0), (1, a1), (9, 0), (9, 0)] [] h := G_eq
theorem sp342 {fz : Int → Int → Option Int} {d : Nat} {h : HV} {Q : Int → HV → Prop} {a0 a1 : Int} : Sp fz d 342 [(3, a0), (1, a1)] h Q = X fz d 342 Q (blk 342 0) [(3, a0), (1, a1), (9, 0), (9, 0)] [] h := G_eq
theorem sp343 {fz : Int → Int → Option Int} {d : Nat} {h : HV} {Q : Int → HV → Prop} {a0 : Int} : Sp fz d 343 [(3, a0)] h Q = X fz d 343 Q (blk 343 0) [(3, a0)] [] h := G_eq
theorem sp344 {fz : Int → Int → Option Int} {d : Nat} {h : HV} {Q : Int → HV → Prop} {a0 : Int} : Sp fz d 344 [(3, a0)] h Q = X fz d 344 Q (blk 344 0) [(3, a0)] [] h := G_eq
theorem sp345 {fz : Int → Int → Option Int} {d : Nat} {h : HV} {Q : Int → HV → Prop} {a0 : Int} : Sp fz d 345 [(3, a0)] h Q = X fz d 345 Q (blk 345 0) [(3, a0), (9, 0)] [] h := G_eq
theorem sp346 {fz : Int → Int → Option Int} {d : Nat} {h : HV} {Q : Int → HV → Prop} {a0 a1 : Int} : Sp fz d 346 [(3, a0), (0, a1)] h Q = X fz d 346 Q (blk 346 0) [(3, a0), (0, a1)] [] h := G_eq
theorem sp347 {fz : Int → Int → Option Int} {d : Nat} {h : HV} {Q : Int → HV → Prop} {a0 a1 a2 a3 : Int} : Sp fz d 347 [(3, a0), (0, a1), (0, a2), (0, a3)] h Q = X fz d 347 Q (blk 347 0) [(3, a0), (0, a1), (0, a2), (0, a3), (9, 0)] [] h := G_eq
theorem sp348 {fz : Int → Int → Option Int} {d : Nat} {h : HV} {Q : Int → HV → Prop} {a0 : Int} : Sp fz d 348 [(3, a0)] h Q = X fz d 348 Q (blk 348 0) [(3, a0), (9, 0), (9, 0)] [] h := G_eq
theorem sp349 {fz : Int → Int → Option Int} {d : Nat} {h : HV} {Q : Int → HV → Prop} {a0 : Int} : Sp fz d 349 [(3, a0)] h Q = X fz d 349 Q (blk 349 0) [(3, a0)] [] h := G_eq
theorem sp350 {fz : Int → Int → Option Int} {d : Nat} {h : HV} {Q : Int → HV → Prop} {a0 : Int} : Sp fz d 350 [(3, a0)] h Q = X fz d 350 Q (blk 350 0) [(3, a0), (9, 0)] [] h := G_eq
theorem sp351 {fz : Int → Int → Option Int} {d : Nat} {h : HV} {Q : Int → HV → Prop} {a0 : Int} : Sp fz d 351 [(3, a0)] h Q = X fz d 351 Q (blk 351 0) [(3, a0), (9, 0)] [] h := G_eq
theorem sp352 {fz : Int → Int → Option Int} {d : Nat} {h : HV} {Q : Int → HV → Prop} {a0 : Int} : Sp fz d 352 [(3, a0)] h Q = X fz d 352 Q (blk 352 0) [(3, a0), (9, 0)] [] h := G_eq
theorem sp353 {fz : Int → Int → Option Int} {d : Nat} {h : HV} {Q : Int → HV → Prop} {a0 : Int} : Sp fz d 353 [(3, a0)] h Q = X fz d 353 Q (blk 353 0) [(3, a0)] [] h := G_eq
theorem sp354 {fz : Int → Int → Option Int} {d : Nat} {h : HV} {Q : Int → HV → Prop} {a0 : Int} : Sp fz d 354 [(3, a0)] h Q = X fz d 354 Q (blk 354 0) [(3, a0)] [] h := G_eq
theorem sp355 {fz : Int → Int → Option Int} {d : Nat} {h : HV} {Q : Int → HV → Prop} {a0 : Int} : Sp fz d 355 [(3, a0)] h Q = X fz d 355 Q (blk 355 0) [(3, a0)] [] h := G_eq
theorem sp356 {fz : Int → Int → Option Int} {d : Nat} {h : HV} {Q : Int → HV → Prop} {a0 a1 : Int} : Sp fz d 356 [(3, a0), (0, a1)] h Q = X fz d 356 Q (blk 356 0) [(3, a0), (0, a1), (9, 0)] [] h := G_eq
theorem sp357 {fz : Int → Int → Option Int} {d : Nat} {h : HV} {Q : Int → HV → Prop} {a0 : Int} : Sp fz d 357 [(3, a0)] h Q = X fz d 357 Q (blk 357 0) [(3, a0), (9, 0), (9, 0), (9, 0), (9, 0)] [] h := G_eq
theorem sp358 {fz : Int → Int → Option Int} {d : Nat} {h : HV} {Q : Int → HV → Prop} {a0 a1 a2 a3 : Int} : Sp fz d 358 [(3, a0), (1, a1), (0, a2), (0, a3)] h Q = X fz d 358 Q (blk 358 0) [(3, a0), (1, a1), (9, 0), (0, a2), (0, a3)] [] h := G_eq
theorem sp359 {fz : Int → Int → Option Int} {d : Nat} {h : HV} {Q : Int → HV → Prop} {a0 : Int} : Sp fz d 359 [(3, a0)] h Q = X fz d 359 Q (blk 359 0) [(3, a0), (9, 0), (9, 0)] [] h := G_eq
theorem sp360 {fz : Int → Int → Option Int} {d : Nat} {h : HV} {Q : Int → HV → Prop} {a0 : Int} : Sp fz d 360 [(3, a0)] h Q = X fz d 360 Q (blk 360 0) [(3, a0), (9, 0), (9, 0), (9, 0)] [] h := G_eq
theorem sp361 {fz : Int → Int → Option Int} {d : Nat} {h : HV} {Q : Int → HV → Prop} {a0 a1 : Int} : Sp fz d 361 [(3, a0), (3, a1)] h Q = X fz d 361 Q (blk 361 0) [(3, a0), (3, a1)] [] h := G_eq
theorem sp362 {fz : Int → Int → Option Int} {d : Nat} {h : HV} {Q : Int → HV → Prop} {a0 : Int} : Sp fz d 362 [(3, a0)] h Q = X fz d 362 Q (blk 362 0) [(3, a0), (9, 0), (9, 0)] [] h := G_eq
theorem sp363 {fz : Int → Int → Option Int} {d : Nat} {h : HV} {Q : Int → HV → Prop} {a0 : Int} : Sp fz d 363 [(3, a0)] h Q = X fz d 363 Q (blk 363 0) [(3, a0)] [] h := G_eq
theorem sp364 {fz : Int → Int → Option Int} {d : Nat} {h : HV} {Q : Int → HV → Prop} {a0 : Int} : Sp fz d 364 [(3, a0)] h Q = X fz d 364 Q (blk 364 0) [(3, a0), (9, 0), (9, 0), (9, 0), (9, 0)] [] h := G_eq
theorem sp365 {fz : Int → Int → Option Int} {d : Nat} {h : HV} {Q : Int → HV → Prop} {a0 a1 : Int} : Sp fz d 365 [(3, a0), (0, a1)] h Q = X fz d 365 Q (blk 365 0) [(3, a0), (0, a1)] [] h := G_eq
theorem sp366 {fz : Int → Int → Option Int} {d : Nat} {h : HV} {Q : Int → HV → Prop} {a0 : Int} : Sp fz d 366 [(3, a0)] h Q = X fz d 366 Q (blk 366 0) [(3, a0), (9, 0)] [] h := G_eq
theorem sp367 {fz : Int → Int → Option Int} {d : Nat} {h : HV} {Q : Int → HV → Prop} {a0 a1 a2 a3 : Int} : Sp fz d 367 [(3, a0), (0, a1), (0, a2), (0, a3)] h Q = X fz d 367 Q (blk 367 0) [(3, a0), (0, a1), (0, a2), (0, a3), (9, 0), (9, 0)] [] h := G_eq
theorem sp368 {fz : Int → Int → Option Int} {d : Nat} {h : HV} {Q : Int → HV → Prop} {a0 a1 a2 : Int} : Sp fz d 368 [(3, a0), (0, a1), (0, a2)] h Q = X fz d 368 Q (blk 368 0) [(3, a0), (0, a1), (0, a2), (9, 0), (9, 0)] [] h := G_eq
theorem sp369 {fz : Int → Int → Option Int} {d : Nat} {h : HV} {Q : Int → HV → Prop} {a0 a1 a2 : Int} : Sp fz d 369 [(0, a0), (0, a1), (0, a2)] h Q = X fz d 369 Q (blk 369 0) [(0, a0), (0, a1), (0, a2)] [] h := G_eq
theorem sp370 {fz : Int → Int → Option Int} {d : Nat} {h : HV} {Q : Int → HV → Prop} {a0 a1 : Int} : Sp fz d 370 [(3, a0), (0, a1)] h Q = X fz d 370 Q (blk 370 0) [(3, a0), (0, a1)] [] h := G_eq
theorem sp371 {fz : Int → Int → Option Int} {d : Nat} {h : HV} {Q : Int → HV → Prop} {a0 a1 a2 : Int} : Sp fz d 371 [(3, a0), (0, a1), (0, a2)] h Q = X fz d 371 Q (blk 371 0) [(3, a0), (0, a1), (0, a2)] [] h := G_eq
theorem sp372 {fz : Int → Int → Option Int} {d : Nat} {h : HV} {Q : Int → HV → Prop} {a0 a1 : Int} : Sp fz d 372 [(3, a0), (0, a1)] h Q = X fz d 372 Q (blk 372 0) [(3, a0), (0, a1)] [] h := G_eq
theorem sp373 {fz : Int → Int → Option Int} {d : Nat} {h : HV} {Q : Int → HV → Prop} {a0 a1 a2 : Int} : Sp fz d 373 [(3, a0), (0, a1), (0, a2)] h Q = X fz d 373 Q (blk 373 0) [(3, a0), (0, a1), (0, a2)] [] h := G_eq
theorem sp374 {fz : Int → Int → Option Int} {d : Nat} {h : HV} {Q : Int → HV → Prop} {a0 a1 a2 : Int} : Sp fz d 374 [(3, a0), (0, a1), (0, a2)] h Q = X fz d 374 Q (blk 374 0) [(3, a0), (0, a1), (0, a2), (9, 0), (9, 0), (9, 0), (9, 0)] [] h := G_eq
theorem sp375 {fz : Int → Int → Option Int} {d : Nat} {h : HV} {Q : Int → HV → Prop} {a0 a1 a2 a3 : Int} : Sp fz d 375 [(3, a0), (0, a1), (0, a2), (0, a3)] h Q = X fz d 375 Q (blk 375 0) [(3, a0), (0, a1), (0, a2), (0, a3)] [] h := G_eq
theorem sp376 {fz : Int → Int → Option Int} {d : Nat} {h : HV} {Q : Int → HV → Prop} {a0 a1 : Int} : Sp fz d 376 [(3, a0), (0, a1)] h Q = X fz d 376 Q (blk 376 0) [(3, a0), (0, a1)] [] h := G_eq
theorem sp377 {fz : Int → Int → Option Int} {d : Nat} {h : HV} {Q : Int → HV → Prop} {a0 a1 a2 : Int} : Sp fz d 377 [(3, a0), (0, a1), (0, a2)] h Q = X fz d 377 Q (blk 377 0) [(3, a0), (0, a1), (0, a2), (9, 0), (9, 0)] [] h := G_eq
theorem sp378 {fz : Int → Int → Option Int} {d : Nat} {h : HV} {Q : Int → HV → Prop} {a0 a1 a2 a3 a4 : Int} : Sp fz d 378 [(3, a0), (0, a1), (0, a2), (0, a3), (0, a4)] h Q = X fz d 378 Q (blk 378 0) [(3, a0), (0, a1), (0, a2), (0, a3), (0, a4), (9, 0), (9, 0)] [] h := G_eq
theorem sp379 {fz : Int → Int → Option Int} {d : Nat} {h : HV} {Q : Int → HV → Prop} {a0 a1 a2 a3 : Int} : Sp fz d 379 [(3, a0), (0, a1), (0, a2), (0, a3)] h Q = X fz d 379 Q (blk 379 0) [(3, a0), (0, a1), (0, a2), (0, a3), (9, 0)] [] h := G_eq
theorem sp380 {fz : Int → Int → Option Int} {d : Nat} {h : HV} {Q : Int → HV → Prop} {a0 a1 a2 a3 a4 a5 a6 : Int} : Sp fz d 380 [(3, a0), (0, a1), (0, a2), (0, a3), (0, a4), (0, a5), (0, a6)] h Q = X fz d 380 Q (blk 380 0) [(3, a0), (0, a1), (0, a2), (0, a3), (0, a4), (0, a5), (0, a6)] [] h := G_eq
theorem sp381 {fz : Int → Int → Option Int} {d : Nat} {h : HV} {Q : Int → HV → Prop} {a0 a1 : Int} : Sp fz d 381 [(3, a0), (0, a1)] h Q = X fz d 381 Q (blk 381 0) [(3, a0), (0, a1)] [] h := G_eq
theorem sp382 {fz : Int → Int → Option Int} {d : Nat} {h : HV} {Q : Int → HV → Prop} {a0 a1 a2 a3 a4 a5 a6 : Int} : Sp fz d 382 [(3, a0), (0, a1), (0, a2), (0, a3), (0, a4), (0, a5), (0, a6)] h Q = X fz d 382 Q (blk 382 0) [(3, a0), (0, a1), (0, a2), (0, a3), (0, a4), (0, a5), (0, a6), (9, 0), (9, 0)] [] h := G_eq
theorem sp383 {fz : Int → Int → Option Int} {d : Nat} {h : HV} {Q : Int → HV → Prop} {a0 : Int} : Sp fz d 383 [(3, a0)] h Q = X fz d 383 Q (blk 383 0) [(3, a0), (9, 0), (9, 0), (9, 0), (9, 0), (9, 0), (9, 0), (9, 0)] [] h := G_eq
theorem sp384 {fz : Int → Int → Option Int} {d : Nat} {h : HV} {Q : Int → HV → Prop} {a0 a1 : Int} : Sp fz d 384 [(3, a0), (0, a1)] h Q = X fz d 384 Q (blk 384 0) [(3, a0), (0, a1)] [] h := G_eq
theorem sp385 {fz : Int → Int → Option Int} {d : Nat} {h : HV} {Q : Int → HV → Prop} {a0 a1 : Int} : Sp fz d 385 [(3, a0), (0, a1)] h Q = X fz d 385 Q (blk 385 0) [(3, a0), (0, a1)] [] h := G_eq
theorem sp386 {fz : Int → Int → Option Int} {d : Nat} {h : HV} {Q : Int → HV → Prop} {a0 a1 : Int} : Sp fz d 386 [(3, a0), (0, a1)] h Q = X fz d 386 Q (blk 386 0) [(3, a0), (0, a1)] [] h := G_eq
theorem sp387 {fz : Int → Int → Option Int} {d : Nat} {h : HV} {Q : Int → HV → Prop} {a0 a1 : Int} : Sp fz d 387 [(3, a0), (0, a1)] h Q = X fz d 387 Q (blk 387 0) [(3, a0), (0, a1)] [] h := G_eq
theorem sp388 {fz : Int → Int → Option Int} {d : Nat} {h : HV} {Q : Int → HV → Prop} {a0 a1 a2 a3 a4 : Int} : Sp fz d 388 [(3, a0), (0, a1), (0, a2), (0, a3), (1, a4)] h Q = X fz d 388 Q (blk 388 0) [(3, a0), (0, a1), (0, a2), (0, a3), (1, a4), (9, 0), (9, 0), (9, 0), (9, 0), (9, 0)] [] h := G_eq
theorem sp389 {fz : Int → Int → Option Int} {d : Nat} {h : HV} {Q : Int → HV → Prop} {a0 a1 a2 : Int} : Sp fz d 389 [(3, a0), (0, a1), (1, a2)] h Q = X fz d 389 Q (blk 389 0) [(3, a0), (0, a1), (1, a2), (9, 0)] [] h := G_eq
theorem sp390 {fz : Int → Int → Option Int} {d : Nat} {h : HV} {Q : Int → HV → Prop} {a0 : Int} : Sp fz d 390 [(3, a0)] h Q = X fz d 390 Q (blk 390 0) [(3, a0)] [] h := G_eq
theorem sp391 {fz : Int → Int → Option Int} {d : Nat} {h : HV} {Q : Int → HV → Prop} {a0 : Int} : Sp fz d 391 [(3, a0)] h Q = X fz d 391 Q (blk 391 0) [(3, a0), (9, 0), (9, 0), (9, 0), (9, 0), (9, 0), (9, 0), (9, 0), (9, 0), (9, 0), (9, 0)] [] h := G_eq
theorem sp392 {fz : Int → Int → Option Int} {d : Nat} {h : HV} {Q : Int → HV → Prop} {a0 a1 : Int} : Sp fz d 392 [(0, a0), (0, a1)] h Q = X fz d 392 Q (blk 392 0) [(0, a0), (0, a1)] [] h := G_eq
theorem sp393 {fz : Int → Int → Option Int} {d : Nat} {h : HV} {Q : Int → HV → Prop} {a0 a1 : Int} : Sp fz d 393 [(3, a0), (0, a1)] h Q = X fz d 393 Q (blk 393 0) [(3, a0), (0, a1)] [] h := G_eq
theorem sp394 {fz : Int → Int → Option Int} {d : Nat} {h : HV} {Q : Int → HV → Prop} {a0 a1 : Int} : Sp fz d 394 [(3, a0), (1, a1)] h Q = X fz d 394 Q (blk 394 0) [(3, a0), (1, a1), (9, 0)] [] h := G_eq
theorem sp395 {fz : Int → Int → Option Int} {d : Nat} {h : HV} {Q : Int → HV → Prop} {a0 a1 a2 : Int} : Sp fz d 395 [(3, a0), (0, a1), (0, a2)] h Q = X fz d 395 Q (blk 395 0) [(3, a0), (0, a1), (0, a2), (9, 0)] [] h := G_eq
theorem sp396 {fz : Int → Int → Option Int} {d : Nat} {h : HV} {Q : Int → HV → Prop} {a0 : Int} : Sp fz d 396 [(2, a0)] h Q = X fz d 396 Q (blk 396 0) [(2, a0), (9, 0)] [] h := G_eq
theorem sp397 {fz : Int → Int → Option Int} {d : Nat} {h : HV} {Q : Int → HV → Prop} {a0 : Int} : Sp fz d 397 [(2, a0)] h Q = X fz d 397 Q (blk 397 0) [(2, a0), (9, 0)] [] h := G_eq
theorem sp398 {fz : Int → Int → Option Int} {d : Nat} {h : HV} {Q : Int → HV → Prop} {a0 : Int} : Sp fz d 398 [(2, a0)] h Q = X fz d 398 Q (blk 398 0) [(2, a0), (9, 0)] [] h := G_eq
theorem sp399 {fz : Int → Int → Option Int} {d : Nat} {h : HV} {Q : Int → HV → Prop} {a0 a1 : Int} : Sp fz d 399 [(3, a0), (0, a1)] h Q = X fz d 399 Q (blk 399 0) [(3, a0), (0, a1), (9, 0), (9, 0), (9, 0), (9, 0)] [] h := G_eq
theorem sp400 {fz : Int → Int → Option Int} {d : Nat} {h : HV} {Q : Int → HV → Prop} {a0 a1 : Int} : Sp fz d 400 [(3, a0), (0, a1)] h Q = X fz d 400 Q (blk 400 0) [(3, a0), (0, a1)] [] h := G_eq
theorem sp401 {fz : Int → Int → Option Int} {d : Nat} {h : HV} {Q : Int → HV → Prop} {a0 a1 : Int} : Sp fz d 401 [(3, a0), (0, a1)] h Q = X fz d 401 Q (blk 401 0) [(3, a0), (0, a1)] [] h := G_eq
theorem sp402 {fz : Int → Int → Option Int} {d : Nat} {h : HV} {Q : Int → HV → Prop} {a0 a1 : Int} : Sp fz d 402 [(3, a0), (0, a1)] h Q = X fz d 402 Q (blk 402 0) [(3, a0), (0, a1), (9, 0), (9, 0), (9, 0)] [] h := G_eq
theorem sp403 {fz : Int → Int → Option Int} {d : Nat} {h : HV} {Q : Int → HV → Prop} {a0 a1 : Int} : Sp fz d 403 [(3, a0), (0, a1)] h Q = X fz d 403 Q (blk 403 0) [(3, a0), (0, a1), (9, 0), (9, 0), (9, 0), (9, 0), (9, 0), (9, 0), (9, 0), (9, 0)] [] h := G_eq
theorem sp404 {fz : Int → Int → Option Int} {d : Nat} {h : HV} {Q : Int → HV → Prop} {a0 a1 a2 : Int} : Sp fz d 404 [(0, a0), (2, a1), (2, a2)] h Q = X fz d 404 Q (blk 404 0) [(0, a0), (2, a1), (9, 0), (2, a2), (9, 0), (9, 0)] [] h := G_eq
theorem sp405 {fz : Int → Int → Option Int} {d : Nat} {h : HV} {Q : Int → HV → Prop} {a0 : Int} : Sp fz d 405 [(2, a0)] h Q = X fz d 405 Q (blk 405 0) [(2, a0), (9, 0)] [] h := G_eq
theorem sp406 {fz : Int → Int → Option Int} {d : Nat} {h : HV} {Q : Int → HV → Prop} {a0 : Int} : Sp fz d 406 [(3, a0)] h Q = X fz d 406 Q (blk 406 0) [(3, a0), (9, 0), (9, 0)] [] h := G_eq
theorem sp407 {fz : Int → Int → Option Int} {d : Nat} {h : HV} {Q : Int → HV → Prop} {a0 : Int} : Sp fz d 407 [(3, a0)] h Q = X fz d 407 Q (blk 407 0) [(3, a0), (9, 0), (9, 0), (9, 0)] [] h := G_eq
theorem sp408 {fz : Int → Int → Option Int} {d : Nat} {h : HV} {Q : Int → HV → Prop} {a0 a1 a2 : Int} : Sp fz d 408 [(3, a0), (0, a1), (0, a2)] h Q = X fz d 408 Q (blk 408 0) [(3, a0), (0, a1), (0, a2), (9, 0), (9, 0), (9, 0)] [] h := G_eq
theorem sp409 {fz : Int → Int → Option Int} {d : Nat} {h : HV} {Q : Int → HV → Prop} {a0 a1 : Int} : Sp fz d 409 [(3, a0), (0, a1)] h Q = X fz d 409 Q (blk 409 0) [(3, a0), (0, a1), (9, 0), (9, 0)] [] h := G_eq
theorem sp410 {fz : Int → Int → Option Int} {d : Nat} {h : HV} {Q : Int → HV → Prop} {a0 a1 : Int} : Sp fz d 410 [(3, a0), (0, a1)] h Q = X fz d 410 Q (blk 410 0) [(3, a0), (0, a1), (9, 0), (9, 0)] [] h := G_eq
theorem sp411 {fz : Int → Int → Option Int} {d : Nat} {h : HV} {Q : Int → HV → Prop} {a0 a1 : Int} : Sp fz d 411 [(3, a0), (0, a1)] h Q = X fz d 411 Q (blk 411 0) [(3, a0), (0, a1), (9, 0)] [] h := G_eq
theorem sp412 {fz : Int → Int → Option Int} {d : Nat} {h : HV} {Q : Int → HV → Prop} {a0 : Int} : Sp fz d 412 [(3, a0)] h Q = X fz d 412 Q (blk 412 0) [(3, a0)] [] h := G_eq
theorem sp413 {fz : Int → Int → Option Int} {d : Nat} {h : HV} {Q : Int → HV → Prop} {a0 a1 a2 : Int} : Sp fz d 413 [(3, a0), (0, a1), (0, a2)] h Q = X fz d 413 Q (blk 413 0) [(3, a0), (0, a1), (0, a2), (9, 0), (9, 0), (9, 0), (9, 0), (9, 0), (9, 0), (9, 0), (9, 0), (9, 0)] [] h := G_eq
theorem sp414 {fz : Int → Int → Option Int} {d : Nat} {h : HV} {Q : Int → HV → Prop} {a0 a1 a2 : Int} : Sp fz d 414 [(3, a0), (0, a1), (0, a2)] h Q = X fz d 414 Q (blk 414 0) [(3, a0), (0, a1), (0, a2)] [] h := G_eq
theorem sp415 {fz : Int → Int → Option Int} {d : Nat} {h : HV} {Q : Int → HV → Prop} {a0 a1 : Int} : Sp fz d 415 [(3, a0), (0, a1)] h Q = X fz d 415 Q (blk 415 0) [(3, a0), (0, a1)] [] h := G_eq
theorem sp416 {fz : Int → Int → Option Int} {d : Nat} {h : HV} {Q : Int → HV → Prop} {a0 a1 : Int} : Sp fz d 416 [(3, a0), (0, a1)] h Q = X fz d 416 Q (blk 416 0) [(3, a0), (0, a1), (9, 0), (9, 0)] [] h := G_eq
theorem sp417 {fz : Int → Int → Option Int} {d : Nat} {h : HV} {Q : Int → HV → Prop} {a0 : Int} : Sp fz d 417 [(3, a0)] h Q = X fz d 417 Q (blk 417 0) [(3, a0)] [] h := G_eq
theorem sp418 {fz : Int → Int → Option Int} {d : Nat} {h : HV} {Q : Int → HV → Prop} {a0 a1 a2 a3 : Int} : Sp fz d 418 [(3, a0), (0, a1), (0, a2), (0, a3)] h Q = X fz d 418 Q (blk 418 0) [(3, a0), (0, a1), (0, a2), (0, a3)] [] h := G_eq
theorem sp419 {fz : Int → Int → Option Int} {d : Nat} {h : HV} {Q : Int → HV → Prop} {a0 a1 a2 a3 : Int} : Sp fz d 419 [(3, a0), (0, a1), (0, a2), (0, a3)] h Q = X fz d 419 Q (blk 419 0) [(3, a0), (0, a1), (0, a2), (0, a3)] [] h := G_eq
theorem sp420 {fz : Int → Int → Option Int} {d : Nat} {h : HV} {Q : Int → HV → Prop} {a0 a1 a2 a3 : Int} : Sp fz d 420 [(3, a0), (0, a1), (0, a2), (0, a3)] h Q = X fz d 420 Q (blk 420 0) [(3, a0), (0, a1), (0, a2), (0, a3), (9, 0)] [] h := G_eq
theorem sp421 {fz : Int → Int → Option Int} {d : Nat} {h : HV} {Q : Int → HV → Prop} {a0 a1 : Int} : Sp fz d 421 [(3, a0), (0, a1)] h Q = X fz d 421 Q (blk 421 0) [(3, a0), (0, a1), (9, 0), (9, 0), (9, 0), (9, 0), (9, 0), (9, 0), (9, 0), (9, 0)] [] h := G_eq
theorem sp422 {fz : Int → Int → Option Int} {d : Nat} {h : HV} {Q : Int → HV → Prop} {a0 : Int} : Sp fz d 422 [(3, a0)] h Q = X fz d 422 Q (blk 422 0) [(3, a0), (9, 0), (9, 0), (9, 0)] [] h := G_eq
theorem sp423 {fz : Int → Int → Option Int} {d : Nat} {h : HV} {Q : Int → HV → Prop} {a0 a1 a2 a3 : Int} : Sp fz d 423 [(3, a0), (0, a1), (0, a2), (0, a3)] h Q = X fz d 423 Q (blk 423 0) [(3, a0), (0, a1), (0, a2), (0, a3), (9, 0), (9, 0), (9, 0), (9, 0), (9, 0), (9, 0)] [] h := G_eq
theorem sp424 {fz : Int → Int → Option Int} {d : Nat} {h : HV} {Q : Int → HV → Prop} {a0 a1 : Int} : Sp fz d 424 [(3, a0), (0, a1)] h Q = X fz d 424 Q (blk 424 0) [(3, a0), (0, a1)] [] h := G_eq
theorem sp425 {fz : Int → Int → Option Int} {d : Nat} {h : HV} {Q : Int → HV → Prop} {a0 a1 a2 : Int} : Sp fz d 425 [(3, a0), (0, a1), (0, a2)] h Q = X fz d 425 Q (blk 425 0) [(3, a0), (0, a1), (0, a2)] [] h := G_eq
theorem sp426 {fz : Int → Int → Option Int} {d : Nat} {h : HV} {Q : Int → HV → Prop} {a0 a1 a2 : Int} : Sp fz d 426 [(3, a0), (0, a1), (0, a2)] h Q = X fz d 426 Q (blk 426 0) [(3, a0), (0, a1), (0, a2)] [] h := G_eq
theorem sp427 {fz : Int → Int → Option Int} {d : Nat} {h : HV} {Q : Int → HV → Prop} {a0 a1 a2 : Int} : Sp fz d 427 [(3, a0), (0, a1), (0, a2)] h Q = X fz d 427 Q (blk 427 0) [(3, a0), (0, a1), (0, a2), (9, 0)] [] h := G_eq
theorem sp428 {fz : Int → Int → Option Int} {d : Nat} {h : HV} {Q : Int → HV → Prop} {a0 a1 : Int} : Sp fz d 428 [(3, a0), (0, a1)] h Q = X fz d 428 Q (blk 428 0) [(3, a0), (0, a1), (9, 0), (9, 0), (9, 0), (9, 0)] [] h := G_eq
theorem sp429 {fz : Int → Int → Option Int} {d : Nat} {h : HV} {Q : Int → HV → Prop} {a0 a1 a2 : Int} : Sp fz d 429 [(3, a0), (0, a1), (0, a2)] h Q = X fz d 429 Q (blk 429 0) [(3, a0), (0, a1), (0, a2)] [] h := G_eq
theorem sp430 {fz : Int → Int → Option Int} {d : Nat} {h : HV} {Q : Int → HV → Prop} {a0 a1 : Int} : Sp fz d 430 [(3, a0), (0, a1)] h Q = X fz d 430 Q (blk 430 0) [(3, a0), (0, a1)] [] h := G_eq
theorem sp431 {fz : Int → Int → Option Int} {d : Nat} {h : HV} {Q : Int → HV → Prop} {a0 a1 : Int} : Sp fz d 431 [(3, a0), (0, a1)] h Q = X fz d 431 Q (blk 431 0) [(3, a0), (0, a1), (9, 0), (9, 0)] [] h := G_eq
theorem sp432 {fz : Int → Int → Option Int} {d : Nat} {h : HV} {Q : Int → HV → Prop} {a0 : Int} : Sp fz d 432 [(3, a0)] h Q = X fz d 432 Q (blk 432 0) [(3, a0), (9, 0), (9, 0), (9, 0), (9, 0), (9, 0)] [] h := G_eq
theorem sp433 {fz : Int → Int → Option Int} {d : Nat} {h : HV} {Q : Int → HV → Prop} {a0 a1 : Int} : Sp fz d 433 [(3, a0), (0, a1)] h Q = X fz d 433 Q (blk 433 0) [(3, a0), (0, a1), (9, 0), (9, 0)] [] h := G_eq
theorem sp434 {fz : Int → Int → Option Int} {d : Nat} {h : HV} {Q : Int → HV → Prop} {a0 a1 a2 a3 : Int} : Sp fz d 434 [(3, a0), (0, a1), (0, a2), (0, a3)] h Q = X fz d 434 Q (blk 434 0) [(3, a0), (0, a1), (0, a2), (0, a3), (9, 0), (9, 0)] [] h := G_eq
theorem sp435 {fz : Int → Int → Option Int} {d : Nat} {h : HV} {Q : Int → HV → Prop} {a0 : Int} : Sp fz d 435 [(3, a0)] h Q = X fz d 435 Q (blk 435 0) [(3, a0), (9, 0), (9, 0), (9, 0), (9, 0)] [] h := G_eq
theorem sp436 {fz : Int → Int → Option Int} {d : Nat} {h : HV} {Q : Int → HV → Prop} {a0 a1 : Int} : Sp fz d 436 [(3, a0), (0, a1)] h Q = X fz d 436 Q (blk 436 0) [(3, a0), (0, a1), (9, 0), (9, 0)] [] h := G_eq
theorem sp437 {fz : Int → Int → Option Int} {d : Nat} {h : HV} {Q : Int → HV → Prop} {a0 a1 : Int} : Sp fz d 437 [(3, a0), (0, a1)] h Q = X fz d 437 Q (blk 437 0) [(3, a0), (0, a1)] [] h := G_eq
theorem sp438 {fz : Int → Int → Option Int} {d : Nat} {h : HV} {Q : Int → HV → Prop} {a0 : Int} : Sp fz d 438 [(3, a0)] h Q = X fz d 438 Q (blk 438 0) [(3, a0), (9, 0), (9, 0), (9, 0), (9, 0), (9, 0), (9, 0)] [] h := G_eq
theorem sp439 {fz : Int → Int → Option Int} {d : Nat} {h : HV} {Q : Int → HV → Prop} {a0 a1 a2 a3 : Int} : Sp fz d 439 [(3, a0), (0, a1), (0, a2), (0, a3)] h Q = X fz d 439 Q (blk 439 0) [(3, a0), (0, a1), (0, a2), (0, a3)] [] h := G_eq
theorem sp440 {fz : Int → Int → Option Int} {d : Nat} {h : HV} {Q : Int → HV → Prop} {a0 a1 : Int} : Sp fz d 440 [(3, a0), (0, a1)] h Q = X fz d 440 Q (blk 440 0) [(3, a0), (0, a1), (9, 0), (9, 0), (9, 0), (9, 0), (9, 0), (9, 0), (9, 0)] [] h := G_eq
theorem sp441 {fz : Int → Int → Option Int} {d : Nat} {h : HV} {Q : Int → HV → Prop} {a0 a1 : Int} : Sp fz d 441 [(3, a0), (0, a1)] h Q = X fz d 441 Q (blk 441 0) [(3, a0), (0, a1), (9, 0), (9, 0), (9, 0), (9, 0)] [] h := G_eq
theorem sp442 {fz : Int → Int → Option Int} {d : Nat} {h : HV} {Q : Int → HV → Prop} {a0 a1 a2 : Int} : Sp fz d 442 [(3, a0), (0, a1), (0, a2)] h Q = X fz d 442 Q (blk 442 0) [(3, a0), (0, a1), (0, a2)] [] h := G_eq
theorem sp443 {fz : Int → Int → Option Int} {d : Nat} {h : HV} {Q : Int → HV → Prop} {a0 a1 : Int} : Sp fz d 443 [(3, a0), (0, a1)] h Q = X fz d 443 Q (blk 443 0) [(3, a0), (0, a1)] [] h := G_eq
theorem sp444 {fz : Int → Int → Option Int} {d : Nat} {h : HV} {Q : Int → HV → Prop} {a0 a1 : Int} : Sp fz d 444 [(3, a0), (0, a1)] h Q = X fz d 444 Q (blk 444 0) [(3, a0), (0, a1)] [] h := G_eq
theorem q0_1 {fz : Int → Int → Option Int} {d : Nat} {ls st : List AV} {h : HV} {Q : Int → HV → Prop} : G fz d 0 1 ls st h Q = X fz d 0 Q (blk 0 1) ls st h := G_eq
theorem q0_2 {fz : Int → Int → Option Int} {d : Nat} {ls st : List AV} {h : HV} {Q : Int → HV → Prop} : G fz d 0 2 ls st h Q = X fz d 0 Q (blk 0 2) ls st h := G_eq
theorem q0_3 {fz : Int → Int → Option Int} {d : Nat} {ls st : List AV} {h : HV} {Q : Int → HV → Prop} : G fz d 0 3 ls st h Q = X fz d 0 Q (blk 0 3) ls st h := G_eq
theorem q0_4 {fz : Int → Int → Option Int} {d : Nat} {ls st : List AV} {h : HV} {Q : Int → HV → Prop} : G fz d 0 4 ls st h Q = X fz d 0 Q (blk 0 4) ls st h := G_eq
theorem q0_5 {fz : Int → Int → Option Int} {d : Nat} {ls st : List AV} {h : HV} {Q : Int → HV → Prop} : G fz d 0 5 ls st h Q = X fz d 0 Q (blk 0 5) ls st h := G_eq
theorem q0_6 {fz : Int → Int → Option Int} {d : Nat} {ls st : List AV} {h : HV} {Q : Int → HV → Prop} : G fz d 0 6 ls st h Q = X fz d 0 Q (blk 0 6) ls st h := G_eq
theorem q0_7 {fz : Int → Int → Option Int} {d : Nat} {ls st : List AV} {h : HV} {Q : Int → HV → Prop} : G fz d 0 7 ls st h Q = X fz d 0 Q (blk 0 7) ls st h := G_eq
theorem q0_8 {fz : Int → Int → Option Int} {d : Nat} {ls st : List AV} {h : HV} {Q : Int → HV → Prop} : G fz d 0 8 ls st h Q = X fz d 0 Q (blk 0 8) ls st h := G_eq
theorem q0_9 {fz : Int → Int → Option Int} {d : Nat} {ls st : List AV} {h : HV} {Q : Int → HV → Prop} : G fz d 0 9 ls st h Q = X fz d 0 Q (blk 0 9) ls st h := G_eq
theorem q0_10 {fz : Int → Int → Option Int} {d : Nat} {ls st : List AV} {h : HV} {Q : Int → HV → Prop} : G fz d 0 10 ls st h Q = X fz d 0 Q (blk 0 10) ls st h := G_eq
theorem q0_11 {fz : Int → Int → Option Int} {d : Nat} {ls st : List AV} {h : HV} {Q : Int → HV → Prop} : G fz d 0 11 ls st h Q = X fz d 0 Q (blk 0 11) ls st h := G_eq
theorem q0_12 {fz : Int → Int → Option Int} {d : Nat} {ls st : List AV} {h : HV} {Q : Int → HV → Prop} : G fz d 0 12 ls st h Q = X fz d 0 Q (blk 0 12) ls st h := G_eq
theorem q0_13 {fz : Int → Int → Option Int} {d : Nat} {ls st : List AV} {h : HV} {Q : Int → HV → Prop} : G fz d 0 13 ls st h Q = X fz d 0 Q (blk 0 13) ls st h := G_eq
theorem q0_14 {fz : Int → Int → Option Int} {d : Nat} {ls st : List AV} {h : HV} {Q : Int → HV → Prop} : G fz d 0 14 ls st h Q = X fz d 0 Q (blk 0 14) ls st h := G_eq
theorem q0_15 {fz : Int → Int → Option Int} {d : Nat} {ls st : List AV} {h : HV} {Q : Int → HV → Prop} : G fz d 0 15 ls st h Q = X fz d 0 Q (blk 0 15) ls st h := G_eq
theorem q0_16 {fz : Int → Int → Option Int} {d : Nat} {ls st : List AV} {h : HV} {Q : Int → HV → Prop} : G fz d 0 16 ls st h Q = X fz d 0 Q (blk 0 16) ls st h := G_eq
theorem q0_17 {fz : Int → Int → Option Int} {d : Nat} {ls st : List AV} {h : HV} {Q : Int → HV → Prop} : G fz d 0 17 ls st h Q = X fz d 0 Q (blk 0 17) ls st h := G_eq
theorem q0_18 {fz : Int → Int → Option Int} {d : Nat} {ls st : List AV} {h : HV} {Q : Int → HV → Prop} : G fz d 0 18 ls st h Q = X fz d 0 Q (blk 0 18) ls st h := G_eq
theorem q0_19 {fz : Int → Int → Option Int} {d : Nat} {ls st : List AV} {h : HV} {Q : Int → HV → Prop} : G fz d 0 19 ls st h Q = X fz d 0 Q (blk 0 19) ls st h := G_eq
theorem q0_20 {fz : Int → Int → Option Int} {d : Nat} {ls st : List AV} {h : HV} {Q : Int → HV → Prop} : G fz d 0 20 ls st h Q = X fz d 0 Q (blk 0 20) ls st h := G_eq
theorem q0_21 {fz : Int → Int → Option Int} {d : Nat} {ls st : List AV} {h : HV} {Q : Int → HV → Prop} : G fz d 0 21 ls st h Q = X fz d 0 Q (blk 0 21) ls st h := G_eq
theorem q0_22 {fz : Int → Int → Option Int} {d : Nat} {ls st : List AV} {h : HV} {Q : Int → HV → Prop} : G fz d 0 22 ls st h Q = X fz d 0 Q (blk 0 22) ls st h := G_eq
theorem q0_23 {fz : Int → Int → Option Int} {d : Nat} {ls st : List AV} {h : HV} {Q : Int → HV → Prop} : G fz d 0 23 ls st h Q = X fz d 0 Q (blk 0 23) ls st h := G_eq
theorem q0_24 {fz : Int → Int → Option Int} {d : Nat} {ls st : List AV} {h : HV} {Q : Int → HV → Prop} : G fz d 0 24 ls st h Q = X fz d 0 Q (blk 0 24) ls st h := G_eq
theorem q0_25 {fz : Int → Int → Option Int} {d : Nat} {ls st : List AV} {h : HV} {Q : Int → HV → Prop} : G fz d 0 25 ls st h Q = X fz d 0 Q (blk 0 25) ls st h := G_eq
theorem q0_26 {fz : Int → Int → Option Int} {d : Nat} {ls st : List AV} {h : HV} {Q : Int → HV → Prop} : G fz d 0 26 ls st h Q = X fz d 0 Q (blk 0 26) ls st h := G_eq
theorem q0_27 {fz : Int → Int → Option Int} {d : Nat} {ls st : List AV} {h : HV} {Q : Int → HV → Prop} : G fz d 0 27 ls st h Q = X fz d 0 Q (blk 0 27) ls st h := G_eq
theorem q0_28 {fz : Int → Int → Option Int} {d : Nat} {ls st : List AV} {h : HV} {Q : Int → HV → Prop} : G fz d 0 28 ls st h Q = X fz d 0 Q (blk 0 28) ls st h := G_eq
theorem q0_29 {fz : Int → Int → Option Int} {d : Nat} {ls st : List AV} {h : HV} {Q : Int → HV → Prop} : G fz d 0 29 ls st h Q = X fz d 0 Q (blk 0 29) ls st h := G_eq
theorem q0_30 {fz : Int → Int → Option Int} {d : Nat} {ls st : List AV} {h : HV} {Q : Int → HV → Prop} : G fz d 0 30 ls st h Q = X fz d 0 Q (blk 0 30) ls st h := G_eq
theorem q0_31 {fz : Int → Int → Option Int} {d : Nat} {ls st : List AV} {h : HV} {Q : Int → HV → Prop} : G fz d 0 31 ls st h Q = X fz d 0 Q (blk 0 31) ls st h := G_eq
theorem q0_32 {fz : Int → Int → Option Int} {d : Nat} {ls st : List AV} {h : HV} {Q : Int → HV → Prop} : G fz d 0 32 ls st h Q = X fz d 0 Q (blk 0 32) ls st h := G_eq
theorem q0_33 {fz : Int → Int → Option Int} {d : Nat} {ls st : List AV} {h : HV} {Q : Int → HV → Prop} : G fz d 0 33 ls st h Q = X fz d 0 Q (blk 0 33) ls st h := G_eq
theorem q14_1 {fz : Int → Int → Option Int} {d : Nat} {ls st : List AV} {h : HV} {Q : Int → HV → Prop} : G fz d 14 1 ls st h Q = X fz d 14 Q (blk 14 1) ls st h := G_eq
theorem q14_2 {fz : Int → Int → Option Int} {d : Nat} {ls st : List AV} {h : HV} {Q : Int → HV → Prop} : G fz d 14 2 ls st h Q = X fz d 14 Q (blk 14 2) ls st h := G_eq
theorem q21_1 {fz : Int → Int → Option Int} {d : Nat} {ls st : List AV} {h : HV} {Q : Int → HV → Prop} : G fz d 21 1 ls st h Q = X fz d 21 Q (blk 21 1) ls st h := G_eq
theorem q21_2 {fz : Int → Int → Option Int} {d : Nat} {ls st : List AV} {h : HV} {Q : Int → HV → Prop} : G fz d 21 2 ls st h Q = X fz d 21 Q (blk 21 2) ls st h := G_eq
theorem q21_3 {fz : Int → Int → Option Int} {d : Nat} {ls st : List AV} {h : HV} {Q : Int → HV → Prop} : G fz d 21 3 ls st h Q = X fz d 21 Q (blk 21 3) ls st h := G_eq
theorem q21_4 {fz : Int → Int → Option Int} {d : Nat} {ls st : List AV} {h : HV} {Q : Int → HV → Prop} : G fz d 21 4 ls st h Q = X fz d 21 Q (blk 21 4) ls st h := G_eq
theorem q22_1 {fz : Int → Int → Option Int} {d : Nat} {ls st : List AV} {h : HV} {Q : Int → HV → Prop} : G fz d 22 1 ls st h Q = X fz d 22 Q (blk 22 1) ls st h := G_eq
theorem q22_2 {fz : Int → Int → Option Int} {d : Nat} {ls st : List AV} {h : HV} {Q : Int → HV → Prop} : G fz d 22 2 ls st h Q = X fz d 22 Q (blk 22 2) ls st h := G_eq
theorem q22_3 {fz : Int → Int → Option Int} {d : Nat} {ls st : List AV} {h : HV} {Q : Int → HV → Prop} : G fz d 22 3 ls st h Q = X fz d 22 Q (blk 22 3) ls st h := G_eq
theorem q22_4 {fz : Int → Int → Option Int} {d : Nat} {ls st : List AV} {h : HV} {Q : Int → HV → Prop} : G fz d 22 4 ls st h Q = X fz d 22 Q (blk 22 4) ls st h := G_eq
theorem q24_1 {fz : Int → Int → Option Int} {d : Nat} {ls st : List AV} {h : HV} {Q : Int → HV → Prop} : G fz d 24 1 ls st h Q = X fz d 24 Q (blk 24 1) ls st h := G_eq
theorem q25_1 {fz : Int → Int → Option Int} {d : Nat} {ls st : List AV} {h : HV} {Q : Int → HV → Prop} : G fz d 25 1 ls st h Q = X fz d 25 Q (blk 25 1) ls st h := G_eq
theorem q25_2 {fz : Int → Int → Option Int} {d : Nat} {ls st : List AV} {h : HV} {Q : Int → HV → Prop} : G fz d 25 2 ls st h Q = X fz d 25 Q (blk 25 2) ls st h := G_eq
theorem q25_3 {fz : Int → Int → Option Int} {d : Nat} {ls st : List AV} {h : HV} {Q : Int → HV → Prop} : G fz d 25 3 ls st h Q = X fz d 25 Q (blk 25 3) ls st h := G_eq
theorem q25_4 {fz : Int → Int → Option Int} {d : Nat} {ls st : List AV} {h : HV} {Q : Int → HV → Prop} : G fz d 25 4 ls st h Q = X fz d 25 Q (blk 25 4) ls st h := G_eq
theorem q25_5 {fz : Int → Int → Option Int} {d : Nat} {ls st : List AV} {h : HV} {Q : Int → HV → Prop} : G fz d 25 5 ls st h Q = X fz d 25 Q (blk 25 5) ls st h := G_eq
theorem q25_6 {fz : Int → Int → Option Int} {d : Nat} {ls st : List AV} {h : HV} {Q : Int → HV → Prop} : G fz d 25 6 ls st h Q = X fz d 25 Q (blk 25 6) ls st h := G_eq
theorem q25_7 {fz : Int → Int → Option Int} {d : Nat} {ls st : List AV} {h : HV} {Q : Int → HV → Prop} : G fz d 25 7 ls st h Q = X fz d 25 Q (blk 25 7) ls st h := G_eq
theorem q25_8 {fz : Int → Int → Option Int} {d : Nat} {ls st : List AV} {h : HV} {Q : Int → HV → Prop} : G fz d 25 8 ls st h Q = X fz d 25 Q (blk 25 8) ls st h := G_eq
theorem q25_9 {fz : Int → Int → Option Int} {d : Nat} {ls st : List AV} {h : HV} {Q : Int → HV → Prop} : G fz d 25 9 ls st h Q = X fz d 25 Q (blk 25 9) ls st h := G_eq
theorem q25_10 {fz : Int → Int → Option Int} {d : Nat} {ls st : List AV} {h : HV} {Q : Int → HV → Prop} : G fz d 25 10 ls st h Q = X fz d 25 Q (blk 25 10) ls st h := G_eq
theorem q25_11 {fz : Int → Int → Option Int} {d : Nat} {ls st : List AV} {h : HV} {Q : Int → HV → Prop} : G fz d 25 11 ls st h Q = X fz d 25 Q (blk 25 11) ls st h := G_eq
theorem q25_12 {fz : Int → Int → Option Int} {d : Nat} {ls st : List AV} {h : HV} {Q : Int → HV → Prop} : G fz d 25 12 ls st h Q = X fz d 25 Q (blk 25 12) ls st h := G_eq
theorem q25_13 {fz : Int → Int → Option Int} {d : Nat} {ls st : List AV} {h : HV} {Q : Int → HV → Prop} : G fz d 25 13 ls st h Q = X fz d 25 Q (blk 25 13) ls st h := G_eq
theorem q25_14 {fz : Int → Int → Option Int} {d : Nat} {ls st : List AV} {h : HV} {Q : Int → HV → Prop} : G fz d 25 14 ls st h Q = X fz d 25 Q (blk 25 14) ls st h := G_eq
theorem q28_1 {fz : Int → Int → Option Int} {d : Nat} {ls st : List AV} {h : HV} {Q : Int → HV → Prop} : G fz d 28 1 ls st h Q = X fz d 28 Q (blk 28 1) ls st h := G_eq
theorem q28_2 {fz : Int → Int → Option Int} {d : Nat} {ls st : List AV} {h : HV} {Q : Int → HV → Prop} : G fz d 28 2 ls st h Q = X fz d 28 Q (blk 28 2) ls st h := G_eq
theorem q28_3 {fz : Int → Int → Option Int} {d : Nat} {ls st : List AV} {h : HV} {Q : Int → HV → Prop} : G fz d 28 3 ls st h Q = X fz d 28 Q (blk 28 3) ls st h := G_eq
theorem q28_4 {fz : Int → Int → Option Int} {d : Nat} {ls st : List AV} {h : HV} {Q : Int → HV → Prop} : G fz d 28 4 ls st h Q = X fz d 28 Q (blk 28 4) ls st h := G_eq
theorem q28_5 {fz : Int → Int → Option Int} {d : Nat} {ls st : List AV} {h : HV} {Q : Int → HV → Prop} : G fz d 28 5 ls st h Q = X fz d 28 Q (blk 28 5) ls st h := G_eq
theorem q28_6 {fz : Int → Int → Option Int} {d : Nat} {ls st : List AV} {h : HV} {Q : Int → HV → Prop} : G fz d 28 6 ls st h Q = X fz d 28 Q (blk 28 6) ls st h := G_eq
theorem q28_7 {fz : Int → Int → Option Int} {d : Nat} {ls st : List AV} {h : HV} {Q : Int → HV → Prop} : G fz d 28 7 ls st h Q = X fz d 28 Q (blk 28 7) ls st h := G_eq
theorem q28_8 {fz : Int → Int → Option Int} {d : Nat} {ls st : List AV} {h : HV} {Q : Int → HV → Prop} : G fz d 28 8 ls st h Q = X fz d 28 Q (blk 28 8) ls st h := G_eq
theorem q28_9 {fz : Int → Int → Option Int} {d : Nat} {ls st : List AV} {h : HV} {Q : Int → HV → Prop} : G fz d 28 9 ls st h Q = X fz d 28 Q (blk 28 9) ls st h := G_eq
theorem q28_10 {fz : Int → Int → Option Int} {d : Nat} {ls st : List AV} {h : HV} {Q : Int → HV → Prop} : G fz d 28 10 ls st h Q = X fz d 28 Q (blk 28 10) ls st h := G_eq
theorem q28_11 {fz : Int → Int → Option Int} {d : Nat} {ls st : List AV} {h : HV} {Q : Int → HV → Prop} : G fz d 28 11 ls st h Q = X fz d 28 Q (blk 28 11) ls st h := G_eq
theorem q29_1 {fz : Int → Int → Option Int} {d : Nat} {ls st : List AV} {h : HV} {Q : Int → HV → Prop} : G fz d 29 1 ls st h Q = X fz d 29 Q (blk 29 1) ls st h := G_eq
theorem q29_2 {fz : Int → Int → Option Int} {d : Nat} {ls st : List AV} {h : HV} {Q : Int → HV → Prop} : G fz d 29 2 ls st h Q = X fz d 29 Q (blk 29 2) ls st h := G_eq
theorem q30_1 {fz : Int → Int → Option Int} {d : Nat} {ls st : List AV} {h : HV} {Q : Int → HV → Prop} : G fz d 30 1 ls st h Q = X fz d 30 Q (blk 30 1) ls st h := G_eq
theorem q30_2 {fz : Int → Int → Option Int} {d : Nat} {ls st : List AV} {h : HV} {Q : Int → HV → Prop} : G fz d 30 2 ls st h Q = X fz d 30 Q (blk 30 2) ls st h := G_eq
theorem q30_3 {fz : Int → Int → Option Int} {d : Nat} {ls st : List AV} {h : HV} {Q : Int → HV → Prop} : G fz d 30 3 ls st h Q = X fz d 30 Q (blk 30 3) ls st h := G_eq
theorem q30_4 {fz : Int → Int → Option Int} {d : Nat} {ls st : List AV} {h : HV} {Q : Int → HV → Prop} : G fz d 30 4 ls st h Q = X fz d 30 Q (blk 30 4) ls st h := G_eq
theorem q30_5 {fz : Int → Int → Option Int} {d : Nat} {ls st : List AV} {h : HV} {Q : Int → HV → Prop} : G fz d 30 5 ls st h Q = X fz d 30 Q (blk 30 5) ls st h := G_eq
theorem q31_1 {fz : Int → Int → Option Int} {d : Nat} {ls st : List AV} {h : HV} {Q : Int → HV → Prop} : G fz d 31 1 ls st h Q = X fz d 31 Q (blk 31 1) ls st h := G_eq
theorem q31_2 {fz : Int → Int → Option Int} {d : Nat} {ls st : List AV} {h : HV} {Q : Int → HV → Prop} : G fz d 31 2 ls st h Q = X fz d 31 Q (blk 31 2) ls st h := G_eq
theorem q32_1 {fz : Int → Int → Option Int} {d : Nat} {ls st : List AV} {h : HV} {Q : Int → HV → Prop} : G fz d 32 1 ls st h Q = X fz d 32 Q (blk 32 1) ls st h := G_eq
theorem q32_2 {fz : Int → Int → Option Int} {d : Nat} {ls st : List AV} {h : HV} {Q : Int → HV → Prop} : G fz d 32 2 ls st h Q = X fz d 32 Q (blk 32 2) ls st h := G_eq
theorem q32_3 {fz : Int → Int → Option Int} {d : Nat} {ls st : List AV} {h : HV} {Q : Int → HV → Prop} : G fz d 32 3 ls st h Q = X fz d 32 Q (blk 32 3) ls st h := G_eq
theorem q32_4 {fz : Int → Int → Option Int} {d : Nat} {ls st : List AV} {h : HV} {Q : Int → HV → Prop} : G fz d 32 4 ls st h Q = X fz d 32 Q (blk 32 4) ls st h := G_eq
theorem q32_5 {fz : Int → Int → Option Int} {d : Nat} {ls st : List AV} {h : HV} {Q : Int → HV → Prop} : G fz d 32 5 ls st h Q = X fz d 32 Q (blk 32 5) ls st h := G_eq
theorem q32_6 {fz : Int → Int → Option Int} {d : Nat} {ls st : List AV} {h : HV} {Q : Int → HV → Prop} : G fz d 32 6 ls st h Q = X fz d 32 Q (blk 32 6) ls st h := G_eq
theorem q32_7 {fz : Int → Int → Option Int} {d : Nat} {ls st : List AV} {h : HV} {Q : Int → HV → Prop} : G fz d 32 7 ls st h Q = X fz d 32 Q (blk 32 7) ls st h := G_eq
theorem q32_8 {fz : Int → Int → Option Int} {d : Nat} {ls st : List AV} {h : HV} {Q : Int → HV → Prop} : G fz d 32 8 ls st h Q = X fz d 32 Q (blk 32 8) ls st h := G_eq
theorem q32_9 {fz : Int → Int → Option Int} {d : Nat} {ls st : List AV} {h : HV} {Q : Int → HV → Prop} : G fz d 32 9 ls st h Q = X fz d 32 Q (blk 32 9) ls st h := G_eq
theorem q32_10 {fz : Int → Int → Option Int} {d : Nat} {ls st : List AV} {h : HV} {Q : Int → HV → Prop} : G fz d 32 10 ls st h Q = X fz d 32 Q (blk 32 10) ls st h := G_eq
theorem q34_1 {fz : Int → Int → Option Int} {d : Nat} {ls st : List AV} {h : HV} {Q : Int → HV → Prop} : G fz d 34 1 ls st h Q = X fz d 34 Q (blk 34 1) ls st h := G_eq
theorem q34_2 {fz : Int → Int → Option Int} {d : Nat} {ls st : List AV} {h : HV} {Q : Int → HV → Prop} : G fz d 34 2 ls st h Q = X fz d 34 Q (blk 34 2) ls st h := G_eq
theorem q35_1 {fz : Int → Int → Option Int} {d : Nat} {ls st : List AV} {h : HV} {Q : Int → HV → Prop} : G fz d 35 1 ls st h Q = X fz d 35 Q (blk 35 1) ls st h := G_eq
theorem q35_2 {fz : Int → Int → Option Int} {d : Nat} {ls st : List AV} {h : HV} {Q : Int → HV → Prop} : G fz d 35 2 ls st h Q = X fz d 35 Q (blk 35 2) ls st h := G_eq
theorem q37_1 {fz : Int → Int → Option Int} {d : Nat} {ls st : List AV} {h : HV} {Q : Int → HV → Prop} : G fz d 37 1 ls st h Q = X fz d 37 Q (blk 37 1) ls st h := G_eq
theorem q37_2 {fz : Int → Int → Option Int} {d : Nat} {ls st : List AV} {h : HV} {Q : Int → HV → Prop} : G fz d 37 2 ls st h Q = X fz d 37 Q (blk 37 2) ls st h := G_eq
theorem q38_1 {fz : Int → Int → Option Int} {d : Nat} {ls st : List AV} {h : HV} {Q : Int → HV → Prop} : G fz d 38 1 ls st h Q = X fz d 38 Q (blk 38 1) ls st h := G_eq
theorem q38_2 {fz : Int → Int → Option Int} {d : Nat} {ls st : List AV} {h : HV} {Q : Int → HV → Prop} : G fz d 38 2 ls st h Q = X fz d 38 Q (blk 38 2) ls st h := G_eq
theorem q39_1 {fz : Int → Int → Option Int} {d : Nat} {ls st : List AV} {h : HV} {Q : Int → HV → Prop} : G fz d 39 1 ls st h Q = X fz d 39 Q (blk 39 1) ls st h := G_eq
theorem q39_2 {fz : Int → Int → Option Int} {d : Nat} {ls st : List AV} {h : HV} {Q : Int → HV → Prop} : G fz d 39 2 ls st h Q = X fz d 39 Q (blk 39 2) ls st h := G_eq
theorem q40_1 {fz : Int → Int → Option Int} {d : Nat} {ls st : List AV} {h : HV} {Q : Int → HV → Prop} : G fz d 40 1 ls st h Q = X fz d 40 Q (blk 40 1) ls st h := G_eq
theorem q40_2 {fz : Int → Int → Option Int} {d : Nat} {ls st : List AV} {h : HV} {Q : Int → HV → Prop} : G fz d 40 2 ls st h Q = X fz d 40 Q (blk 40 2) ls st h := G_eq
theorem q40_3 {fz : Int → Int → Option Int} {d : Nat} {ls st : List AV} {h : HV} {Q : Int → HV → Prop} : G fz d 40 3 ls st h Q = X fz d 40 Q (blk 40 3) ls st h := G_eq
theorem q41_1 {fz : Int → Int → Option Int} {d : Nat} {ls st : List AV} {h : HV} {Q : Int → HV → Prop} : G fz d 41 1 ls st h Q = X fz d 41 Q (blk 41 1) ls st h := G_eq
theorem q41_2 {fz : Int → Int → Option Int} {d : Nat} {ls st : List AV} {h : HV} {Q : Int → HV → Prop} : G fz d 41 2 ls st h Q = X fz d 41 Q (blk 41 2) ls st h := G_eq
theorem q45_1 {fz : Int → Int → Option Int} {d : Nat} {ls st : List AV} {h : HV} {Q : Int → HV → Prop} : G fz d 45 1 ls st h Q = X fz d 45 Q (blk 45 1) ls st h := G_eq
theorem q45_2 {fz : Int → Int → Option Int} {d : Nat} {ls st : List AV} {h : HV} {Q : Int → HV → Prop} : G fz d 45 2 ls st h Q = X fz d 45 Q (blk 45 2) ls st h := G_eq
theorem q45_3 {fz : Int → Int → Option Int} {d : Nat} {ls st : List AV} {h : HV} {Q : Int → HV → Prop} : G fz d 45 3 ls st h Q = X fz d 45 Q (blk 45 3) ls st h := G_eq
theorem q45_4 {fz : Int → Int → Option Int} {d : Nat} {ls st : List AV} {h : HV} {Q : Int → HV → Prop} : G fz d 45 4 ls st h Q = X fz d 45 Q (blk 45 4) ls st h := G_eq
theorem q45_5 {fz : Int → Int → Option Int} {d : Nat} {ls st : List AV} {h : HV} {Q : Int → HV → Prop} : G fz d 45 5 ls st h Q = X fz d 45 Q (blk 45 5) ls st h := G_eq
theorem q45_6 {fz : Int → Int → Option Int} {d : Nat} {ls st : List AV} {h : HV} {Q : Int → HV → Prop} : G fz d 45 6 ls st h Q = X fz d 45 Q (blk 45 6) ls st h := G_eq
theorem q45_7 {fz : Int → Int → Option Int} {d : Nat} {ls st : List AV} {h : HV} {Q : Int → HV → Prop} : G fz d 45 7 ls st h Q = X fz d 45 Q (blk 45 7) ls st h := G_eq
theorem q45_8 {fz : Int → Int → Option Int} {d : Nat} {ls st : List AV} {h : HV} {Q : Int → HV → Prop} : G fz d 45 8 ls st h Q = X fz d 45 Q (blk 45 8) ls st h := G_eq
theorem q46_1 {fz : Int → Int → Option Int} {d : Nat} {ls st : List AV} {h : HV} {Q : Int → HV → Prop} : G fz d 46 1 ls st h Q = X fz d 46 Q (blk 46 1) ls st h := G_eq
theorem q49_1 {fz : Int → Int → Option Int} {d : Nat} {ls st : List AV} {h : HV} {Q : Int → HV → Prop} : G fz d 49 1 ls st h Q = X fz d 49 Q (blk 49 1) ls st h := G_eq
theorem q49_2 {fz : Int → Int → Option Int} {d : Nat} {ls st : List AV} {h : HV} {Q : Int → HV → Prop} : G fz d 49 2 ls st h Q = X fz d 49 Q (blk 49 2) ls st h := G_eq
theorem q51_1 {fz : Int → Int → Option Int} {d : Nat} {ls st : List AV} {h : HV} {Q : Int → HV → Prop} : G fz d 51 1 ls st h Q = X fz d 51 Q (blk 51 1) ls st h := G_eq
theorem q51_2 {fz : Int → Int → Option Int} {d : Nat} {ls st : List AV} {h : HV} {Q : Int → HV → Prop} : G fz d 51 2 ls st h Q = X fz d 51 Q (blk 51 2) ls st h := G_eq
theorem q51_3 {fz : Int → Int → Option Int} {d : Nat} {ls st : List AV} {h : HV} {Q : Int → HV → Prop} : G fz d 51 3 ls st h Q = X fz d 51 Q (blk 51 3) ls st h := G_eq
theorem q51_4 {fz : Int → Int → Option Int} {d : Nat} {ls st : List AV} {h : HV} {Q : Int → HV → Prop} : G fz d 51 4 ls st h Q = X fz d 51 Q (blk 51 4) ls st h := G_eq
theorem q52_1 {fz : Int → Int → Option Int} {d : Nat} {ls st : List AV} {h : HV} {Q : Int → HV → Prop} : G fz d 52 1 ls st h Q = X fz d 52 Q (blk 52 1) ls st h := G_eq
theorem q52_2 {fz : Int → Int → Option Int} {d : Nat} {ls st : List AV} {h : HV} {Q : Int → HV → Prop} : G fz d 52 2 ls st h Q = X fz d 52 Q (blk 52 2) ls st h := G_eq
theorem q54_1 {fz : Int → Int → Option Int} {d : Nat} {ls st : List AV} {h : HV} {Q : Int → HV → Prop} : G fz d 54 1 ls st h Q = X fz d 54 Q (blk 54 1) ls st h := G_eq
theorem q54_2 {fz : Int → Int → Option Int} {d : Nat} {ls st : List AV} {h : HV} {Q : Int → HV → Prop} : G fz d 54 2 ls st h Q = X fz d 54 Q (blk 54 2) ls st h := G_eq
theorem q55_1 {fz : Int → Int → Option Int} {d : Nat} {ls st : List AV} {h : HV} {Q : Int → HV → Prop} : G fz d 55 1 ls st h Q = X fz d 55 Q (blk 55 1) ls st h := G_eq
theorem q55_2 {fz : Int → Int → Option Int} {d : Nat} {ls st : List AV} {h : HV} {Q : Int → HV → Prop} : G fz d 55 2 ls st h Q = X fz d 55 Q (blk 55 2) ls st h := G_eq
theorem q56_1 {fz : Int → Int → Option Int} {d : Nat} {ls st : List AV} {h : HV} {Q : Int → HV → Prop} : G fz d 56 1 ls st h Q = X fz d 56 Q (blk 56 1) ls st h := G_eq
theorem q56_2 {fz : Int → Int → Option Int} {d : Nat} {ls st : List AV} {h : HV} {Q : Int → HV → Prop} : G fz d 56 2 ls st h Q = X fz d 56 Q (blk 56 2) ls st h := G_eq
theorem q56_3 {fz : Int → Int → Option Int} {d : Nat} {ls st : List AV} {h : HV} {Q : Int → HV → Prop} : G fz d 56 3 ls st h Q = X fz d 56 Q (blk 56 3) ls st h := G_eq
theorem q56_4 {fz : Int → Int → Option Int} {d : Nat} {ls st : List AV} {h : HV} {Q : Int → HV → Prop} : G fz d 56 4 ls st h Q = X fz d 56 Q (blk 56 4) ls st h := G_eq
theorem q56_5 {fz : Int → Int → Option Int} {d : Nat} {ls st : List AV} {h : HV} {Q : Int → HV → Prop} : G fz d 56 5 ls st h Q = X fz d 56 Q (blk 56 5) ls st h := G_eq
theorem q56_6 {fz : Int → Int → Option Int} {d : Nat} {ls st : List AV} {h : HV} {Q : Int → HV → Prop} : G fz d 56 6 ls st h Q = X fz d 56 Q (blk 56 6) ls st h := G_eq
theorem q56_7 {fz : Int → Int → Option Int} {d : Nat} {ls st : List AV} {h : HV} {Q : Int → HV → Prop} : G fz d 56 7 ls st h Q = X fz d 56 Q (blk 56 7) ls st h := G_eq
theorem q56_8 {fz : Int → Int → Option Int} {d : Nat} {ls st : List AV} {h : HV} {Q : Int → HV → Prop} : G fz d 56 8 ls st h Q = X fz d 56 Q (blk 56 8) ls st h := G_eq
theorem q57_1 {fz : Int → Int → Option Int} {d : Nat} {ls st : List AV} {h : HV} {Q : Int → HV → Prop} : G fz d 57 1 ls st h Q = X fz d 57 Q (blk 57 1) ls st h := G_eq
theorem q57_2 {fz : Int → Int → Option Int} {d : Nat} {ls st : List AV} {h : HV} {Q : Int → HV → Prop} : G fz d 57 2 ls st h Q = X fz d 57 Q (blk 57 2) ls st h := G_eq
theorem q57_3 {fz : Int → Int → Option Int} {d : Nat} {ls st : List AV} {h : HV} {Q : Int → HV → Prop} : G fz d 57 3 ls st h Q = X fz d 57 Q (blk 57 3) ls st h := G_eq
theorem q59_1 {fz : Int → Int → Option Int} {d : Nat} {ls st : List AV} {h : HV} {Q : Int → HV → Prop} : G fz d 59 1 ls st h Q = X fz d 59 Q (blk 59 1) ls st h := G_eq
theorem q59_2 {fz : Int → Int → Option Int} {d : Nat} {ls st : List AV} {h : HV} {Q : Int → HV → Prop} : G fz d 59 2 ls st h Q = X fz d 59 Q (blk 59 2) ls st h := G_eq
theorem q60_1 {fz : Int → Int → Option Int} {d : Nat} {ls st : List AV} {h : HV} {Q : Int → HV → Prop} : G fz d 60 1 ls st h Q = X fz d 60 Q (blk 60 1) ls st h := G_eq
theorem q61_1 {fz : Int → Int → Option Int} {d : Nat} {ls st : List AV} {h : HV} {Q : Int → HV → Prop} : G fz d 61 1 ls st h Q = X fz d 61 Q (blk 61 1) ls st h := G_eq
theorem q61_2 {fz : Int → Int → Option Int} {d : Nat} {ls st : List AV} {h : HV} {Q : Int → HV → Prop} : G fz d 61 2 ls st h Q = X fz d 61 Q (blk 61 2) ls st h := G_eq
theorem q63_1 {fz : Int → Int → Option Int} {d : Nat} {ls st : List AV} {h : HV} {Q : Int → HV → Prop} : G fz d 63 1 ls st h Q = X fz d 63 Q (blk 63 1) ls st h := G_eq
theorem q63_2 {fz : Int → Int → Option Int} {d : Nat} {ls st : List AV} {h : HV} {Q : Int → HV → Prop} : G fz d 63 2 ls st h Q = X fz d 63 Q (blk 63 2) ls st h := G_eq
theorem q63_3 {fz : Int → Int → Option Int} {d : Nat} {ls st : List AV} {h : HV} {Q : Int → HV → Prop} : G fz d 63 3 ls st h Q = X fz d 63 Q (blk 63 3) ls st h := G_eq
theorem q63_4 {fz : Int → Int → Option Int} {d : Nat} {ls st : List AV} {h : HV} {Q : Int → HV → Prop} : G fz d 63 4 ls st h Q = X fz d 63 Q (blk 63 4) ls st h := G_eq
theorem q63_5 {fz : Int → Int → Option Int} {d : Nat} {ls st : List AV} {h : HV} {Q : Int → HV → Prop} : G fz d 63 5 ls st h Q = X fz d 63 Q (blk 63 5) ls st h := G_eq
theorem q64_1 {fz : Int → Int → Option Int} {d : Nat} {ls st : List AV} {h : HV} {Q : Int → HV → Prop} : G fz d 64 1 ls st h Q = X fz d 64 Q (blk 64 1) ls st h := G_eq
theorem q64_2 {fz : Int → Int → Option Int} {d : Nat} {ls st : List AV} {h : HV} {Q : Int → HV → Prop} : G fz d 64 2 ls st h Q = X fz d 64 Q (blk 64 2) ls st h := G_eq
theorem q64_3 {fz : Int → Int → Option Int} {d : Nat} {ls st : List AV} {h : HV} {Q : Int → HV → Prop} : G fz d 64 3 ls st h Q = X fz d 64 Q (blk 64 3) ls st h := G_eq
theorem q64_4 {fz : Int → Int → Option Int} {d : Nat} {ls st : List AV} {h : HV} {Q : Int → HV → Prop} : G fz d 64 4 ls st h Q = X fz d 64 Q (blk 64 4) ls st h := G_eq
theorem q65_1 {fz : Int → Int → Option Int} {d : Nat} {ls st : List AV} {h : HV} {Q : Int → HV → Prop} : G fz d 65 1 ls st h Q = X fz d 65 Q (blk 65 1) ls st h := G_eq
theorem q65_2 {fz : Int → Int → Option Int} {d : Nat} {ls st : List AV} {h : HV} {Q : Int → HV → Prop} : G fz d 65 2 ls st h Q = X fz d 65 Q (blk 65 2) ls st h := G_eq
theorem q66_1 {fz : Int → Int → Option Int} {d : Nat} {ls st : List AV} {h : HV} {Q : Int → HV → Prop} : G fz d 66 1 ls st h Q = X fz d 66 Q (blk 66 1) ls st h := G_eq
theorem q67_1 {fz : Int → Int → Option Int} {d : Nat} {ls st : List AV} {h : HV} {Q : Int → HV → Prop} : G fz d 67 1 ls st h Q = X fz d 67 Q (blk 67 1) ls st h := G_eq
theorem q67_2 {fz : Int → Int → Option Int} {d : Nat} {ls st : List AV} {h : HV} {Q : Int → HV → Prop} : G fz d 67 2 ls st h Q = X fz d 67 Q (blk 67 2) ls st h := G_eq
theorem q67_3 {fz : Int → Int → Option Int} {d : Nat} {ls st : List AV} {h : HV} {Q : Int → HV → Prop} : G fz d 67 3 ls st h Q = X fz d 67 Q (blk 67 3) ls st h := G_eq
theorem q67_4 {fz : Int → Int → Option Int} {d : Nat} {ls st : List AV} {h : HV} {Q : Int → HV → Prop} : G fz d 67 4 ls st h Q = X fz d 67 Q (blk 67 4) ls st h := G_eq
theorem q67_5 {fz : Int → Int → Option Int} {d : Nat} {ls st : List AV} {h : HV} {Q : Int → HV → Prop} : G fz d 67 5 ls st h Q = X fz d 67 Q (blk 67 5) ls st h := G_eq
theorem q67_6 {fz : Int → Int → Option Int} {d : Nat} {ls st : List AV} {h : HV} {Q : Int → HV → Prop} : G fz d 67 6 ls st h Q = X fz d 67 Q (blk 67 6) ls st h := G_eq
theorem q67_7 {fz : Int → Int → Option Int} {d : Nat} {ls st : List AV} {h : HV} {Q : Int → HV → Prop} : G fz d 67 7 ls st h Q = X fz d 67 Q (blk 67 7) ls st h := G_eq
theorem q68_1 {fz : Int → Int → Option Int} {d : Nat} {ls st : List AV} {h : HV} {Q : Int → HV → Prop} : G fz d 68 1 ls st h Q = X fz d 68 Q (blk 68 1) ls st h := G_eq
theorem q68_2 {fz : Int → Int → Option Int} {d : Nat} {ls st : List AV} {h : HV} {Q : Int → HV → Prop} : G fz d 68 2 ls st h Q = X fz d 68 Q (blk 68 2) ls st h := G_eq
theorem q69_1 {fz : Int → Int → Option Int} {d : Nat} {ls st : List AV} {h : HV} {Q : Int → HV → Prop} : G fz d 69 1 ls st h Q = X fz d 69 Q (blk 69 1) ls st h := G_eq
theorem q69_2 {fz : Int → Int → Option Int} {d : Nat} {ls st : List AV} {h : HV} {Q : Int → HV → Prop} : G fz d 69 2 ls st h Q = X fz d 69 Q (blk 69 2) ls st h := G_eq
theorem q70_1 {fz : Int → Int → Option Int} {d : Nat} {ls st : List AV} {h : HV} {Q : Int → HV → Prop} : G fz d 70 1 ls st h Q = X fz d 70 Q (blk 70 1) ls st h := G_eq
theorem q70_2 {fz : Int → Int → Option Int} {d : Nat} {ls st : List AV} {h : HV} {Q : Int → HV → Prop} : G fz d 70 2 ls st h Q = X fz d 70 Q (blk 70 2) ls st h := G_eq
theorem q71_1 {fz : Int → Int → Option Int} {d : Nat} {ls st : List AV} {h : HV} {Q : Int → HV → Prop} : G fz d 71 1 ls st h Q = X fz d 71 Q (blk 71 1) ls st h := G_eq
theorem q72_1 {fz : Int → Int → Option Int} {d : Nat} {ls st : List AV} {h : HV} {Q : Int → HV → Prop} : G fz d 72 1 ls st h Q = X fz d 72 Q (blk 72 1) ls st h := G_eq
theorem q72_2 {fz : Int → Int → Option Int} {d : Nat} {ls st : List AV} {h : HV} {Q : Int → HV → Prop} : G fz d 72 2 ls st h Q = X fz d 72 Q (blk 72 2) ls st h := G_eq
theorem q72_3 {fz : Int → Int → Option Int} {d : Nat} {ls st : List AV} {h : HV} {Q : Int → HV → Prop} : G fz d 72 3 ls st h Q = X fz d 72 Q (blk 72 3) ls st h := G_eq
theorem q72_4 {fz : Int → Int → Option Int} {d : Nat} {ls st : List AV} {h : HV} {Q : Int → HV → Prop} : G fz d 72 4 ls st h Q = X fz d 72 Q (blk 72 4) ls st h := G_eq
theorem q72_5 {fz : Int → Int → Option Int} {d : Nat} {ls st : List AV} {h : HV} {Q : Int → HV → Prop} : G fz d 72 5 ls st h Q = X fz d 72 Q (blk 72 5) ls st h := G_eq
theorem q72_6 {fz : Int → Int → Option Int} {d : Nat} {ls st : List AV} {h : HV} {Q : Int → HV → Prop} : G fz d 72 6 ls st h Q = X fz d 72 Q (blk 72 6) ls st h := G_eq
theorem q73_1 {fz : Int → Int → Option Int} {d : Nat} {ls st : List AV} {h : HV} {Q : Int → HV → Prop} : G fz d 73 1 ls st h Q = X fz d 73 Q (blk 73 1) ls st h := G_eq
theorem q73_2 {fz : Int → Int → Option Int} {d : Nat} {ls st : List AV} {h : HV} {Q : Int → HV → Prop} : G fz d 73 2 ls st h Q = X fz d 73 Q (blk 73 2) ls st h := G_eq
theorem q73_3 {fz : Int → Int → Option Int} {d : Nat} {ls st : List AV} {h : HV} {Q : Int → HV → Prop} : G fz d 73 3 ls st h Q = X fz d 73 Q (blk 73 3) ls st h := G_eq
theorem q74_1 {fz : Int → Int → Option Int} {d : Nat} {ls st : List AV} {h : HV} {Q : Int → HV → Prop} : G fz d 74 1 ls st h Q = X fz d 74 Q (blk 74 1) ls st h := G_eq
theorem q74_2 {fz : Int → Int → Option Int} {d : Nat} {ls st : List AV} {h : HV} {Q : Int → HV → Prop} : G fz d 74 2 ls st h Q = X fz d 74 Q (blk 74 2) ls st h := G_eq
theorem q74_3 {fz : Int → Int → Option Int} {d : Nat} {ls st : List AV} {h : HV} {Q : Int → HV → Prop} : G fz d 74 3 ls st h Q = X fz d 74 Q (blk 74 3) ls st h := G_eq
theorem q75_1 {fz : Int → Int → Option Int} {d : Nat} {ls st : List AV} {h : HV} {Q : Int → HV → Prop} : G fz d 75 1 ls st h Q = X fz d 75 Q (blk 75 1) ls st h := G_eq
theorem q76_1 {fz : Int → Int → Option Int} {d : Nat} {ls st : List AV} {h : HV} {Q : Int → HV → Prop} : G fz d 76 1 ls st h Q = X fz d 76 Q (blk 76 1) ls st h := G_eq
theorem q76_2 {fz : Int → Int → Option Int} {d : Nat} {ls st : List AV} {h : HV} {Q : Int → HV → Prop} : G fz d 76 2 ls st h Q = X fz d 76 Q (blk 76 2) ls st h := G_eq
theorem q78_1 {fz : Int → Int → Option Int} {d : Nat} {ls st : List AV} {h : HV} {Q : Int → HV → Prop} : G fz d 78 1 ls st h Q = X fz d 78 Q (blk 78 1) ls st h := G_eq
theorem q78_2 {fz : Int → Int → Option Int} {d : Nat} {ls st : List AV} {h : HV} {Q : Int → HV → Prop} : G fz d 78 2 ls st h Q = X fz d 78 Q (blk 78 2) ls st h := G_eq
theorem q79_1 {fz : Int → Int → Option Int} {d : Nat} {ls st : List AV} {h : HV} {Q : Int → HV → Prop} : G fz d 79 1 ls st h Q = X fz d 79 Q (blk 79 1) ls st h := G_eq
theorem q79_2 {fz : Int → Int → Option Int} {d : Nat} {ls st : List AV} {h : HV} {Q : Int → HV → Prop} : G fz d 79 2 ls st h Q = X fz d 79 Q (blk 79 2) ls st h := G_eq
theorem q80_1 {fz : Int → Int → Option Int} {d : Nat} {ls st : List AV} {h : HV} {Q : Int → HV → Prop} : G fz d 80 1 ls st h Q = X fz d 80 Q (blk 80 1) ls st h := G_eq
theorem q80_2 {fz : Int → Int → Option Int} {d : Nat} {ls st : List AV} {h : HV} {Q : Int → HV → Prop} : G fz d 80 2 ls st h Q = X fz d 80 Q (blk 80 2) ls st h := G_eq
theorem q80_3 {fz : Int → Int → Option Int} {d : Nat} {ls st : List AV} {h : HV} {Q : Int → HV → Prop} : G fz d 80 3 ls st h Q = X fz d 80 Q (blk 80 3) ls st h := G_eq
theorem q80_4 {fz : Int → Int → Option Int} {d : Nat} {ls st : List AV} {h : HV} {Q : Int → HV → Prop} : G fz d 80 4 ls st h Q = X fz d 80 Q (blk 80 4) ls st h := G_eq
theorem q80_5 {fz : Int → Int → Option Int} {d : Nat} {ls st : List AV} {h : HV} {Q : Int → HV → Prop} : G fz d 80 5 ls st h Q = X fz d 80 Q (blk 80 5) ls st h := G_eq
theorem q80_6 {fz : Int → Int → Option Int} {d : Nat} {ls st : List AV} {h : HV} {Q : Int → HV → Prop} : G fz d 80 6 ls st h Q = X fz d 80 Q (blk 80 6) ls st h := G_eq
theorem q80_7 {fz : Int → Int → Option Int} {d : Nat} {ls st : List AV} {h : HV} {Q : Int → HV → Prop} : G fz d 80 7 ls st h Q = X fz d 80 Q (blk 80 7) ls st h := G_eq
theorem q80_8 {fz : Int → Int → Option Int} {d : Nat} {ls st : List AV} {h : HV} {Q : Int → HV → Prop} : G fz d 80 8 ls st h Q = X fz d 80 Q (blk 80 8) ls st h := G_eq
theorem q80_9 {fz : Int → Int → Option Int} {d : Nat} {ls st : List AV} {h : HV} {Q : Int → HV → Prop} : G fz d 80 9 ls st h Q = X fz d 80 Q (blk 80 9) ls st h := G_eq
theorem q81_1 {fz : Int → Int → Option Int} {d : Nat} {ls st : List AV} {h : HV} {Q : Int → HV → Prop} : G fz d 81 1 ls st h Q = X fz d 81 Q (blk 81 1) ls st h := G_eq
theorem q81_2 {fz : Int → Int → Option Int} {d : Nat} {ls st : List AV} {h : HV} {Q : Int → HV → Prop} : G fz d 81 2 ls st h Q = X fz d 81 Q (blk 81 2) ls st h := G_eq
theorem q82_1 {fz : Int → Int → Option Int} {d : Nat} {ls st : List AV} {h : HV} {Q : Int → HV → Prop} : G fz d 82 1 ls st h Q = X fz d 82 Q (blk 82 1) ls st h := G_eq
theorem q83_1 {fz : Int → Int → Option Int} {d : Nat} {ls st : List AV} {h : HV} {Q : Int → HV → Prop} : G fz d 83 1 ls st h Q = X fz d 83 Q (blk 83 1) ls st h := G_eq
theorem q83_2 {fz : Int → Int → Option Int} {d : Nat} {ls st : List AV} {h : HV} {Q : Int → HV → Prop} : G fz d 83 2 ls st h Q = X fz d 83 Q (blk 83 2) ls st h := G_eq
theorem q86_1 {fz : Int → Int → Option Int} {d : Nat} {ls st : List AV} {h : HV} {Q : Int → HV → Prop} : G fz d 86 1 ls st h Q = X fz d 86 Q (blk 86 1) ls st h := G_eq
theorem q86_2 {fz : Int → Int → Option Int} {d : Nat} {ls st : List AV} {h : HV} {Q : Int → HV → Prop} : G fz d 86 2 ls st h Q = X fz d 86 Q (blk 86 2) ls st h := G_eq
theorem q87_1 {fz : Int → Int → Option Int} {d : Nat} {ls st : List AV} {h : HV} {Q : Int → HV → Prop} : G fz d 87 1 ls st h Q = X fz d 87 Q (blk 87 1) ls st h := G_eq
theorem q87_2 {fz : Int → Int → Option Int} {d : Nat} {ls st : List AV} {h : HV} {Q : Int → HV → Prop} : G fz d 87 2 ls st h Q = X fz d 87 Q (blk 87 2) ls st h := G_eq
theorem q88_1 {fz : Int → Int → Option Int} {d : Nat} {ls st : List AV} {h : HV} {Q : Int → HV → Prop} : G fz d 88 1 ls st h Q = X fz d 88 Q (blk 88 1) ls st h := G_eq
theorem q88_2 {fz : Int → Int → Option Int} {d : Nat} {ls st : List AV} {h : HV} {Q : Int → HV → Prop} : G fz d 88 2 ls st h Q = X fz d 88 Q (blk 88 2) ls st h := G_eq
theorem q89_1 {fz : Int → Int → Option Int} {d : Nat} {ls st : List AV} {h : HV} {Q : Int → HV → Prop} : G fz d 89 1 ls st h Q = X fz d 89 Q (blk 89 1) ls st h := G_eq
theorem q89_2 {fz : Int → Int → Option Int} {d : Nat} {ls st : List AV} {h : HV} {Q : Int → HV → Prop} : G fz d 89 2 ls st h Q = X fz d 89 Q (blk 89 2) ls st h := G_eq
theorem q89_3 {fz : Int → Int → Option Int} {d : Nat} {ls st : List AV} {h : HV} {Q : Int → HV → Prop} : G fz d 89 3 ls st h Q = X fz d 89 Q (blk 89 3) ls st h := G_eq
theorem q89_4 {fz : Int → Int → Option Int} {d : Nat} {ls st : List AV} {h : HV} {Q : Int → HV → Prop} : G fz d 89 4 ls st h Q = X fz d 89 Q (blk 89 4) ls st h := G_eq
theorem q89_5 {fz : Int → Int → Option Int} {d : Nat} {ls st : List AV} {h : HV} {Q : Int → HV → Prop} : G fz d 89 5 ls st h Q = X fz d 89 Q (blk 89 5) ls st h := G_eq
theorem q89_6 {fz : Int → Int → Option Int} {d : Nat} {ls st : List AV} {h : HV} {Q : Int → HV → Prop} : G fz d 89 6 ls st h Q = X fz d 89 Q (blk 89 6) ls st h := G_eq
theorem q90_1 {fz : Int → Int → Option Int} {d : Nat} {ls st : List AV} {h : HV} {Q : Int → HV → Prop} : G fz d 90 1 ls st h Q = X fz d 90 Q (blk 90 1) ls st h := G_eq
theorem q90_2 {fz : Int → Int → Option Int} {d : Nat} {ls st : List AV} {h : HV} {Q : Int → HV → Prop} : G fz d 90 2 ls st h Q = X fz d 90 Q (blk 90 2) ls st h := G_eq
theorem q91_1 {fz : Int → Int → Option Int} {d : Nat} {ls st : List AV} {h : HV} {Q : Int → HV → Prop} : G fz d 91 1 ls st h Q = X fz d 91 Q (blk 91 1) ls st h := G_eq
theorem q91_2 {fz : Int → Int → Option Int} {d : Nat} {ls st : List AV} {h : HV} {Q : Int → HV → Prop} : G fz d 91 2 ls st h Q = X fz d 91 Q (blk 91 2) ls st h := G_eq
theorem q91_3 {fz : Int → Int → Option Int} {d : Nat} {ls st : List AV} {h : HV} {Q : Int → HV → Prop} : G fz d 91 3 ls st h Q = X fz d 91 Q (blk 91 3) ls st h := G_eq
theorem q91_4 {fz : Int → Int → Option Int} {d : Nat} {ls st : List AV} {h : HV} {Q : Int → HV → Prop} : G fz d 91 4 ls st h Q = X fz d 91 Q (blk 91 4) ls st h := G_eq
theorem q91_5 {fz : Int → Int → Option Int} {d : Nat} {ls st : List AV} {h : HV} {Q : Int → HV → Prop} : G fz d 91 5 ls st h Q = X fz d 91 Q (blk 91 5) ls st h := G_eq
theorem q91_6 {fz : Int → Int → Option Int} {d : Nat} {ls st : List AV} {h : HV} {Q : Int → HV → Prop} : G fz d 91 6 ls st h Q = X fz d 91 Q (blk 91 6) ls st h := G_eq
theorem q91_7 {fz : Int → Int → Option Int} {d : Nat} {ls st : List AV} {h : HV} {Q : Int → HV → Prop} : G fz d 91 7 ls st h Q = X fz d 91 Q (blk 91 7) ls st h := G_eq
theorem q92_1 {fz : Int → Int → Option Int} {d : Nat} {ls st : List AV} {h : HV} {Q : Int → HV → Prop} : G fz d 92 1 ls st h Q = X fz d 92 Q (blk 92 1) ls st h := G_eq
theorem q96_1 {fz : Int → Int → Option Int} {d : Nat} {ls st : List AV} {h : HV} {Q : Int → HV → Prop} : G fz d 96 1 ls st h Q = X fz d 96 Q (blk 96 1) ls st h := G_eq
theorem q96_2 {fz : Int → Int → Option Int} {d : Nat} {ls st : List AV} {h : HV} {Q : Int → HV → Prop} : G fz d 96 2 ls st h Q = X fz d 96 Q (blk 96 2) ls st h := G_eq
theorem q98_1 {fz : Int → Int → Option Int} {d : Nat} {ls st : List AV} {h : HV} {Q : Int → HV → Prop} : G fz d 98 1 ls st h Q = X fz d 98 Q (blk 98 1) ls st h := G_eq
theorem q98_2 {fz : Int → Int → Option Int} {d : Nat} {ls st : List AV} {h : HV} {Q : Int → HV → Prop} : G fz d 98 2 ls st h Q = X fz d 98 Q (blk 98 2) ls st h := G_eq
theorem q98_3 {fz : Int → Int → Option Int} {d : Nat} {ls st : List AV} {h : HV} {Q : Int → HV → Prop} : G fz d 98 3 ls st h Q = X fz d 98 Q (blk 98 3) ls st h := G_eq
theorem q98_4 {fz : Int → Int → Option Int} {d : Nat} {ls st : List AV} {h : HV} {Q : Int → HV → Prop} : G fz d 98 4 ls st h Q = X fz d 98 Q (blk 98 4) ls st h := G_eq
theorem q98_5 {fz : Int → Int → Option Int} {d : Nat} {ls st : List AV} {h : HV} {Q : Int → HV → Prop} : G fz d 98 5 ls st h Q = X fz d 98 Q (blk 98 5) ls st h := G_eq
theorem q98_6 {fz : Int → Int → Option Int} {d : Nat} {ls st : List AV} {h : HV} {Q : Int → HV → Prop} : G fz d 98 6 ls st h Q = X fz d 98 Q (blk 98 6) ls st h := G_eq
theorem q98_7 {fz : Int → Int → Option Int} {d : Nat} {ls st : List AV} {h : HV} {Q : Int → HV → Prop} : G fz d 98 7 ls st h Q = X fz d 98 Q (blk 98 7) ls st h := G_eq
theorem q99_1 {fz : Int → Int → Option Int} {d : Nat} {ls st : List AV} {h : HV} {Q : Int → HV → Prop} : G fz d 99 1 ls st h Q = X fz d 99 Q (blk 99 1) ls st h := G_eq
theorem q99_2 {fz : Int → Int → Option Int} {d : Nat} {ls st : List AV} {h : HV} {Q : Int → HV → Prop} : G fz d 99 2 ls st h Q = X fz d 99 Q (blk 99 2) ls st h := G_eq
theorem q99_3 {fz : Int → Int → Option Int} {d : Nat} {ls st : List AV} {h : HV} {Q : Int → HV → Prop} : G fz d 99 3 ls st h Q = X fz d 99 Q (blk 99 3) ls st h := G_eq
theorem q99_4 {fz : Int → Int → Option Int} {d : Nat} {ls st : List AV} {h : HV} {Q : Int → HV → Prop} : G fz d 99 4 ls st h Q = X fz d 99 Q (blk 99 4) ls st h := G_eq
theorem q99_5 {fz : Int → Int → Option Int} {d : Nat} {ls st : List AV} {h : HV} {Q : Int → HV → Prop} : G fz d 99 5 ls st h Q = X fz d 99 Q (blk 99 5) ls st h := G_eq
theorem q100_1 {fz : Int → Int → Option Int} {d : Nat} {ls st : List AV} {h : HV} {Q : Int → HV → Prop} : G fz d 100 1 ls st h Q = X fz d 100 Q (blk 100 1) ls st h := G_eq
theorem q100_2 {fz : Int → Int → Option Int} {d : Nat} {ls st : List AV} {h : HV} {Q : Int → HV → Prop} : G fz d 100 2 ls st h Q = X fz d 100 Q (blk 100 2) ls st h := G_eq
theorem q100_3 {fz : Int → Int → Option Int} {d : Nat} {ls st : List AV} {h : HV} {Q : Int → HV → Prop} : G fz d 100 3 ls st h Q = X fz d 100 Q (blk 100 3) ls st h := G_eq
theorem q100_4 {fz : Int → Int → Option Int} {d : Nat} {ls st : List AV} {h : HV} {Q : Int → HV → Prop} : G fz d 100 4 ls st h Q = X fz d 100 Q (blk 100 4) ls st h := G_eq
theorem q100_5 {fz : Int → Int → Option Int} {d : Nat} {ls st : List AV} {h : HV} {Q : Int → HV → Prop} : G fz d 100 5 ls st h Q = X fz d 100 Q (blk 100 5) ls st h := G_eq
theorem q100_6 {fz : Int → Int → Option Int} {d : Nat} {ls st : List AV} {h : HV} {Q : Int → HV → Prop} : G fz d 100 6 ls st h Q = X fz d 100 Q (blk 100 6) ls st h := G_eq
theorem q100_7 {fz : Int → Int → Option Int} {d : Nat} {ls st : List AV} {h : HV} {Q : Int → HV → Prop} : G fz d 100 7 ls st h Q = X fz d 100 Q (blk 100 7) ls st h := G_eq
theorem q100_8 {fz : Int → Int → Option Int} {d : Nat} {ls st : List AV} {h : HV} {Q : Int → HV → Prop} : G fz d 100 8 ls st h Q = X fz d 100 Q (blk 100 8) ls st h := G_eq
theorem q100_9 {fz : Int → Int → Option Int} {d : Nat} {ls st : List AV} {h : HV} {Q : Int → HV → Prop} : G fz d 100 9 ls st h Q = X fz d 100 Q (blk 100 9) ls st h := G_eq
theorem q100_10 {fz : Int → Int → Option Int} {d : Nat} {ls st : List AV} {h : HV} {Q : Int → HV → Prop} : G fz d 100 10 ls st h Q = X fz d 100 Q (blk 100 10) ls st h := G_eq
theorem q100_11 {fz : Int → Int → Option Int} {d : Nat} {ls st : List AV} {h : HV} {Q : Int → HV → Prop} : G fz d 100 11 ls st h Q = X fz d 100 Q (blk 100 11) ls st h := G_eq
theorem q100_12 {fz : Int → Int → Option Int} {d : Nat} {ls st : List AV} {h : HV} {Q : Int → HV → Prop} : G fz d 100 12 ls st h Q = X fz d 100 Q (blk 100 12) ls st h := G_eq
theorem q100_13 {fz : Int → Int → Option Int} {d : Nat} {ls st : List AV} {h : HV} {Q : Int → HV → Prop} : G fz d 100 13 ls st h Q = X fz d 100 Q (blk 100 13) ls st h := G_eq
theorem q100_14 {fz : Int → Int → Option Int} {d : Nat} {ls st : List AV} {h : HV} {Q : Int → HV → Prop} : G fz d 100 14 ls st h Q = X fz d 100 Q (blk 100 14) ls st h := G_eq
theorem q101_1 {fz : Int → Int → Option Int} {d : Nat} {ls st : List AV} {h : HV} {Q : Int → HV → Prop} : G fz d 101 1 ls st h Q = X fz d 101 Q (blk 101 1) ls st h := G_eq
theorem q101_2 {fz : Int → Int → Option Int} {d : Nat} {ls st : List AV} {h : HV} {Q : Int → HV → Prop} : G fz d 101 2 ls st h Q = X fz d 101 Q (blk 101 2) ls st h := G_eq
theorem q102_1 {fz : Int → Int → Option Int} {d : Nat} {ls st : List AV} {h : HV} {Q : Int → HV → Prop} : G fz d 102 1 ls st h Q = X fz d 102 Q (blk 102 1) ls st h := G_eq
theorem q102_2 {fz : Int → Int → Option Int} {d : Nat} {ls st : List AV} {h : HV} {Q : Int → HV → Prop} : G fz d 102 2 ls st h Q = X fz d 102 Q (blk 102 2) ls st h := G_eq
theorem q103_1 {fz : Int → Int → Option Int} {d : Nat} {ls st : List AV} {h : HV} {Q : Int → HV → Prop} : G fz d 103 1 ls st h Q = X fz d 103 Q (blk 103 1) ls st h := G_eq
theorem q103_2 {fz : Int → Int → Option Int} {d : Nat} {ls st : List AV} {h : HV} {Q : Int → HV → Prop} : G fz d 103 2 ls st h Q = X fz d 103 Q (blk 103 2) ls st h := G_eq
theorem q104_1 {fz : Int → Int → Option Int} {d : Nat} {ls st : List AV} {h : HV} {Q : Int → HV → Prop} : G fz d 104 1 ls st h Q = X fz d 104 Q (blk 104 1) ls st h := G_eq
theorem q104_2 {fz : Int → Int → Option Int} {d : Nat} {ls st : List AV} {h : HV} {Q : Int → HV → Prop} : G fz d 104 2 ls st h Q = X fz d 104 Q (blk 104 2) ls st h := G_eq
theorem q108_1 {fz : Int → Int → Option Int} {d : Nat} {ls st : List AV} {h : HV} {Q : Int → HV → Prop} : G fz d 108 1 ls st h Q = X fz d 108 Q (blk 108 1) ls st h := G_eq
theorem q108_2 {fz : Int → Int → Option Int} {d : Nat} {ls st : List AV} {h : HV} {Q : Int → HV → Prop} : G fz d 108 2 ls st h Q = X fz d 108 Q (blk 108 2) ls st h := G_eq
theorem q109_1 {fz : Int → Int → Option Int} {d : Nat} {ls st : List AV} {h : HV} {Q : Int → HV → Prop} : G fz d 109 1 ls st h Q = X fz d 109 Q (blk 109 1) ls st h := G_eq
theorem q109_2 {fz : Int → Int → Option Int} {d : Nat} {ls st : List AV} {h : HV} {Q : Int → HV → Prop} : G fz d 109 2 ls st h Q = X fz d 109 Q (blk 109 2) ls st h := G_eq
theorem q109_3 {fz : Int → Int → Option Int} {d : Nat} {ls st : List AV} {h : HV} {Q : Int → HV → Prop} : G fz d 109 3 ls st h Q = X fz d 109 Q (blk 109 3) ls st h := G_eq
theorem q110_1 {fz : Int → Int → Option Int} {d : Nat} {ls st : List AV} {h : HV} {Q : Int → HV → Prop} : G fz d 110 1 ls st h Q = X fz d 110 Q (blk 110 1) ls st h := G_eq
theorem q110_2 {fz : Int → Int → Option Int} {d : Nat} {ls st : List AV} {h : HV} {Q : Int → HV → Prop} : G fz d 110 2 ls st h Q = X fz d 110 Q (blk 110 2) ls st h := G_eq
theorem q110_3 {fz : Int → Int → Option Int} {d : Nat} {ls st : List AV} {h : HV} {Q : Int → HV → Prop} : G fz d 110 3 ls st h Q = X fz d 110 Q (blk 110 3) ls st h := G_eq
theorem q110_4 {fz : Int → Int → Option Int} {d : Nat} {ls st : List AV} {h : HV} {Q : Int → HV → Prop} : G fz d 110 4 ls st h Q = X fz d 110 Q (blk 110 4) ls st h := G_eq
theorem q111_1 {fz : Int → Int → Option Int} {d : Nat} {ls st : List AV} {h : HV} {Q : Int → HV → Prop} : G fz d 111 1 ls st h Q = X fz d 111 Q (blk 111 1) ls st h := G_eq
theorem q111_2 {fz : Int → Int → Option Int} {d : Nat} {ls st : List AV} {h : HV} {Q : Int → HV → Prop} : G fz d 111 2 ls st h Q = X fz d 111 Q (blk 111 2) ls st h := G_eq
theorem q112_1 {fz : Int → Int → Option Int} {d : Nat} {ls st : List AV} {h : HV} {Q : Int → HV → Prop} : G fz d 112 1 ls st h Q = X fz d 112 Q (blk 112 1) ls st h := G_eq
theorem q112_2 {fz : Int → Int → Option Int} {d : Nat} {ls st : List AV} {h : HV} {Q : Int → HV → Prop} : G fz d 112 2 ls st h Q = X fz d 112 Q (blk 112 2) ls st h := G_eq
theorem q116_1 {fz : Int → Int → Option Int} {d : Nat} {ls st : List AV} {h : HV} {Q : Int → HV → Prop} : G fz d 116 1 ls st h Q = X fz d 116 Q (blk 116 1) ls st h := G_eq
theorem q117_1 {fz : Int → Int → Option Int} {d : Nat} {ls st : List AV} {h : HV} {Q : Int → HV → Prop} : G fz d 117 1 ls st h Q = X fz d 117 Q (blk 117 1) ls st h := G_eq
theorem q117_2 {fz : Int → Int → Option Int} {d : Nat} {ls st : List AV} {h : HV} {Q : Int → HV → Prop} : G fz d 117 2 ls st h Q = X fz d 117 Q (blk 117 2) ls st h := G_eq
theorem q118_1 {fz : Int → Int → Option Int} {d : Nat} {ls st : List AV} {h : HV} {Q : Int → HV → Prop} : G fz d 118 1 ls st h Q = X fz d 118 Q (blk 118 1) ls st h := G_eq
theorem q118_2 {fz : Int → Int → Option Int} {d : Nat} {ls st : List AV} {h : HV} {Q : Int → HV → Prop} : G fz d 118 2 ls st h Q = X fz d 118 Q (blk 118 2) ls st h := G_eq
theorem q118_3 {fz : Int → Int → Option Int} {d : Nat} {ls st : List AV} {h : HV} {Q : Int → HV → Prop} : G fz d 118 3 ls st h Q = X fz d 118 Q (blk 118 3) ls st h := G_eq
theorem q119_1 {fz : Int → Int → Option Int} {d : Nat} {ls st : List AV} {h : HV} {Q : Int → HV → Prop} : G fz d 119 1 ls st h Q = X fz d 119 Q (blk 119 1) ls st h := G_eq
theorem q119_2 {fz : Int → Int → Option Int} {d : Nat} {ls st : List AV} {h : HV} {Q : Int → HV → Prop} : G fz d 119 2 ls st h Q = X fz d 119 Q (blk 119 2) ls st h := G_eq
theorem q122_1 {fz : Int → Int → Option Int} {d : Nat} {ls st : List AV} {h : HV} {Q : Int → HV → Prop} : G fz d 122 1 ls st h Q = X fz d 122 Q (blk 122 1) ls st h := G_eq
theorem q122_2 {fz : Int → Int → Option Int} {d : Nat} {ls st : List AV} {h : HV} {Q : Int → HV → Prop} : G fz d 122 2 ls st h Q = X fz d 122 Q (blk 122 2) ls st h := G_eq
theorem q123_1 {fz : Int → Int → Option Int} {d : Nat} {ls st : List AV} {h : HV} {Q : Int → HV → Prop} : G fz d 123 1 ls st h Q = X fz d 123 Q (blk 123 1) ls st h := G_eq
theorem q123_2 {fz : Int → Int → Option Int} {d : Nat} {ls st : List AV} {h : HV} {Q : Int → HV → Prop} : G fz d 123 2 ls st h Q = X fz d 123 Q (blk 123 2) ls st h := G_eq
theorem q124_1 {fz : Int → Int → Option Int} {d : Nat} {ls st : List AV} {h : HV} {Q : Int → HV → Prop} : G fz d 124 1 ls st h Q = X fz d 124 Q (blk 124 1) ls st h := G_eq
theorem q124_2 {fz : Int → Int → Option Int} {d : Nat} {ls st : List AV} {h : HV} {Q : Int → HV → Prop} : G fz d 124 2 ls st h Q = X fz d 124 Q (blk 124 2) ls st h := G_eq
theorem q124_3 {fz : Int → Int → Option Int} {d : Nat} {ls st : List AV} {h : HV} {Q : Int → HV → Prop} : G fz d 124 3 ls st h Q = X fz d 124 Q (blk 124 3) ls st h := G_eq
theorem q124_4 {fz : Int → Int → Option Int} {d : Nat} {ls st : List AV} {h : HV} {Q : Int → HV → Prop} : G fz d 124 4 ls st h Q = X fz d 124 Q (blk 124 4) ls st h := G_eq
theorem q125_1 {fz : Int → Int → Option Int} {d : Nat} {ls st : List AV} {h : HV} {Q : Int → HV → Prop} : G fz d 125 1 ls st h Q = X fz d 125 Q (blk 125 1) ls st h := G_eq
theorem q125_2 {fz : Int → Int → Option Int} {d : Nat} {ls st : List AV} {h : HV} {Q : Int → HV → Prop} : G fz d 125 2 ls st h Q = X fz d 125 Q (blk 125 2) ls st h := G_eq
theorem q127_1 {fz : Int → Int → Option Int} {d : Nat} {ls st : List AV} {h : HV} {Q : Int → HV → Prop} : G fz d 127 1 ls st h Q = X fz d 127 Q (blk 127 1) ls st h := G_eq
theorem q127_2 {fz : Int → Int → Option Int} {d : Nat} {ls st : List AV} {h : HV} {Q : Int → HV → Prop} : G fz d 127 2 ls st h Q = X fz d 127 Q (blk 127 2) ls st h := G_eq
theorem q130_1 {fz : Int → Int → Option Int} {d : Nat} {ls st : List AV} {h : HV} {Q : Int → HV → Prop} : G fz d 130 1 ls st h Q = X fz d 130 Q (blk 130 1) ls st h := G_eq
theorem q130_2 {fz : Int → Int → Option Int} {d : Nat} {ls st : List AV} {h : HV} {Q : Int → HV → Prop} : G fz d 130 2 ls st h Q = X fz d 130 Q (blk 130 2) ls st h := G_eq
theorem q130_3 {fz : Int → Int → Option Int} {d : Nat} {ls st : List AV} {h : HV} {Q : Int → HV → Prop} : G fz d 130 3 ls st h Q = X fz d 130 Q (blk 130 3) ls st h := G_eq
theorem q131_1 {fz : Int → Int → Option Int} {d : Nat} {ls st : List AV} {h : HV} {Q : Int → HV → Prop} : G fz d 131 1 ls st h Q = X fz d 131 Q (blk 131 1) ls st h := G_eq
theorem q131_2 {fz : Int → Int → Option Int} {d : Nat} {ls st : List AV} {h : HV} {Q : Int → HV → Prop} : G fz d 131 2 ls st h Q = X fz d 131 Q (blk 131 2) ls st h := G_eq
theorem q131_3 {fz : Int → Int → Option Int} {d : Nat} {ls st : List AV} {h : HV} {Q : Int → HV → Prop} : G fz d 131 3 ls st h Q = X fz d 131 Q (blk 131 3) ls st h := G_eq
theorem q131_4 {fz : Int → Int → Option Int} {d : Nat} {ls st : List AV} {h : HV} {Q : Int → HV → Prop} : G fz d 131 4 ls st h Q = X fz d 131 Q (blk 131 4) ls st h := G_eq
theorem q131_5 {fz : Int → Int → Option Int} {d : Nat} {ls st : List AV} {h : HV} {Q : Int → HV → Prop} : G fz d 131 5 ls st h Q = X fz d 131 Q (blk 131 5) ls st h := G_eq
theorem q131_6 {fz : Int → Int → Option Int} {d : Nat} {ls st : List AV} {h : HV} {Q : Int → HV → Prop} : G fz d 131 6 ls st h Q = X fz d 131 Q (blk 131 6) ls st h := G_eq
theorem q131_7 {fz : Int → Int → Option Int} {d : Nat} {ls st : List AV} {h : HV} {Q : Int → HV → Prop} : G fz d 131 7 ls st h Q = X fz d 131 Q (blk 131 7) ls st h := G_eq
theorem q131_8 {fz : Int → Int → Option Int} {d : Nat} {ls st : List AV} {h : HV} {Q : Int → HV → Prop} : G fz d 131 8 ls st h Q = X fz d 131 Q (blk 131 8) ls st h := G_eq
theorem q131_9 {fz : Int → Int → Option Int} {d : Nat} {ls st : List AV} {h : HV} {Q : Int → HV → Prop} : G fz d 131 9 ls st h Q = X fz d 131 Q (blk 131 9) ls st h := G_eq
theorem q135_1 {fz : Int → Int → Option Int} {d : Nat} {ls st : List AV} {h : HV} {Q : Int → HV → Prop} : G fz d 135 1 ls st h Q = X fz d 135 Q (blk 135 1) ls st h := G_eq
theorem q135_2 {fz : Int → Int → Option Int} {d : Nat} {ls st : List AV} {h : HV} {Q : Int → HV → Prop} : G fz d 135 2 ls st h Q = X fz d 135 Q (blk 135 2) ls st h := G_eq
theorem q135_3 {fz : Int → Int → Option Int} {d : Nat} {ls st : List AV} {h : HV} {Q : Int → HV → Prop} : G fz d 135 3 ls st h Q = X fz d 135 Q (blk 135 3) ls st h := G_eq
theorem q135_4 {fz : Int → Int → Option Int} {d : Nat} {ls st : List AV} {h : HV} {Q : Int → HV → Prop} : G fz d 135 4 ls st h Q = X fz d 135 Q (blk 135 4) ls st h := G_eq
theorem q136_1 {fz : Int → Int → Option Int} {d : Nat} {ls st : List AV} {h : HV} {Q : Int → HV → Prop} : G fz d 136 1 ls st h Q = X fz d 136 Q (blk 136 1) ls st h := G_eq
theorem q136_2 {fz : Int → Int → Option Int} {d : Nat} {ls st : List AV} {h : HV} {Q : Int → HV → Prop} : G fz d 136 2 ls st h Q = X fz d 136 Q (blk 136 2) ls st h := G_eq
theorem q137_1 {fz : Int → Int → Option Int} {d : Nat} {ls st : List AV} {h : HV} {Q : Int → HV → Prop} : G fz d 137 1 ls st h Q = X fz d 137 Q (blk 137 1) ls st h := G_eq
theorem q137_2 {fz : Int → Int → Option Int} {d : Nat} {ls st : List AV} {h : HV} {Q : Int → HV → Prop} : G fz d 137 2 ls st h Q = X fz d 137 Q (blk 137 2) ls st h := G_eq
theorem q137_3 {fz : Int → Int → Option Int} {d : Nat} {ls st : List AV} {h : HV} {Q : Int → HV → Prop} : G fz d 137 3 ls st h Q = X fz d 137 Q (blk 137 3) ls st h := G_eq
theorem q138_1 {fz : Int → Int → Option Int} {d : Nat} {ls st : List AV} {h : HV} {Q : Int → HV → Prop} : G fz d 138 1 ls st h Q = X fz d 138 Q (blk 138 1) ls st h := G_eq
theorem q138_2 {fz : Int → Int → Option Int} {d : Nat} {ls st : List AV} {h : HV} {Q : Int → HV → Prop} : G fz d 138 2 ls st h Q = X fz d 138 Q (blk 138 2) ls st h := G_eq
theorem q139_1 {fz : Int → Int → Option Int} {d : Nat} {ls st : List AV} {h : HV} {Q : Int → HV → Prop} : G fz d 139 1 ls st h Q = X fz d 139 Q (blk 139 1) ls st h := G_eq
theorem q139_2 {fz : Int → Int → Option Int} {d : Nat} {ls st : List AV} {h : HV} {Q : Int → HV → Prop} : G fz d 139 2 ls st h Q = X fz d 139 Q (blk 139 2) ls st h := G_eq
theorem q140_1 {fz : Int → Int → Option Int} {d : Nat} {ls st : List AV} {h : HV} {Q : Int → HV → Prop} : G fz d 140 1 ls st h Q = X fz d 140 Q (blk 140 1) ls st h := G_eq
theorem q140_2 {fz : Int → Int → Option Int} {d : Nat} {ls st : List AV} {h : HV} {Q : Int → HV → Prop} : G fz d 140 2 ls st h Q = X fz d 140 Q (blk 140 2) ls st h := G_eq
theorem q141_1 {fz : Int → Int → Option Int} {d : Nat} {ls st : List AV} {h : HV} {Q : Int → HV → Prop} : G fz d 141 1 ls st h Q = X fz d 141 Q (blk 141 1) ls st h := G_eq
theorem q141_2 {fz : Int → Int → Option Int} {d : Nat} {ls st : List AV} {h : HV} {Q : Int → HV → Prop} : G fz d 141 2 ls st h Q = X fz d 141 Q (blk 141 2) ls st h := G_eq
theorem q142_1 {fz : Int → Int → Option Int} {d : Nat} {ls st : List AV} {h : HV} {Q : Int → HV → Prop} : G fz d 142 1 ls st h Q = X fz d 142 Q (blk 142 1) ls st h := G_eq
theorem q142_2 {fz : Int → Int → Option Int} {d : Nat} {ls st : List AV} {h : HV} {Q : Int → HV → Prop} : G fz d 142 2 ls st h Q = X fz d 142 Q (blk 142 2) ls st h := G_eq
theorem q142_3 {fz : Int → Int → Option Int} {d : Nat} {ls st : List AV} {h : HV} {Q : Int → HV → Prop} : G fz d 142 3 ls st h Q = X fz d 142 Q (blk 142 3) ls st h := G_eq
theorem q142_4 {fz : Int → Int → Option Int} {d : Nat} {ls st : List AV} {h : HV} {Q : Int → HV → Prop} : G fz d 142 4 ls st h Q = X fz d 142 Q (blk 142 4) ls st h := G_eq
theorem q142_5 {fz : Int → Int → Option Int} {d : Nat} {ls st : List AV} {h : HV} {Q : Int → HV → Prop} : G fz d 142 5 ls st h Q = X fz d 142 Q (blk 142 5) ls st h := G_eq
theorem q143_1 {fz : Int → Int → Option Int} {d : Nat} {ls st : List AV} {h : HV} {Q : Int → HV → Prop} : G fz d 143 1 ls st h Q = X fz d 143 Q (blk 143 1) ls st h := G_eq
theorem q143_2 {fz : Int → Int → Option Int} {d : Nat} {ls st : List AV} {h : HV} {Q : Int → HV → Prop} : G fz d 143 2 ls st h Q = X fz d 143 Q (blk 143 2) ls st h := G_eq
theorem q144_1 {fz : Int → Int → Option Int} {d : Nat} {ls st : List AV} {h : HV} {Q : Int → HV → Prop} : G fz d 144 1 ls st h Q = X fz d 144 Q (blk 144 1) ls st h := G_eq
theorem q144_2 {fz : Int → Int → Option Int} {d : Nat} {ls st : List AV} {h : HV} {Q : Int → HV → Prop} : G fz d 144 2 ls st h Q = X fz d 144 Q (blk 144 2) ls st h := G_eq
theorem q145_1 {fz : Int → Int → Option Int} {d : Nat} {ls st : List AV} {h : HV} {Q : Int → HV → Prop} : G fz d 145 1 ls st h Q = X fz d 145 Q (blk 145 1) ls st h := G_eq
theorem q145_2 {fz : Int → Int → Option Int} {d : Nat} {ls st : List AV} {h : HV} {Q : Int → HV → Prop} : G fz d 145 2 ls st h Q = X fz d 145 Q (blk 145 2) ls st h := G_eq
theorem q146_1 {fz : Int → Int → Option Int} {d : Nat} {ls st : List AV} {h : HV} {Q : Int → HV → Prop} : G fz d 146 1 ls st h Q = X fz d 146 Q (blk 146 1) ls st h := G_eq
theorem q146_2 {fz : Int → Int → Option Int} {d : Nat} {ls st : List AV} {h : HV} {Q : Int → HV → Prop} : G fz d 146 2 ls st h Q = X fz d 146 Q (blk 146 2) ls st h := G_eq
theorem q147_1 {fz : Int → Int → Option Int} {d : Nat} {ls st : List AV} {h : HV} {Q : Int → HV → Prop} : G fz d 147 1 ls st h Q = X fz d 147 Q (blk 147 1) ls st h := G_eq
theorem q147_2 {fz : Int → Int → Option Int} {d : Nat} {ls st : List AV} {h : HV} {Q : Int → HV → Prop} : G fz d 147 2 ls st h Q = X fz d 147 Q (blk 147 2) ls st h := G_eq
theorem q147_3 {fz : Int → Int → Option Int} {d : Nat} {ls st : List AV} {h : HV} {Q : Int → HV → Prop} : G fz d 147 3 ls st h Q = X fz d 147 Q (blk 147 3) ls st h := G_eq
theorem q147_4 {fz : Int → Int → Option Int} {d : Nat} {ls st : List AV} {h : HV} {Q : Int → HV → Prop} : G fz d 147 4 ls st h Q = X fz d 147 Q (blk 147 4) ls st h := G_eq
theorem q147_5 {fz : Int → Int → Option Int} {d : Nat} {ls st : List AV} {h : HV} {Q : Int → HV → Prop} : G fz d 147 5 ls st h Q = X fz d 147 Q (blk 147 5) ls st h := G_eq
theorem q147_6 {fz : Int → Int → Option Int} {d : Nat} {ls st : List AV} {h : HV} {Q : Int → HV → Prop} : G fz d 147 6 ls st h Q = X fz d 147 Q (blk 147 6) ls st h := G_eq
theorem q147_7 {fz : Int → Int → Option Int} {d : Nat} {ls st : List AV} {h : HV} {Q : Int → HV → Prop} : G fz d 147 7 ls st h Q = X fz d 147 Q (blk 147 7) ls st h := G_eq
theorem q148_1 {fz : Int → Int → Option Int} {d : Nat} {ls st : List AV} {h : HV} {Q : Int → HV → Prop} : G fz d 148 1 ls st h Q = X fz d 148 Q (blk 148 1) ls st h := G_eq
theorem q148_2 {fz : Int → Int → Option Int} {d : Nat} {ls st : List AV} {h : HV} {Q : Int → HV → Prop} : G fz d 148 2 ls st h Q = X fz d 148 Q (blk 148 2) ls st h := G_eq
theorem q148_3 {fz : Int → Int → Option Int} {d : Nat} {ls st : List AV} {h : HV} {Q : Int → HV → Prop} : G fz d 148 3 ls st h Q = X fz d 148 Q (blk 148 3) ls st h := G_eq
theorem q149_1 {fz : Int → Int → Option Int} {d : Nat} {ls st : List AV} {h : HV} {Q : Int → HV → Prop} : G fz d 149 1 ls st h Q = X fz d 149 Q (blk 149 1) ls st h := G_eq
theorem q149_2 {fz : Int → Int → Option Int} {d : Nat} {ls st : List AV} {h : HV} {Q : Int → HV → Prop} : G fz d 149 2 ls st h Q = X fz d 149 Q (blk 149 2) ls st h := G_eq
theorem q150_1 {fz : Int → Int → Option Int} {d : Nat} {ls st : List AV} {h : HV} {Q : Int → HV → Prop} : G fz d 150 1 ls st h Q = X fz d 150 Q (blk 150 1) ls st h := G_eq
theorem q150_2 {fz : Int → Int → Option Int} {d : Nat} {ls st : List AV} {h : HV} {Q : Int → HV → Prop} : G fz d 150 2 ls st h Q = X fz d 150 Q (blk 150 2) ls st h := G_eq
theorem q150_3 {fz : Int → Int → Option Int} {d : Nat} {ls st : List AV} {h : HV} {Q : Int → HV → Prop} : G fz d 150 3 ls st h Q = X fz d 150 Q (blk 150 3) ls st h := G_eq
theorem q151_1 {fz : Int → Int → Option Int} {d : Nat} {ls st : List AV} {h : HV} {Q : Int → HV → Prop} : G fz d 151 1 ls st h Q = X fz d 151 Q (blk 151 1) ls st h := G_eq
theorem q151_2 {fz : Int → Int → Option Int} {d : Nat} {ls st : List AV} {h : HV} {Q : Int → HV → Prop} : G fz d 151 2 ls st h Q = X fz d 151 Q (blk 151 2) ls st h := G_eq
theorem q151_3 {fz : Int → Int → Option Int} {d : Nat} {ls st : List AV} {h : HV} {Q : Int → HV → Prop} : G fz d 151 3 ls st h Q = X fz d 151 Q (blk 151 3) ls st h := G_eq
theorem q151_4 {fz : Int → Int → Option Int} {d : Nat} {ls st : List AV} {h : HV} {Q : Int → HV → Prop} : G fz d 151 4 ls st h Q = X fz d 151 Q (blk 151 4) ls st h := G_eq
theorem q152_1 {fz : Int → Int → Option Int} {d : Nat} {ls st : List AV} {h : HV} {Q : Int → HV → Prop} : G fz d 152 1 ls st h Q = X fz d 152 Q (blk 152 1) ls st h := G_eq
theorem q152_2 {fz : Int → Int → Option Int} {d : Nat} {ls st : List AV} {h : HV} {Q : Int → HV → Prop} : G fz d 152 2 ls st h Q = X fz d 152 Q (blk 152 2) ls st h := G_eq
theorem q153_1 {fz : Int → Int → Option Int} {d : Nat} {ls st : List AV} {h : HV} {Q : Int → HV → Prop} : G fz d 153 1 ls st h Q = X fz d 153 Q (blk 153 1) ls st h := G_eq
theorem q153_2 {fz : Int → Int → Option Int} {d : Nat} {ls st : List AV} {h : HV} {Q : Int → HV → Prop} : G fz d 153 2 ls st h Q = X fz d 153 Q (blk 153 2) ls st h := G_eq
theorem q153_3 {fz : Int → Int → Option Int} {d : Nat} {ls st : List AV} {h : HV} {Q : Int → HV → Prop} : G fz d 153 3 ls st h Q = X fz d 153 Q (blk 153 3) ls st h := G_eq
theorem q153_4 {fz : Int → Int → Option Int} {d : Nat} {ls st : List AV} {h : HV} {Q : Int → HV → Prop} : G fz d 153 4 ls st h Q = X fz d 153 Q (blk 153 4) ls st h := G_eq
theorem q153_5 {fz : Int → Int → Option Int} {d : Nat} {ls st : List AV} {h : HV} {Q : Int → HV → Prop} : G fz d 153 5 ls st h Q = X fz d 153 Q (blk 153 5) ls st h := G_eq
theorem q153_6 {fz : Int → Int → Option Int} {d : Nat} {ls st : List AV} {h : HV} {Q : Int → HV → Prop} : G fz d 153 6 ls st h Q = X fz d 153 Q (blk 153 6) ls st h := G_eq
theorem q154_1 {fz : Int → Int → Option Int} {d : Nat} {ls st : List AV} {h : HV} {Q : Int → HV → Prop} : G fz d 154 1 ls st h Q = X fz d 154 Q (blk 154 1) ls st h := G_eq
theorem q155_1 {fz : Int → Int → Option Int} {d : Nat} {ls st : List AV} {h : HV} {Q : Int → HV → Prop} : G fz d 155 1 ls st h Q = X fz d 155 Q (blk 155 1) ls st h := G_eq
theorem q156_1 {fz : Int → Int → Option Int} {d : Nat} {ls st : List AV} {h : HV} {Q : Int → HV → Prop} : G fz d 156 1 ls st h Q = X fz d 156 Q (blk 156 1) ls st h := G_eq
theorem q157_1 {fz : Int → Int → Option Int} {d : Nat} {ls st : List AV} {h : HV} {Q : Int → HV → Prop} : G fz d 157 1 ls st h Q = X fz d 157 Q (blk 157 1) ls st h := G_eq
theorem q157_2 {fz : Int → Int → Option Int} {d : Nat} {ls st : List AV} {h : HV} {Q : Int → HV → Prop} : G fz d 157 2 ls st h Q = X fz d 157 Q (blk 157 2) ls st h := G_eq
theorem q158_1 {fz : Int → Int → Option Int} {d : Nat} {ls st : List AV} {h : HV} {Q : Int → HV → Prop} : G fz d 158 1 ls st h Q = X fz d 158 Q (blk 158 1) ls st h := G_eq
theorem q158_2 {fz : Int → Int → Option Int} {d : Nat} {ls st : List AV} {h : HV} {Q : Int → HV → Prop} : G fz d 158 2 ls st h Q = X fz d 158 Q (blk 158 2) ls st h := G_eq
theorem q159_1 {fz : Int → Int → Option Int} {d : Nat} {ls st : List AV} {h : HV} {Q : Int → HV → Prop} : G fz d 159 1 ls st h Q = X fz d 159 Q (blk 159 1) ls st h := G_eq
theorem q159_2 {fz : Int → Int → Option Int} {d : Nat} {ls st : List AV} {h : HV} {Q : Int → HV → Prop} : G fz d 159 2 ls st h Q = X fz d 159 Q (blk 159 2) ls st h := G_eq
theorem q160_1 {fz : Int → Int → Option Int} {d : Nat} {ls st : List AV} {h : HV} {Q : Int → HV → Prop} : G fz d 160 1 ls st h Q = X fz d 160 Q (blk 160 1) ls st h := G_eq
theorem q160_2 {fz : Int → Int → Option Int} {d : Nat} {ls st : List AV} {h : HV} {Q : Int → HV → Prop} : G fz d 160 2 ls st h Q = X fz d 160 Q (blk 160 2) ls st h := G_eq
theorem q161_1 {fz : Int → Int → Option Int} {d : Nat} {ls st : List AV} {h : HV} {Q : Int → HV → Prop} : G fz d 161 1 ls st h Q = X fz d 161 Q (blk 161 1) ls st h := G_eq
theorem q161_2 {fz : Int → Int → Option Int} {d : Nat} {ls st : List AV} {h : HV} {Q : Int → HV → Prop} : G fz d 161 2 ls st h Q = X fz d 161 Q (blk 161 2) ls st h := G_eq
theorem q162_1 {fz : Int → Int → Option Int} {d : Nat} {ls st : List AV} {h : HV} {Q : Int → HV → Prop} : G fz d 162 1 ls st h Q = X fz d 162 Q (blk 162 1) ls st h := G_eq
theorem q163_1 {fz : Int → Int → Option Int} {d : Nat} {ls st : List AV} {h : HV} {Q : Int → HV → Prop} : G fz d 163 1 ls st h Q = X fz d 163 Q (blk 163 1) ls st h := G_eq
theorem q163_2 {fz : Int → Int → Option Int} {d : Nat} {ls st : List AV} {h : HV} {Q : Int → HV → Prop} : G fz d 163 2 ls st h Q = X fz d 163 Q (blk 163 2) ls st h := G_eq
theorem q163_3 {fz : Int → Int → Option Int} {d : Nat} {ls st : List AV} {h : HV} {Q : Int → HV → Prop} : G fz d 163 3 ls st h Q = X fz d 163 Q (blk 163 3) ls st h := G_eq
theorem q163_4 {fz : Int → Int → Option Int} {d : Nat} {ls st : List AV} {h : HV} {Q : Int → HV → Prop} : G fz d 163 4 ls st h Q = X fz d 163 Q (blk 163 4) ls st h := G_eq
theorem q163_5 {fz : Int → Int → Option Int} {d : Nat} {ls st : List AV} {h : HV} {Q : Int → HV → Prop} : G fz d 163 5 ls st h Q = X fz d 163 Q (blk 163 5) ls st h := G_eq
theorem q163_6 {fz : Int → Int → Option Int} {d : Nat} {ls st : List AV} {h : HV} {Q : Int → HV → Prop} : G fz d 163 6 ls st h Q = X fz d 163 Q (blk 163 6) ls st h := G_eq
theorem q164_1 {fz : Int → Int → Option Int} {d : Nat} {ls st : List AV} {h : HV} {Q : Int → HV → Prop} : G fz d 164 1 ls st h Q = X fz d 164 Q (blk 164 1) ls st h := G_eq
theorem q164_2 {fz : Int → Int → Option Int} {d : Nat} {ls st : List AV} {h : HV} {Q : Int → HV → Prop} : G fz d 164 2 ls st h Q = X fz d 164 Q (blk 164 2) ls st h := G_eq
theorem q164_3 {fz : Int → Int → Option Int} {d : Nat} {ls st : List AV} {h : HV} {Q : Int → HV → Prop} : G fz d 164 3 ls st h Q = X fz d 164 Q (blk 164 3) ls st h := G_eq
theorem q164_4 {fz : Int → Int → Option Int} {d : Nat} {ls st : List AV} {h : HV} {Q : Int → HV → Prop} : G fz d 164 4 ls st h Q = X fz d 164 Q (blk 164 4) ls st h := G_eq
theorem q165_1 {fz : Int → Int → Option Int} {d : Nat} {ls st : List AV} {h : HV} {Q : Int → HV → Prop} : G fz d 165 1 ls st h Q = X fz d 165 Q (blk 165 1) ls st h := G_eq
theorem q165_2 {fz : Int → Int → Option Int} {d : Nat} {ls st : List AV} {h : HV} {Q : Int → HV → Prop} : G fz d 165 2 ls st h Q = X fz d 165 Q (blk 165 2) ls st h := G_eq
theorem q166_1 {fz : Int → Int → Option Int} {d : Nat} {ls st : List AV} {h : HV} {Q : Int → HV → Prop} : G fz d 166 1 ls st h Q = X fz d 166 Q (blk 166 1) ls st h := G_eq
theorem q166_2 {fz : Int → Int → Option Int} {d : Nat} {ls st : List AV} {h : HV} {Q : Int → HV → Prop} : G fz d 166 2 ls st h Q = X fz d 166 Q (blk 166 2) ls st h := G_eq
theorem q166_3 {fz : Int → Int → Option Int} {d : Nat} {ls st : List AV} {h : HV} {Q : Int → HV → Prop} : G fz d 166 3 ls st h Q = X fz d 166 Q (blk 166 3) ls st h := G_eq
theorem q166_4 {fz : Int → Int → Option Int} {d : Nat} {ls st : List AV} {h : HV} {Q : Int → HV → Prop} : G fz d 166 4 ls st h Q = X fz d 166 Q (blk 166 4) ls st h := G_eq
theorem q166_5 {fz : Int → Int → Option Int} {d : Nat} {ls st : List AV} {h : HV} {Q : Int → HV → Prop} : G fz d 166 5 ls st h Q = X fz d 166 Q (blk 166 5) ls st h := G_eq
theorem q166_6 {fz : Int → Int → Option Int} {d : Nat} {ls st : List AV} {h : HV} {Q : Int → HV → Prop} : G fz d 166 6 ls st h Q = X fz d 166 Q (blk 166 6) ls st h := G_eq
theorem q166_7 {fz : Int → Int → Option Int} {d : Nat} {ls st : List AV} {h : HV} {Q : Int → HV → Prop} : G fz d 166 7 ls st h Q = X fz d 166 Q (blk 166 7) ls st h := G_eq
theorem q166_8 {fz : Int → Int → Option Int} {d : Nat} {ls st : List AV} {h : HV} {Q : Int → HV → Prop} : G fz d 166 8 ls st h Q = X fz d 166 Q (blk 166 8) ls st h := G_eq
theorem q166_9 {fz : Int → Int → Option Int} {d : Nat} {ls st : List AV} {h : HV} {Q : Int → HV → Prop} : G fz d 166 9 ls st h Q = X fz d 166 Q (blk 166 9) ls st h := G_eq
theorem q166_10 {fz : Int → Int → Option Int} {d : Nat} {ls st : List AV} {h : HV} {Q : Int → HV → Prop} : G fz d 166 10 ls st h Q = X fz d 166 Q (blk 166 10) ls st h := G_eq
theorem q166_11 {fz : Int → Int → Option Int} {d : Nat} {ls st : List AV} {h : HV} {Q : Int → HV → Prop} : G fz d 166 11 ls st h Q = X fz d 166 Q (blk 166 11) ls st h := G_eq
theorem q166_12 {fz : Int → Int → Option Int} {d : Nat} {ls st : List AV} {h : HV} {Q : Int → HV → Prop} : G fz d 166 12 ls st h Q = X fz d 166 Q (blk 166 12) ls st h := G_eq
theorem q166_13 {fz : Int → Int → Option Int} {d : Nat} {ls st : List AV} {h : HV} {Q : Int → HV → Prop} : G fz d 166 13 ls st h Q = X fz d 166 Q (blk 166 13) ls st h := G_eq
theorem q166_14 {fz : Int → Int → Option Int} {d : Nat} {ls st : List AV} {h : HV} {Q : Int → HV → Prop} : G fz d 166 14 ls st h Q = X fz d 166 Q (blk 166 14) ls st h := G_eq
theorem q167_1 {fz : Int → Int → Option Int} {d : Nat} {ls st : List AV} {h : HV} {Q : Int → HV → Prop} : G fz d 167 1 ls st h Q = X fz d 167 Q (blk 167 1) ls st h := G_eq
theorem q168_1 {fz : Int → Int → Option Int} {d : Nat} {ls st : List AV} {h : HV} {Q : Int → HV → Prop} : G fz d 168 1 ls st h Q = X fz d 168 Q (blk 168 1) ls st h := G_eq
theorem q169_1 {fz : Int → Int → Option Int} {d : Nat} {ls st : List AV} {h : HV} {Q : Int → HV → Prop} : G fz d 169 1 ls st h Q = X fz d 169 Q (blk 169 1) ls st h := G_eq
theorem q169_2 {fz : Int → Int → Option Int} {d : Nat} {ls st : List AV} {h : HV} {Q : Int → HV → Prop} : G fz d 169 2 ls st h Q = X fz d 169 Q (blk 169 2) ls st h := G_eq
theorem q169_3 {fz : Int → Int → Option Int} {d : Nat} {ls st : List AV} {h : HV} {Q : Int → HV → Prop} : G fz d 169 3 ls st h Q = X fz d 169 Q (blk 169 3) ls st h := G_eq
theorem q169_4 {fz : Int → Int → Option Int} {d : Nat} {ls st : List AV} {h : HV} {Q : Int → HV → Prop} : G fz d 169 4 ls st h Q = X fz d 169 Q (blk 169 4) ls st h := G_eq
theorem q171_1 {fz : Int → Int → Option Int} {d : Nat} {ls st : List AV} {h : HV} {Q : Int → HV → Prop} : G fz d 171 1 ls st h Q = X fz d 171 Q (blk 171 1) ls st h := G_eq
theorem q171_2 {fz : Int → Int → Option Int} {d : Nat} {ls st : List AV} {h : HV} {Q : Int → HV → Prop} : G fz d 171 2 ls st h Q = X fz d 171 Q (blk 171 2) ls st h := G_eq
theorem q173_1 {fz : Int → Int → Option Int} {d : Nat} {ls st : List AV} {h : HV} {Q : Int → HV → Prop} : G fz d 173 1 ls st h Q = X fz d 173 Q (blk 173 1) ls st h := G_eq
theorem q173_2 {fz : Int → Int → Option Int} {d : Nat} {ls st : List AV} {h : HV} {Q : Int → HV → Prop} : G fz d 173 2 ls st h Q = X fz d 173 Q (blk 173 2) ls st h := G_eq
theorem q173_3 {fz : Int → Int → Option Int} {d : Nat} {ls st : List AV} {h : HV} {Q : Int → HV → Prop} : G fz d 173 3 ls st h Q = X fz d 173 Q (blk 173 3) ls st h := G_eq
theorem q173_4 {fz : Int → Int → Option Int} {d : Nat} {ls st : List AV} {h : HV} {Q : Int → HV → Prop} : G fz d 173 4 ls st h Q = X fz d 173 Q (blk 173 4) ls st h := G_eq
theorem q173_5 {fz : Int → Int → Option Int} {d : Nat} {ls st : List AV} {h : HV} {Q : Int → HV → Prop} : G fz d 173 5 ls st h Q = X fz d 173 Q (blk 173 5) ls st h := G_eq
theorem q173_6 {fz : Int → Int → Option Int} {d : Nat} {ls st : List AV} {h : HV} {Q : Int → HV → Prop} : G fz d 173 6 ls st h Q = X fz d 173 Q (blk 173 6) ls st h := G_eq
theorem q173_7 {fz : Int → Int → Option Int} {d : Nat} {ls st : List AV} {h : HV} {Q : Int → HV → Prop} : G fz d 173 7 ls st h Q = X fz d 173 Q (blk 173 7) ls st h := G_eq
theorem q173_8 {fz : Int → Int → Option Int} {d : Nat} {ls st : List AV} {h : HV} {Q : Int → HV → Prop} : G fz d 173 8 ls st h Q = X fz d 173 Q (blk 173 8) ls st h := G_eq
theorem q173_9 {fz : Int → Int → Option Int} {d : Nat} {ls st : List AV} {h : HV} {Q : Int → HV → Prop} : G fz d 173 9 ls st h Q = X fz d 173 Q (blk 173 9) ls st h := G_eq
theorem q173_10 {fz : Int → Int → Option Int} {d : Nat} {ls st : List AV} {h : HV} {Q : Int → HV → Prop} : G fz d 173 10 ls st h Q = X fz d 173 Q (blk 173 10) ls st h := G_eq
theorem q173_11 {fz : Int → Int → Option Int} {d : Nat} {ls st : List AV} {h : HV} {Q : Int → HV → Prop} : G fz d 173 11 ls st h Q = X fz d 173 Q (blk 173 11) ls st h := G_eq
theorem q173_12 {fz : Int → Int → Option Int} {d : Nat} {ls st : List AV} {h : HV} {Q : Int → HV → Prop} : G fz d 173 12 ls st h Q = X fz d 173 Q (blk 173 12) ls st h := G_eq
theorem q173_13 {fz : Int → Int → Option Int} {d : Nat} {ls st : List AV} {h : HV} {Q : Int → HV → Prop} : G fz d 173 13 ls st h Q = X fz d 173 Q (blk 173 13) ls st h := G_eq
theorem q173_14 {fz : Int → Int → Option Int} {d : Nat} {ls st : List AV} {h : HV} {Q : Int → HV → Prop} : G fz d 173 14 ls st h Q = X fz d 173 Q (blk 173 14) ls st h := G_eq
theorem q173_15 {fz : Int → Int → Option Int} {d : Nat} {ls st : List AV} {h : HV} {Q : Int → HV → Prop} : G fz d 173 15 ls st h Q = X fz d 173 Q (blk 173 15) ls st h := G_eq
theorem q173_16 {fz : Int → Int → Option Int} {d : Nat} {ls st : List AV} {h : HV} {Q : Int → HV → Prop} : G fz d 173 16 ls st h Q = X fz d 173 Q (blk 173 16) ls st h := G_eq
theorem q173_17 {fz : Int → Int → Option Int} {d : Nat} {ls st : List AV} {h : HV} {Q : Int → HV → Prop} : G fz d 173 17 ls st h Q = X fz d 173 Q (blk 173 17) ls st h := G_eq
theorem q173_18 {fz : Int → Int → Option Int} {d : Nat} {ls st : List AV} {h : HV} {Q : Int → HV → Prop} : G fz d 173 18 ls st h Q = X fz d 173 Q (blk 173 18) ls st h := G_eq
theorem q173_19 {fz : Int → Int → Option Int} {d : Nat} {ls st : List AV} {h : HV} {Q : Int → HV → Prop} : G fz d 173 19 ls st h Q = X fz d 173 Q (blk 173 19) ls st h := G_eq
theorem q173_20 {fz : Int → Int → Option Int} {d : Nat} {ls st : List AV} {h : HV} {Q : Int → HV → Prop} : G fz d 173 20 ls st h Q = X fz d 173 Q (blk 173 20) ls st h := G_eq
theorem q173_21 {fz : Int → Int → Option Int} {d : Nat} {ls st : List AV} {h : HV} {Q : Int → HV → Prop} : G fz d 173 21 ls st h Q = X fz d 173 Q (blk 173 21) ls st h := G_eq
theorem q173_22 {fz : Int → Int → Option Int} {d : Nat} {ls st : List AV} {h : HV} {Q : Int → HV → Prop} : G fz d 173 22 ls st h Q = X fz d 173 Q (blk 173 22) ls st h := G_eq
theorem q173_23 {fz : Int → Int → Option Int} {d : Nat} {ls st : List AV} {h : HV} {Q : Int → HV → Prop} : G fz d 173 23 ls st h Q = X fz d 173 Q (blk 173 23) ls st h := G_eq
theorem q173_24 {fz : Int → Int → Option Int} {d : Nat} {ls st : List AV} {h : HV} {Q : Int → HV → Prop} : G fz d 173 24 ls st h Q = X fz d 173 Q (blk 173 24) ls st h := G_eq
theorem q173_25 {fz : Int → Int → Option Int} {d : Nat} {ls st : List AV} {h : HV} {Q : Int → HV → Prop} : G fz d 173 25 ls st h Q = X fz d 173 Q (blk 173 25) ls st h := G_eq
theorem q173_26 {fz : Int → Int → Option Int} {d : Nat} {ls st : List AV} {h : HV} {Q : Int → HV → Prop} : G fz d 173 26 ls st h Q = X fz d 173 Q (blk 173 26) ls st h := G_eq
theorem q173_27 {fz : Int → Int → Option Int} {d : Nat} {ls st : List AV} {h : HV} {Q : Int → HV → Prop} : G fz d 173 27 ls st h Q = X fz d 173 Q (blk 173 27) ls st h := G_eq
theorem q173_28 {fz : Int → Int → Option Int} {d : Nat} {ls st : List AV} {h : HV} {Q : Int → HV → Prop} : G fz d 173 28 ls st h Q = X fz d 173 Q (blk 173 28) ls st h := G_eq
theorem q173_29 {fz : Int → Int → Option Int} {d : Nat} {ls st : List AV} {h : HV} {Q : Int → HV → Prop} : G fz d 173 29 ls st h Q = X fz d 173 Q (blk 173 29) ls st h := G_eq
theorem q173_30 {fz : Int → Int → Option Int} {d : Nat} {ls st : List AV} {h : HV} {Q : Int → HV → Prop} : G fz d 173 30 ls st h Q = X fz d 173 Q (blk 173 30) ls st h := G_eq
theorem q173_31 {fz : Int → Int → Option Int} {d : Nat} {ls st : List AV} {h : HV} {Q : Int → HV → Prop} : G fz d 173 31 ls st h Q = X fz d 173 Q (blk 173 31) ls st h := G_eq
theorem q173_32 {fz : Int → Int → Option Int} {d : Nat} {ls st : List AV} {h : HV} {Q : Int → HV → Prop} : G fz d 173 32 ls st h Q = X fz d 173 Q (blk 173 32) ls st h := G_eq
theorem q173_33 {fz : Int → Int → Option Int} {d : Nat} {ls st : List AV} {h : HV} {Q : Int → HV → Prop} : G fz d 173 33 ls st h Q = X fz d 173 Q (blk 173 33) ls st h := G_eq
theorem q173_34 {fz : Int → Int → Option Int} {d : Nat} {ls st : List AV} {h : HV} {Q : Int → HV → Prop} : G fz d 173 34 ls st h Q = X fz d 173 Q (blk 173 34) ls st h := G_eq
theorem q174_1 {fz : Int → Int → Option Int} {d : Nat} {ls st : List AV} {h : HV} {Q : Int → HV → Prop} : G fz d 174 1 ls st h Q = X fz d 174 Q (blk 174 1) ls st h := G_eq
theorem q178_1 {fz : Int → Int → Option Int} {d : Nat} {ls st : List AV} {h : HV} {Q : Int → HV → Prop} : G fz d 178 1 ls st h Q = X fz d 178 Q (blk 178 1) ls st h := G_eq
theorem q178_2 {fz : Int → Int → Option Int} {d : Nat} {ls st : List AV} {h : HV} {Q : Int → HV → Prop} : G fz d 178 2 ls st h Q = X fz d 178 Q (blk 178 2) ls st h := G_eq
theorem q179_1 {fz : Int → Int → Option Int} {d : Nat} {ls st : List AV} {h : HV} {Q : Int → HV → Prop} : G fz d 179 1 ls st h Q = X fz d 179 Q (blk 179 1) ls st h := G_eq
theorem q179_2 {fz : Int → Int → Option Int} {d : Nat} {ls st : List AV} {h : HV} {Q : Int → HV → Prop} : G fz d 179 2 ls st h Q = X fz d 179 Q (blk 179 2) ls st h := G_eq
theorem q180_1 {fz : Int → Int → Option Int} {d : Nat} {ls st : List AV} {h : HV} {Q : Int → HV → Prop} : G fz d 180 1 ls st h Q = X fz d 180 Q (blk 180 1) ls st h := G_eq
theorem q180_2 {fz : Int → Int → Option Int} {d : Nat} {ls st : List AV} {h : HV} {Q : Int → HV → Prop} : G fz d 180 2 ls st h Q = X fz d 180 Q (blk 180 2) ls st h := G_eq
theorem q184_1 {fz : Int → Int → Option Int} {d : Nat} {ls st : List AV} {h : HV} {Q : Int → HV → Prop} : G fz d 184 1 ls st h Q = X fz d 184 Q (blk 184 1) ls st h := G_eq
theorem q184_2 {fz : Int → Int → Option Int} {d : Nat} {ls st : List AV} {h : HV} {Q : Int → HV → Prop} : G fz d 184 2 ls st h Q = X fz d 184 Q (blk 184 2) ls st h := G_eq
theorem q185_1 {fz : Int → Int → Option Int} {d : Nat} {ls st : List AV} {h : HV} {Q : Int → HV → Prop} : G fz d 185 1 ls st h Q = X fz d 185 Q (blk 185 1) ls st h := G_eq
theorem q185_2 {fz : Int → Int → Option Int} {d : Nat} {ls st : List AV} {h : HV} {Q : Int → HV → Prop} : G fz d 185 2 ls st h Q = X fz d 185 Q (blk 185 2) ls st h := G_eq
theorem q185_3 {fz : Int → Int → Option Int} {d : Nat} {ls st : List AV} {h : HV} {Q : Int → HV → Prop} : G fz d 185 3 ls st h Q = X fz d 185 Q (blk 185 3) ls st h := G_eq
theorem q185_4 {fz : Int → Int → Option Int} {d : Nat} {ls st : List AV} {h : HV} {Q : Int → HV → Prop} : G fz d 185 4 ls st h Q = X fz d 185 Q (blk 185 4) ls st h := G_eq
theorem q185_5 {fz : Int → Int → Option Int} {d : Nat} {ls st : List AV} {h : HV} {Q : Int → HV → Prop} : G fz d 185 5 ls st h Q = X fz d 185 Q (blk 185 5) ls st h := G_eq
theorem q185_6 {fz : Int → Int → Option Int} {d : Nat} {ls st : List AV} {h : HV} {Q : Int → HV → Prop} : G fz d 185 6 ls st h Q = X fz d 185 Q (blk 185 6) ls st h := G_eq
theorem q185_7 {fz : Int → Int → Option Int} {d : Nat} {ls st : List AV} {h : HV} {Q : Int → HV → Prop} : G fz d 185 7 ls st h Q = X fz d 185 Q (blk 185 7) ls st h := G_eq
theorem q185_8 {fz : Int → Int → Option Int} {d : Nat} {ls st : List AV} {h : HV} {Q : Int → HV → Prop} : G fz d 185 8 ls st h Q = X fz d 185 Q (blk 185 8) ls st h := G_eq
theorem q185_9 {fz : Int → Int → Option Int} {d : Nat} {ls st : List AV} {h : HV} {Q : Int → HV → Prop} : G fz d 185 9 ls st h Q = X fz d 185 Q (blk 185 9) ls st h := G_eq
theorem q185_10 {fz : Int → Int → Option Int} {d : Nat} {ls st : List AV} {h : HV} {Q : Int → HV → Prop} : G fz d 185 10 ls st h Q = X fz d 185 Q (blk 185 10) ls st h := G_eq
theorem q186_1 {fz : Int → Int → Option Int} {d : Nat} {ls st : List AV} {h : HV} {Q : Int → HV → Prop} : G fz d 186 1 ls st h Q = X fz d 186 Q (blk 186 1) ls st h := G_eq
theorem q186_2 {fz : Int → Int → Option Int} {d : Nat} {ls st : List AV} {h : HV} {Q : Int → HV → Prop} : G fz d 186 2 ls st h Q = X fz d 186 Q (blk 186 2) ls st h := G_eq
theorem q186_3 {fz : Int → Int → Option Int} {d : Nat} {ls st : List AV} {h : HV} {Q : Int → HV → Prop} : G fz d 186 3 ls st h Q = X fz d 186 Q (blk 186 3) ls st h := G_eq
theorem q187_1 {fz : Int → Int → Option Int} {d : Nat} {ls st : List AV} {h : HV} {Q : Int → HV → Prop} : G fz d 187 1 ls st h Q = X fz d 187 Q (blk 187 1) ls st h := G_eq
theorem q188_1 {fz : Int → Int → Option Int} {d : Nat} {ls st : List AV} {h : HV} {Q : Int → HV → Prop} : G fz d 188 1 ls st h Q = X fz d 188 Q (blk 188 1) ls st h := G_eq
theorem q189_1 {fz : Int → Int → Option Int} {d : Nat} {ls st : List AV} {h : HV} {Q : Int → HV → Prop} : G fz d 189 1 ls st h Q = X fz d 189 Q (blk 189 1) ls st h := G_eq
theorem q189_2 {fz : Int → Int → Option Int} {d : Nat} {ls st : List AV} {h : HV} {Q : Int → HV → Prop} : G fz d 189 2 ls st h Q = X fz d 189 Q (blk 189 2) ls st h := G_eq
theorem q189_3 {fz : Int → Int → Option Int} {d : Nat} {ls st : List AV} {h : HV} {Q : Int → HV → Prop} : G fz d 189 3 ls st h Q = X fz d 189 Q (blk 189 3) ls st h := G_eq
theorem q190_1 {fz : Int → Int → Option Int} {d : Nat} {ls st : List AV} {h : HV} {Q : Int → HV → Prop} : G fz d 190 1 ls st h Q = X fz d 190 Q (blk 190 1) ls st h := G_eq
theorem q190_2 {fz : Int → Int → Option Int} {d : Nat} {ls st : List AV} {h : HV} {Q : Int → HV → Prop} : G fz d 190 2 ls st h Q = X fz d 190 Q (blk 190 2) ls st h := G_eq
theorem q190_3 {fz : Int → Int → Option Int} {d : Nat} {ls st : List AV} {h : HV} {Q : Int → HV → Prop} : G fz d 190 3 ls st h Q = X fz d 190 Q (blk 190 3) ls st h := G_eq
theorem q191_1 {fz : Int → Int → Option Int} {d : Nat} {ls st : List AV} {h : HV} {Q : Int → HV → Prop} : G fz d 191 1 ls st h Q = X fz d 191 Q (blk 191 1) ls st h := G_eq
theorem q191_2 {fz : Int → Int → Option Int} {d : Nat} {ls st : List AV} {h : HV} {Q : Int → HV → Prop} : G fz d 191 2 ls st h Q = X fz d 191 Q (blk 191 2) ls st h := G_eq
theorem q192_1 {fz : Int → Int → Option Int} {d : Nat} {ls st : List AV} {h : HV} {Q : Int → HV → Prop} : G fz d 192 1 ls st h Q = X fz d 192 Q (blk 192 1) ls st h := G_eq
theorem q192_2 {fz : Int → Int → Option Int} {d : Nat} {ls st : List AV} {h : HV} {Q : Int → HV → Prop} : G fz d 192 2 ls st h Q = X fz d 192 Q (blk 192 2) ls st h := G_eq
theorem q192_3 {fz : Int → Int → Option Int} {d : Nat} {ls st : List AV} {h : HV} {Q : Int → HV → Prop} : G fz d 192 3 ls st h Q = X fz d 192 Q (blk 192 3) ls st h := G_eq
theorem q192_4 {fz : Int → Int → Option Int} {d : Nat} {ls st : List AV} {h : HV} {Q : Int → HV → Prop} : G fz d 192 4 ls st h Q = X fz d 192 Q (blk 192 4) ls st h := G_eq
theorem q193_1 {fz : Int → Int → Option Int} {d : Nat} {ls st : List AV} {h : HV} {Q : Int → HV → Prop} : G fz d 193 1 ls st h Q = X fz d 193 Q (blk 193 1) ls st h := G_eq
theorem q193_2 {fz : Int → Int → Option Int} {d : Nat} {ls st : List AV} {h : HV} {Q : Int → HV → Prop} : G fz d 193 2 ls st h Q = X fz d 193 Q (blk 193 2) ls st h := G_eq
theorem q194_1 {fz : Int → Int → Option Int} {d : Nat} {ls st : List AV} {h : HV} {Q : Int → HV → Prop} : G fz d 194 1 ls st h Q = X fz d 194 Q (blk 194 1) ls st h := G_eq
theorem q194_2 {fz : Int → Int → Option Int} {d : Nat} {ls st : List AV} {h : HV} {Q : Int → HV → Prop} : G fz d 194 2 ls st h Q = X fz d 194 Q (blk 194 2) ls st h := G_eq
theorem q195_1 {fz : Int → Int → Option Int} {d : Nat} {ls st : List AV} {h : HV} {Q : Int → HV → Prop} : G fz d 195 1 ls st h Q = X fz d 195 Q (blk 195 1) ls st h := G_eq
theorem q195_2 {fz : Int → Int → Option Int} {d : Nat} {ls st : List AV} {h : HV} {Q : Int → HV → Prop} : G fz d 195 2 ls st h Q = X fz d 195 Q (blk 195 2) ls st h := G_eq
theorem q195_3 {fz : Int → Int → Option Int} {d : Nat} {ls st : List AV} {h : HV} {Q : Int → HV → Prop} : G fz d 195 3 ls st h Q = X fz d 195 Q (blk 195 3) ls st h := G_eq
theorem q195_4 {fz : Int → Int → Option Int} {d : Nat} {ls st : List AV} {h : HV} {Q : Int → HV → Prop} : G fz d 195 4 ls st h Q = X fz d 195 Q (blk 195 4) ls st h := G_eq
theorem q195_5 {fz : Int → Int → Option Int} {d : Nat} {ls st : List AV} {h : HV} {Q : Int → HV → Prop} : G fz d 195 5 ls st h Q = X fz d 195 Q (blk 195 5) ls st h := G_eq
theorem q195_6 {fz : Int → Int → Option Int} {d : Nat} {ls st : List AV} {h : HV} {Q : Int → HV → Prop} : G fz d 195 6 ls st h Q = X fz d 195 Q (blk 195 6) ls st h := G_eq
theorem q195_7 {fz : Int → Int → Option Int} {d : Nat} {ls st : List AV} {h : HV} {Q : Int → HV → Prop} : G fz d 195 7 ls st h Q = X fz d 195 Q (blk 195 7) ls st h := G_eq
theorem q195_8 {fz : Int → Int → Option Int} {d : Nat} {ls st : List AV} {h : HV} {Q : Int → HV → Prop} : G fz d 195 8 ls st h Q = X fz d 195 Q (blk 195 8) ls st h := G_eq
theorem q196_1 {fz : Int → Int → Option Int} {d : Nat} {ls st : List AV} {h : HV} {Q : Int → HV → Prop} : G fz d 196 1 ls st h Q = X fz d 196 Q (blk 196 1) ls st h := G_eq
theorem q196_2 {fz : Int → Int → Option Int} {d : Nat} {ls st : List AV} {h : HV} {Q : Int → HV → Prop} : G fz d 196 2 ls st h Q = X fz d 196 Q (blk 196 2) ls st h := G_eq
theorem q196_3 {fz : Int → Int → Option Int} {d : Nat} {ls st : List AV} {h : HV} {Q : Int → HV → Prop} : G fz d 196 3 ls st h Q = X fz d 196 Q (blk 196 3) ls st h := G_eq
theorem q197_1 {fz : Int → Int → Option Int} {d : Nat} {ls st : List AV} {h : HV} {Q : Int → HV → Prop} : G fz d 197 1 ls st h Q = X fz d 197 Q (blk 197 1) ls st h := G_eq
theorem q197_2 {fz : Int → Int → Option Int} {d : Nat} {ls st : List AV} {h : HV} {Q : Int → HV → Prop} : G fz d 197 2 ls st h Q = X fz d 197 Q (blk 197 2) ls st h := G_eq
theorem q197_3 {fz : Int → Int → Option Int} {d : Nat} {ls st : List AV} {h : HV} {Q : Int → HV → Prop} : G fz d 197 3 ls st h Q = X fz d 197 Q (blk 197 3) ls st h := G_eq
theorem q198_1 {fz : Int → Int → Option Int} {d : Nat} {ls st : List AV} {h : HV} {Q : Int → HV → Prop} : G fz d 198 1 ls st h Q = X fz d 198 Q (blk 198 1) ls st h := G_eq
theorem q198_2 {fz : Int → Int → Option Int} {d : Nat} {ls st : List AV} {h : HV} {Q : Int → HV → Prop} : G fz d 198 2 ls st h Q = X fz d 198 Q (blk 198 2) ls st h := G_eq
theorem q198_3 {fz : Int → Int → Option Int} {d : Nat} {ls st : List AV} {h : HV} {Q : Int → HV → Prop} : G fz d 198 3 ls st h Q = X fz d 198 Q (blk 198 3) ls st h := G_eq
theorem q198_4 {fz : Int → Int → Option Int} {d : Nat} {ls st : List AV} {h : HV} {Q : Int → HV → Prop} : G fz d 198 4 ls st h Q = X fz d 198 Q (blk 198 4) ls st h := G_eq
theorem q198_5 {fz : Int → Int → Option Int} {d : Nat} {ls st : List AV} {h : HV} {Q : Int → HV → Prop} : G fz d 198 5 ls st h Q = X fz d 198 Q (blk 198 5) ls st h := G_eq
theorem q198_6 {fz : Int → Int → Option Int} {d : Nat} {ls st : List AV} {h : HV} {Q : Int → HV → Prop} : G fz d 198 6 ls st h Q = X fz d 198 Q (blk 198 6) ls st h := G_eq
theorem q198_7 {fz : Int → Int → Option Int} {d : Nat} {ls st : List AV} {h : HV} {Q : Int → HV → Prop} : G fz d 198 7 ls st h Q = X fz d 198 Q (blk 198 7) ls st h := G_eq
theorem q198_8 {fz : Int → Int → Option Int} {d : Nat} {ls st : List AV} {h : HV} {Q : Int → HV → Prop} : G fz d 198 8 ls st h Q = X fz d 198 Q (blk 198 8) ls st h := G_eq
theorem q198_9 {fz : Int → Int → Option Int} {d : Nat} {ls st : List AV} {h : HV} {Q : Int → HV → Prop} : G fz d 198 9 ls st h Q = X fz d 198 Q (blk 198 9) ls st h := G_eq
theorem q199_1 {fz : Int → Int → Option Int} {d : Nat} {ls st : List AV} {h : HV} {Q : Int → HV → Prop} : G fz d 199 1 ls st h Q = X fz d 199 Q (blk 199 1) ls st h := G_eq
theorem q199_2 {fz : Int → Int → Option Int} {d : Nat} {ls st : List AV} {h : HV} {Q : Int → HV → Prop} : G fz d 199 2 ls st h Q = X fz d 199 Q (blk 199 2) ls st h := G_eq
theorem q201_1 {fz : Int → Int → Option Int} {d : Nat} {ls st : List AV} {h : HV} {Q : Int → HV → Prop} : G fz d 201 1 ls st h Q = X fz d 201 Q (blk 201 1) ls st h := G_eq
theorem q201_2 {fz : Int → Int → Option Int} {d : Nat} {ls st : List AV} {h : HV} {Q : Int → HV → Prop} : G fz d 201 2 ls st h Q = X fz d 201 Q (blk 201 2) ls st h := G_eq
theorem q201_3 {fz : Int → Int → Option Int} {d : Nat} {ls st : List AV} {h : HV} {Q : Int → HV → Prop} : G fz d 201 3 ls st h Q = X fz d 201 Q (blk 201 3) ls st h := G_eq
theorem q201_4 {fz : Int → Int → Option Int} {d : Nat} {ls st : List AV} {h : HV} {Q : Int → HV → Prop} : G fz d 201 4 ls st h Q = X fz d 201 Q (blk 201 4) ls st h := G_eq
theorem q201_5 {fz : Int → Int → Option Int} {d : Nat} {ls st : List AV} {h : HV} {Q : Int → HV → Prop} : G fz d 201 5 ls st h Q = X fz d 201 Q (blk 201 5) ls st h := G_eq
theorem q201_6 {fz : Int → Int → Option Int} {d : Nat} {ls st : List AV} {h : HV} {Q : Int → HV → Prop} : G fz d 201 6 ls st h Q = X fz d 201 Q (blk 201 6) ls st h := G_eq
theorem q201_7 {fz : Int → Int → Option Int} {d : Nat} {ls st : List AV} {h : HV} {Q : Int → HV → Prop} : G fz d 201 7 ls st h Q = X fz d 201 Q (blk 201 7) ls st h := G_eq
theorem q201_8 {fz : Int → Int → Option Int} {d : Nat} {ls st : List AV} {h : HV} {Q : Int → HV → Prop} : G fz d 201 8 ls st h Q = X fz d 201 Q (blk 201 8) ls st h := G_eq
theorem q201_9 {fz : Int → Int → Option Int} {d : Nat} {ls st : List AV} {h : HV} {Q : Int → HV → Prop} : G fz d 201 9 ls st h Q = X fz d 201 Q (blk 201 9) ls st h := G_eq
theorem q201_10 {fz : Int → Int → Option Int} {d : Nat} {ls st : List AV} {h : HV} {Q : Int → HV → Prop} : G fz d 201 10 ls st h Q = X fz d 201 Q (blk 201 10) ls st h := G_eq
theorem q201_11 {fz : Int → Int → Option Int} {d : Nat} {ls st : List AV} {h : HV} {Q : Int → HV → Prop} : G fz d 201 11 ls st h Q = X fz d 201 Q (blk 201 11) ls st h := G_eq
theorem q202_1 {fz : Int → Int → Option Int} {d : Nat} {ls st : List AV} {h : HV} {Q : Int → HV → Prop} : G fz d 202 1 ls st h Q = X fz d 202 Q (blk 202 1) ls st h := G_eq
theorem q202_2 {fz : Int → Int → Option Int} {d : Nat} {ls st : List AV} {h : HV} {Q : Int → HV → Prop} : G fz d 202 2 ls st h Q = X fz d 202 Q (blk 202 2) ls st h := G_eq
theorem q202_3 {fz : Int → Int → Option Int} {d : Nat} {ls st : List AV} {h : HV} {Q : Int → HV → Prop} : G fz d 202 3 ls st h Q = X fz d 202 Q (blk 202 3) ls st h := G_eq
theorem q202_4 {fz : Int → Int → Option Int} {d : Nat} {ls st : List AV} {h : HV} {Q : Int → HV → Prop} : G fz d 202 4 ls st h Q = X fz d 202 Q (blk 202 4) ls st h := G_eq
theorem q202_5 {fz : Int → Int → Option Int} {d : Nat} {ls st : List AV} {h : HV} {Q : Int → HV → Prop} : G fz d 202 5 ls st h Q = X fz d 202 Q (blk 202 5) ls st h := G_eq
theorem q202_6 {fz : Int → Int → Option Int} {d : Nat} {ls st : List AV} {h : HV} {Q : Int → HV → Prop} : G fz d 202 6 ls st h Q = X fz d 202 Q (blk 202 6) ls st h := G_eq
theorem q203_1 {fz : Int → Int → Option Int} {d : Nat} {ls st : List AV} {h : HV} {Q : Int → HV → Prop} : G fz d 203 1 ls st h Q = X fz d 203 Q (blk 203 1) ls st h := G_eq
theorem q203_2 {fz : Int → Int → Option Int} {d : Nat} {ls st : List AV} {h : HV} {Q : Int → HV → Prop} : G fz d 203 2 ls st h Q = X fz d 203 Q (blk 203 2) ls st h := G_eq
theorem q204_1 {fz : Int → Int → Option Int} {d : Nat} {ls st : List AV} {h : HV} {Q : Int → HV → Prop} : G fz d 204 1 ls st h Q = X fz d 204 Q (blk 204 1) ls st h := G_eq
theorem q204_2 {fz : Int → Int → Option Int} {d : Nat} {ls st : List AV} {h : HV} {Q : Int → HV → Prop} : G fz d 204 2 ls st h Q = X fz d 204 Q (blk 204 2) ls st h := G_eq
theorem q204_3 {fz : Int → Int → Option Int} {d : Nat} {ls st : List AV} {h : HV} {Q : Int → HV → Prop} : G fz d 204 3 ls st h Q = X fz d 204 Q (blk 204 3) ls st h := G_eq
theorem q204_4 {fz : Int → Int → Option Int} {d : Nat} {ls st : List AV} {h : HV} {Q : Int → HV → Prop} : G fz d 204 4 ls st h Q = X fz d 204 Q (blk 204 4) ls st h := G_eq
theorem q204_5 {fz : Int → Int → Option Int} {d : Nat} {ls st : List AV} {h : HV} {Q : Int → HV → Prop} : G fz d 204 5 ls st h Q = X fz d 204 Q (blk 204 5) ls st h := G_eq
theorem q204_6 {fz : Int → Int → Option Int} {d : Nat} {ls st : List AV} {h : HV} {Q : Int → HV → Prop} : G fz d 204 6 ls st h Q = X fz d 204 Q (blk 204 6) ls st h := G_eq
theorem q204_7 {fz : Int → Int → Option Int} {d : Nat} {ls st : List AV} {h : HV} {Q : Int → HV → Prop} : G fz d 204 7 ls st h Q = X fz d 204 Q (blk 204 7) ls st h := G_eq
theorem q204_8 {fz : Int → Int → Option Int} {d : Nat} {ls st : List AV} {h : HV} {Q : Int → HV → Prop} : G fz d 204 8 ls st h Q = X fz d 204 Q (blk 204 8) ls st h := G_eq
theorem q204_9 {fz : Int → Int → Option Int} {d : Nat} {ls st : List AV} {h : HV} {Q : Int → HV → Prop} : G fz d 204 9 ls st h Q = X fz d 204 Q (blk 204 9) ls st h := G_eq
theorem q204_10 {fz : Int → Int → Option Int} {d : Nat} {ls st : List AV} {h : HV} {Q : Int → HV → Prop} : G fz d 204 10 ls st h Q = X fz d 204 Q (blk 204 10) ls st h := G_eq
theorem q204_11 {fz : Int → Int → Option Int} {d : Nat} {ls st : List AV} {h : HV} {Q : Int → HV → Prop} : G fz d 204 11 ls st h Q = X fz d 204 Q (blk 204 11) ls st h := G_eq
theorem q204_12 {fz : Int → Int → Option Int} {d : Nat} {ls st : List AV} {h : HV} {Q : Int → HV → Prop} : G fz d 204 12 ls st h Q = X fz d 204 Q (blk 204 12) ls st h := G_eq
theorem q204_13 {fz : Int → Int → Option Int} {d : Nat} {ls st : List AV} {h : HV} {Q : Int → HV → Prop} : G fz d 204 13 ls st h Q = X fz d 204 Q (blk 204 13) ls st h := G_eq
theorem q204_14 {fz : Int → Int → Option Int} {d : Nat} {ls st : List AV} {h : HV} {Q : Int → HV → Prop} : G fz d 204 14 ls st h Q = X fz d 204 Q (blk 204 14) ls st h := G_eq
theorem q205_1 {fz : Int → Int → Option Int} {d : Nat} {ls st : List AV} {h : HV} {Q : Int → HV → Prop} : G fz d 205 1 ls st h Q = X fz d 205 Q (blk 205 1) ls st h := G_eq
theorem q205_2 {fz : Int → Int → Option Int} {d : Nat} {ls st : List AV} {h : HV} {Q : Int → HV → Prop} : G fz d 205 2 ls st h Q = X fz d 205 Q (blk 205 2) ls st h := G_eq
theorem q205_3 {fz : Int → Int → Option Int} {d : Nat} {ls st : List AV} {h : HV} {Q : Int → HV → Prop} : G fz d 205 3 ls st h Q = X fz d 205 Q (blk 205 3) ls st h := G_eq
theorem q205_4 {fz : Int → Int → Option Int} {d : Nat} {ls st : List AV} {h : HV} {Q : Int → HV → Prop} : G fz d 205 4 ls st h Q = X fz d 205 Q (blk 205 4) ls st h := G_eq
theorem q205_5 {fz : Int → Int → Option Int} {d : Nat} {ls st : List AV} {h : HV} {Q : Int → HV → Prop} : G fz d 205 5 ls st h Q = X fz d 205 Q (blk 205 5) ls st h := G_eq
theorem q205_6 {fz : Int → Int → Option Int} {d : Nat} {ls st : List AV} {h : HV} {Q : Int → HV → Prop} : G fz d 205 6 ls st h Q = X fz d 205 Q (blk 205 6) ls st h := G_eq
theorem q205_7 {fz : Int → Int → Option Int} {d : Nat} {ls st : List AV} {h : HV} {Q : Int → HV → Prop} : G fz d 205 7 ls st h Q = X fz d 205 Q (blk 205 7) ls st h := G_eq
theorem q205_8 {fz : Int → Int → Option Int} {d : Nat} {ls st : List AV} {h : HV} {Q : Int → HV → Prop} : G fz d 205 8 ls st h Q = X fz d 205 Q (blk 205 8) ls st h := G_eq
theorem q206_1 {fz : Int → Int → Option Int} {d : Nat} {ls st : List AV} {h : HV} {Q : Int → HV → Prop} : G fz d 206 1 ls st h Q = X fz d 206 Q (blk 206 1) ls st h := G_eq
theorem q206_2 {fz : Int → Int → Option Int} {d : Nat} {ls st : List AV} {h : HV} {Q : Int → HV → Prop} : G fz d 206 2 ls st h Q = X fz d 206 Q (blk 206 2) ls st h := G_eq
theorem q206_3 {fz : Int → Int → Option Int} {d : Nat} {ls st : List AV} {h : HV} {Q : Int → HV → Prop} : G fz d 206 3 ls st h Q = X fz d 206 Q (blk 206 3) ls st h := G_eq
theorem q206_4 {fz : Int → Int → Option Int} {d : Nat} {ls st : List AV} {h : HV} {Q : Int → HV → Prop} : G fz d 206 4 ls st h Q = X fz d 206 Q (blk 206 4) ls st h := G_eq
theorem q206_5 {fz : Int → Int → Option Int} {d : Nat} {ls st : List AV} {h : HV} {Q : Int → HV → Prop} : G fz d 206 5 ls st h Q = X fz d 206 Q (blk 206 5) ls st h := G_eq
theorem q206_6 {fz : Int → Int → Option Int} {d : Nat} {ls st : List AV} {h : HV} {Q : Int → HV → Prop} : G fz d 206 6 ls st h Q = X fz d 206 Q (blk 206 6) ls st h := G_eq
theorem q206_7 {fz : Int → Int → Option Int} {d : Nat} {ls st : List AV} {h : HV} {Q : Int → HV → Prop} : G fz d 206 7 ls st h Q = X fz d 206 Q (blk 206 7) ls st h := G_eq
theorem q206_8 {fz : Int → Int → Option Int} {d : Nat} {ls st : List AV} {h : HV} {Q : Int → HV → Prop} : G fz d 206 8 ls st h Q = X fz d 206 Q (blk 206 8) ls st h := G_eq
theorem q206_9 {fz : Int → Int → Option Int} {d : Nat} {ls st : List AV} {h : HV} {Q : Int → HV → Prop} : G fz d 206 9 ls st h Q = X fz d 206 Q (blk 206 9) ls st h := G_eq
theorem q206_10 {fz : Int → Int → Option Int} {d : Nat} {ls st : List AV} {h : HV} {Q : Int → HV → Prop} : G fz d 206 10 ls st h Q = X fz d 206 Q (blk 206 10) ls st h := G_eq
theorem q206_11 {fz : Int → Int → Option Int} {d : Nat} {ls st : List AV} {h : HV} {Q : Int → HV → Prop} : G fz d 206 11 ls st h Q = X fz d 206 Q (blk 206 11) ls st h := G_eq
theorem q206_12 {fz : Int → Int → Option Int} {d : Nat} {ls st : List AV} {h : HV} {Q : Int → HV → Prop} : G fz d 206 12 ls st h Q = X fz d 206 Q (blk 206 12) ls st h := G_eq
theorem q206_13 {fz : Int → Int → Option Int} {d : Nat} {ls st : List AV} {h : HV} {Q : Int → HV → Prop} : G fz d 206 13 ls st h Q = X fz d 206 Q (blk 206 13) ls st h := G_eq
theorem q206_14 {fz : Int → Int → Option Int} {d : Nat} {ls st : List AV} {h : HV} {Q : Int → HV → Prop} : G fz d 206 14 ls st h Q = X fz d 206 Q (blk 206 14) ls st h := G_eq
theorem q207_1 {fz : Int → Int → Option Int} {d : Nat} {ls st : List AV} {h : HV} {Q : Int → HV → Prop} : G fz d 207 1 ls st h Q = X fz d 207 Q (blk 207 1) ls st h := G_eq
theorem q207_2 {fz : Int → Int → Option Int} {d : Nat} {ls st : List AV} {h : HV} {Q : Int → HV → Prop} : G fz d 207 2 ls st h Q = X fz d 207 Q (blk 207 2) ls st h := G_eq
theorem q208_1 {fz : Int → Int → Option Int} {d : Nat} {ls st : List AV} {h : HV} {Q : Int → HV → Prop} : G fz d 208 1 ls st h Q = X fz d 208 Q (blk 208 1) ls st h := G_eq
theorem q208_2 {fz : Int → Int → Option Int} {d : Nat} {ls st : List AV} {h : HV} {Q : Int → HV → Prop} : G fz d 208 2 ls st h Q = X fz d 208 Q (blk 208 2) ls st h := G_eq
theorem q209_1 {fz : Int → Int → Option Int} {d : Nat} {ls st : List AV} {h : HV} {Q : Int → HV → Prop} : G fz d 209 1 ls st h Q = X fz d 209 Q (blk 209 1) ls st h := G_eq
theorem q209_2 {fz : Int → Int → Option Int} {d : Nat} {ls st : List AV} {h : HV} {Q : Int → HV → Prop} : G fz d 209 2 ls st h Q = X fz d 209 Q (blk 209 2) ls st h := G_eq
theorem q210_1 {fz : Int → Int → Option Int} {d : Nat} {ls st : List AV} {h : HV} {Q : Int → HV → Prop} : G fz d 210 1 ls st h Q = X fz d 210 Q (blk 210 1) ls st h := G_eq
theorem q210_2 {fz : Int → Int → Option Int} {d : Nat} {ls st : List AV} {h : HV} {Q : Int → HV → Prop} : G fz d 210 2 ls st h Q = X fz d 210 Q (blk 210 2) ls st h := G_eq
theorem q210_3 {fz : Int → Int → Option Int} {d : Nat} {ls st : List AV} {h : HV} {Q : Int → HV → Prop} : G fz d 210 3 ls st h Q = X fz d 210 Q (blk 210 3) ls st h := G_eq
theorem q211_1 {fz : Int → Int → Option Int} {d : Nat} {ls st : List AV} {h : HV} {Q : Int → HV → Prop} : G fz d 211 1 ls st h Q = X fz d 211 Q (blk 211 1) ls st h := G_eq
theorem q211_2 {fz : Int → Int → Option Int} {d : Nat} {ls st : List AV} {h : HV} {Q : Int → HV → Prop} : G fz d 211 2 ls st h Q = X fz d 211 Q (blk 211 2) ls st h := G_eq
theorem q211_3 {fz : Int → Int → Option Int} {d : Nat} {ls st : List AV} {h : HV} {Q : Int → HV → Prop} : G fz d 211 3 ls st h Q = X fz d 211 Q (blk 211 3) ls st h := G_eq
theorem q211_4 {fz : Int → Int → Option Int} {d : Nat} {ls st : List AV} {h : HV} {Q : Int → HV → Prop} : G fz d 211 4 ls st h Q = X fz d 211 Q (blk 211 4) ls st h := G_eq
theorem q211_5 {fz : Int → Int → Option Int} {d : Nat} {ls st : List AV} {h : HV} {Q : Int → HV → Prop} : G fz d 211 5 ls st h Q = X fz d 211 Q (blk 211 5) ls st h := G_eq
theorem q211_6 {fz : Int → Int → Option Int} {d : Nat} {ls st : List AV} {h : HV} {Q : Int → HV → Prop} : G fz d 211 6 ls st h Q = X fz d 211 Q (blk 211 6) ls st h := G_eq
theorem q211_7 {fz : Int → Int → Option Int} {d : Nat} {ls st : List AV} {h : HV} {Q : Int → HV → Prop} : G fz d 211 7 ls st h Q = X fz d 211 Q (blk 211 7) ls st h := G_eq
theorem q212_1 {fz : Int → Int → Option Int} {d : Nat} {ls st : List AV} {h : HV} {Q : Int → HV → Prop} : G fz d 212 1 ls st h Q = X fz d 212 Q (blk 212 1) ls st h := G_eq
theorem q212_2 {fz : Int → Int → Option Int} {d : Nat} {ls st : List AV} {h : HV} {Q : Int → HV → Prop} : G fz d 212 2 ls st h Q = X fz d 212 Q (blk 212 2) ls st h := G_eq
theorem q212_3 {fz : Int → Int → Option Int} {d : Nat} {ls st : List AV} {h : HV} {Q : Int → HV → Prop} : G fz d 212 3 ls st h Q = X fz d 212 Q (blk 212 3) ls st h := G_eq
theorem q212_4 {fz : Int → Int → Option Int} {d : Nat} {ls st : List AV} {h : HV} {Q : Int → HV → Prop} : G fz d 212 4 ls st h Q = X fz d 212 Q (blk 212 4) ls st h := G_eq
theorem q212_5 {fz : Int → Int → Option Int} {d : Nat} {ls st : List AV} {h : HV} {Q : Int → HV → Prop} : G fz d 212 5 ls st h Q = X fz d 212 Q (blk 212 5) ls st h := G_eq
theorem q212_6 {fz : Int → Int → Option Int} {d : Nat} {ls st : List AV} {h : HV} {Q : Int → HV → Prop} : G fz d 212 6 ls st h Q = X fz d 212 Q (blk 212 6) ls st h := G_eq
theorem q212_7 {fz : Int → Int → Option Int} {d : Nat} {ls st : List AV} {h : HV} {Q : Int → HV → Prop} : G fz d 212 7 ls st h Q = X fz d 212 Q (blk 212 7) ls st h := G_eq
theorem q213_1 {fz : Int → Int → Option Int} {d : Nat} {ls st : List AV} {h : HV} {Q : Int → HV → Prop} : G fz d 213 1 ls st h Q = X fz d 213 Q (blk 213 1) ls st h := G_eq
theorem q213_2 {fz : Int → Int → Option Int} {d : Nat} {ls st : List AV} {h : HV} {Q : Int → HV → Prop} : G fz d 213 2 ls st h Q = X fz d 213 Q (blk 213 2) ls st h := G_eq
theorem q213_3 {fz : Int → Int → Option Int} {d : Nat} {ls st : List AV} {h : HV} {Q : Int → HV → Prop} : G fz d 213 3 ls st h Q = X fz d 213 Q (blk 213 3) ls st h := G_eq
theorem q214_1 {fz : Int → Int → Option Int} {d : Nat} {ls st : List AV} {h : HV} {Q : Int → HV → Prop} : G fz d 214 1 ls st h Q = X fz d 214 Q (blk 214 1) ls st h := G_eq
theorem q214_2 {fz : Int → Int → Option Int} {d : Nat} {ls st : List AV} {h : HV} {Q : Int → HV → Prop} : G fz d 214 2 ls st h Q = X fz d 214 Q (blk 214 2) ls st h := G_eq
theorem q214_3 {fz : Int → Int → Option Int} {d : Nat} {ls st : List AV} {h : HV} {Q : Int → HV → Prop} : G fz d 214 3 ls st h Q = X fz d 214 Q (blk 214 3) ls st h := G_eq
theorem q214_4 {fz : Int → Int → Option Int} {d : Nat} {ls st : List AV} {h : HV} {Q : Int → HV → Prop} : G fz d 214 4 ls st h Q = X fz d 214 Q (blk 214 4) ls st h := G_eq
theorem q215_1 {fz : Int → Int → Option Int} {d : Nat} {ls st : List AV} {h : HV} {Q : Int → HV → Prop} : G fz d 215 1 ls st h Q = X fz d 215 Q (blk 215 1) ls st h := G_eq
theorem q215_2 {fz : Int → Int → Option Int} {d : Nat} {ls st : List AV} {h : HV} {Q : Int → HV → Prop} : G fz d 215 2 ls st h Q = X fz d 215 Q (blk 215 2) ls st h := G_eq
theorem q216_1 {fz : Int → Int → Option Int} {d : Nat} {ls st : List AV} {h : HV} {Q : Int → HV → Prop} : G fz d 216 1 ls st h Q = X fz d 216 Q (blk 216 1) ls st h := G_eq
theorem q216_2 {fz : Int → Int → Option Int} {d : Nat} {ls st : List AV} {h : HV} {Q : Int → HV → Prop} : G fz d 216 2 ls st h Q = X fz d 216 Q (blk 216 2) ls st h := G_eq
theorem q217_1 {fz : Int → Int → Option Int} {d : Nat} {ls st : List AV} {h : HV} {Q : Int → HV → Prop} : G fz d 217 1 ls st h Q = X fz d 217 Q (blk 217 1) ls st h := G_eq
theorem q218_1 {fz : Int → Int → Option Int} {d : Nat} {ls st : List AV} {h : HV} {Q : Int → HV → Prop} : G fz d 218 1 ls st h Q = X fz d 218 Q (blk 218 1) ls st h := G_eq
theorem q218_2 {fz : Int → Int → Option Int} {d : Nat} {ls st : List AV} {h : HV} {Q : Int → HV → Prop} : G fz d 218 2 ls st h Q = X fz d 218 Q (blk 218 2) ls st h := G_eq
theorem q219_1 {fz : Int → Int → Option Int} {d : Nat} {ls st : List AV} {h : HV} {Q : Int → HV → Prop} : G fz d 219 1 ls st h Q = X fz d 219 Q (blk 219 1) ls st h := G_eq
theorem q219_2 {fz : Int → Int → Option Int} {d : Nat} {ls st : List AV} {h : HV} {Q : Int → HV → Prop} : G fz d 219 2 ls st h Q = X fz d 219 Q (blk 219 2) ls st h := G_eq
theorem q219_3 {fz : Int → Int → Option Int} {d : Nat} {ls st : List AV} {h : HV} {Q : Int → HV → Prop} : G fz d 219 3 ls st h Q = X fz d 219 Q (blk 219 3) ls st h := G_eq
theorem q219_4 {fz : Int → Int → Option Int} {d : Nat} {ls st : List AV} {h : HV} {Q : Int → HV → Prop} : G fz d 219 4 ls st h Q = X fz d 219 Q (blk 219 4) ls st h := G_eq
theorem q219_5 {fz : Int → Int → Option Int} {d : Nat} {ls st : List AV} {h : HV} {Q : Int → HV → Prop} : G fz d 219 5 ls st h Q = X fz d 219 Q (blk 219 5) ls st h := G_eq
theorem q219_6 {fz : Int → Int → Option Int} {d : Nat} {ls st : List AV} {h : HV} {Q : Int → HV → Prop} : G fz d 219 6 ls st h Q = X fz d 219 Q (blk 219 6) ls st h := G_eq
theorem q219_7 {fz : Int → Int → Option Int} {d : Nat} {ls st : List AV} {h : HV} {Q : Int → HV → Prop} : G fz d 219 7 ls st h Q = X fz d 219 Q (blk 219 7) ls st h := G_eq
theorem q219_8 {fz : Int → Int → Option Int} {d : Nat} {ls st : List AV} {h : HV} {Q : Int → HV → Prop} : G fz d 219 8 ls st h Q = X fz d 219 Q (blk 219 8) ls st h := G_eq
theorem q219_9 {fz : Int → Int → Option Int} {d : Nat} {ls st : List AV} {h : HV} {Q : Int → HV → Prop} : G fz d 219 9 ls st h Q = X fz d 219 Q (blk 219 9) ls st h := G_eq
theorem q219_10 {fz : Int → Int → Option Int} {d : Nat} {ls st : List AV} {h : HV} {Q : Int → HV → Prop} : G fz d 219 10 ls st h Q = X fz d 219 Q (blk 219 10) ls st h := G_eq
theorem q219_11 {fz : Int → Int → Option Int} {d : Nat} {ls st : List AV} {h : HV} {Q : Int → HV → Prop} : G fz d 219 11 ls st h Q = X fz d 219 Q (blk 219 11) ls st h := G_eq
theorem q220_1 {fz : Int → Int → Option Int} {d : Nat} {ls st : List AV} {h : HV} {Q : Int → HV → Prop} : G fz d 220 1 ls st h Q = X fz d 220 Q (blk 220 1) ls st h := G_eq
theorem q220_2 {fz : Int → Int → Option Int} {d : Nat} {ls st : List AV} {h : HV} {Q : Int → HV → Prop} : G fz d 220 2 ls st h Q = X fz d 220 Q (blk 220 2) ls st h := G_eq
theorem q220_3 {fz : Int → Int → Option Int} {d : Nat} {ls st : List AV} {h : HV} {Q : Int → HV → Prop} : G fz d 220 3 ls st h Q = X fz d 220 Q (blk 220 3) ls st h := G_eq
theorem q220_4 {fz : Int → Int → Option Int} {d : Nat} {ls st : List AV} {h : HV} {Q : Int → HV → Prop} : G fz d 220 4 ls st h Q = X fz d 220 Q (blk 220 4) ls st h := G_eq
theorem q220_5 {fz : Int → Int → Option Int} {d : Nat} {ls st : List AV} {h : HV} {Q : Int → HV → Prop} : G fz d 220 5 ls st h Q = X fz d 220 Q (blk 220 5) ls st h := G_eq
theorem q220_6 {fz : Int → Int → Option Int} {d : Nat} {ls st : List AV} {h : HV} {Q : Int → HV → Prop} : G fz d 220 6 ls st h Q = X fz d 220 Q (blk 220 6) ls st h := G_eq
theorem q220_7 {fz : Int → Int → Option Int} {d : Nat} {ls st : List AV} {h : HV} {Q : Int → HV → Prop} : G fz d 220 7 ls st h Q = X fz d 220 Q (blk 220 7) ls st h := G_eq
theorem q220_8 {fz : Int → Int → Option Int} {d : Nat} {ls st : List AV} {h : HV} {Q : Int → HV → Prop} : G fz d 220 8 ls st h Q = X fz d 220 Q (blk 220 8) ls st h := G_eq
theorem q221_1 {fz : Int → Int → Option Int} {d : Nat} {ls st : List AV} {h : HV} {Q : Int → HV → Prop} : G fz d 221 1 ls st h Q = X fz d 221 Q (blk 221 1) ls st h := G_eq
theorem q222_1 {fz : Int → Int → Option Int} {d : Nat} {ls st : List AV} {h : HV} {Q : Int → HV → Prop} : G fz d 222 1 ls st h Q = X fz d 222 Q (blk 222 1) ls st h := G_eq
theorem q223_1 {fz : Int → Int → Option Int} {d : Nat} {ls st : List AV} {h : HV} {Q : Int → HV → Prop} : G fz d 223 1 ls st h Q = X fz d 223 Q (blk 223 1) ls st h := G_eq
theorem q223_2 {fz : Int → Int → Option Int} {d : Nat} {ls st : List AV} {h : HV} {Q : Int → HV → Prop} : G fz d 223 2 ls st h Q = X fz d 223 Q (blk 223 2) ls st h := G_eq
theorem q223_3 {fz : Int → Int → Option Int} {d : Nat} {ls st : List AV} {h : HV} {Q : Int → HV → Prop} : G fz d 223 3 ls st h Q = X fz d 223 Q (blk 223 3) ls st h := G_eq
theorem q224_1 {fz : Int → Int → Option Int} {d : Nat} {ls st : List AV} {h : HV} {Q : Int → HV → Prop} : G fz d 224 1 ls st h Q = X fz d 224 Q (blk 224 1) ls st h := G_eq
theorem q225_1 {fz : Int → Int → Option Int} {d : Nat} {ls st : List AV} {h : HV} {Q : Int → HV → Prop} : G fz d 225 1 ls st h Q = X fz d 225 Q (blk 225 1) ls st h := G_eq
theorem q225_2 {fz : Int → Int → Option Int} {d : Nat} {ls st : List AV} {h : HV} {Q : Int → HV → Prop} : G fz d 225 2 ls st h Q = X fz d 225 Q (blk 225 2) ls st h := G_eq
theorem q226_1 {fz : Int → Int → Option Int} {d : Nat} {ls st : List AV} {h : HV} {Q : Int → HV → Prop} : G fz d 226 1 ls st h Q = X fz d 226 Q (blk 226 1) ls st h := G_eq
theorem q226_2 {fz : Int → Int → Option Int} {d : Nat} {ls st : List AV} {h : HV} {Q : Int → HV → Prop} : G fz d 226 2 ls st h Q = X fz d 226 Q (blk 226 2) ls st h := G_eq
theorem q226_3 {fz : Int → Int → Option Int} {d : Nat} {ls st : List AV} {h : HV} {Q : Int → HV → Prop} : G fz d 226 3 ls st h Q = X fz d 226 Q (blk 226 3) ls st h := G_eq
theorem q226_4 {fz : Int → Int → Option Int} {d : Nat} {ls st : List AV} {h : HV} {Q : Int → HV → Prop} : G fz d 226 4 ls st h Q = X fz d 226 Q (blk 226 4) ls st h := G_eq
theorem q226_5 {fz : Int → Int → Option Int} {d : Nat} {ls st : List AV} {h : HV} {Q : Int → HV → Prop} : G fz d 226 5 ls st h Q = X fz d 226 Q (blk 226 5) ls st h := G_eq
theorem q226_6 {fz : Int → Int → Option Int} {d : Nat} {ls st : List AV} {h : HV} {Q : Int → HV → Prop} : G fz d 226 6 ls st h Q = X fz d 226 Q (blk 226 6) ls st h := G_eq
theorem q227_1 {fz : Int → Int → Option Int} {d : Nat} {ls st : List AV} {h : HV} {Q : Int → HV → Prop} : G fz d 227 1 ls st h Q = X fz d 227 Q (blk 227 1) ls st h := G_eq
theorem q228_1 {fz : Int → Int → Option Int} {d : Nat} {ls st : List AV} {h : HV} {Q : Int → HV → Prop} : G fz d 228 1 ls st h Q = X fz d 228 Q (blk 228 1) ls st h := G_eq
theorem q228_2 {fz : Int → Int → Option Int} {d : Nat} {ls st : List AV} {h : HV} {Q : Int → HV → Prop} : G fz d 228 2 ls st h Q = X fz d 228 Q (blk 228 2) ls st h := G_eq
theorem q228_3 {fz : Int → Int → Option Int} {d : Nat} {ls st : List AV} {h : HV} {Q : Int → HV → Prop} : G fz d 228 3 ls st h Q = X fz d 228 Q (blk 228 3) ls st h := G_eq
theorem q229_1 {fz : Int → Int → Option Int} {d : Nat} {ls st : List AV} {h : HV} {Q : Int → HV → Prop} : G fz d 229 1 ls st h Q = X fz d 229 Q (blk 229 1) ls st h := G_eq
theorem q229_2 {fz : Int → Int → Option Int} {d : Nat} {ls st : List AV} {h : HV} {Q : Int → HV → Prop} : G fz d 229 2 ls st h Q = X fz d 229 Q (blk 229 2) ls st h := G_eq
theorem q229_3 {fz : Int → Int → Option Int} {d : Nat} {ls st : List AV} {h : HV} {Q : Int → HV → Prop} : G fz d 229 3 ls st h Q = X fz d 229 Q (blk 229 3) ls st h := G_eq
theorem q229_4 {fz : Int → Int → Option Int} {d : Nat} {ls st : List AV} {h : HV} {Q : Int → HV → Prop} : G fz d 229 4 ls st h Q = X fz d 229 Q (blk 229 4) ls st h := G_eq
theorem q229_5 {fz : Int → Int → Option Int} {d : Nat} {ls st : List AV} {h : HV} {Q : Int → HV → Prop} : G fz d 229 5 ls st h Q = X fz d 229 Q (blk 229 5) ls st h := G_eq
theorem q229_6 {fz : Int → Int → Option Int} {d : Nat} {ls st : List AV} {h : HV} {Q : Int → HV → Prop} : G fz d 229 6 ls st h Q = X fz d 229 Q (blk 229 6) ls st h := G_eq
theorem q229_7 {fz : Int → Int → Option Int} {d : Nat} {ls st : List AV} {h : HV} {Q : Int → HV → Prop} : G fz d 229 7 ls st h Q = X fz d 229 Q (blk 229 7) ls st h := G_eq
theorem q230_1 {fz : Int → Int → Option Int} {d : Nat} {ls st : List AV} {h : HV} {Q : Int → HV → Prop} : G fz d 230 1 ls st h Q = X fz d 230 Q (blk 230 1) ls st h := G_eq
theorem q230_2 {fz : Int → Int → Option Int} {d : Nat} {ls st : List AV} {h : HV} {Q : Int → HV → Prop} : G fz d 230 2 ls st h Q = X fz d 230 Q (blk 230 2) ls st h := G_eq
theorem q230_3 {fz : Int → Int → Option Int} {d : Nat} {ls st : List AV} {h : HV} {Q : Int → HV → Prop} : G fz d 230 3 ls st h Q = X fz d 230 Q (blk 230 3) ls st h := G_eq
theorem q230_4 {fz : Int → Int → Option Int} {d : Nat} {ls st : List AV} {h : HV} {Q : Int → HV → Prop} : G fz d 230 4 ls st h Q = X fz d 230 Q (blk 230 4) ls st h := G_eq
theorem q230_5 {fz : Int → Int → Option Int} {d : Nat} {ls st : List AV} {h : HV} {Q : Int → HV → Prop} : G fz d 230 5 ls st h Q = X fz d 230 Q (blk 230 5) ls st h := G_eq
theorem q230_6 {fz : Int → Int → Option Int} {d : Nat} {ls st : List AV} {h : HV} {Q : Int → HV → Prop} : G fz d 230 6 ls st h Q = X fz d 230 Q (blk 230 6) ls st h := G_eq
theorem q231_1 {fz : Int → Int → Option Int} {d : Nat} {ls st : List AV} {h : HV} {Q : Int → HV → Prop} : G fz d 231 1 ls st h Q = X fz d 231 Q (blk 231 1) ls st h := G_eq
theorem q231_2 {fz : Int → Int → Option Int} {d : Nat} {ls st : List AV} {h : HV} {Q : Int → HV → Prop} : G fz d 231 2 ls st h Q = X fz d 231 Q (blk 231 2) ls st h := G_eq
theorem q231_3 {fz : Int → Int → Option Int} {d : Nat} {ls st : List AV} {h : HV} {Q : Int → HV → Prop} : G fz d 231 3 ls st h Q = X fz d 231 Q (blk 231 3) ls st h := G_eq
theorem q231_4 {fz : Int → Int → Option Int} {d : Nat} {ls st : List AV} {h : HV} {Q : Int → HV → Prop} : G fz d 231 4 ls st h Q = X fz d 231 Q (blk 231 4) ls st h := G_eq
theorem q231_5 {fz : Int → Int → Option Int} {d : Nat} {ls st : List AV} {h : HV} {Q : Int → HV → Prop} : G fz d 231 5 ls st h Q = X fz d 231 Q (blk 231 5) ls st h := G_eq
theorem q231_6 {fz : Int → Int → Option Int} {d : Nat} {ls st : List AV} {h : HV} {Q : Int → HV → Prop} : G fz d 231 6 ls st h Q = X fz d 231 Q (blk 231 6) ls st h := G_eq
theorem q231_7 {fz : Int → Int → Option Int} {d : Nat} {ls st : List AV} {h : HV} {Q : Int → HV → Prop} : G fz d 231 7 ls st h Q = X fz d 231 Q (blk 231 7) ls st h := G_eq
theorem q231_8 {fz : Int → Int → Option Int} {d : Nat} {ls st : List AV} {h : HV} {Q : Int → HV → Prop} : G fz d 231 8 ls st h Q = X fz d 231 Q (blk 231 8) ls st h := G_eq
theorem q232_1 {fz : Int → Int → Option Int} {d : Nat} {ls st : List AV} {h : HV} {Q : Int → HV → Prop} : G fz d 232 1 ls st h Q = X fz d 232 Q (blk 232 1) ls st h := G_eq
theorem q232_2 {fz : Int → Int → Option Int} {d : Nat} {ls st : List AV} {h : HV} {Q : Int → HV → Prop} : G fz d 232 2 ls st h Q = X fz d 232 Q (blk 232 2) ls st h := G_eq
theorem q232_3 {fz : Int → Int → Option Int} {d : Nat} {ls st : List AV} {h : HV} {Q : Int → HV → Prop} : G fz d 232 3 ls st h Q = X fz d 232 Q (blk 232 3) ls st h := G_eq
theorem q235_1 {fz : Int → Int → Option Int} {d : Nat} {ls st : List AV} {h : HV} {Q : Int → HV → Prop} : G fz d 235 1 ls st h Q = X fz d 235 Q (blk 235 1) ls st h := G_eq
theorem q235_2 {fz : Int → Int → Option Int} {d : Nat} {ls st : List AV} {h : HV} {Q : Int → HV → Prop} : G fz d 235 2 ls st h Q = X fz d 235 Q (blk 235 2) ls st h := G_eq
theorem q235_3 {fz : Int → Int → Option Int} {d : Nat} {ls st : List AV} {h : HV} {Q : Int → HV → Prop} : G fz d 235 3 ls st h Q = X fz d 235 Q (blk 235 3) ls st h := G_eq
theorem q235_4 {fz : Int → Int → Option Int} {d : Nat} {ls st : List AV} {h : HV} {Q : Int → HV → Prop} : G fz d 235 4 ls st h Q = X fz d 235 Q (blk 235 4) ls st h := G_eq
theorem q235_5 {fz : Int → Int → Option Int} {d : Nat} {ls st : List AV} {h : HV} {Q : Int → HV → Prop} : G fz d 235 5 ls st h Q = X fz d 235 Q (blk 235 5) ls st h := G_eq
theorem q235_6 {fz : Int → Int → Option Int} {d : Nat} {ls st : List AV} {h : HV} {Q : Int → HV → Prop} : G fz d 235 6 ls st h Q = X fz d 235 Q (blk 235 6) ls st h := G_eq
theorem q235_7 {fz : Int → Int → Option Int} {d : Nat} {ls st : List AV} {h : HV} {Q : Int → HV → Prop} : G fz d 235 7 ls st h Q = X fz d 235 Q (blk 235 7) ls st h := G_eq
theorem q235_8 {fz : Int → Int → Option Int} {d : Nat} {ls st : List AV} {h : HV} {Q : Int → HV → Prop} : G fz d 235 8 ls st h Q = X fz d 235 Q (blk 235 8) ls st h := G_eq
theorem q235_9 {fz : Int → Int → Option Int} {d : Nat} {ls st : List AV} {h : HV} {Q : Int → HV → Prop} : G fz d 235 9 ls st h Q = X fz d 235 Q (blk 235 9) ls st h := G_eq
theorem q235_10 {fz : Int → Int → Option Int} {d : Nat} {ls st : List AV} {h : HV} {Q : Int → HV → Prop} : G fz d 235 10 ls st h Q = X fz d 235 Q (blk 235 10) ls st h := G_eq
theorem q235_11 {fz : Int → Int → Option Int} {d : Nat} {ls st : List AV} {h : HV} {Q : Int → HV → Prop} : G fz d 235 11 ls st h Q = X fz d 235 Q (blk 235 11) ls st h := G_eq
theorem q237_1 {fz : Int → Int → Option Int} {d : Nat} {ls st : List AV} {h : HV} {Q : Int → HV → Prop} : G fz d 237 1 ls st h Q = X fz d 237 Q (blk 237 1) ls st h := G_eq
theorem q237_2 {fz : Int → Int → Option Int} {d : Nat} {ls st : List AV} {h : HV} {Q : Int → HV → Prop} : G fz d 237 2 ls st h Q = X fz d 237 Q (blk 237 2) ls st h := G_eq
theorem q237_3 {fz : Int → Int → Option Int} {d : Nat} {ls st : List AV} {h : HV} {Q : Int → HV → Prop} : G fz d 237 3 ls st h Q = X fz d 237 Q (blk 237 3) ls st h := G_eq
theorem q237_4 {fz : Int → Int → Option Int} {d : Nat} {ls st : List AV} {h : HV} {Q : Int → HV → Prop} : G fz d 237 4 ls st h Q = X fz d 237 Q (blk 237 4) ls st h := G_eq
theorem q237_5 {fz : Int → Int → Option Int} {d : Nat} {ls st : List AV} {h : HV} {Q : Int → HV → Prop} : G fz d 237 5 ls st h Q = X fz d 237 Q (blk 237 5) ls st h := G_eq
theorem q238_1 {fz : Int → Int → Option Int} {d : Nat} {ls st : List AV} {h : HV} {Q : Int → HV → Prop} : G fz d 238 1 ls st h Q = X fz d 238 Q (blk 238 1) ls st h := G_eq
theorem q238_2 {fz : Int → Int → Option Int} {d : Nat} {ls st : List AV} {h : HV} {Q : Int → HV → Prop} : G fz d 238 2 ls st h Q = X fz d 238 Q (blk 238 2) ls st h := G_eq
theorem q238_3 {fz : Int → Int → Option Int} {d : Nat} {ls st : List AV} {h : HV} {Q : Int → HV → Prop} : G fz d 238 3 ls st h Q = X fz d 238 Q (blk 238 3) ls st h := G_eq
theorem q238_4 {fz : Int → Int → Option Int} {d : Nat} {ls st : List AV} {h : HV} {Q : Int → HV → Prop} : G fz d 238 4 ls st h Q = X fz d 238 Q (blk 238 4) ls st h := G_eq
theorem q238_5 {fz : Int → Int → Option Int} {d : Nat} {ls st : List AV} {h : HV} {Q : Int → HV → Prop} : G fz d 238 5 ls st h Q = X fz d 238 Q (blk 238 5) ls st h := G_eq
theorem q238_6 {fz : Int → Int → Option Int} {d : Nat} {ls st : List AV} {h : HV} {Q : Int → HV → Prop} : G fz d 238 6 ls st h Q = X fz d 238 Q (blk 238 6) ls st h := G_eq
theorem q238_7 {fz : Int → Int → Option Int} {d : Nat} {ls st : List AV} {h : HV} {Q : Int → HV → Prop} : G fz d 238 7 ls st h Q = X fz d 238 Q (blk 238 7) ls st h := G_eq
theorem q239_1 {fz : Int → Int → Option Int} {d : Nat} {ls st : List AV} {h : HV} {Q : Int → HV → Prop} : G fz d 239 1 ls st h Q = X fz d 239 Q (blk 239 1) ls st h := G_eq
theorem q239_2 {fz : Int → Int → Option Int} {d : Nat} {ls st : List AV} {h : HV} {Q : Int → HV → Prop} : G fz d 239 2 ls st h Q = X fz d 239 Q (blk 239 2) ls st h := G_eq
theorem q239_3 {fz : Int → Int → Option Int} {d : Nat} {ls st : List AV} {h : HV} {Q : Int → HV → Prop} : G fz d 239 3 ls st h Q = X fz d 239 Q (blk 239 3) ls st h := G_eq
theorem q239_4 {fz : Int → Int → Option Int} {d : Nat} {ls st : List AV} {h : HV} {Q : Int → HV → Prop} : G fz d 239 4 ls st h Q = X fz d 239 Q (blk 239 4) ls st h := G_eq
theorem q239_5 {fz : Int → Int → Option Int} {d : Nat} {ls st : List AV} {h : HV} {Q : Int → HV → Prop} : G fz d 239 5 ls st h Q = X fz d 239 Q (blk 239 5) ls st h := G_eq
theorem q240_1 {fz : Int → Int → Option Int} {d : Nat} {ls st : List AV} {h : HV} {Q : Int → HV → Prop} : G fz d 240 1 ls st h Q = X fz d 240 Q (blk 240 1) ls st h := G_eq
theorem q240_2 {fz : Int → Int → Option Int} {d : Nat} {ls st : List AV} {h : HV} {Q : Int → HV → Prop} : G fz d 240 2 ls st h Q = X fz d 240 Q (blk 240 2) ls st h := G_eq
theorem q241_1 {fz : Int → Int → Option Int} {d : Nat} {ls st : List AV} {h : HV} {Q : Int → HV → Prop} : G fz d 241 1 ls st h Q = X fz d 241 Q (blk 241 1) ls st h := G_eq
theorem q241_2 {fz : Int → Int → Option Int} {d : Nat} {ls st : List AV} {h : HV} {Q : Int → HV → Prop} : G fz d 241 2 ls st h Q = X fz d 241 Q (blk 241 2) ls st h := G_eq
theorem q244_1 {fz : Int → Int → Option Int} {d : Nat} {ls st : List AV} {h : HV} {Q : Int → HV → Prop} : G fz d 244 1 ls st h Q = X fz d 244 Q (blk 244 1) ls st h := G_eq
theorem q244_2 {fz : Int → Int → Option Int} {d : Nat} {ls st : List AV} {h : HV} {Q : Int → HV → Prop} : G fz d 244 2 ls st h Q = X fz d 244 Q (blk 244 2) ls st h := G_eq
theorem q244_3 {fz : Int → Int → Option Int} {d : Nat} {ls st : List AV} {h : HV} {Q : Int → HV → Prop} : G fz d 244 3 ls st h Q = X fz d 244 Q (blk 244 3) ls st h := G_eq
theorem q245_1 {fz : Int → Int → Option Int} {d : Nat} {ls st : List AV} {h : HV} {Q : Int → HV → Prop} : G fz d 245 1 ls st h Q = X fz d 245 Q (blk 245 1) ls st h := G_eq
theorem q245_2 {fz : Int → Int → Option Int} {d : Nat} {ls st : List AV} {h : HV} {Q : Int → HV → Prop} : G fz d 245 2 ls st h Q = X fz d 245 Q (blk 245 2) ls st h := G_eq
theorem q245_3 {fz : Int → Int → Option Int} {d : Nat} {ls st : List AV} {h : HV} {Q : Int → HV → Prop} : G fz d 245 3 ls st h Q = X fz d 245 Q (blk 245 3) ls st h := G_eq
theorem q246_1 {fz : Int → Int → Option Int} {d : Nat} {ls st : List AV} {h : HV} {Q : Int → HV → Prop} : G fz d 246 1 ls st h Q = X fz d 246 Q (blk 246 1) ls st h := G_eq
theorem q246_2 {fz : Int → Int → Option Int} {d : Nat} {ls st : List AV} {h : HV} {Q : Int → HV → Prop} : G fz d 246 2 ls st h Q = X fz d 246 Q (blk 246 2) ls st h := G_eq
theorem q248_1 {fz : Int → Int → Option Int} {d : Nat} {ls st : List AV} {h : HV} {Q : Int → HV → Prop} : G fz d 248 1 ls st h Q = X fz d 248 Q (blk 248 1) ls st h := G_eq
theorem q248_2 {fz : Int → Int → Option Int} {d : Nat} {ls st : List AV} {h : HV} {Q : Int → HV → Prop} : G fz d 248 2 ls st h Q = X fz d 248 Q (blk 248 2) ls st h := G_eq
theorem q248_3 {fz : Int → Int → Option Int} {d : Nat} {ls st : List AV} {h : HV} {Q : Int → HV → Prop} : G fz d 248 3 ls st h Q = X fz d 248 Q (blk 248 3) ls st h := G_eq
theorem q248_4 {fz : Int → Int → Option Int} {d : Nat} {ls st : List AV} {h : HV} {Q : Int → HV → Prop} : G fz d 248 4 ls st h Q = X fz d 248 Q (blk 248 4) ls st h := G_eq
theorem q249_1 {fz : Int → Int → Option Int} {d : Nat} {ls st : List AV} {h : HV} {Q : Int → HV → Prop} : G fz d 249 1 ls st h Q = X fz d 249 Q (blk 249 1) ls st h := G_eq
theorem q249_2 {fz : Int → Int → Option Int} {d : Nat} {ls st : List AV} {h : HV} {Q : Int → HV → Prop} : G fz d 249 2 ls st h Q = X fz d 249 Q (blk 249 2) ls st h := G_eq
theorem q250_1 {fz : Int → Int → Option Int} {d : Nat} {ls st : List AV} {h : HV} {Q : Int → HV → Prop} : G fz d 250 1 ls st h Q = X fz d 250 Q (blk 250 1) ls st h := G_eq
theorem q251_1 {fz : Int → Int → Option Int} {d : Nat} {ls st : List AV} {h : HV} {Q : Int → HV → Prop} : G fz d 251 1 ls st h Q = X fz d 251 Q (blk 251 1) ls st h := G_eq
theorem q251_2 {fz : Int → Int → Option Int} {d : Nat} {ls st : List AV} {h : HV} {Q : Int → HV → Prop} : G fz d 251 2 ls st h Q = X fz d 251 Q (blk 251 2) ls st h := G_eq
theorem q252_1 {fz : Int → Int → Option Int} {d : Nat} {ls st : List AV} {h : HV} {Q : Int → HV → Prop} : G fz d 252 1 ls st h Q = X fz d 252 Q (blk 252 1) ls st h := G_eq
theorem q252_2 {fz : Int → Int → Option Int} {d : Nat} {ls st : List AV} {h : HV} {Q : Int → HV → Prop} : G fz d 252 2 ls st h Q = X fz d 252 Q (blk 252 2) ls st h := G_eq
theorem q253_1 {fz : Int → Int → Option Int} {d : Nat} {ls st : List AV} {h : HV} {Q : Int → HV → Prop} : G fz d 253 1 ls st h Q = X fz d 253 Q (blk 253 1) ls st h := G_eq
theorem q253_2 {fz : Int → Int → Option Int} {d : Nat} {ls st : List AV} {h : HV} {Q : Int → HV → Prop} : G fz d 253 2 ls st h Q = X fz d 253 Q (blk 253 2) ls st h := G_eq
theorem q253_3 {fz : Int → Int → Option Int} {d : Nat} {ls st : List AV} {h : HV} {Q : Int → HV → Prop} : G fz d 253 3 ls st h Q = X fz d 253 Q (blk 253 3) ls st h := G_eq
theorem q253_4 {fz : Int → Int → Option Int} {d : Nat} {ls st : List AV} {h : HV} {Q : Int → HV → Prop} : G fz d 253 4 ls st h Q = X fz d 253 Q (blk 253 4) ls st h := G_eq
theorem q253_5 {fz : Int → Int → Option Int} {d : Nat} {ls st : List AV} {h : HV} {Q : Int → HV → Prop} : G fz d 253 5 ls st h Q = X fz d 253 Q (blk 253 5) ls st h := G_eq
theorem q253_6 {fz : Int → Int → Option Int} {d : Nat} {ls st : List AV} {h : HV} {Q : Int → HV → Prop} : G fz d 253 6 ls st h Q = X fz d 253 Q (blk 253 6) ls st h := G_eq
theorem q253_7 {fz : Int → Int → Option Int} {d : Nat} {ls st : List AV} {h : HV} {Q : Int → HV → Prop} : G fz d 253 7 ls st h Q = X fz d 253 Q (blk 253 7) ls st h := G_eq
theorem q253_8 {fz : Int → Int → Option Int} {d : Nat} {ls st : List AV} {h : HV} {Q : Int → HV → Prop} : G fz d 253 8 ls st h Q = X fz d 253 Q (blk 253 8) ls st h := G_eq
theorem q253_9 {fz : Int → Int → Option Int} {d : Nat} {ls st : List AV} {h : HV} {Q : Int → HV → Prop} : G fz d 253 9 ls st h Q = X fz d 253 Q (blk 253 9) ls st h := G_eq
theorem q253_10 {fz : Int → Int → Option Int} {d : Nat} {ls st : List AV} {h : HV} {Q : Int → HV → Prop} : G fz d 253 10 ls st h Q = X fz d 253 Q (blk 253 10) ls st h := G_eq
theorem q254_1 {fz : Int → Int → Option Int} {d : Nat} {ls st : List AV} {h : HV} {Q : Int → HV → Prop} : G fz d 254 1 ls st h Q = X fz d 254 Q (blk 254 1) ls st h := G_eq
theorem q254_2 {fz : Int → Int → Option Int} {d : Nat} {ls st : List AV} {h : HV} {Q : Int → HV → Prop} : G fz d 254 2 ls st h Q = X fz d 254 Q (blk 254 2) ls st h := G_eq
theorem q255_1 {fz : Int → Int → Option Int} {d : Nat} {ls st : List AV} {h : HV} {Q : Int → HV → Prop} : G fz d 255 1 ls st h Q = X fz d 255 Q (blk 255 1) ls st h := G_eq
theorem q255_2 {fz : Int → Int → Option Int} {d : Nat} {ls st : List AV} {h : HV} {Q : Int → HV → Prop} : G fz d 255 2 ls st h Q = X fz d 255 Q (blk 255 2) ls st h := G_eq
theorem q256_1 {fz : Int → Int → Option Int} {d : Nat} {ls st : List AV} {h : HV} {Q : Int → HV → Prop} : G fz d 256 1 ls st h Q = X fz d 256 Q (blk 256 1) ls st h := G_eq
theorem q256_2 {fz : Int → Int → Option Int} {d : Nat} {ls st : List AV} {h : HV} {Q : Int → HV → Prop} : G fz d 256 2 ls st h Q = X fz d 256 Q (blk 256 2) ls st h := G_eq
theorem q258_1 {fz : Int → Int → Option Int} {d : Nat} {ls st : List AV} {h : HV} {Q : Int → HV → Prop} : G fz d 258 1 ls st h Q = X fz d 258 Q (blk 258 1) ls st h := G_eq
theorem q258_2 {fz : Int → Int → Option Int} {d : Nat} {ls st : List AV} {h : HV} {Q : Int → HV → Prop} : G fz d 258 2 ls st h Q = X fz d 258 Q (blk 258 2) ls st h := G_eq
theorem q259_1 {fz : Int → Int → Option Int} {d : Nat} {ls st : List AV} {h : HV} {Q : Int → HV → Prop} : G fz d 259 1 ls st h Q = X fz d 259 Q (blk 259 1) ls st h := G_eq
theorem q259_2 {fz : Int → Int → Option Int} {d : Nat} {ls st : List AV} {h : HV} {Q : Int → HV → Prop} : G fz d 259 2 ls st h Q = X fz d 259 Q (blk 259 2) ls st h := G_eq
theorem q260_1 {fz : Int → Int → Option Int} {d : Nat} {ls st : List AV} {h : HV} {Q : Int → HV → Prop} : G fz d 260 1 ls st h Q = X fz d 260 Q (blk 260 1) ls st h := G_eq
theorem q260_2 {fz : Int → Int → Option Int} {d : Nat} {ls st : List AV} {h : HV} {Q : Int → HV → Prop} : G fz d 260 2 ls st h Q = X fz d 260 Q (blk 260 2) ls st h := G_eq
theorem q261_1 {fz : Int → Int → Option Int} {d : Nat} {ls st : List AV} {h : HV} {Q : Int → HV → Prop} : G fz d 261 1 ls st h Q = X fz d 261 Q (blk 261 1) ls st h := G_eq
theorem q261_2 {fz : Int → Int → Option Int} {d : Nat} {ls st : List AV} {h : HV} {Q : Int → HV → Prop} : G fz d 261 2 ls st h Q = X fz d 261 Q (blk 261 2) ls st h := G_eq
theorem q262_1 {fz : Int → Int → Option Int} {d : Nat} {ls st : List AV} {h : HV} {Q : Int → HV → Prop} : G fz d 262 1 ls st h Q = X fz d 262 Q (blk 262 1) ls st h := G_eq
theorem q262_2 {fz : Int → Int → Option Int} {d : Nat} {ls st : List AV} {h : HV} {Q : Int → HV → Prop} : G fz d 262 2 ls st h Q = X fz d 262 Q (blk 262 2) ls st h := G_eq
theorem q262_3 {fz : Int → Int → Option Int} {d : Nat} {ls st : List AV} {h : HV} {Q : Int → HV → Prop} : G fz d 262 3 ls st h Q = X fz d 262 Q (blk 262 3) ls st h := G_eq
theorem q263_1 {fz : Int → Int → Option Int} {d : Nat} {ls st : List AV} {h : HV} {Q : Int → HV → Prop} : G fz d 263 1 ls st h Q = X fz d 263 Q (blk 263 1) ls st h := G_eq
theorem q263_2 {fz : Int → Int → Option Int} {d : Nat} {ls st : List AV} {h : HV} {Q : Int → HV → Prop} : G fz d 263 2 ls st h Q = X fz d 263 Q (blk 263 2) ls st h := G_eq
theorem q264_1 {fz : Int → Int → Option Int} {d : Nat} {ls st : List AV} {h : HV} {Q : Int → HV → Prop} : G fz d 264 1 ls st h Q = X fz d 264 Q (blk 264 1) ls st h := G_eq
theorem q264_2 {fz : Int → Int → Option Int} {d : Nat} {ls st : List AV} {h : HV} {Q : Int → HV → Prop} : G fz d 264 2 ls st h Q = X fz d 264 Q (blk 264 2) ls st h := G_eq
theorem q264_3 {fz : Int → Int → Option Int} {d : Nat} {ls st : List AV} {h : HV} {Q : Int → HV → Prop} : G fz d 264 3 ls st h Q = X fz d 264 Q (blk 264 3) ls st h := G_eq
theorem q264_4 {fz : Int → Int → Option Int} {d : Nat} {ls st : List AV} {h : HV} {Q : Int → HV → Prop} : G fz d 264 4 ls st h Q = X fz d 264 Q (blk 264 4) ls st h := G_eq
theorem q264_5 {fz : Int → Int → Option Int} {d : Nat} {ls st : List AV} {h : HV} {Q : Int → HV → Prop} : G fz d 264 5 ls st h Q = X fz d 264 Q (blk 264 5) ls st h := G_eq
theorem q264_6 {fz : Int → Int → Option Int} {d : Nat} {ls st : List AV} {h : HV} {Q : Int → HV → Prop} : G fz d 264 6 ls st h Q = X fz d 264 Q (blk 264 6) ls st h := G_eq
theorem q264_7 {fz : Int → Int → Option Int} {d : Nat} {ls st : List AV} {h : HV} {Q : Int → HV → Prop} : G fz d 264 7 ls st h Q = X fz d 264 Q (blk 264 7) ls st h := G_eq
theorem q269_1 {fz : Int → Int → Option Int} {d : Nat} {ls st : List AV} {h : HV} {Q : Int → HV → Prop} : G fz d 269 1 ls st h Q = X fz d 269 Q (blk 269 1) ls st h := G_eq
theorem q269_2 {fz : Int → Int → Option Int} {d : Nat} {ls st : List AV} {h : HV} {Q : Int → HV → Prop} : G fz d 269 2 ls st h Q = X fz d 269 Q (blk 269 2) ls st h := G_eq
theorem q269_3 {fz : Int → Int → Option Int} {d : Nat} {ls st : List AV} {h : HV} {Q : Int → HV → Prop} : G fz d 269 3 ls st h Q = X fz d 269 Q (blk 269 3) ls st h := G_eq
theorem q269_4 {fz : Int → Int → Option Int} {d : Nat} {ls st : List AV} {h : HV} {Q : Int → HV → Prop} : G fz d 269 4 ls st h Q = X fz d 269 Q (blk 269 4) ls st h := G_eq
theorem q269_5 {fz : Int → Int → Option Int} {d : Nat} {ls st : List AV} {h : HV} {Q : Int → HV → Prop} : G fz d 269 5 ls st h Q = X fz d 269 Q (blk 269 5) ls st h := G_eq
theorem q269_6 {fz : Int → Int → Option Int} {d : Nat} {ls st : List AV} {h : HV} {Q : Int → HV → Prop} : G fz d 269 6 ls st h Q = X fz d 269 Q (blk 269 6) ls st h := G_eq
theorem q270_1 {fz : Int → Int → Option Int} {d : Nat} {ls st : List AV} {h : HV} {Q : Int → HV → Prop} : G fz d 270 1 ls st h Q = X fz d 270 Q (blk 270 1) ls st h := G_eq
theorem q270_2 {fz : Int → Int → Option Int} {d : Nat} {ls st : List AV} {h : HV} {Q : Int → HV → Prop} : G fz d 270 2 ls st h Q = X fz d 270 Q (blk 270 2) ls st h := G_eq
theorem q271_1 {fz : Int → Int → Option Int} {d : Nat} {ls st : List AV} {h : HV} {Q : Int → HV → Prop} : G fz d 271 1 ls st h Q = X fz d 271 Q (blk 271 1) ls st h := G_eq
theorem q271_2 {fz : Int → Int → Option Int} {d : Nat} {ls st : List AV} {h : HV} {Q : Int → HV → Prop} : G fz d 271 2 ls st h Q = X fz d 271 Q (blk 271 2) ls st h := G_eq
theorem q272_1 {fz : Int → Int → Option Int} {d : Nat} {ls st : List AV} {h : HV} {Q : Int → HV → Prop} : G fz d 272 1 ls st h Q = X fz d 272 Q (blk 272 1) ls st h := G_eq
theorem q272_2 {fz : Int → Int → Option Int} {d : Nat} {ls st : List AV} {h : HV} {Q : Int → HV → Prop} : G fz d 272 2 ls st h Q = X fz d 272 Q (blk 272 2) ls st h := G_eq
theorem q272_3 {fz : Int → Int → Option Int} {d : Nat} {ls st : List AV} {h : HV} {Q : Int → HV → Prop} : G fz d 272 3 ls st h Q = X fz d 272 Q (blk 272 3) ls st h := G_eq
theorem q273_1 {fz : Int → Int → Option Int} {d : Nat} {ls st : List AV} {h : HV} {Q : Int → HV → Prop} : G fz d 273 1 ls st h Q = X fz d 273 Q (blk 273 1) ls st h := G_eq
theorem q273_2 {fz : Int → Int → Option Int} {d : Nat} {ls st : List AV} {h : HV} {Q : Int → HV → Prop} : G fz d 273 2 ls st h Q = X fz d 273 Q (blk 273 2) ls st h := G_eq
theorem q273_3 {fz : Int → Int → Option Int} {d : Nat} {ls st : List AV} {h : HV} {Q : Int → HV → Prop} : G fz d 273 3 ls st h Q = X fz d 273 Q (blk 273 3) ls st h := G_eq
theorem q273_4 {fz : Int → Int → Option Int} {d : Nat} {ls st : List AV} {h : HV} {Q : Int → HV → Prop} : G fz d 273 4 ls st h Q = X fz d 273 Q (blk 273 4) ls st h := G_eq
theorem q274_1 {fz : Int → Int → Option Int} {d : Nat} {ls st : List AV} {h : HV} {Q : Int → HV → Prop} : G fz d 274 1 ls st h Q = X fz d 274 Q (blk 274 1) ls st h := G_eq
theorem q274_2 {fz : Int → Int → Option Int} {d : Nat} {ls st : List AV} {h : HV} {Q : Int → HV → Prop} : G fz d 274 2 ls st h Q = X fz d 274 Q (blk 274 2) ls st h := G_eq
theorem q275_1 {fz : Int → Int → Option Int} {d : Nat} {ls st : List AV} {h : HV} {Q : Int → HV → Prop} : G fz d 275 1 ls st h Q = X fz d 275 Q (blk 275 1) ls st h := G_eq
theorem q275_2 {fz : Int → Int → Option Int} {d : Nat} {ls st : List AV} {h : HV} {Q : Int → HV → Prop} : G fz d 275 2 ls st h Q = X fz d 275 Q (blk 275 2) ls st h := G_eq
theorem q277_1 {fz : Int → Int → Option Int} {d : Nat} {ls st : List AV} {h : HV} {Q : Int → HV → Prop} : G fz d 277 1 ls st h Q = X fz d 277 Q (blk 277 1) ls st h := G_eq
theorem q277_2 {fz : Int → Int → Option Int} {d : Nat} {ls st : List AV} {h : HV} {Q : Int → HV → Prop} : G fz d 277 2 ls st h Q = X fz d 277 Q (blk 277 2) ls st h := G_eq
theorem q277_3 {fz : Int → Int → Option Int} {d : Nat} {ls st : List AV} {h : HV} {Q : Int → HV → Prop} : G fz d 277 3 ls st h Q = X fz d 277 Q (blk 277 3) ls st h := G_eq
theorem q277_4 {fz : Int → Int → Option Int} {d : Nat} {ls st : List AV} {h : HV} {Q : Int → HV → Prop} : G fz d 277 4 ls st h Q = X fz d 277 Q (blk 277 4) ls st h := G_eq
theorem q277_5 {fz : Int → Int → Option Int} {d : Nat} {ls st : List AV} {h : HV} {Q : Int → HV → Prop} : G fz d 277 5 ls st h Q = X fz d 277 Q (blk 277 5) ls st h := G_eq
theorem q279_1 {fz : Int → Int → Option Int} {d : Nat} {ls st : List AV} {h : HV} {Q : Int → HV → Prop} : G fz d 279 1 ls st h Q = X fz d 279 Q (blk 279 1) ls st h := G_eq
theorem q279_2 {fz : Int → Int → Option Int} {d : Nat} {ls st : List AV} {h : HV} {Q : Int → HV → Prop} : G fz d 279 2 ls st h Q = X fz d 279 Q (blk 279 2) ls st h := G_eq
theorem q280_1 {fz : Int → Int → Option Int} {d : Nat} {ls st : List AV} {h : HV} {Q : Int → HV → Prop} : G fz d 280 1 ls st h Q = X fz d 280 Q (blk 280 1) ls st h := G_eq
theorem q280_2 {fz : Int → Int → Option Int} {d : Nat} {ls st : List AV} {h : HV} {Q : Int → HV → Prop} : G fz d 280 2 ls st h Q = X fz d 280 Q (blk 280 2) ls st h := G_eq
theorem q281_1 {fz : Int → Int → Option Int} {d : Nat} {ls st : List AV} {h : HV} {Q : Int → HV → Prop} : G fz d 281 1 ls st h Q = X fz d 281 Q (blk 281 1) ls st h := G_eq
theorem q281_2 {fz : Int → Int → Option Int} {d : Nat} {ls st : List AV} {h : HV} {Q : Int → HV → Prop} : G fz d 281 2 ls st h Q = X fz d 281 Q (blk 281 2) ls st h := G_eq
theorem q282_1 {fz : Int → Int → Option Int} {d : Nat} {ls st : List AV} {h : HV} {Q : Int → HV → Prop} : G fz d 282 1 ls st h Q = X fz d 282 Q (blk 282 1) ls st h := G_eq
theorem q282_2 {fz : Int → Int → Option Int} {d : Nat} {ls st : List AV} {h : HV} {Q : Int → HV → Prop} : G fz d 282 2 ls st h Q = X fz d 282 Q (blk 282 2) ls st h := G_eq
theorem q282_3 {fz : Int → Int → Option Int} {d : Nat} {ls st : List AV} {h : HV} {Q : Int → HV → Prop} : G fz d 282 3 ls st h Q = X fz d 282 Q (blk 282 3) ls st h := G_eq
theorem q282_4 {fz : Int → Int → Option Int} {d : Nat} {ls st : List AV} {h : HV} {Q : Int → HV → Prop} : G fz d 282 4 ls st h Q = X fz d 282 Q (blk 282 4) ls st h := G_eq
theorem q283_1 {fz : Int → Int → Option Int} {d : Nat} {ls st : List AV} {h : HV} {Q : Int → HV → Prop} : G fz d 283 1 ls st h Q = X fz d 283 Q (blk 283 1) ls st h := G_eq
theorem q283_2 {fz : Int → Int → Option Int} {d : Nat} {ls st : List AV} {h : HV} {Q : Int → HV → Prop} : G fz d 283 2 ls st h Q = X fz d 283 Q (blk 283 2) ls st h := G_eq
theorem q283_3 {fz : Int → Int → Option Int} {d : Nat} {ls st : List AV} {h : HV} {Q : Int → HV → Prop} : G fz d 283 3 ls st h Q = X fz d 283 Q (blk 283 3) ls st h := G_eq
theorem q285_1 {fz : Int → Int → Option Int} {d : Nat} {ls st : List AV} {h : HV} {Q : Int → HV → Prop} : G fz d 285 1 ls st h Q = X fz d 285 Q (blk 285 1) ls st h := G_eq
theorem q285_2 {fz : Int → Int → Option Int} {d : Nat} {ls st : List AV} {h : HV} {Q : Int → HV → Prop} : G fz d 285 2 ls st h Q = X fz d 285 Q (blk 285 2) ls st h := G_eq
theorem q285_3 {fz : Int → Int → Option Int} {d : Nat} {ls st : List AV} {h : HV} {Q : Int → HV → Prop} : G fz d 285 3 ls st h Q = X fz d 285 Q (blk 285 3) ls st h := G_eq
theorem q285_4 {fz : Int → Int → Option Int} {d : Nat} {ls st : List AV} {h : HV} {Q : Int → HV → Prop} : G fz d 285 4 ls st h Q = X fz d 285 Q (blk 285 4) ls st h := G_eq
theorem q285_5 {fz : Int → Int → Option Int} {d : Nat} {ls st : List AV} {h : HV} {Q : Int → HV → Prop} : G fz d 285 5 ls st h Q = X fz d 285 Q (blk 285 5) ls st h := G_eq
theorem q286_1 {fz : Int → Int → Option Int} {d : Nat} {ls st : List AV} {h : HV} {Q : Int → HV → Prop} : G fz d 286 1 ls st h Q = X fz d 286 Q (blk 286 1) ls st h := G_eq
theorem q286_2 {fz : Int → Int → Option Int} {d : Nat} {ls st : List AV} {h : HV} {Q : Int → HV → Prop} : G fz d 286 2 ls st h Q = X fz d 286 Q (blk 286 2) ls st h := G_eq
theorem q286_3 {fz : Int → Int → Option Int} {d : Nat} {ls st : List AV} {h : HV} {Q : Int → HV → Prop} : G fz d 286 3 ls st h Q = X fz d 286 Q (blk 286 3) ls st h := G_eq
theorem q287_1 {fz : Int → Int → Option Int} {d : Nat} {ls st : List AV} {h : HV} {Q : Int → HV → Prop} : G fz d 287 1 ls st h Q = X fz d 287 Q (blk 287 1) ls st h := G_eq
theorem q287_2 {fz : Int → Int → Option Int} {d : Nat} {ls st : List AV} {h : HV} {Q : Int → HV → Prop} : G fz d 287 2 ls st h Q = X fz d 287 Q (blk 287 2) ls st h := G_eq
theorem q287_3 {fz : Int → Int → Option Int} {d : Nat} {ls st : List AV} {h : HV} {Q : Int → HV → Prop} : G fz d 287 3 ls st h Q = X fz d 287 Q (blk 287 3) ls st h := G_eq
theorem q288_1 {fz : Int → Int → Option Int} {d : Nat} {ls st : List AV} {h : HV} {Q : Int → HV → Prop} : G fz d 288 1 ls st h Q = X fz d 288 Q (blk 288 1) ls st h := G_eq
theorem q288_2 {fz : Int → Int → Option Int} {d : Nat} {ls st : List AV} {h : HV} {Q : Int → HV → Prop} : G fz d 288 2 ls st h Q = X fz d 288 Q (blk 288 2) ls st h := G_eq
theorem q289_1 {fz : Int → Int → Option Int} {d : Nat} {ls st : List AV} {h : HV} {Q : Int → HV → Prop} : G fz d 289 1 ls st h Q = X fz d 289 Q (blk 289 1) ls st h := G_eq
theorem q290_1 {fz : Int → Int → Option Int} {d : Nat} {ls st : List AV} {h : HV} {Q : Int → HV → Prop} : G fz d 290 1 ls st h Q = X fz d 290 Q (blk 290 1) ls st h := G_eq
theorem q290_2 {fz : Int → Int → Option Int} {d : Nat} {ls st : List AV} {h : HV} {Q : Int → HV → Prop} : G fz d 290 2 ls st h Q = X fz d 290 Q (blk 290 2) ls st h := G_eq
theorem q290_3 {fz : Int → Int → Option Int} {d : Nat} {ls st : List AV} {h : HV} {Q : Int → HV → Prop} : G fz d 290 3 ls st h Q = X fz d 290 Q (blk 290 3) ls st h := G_eq
theorem q290_4 {fz : Int → Int → Option Int} {d : Nat} {ls st : List AV} {h : HV} {Q : Int → HV → Prop} : G fz d 290 4 ls st h Q = X fz d 290 Q (blk 290 4) ls st h := G_eq
theorem q291_1 {fz : Int → Int → Option Int} {d : Nat} {ls st : List AV} {h : HV} {Q : Int → HV → Prop} : G fz d 291 1 ls st h Q = X fz d 291 Q (blk 291 1) ls st h := G_eq
theorem q291_2 {fz : Int → Int → Option Int} {d : Nat} {ls st : List AV} {h : HV} {Q : Int → HV → Prop} : G fz d 291 2 ls st h Q = X fz d 291 Q (blk 291 2) ls st h := G_eq
theorem q291_3 {fz : Int → Int → Option Int} {d : Nat} {ls st : List AV} {h : HV} {Q : Int → HV → Prop} : G fz d 291 3 ls st h Q = X fz d 291 Q (blk 291 3) ls st h := G_eq
theorem q291_4 {fz : Int → Int → Option Int} {d : Nat} {ls st : List AV} {h : HV} {Q : Int → HV → Prop} : G fz d 291 4 ls st h Q = X fz d 291 Q (blk 291 4) ls st h := G_eq
theorem q292_1 {fz : Int → Int → Option Int} {d : Nat} {ls st : List AV} {h : HV} {Q : Int → HV → Prop} : G fz d 292 1 ls st h Q = X fz d 292 Q (blk 292 1) ls st h := G_eq
theorem q292_2 {fz : Int → Int → Option Int} {d : Nat} {ls st : List AV} {h : HV} {Q : Int → HV → Prop} : G fz d 292 2 ls st h Q = X fz d 292 Q (blk 292 2) ls st h := G_eq
theorem q292_3 {fz : Int → Int → Option Int} {d : Nat} {ls st : List AV} {h : HV} {Q : Int → HV → Prop} : G fz d 292 3 ls st h Q = X fz d 292 Q (blk 292 3) ls st h := G_eq
theorem q293_1 {fz : Int → Int → Option Int} {d : Nat} {ls st : List AV} {h : HV} {Q : Int → HV → Prop} : G fz d 293 1 ls st h Q = X fz d 293 Q (blk 293 1) ls st h := G_eq
theorem q293_2 {fz : Int → Int → Option Int} {d : Nat} {ls st : List AV} {h : HV} {Q : Int → HV → Prop} : G fz d 293 2 ls st h Q = X fz d 293 Q (blk 293 2) ls st h := G_eq
theorem q293_3 {fz : Int → Int → Option Int} {d : Nat} {ls st : List AV} {h : HV} {Q : Int → HV → Prop} : G fz d 293 3 ls st h Q = X fz d 293 Q (blk 293 3) ls st h := G_eq
theorem q294_1 {fz : Int → Int → Option Int} {d : Nat} {ls st : List AV} {h : HV} {Q : Int → HV → Prop} : G fz d 294 1 ls st h Q = X fz d 294 Q (blk 294 1) ls st h := G_eq
theorem q294_2 {fz : Int → Int → Option Int} {d : Nat} {ls st : List AV} {h : HV} {Q : Int → HV → Prop} : G fz d 294 2 ls st h Q = X fz d 294 Q (blk 294 2) ls st h := G_eq
theorem q294_3 {fz : Int → Int → Option Int} {d : Nat} {ls st : List AV} {h : HV} {Q : Int → HV → Prop} : G fz d 294 3 ls st h Q = X fz d 294 Q (blk 294 3) ls st h := G_eq
theorem q294_4 {fz : Int → Int → Option Int} {d : Nat} {ls st : List AV} {h : HV} {Q : Int → HV → Prop} : G fz d 294 4 ls st h Q = X fz d 294 Q (blk 294 4) ls st h := G_eq
theorem q295_1 {fz : Int → Int → Option Int} {d : Nat} {ls st : List AV} {h : HV} {Q : Int → HV → Prop} : G fz d 295 1 ls st h Q = X fz d 295 Q (blk 295 1) ls st h := G_eq
theorem q295_2 {fz : Int → Int → Option Int} {d : Nat} {ls st : List AV} {h : HV} {Q : Int → HV → Prop} : G fz d 295 2 ls st h Q = X fz d 295 Q (blk 295 2) ls st h := G_eq
theorem q296_1 {fz : Int → Int → Option Int} {d : Nat} {ls st : List AV} {h : HV} {Q : Int → HV → Prop} : G fz d 296 1 ls st h Q = X fz d 296 Q (blk 296 1) ls st h := G_eq
theorem q296_2 {fz : Int → Int → Option Int} {d : Nat} {ls st : List AV} {h : HV} {Q : Int → HV → Prop} : G fz d 296 2 ls st h Q = X fz d 296 Q (blk 296 2) ls st h := G_eq
theorem q296_3 {fz : Int → Int → Option Int} {d : Nat} {ls st : List AV} {h : HV} {Q : Int → HV → Prop} : G fz d 296 3 ls st h Q = X fz d 296 Q (blk 296 3) ls st h := G_eq
theorem q296_4 {fz : Int → Int → Option Int} {d : Nat} {ls st : List AV} {h : HV} {Q : Int → HV → Prop} : G fz d 296 4 ls st h Q = X fz d 296 Q (blk 296 4) ls st h := G_eq
theorem q296_5 {fz : Int → Int → Option Int} {d : Nat} {ls st : List AV} {h : HV} {Q : Int → HV → Prop} : G fz d 296 5 ls st h Q = X fz d 296 Q (blk 296 5) ls st h := G_eq
theorem q296_6 {fz : Int → Int → Option Int} {d : Nat} {ls st : List AV} {h : HV} {Q : Int → HV → Prop} : G fz d 296 6 ls st h Q = X fz d 296 Q (blk 296 6) ls st h := G_eq
theorem q296_7 {fz : Int → Int → Option Int} {d : Nat} {ls st : List AV} {h : HV} {Q : Int → HV → Prop} : G fz d 296 7 ls st h Q = X fz d 296 Q (blk 296 7) ls st h := G_eq
theorem q296_8 {fz : Int → Int → Option Int} {d : Nat} {ls st : List AV} {h : HV} {Q : Int → HV → Prop} : G fz d 296 8 ls st h Q = X fz d 296 Q (blk 296 8) ls st h := G_eq
theorem q296_9 {fz : Int → Int → Option Int} {d : Nat} {ls st : List AV} {h : HV} {Q : Int → HV → Prop} : G fz d 296 9 ls st h Q = X fz d 296 Q (blk 296 9) ls st h := G_eq
theorem q296_10 {fz : Int → Int → Option Int} {d : Nat} {ls st : List AV} {h : HV} {Q : Int → HV → Prop} : G fz d 296 10 ls st h Q = X fz d 296 Q (blk 296 10) ls st h := G_eq
theorem q297_1 {fz : Int → Int → Option Int} {d : Nat} {ls st : List AV} {h : HV} {Q : Int → HV → Prop} : G fz d 297 1 ls st h Q = X fz d 297 Q (blk 297 1) ls st h := G_eq
theorem q297_2 {fz : Int → Int → Option Int} {d : Nat} {ls st : List AV} {h : HV} {Q : Int → HV → Prop} : G fz d 297 2 ls st h Q = X fz d 297 Q (blk 297 2) ls st h := G_eq
theorem q297_3 {fz : Int → Int → Option Int} {d : Nat} {ls st : List AV} {h : HV} {Q : Int → HV → Prop} : G fz d 297 3 ls st h Q = X fz d 297 Q (blk 297 3) ls st h := G_eq
theorem q298_1 {fz : Int → Int → Option Int} {d : Nat} {ls st : List AV} {h : HV} {Q : Int → HV → Prop} : G fz d 298 1 ls st h Q = X fz d 298 Q (blk 298 1) ls st h := G_eq
theorem q298_2 {fz : Int → Int → Option Int} {d : Nat} {ls st : List AV} {h : HV} {Q : Int → HV → Prop} : G fz d 298 2 ls st h Q = X fz d 298 Q (blk 298 2) ls st h := G_eq
theorem q298_3 {fz : Int → Int → Option Int} {d : Nat} {ls st : List AV} {h : HV} {Q : Int → HV → Prop} : G fz d 298 3 ls st h Q = X fz d 298 Q (blk 298 3) ls st h := G_eq
theorem q298_4 {fz : Int → Int → Option Int} {d : Nat} {ls st : List AV} {h : HV} {Q : Int → HV → Prop} : G fz d 298 4 ls st h Q = X fz d 298 Q (blk 298 4) ls st h := G_eq
theorem q299_1 {fz : Int → Int → Option Int} {d : Nat} {ls st : List AV} {h : HV} {Q : Int → HV → Prop} : G fz d 299 1 ls st h Q = X fz d 299 Q (blk 299 1) ls st h := G_eq
theorem q299_2 {fz : Int → Int → Option Int} {d : Nat} {ls st : List AV} {h : HV} {Q : Int → HV → Prop} : G fz d 299 2 ls st h Q = X fz d 299 Q (blk 299 2) ls st h := G_eq
theorem q300_1 {fz : Int → Int → Option Int} {d : Nat} {ls st : List AV} {h : HV} {Q : Int → HV → Prop} : G fz d 300 1 ls st h Q = X fz d 300 Q (blk 300 1) ls st h := G_eq
theorem q300_2 {fz : Int → Int → Option Int} {d : Nat} {ls st : List AV} {h : HV} {Q : Int → HV → Prop} : G fz d 300 2 ls st h Q = X fz d 300 Q (blk 300 2) ls st h := G_eq
theorem q301_1 {fz : Int → Int → Option Int} {d : Nat} {ls st : List AV} {h : HV} {Q : Int → HV → Prop} : G fz d 301 1 ls st h Q = X fz d 301 Q (blk 301 1) ls st h := G_eq
theorem q301_2 {fz : Int → Int → Option Int} {d : Nat} {ls st : List AV} {h : HV} {Q : Int → HV → Prop} : G fz d 301 2 ls st h Q = X fz d 301 Q (blk 301 2) ls st h := G_eq
theorem q303_1 {fz : Int → Int → Option Int} {d : Nat} {ls st : List AV} {h : HV} {Q : Int → HV → Prop} : G fz d 303 1 ls st h Q = X fz d 303 Q (blk 303 1) ls st h := G_eq
theorem q303_2 {fz : Int → Int → Option Int} {d : Nat} {ls st : List AV} {h : HV} {Q : Int → HV → Prop} : G fz d 303 2 ls st h Q = X fz d 303 Q (blk 303 2) ls st h := G_eq
theorem q303_3 {fz : Int → Int → Option Int} {d : Nat} {ls st : List AV} {h : HV} {Q : Int → HV → Prop} : G fz d 303 3 ls st h Q = X fz d 303 Q (blk 303 3) ls st h := G_eq
theorem q303_4 {fz : Int → Int → Option Int} {d : Nat} {ls st : List AV} {h : HV} {Q : Int → HV → Prop} : G fz d 303 4 ls st h Q = X fz d 303 Q (blk 303 4) ls st h := G_eq
theorem q303_5 {fz : Int → Int → Option Int} {d : Nat} {ls st : List AV} {h : HV} {Q : Int → HV → Prop} : G fz d 303 5 ls st h Q = X fz d 303 Q (blk 303 5) ls st h := G_eq
theorem q304_1 {fz : Int → Int → Option Int} {d : Nat} {ls st : List AV} {h : HV} {Q : Int → HV → Prop} : G fz d 304 1 ls st h Q = X fz d 304 Q (blk 304 1) ls st h := G_eq
theorem q304_2 {fz : Int → Int → Option Int} {d : Nat} {ls st : List AV} {h : HV} {Q : Int → HV → Prop} : G fz d 304 2 ls st h Q = X fz d 304 Q (blk 304 2) ls st h := G_eq
theorem q304_3 {fz : Int → Int → Option Int} {d : Nat} {ls st : List AV} {h : HV} {Q : Int → HV → Prop} : G fz d 304 3 ls st h Q = X fz d 304 Q (blk 304 3) ls st h := G_eq
theorem q305_1 {fz : Int → Int → Option Int} {d : Nat} {ls st : List AV} {h : HV} {Q : Int → HV → Prop} : G fz d 305 1 ls st h Q = X fz d 305 Q (blk 305 1) ls st h := G_eq
theorem q305_2 {fz : Int → Int → Option Int} {d : Nat} {ls st : List AV} {h : HV} {Q : Int → HV → Prop} : G fz d 305 2 ls st h Q = X fz d 305 Q (blk 305 2) ls st h := G_eq
theorem q305_3 {fz : Int → Int → Option Int} {d : Nat} {ls st : List AV} {h : HV} {Q : Int → HV → Prop} : G fz d 305 3 ls st h Q = X fz d 305 Q (blk 305 3) ls st h := G_eq
theorem q306_1 {fz : Int → Int → Option Int} {d : Nat} {ls st : List AV} {h : HV} {Q : Int → HV → Prop} : G fz d 306 1 ls st h Q = X fz d 306 Q (blk 306 1) ls st h := G_eq
theorem q306_2 {fz : Int → Int → Option Int} {d : Nat} {ls st : List AV} {h : HV} {Q : Int → HV → Prop} : G fz d 306 2 ls st h Q = X fz d 306 Q (blk 306 2) ls st h := G_eq
theorem q306_3 {fz : Int → Int → Option Int} {d : Nat} {ls st : List AV} {h : HV} {Q : Int → HV → Prop} : G fz d 306 3 ls st h Q = X fz d 306 Q (blk 306 3) ls st h := G_eq
theorem q307_1 {fz : Int → Int → Option Int} {d : Nat} {ls st : List AV} {h : HV} {Q : Int → HV → Prop} : G fz d 307 1 ls st h Q = X fz d 307 Q (blk 307 1) ls st h := G_eq
theorem q307_2 {fz : Int → Int → Option Int} {d : Nat} {ls st : List AV} {h : HV} {Q : Int → HV → Prop} : G fz d 307 2 ls st h Q = X fz d 307 Q (blk 307 2) ls st h := G_eq
theorem q307_3 {fz : Int → Int → Option Int} {d : Nat} {ls st : List AV} {h : HV} {Q : Int → HV → Prop} : G fz d 307 3 ls st h Q = X fz d 307 Q (blk 307 3) ls st h := G_eq
theorem q307_4 {fz : Int → Int → Option Int} {d : Nat} {ls st : List AV} {h : HV} {Q : Int → HV → Prop} : G fz d 307 4 ls st h Q = X fz d 307 Q (blk 307 4) ls st h := G_eq
theorem q308_1 {fz : Int → Int → Option Int} {d : Nat} {ls st : List AV} {h : HV} {Q : Int → HV → Prop} : G fz d 308 1 ls st h Q = X fz d 308 Q (blk 308 1) ls st h := G_eq
theorem q308_2 {fz : Int → Int → Option Int} {d : Nat} {ls st : List AV} {h : HV} {Q : Int → HV → Prop} : G fz d 308 2 ls st h Q = X fz d 308 Q (blk 308 2) ls st h := G_eq
theorem q309_1 {fz : Int → Int → Option Int} {d : Nat} {ls st : List AV} {h : HV} {Q : Int → HV → Prop} : G fz d 309 1 ls st h Q = X fz d 309 Q (blk 309 1) ls st h := G_eq
theorem q309_2 {fz : Int → Int → Option Int} {d : Nat} {ls st : List AV} {h : HV} {Q : Int → HV → Prop} : G fz d 309 2 ls st h Q = X fz d 309 Q (blk 309 2) ls st h := G_eq
theorem q309_3 {fz : Int → Int → Option Int} {d : Nat} {ls st : List AV} {h : HV} {Q : Int → HV → Prop} : G fz d 309 3 ls st h Q = X fz d 309 Q (blk 309 3) ls st h := G_eq
theorem q309_4 {fz : Int → Int → Option Int} {d : Nat} {ls st : List AV} {h : HV} {Q : Int → HV → Prop} : G fz d 309 4 ls st h Q = X fz d 309 Q (blk 309 4) ls st h := G_eq
theorem q309_5 {fz : Int → Int → Option Int} {d : Nat} {ls st : List AV} {h : HV} {Q : Int → HV → Prop} : G fz d 309 5 ls st h Q = X fz d 309 Q (blk 309 5) ls st h := G_eq
theorem q309_6 {fz : Int → Int → Option Int} {d : Nat} {ls st : List AV} {h : HV} {Q : Int → HV → Prop} : G fz d 309 6 ls st h Q = X fz d 309 Q (blk 309 6) ls st h := G_eq
theorem q311_1 {fz : Int → Int → Option Int} {d : Nat} {ls st : List AV} {h : HV} {Q : Int → HV → Prop} : G fz d 311 1 ls st h Q = X fz d 311 Q (blk 311 1) ls st h := G_eq
theorem q311_2 {fz : Int → Int → Option Int} {d : Nat} {ls st : List AV} {h : HV} {Q : Int → HV → Prop} : G fz d 311 2 ls st h Q = X fz d 311 Q (blk 311 2) ls st h := G_eq
theorem q312_1 {fz : Int → Int → Option Int} {d : Nat} {ls st : List AV} {h : HV} {Q : Int → HV → Prop} : G fz d 312 1 ls st h Q = X fz d 312 Q (blk 312 1) ls st h := G_eq
theorem q312_2 {fz : Int → Int → Option Int} {d : Nat} {ls st : List AV} {h : HV} {Q : Int → HV → Prop} : G fz d 312 2 ls st h Q = X fz d 312 Q (blk 312 2) ls st h := G_eq
theorem q312_3 {fz : Int → Int → Option Int} {d : Nat} {ls st : List AV} {h : HV} {Q : Int → HV → Prop} : G fz d 312 3 ls st h Q = X fz d 312 Q (blk 312 3) ls st h := G_eq
theorem q312_4 {fz : Int → Int → Option Int} {d : Nat} {ls st : List AV} {h : HV} {Q : Int → HV → Prop} : G fz d 312 4 ls st h Q = X fz d 312 Q (blk 312 4) ls st h := G_eq
theorem q312_5 {fz : Int → Int → Option Int} {d : Nat} {ls st : List AV} {h : HV} {Q : Int → HV → Prop} : G fz d 312 5 ls st h Q = X fz d 312 Q (blk 312 5) ls st h := G_eq
theorem q312_6 {fz : Int → Int → Option Int} {d : Nat} {ls st : List AV} {h : HV} {Q : Int → HV → Prop} : G fz d 312 6 ls st h Q = X fz d 312 Q (blk 312 6) ls st h := G_eq
theorem q312_7 {fz : Int → Int → Option Int} {d : Nat} {ls st : List AV} {h : HV} {Q : Int → HV → Prop} : G fz d 312 7 ls st h Q = X fz d 312 Q (blk 312 7) ls st h := G_eq
theorem q312_8 {fz : Int → Int → Option Int} {d : Nat} {ls st : List AV} {h : HV} {Q : Int → HV → Prop} : G fz d 312 8 ls st h Q = X fz d 312 Q (blk 312 8) ls st h := G_eq
theorem q312_9 {fz : Int → Int → Option Int} {d : Nat} {ls st : List AV} {h : HV} {Q : Int → HV → Prop} : G fz d 312 9 ls st h Q = X fz d 312 Q (blk 312 9) ls st h := G_eq
theorem q313_1 {fz : Int → Int → Option Int} {d : Nat} {ls st : List AV} {h : HV} {Q : Int → HV → Prop} : G fz d 313 1 ls st h Q = X fz d 313 Q (blk 313 1) ls st h := G_eq
theorem q313_2 {fz : Int → Int → Option Int} {d : Nat} {ls st : List AV} {h : HV} {Q : Int → HV → Prop} : G fz d 313 2 ls st h Q = X fz d 313 Q (blk 313 2) ls st h := G_eq
theorem q314_1 {fz : Int → Int → Option Int} {d : Nat} {ls st : List AV} {h : HV} {Q : Int → HV → Prop} : G fz d 314 1 ls st h Q = X fz d 314 Q (blk 314 1) ls st h := G_eq
theorem q314_2 {fz : Int → Int → Option Int} {d : Nat} {ls st : List AV} {h : HV} {Q : Int → HV → Prop} : G fz d 314 2 ls st h Q = X fz d 314 Q (blk 314 2) ls st h := G_eq
theorem q314_3 {fz : Int → Int → Option Int} {d : Nat} {ls st : List AV} {h : HV} {Q : Int → HV → Prop} : G fz d 314 3 ls st h Q = X fz d 314 Q (blk 314 3) ls st h := G_eq
theorem q314_4 {fz : Int → Int → Option Int} {d : Nat} {ls st : List AV} {h : HV} {Q : Int → HV → Prop} : G fz d 314 4 ls st h Q = X fz d 314 Q (blk 314 4) ls st h := G_eq
theorem q316_1 {fz : Int → Int → Option Int} {d : Nat} {ls st : List AV} {h : HV} {Q : Int → HV → Prop} : G fz d 316 1 ls st h Q = X fz d 316 Q (blk 316 1) ls st h := G_eq
theorem q316_2 {fz : Int → Int → Option Int} {d : Nat} {ls st : List AV} {h : HV} {Q : Int → HV → Prop} : G fz d 316 2 ls st h Q = X fz d 316 Q (blk 316 2) ls st h := G_eq
theorem q319_1 {fz : Int → Int → Option Int} {d : Nat} {ls st : List AV} {h : HV} {Q : Int → HV → Prop} : G fz d 319 1 ls st h Q = X fz d 319 Q (blk 319 1) ls st h := G_eq
theorem q319_2 {fz : Int → Int → Option Int} {d : Nat} {ls st : List AV} {h : HV} {Q : Int → HV → Prop} : G fz d 319 2 ls st h Q = X fz d 319 Q (blk 319 2) ls st h := G_eq
theorem q319_3 {fz : Int → Int → Option Int} {d : Nat} {ls st : List AV} {h : HV} {Q : Int → HV → Prop} : G fz d 319 3 ls st h Q = X fz d 319 Q (blk 319 3) ls st h := G_eq
theorem q319_4 {fz : Int → Int → Option Int} {d : Nat} {ls st : List AV} {h : HV} {Q : Int → HV → Prop} : G fz d 319 4 ls st h Q = X fz d 319 Q (blk 319 4) ls st h := G_eq
theorem q319_5 {fz : Int → Int → Option Int} {d : Nat} {ls st : List AV} {h : HV} {Q : Int → HV → Prop} : G fz d 319 5 ls st h Q = X fz d 319 Q (blk 319 5) ls st h := G_eq
theorem q320_1 {fz : Int → Int → Option Int} {d : Nat} {ls st : List AV} {h : HV} {Q : Int → HV → Prop} : G fz d 320 1 ls st h Q = X fz d 320 Q (blk 320 1) ls st h := G_eq
theorem q320_2 {fz : Int → Int → Option Int} {d : Nat} {ls st : List AV} {h : HV} {Q : Int → HV → Prop} : G fz d 320 2 ls st h Q = X fz d 320 Q (blk 320 2) ls st h := G_eq
theorem q320_3 {fz : Int → Int → Option Int} {d : Nat} {ls st : List AV} {h : HV} {Q : Int → HV → Prop} : G fz d 320 3 ls st h Q = X fz d 320 Q (blk 320 3) ls st h := G_eq
theorem q320_4 {fz : Int → Int → Option Int} {d : Nat} {ls st : List AV} {h : HV} {Q : Int → HV → Prop} : G fz d 320 4 ls st h Q = X fz d 320 Q (blk 320 4) ls st h := G_eq
theorem q320_5 {fz : Int → Int → Option Int} {d : Nat} {ls st : List AV} {h : HV} {Q : Int → HV → Prop} : G fz d 320 5 ls st h Q = X fz d 320 Q (blk 320 5) ls st h := G_eq
theorem q320_6 {fz : Int → Int → Option Int} {d : Nat} {ls st : List AV} {h : HV} {Q : Int → HV → Prop} : G fz d 320 6 ls st h Q = X fz d 320 Q (blk 320 6) ls st h := G_eq
theorem q320_7 {fz : Int → Int → Option Int} {d : Nat} {ls st : List AV} {h : HV} {Q : Int → HV → Prop} : G fz d 320 7 ls st h Q = X fz d 320 Q (blk 320 7) ls st h := G_eq
theorem q320_8 {fz : Int → Int → Option Int} {d : Nat} {ls st : List AV} {h : HV} {Q : Int → HV → Prop} : G fz d 320 8 ls st h Q = X fz d 320 Q (blk 320 8) ls st h := G_eq
theorem q320_9 {fz : Int → Int → Option Int} {d : Nat} {ls st : List AV} {h : HV} {Q : Int → HV → Prop} : G fz d 320 9 ls st h Q = X fz d 320 Q (blk 320 9) ls st h := G_eq
theorem q320_10 {fz : Int → Int → Option Int} {d : Nat} {ls st : List AV} {h : HV} {Q : Int → HV → Prop} : G fz d 320 10 ls st h Q = X fz d 320 Q (blk 320 10) ls st h := G_eq
theorem q321_1 {fz : Int → Int → Option Int} {d : Nat} {ls st : List AV} {h : HV} {Q : Int → HV → Prop} : G fz d 321 1 ls st h Q = X fz d 321 Q (blk 321 1) ls st h := G_eq
theorem q321_2 {fz : Int → Int → Option Int} {d : Nat} {ls st : List AV} {h : HV} {Q : Int → HV → Prop} : G fz d 321 2 ls st h Q = X fz d 321 Q (blk 321 2) ls st h := G_eq
theorem q321_3 {fz : Int → Int → Option Int} {d : Nat} {ls st : List AV} {h : HV} {Q : Int → HV → Prop} : G fz d 321 3 ls st h Q = X fz d 321 Q (blk 321 3) ls st h := G_eq
theorem q321_4 {fz : Int → Int → Option Int} {d : Nat} {ls st : List AV} {h : HV} {Q : Int → HV → Prop} : G fz d 321 4 ls st h Q = X fz d 321 Q (blk 321 4) ls st h := G_eq
theorem q321_5 {fz : Int → Int → Option Int} {d : Nat} {ls st : List AV} {h : HV} {Q : Int → HV → Prop} : G fz d 321 5 ls st h Q = X fz d 321 Q (blk 321 5) ls st h := G_eq
theorem q321_6 {fz : Int → Int → Option Int} {d : Nat} {ls st : List AV} {h : HV} {Q : Int → HV → Prop} : G fz d 321 6 ls st h Q = X fz d 321 Q (blk 321 6) ls st h := G_eq
theorem q321_7 {fz : Int → Int → Option Int} {d : Nat} {ls st : List AV} {h : HV} {Q : Int → HV → Prop} : G fz d 321 7 ls st h Q = X fz d 321 Q (blk 321 7) ls st h := G_eq
theorem q321_8 {fz : Int → Int → Option Int} {d : Nat} {ls st : List AV} {h : HV} {Q : Int → HV → Prop} : G fz d 321 8 ls st h Q = X fz d 321 Q (blk 321 8) ls st h := G_eq
theorem q321_9 {fz : Int → Int → Option Int} {d : Nat} {ls st : List AV} {h : HV} {Q : Int → HV → Prop} : G fz d 321 9 ls st h Q = X fz d 321 Q (blk 321 9) ls st h := G_eq
theorem q321_10 {fz : Int → Int → Option Int} {d : Nat} {ls st : List AV} {h : HV} {Q : Int → HV → Prop} : G fz d 321 10 ls st h Q = X fz d 321 Q (blk 321 10) ls st h := G_eq
theorem q321_11 {fz : Int → Int → Option Int} {d : Nat} {ls st : List AV} {h : HV} {Q : Int → HV → Prop} : G fz d 321 11 ls st h Q = X fz d 321 Q (blk 321 11) ls st h := G_eq
theorem q321_12 {fz : Int → Int → Option Int} {d : Nat} {ls st : List AV} {h : HV} {Q : Int → HV → Prop} : G fz d 321 12 ls st h Q = X fz d 321 Q (blk 321 12) ls st h := G_eq
theorem q321_13 {fz : Int → Int → Option Int} {d : Nat} {ls st : List AV} {h : HV} {Q : Int → HV → Prop} : G fz d 321 13 ls st h Q = X fz d 321 Q (blk 321 13) ls st h := G_eq
theorem q321_14 {fz : Int → Int → Option Int} {d : Nat} {ls st : List AV} {h : HV} {Q : Int → HV → Prop} : G fz d 321 14 ls st h Q = X fz d 321 Q (blk 321 14) ls st h := G_eq
theorem q321_15 {fz : Int → Int → Option Int} {d : Nat} {ls st : List AV} {h : HV} {Q : Int → HV → Prop} : G fz d 321 15 ls st h Q = X fz d 321 Q (blk 321 15) ls st h := G_eq
theorem q321_16 {fz : Int → Int → Option Int} {d : Nat} {ls st : List AV} {h : HV} {Q : Int → HV → Prop} : G fz d 321 16 ls st h Q = X fz d 321 Q (blk 321 16) ls st h := G_eq
theorem q321_17 {fz : Int → Int → Option Int} {d : Nat} {ls st : List AV} {h : HV} {Q : Int → HV → Prop} : G fz d 321 17 ls st h Q = X fz d 321 Q (blk 321 17) ls st h := G_eq
theorem q321_18 {fz : Int → Int → Option Int} {d : Nat} {ls st : List AV} {h : HV} {Q : Int → HV → Prop} : G fz d 321 18 ls st h Q = X fz d 321 Q (blk 321 18) ls st h := G_eq
theorem q321_19 {fz : Int → Int → Option Int} {d : Nat} {ls st : List AV} {h : HV} {Q : Int → HV → Prop} : G fz d 321 19 ls st h Q = X fz d 321 Q (blk 321 19) ls st h := G_eq
theorem q321_20 {fz : Int → Int → Option Int} {d : Nat} {ls st : List AV} {h : HV} {Q : Int → HV → Prop} : G fz d 321 20 ls st h Q = X fz d 321 Q (blk 321 20) ls st h := G_eq
theorem q321_21 {fz : Int → Int → Option Int} {d : Nat} {ls st : List AV} {h : HV} {Q : Int → HV → Prop} : G fz d 321 21 ls st h Q = X fz d 321 Q (blk 321 21) ls st h := G_eq
theorem q321_22 {fz : Int → Int → Option Int} {d : Nat} {ls st : List AV} {h : HV} {Q : Int → HV → Prop} : G fz d 321 22 ls st h Q = X fz d 321 Q (blk 321 22) ls st h := G_eq
theorem q321_23 {fz : Int → Int → Option Int} {d : Nat} {ls st : List AV} {h : HV} {Q : Int → HV → Prop} : G fz d 321 23 ls st h Q = X fz d 321 Q (blk 321 23) ls st h := G_eq
theorem q321_24 {fz : Int → Int → Option Int} {d : Nat} {ls st : List AV} {h : HV} {Q : Int → HV → Prop} : G fz d 321 24 ls st h Q = X fz d 321 Q (blk 321 24) ls st h := G_eq
theorem q321_25 {fz : Int → Int → Option Int} {d : Nat} {ls st : List AV} {h : HV} {Q : Int → HV → Prop} : G fz d 321 25 ls st h Q = X fz d 321 Q (blk 321 25) ls st h := G_eq
theorem q321_26 {fz : Int → Int → Option Int} {d : Nat} {ls st : List AV} {h : HV} {Q : Int → HV → Prop} : G fz d 321 26 ls st h Q = X fz d 321 Q (blk 321 26) ls st h := G_eq
theorem q321_27 {fz : Int → Int → Option Int} {d : Nat} {ls st : List AV} {h : HV} {Q : Int → HV → Prop} : G fz d 321 27 ls st h Q = X fz d 321 Q (blk 321 27) ls st h := G_eq
theorem q321_28 {fz : Int → Int → Option Int} {d : Nat} {ls st : List AV} {h : HV} {Q : Int → HV → Prop} : G fz d 321 28 ls st h Q = X fz d 321 Q (blk 321 28) ls st h := G_eq
theorem q321_29 {fz : Int → Int → Option Int} {d : Nat} {ls st : List AV} {h : HV} {Q : Int → HV → Prop} : G fz d 321 29 ls st h Q = X fz d 321 Q (blk 321 29) ls st h := G_eq
theorem q321_30 {fz : Int → Int → Option Int} {d : Nat} {ls st : List AV} {h : HV} {Q : Int → HV → Prop} : G fz d 321 30 ls st h Q = X fz d 321 Q (blk 321 30) ls st h := G_eq
theorem q321_31 {fz : Int → Int → Option Int} {d : Nat} {ls st : List AV} {h : HV} {Q : Int → HV → Prop} : G fz d 321 31 ls st h Q = X fz d 321 Q (blk 321 31) ls st h := G_eq
theorem q322_1 {fz : Int → Int → Option Int} {d : Nat} {ls st : List AV} {h : HV} {Q : Int → HV → Prop} : G fz d 322 1 ls st h Q = X fz d 322 Q (blk 322 1) ls st h := G_eq
theorem q322_2 {fz : Int → Int → Option Int} {d : Nat} {ls st : List AV} {h : HV} {Q : Int → HV → Prop} : G fz d 322 2 ls st h Q = X fz d 322 Q (blk 322 2) ls st h := G_eq
theorem q323_1 {fz : Int → Int → Option Int} {d : Nat} {ls st : List AV} {h : HV} {Q : Int → HV → Prop} : G fz d 323 1 ls st h Q = X fz d 323 Q (blk 323 1) ls st h := G_eq
theorem q323_2 {fz : Int → Int → Option Int} {d : Nat} {ls st : List AV} {h : HV} {Q : Int → HV → Prop} : G fz d 323 2 ls st h Q = X fz d 323 Q (blk 323 2) ls st h := G_eq
theorem q324_1 {fz : Int → Int → Option Int} {d : Nat} {ls st : List AV} {h : HV} {Q : Int → HV → Prop} : G fz d 324 1 ls st h Q = X fz d 324 Q (blk 324 1) ls st h := G_eq
theorem q324_2 {fz : Int → Int → Option Int} {d : Nat} {ls st : List AV} {h : HV} {Q : Int → HV → Prop} : G fz d 324 2 ls st h Q = X fz d 324 Q (blk 324 2) ls st h := G_eq
theorem q325_1 {fz : Int → Int → Option Int} {d : Nat} {ls st : List AV} {h : HV} {Q : Int → HV → Prop} : G fz d 325 1 ls st h Q = X fz d 325 Q (blk 325 1) ls st h := G_eq
theorem q325_2 {fz : Int → Int → Option Int} {d : Nat} {ls st : List AV} {h : HV} {Q : Int → HV → Prop} : G fz d 325 2 ls st h Q = X fz d 325 Q (blk 325 2) ls st h := G_eq
theorem q326_1 {fz : Int → Int → Option Int} {d : Nat} {ls st : List AV} {h : HV} {Q : Int → HV → Prop} : G fz d 326 1 ls st h Q = X fz d 326 Q (blk 326 1) ls st h := G_eq
theorem q326_2 {fz : Int → Int → Option Int} {d : Nat} {ls st : List AV} {h : HV} {Q : Int → HV → Prop} : G fz d 326 2 ls st h Q = X fz d 326 Q (blk 326 2) ls st h := G_eq
theorem q326_3 {fz : Int → Int → Option Int} {d : Nat} {ls st : List AV} {h : HV} {Q : Int → HV → Prop} : G fz d 326 3 ls st h Q = X fz d 326 Q (blk 326 3) ls st h := G_eq
theorem q326_4 {fz : Int → Int → Option Int} {d : Nat} {ls st : List AV} {h : HV} {Q : Int → HV → Prop} : G fz d 326 4 ls st h Q = X fz d 326 Q (blk 326 4) ls st h := G_eq
theorem q326_5 {fz : Int → Int → Option Int} {d : Nat} {ls st : List AV} {h : HV} {Q : Int → HV → Prop} : G fz d 326 5 ls st h Q = X fz d 326 Q (blk 326 5) ls st h := G_eq
theorem q326_6 {fz : Int → Int → Option Int} {d : Nat} {ls st : List AV} {h : HV} {Q : Int → HV → Prop} : G fz d 326 6 ls st h Q = X fz d 326 Q (blk 326 6) ls st h := G_eq
theorem q326_7 {fz : Int → Int → Option Int} {d : Nat} {ls st : List AV} {h : HV} {Q : Int → HV → Prop} : G fz d 326 7 ls st h Q = X fz d 326 Q (blk 326 7) ls st h := G_eq
theorem q326_8 {fz : Int → Int → Option Int} {d : Nat} {ls st : List AV} {h : HV} {Q : Int → HV → Prop} : G fz d 326 8 ls st h Q = X fz d 326 Q (blk 326 8) ls st h := G_eq
theorem q327_1 {fz : Int → Int → Option Int} {d : Nat} {ls st : List AV} {h : HV} {Q : Int → HV → Prop} : G fz d 327 1 ls st h Q = X fz d 327 Q (blk 327 1) ls st h := G_eq
theorem q327_2 {fz : Int → Int → Option Int} {d : Nat} {ls st : List AV} {h : HV} {Q : Int → HV → Prop} : G fz d 327 2 ls st h Q = X fz d 327 Q (blk 327 2) ls st h := G_eq
theorem q327_3 {fz : Int → Int → Option Int} {d : Nat} {ls st : List AV} {h : HV} {Q : Int → HV → Prop} : G fz d 327 3 ls st h Q = X fz d 327 Q (blk 327 3) ls st h := G_eq
theorem q327_4 {fz : Int → Int → Option Int} {d : Nat} {ls st : List AV} {h : HV} {Q : Int → HV → Prop} : G fz d 327 4 ls st h Q = X fz d 327 Q (blk 327 4) ls st h := G_eq
theorem q327_5 {fz : Int → Int → Option Int} {d : Nat} {ls st : List AV} {h : HV} {Q : Int → HV → Prop} : G fz d 327 5 ls st h Q = X fz d 327 Q (blk 327 5) ls st h := G_eq
theorem q328_1 {fz : Int → Int → Option Int} {d : Nat} {ls st : List AV} {h : HV} {Q : Int → HV → Prop} : G fz d 328 1 ls st h Q = X fz d 328 Q (blk 328 1) ls st h := G_eq
theorem q328_2 {fz : Int → Int → Option Int} {d : Nat} {ls st : List AV} {h : HV} {Q : Int → HV → Prop} : G fz d 328 2 ls st h Q = X fz d 328 Q (blk 328 2) ls st h := G_eq
theorem q329_1 {fz : Int → Int → Option Int} {d : Nat} {ls st : List AV} {h : HV} {Q : Int → HV → Prop} : G fz d 329 1 ls st h Q = X fz d 329 Q (blk 329 1) ls st h := G_eq
theorem q329_2 {fz : Int → Int → Option Int} {d : Nat} {ls st : List AV} {h : HV} {Q : Int → HV → Prop} : G fz d 329 2 ls st h Q = X fz d 329 Q (blk 329 2) ls st h := G_eq
theorem q329_3 {fz : Int → Int → Option Int} {d : Nat} {ls st : List AV} {h : HV} {Q : Int → HV → Prop} : G fz d 329 3 ls st h Q = X fz d 329 Q (blk 329 3) ls st h := G_eq
theorem q329_4 {fz : Int → Int → Option Int} {d : Nat} {ls st : List AV} {h : HV} {Q : Int → HV → Prop} : G fz d 329 4 ls st h Q = X fz d 329 Q (blk 329 4) ls st h := G_eq
theorem q330_1 {fz : Int → Int → Option Int} {d : Nat} {ls st : List AV} {h : HV} {Q : Int → HV → Prop} : G fz d 330 1 ls st h Q = X fz d 330 Q (blk 330 1) ls st h := G_eq
theorem q330_2 {fz : Int → Int → Option Int} {d : Nat} {ls st : List AV} {h : HV} {Q : Int → HV → Prop} : G fz d 330 2 ls st h Q = X fz d 330 Q (blk 330 2) ls st h := G_eq
theorem q331_1 {fz : Int → Int → Option Int} {d : Nat} {ls st : List AV} {h : HV} {Q : Int → HV → Prop} : G fz d 331 1 ls st h Q = X fz d 331 Q (blk 331 1) ls st h := G_eq
theorem q331_2 {fz : Int → Int → Option Int} {d : Nat} {ls st : List AV} {h : HV} {Q : Int → HV → Prop} : G fz d 331 2 ls st h Q = X fz d 331 Q (blk 331 2) ls st h := G_eq
theorem q331_3 {fz : Int → Int → Option Int} {d : Nat} {ls st : List AV} {h : HV} {Q : Int → HV → Prop} : G fz d 331 3 ls st h Q = X fz d 331 Q (blk 331 3) ls st h := G_eq
theorem q332_1 {fz : Int → Int → Option Int} {d : Nat} {ls st : List AV} {h : HV} {Q : Int → HV → Prop} : G fz d 332 1 ls st h Q = X fz d 332 Q (blk 332 1) ls st h := G_eq
theorem q333_1 {fz : Int → Int → Option Int} {d : Nat} {ls st : List AV} {h : HV} {Q : Int → HV → Prop} : G fz d 333 1 ls st h Q = X fz d 333 Q (blk 333 1) ls st h := G_eq
theorem q333_2 {fz : Int → Int → Option Int} {d : Nat} {ls st : List AV} {h : HV} {Q : Int → HV → Prop} : G fz d 333 2 ls st h Q = X fz d 333 Q (blk 333 2) ls st h := G_eq
theorem q334_1 {fz : Int → Int → Option Int} {d : Nat} {ls st : List AV} {h : HV} {Q : Int → HV → Prop} : G fz d 334 1 ls st h Q = X fz d 334 Q (blk 334 1) ls st h := G_eq
theorem q334_2 {fz : Int → Int → Option Int} {d : Nat} {ls st : List AV} {h : HV} {Q : Int → HV → Prop} : G fz d 334 2 ls st h Q = X fz d 334 Q (blk 334 2) ls st h := G_eq
theorem q335_1 {fz : Int → Int → Option Int} {d : Nat} {ls st : List AV} {h : HV} {Q : Int → HV → Prop} : G fz d 335 1 ls st h Q = X fz d 335 Q (blk 335 1) ls st h := G_eq
theorem q336_1 {fz : Int → Int → Option Int} {d : Nat} {ls st : List AV} {h : HV} {Q : Int → HV → Prop} : G fz d 336 1 ls st h Q = X fz d 336 Q (blk 336 1) ls st h := G_eq
theorem q336_2 {fz : Int → Int → Option Int} {d : Nat} {ls st : List AV} {h : HV} {Q : Int → HV → Prop} : G fz d 336 2 ls st h Q = X fz d 336 Q (blk 336 2) ls st h := G_eq
theorem q336_3 {fz : Int → Int → Option Int} {d : Nat} {ls st : List AV} {h : HV} {Q : Int → HV → Prop} : G fz d 336 3 ls st h Q = X fz d 336 Q (blk 336 3) ls st h := G_eq
theorem q336_4 {fz : Int → Int → Option Int} {d : Nat} {ls st : List AV} {h : HV} {Q : Int → HV → Prop} : G fz d 336 4 ls st h Q = X fz d 336 Q (blk 336 4) ls st h := G_eq
theorem q336_5 {fz : Int → Int → Option Int} {d : Nat} {ls st : List AV} {h : HV} {Q : Int → HV → Prop} : G fz d 336 5 ls st h Q = X fz d 336 Q (blk 336 5) ls st h := G_eq
theorem q336_6 {fz : Int → Int → Option Int} {d : Nat} {ls st : List AV} {h : HV} {Q : Int → HV → Prop} : G fz d 336 6 ls st h Q = X fz d 336 Q (blk 336 6) ls st h := G_eq
theorem q336_7 {fz : Int → Int → Option Int} {d : Nat} {ls st : List AV} {h : HV} {Q : Int → HV → Prop} : G fz d 336 7 ls st h Q = X fz d 336 Q (blk 336 7) ls st h := G_eq
theorem q336_8 {fz : Int → Int → Option Int} {d : Nat} {ls st : List AV} {h : HV} {Q : Int → HV → Prop} : G fz d 336 8 ls st h Q = X fz d 336 Q (blk 336 8) ls st h := G_eq
theorem q336_9 {fz : Int → Int → Option Int} {d : Nat} {ls st : List AV} {h : HV} {Q : Int → HV → Prop} : G fz d 336 9 ls st h Q = X fz d 336 Q (blk 336 9) ls st h := G_eq
theorem q336_10 {fz : Int → Int → Option Int} {d : Nat} {ls st : List AV} {h : HV} {Q : Int → HV → Prop} : G fz d 336 10 ls st h Q = X fz d 336 Q (blk 336 10) ls st h := G_eq
theorem q336_11 {fz : Int → Int → Option Int} {d : Nat} {ls st : List AV} {h : HV} {Q : Int → HV → Prop} : G fz d 336 11 ls st h Q = X fz d 336 Q (blk 336 11) ls st h := G_eq
theorem q336_12 {fz : Int → Int → Option Int} {d : Nat} {ls st : List AV} {h : HV} {Q : Int → HV → Prop} : G fz d 336 12 ls st h Q = X fz d 336 Q (blk 336 12) ls st h := G_eq
theorem q336_13 {fz : Int → Int → Option Int} {d : Nat} {ls st : List AV} {h : HV} {Q : Int → HV → Prop} : G fz d 336 13 ls st h Q = X fz d 336 Q (blk 336 13) ls st h := G_eq
theorem q336_14 {fz : Int → Int → Option Int} {d : Nat} {ls st : List AV} {h : HV} {Q : Int → HV → Prop} : G fz d 336 14 ls st h Q = X fz d 336 Q (blk 336 14) ls st h := G_eq
theorem q336_15 {fz : Int → Int → Option Int} {d : Nat} {ls st : List AV} {h : HV} {Q : Int → HV → Prop} : G fz d 336 15 ls st h Q = X fz d 336 Q (blk 336 15) ls st h := G_eq
theorem q337_1 {fz : Int → Int → Option Int} {d : Nat} {ls st : List AV} {h : HV} {Q : Int → HV → Prop} : G fz d 337 1 ls st h Q = X fz d 337 Q (blk 337 1) ls st h := G_eq
theorem q337_2 {fz : Int → Int → Option Int} {d : Nat} {ls st : List AV} {h : HV} {Q : Int → HV → Prop} : G fz d 337 2 ls st h Q = X fz d 337 Q (blk 337 2) ls st h := G_eq
theorem q337_3 {fz : Int → Int → Option Int} {d : Nat} {ls st : List AV} {h : HV} {Q : Int → HV → Prop} : G fz d 337 3 ls st h Q = X fz d 337 Q (blk 337 3) ls st h := G_eq
theorem q337_4 {fz : Int → Int → Option Int} {d : Nat} {ls st : List AV} {h : HV} {Q : Int → HV → Prop} : G fz d 337 4 ls st h Q = X fz d 337 Q (blk 337 4) ls st h := G_eq
theorem q337_5 {fz : Int → Int → Option Int} {d : Nat} {ls st : List AV} {h : HV} {Q : Int → HV → Prop} : G fz d 337 5 ls st h Q = X fz d 337 Q (blk 337 5) ls st h := G_eq
theorem q338_1 {fz : Int → Int → Option Int} {d : Nat} {ls st : List AV} {h : HV} {Q : Int → HV → Prop} : G fz d 338 1 ls st h Q = X fz d 338 Q (blk 338 1) ls st h := G_eq
theorem q338_2 {fz : Int → Int → Option Int} {d : Nat} {ls st : List AV} {h : HV} {Q : Int → HV → Prop} : G fz d 338 2 ls st h Q = X fz d 338 Q (blk 338 2) ls st h := G_eq
theorem q338_3 {fz : Int → Int → Option Int} {d : Nat} {ls st : List AV} {h : HV} {Q : Int → HV → Prop} : G fz d 338 3 ls st h Q = X fz d 338 Q (blk 338 3) ls st h := G_eq
theorem q339_1 {fz : Int → Int → Option Int} {d : Nat} {ls st : List AV} {h : HV} {Q : Int → HV → Prop} : G fz d 339 1 ls st h Q = X fz d 339 Q (blk 339 1) ls st h := G_eq
theorem q339_2 {fz : Int → Int → Option Int} {d : Nat} {ls st : List AV} {h : HV} {Q : Int → HV → Prop} : G fz d 339 2 ls st h Q = X fz d 339 Q (blk 339 2) ls st h := G_eq
theorem q339_3 {fz : Int → Int → Option Int} {d : Nat} {ls st : List AV} {h : HV} {Q : Int → HV → Prop} : G fz d 339 3 ls st h Q = X fz d 339 Q (blk 339 3) ls st h := G_eq
theorem q339_4 {fz : Int → Int → Option Int} {d : Nat} {ls st : List AV} {h : HV} {Q : Int → HV → Prop} : G fz d 339 4 ls st h Q = X fz d 339 Q (blk 339 4) ls st h := G_eq
theorem q339_5 {fz : Int → Int → Option Int} {d : Nat} {ls st : List AV} {h : HV} {Q : Int → HV → Prop} : G fz d 339 5 ls st h Q = X fz d 339 Q (blk 339 5) ls st h := G_eq
theorem q340_1 {fz : Int → Int → Option Int} {d : Nat} {ls st : List AV} {h : HV} {Q : Int → HV → Prop} : G fz d 340 1 ls st h Q = X fz d 340 Q (blk 340 1) ls st h := G_eq
theorem q340_2 {fz : Int → Int → Option Int} {d : Nat} {ls st : List AV} {h : HV} {Q : Int → HV → Prop} : G fz d 340 2 ls st h Q = X fz d 340 Q (blk 340 2) ls st h := G_eq
theorem q341_1 {fz : Int → Int → Option Int} {d : Nat} {ls st : List AV} {h : HV} {Q : Int → HV → Prop} : G fz d 341 1 ls st h Q = X fz d 341 Q (blk 341 1) ls st h := G_eq
theorem q341_2 {fz : Int → Int → Option Int} {d : Nat} {ls st : List AV} {h : HV} {Q : Int → HV → Prop} : G fz d 341 2 ls st h Q = X fz d 341 Q (blk 341 2) ls st h := G_eq
theorem q341_3 {fz : Int → Int → Option Int} {d : Nat} {ls st : List AV} {h : HV} {Q : Int → HV → Prop} : G fz d 341 3 ls st h Q = X fz d 341 Q (blk 341 3) ls st h := G_eq
theorem q342_1 {fz : Int → Int → Option Int} {d : Nat} {ls st : List AV} {h : HV} {Q : Int → HV → Prop} : G fz d 342 1 ls st h Q = X fz d 342 Q (blk 342 1) ls st h := G_eq
theorem q343_1 {fz : Int → Int → Option Int} {d : Nat} {ls st : List AV} {h : HV} {Q : Int → HV → Prop} : G fz d 343 1 ls st h Q = X fz d 343 Q (blk 343 1) ls st h := G_eq
theorem q343_2 {fz : Int → Int → Option Int} {d : Nat} {ls st : List AV} {h : HV} {Q : Int → HV → Prop} : G fz d 343 2 ls st h Q = X fz d 343 Q (blk 343 2) ls st h := G_eq
theorem q344_1 {fz : Int → Int → Option Int} {d : Nat} {ls st : List AV} {h : HV} {Q : Int → HV → Prop} : G fz d 344 1 ls st h Q = X fz d 344 Q (blk 344 1) ls st h := G_eq
theorem q345_1 {fz : Int → Int → Option Int} {d : Nat} {ls st : List AV} {h : HV} {Q : Int → HV → Prop} : G fz d 345 1 ls st h Q = X fz d 345 Q (blk 345 1) ls st h := G_eq
theorem q345_2 {fz : Int → Int → Option Int} {d : Nat} {ls st : List AV} {h : HV} {Q : Int → HV → Prop} : G fz d 345 2 ls st h Q = X fz d 345 Q (blk 345 2) ls st h := G_eq
theorem q345_3 {fz : Int → Int → Option Int} {d : Nat} {ls st : List AV} {h : HV} {Q : Int → HV → Prop} : G fz d 345 3 ls st h Q = X fz d 345 Q (blk 345 3) ls st h := G_eq
theorem q345_4 {fz : Int → Int → Option Int} {d : Nat} {ls st : List AV} {h : HV} {Q : Int → HV → Prop} : G fz d 345 4 ls st h Q = X fz d 345 Q (blk 345 4) ls st h := G_eq
theorem q345_5 {fz : Int → Int → Option Int} {d : Nat} {ls st : List AV} {h : HV} {Q : Int → HV → Prop} : G fz d 345 5 ls st h Q = X fz d 345 Q (blk 345 5) ls st h := G_eq
theorem q345_6 {fz : Int → Int → Option Int} {d : Nat} {ls st : List AV} {h : HV} {Q : Int → HV → Prop} : G fz d 345 6 ls st h Q = X fz d 345 Q (blk 345 6) ls st h := G_eq
theorem q345_7 {fz : Int → Int → Option Int} {d : Nat} {ls st : List AV} {h : HV} {Q : Int → HV → Prop} : G fz d 345 7 ls st h Q = X fz d 345 Q (blk 345 7) ls st h := G_eq
theorem q345_8 {fz : Int → Int → Option Int} {d : Nat} {ls st : List AV} {h : HV} {Q : Int → HV → Prop} : G fz d 345 8 ls st h Q = X fz d 345 Q (blk 345 8) ls st h := G_eq
theorem q345_9 {fz : Int → Int → Option Int} {d : Nat} {ls st : List AV} {h : HV} {Q : Int → HV → Prop} : G fz d 345 9 ls st h Q = X fz d 345 Q (blk 345 9) ls st h := G_eq
theorem q345_10 {fz : Int → Int → Option Int} {d : Nat} {ls st : List AV} {h : HV} {Q : Int → HV → Prop} : G fz d 345 10 ls st h Q = X fz d 345 Q (blk 345 10) ls st h := G_eq
theorem q345_11 {fz : Int → Int → Option Int} {d : Nat} {ls st : List AV} {h : HV} {Q : Int → HV → Prop} : G fz d 345 11 ls st h Q = X fz d 345 Q (blk 345 11) ls st h := G_eq
theorem q345_12 {fz : Int → Int → Option Int} {d : Nat} {ls st : List AV} {h : HV} {Q : Int → HV → Prop} : G fz d 345 12 ls st h Q = X fz d 345 Q (blk 345 12) ls st h := G_eq
theorem q345_13 {fz : Int → Int → Option Int} {d : Nat} {ls st : List AV} {h : HV} {Q : Int → HV → Prop} : G fz d 345 13 ls st h Q = X fz d 345 Q (blk 345 13) ls st h := G_eq
theorem q346_1 {fz : Int → Int → Option Int} {d : Nat} {ls st : List AV} {h : HV} {Q : Int → HV → Prop} : G fz d 346 1 ls st h Q = X fz d 346 Q (blk 346 1) ls st h := G_eq
theorem q346_2 {fz : Int → Int → Option Int} {d : Nat} {ls st : List AV} {h : HV} {Q : Int → HV → Prop} : G fz d 346 2 ls st h Q = X fz d 346 Q (blk 346 2) ls st h := G_eq
theorem q346_3 {fz : Int → Int → Option Int} {d : Nat} {ls st : List AV} {h : HV} {Q : Int → HV → Prop} : G fz d 346 3 ls st h Q = X fz d 346 Q (blk 346 3) ls st h := G_eq
theorem q346_4 {fz : Int → Int → Option Int} {d : Nat} {ls st : List AV} {h : HV} {Q : Int → HV → Prop} : G fz d 346 4 ls st h Q = X fz d 346 Q (blk 346 4) ls st h := G_eq
theorem q346_5 {fz : Int → Int → Option Int} {d : Nat} {ls st : List AV} {h : HV} {Q : Int → HV → Prop} : G fz d 346 5 ls st h Q = X fz d 346 Q (blk 346 5) ls st h := G_eq
theorem q348_1 {fz : Int → Int → Option Int} {d : Nat} {ls st : List AV} {h : HV} {Q : Int → HV → Prop} : G fz d 348 1 ls st h Q = X fz d 348 Q (blk 348 1) ls st h := G_eq
theorem q348_2 {fz : Int → Int → Option Int} {d : Nat} {ls st : List AV} {h : HV} {Q : Int → HV → Prop} : G fz d 348 2 ls st h Q = X fz d 348 Q (blk 348 2) ls st h := G_eq
theorem q350_1 {fz : Int → Int → Option Int} {d : Nat} {ls st : List AV} {h : HV} {Q : Int → HV → Prop} : G fz d 350 1 ls st h Q = X fz d 350 Q (blk 350 1) ls st h := G_eq
theorem q350_2 {fz : Int → Int → Option Int} {d : Nat} {ls st : List AV} {h : HV} {Q : Int → HV → Prop} : G fz d 350 2 ls st h Q = X fz d 350 Q (blk 350 2) ls st h := G_eq
theorem q350_3 {fz : Int → Int → Option Int} {d : Nat} {ls st : List AV} {h : HV} {Q : Int → HV → Prop} : G fz d 350 3 ls st h Q = X fz d 350 Q (blk 350 3) ls st h := G_eq
theorem q351_1 {fz : Int → Int → Option Int} {d : Nat} {ls st : List AV} {h : HV} {Q : Int → HV → Prop} : G fz d 351 1 ls st h Q = X fz d 351 Q (blk 351 1) ls st h := G_eq
theorem q351_2 {fz : Int → Int → Option Int} {d : Nat} {ls st : List AV} {h : HV} {Q : Int → HV → Prop} : G fz d 351 2 ls st h Q = X fz d 351 Q (blk 351 2) ls st h := G_eq
theorem q351_3 {fz : Int → Int → Option Int} {d : Nat} {ls st : List AV} {h : HV} {Q : Int → HV → Prop} : G fz d 351 3 ls st h Q = X fz d 351 Q (blk 351 3) ls st h := G_eq
theorem q351_4 {fz : Int → Int → Option Int} {d : Nat} {ls st : List AV} {h : HV} {Q : Int → HV → Prop} : G fz d 351 4 ls st h Q = X fz d 351 Q (blk 351 4) ls st h := G_eq
theorem q352_1 {fz : Int → Int → Option Int} {d : Nat} {ls st : List AV} {h : HV} {Q : Int → HV → Prop} : G fz d 352 1 ls st h Q = X fz d 352 Q (blk 352 1) ls st h := G_eq
theorem q352_2 {fz : Int → Int → Option Int} {d : Nat} {ls st : List AV} {h : HV} {Q : Int → HV → Prop} : G fz d 352 2 ls st h Q = X fz d 352 Q (blk 352 2) ls st h := G_eq
theorem q352_3 {fz : Int → Int → Option Int} {d : Nat} {ls st : List AV} {h : HV} {Q : Int → HV → Prop} : G fz d 352 3 ls st h Q = X fz d 352 Q (blk 352 3) ls st h := G_eq
theorem q352_4 {fz : Int → Int → Option Int} {d : Nat} {ls st : List AV} {h : HV} {Q : Int → HV → Prop} : G fz d 352 4 ls st h Q = X fz d 352 Q (blk 352 4) ls st h := G_eq
theorem q353_1 {fz : Int → Int → Option Int} {d : Nat} {ls st : List AV} {h : HV} {Q : Int → HV → Prop} : G fz d 353 1 ls st h Q = X fz d 353 Q (blk 353 1) ls st h := G_eq
theorem q353_2 {fz : Int → Int → Option Int} {d : Nat} {ls st : List AV} {h : HV} {Q : Int → HV → Prop} : G fz d 353 2 ls st h Q = X fz d 353 Q (blk 353 2) ls st h := G_eq
theorem q353_3 {fz : Int → Int → Option Int} {d : Nat} {ls st : List AV} {h : HV} {Q : Int → HV → Prop} : G fz d 353 3 ls st h Q = X fz d 353 Q (blk 353 3) ls st h := G_eq
theorem q353_4 {fz : Int → Int → Option Int} {d : Nat} {ls st : List AV} {h : HV} {Q : Int → HV → Prop} : G fz d 353 4 ls st h Q = X fz d 353 Q (blk 353 4) ls st h := G_eq
theorem q353_5 {fz : Int → Int → Option Int} {d : Nat} {ls st : List AV} {h : HV} {Q : Int → HV → Prop} : G fz d 353 5 ls st h Q = X fz d 353 Q (blk 353 5) ls st h := G_eq
theorem q353_6 {fz : Int → Int → Option Int} {d : Nat} {ls st : List AV} {h : HV} {Q : Int → HV → Prop} : G fz d 353 6 ls st h Q = X fz d 353 Q (blk 353 6) ls st h := G_eq
theorem q354_1 {fz : Int → Int → Option Int} {d : Nat} {ls st : List AV} {h : HV} {Q : Int → HV → Prop} : G fz d 354 1 ls st h Q = X fz d 354 Q (blk 354 1) ls st h := G_eq
theorem q354_2 {fz : Int → Int → Option Int} {d : Nat} {ls st : List AV} {h : HV} {Q : Int → HV → Prop} : G fz d 354 2 ls st h Q = X fz d 354 Q (blk 354 2) ls st h := G_eq
theorem q354_3 {fz : Int → Int → Option Int} {d : Nat} {ls st : List AV} {h : HV} {Q : Int → HV → Prop} : G fz d 354 3 ls st h Q = X fz d 354 Q (blk 354 3) ls st h := G_eq
theorem q354_4 {fz : Int → Int → Option Int} {d : Nat} {ls st : List AV} {h : HV} {Q : Int → HV → Prop} : G fz d 354 4 ls st h Q = X fz d 354 Q (blk 354 4) ls st h := G_eq
theorem q354_5 {fz : Int → Int → Option Int} {d : Nat} {ls st : List AV} {h : HV} {Q : Int → HV → Prop} : G fz d 354 5 ls st h Q = X fz d 354 Q (blk 354 5) ls st h := G_eq
theorem q354_6 {fz : Int → Int → Option Int} {d : Nat} {ls st : List AV} {h : HV} {Q : Int → HV → Prop} : G fz d 354 6 ls st h Q = X fz d 354 Q (blk 354 6) ls st h := G_eq
theorem q354_7 {fz : Int → Int → Option Int} {d : Nat} {ls st : List AV} {h : HV} {Q : Int → HV → Prop} : G fz d 354 7 ls st h Q = X fz d 354 Q (blk 354 7) ls st h := G_eq
theorem q355_1 {fz : Int → Int → Option Int} {d : Nat} {ls st : List AV} {h : HV} {Q : Int → HV → Prop} : G fz d 355 1 ls st h Q = X fz d 355 Q (blk 355 1) ls st h := G_eq
theorem q356_1 {fz : Int → Int → Option Int} {d : Nat} {ls st : List AV} {h : HV} {Q : Int → HV → Prop} : G fz d 356 1 ls st h Q = X fz d 356 Q (blk 356 1) ls st h := G_eq
theorem q356_2 {fz : Int → Int → Option Int} {d : Nat} {ls st : List AV} {h : HV} {Q : Int → HV → Prop} : G fz d 356 2 ls st h Q = X fz d 356 Q (blk 356 2) ls st h := G_eq
theorem q356_3 {fz : Int → Int → Option Int} {d : Nat} {ls st : List AV} {h : HV} {Q : Int → HV → Prop} : G fz d 356 3 ls st h Q = X fz d 356 Q (blk 356 3) ls st h := G_eq
theorem q356_4 {fz : Int → Int → Option Int} {d : Nat} {ls st : List AV} {h : HV} {Q : Int → HV → Prop} : G fz d 356 4 ls st h Q = X fz d 356 Q (blk 356 4) ls st h := G_eq
theorem q357_1 {fz : Int → Int → Option Int} {d : Nat} {ls st : List AV} {h : HV} {Q : Int → HV → Prop} : G fz d 357 1 ls st h Q = X fz d 357 Q (blk 357 1) ls st h := G_eq
theorem q357_2 {fz : Int → Int → Option Int} {d : Nat} {ls st : List AV} {h : HV} {Q : Int → HV → Prop} : G fz d 357 2 ls st h Q = X fz d 357 Q (blk 357 2) ls st h := G_eq
theorem q357_3 {fz : Int → Int → Option Int} {d : Nat} {ls st : List AV} {h : HV} {Q : Int → HV → Prop} : G fz d 357 3 ls st h Q = X fz d 357 Q (blk 357 3) ls st h := G_eq
theorem q357_4 {fz : Int → Int → Option Int} {d : Nat} {ls st : List AV} {h : HV} {Q : Int → HV → Prop} : G fz d 357 4 ls st h Q = X fz d 357 Q (blk 357 4) ls st h := G_eq
theorem q357_5 {fz : Int → Int → Option Int} {d : Nat} {ls st : List AV} {h : HV} {Q : Int → HV → Prop} : G fz d 357 5 ls st h Q = X fz d 357 Q (blk 357 5) ls st h := G_eq
theorem q359_1 {fz : Int → Int → Option Int} {d : Nat} {ls st : List AV} {h : HV} {Q : Int → HV → Prop} : G fz d 359 1 ls st h Q = X fz d 359 Q (blk 359 1) ls st h := G_eq
theorem q359_2 {fz : Int → Int → Option Int} {d : Nat} {ls st : List AV} {h : HV} {Q : Int → HV → Prop} : G fz d 359 2 ls st h Q = X fz d 359 Q (blk 359 2) ls st h := G_eq
theorem q359_3 {fz : Int → Int → Option Int} {d : Nat} {ls st : List AV} {h : HV} {Q : Int → HV → Prop} : G fz d 359 3 ls st h Q = X fz d 359 Q (blk 359 3) ls st h := G_eq
theorem q359_4 {fz : Int → Int → Option Int} {d : Nat} {ls st : List AV} {h : HV} {Q : Int → HV → Prop} : G fz d 359 4 ls st h Q = X fz d 359 Q (blk 359 4) ls st h := G_eq
theorem q359_5 {fz : Int → Int → Option Int} {d : Nat} {ls st : List AV} {h : HV} {Q : Int → HV → Prop} : G fz d 359 5 ls st h Q = X fz d 359 Q (blk 359 5) ls st h := G_eq
theorem q359_6 {fz : Int → Int → Option Int} {d : Nat} {ls st : List AV} {h : HV} {Q : Int → HV → Prop} : G fz d 359 6 ls st h Q = X fz d 359 Q (blk 359 6) ls st h := G_eq
theorem q359_7 {fz : Int → Int → Option Int} {d : Nat} {ls st : List AV} {h : HV} {Q : Int → HV → Prop} : G fz d 359 7 ls st h Q = X fz d 359 Q (blk 359 7) ls st h := G_eq
theorem q359_8 {fz : Int → Int → Option Int} {d : Nat} {ls st : List AV} {h : HV} {Q : Int → HV → Prop} : G fz d 359 8 ls st h Q = X fz d 359 Q (blk 359 8) ls st h := G_eq
theorem q359_9 {fz : Int → Int → Option Int} {d : Nat} {ls st : List AV} {h : HV} {Q : Int → HV → Prop} : G fz d 359 9 ls st h Q = X fz d 359 Q (blk 359 9) ls st h := G_eq
theorem q359_10 {fz : Int → Int → Option Int} {d : Nat} {ls st : List AV} {h : HV} {Q : Int → HV → Prop} : G fz d 359 10 ls st h Q = X fz d 359 Q (blk 359 10) ls st h := G_eq
theorem q359_11 {fz : Int → Int → Option Int} {d : Nat} {ls st : List AV} {h : HV} {Q : Int → HV → Prop} : G fz d 359 11 ls st h Q = X fz d 359 Q (blk 359 11) ls st h := G_eq
theorem q359_12 {fz : Int → Int → Option Int} {d : Nat} {ls st : List AV} {h : HV} {Q : Int → HV → Prop} : G fz d 359 12 ls st h Q = X fz d 359 Q (blk 359 12) ls st h := G_eq
theorem q359_13 {fz : Int → Int → Option Int} {d : Nat} {ls st : List AV} {h : HV} {Q : Int → HV → Prop} : G fz d 359 13 ls st h Q = X fz d 359 Q (blk 359 13) ls st h := G_eq
theorem q359_14 {fz : Int → Int → Option Int} {d : Nat} {ls st : List AV} {h : HV} {Q : Int → HV → Prop} : G fz d 359 14 ls st h Q = X fz d 359 Q (blk 359 14) ls st h := G_eq
theorem q359_15 {fz : Int → Int → Option Int} {d : Nat} {ls st : List AV} {h : HV} {Q : Int → HV → Prop} : G fz d 359 15 ls st h Q = X fz d 359 Q (blk 359 15) ls st h := G_eq
theorem q359_16 {fz : Int → Int → Option Int} {d : Nat} {ls st : List AV} {h : HV} {Q : Int → HV → Prop} : G fz d 359 16 ls st h Q = X fz d 359 Q (blk 359 16) ls st h := G_eq
theorem q359_17 {fz : Int → Int → Option Int} {d : Nat} {ls st : List AV} {h : HV} {Q : Int → HV → Prop} : G fz d 359 17 ls st h Q = X fz d 359 Q (blk 359 17) ls st h := G_eq
theorem q359_18 {fz : Int → Int → Option Int} {d : Nat} {ls st : List AV} {h : HV} {Q : Int → HV → Prop} : G fz d 359 18 ls st h Q = X fz d 359 Q (blk 359 18) ls st h := G_eq
theorem q360_1 {fz : Int → Int → Option Int} {d : Nat} {ls st : List AV} {h : HV} {Q : Int → HV → Prop} : G fz d 360 1 ls st h Q = X fz d 360 Q (blk 360 1) ls st h := G_eq
theorem q360_2 {fz : Int → Int → Option Int} {d : Nat} {ls st : List AV} {h : HV} {Q : Int → HV → Prop} : G fz d 360 2 ls st h Q = X fz d 360 Q (blk 360 2) ls st h := G_eq
theorem q360_3 {fz : Int → Int → Option Int} {d : Nat} {ls st : List AV} {h : HV} {Q : Int → HV → Prop} : G fz d 360 3 ls st h Q = X fz d 360 Q (blk 360 3) ls st h := G_eq
theorem q360_4 {fz : Int → Int → Option Int} {d : Nat} {ls st : List AV} {h : HV} {Q : Int → HV → Prop} : G fz d 360 4 ls st h Q = X fz d 360 Q (blk 360 4) ls st h := G_eq
theorem q361_1 {fz : Int → Int → Option Int} {d : Nat} {ls st : List AV} {h : HV} {Q : Int → HV → Prop} : G fz d 361 1 ls st h Q = X fz d 361 Q (blk 361 1) ls st h := G_eq
theorem q361_2 {fz : Int → Int → Option Int} {d : Nat} {ls st : List AV} {h : HV} {Q : Int → HV → Prop} : G fz d 361 2 ls st h Q = X fz d 361 Q (blk 361 2) ls st h := G_eq
theorem q362_1 {fz : Int → Int → Option Int} {d : Nat} {ls st : List AV} {h : HV} {Q : Int → HV → Prop} : G fz d 362 1 ls st h Q = X fz d 362 Q (blk 362 1) ls st h := G_eq
theorem q362_2 {fz : Int → Int → Option Int} {d : Nat} {ls st : List AV} {h : HV} {Q : Int → HV → Prop} : G fz d 362 2 ls st h Q = X fz d 362 Q (blk 362 2) ls st h := G_eq
theorem q362_3 {fz : Int → Int → Option Int} {d : Nat} {ls st : List AV} {h : HV} {Q : Int → HV → Prop} : G fz d 362 3 ls st h Q = X fz d 362 Q (blk 362 3) ls st h := G_eq
theorem q362_4 {fz : Int → Int → Option Int} {d : Nat} {ls st : List AV} {h : HV} {Q : Int → HV → Prop} : G fz d 362 4 ls st h Q = X fz d 362 Q (blk 362 4) ls st h := G_eq
theorem q362_5 {fz : Int → Int → Option Int} {d : Nat} {ls st : List AV} {h : HV} {Q : Int → HV → Prop} : G fz d 362 5 ls st h Q = X fz d 362 Q (blk 362 5) ls st h := G_eq
theorem q362_6 {fz : Int → Int → Option Int} {d : Nat} {ls st : List AV} {h : HV} {Q : Int → HV → Prop} : G fz d 362 6 ls st h Q = X fz d 362 Q (blk 362 6) ls st h := G_eq
theorem q362_7 {fz : Int → Int → Option Int} {d : Nat} {ls st : List AV} {h : HV} {Q : Int → HV → Prop} : G fz d 362 7 ls st h Q = X fz d 362 Q (blk 362 7) ls st h := G_eq
theorem q362_8 {fz : Int → Int → Option Int} {d : Nat} {ls st : List AV} {h : HV} {Q : Int → HV → Prop} : G fz d 362 8 ls st h Q = X fz d 362 Q (blk 362 8) ls st h := G_eq
theorem q362_9 {fz : Int → Int → Option Int} {d : Nat} {ls st : List AV} {h : HV} {Q : Int → HV → Prop} : G fz d 362 9 ls st h Q = X fz d 362 Q (blk 362 9) ls st h := G_eq
theorem q362_10 {fz : Int → Int → Option Int} {d : Nat} {ls st : List AV} {h : HV} {Q : Int → HV → Prop} : G fz d 362 10 ls st h Q = X fz d 362 Q (blk 362 10) ls st h := G_eq
theorem q362_11 {fz : Int → Int → Option Int} {d : Nat} {ls st : List AV} {h : HV} {Q : Int → HV → Prop} : G fz d 362 11 ls st h Q = X fz d 362 Q (blk 362 11) ls st h := G_eq
theorem q363_1 {fz : Int → Int → Option Int} {d : Nat} {ls st : List AV} {h : HV} {Q : Int → HV → Prop} : G fz d 363 1 ls st h Q = X fz d 363 Q (blk 363 1) ls st h := G_eq
theorem q363_2 {fz : Int → Int → Option Int} {d : Nat} {ls st : List AV} {h : HV} {Q : Int → HV → Prop} : G fz d 363 2 ls st h Q = X fz d 363 Q (blk 363 2) ls st h := G_eq
theorem q363_3 {fz : Int → Int → Option Int} {d : Nat} {ls st : List AV} {h : HV} {Q : Int → HV → Prop} : G fz d 363 3 ls st h Q = X fz d 363 Q (blk 363 3) ls st h := G_eq
theorem q363_4 {fz : Int → Int → Option Int} {d : Nat} {ls st : List AV} {h : HV} {Q : Int → HV → Prop} : G fz d 363 4 ls st h Q = X fz d 363 Q (blk 363 4) ls st h := G_eq
theorem q363_5 {fz : Int → Int → Option Int} {d : Nat} {ls st : List AV} {h : HV} {Q : Int → HV → Prop} : G fz d 363 5 ls st h Q = X fz d 363 Q (blk 363 5) ls st h := G_eq
theorem q363_6 {fz : Int → Int → Option Int} {d : Nat} {ls st : List AV} {h : HV} {Q : Int → HV → Prop} : G fz d 363 6 ls st h Q = X fz d 363 Q (blk 363 6) ls st h := G_eq
theorem q363_7 {fz : Int → Int → Option Int} {d : Nat} {ls st : List AV} {h : HV} {Q : Int → HV → Prop} : G fz d 363 7 ls st h Q = X fz d 363 Q (blk 363 7) ls st h := G_eq
theorem q363_8 {fz : Int → Int → Option Int} {d : Nat} {ls st : List AV} {h : HV} {Q : Int → HV → Prop} : G fz d 363 8 ls st h Q = X fz d 363 Q (blk 363 8) ls st h := G_eq
theorem q364_1 {fz : Int → Int → Option Int} {d : Nat} {ls st : List AV} {h : HV} {Q : Int → HV → Prop} : G fz d 364 1 ls st h Q = X fz d 364 Q (blk 364 1) ls st h := G_eq
theorem q364_2 {fz : Int → Int → Option Int} {d : Nat} {ls st : List AV} {h : HV} {Q : Int → HV → Prop} : G fz d 364 2 ls st h Q = X fz d 364 Q (blk 364 2) ls st h := G_eq
theorem q364_3 {fz : Int → Int → Option Int} {d : Nat} {ls st : List AV} {h : HV} {Q : Int → HV → Prop} : G fz d 364 3 ls st h Q = X fz d 364 Q (blk 364 3) ls st h := G_eq
theorem q365_1 {fz : Int → Int → Option Int} {d : Nat} {ls st : List AV} {h : HV} {Q : Int → HV → Prop} : G fz d 365 1 ls st h Q = X fz d 365 Q (blk 365 1) ls st h := G_eq
theorem q365_2 {fz : Int → Int → Option Int} {d : Nat} {ls st : List AV} {h : HV} {Q : Int → HV → Prop} : G fz d 365 2 ls st h Q = X fz d 365 Q (blk 365 2) ls st h := G_eq
theorem q365_3 {fz : Int → Int → Option Int} {d : Nat} {ls st : List AV} {h : HV} {Q : Int → HV → Prop} : G fz d 365 3 ls st h Q = X fz d 365 Q (blk 365 3) ls st h := G_eq
theorem q366_1 {fz : Int → Int → Option Int} {d : Nat} {ls st : List AV} {h : HV} {Q : Int → HV → Prop} : G fz d 366 1 ls st h Q = X fz d 366 Q (blk 366 1) ls st h := G_eq
theorem q366_2 {fz : Int → Int → Option Int} {d : Nat} {ls st : List AV} {h : HV} {Q : Int → HV → Prop} : G fz d 366 2 ls st h Q = X fz d 366 Q (blk 366 2) ls st h := G_eq
theorem q366_3 {fz : Int → Int → Option Int} {d : Nat} {ls st : List AV} {h : HV} {Q : Int → HV → Prop} : G fz d 366 3 ls st h Q = X fz d 366 Q (blk 366 3) ls st h := G_eq
theorem q366_4 {fz : Int → Int → Option Int} {d : Nat} {ls st : List AV} {h : HV} {Q : Int → HV → Prop} : G fz d 366 4 ls st h Q = X fz d 366 Q (blk 366 4) ls st h := G_eq
theorem q366_5 {fz : Int → Int → Option Int} {d : Nat} {ls st : List AV} {h : HV} {Q : Int → HV → Prop} : G fz d 366 5 ls st h Q = X fz d 366 Q (blk 366 5) ls st h := G_eq
theorem q366_6 {fz : Int → Int → Option Int} {d : Nat} {ls st : List AV} {h : HV} {Q : Int → HV → Prop} : G fz d 366 6 ls st h Q = X fz d 366 Q (blk 366 6) ls st h := G_eq
theorem q367_1 {fz : Int → Int → Option Int} {d : Nat} {ls st : List AV} {h : HV} {Q : Int → HV → Prop} : G fz d 367 1 ls st h Q = X fz d 367 Q (blk 367 1) ls st h := G_eq
theorem q367_2 {fz : Int → Int → Option Int} {d : Nat} {ls st : List AV} {h : HV} {Q : Int → HV → Prop} : G fz d 367 2 ls st h Q = X fz d 367 Q (blk 367 2) ls st h := G_eq
theorem q367_3 {fz : Int → Int → Option Int} {d : Nat} {ls st : List AV} {h : HV} {Q : Int → HV → Prop} : G fz d 367 3 ls st h Q = X fz d 367 Q (blk 367 3) ls st h := G_eq
theorem q367_4 {fz : Int → Int → Option Int} {d : Nat} {ls st : List AV} {h : HV} {Q : Int → HV → Prop} : G fz d 367 4 ls st h Q = X fz d 367 Q (blk 367 4) ls st h := G_eq
theorem q368_1 {fz : Int → Int → Option Int} {d : Nat} {ls st : List AV} {h : HV} {Q : Int → HV → Prop} : G fz d 368 1 ls st h Q = X fz d 368 Q (blk 368 1) ls st h := G_eq
theorem q368_2 {fz : Int → Int → Option Int} {d : Nat} {ls st : List AV} {h : HV} {Q : Int → HV → Prop} : G fz d 368 2 ls st h Q = X fz d 368 Q (blk 368 2) ls st h := G_eq
theorem q368_3 {fz : Int → Int → Option Int} {d : Nat} {ls st : List AV} {h : HV} {Q : Int → HV → Prop} : G fz d 368 3 ls st h Q = X fz d 368 Q (blk 368 3) ls st h := G_eq
theorem q368_4 {fz : Int → Int → Option Int} {d : Nat} {ls st : List AV} {h : HV} {Q : Int → HV → Prop} : G fz d 368 4 ls st h Q = X fz d 368 Q (blk 368 4) ls st h := G_eq
theorem q368_5 {fz : Int → Int → Option Int} {d : Nat} {ls st : List AV} {h : HV} {Q : Int → HV → Prop} : G fz d 368 5 ls st h Q = X fz d 368 Q (blk 368 5) ls st h := G_eq
theorem q368_6 {fz : Int → Int → Option Int} {d : Nat} {ls st : List AV} {h : HV} {Q : Int → HV → Prop} : G fz d 368 6 ls st h Q = X fz d 368 Q (blk 368 6) ls st h := G_eq
theorem q368_7 {fz : Int → Int → Option Int} {d : Nat} {ls st : List AV} {h : HV} {Q : Int → HV → Prop} : G fz d 368 7 ls st h Q = X fz d 368 Q (blk 368 7) ls st h := G_eq
theorem q368_8 {fz : Int → Int → Option Int} {d : Nat} {ls st : List AV} {h : HV} {Q : Int → HV → Prop} : G fz d 368 8 ls st h Q = X fz d 368 Q (blk 368 8) ls st h := G_eq
theorem q369_1 {fz : Int → Int → Option Int} {d : Nat} {ls st : List AV} {h : HV} {Q : Int → HV → Prop} : G fz d 369 1 ls st h Q = X fz d 369 Q (blk 369 1) ls st h := G_eq
theorem q369_2 {fz : Int → Int → Option Int} {d : Nat} {ls st : List AV} {h : HV} {Q : Int → HV → Prop} : G fz d 369 2 ls st h Q = X fz d 369 Q (blk 369 2) ls st h := G_eq
theorem q370_1 {fz : Int → Int → Option Int} {d : Nat} {ls st : List AV} {h : HV} {Q : Int → HV → Prop} : G fz d 370 1 ls st h Q = X fz d 370 Q (blk 370 1) ls st h := G_eq
theorem q370_2 {fz : Int → Int → Option Int} {d : Nat} {ls st : List AV} {h : HV} {Q : Int → HV → Prop} : G fz d 370 2 ls st h Q = X fz d 370 Q (blk 370 2) ls st h := G_eq
theorem q370_3 {fz : Int → Int → Option Int} {d : Nat} {ls st : List AV} {h : HV} {Q : Int → HV → Prop} : G fz d 370 3 ls st h Q = X fz d 370 Q (blk 370 3) ls st h := G_eq
theorem q371_1 {fz : Int → Int → Option Int} {d : Nat} {ls st : List AV} {h : HV} {Q : Int → HV → Prop} : G fz d 371 1 ls st h Q = X fz d 371 Q (blk 371 1) ls st h := G_eq
theorem q371_2 {fz : Int → Int → Option Int} {d : Nat} {ls st : List AV} {h : HV} {Q : Int → HV → Prop} : G fz d 371 2 ls st h Q = X fz d 371 Q (blk 371 2) ls st h := G_eq
theorem q371_3 {fz : Int → Int → Option Int} {d : Nat} {ls st : List AV} {h : HV} {Q : Int → HV → Prop} : G fz d 371 3 ls st h Q = X fz d 371 Q (blk 371 3) ls st h := G_eq
theorem q371_4 {fz : Int → Int → Option Int} {d : Nat} {ls st : List AV} {h : HV} {Q : Int → HV → Prop} : G fz d 371 4 ls st h Q = X fz d 371 Q (blk 371 4) ls st h := G_eq
theorem q371_5 {fz : Int → Int → Option Int} {d : Nat} {ls st : List AV} {h : HV} {Q : Int → HV → Prop} : G fz d 371 5 ls st h Q = X fz d 371 Q (blk 371 5) ls st h := G_eq
theorem q373_1 {fz : Int → Int → Option Int} {d : Nat} {ls st : List AV} {h : HV} {Q : Int → HV → Prop} : G fz d 373 1 ls st h Q = X fz d 373 Q (blk 373 1) ls st h := G_eq
theorem q373_2 {fz : Int → Int → Option Int} {d : Nat} {ls st : List AV} {h : HV} {Q : Int → HV → Prop} : G fz d 373 2 ls st h Q = X fz d 373 Q (blk 373 2) ls st h := G_eq
theorem q373_3 {fz : Int → Int → Option Int} {d : Nat} {ls st : List AV} {h : HV} {Q : Int → HV → Prop} : G fz d 373 3 ls st h Q = X fz d 373 Q (blk 373 3) ls st h := G_eq
theorem q374_1 {fz : Int → Int → Option Int} {d : Nat} {ls st : List AV} {h : HV} {Q : Int → HV → Prop} : G fz d 374 1 ls st h Q = X fz d 374 Q (blk 374 1) ls st h := G_eq
theorem q374_2 {fz : Int → Int → Option Int} {d : Nat} {ls st : List AV} {h : HV} {Q : Int → HV → Prop} : G fz d 374 2 ls st h Q = X fz d 374 Q (blk 374 2) ls st h := G_eq
theorem q374_3 {fz : Int → Int → Option Int} {d : Nat} {ls st : List AV} {h : HV} {Q : Int → HV → Prop} : G fz d 374 3 ls st h Q = X fz d 374 Q (blk 374 3) ls st h := G_eq
theorem q374_4 {fz : Int → Int → Option Int} {d : Nat} {ls st : List AV} {h : HV} {Q : Int → HV → Prop} : G fz d 374 4 ls st h Q = X fz d 374 Q (blk 374 4) ls st h := G_eq
theorem q374_5 {fz : Int → Int → Option Int} {d : Nat} {ls st : List AV} {h : HV} {Q : Int → HV → Prop} : G fz d 374 5 ls st h Q = X fz d 374 Q (blk 374 5) ls st h := G_eq
theorem q374_6 {fz : Int → Int → Option Int} {d : Nat} {ls st : List AV} {h : HV} {Q : Int → HV → Prop} : G fz d 374 6 ls st h Q = X fz d 374 Q (blk 374 6) ls st h := G_eq
theorem q374_7 {fz : Int → Int → Option Int} {d : Nat} {ls st : List AV} {h : HV} {Q : Int → HV → Prop} : G fz d 374 7 ls st h Q = X fz d 374 Q (blk 374 7) ls st h := G_eq
theorem q374_8 {fz : Int → Int → Option Int} {d : Nat} {ls st : List AV} {h : HV} {Q : Int → HV → Prop} : G fz d 374 8 ls st h Q = X fz d 374 Q (blk 374 8) ls st h := G_eq
theorem q374_9 {fz : Int → Int → Option Int} {d : Nat} {ls st : List AV} {h : HV} {Q : Int → HV → Prop} : G fz d 374 9 ls st h Q = X fz d 374 Q (blk 374 9) ls st h := G_eq
theorem q374_10 {fz : Int → Int → Option Int} {d : Nat} {ls st : List AV} {h : HV} {Q : Int → HV → Prop} : G fz d 374 10 ls st h Q = X fz d 374 Q (blk 374 10) ls st h := G_eq
theorem q374_11 {fz : Int → Int → Option Int} {d : Nat} {ls st : List AV} {h : HV} {Q : Int → HV → Prop} : G fz d 374 11 ls st h Q = X fz d 374 Q (blk 374 11) ls st h := G_eq
theorem q374_12 {fz : Int → Int → Option Int} {d : Nat} {ls st : List AV} {h : HV} {Q : Int → HV → Prop} : G fz d 374 12 ls st h Q = X fz d 374 Q (blk 374 12) ls st h := G_eq
theorem q374_13 {fz : Int → Int → Option Int} {d : Nat} {ls st : List AV} {h : HV} {Q : Int → HV → Prop} : G fz d 374 13 ls st h Q = X fz d 374 Q (blk 374 13) ls st h := G_eq
theorem q374_14 {fz : Int → Int → Option Int} {d : Nat} {ls st : List AV} {h : HV} {Q : Int → HV → Prop} : G fz d 374 14 ls st h Q = X fz d 374 Q (blk 374 14) ls st h := G_eq
theorem q374_15 {fz : Int → Int → Option Int} {d : Nat} {ls st : List AV} {h : HV} {Q : Int → HV → Prop} : G fz d 374 15 ls st h Q = X fz d 374 Q (blk 374 15) ls st h := G_eq
theorem q375_1 {fz : Int → Int → Option Int} {d : Nat} {ls st : List AV} {h : HV} {Q : Int → HV → Prop} : G fz d 375 1 ls st h Q = X fz d 375 Q (blk 375 1) ls st h := G_eq
theorem q375_2 {fz : Int → Int → Option Int} {d : Nat} {ls st : List AV} {h : HV} {Q : Int → HV → Prop} : G fz d 375 2 ls st h Q = X fz d 375 Q (blk 375 2) ls st h := G_eq
theorem q375_3 {fz : Int → Int → Option Int} {d : Nat} {ls st : List AV} {h : HV} {Q : Int → HV → Prop} : G fz d 375 3 ls st h Q = X fz d 375 Q (blk 375 3) ls st h := G_eq
theorem q375_4 {fz : Int → Int → Option Int} {d : Nat} {ls st : List AV} {h : HV} {Q : Int → HV → Prop} : G fz d 375 4 ls st h Q = X fz d 375 Q (blk 375 4) ls st h := G_eq
theorem q375_5 {fz : Int → Int → Option Int} {d : Nat} {ls st : List AV} {h : HV} {Q : Int → HV → Prop} : G fz d 375 5 ls st h Q = X fz d 375 Q (blk 375 5) ls st h := G_eq
theorem q375_6 {fz : Int → Int → Option Int} {d : Nat} {ls st : List AV} {h : HV} {Q : Int → HV → Prop} : G fz d 375 6 ls st h Q = X fz d 375 Q (blk 375 6) ls st h := G_eq
theorem q377_1 {fz : Int → Int → Option Int} {d : Nat} {ls st : List AV} {h : HV} {Q : Int → HV → Prop} : G fz d 377 1 ls st h Q = X fz d 377 Q (blk 377 1) ls st h := G_eq
theorem q377_2 {fz : Int → Int → Option Int} {d : Nat} {ls st : List AV} {h : HV} {Q : Int → HV → Prop} : G fz d 377 2 ls st h Q = X fz d 377 Q (blk 377 2) ls st h := G_eq
theorem q377_3 {fz : Int → Int → Option Int} {d : Nat} {ls st : List AV} {h : HV} {Q : Int → HV → Prop} : G fz d 377 3 ls st h Q = X fz d 377 Q (blk 377 3) ls st h := G_eq
theorem q377_4 {fz : Int → Int → Option Int} {d : Nat} {ls st : List AV} {h : HV} {Q : Int → HV → Prop} : G fz d 377 4 ls st h Q = X fz d 377 Q (blk 377 4) ls st h := G_eq
theorem q378_1 {fz : Int → Int → Option Int} {d : Nat} {ls st : List AV} {h : HV} {Q : Int → HV → Prop} : G fz d 378 1 ls st h Q = X fz d 378 Q (blk 378 1) ls st h := G_eq
theorem q378_2 {fz : Int → Int → Option Int} {d : Nat} {ls st : List AV} {h : HV} {Q : Int → HV → Prop} : G fz d 378 2 ls st h Q = X fz d 378 Q (blk 378 2) ls st h := G_eq
theorem q378_3 {fz : Int → Int → Option Int} {d : Nat} {ls st : List AV} {h : HV} {Q : Int → HV → Prop} : G fz d 378 3 ls st h Q = X fz d 378 Q (blk 378 3) ls st h := G_eq
theorem q378_4 {fz : Int → Int → Option Int} {d : Nat} {ls st : List AV} {h : HV} {Q : Int → HV → Prop} : G fz d 378 4 ls st h Q = X fz d 378 Q (blk 378 4) ls st h := G_eq
theorem q379_1 {fz : Int → Int → Option Int} {d : Nat} {ls st : List AV} {h : HV} {Q : Int → HV → Prop} : G fz d 379 1 ls st h Q = X fz d 379 Q (blk 379 1) ls st h := G_eq
theorem q379_2 {fz : Int → Int → Option Int} {d : Nat} {ls st : List AV} {h : HV} {Q : Int → HV → Prop} : G fz d 379 2 ls st h Q = X fz d 379 Q (blk 379 2) ls st h := G_eq
theorem q379_3 {fz : Int → Int → Option Int} {d : Nat} {ls st : List AV} {h : HV} {Q : Int → HV → Prop} : G fz d 379 3 ls st h Q = X fz d 379 Q (blk 379 3) ls st h := G_eq
theorem q379_4 {fz : Int → Int → Option Int} {d : Nat} {ls st : List AV} {h : HV} {Q : Int → HV → Prop} : G fz d 379 4 ls st h Q = X fz d 379 Q (blk 379 4) ls st h := G_eq
theorem q379_5 {fz : Int → Int → Option Int} {d : Nat} {ls st : List AV} {h : HV} {Q : Int → HV → Prop} : G fz d 379 5 ls st h Q = X fz d 379 Q (blk 379 5) ls st h := G_eq
theorem q379_6 {fz : Int → Int → Option Int} {d : Nat} {ls st : List AV} {h : HV} {Q : Int → HV → Prop} : G fz d 379 6 ls st h Q = X fz d 379 Q (blk 379 6) ls st h := G_eq
theorem q380_1 {fz : Int → Int → Option Int} {d : Nat} {ls st : List AV} {h : HV} {Q : Int → HV → Prop} : G fz d 380 1 ls st h Q = X fz d 380 Q (blk 380 1) ls st h := G_eq
theorem q380_2 {fz : Int → Int → Option Int} {d : Nat} {ls st : List AV} {h : HV} {Q : Int → HV → Prop} : G fz d 380 2 ls st h Q = X fz d 380 Q (blk 380 2) ls st h := G_eq
theorem q380_3 {fz : Int → Int → Option Int} {d : Nat} {ls st : List AV} {h : HV} {Q : Int → HV → Prop} : G fz d 380 3 ls st h Q = X fz d 380 Q (blk 380 3) ls st h := G_eq
theorem q382_1 {fz : Int → Int → Option Int} {d : Nat} {ls st : List AV} {h : HV} {Q : Int → HV → Prop} : G fz d 382 1 ls st h Q = X fz d 382 Q (blk 382 1) ls st h := G_eq
theorem q382_2 {fz : Int → Int → Option Int} {d : Nat} {ls st : List AV} {h : HV} {Q : Int → HV → Prop} : G fz d 382 2 ls st h Q = X fz d 382 Q (blk 382 2) ls st h := G_eq
theorem q382_3 {fz : Int → Int → Option Int} {d : Nat} {ls st : List AV} {h : HV} {Q : Int → HV → Prop} : G fz d 382 3 ls st h Q = X fz d 382 Q (blk 382 3) ls st h := G_eq
theorem q382_4 {fz : Int → Int → Option Int} {d : Nat} {ls st : List AV} {h : HV} {Q : Int → HV → Prop} : G fz d 382 4 ls st h Q = X fz d 382 Q (blk 382 4) ls st h := G_eq
theorem q382_5 {fz : Int → Int → Option Int} {d : Nat} {ls st : List AV} {h : HV} {Q : Int → HV → Prop} : G fz d 382 5 ls st h Q = X fz d 382 Q (blk 382 5) ls st h := G_eq
theorem q382_6 {fz : Int → Int → Option Int} {d : Nat} {ls st : List AV} {h : HV} {Q : Int → HV → Prop} : G fz d 382 6 ls st h Q = X fz d 382 Q (blk 382 6) ls st h := G_eq
theorem q382_7 {fz : Int → Int → Option Int} {d : Nat} {ls st : List AV} {h : HV} {Q : Int → HV → Prop} : G fz d 382 7 ls st h Q = X fz d 382 Q (blk 382 7) ls st h := G_eq
theorem q382_8 {fz : Int → Int → Option Int} {d : Nat} {ls st : List AV} {h : HV} {Q : Int → HV → Prop} : G fz d 382 8 ls st h Q = X fz d 382 Q (blk 382 8) ls st h := G_eq
theorem q382_9 {fz : Int → Int → Option Int} {d : Nat} {ls st : List AV} {h : HV} {Q : Int → HV → Prop} : G fz d 382 9 ls st h Q = X fz d 382 Q (blk 382 9) ls st h := G_eq
theorem q382_10 {fz : Int → Int → Option Int} {d : Nat} {ls st : List AV} {h : HV} {Q : Int → HV → Prop} : G fz d 382 10 ls st h Q = X fz d 382 Q (blk 382 10) ls st h := G_eq
theorem q382_11 {fz : Int → Int → Option Int} {d : Nat} {ls st : List AV} {h : HV} {Q : Int → HV → Prop} : G fz d 382 11 ls st h Q = X fz d 382 Q (blk 382 11) ls st h := G_eq
theorem q382_12 {fz : Int → Int → Option Int} {d : Nat} {ls st : List AV} {h : HV} {Q : Int → HV → Prop} : G fz d 382 12 ls st h Q = X fz d 382 Q (blk 382 12) ls st h := G_eq
theorem q382_13 {fz : Int → Int → Option Int} {d : Nat} {ls st : List AV} {h : HV} {Q : Int → HV → Prop} : G fz d 382 13 ls st h Q = X fz d 382 Q (blk 382 13) ls st h := G_eq
theorem q382_14 {fz : Int → Int → Option Int} {d : Nat} {ls st : List AV} {h : HV} {Q : Int → HV → Prop} : G fz d 382 14 ls st h Q = X fz d 382 Q (blk 382 14) ls st h := G_eq
theorem q383_1 {fz : Int → Int → Option Int} {d : Nat} {ls st : List AV} {h : HV} {Q : Int → HV → Prop} : G fz d 383 1 ls st h Q = X fz d 383 Q (blk 383 1) ls st h := G_eq
theorem q383_2 {fz : Int → Int → Option Int} {d : Nat} {ls st : List AV} {h : HV} {Q : Int → HV → Prop} : G fz d 383 2 ls st h Q = X fz d 383 Q (blk 383 2) ls st h := G_eq
theorem q383_3 {fz : Int → Int → Option Int} {d : Nat} {ls st : List AV} {h : HV} {Q : Int → HV → Prop} : G fz d 383 3 ls st h Q = X fz d 383 Q (blk 383 3) ls st h := G_eq
theorem q383_4 {fz : Int → Int → Option Int} {d : Nat} {ls st : List AV} {h : HV} {Q : Int → HV → Prop} : G fz d 383 4 ls st h Q = X fz d 383 Q (blk 383 4) ls st h := G_eq
theorem q383_5 {fz : Int → Int → Option Int} {d : Nat} {ls st : List AV} {h : HV} {Q : Int → HV → Prop} : G fz d 383 5 ls st h Q = X fz d 383 Q (blk 383 5) ls st h := G_eq
theorem q383_6 {fz : Int → Int → Option Int} {d : Nat} {ls st : List AV} {h : HV} {Q : Int → HV → Prop} : G fz d 383 6 ls st h Q = X fz d 383 Q (blk 383 6) ls st h := G_eq
theorem q383_7 {fz : Int → Int → Option Int} {d : Nat} {ls st : List AV} {h : HV} {Q : Int → HV → Prop} : G fz d 383 7 ls st h Q = X fz d 383 Q (blk 383 7) ls st h := G_eq
theorem q383_8 {fz : Int → Int → Option Int} {d : Nat} {ls st : List AV} {h : HV} {Q : Int → HV → Prop} : G fz d 383 8 ls st h Q = X fz d 383 Q (blk 383 8) ls st h := G_eq
theorem q383_9 {fz : Int → Int → Option Int} {d : Nat} {ls st : List AV} {h : HV} {Q : Int → HV → Prop} : G fz d 383 9 ls st h Q = X fz d 383 Q (blk 383 9) ls st h := G_eq
theorem q383_10 {fz : Int → Int → Option Int} {d : Nat} {ls st : List AV} {h : HV} {Q : Int → HV → Prop} : G fz d 383 10 ls st h Q = X fz d 383 Q (blk 383 10) ls st h := G_eq
theorem q383_11 {fz : Int → Int → Option Int} {d : Nat} {ls st : List AV} {h : HV} {Q : Int → HV → Prop} : G fz d 383 11 ls st h Q = X fz d 383 Q (blk 383 11) ls st h := G_eq
theorem q383_12 {fz : Int → Int → Option Int} {d : Nat} {ls st : List AV} {h : HV} {Q : Int → HV → Prop} : G fz d 383 12 ls st h Q = X fz d 383 Q (blk 383 12) ls st h := G_eq
theorem q383_13 {fz : Int → Int → Option Int} {d : Nat} {ls st : List AV} {h : HV} {Q : Int → HV → Prop} : G fz d 383 13 ls st h Q = X fz d 383 Q (blk 383 13) ls st h := G_eq
theorem q383_14 {fz : Int → Int → Option Int} {d : Nat} {ls st : List AV} {h : HV} {Q : Int → HV → Prop} : G fz d 383 14 ls st h Q = X fz d 383 Q (blk 383 14) ls st h := G_eq
theorem q383_15 {fz : Int → Int → Option Int} {d : Nat} {ls st : List AV} {h : HV} {Q : Int → HV → Prop} : G fz d 383 15 ls st h Q = X fz d 383 Q (blk 383 15) ls st h := G_eq
theorem q383_16 {fz : Int → Int → Option Int} {d : Nat} {ls st : List AV} {h : HV} {Q : Int → HV → Prop} : G fz d 383 16 ls st h Q = X fz d 383 Q (blk 383 16) ls st h := G_eq
theorem q383_17 {fz : Int → Int → Option Int} {d : Nat} {ls st : List AV} {h : HV} {Q : Int → HV → Prop} : G fz d 383 17 ls st h Q = X fz d 383 Q (blk 383 17) ls st h := G_eq
theorem q383_18 {fz : Int → Int → Option Int} {d : Nat} {ls st : List AV} {h : HV} {Q : Int → HV → Prop} : G fz d 383 18 ls st h Q = X fz d 383 Q (blk 383 18) ls st h := G_eq
theorem q383_19 {fz : Int → Int → Option Int} {d : Nat} {ls st : List AV} {h : HV} {Q : Int → HV → Prop} : G fz d 383 19 ls st h Q = X fz d 383 Q (blk 383 19) ls st h := G_eq
theorem q383_20 {fz : Int → Int → Option Int} {d : Nat} {ls st : List AV} {h : HV} {Q : Int → HV → Prop} : G fz d 383 20 ls st h Q = X fz d 383 Q (blk 383 20) ls st h := G_eq
theorem q383_21 {fz : Int → Int → Option Int} {d : Nat} {ls st : List AV} {h : HV} {Q : Int → HV → Prop} : G fz d 383 21 ls st h Q = X fz d 383 Q (blk 383 21) ls st h := G_eq
theorem q384_1 {fz : Int → Int → Option Int} {d : Nat} {ls st : List AV} {h : HV} {Q : Int → HV → Prop} : G fz d 384 1 ls st h Q = X fz d 384 Q (blk 384 1) ls st h := G_eq
theorem q384_2 {fz : Int → Int → Option Int} {d : Nat} {ls st : List AV} {h : HV} {Q : Int → HV → Prop} : G fz d 384 2 ls st h Q = X fz d 384 Q (blk 384 2) ls st h := G_eq
theorem q384_3 {fz : Int → Int → Option Int} {d : Nat} {ls st : List AV} {h : HV} {Q : Int → HV → Prop} : G fz d 384 3 ls st h Q = X fz d 384 Q (blk 384 3) ls st h := G_eq
theorem q386_1 {fz : Int → Int → Option Int} {d : Nat} {ls st : List AV} {h : HV} {Q : Int → HV → Prop} : G fz d 386 1 ls st h Q = X fz d 386 Q (blk 386 1) ls st h := G_eq
theorem q386_2 {fz : Int → Int → Option Int} {d : Nat} {ls st : List AV} {h : HV} {Q : Int → HV → Prop} : G fz d 386 2 ls st h Q = X fz d 386 Q (blk 386 2) ls st h := G_eq
theorem q388_1 {fz : Int → Int → Option Int} {d : Nat} {ls st : List AV} {h : HV} {Q : Int → HV → Prop} : G fz d 388 1 ls st h Q = X fz d 388 Q (blk 388 1) ls st h := G_eq
theorem q388_2 {fz : Int → Int → Option Int} {d : Nat} {ls st : List AV} {h : HV} {Q : Int → HV → Prop} : G fz d 388 2 ls st h Q = X fz d 388 Q (blk 388 2) ls st h := G_eq
theorem q388_3 {fz : Int → Int → Option Int} {d : Nat} {ls st : List AV} {h : HV} {Q : Int → HV → Prop} : G fz d 388 3 ls st h Q = X fz d 388 Q (blk 388 3) ls st h := G_eq
theorem q388_4 {fz : Int → Int → Option Int} {d : Nat} {ls st : List AV} {h : HV} {Q : Int → HV → Prop} : G fz d 388 4 ls st h Q = X fz d 388 Q (blk 388 4) ls st h := G_eq
theorem q388_5 {fz : Int → Int → Option Int} {d : Nat} {ls st : List AV} {h : HV} {Q : Int → HV → Prop} : G fz d 388 5 ls st h Q = X fz d 388 Q (blk 388 5) ls st h := G_eq
theorem q388_6 {fz : Int → Int → Option Int} {d : Nat} {ls st : List AV} {h : HV} {Q : Int → HV → Prop} : G fz d 388 6 ls st h Q = X fz d 388 Q (blk 388 6) ls st h := G_eq
theorem q388_7 {fz : Int → Int → Option Int} {d : Nat} {ls st : List AV} {h : HV} {Q : Int → HV → Prop} : G fz d 388 7 ls st h Q = X fz d 388 Q (blk 388 7) ls st h := G_eq
theorem q388_8 {fz : Int → Int → Option Int} {d : Nat} {ls st : List AV} {h : HV} {Q : Int → HV → Prop} : G fz d 388 8 ls st h Q = X fz d 388 Q (blk 388 8) ls st h := G_eq
theorem q388_9 {fz : Int → Int → Option Int} {d : Nat} {ls st : List AV} {h : HV} {Q : Int → HV → Prop} : G fz d 388 9 ls st h Q = X fz d 388 Q (blk 388 9) ls st h := G_eq
theorem q388_10 {fz : Int → Int → Option Int} {d : Nat} {ls st : List AV} {h : HV} {Q : Int → HV → Prop} : G fz d 388 10 ls st h Q = X fz d 388 Q (blk 388 10) ls st h := G_eq
theorem q388_11 {fz : Int → Int → Option Int} {d : Nat} {ls st : List AV} {h : HV} {Q : Int → HV → Prop} : G fz d 388 11 ls st h Q = X fz d 388 Q (blk 388 11) ls st h := G_eq
theorem q388_12 {fz : Int → Int → Option Int} {d : Nat} {ls st : List AV} {h : HV} {Q : Int → HV → Prop} : G fz d 388 12 ls st h Q = X fz d 388 Q (blk 388 12) ls st h := G_eq
theorem q388_13 {fz : Int → Int → Option Int} {d : Nat} {ls st : List AV} {h : HV} {Q : Int → HV → Prop} : G fz d 388 13 ls st h Q = X fz d 388 Q (blk 388 13) ls st h := G_eq
theorem q388_14 {fz : Int → Int → Option Int} {d : Nat} {ls st : List AV} {h : HV} {Q : Int → HV → Prop} : G fz d 388 14 ls st h Q = X fz d 388 Q (blk 388 14) ls st h := G_eq
theorem q388_15 {fz : Int → Int → Option Int} {d : Nat} {ls st : List AV} {h : HV} {Q : Int → HV → Prop} : G fz d 388 15 ls st h Q = X fz d 388 Q (blk 388 15) ls st h := G_eq
theorem q388_16 {fz : Int → Int → Option Int} {d : Nat} {ls st : List AV} {h : HV} {Q : Int → HV → Prop} : G fz d 388 16 ls st h Q = X fz d 388 Q (blk 388 16) ls st h := G_eq
theorem q390_1 {fz : Int → Int → Option Int} {d : Nat} {ls st : List AV} {h : HV} {Q : Int → HV → Prop} : G fz d 390 1 ls st h Q = X fz d 390 Q (blk 390 1) ls st h := G_eq
theorem q391_1 {fz : Int → Int → Option Int} {d : Nat} {ls st : List AV} {h : HV} {Q : Int → HV → Prop} : G fz d 391 1 ls st h Q = X fz d 391 Q (blk 391 1) ls st h := G_eq
theorem q391_2 {fz : Int → Int → Option Int} {d : Nat} {ls st : List AV} {h : HV} {Q : Int → HV → Prop} : G fz d 391 2 ls st h Q = X fz d 391 Q (blk 391 2) ls st h := G_eq
theorem q391_3 {fz : Int → Int → Option Int} {d : Nat} {ls st : List AV} {h : HV} {Q : Int → HV → Prop} : G fz d 391 3 ls st h Q = X fz d 391 Q (blk 391 3) ls st h := G_eq
theorem q391_4 {fz : Int → Int → Option Int} {d : Nat} {ls st : List AV} {h : HV} {Q : Int → HV → Prop} : G fz d 391 4 ls st h Q = X fz d 391 Q (blk 391 4) ls st h := G_eq
theorem q391_5 {fz : Int → Int → Option Int} {d : Nat} {ls st : List AV} {h : HV} {Q : Int → HV → Prop} : G fz d 391 5 ls st h Q = X fz d 391 Q (blk 391 5) ls st h := G_eq
theorem q391_6 {fz : Int → Int → Option Int} {d : Nat} {ls st : List AV} {h : HV} {Q : Int → HV → Prop} : G fz d 391 6 ls st h Q = X fz d 391 Q (blk 391 6) ls st h := G_eq
theorem q391_7 {fz : Int → Int → Option Int} {d : Nat} {ls st : List AV} {h : HV} {Q : Int → HV → Prop} : G fz d 391 7 ls st h Q = X fz d 391 Q (blk 391 7) ls st h := G_eq
theorem q391_8 {fz : Int → Int → Option Int} {d : Nat} {ls st : List AV} {h : HV} {Q : Int → HV → Prop} : G fz d 391 8 ls st h Q = X fz d 391 Q (blk 391 8) ls st h := G_eq
theorem q391_9 {fz : Int → Int → Option Int} {d : Nat} {ls st : List AV} {h : HV} {Q : Int → HV → Prop} : G fz d 391 9 ls st h Q = X fz d 391 Q (blk 391 9) ls st h := G_eq
theorem q391_10 {fz : Int → Int → Option Int} {d : Nat} {ls st : List AV} {h : HV} {Q : Int → HV → Prop} : G fz d 391 10 ls st h Q = X fz d 391 Q (blk 391 10) ls st h := G_eq
theorem q391_11 {fz : Int → Int → Option Int} {d : Nat} {ls st : List AV} {h : HV} {Q : Int → HV → Prop} : G fz d 391 11 ls st h Q = X fz d 391 Q (blk 391 11) ls st h := G_eq
theorem q391_12 {fz : Int → Int → Option Int} {d : Nat} {ls st : List AV} {h : HV} {Q : Int → HV → Prop} : G fz d 391 12 ls st h Q = X fz d 391 Q (blk 391 12) ls st h := G_eq
theorem q391_13 {fz : Int → Int → Option Int} {d : Nat} {ls st : List AV} {h : HV} {Q : Int → HV → Prop} : G fz d 391 13 ls st h Q = X fz d 391 Q (blk 391 13) ls st h := G_eq
theorem q391_14 {fz : Int → Int → Option Int} {d : Nat} {ls st : List AV} {h : HV} {Q : Int → HV → Prop} : G fz d 391 14 ls st h Q = X fz d 391 Q (blk 391 14) ls st h := G_eq
theorem q392_1 {fz : Int → Int → Option Int} {d : Nat} {ls st : List AV} {h : HV} {Q : Int → HV → Prop} : G fz d 392 1 ls st h Q = X fz d 392 Q (blk 392 1) ls st h := G_eq
theorem q392_2 {fz : Int → Int → Option Int} {d : Nat} {ls st : List AV} {h : HV} {Q : Int → HV → Prop} : G fz d 392 2 ls st h Q = X fz d 392 Q (blk 392 2) ls st h := G_eq
theorem q394_1 {fz : Int → Int → Option Int} {d : Nat} {ls st : List AV} {h : HV} {Q : Int → HV → Prop} : G fz d 394 1 ls st h Q = X fz d 394 Q (blk 394 1) ls st h := G_eq
theorem q394_2 {fz : Int → Int → Option Int} {d : Nat} {ls st : List AV} {h : HV} {Q : Int → HV → Prop} : G fz d 394 2 ls st h Q = X fz d 394 Q (blk 394 2) ls st h := G_eq
theorem q395_1 {fz : Int → Int → Option Int} {d : Nat} {ls st : List AV} {h : HV} {Q : Int → HV → Prop} : G fz d 395 1 ls st h Q = X fz d 395 Q (blk 395 1) ls st h := G_eq
theorem q395_2 {fz : Int → Int → Option Int} {d : Nat} {ls st : List AV} {h : HV} {Q : Int → HV → Prop} : G fz d 395 2 ls st h Q = X fz d 395 Q (blk 395 2) ls st h := G_eq
theorem q395_3 {fz : Int → Int → Option Int} {d : Nat} {ls st : List AV} {h : HV} {Q : Int → HV → Prop} : G fz d 395 3 ls st h Q = X fz d 395 Q (blk 395 3) ls st h := G_eq
theorem q395_4 {fz : Int → Int → Option Int} {d : Nat} {ls st : List AV} {h : HV} {Q : Int → HV → Prop} : G fz d 395 4 ls st h Q = X fz d 395 Q (blk 395 4) ls st h := G_eq
theorem q395_5 {fz : Int → Int → Option Int} {d : Nat} {ls st : List AV} {h : HV} {Q : Int → HV → Prop} : G fz d 395 5 ls st h Q = X fz d 395 Q (blk 395 5) ls st h := G_eq
theorem q395_6 {fz : Int → Int → Option Int} {d : Nat} {ls st : List AV} {h : HV} {Q : Int → HV → Prop} : G fz d 395 6 ls st h Q = X fz d 395 Q (blk 395 6) ls st h := G_eq
theorem q395_7 {fz : Int → Int → Option Int} {d : Nat} {ls st : List AV} {h : HV} {Q : Int → HV → Prop} : G fz d 395 7 ls st h Q = X fz d 395 Q (blk 395 7) ls st h := G_eq
theorem q395_8 {fz : Int → Int → Option Int} {d : Nat} {ls st : List AV} {h : HV} {Q : Int → HV → Prop} : G fz d 395 8 ls st h Q = X fz d 395 Q (blk 395 8) ls st h := G_eq
theorem q395_9 {fz : Int → Int → Option Int} {d : Nat} {ls st : List AV} {h : HV} {Q : Int → HV → Prop} : G fz d 395 9 ls st h Q = X fz d 395 Q (blk 395 9) ls st h := G_eq
theorem q395_10 {fz : Int → Int → Option Int} {d : Nat} {ls st : List AV} {h : HV} {Q : Int → HV → Prop} : G fz d 395 10 ls st h Q = X fz d 395 Q (blk 395 10) ls st h := G_eq
theorem q395_11 {fz : Int → Int → Option Int} {d : Nat} {ls st : List AV} {h : HV} {Q : Int → HV → Prop} : G fz d 395 11 ls st h Q = X fz d 395 Q (blk 395 11) ls st h := G_eq
theorem q395_12 {fz : Int → Int → Option Int} {d : Nat} {ls st : List AV} {h : HV} {Q : Int → HV → Prop} : G fz d 395 12 ls st h Q = X fz d 395 Q (blk 395 12) ls st h := G_eq
theorem q395_13 {fz : Int → Int → Option Int} {d : Nat} {ls st : List AV} {h : HV} {Q : Int → HV → Prop} : G fz d 395 13 ls st h Q = X fz d 395 Q (blk 395 13) ls st h := G_eq
theorem q395_14 {fz : Int → Int → Option Int} {d : Nat} {ls st : List AV} {h : HV} {Q : Int → HV → Prop} : G fz d 395 14 ls st h Q = X fz d 395 Q (blk 395 14) ls st h := G_eq
theorem q397_1 {fz : Int → Int → Option Int} {d : Nat} {ls st : List AV} {h : HV} {Q : Int → HV → Prop} : G fz d 397 1 ls st h Q = X fz d 397 Q (blk 397 1) ls st h := G_eq
theorem q398_1 {fz : Int → Int → Option Int} {d : Nat} {ls st : List AV} {h : HV} {Q : Int → HV → Prop} : G fz d 398 1 ls st h Q = X fz d 398 Q (blk 398 1) ls st h := G_eq
theorem q398_2 {fz : Int → Int → Option Int} {d : Nat} {ls st : List AV} {h : HV} {Q : Int → HV → Prop} : G fz d 398 2 ls st h Q = X fz d 398 Q (blk 398 2) ls st h := G_eq
theorem q399_1 {fz : Int → Int → Option Int} {d : Nat} {ls st : List AV} {h : HV} {Q : Int → HV → Prop} : G fz d 399 1 ls st h Q = X fz d 399 Q (blk 399 1) ls st h := G_eq
theorem q399_2 {fz : Int → Int → Option Int} {d : Nat} {ls st : List AV} {h : HV} {Q : Int → HV → Prop} : G fz d 399 2 ls st h Q = X fz d 399 Q (blk 399 2) ls st h := G_eq
theorem q399_3 {fz : Int → Int → Option Int} {d : Nat} {ls st : List AV} {h : HV} {Q : Int → HV → Prop} : G fz d 399 3 ls st h Q = X fz d 399 Q (blk 399 3) ls st h := G_eq
theorem q399_4 {fz : Int → Int → Option Int} {d : Nat} {ls st : List AV} {h : HV} {Q : Int → HV → Prop} : G fz d 399 4 ls st h Q = X fz d 399 Q (blk 399 4) ls st h := G_eq
theorem q399_5 {fz : Int → Int → Option Int} {d : Nat} {ls st : List AV} {h : HV} {Q : Int → HV → Prop} : G fz d 399 5 ls st h Q = X fz d 399 Q (blk 399 5) ls st h := G_eq
theorem q399_6 {fz : Int → Int → Option Int} {d : Nat} {ls st : List AV} {h : HV} {Q : Int → HV → Prop} : G fz d 399 6 ls st h Q = X fz d 399 Q (blk 399 6) ls st h := G_eq
theorem q399_7 {fz : Int → Int → Option Int} {d : Nat} {ls st : List AV} {h : HV} {Q : Int → HV → Prop} : G fz d 399 7 ls st h Q = X fz d 399 Q (blk 399 7) ls st h := G_eq
theorem q399_8 {fz : Int → Int → Option Int} {d : Nat} {ls st : List AV} {h : HV} {Q : Int → HV → Prop} : G fz d 399 8 ls st h Q = X fz d 399 Q (blk 399 8) ls st h := G_eq
theorem q399_9 {fz : Int → Int → Option Int} {d : Nat} {ls st : List AV} {h : HV} {Q : Int → HV → Prop} : G fz d 399 9 ls st h Q = X fz d 399 Q (blk 399 9) ls st h := G_eq
theorem q399_10 {fz : Int → Int → Option Int} {d : Nat} {ls st : List AV} {h : HV} {Q : Int → HV → Prop} : G fz d 399 10 ls st h Q = X fz d 399 Q (blk 399 10) ls st h := G_eq
theorem q399_11 {fz : Int → Int → Option Int} {d : Nat} {ls st : List AV} {h : HV} {Q : Int → HV → Prop} : G fz d 399 11 ls st h Q = X fz d 399 Q (blk 399 11) ls st h := G_eq
theorem q399_12 {fz : Int → Int → Option Int} {d : Nat} {ls st : List AV} {h : HV} {Q : Int → HV → Prop} : G fz d 399 12 ls st h Q = X fz d 399 Q (blk 399 12) ls st h := G_eq
theorem q399_13 {fz : Int → Int → Option Int} {d : Nat} {ls st : List AV} {h : HV} {Q : Int → HV → Prop} : G fz d 399 13 ls st h Q = X fz d 399 Q (blk 399 13) ls st h := G_eq
theorem q399_14 {fz : Int → Int → Option Int} {d : Nat} {ls st : List AV} {h : HV} {Q : Int → HV → Prop} : G fz d 399 14 ls st h Q = X fz d 399 Q (blk 399 14) ls st h := G_eq
theorem q399_15 {fz : Int → Int → Option Int} {d : Nat} {ls st : List AV} {h : HV} {Q : Int → HV → Prop} : G fz d 399 15 ls st h Q = X fz d 399 Q (blk 399 15) ls st h := G_eq
theorem q400_1 {fz : Int → Int → Option Int} {d : Nat} {ls st : List AV} {h : HV} {Q : Int → HV → Prop} : G fz d 400 1 ls st h Q = X fz d 400 Q (blk 400 1) ls st h := G_eq
theorem q400_2 {fz : Int → Int → Option Int} {d : Nat} {ls st : List AV} {h : HV} {Q : Int → HV → Prop} : G fz d 400 2 ls st h Q = X fz d 400 Q (blk 400 2) ls st h := G_eq
theorem q400_3 {fz : Int → Int → Option Int} {d : Nat} {ls st : List AV} {h : HV} {Q : Int → HV → Prop} : G fz d 400 3 ls st h Q = X fz d 400 Q (blk 400 3) ls st h := G_eq
theorem q401_1 {fz : Int → Int → Option Int} {d : Nat} {ls st : List AV} {h : HV} {Q : Int → HV → Prop} : G fz d 401 1 ls st h Q = X fz d 401 Q (blk 401 1) ls st h := G_eq
theorem q401_2 {fz : Int → Int → Option Int} {d : Nat} {ls st : List AV} {h : HV} {Q : Int → HV → Prop} : G fz d 401 2 ls st h Q = X fz d 401 Q (blk 401 2) ls st h := G_eq
theorem q402_1 {fz : Int → Int → Option Int} {d : Nat} {ls st : List AV} {h : HV} {Q : Int → HV → Prop} : G fz d 402 1 ls st h Q = X fz d 402 Q (blk 402 1) ls st h := G_eq
theorem q402_2 {fz : Int → Int → Option Int} {d : Nat} {ls st : List AV} {h : HV} {Q : Int → HV → Prop} : G fz d 402 2 ls st h Q = X fz d 402 Q (blk 402 2) ls st h := G_eq
theorem q402_3 {fz : Int → Int → Option Int} {d : Nat} {ls st : List AV} {h : HV} {Q : Int → HV → Prop} : G fz d 402 3 ls st h Q = X fz d 402 Q (blk 402 3) ls st h := G_eq
theorem q402_4 {fz : Int → Int → Option Int} {d : Nat} {ls st : List AV} {h : HV} {Q : Int → HV → Prop} : G fz d 402 4 ls st h Q = X fz d 402 Q (blk 402 4) ls st h := G_eq
theorem q402_5 {fz : Int → Int → Option Int} {d : Nat} {ls st : List AV} {h : HV} {Q : Int → HV → Prop} : G fz d 402 5 ls st h Q = X fz d 402 Q (blk 402 5) ls st h := G_eq
theorem q402_6 {fz : Int → Int → Option Int} {d : Nat} {ls st : List AV} {h : HV} {Q : Int → HV → Prop} : G fz d 402 6 ls st h Q = X fz d 402 Q (blk 402 6) ls st h := G_eq
theorem q403_1 {fz : Int → Int → Option Int} {d : Nat} {ls st : List AV} {h : HV} {Q : Int → HV → Prop} : G fz d 403 1 ls st h Q = X fz d 403 Q (blk 403 1) ls st h := G_eq
theorem q403_2 {fz : Int → Int → Option Int} {d : Nat} {ls st : List AV} {h : HV} {Q : Int → HV → Prop} : G fz d 403 2 ls st h Q = X fz d 403 Q (blk 403 2) ls st h := G_eq
theorem q403_3 {fz : Int → Int → Option Int} {d : Nat} {ls st : List AV} {h : HV} {Q : Int → HV → Prop} : G fz d 403 3 ls st h Q = X fz d 403 Q (blk 403 3) ls st h := G_eq
theorem q403_4 {fz : Int → Int → Option Int} {d : Nat} {ls st : List AV} {h : HV} {Q : Int → HV → Prop} : G fz d 403 4 ls st h Q = X fz d 403 Q (blk 403 4) ls st h := G_eq
theorem q403_5 {fz : Int → Int → Option Int} {d : Nat} {ls st : List AV} {h : HV} {Q : Int → HV → Prop} : G fz d 403 5 ls st h Q = X fz d 403 Q (blk 403 5) ls st h := G_eq
theorem q403_6 {fz : Int → Int → Option Int} {d : Nat} {ls st : List AV} {h : HV} {Q : Int → HV → Prop} : G fz d 403 6 ls st h Q = X fz d 403 Q (blk 403 6) ls st h := G_eq
theorem q403_7 {fz : Int → Int → Option Int} {d : Nat} {ls st : List AV} {h : HV} {Q : Int → HV → Prop} : G fz d 403 7 ls st h Q = X fz d 403 Q (blk 403 7) ls st h := G_eq
theorem q403_8 {fz : Int → Int → Option Int} {d : Nat} {ls st : List AV} {h : HV} {Q : Int → HV → Prop} : G fz d 403 8 ls st h Q = X fz d 403 Q (blk 403 8) ls st h := G_eq
theorem q403_9 {fz : Int → Int → Option Int} {d : Nat} {ls st : List AV} {h : HV} {Q : Int → HV → Prop} : G fz d 403 9 ls st h Q = X fz d 403 Q (blk 403 9) ls st h := G_eq
theorem q403_10 {fz : Int → Int → Option Int} {d : Nat} {ls st : List AV} {h : HV} {Q : Int → HV → Prop} : G fz d 403 10 ls st h Q = X fz d 403 Q (blk 403 10) ls st h := G_eq
theorem q403_11 {fz : Int → Int → Option Int} {d : Nat} {ls st : List AV} {h : HV} {Q : Int → HV → Prop} : G fz d 403 11 ls st h Q = X fz d 403 Q (blk 403 11) ls st h := G_eq
theorem q403_12 {fz : Int → Int → Option Int} {d : Nat} {ls st : List AV} {h : HV} {Q : Int → HV → Prop} : G fz d 403 12 ls st h Q = X fz d 403 Q (blk 403 12) ls st h := G_eq
theorem q403_13 {fz : Int → Int → Option Int} {d : Nat} {ls st : List AV} {h : HV} {Q : Int → HV → Prop} : G fz d 403 13 ls st h Q = X fz d 403 Q (blk 403 13) ls st h := G_eq
theorem q403_14 {fz : Int → Int → Option Int} {d : Nat} {ls st : List AV} {h : HV} {Q : Int → HV → Prop} : G fz d 403 14 ls st h Q = X fz d 403 Q (blk 403 14) ls st h := G_eq
theorem q403_15 {fz : Int → Int → Option Int} {d : Nat} {ls st : List AV} {h : HV} {Q : Int → HV → Prop} : G fz d 403 15 ls st h Q = X fz d 403 Q (blk 403 15) ls st h := G_eq
theorem q403_16 {fz : Int → Int → Option Int} {d : Nat} {ls st : List AV} {h : HV} {Q : Int → HV → Prop} : G fz d 403 16 ls st h Q = X fz d 403 Q (blk 403 16) ls st h := G_eq
theorem q403_17 {fz : Int → Int → Option Int} {d : Nat} {ls st : List AV} {h : HV} {Q : Int → HV → Prop} : G fz d 403 17 ls st h Q = X fz d 403 Q (blk 403 17) ls st h := G_eq
theorem q403_18 {fz : Int → Int → Option Int} {d : Nat} {ls st : List AV} {h : HV} {Q : Int → HV → Prop} : G fz d 403 18 ls st h Q = X fz d 403 Q (blk 403 18) ls st h := G_eq
theorem q403_19 {fz : Int → Int → Option Int} {d : Nat} {ls st : List AV} {h : HV} {Q : Int → HV → Prop} : G fz d 403 19 ls st h Q = X fz d 403 Q (blk 403 19) ls st h := G_eq
theorem q403_20 {fz : Int → Int → Option Int} {d : Nat} {ls st : List AV} {h : HV} {Q : Int → HV → Prop} : G fz d 403 20 ls st h Q = X fz d 403 Q (blk 403 20) ls st h := G_eq
theorem q403_21 {fz : Int → Int → Option Int} {d : Nat} {ls st : List AV} {h : HV} {Q : Int → HV → Prop} : G fz d 403 21 ls st h Q = X fz d 403 Q (blk 403 21) ls st h := G_eq
theorem q403_22 {fz : Int → Int → Option Int} {d : Nat} {ls st : List AV} {h : HV} {Q : Int → HV → Prop} : G fz d 403 22 ls st h Q = X fz d 403 Q (blk 403 22) ls st h := G_eq
theorem q403_23 {fz : Int → Int → Option Int} {d : Nat} {ls st : List AV} {h : HV} {Q : Int → HV → Prop} : G fz d 403 23 ls st h Q = X fz d 403 Q (blk 403 23) ls st h := G_eq
theorem q403_24 {fz : Int → Int → Option Int} {d : Nat} {ls st : List AV} {h : HV} {Q : Int → HV → Prop} : G fz d 403 24 ls st h Q = X fz d 403 Q (blk 403 24) ls st h := G_eq
theorem q403_25 {fz : Int → Int → Option Int} {d : Nat} {ls st : List AV} {h : HV} {Q : Int → HV → Prop} : G fz d 403 25 ls st h Q = X fz d 403 Q (blk 403 25) ls st h := G_eq
theorem q403_26 {fz : Int → Int → Option Int} {d : Nat} {ls st : List AV} {h : HV} {Q : Int → HV → Prop} : G fz d 403 26 ls st h Q = X fz d 403 Q (blk 403 26) ls st h := G_eq
theorem q403_27 {fz : Int → Int → Option Int} {d : Nat} {ls st : List AV} {h : HV} {Q : Int → HV → Prop} : G fz d 403 27 ls st h Q = X fz d 403 Q (blk 403 27) ls st h := G_eq
theorem q403_28 {fz : Int → Int → Option Int} {d : Nat} {ls st : List AV} {h : HV} {Q : Int → HV → Prop} : G fz d 403 28 ls st h Q = X fz d 403 Q (blk 403 28) ls st h := G_eq
theorem q403_29 {fz : Int → Int → Option Int} {d : Nat} {ls st : List AV} {h : HV} {Q : Int → HV → Prop} : G fz d 403 29 ls st h Q = X fz d 403 Q (blk 403 29) ls st h := G_eq
theorem q403_30 {fz : Int → Int → Option Int} {d : Nat} {ls st : List AV} {h : HV} {Q : Int → HV → Prop} : G fz d 403 30 ls st h Q = X fz d 403 Q (blk 403 30) ls st h := G_eq
theorem q403_31 {fz : Int → Int → Option Int} {d : Nat} {ls st : List AV} {h : HV} {Q : Int → HV → Prop} : G fz d 403 31 ls st h Q = X fz d 403 Q (blk 403 31) ls st h := G_eq
theorem q403_32 {fz : Int → Int → Option Int} {d : Nat} {ls st : List AV} {h : HV} {Q : Int → HV → Prop} : G fz d 403 32 ls st h Q = X fz d 403 Q (blk 403 32) ls st h := G_eq
theorem q403_33 {fz : Int → Int → Option Int} {d : Nat} {ls st : List AV} {h : HV} {Q : Int → HV → Prop} : G fz d 403 33 ls st h Q = X fz d 403 Q (blk 403 33) ls st h := G_eq
theorem q403_34 {fz : Int → Int → Option Int} {d : Nat} {ls st : List AV} {h : HV} {Q : Int → HV → Prop} : G fz d 403 34 ls st h Q = X fz d 403 Q (blk 403 34) ls st h := G_eq
theorem q404_1 {fz : Int → Int → Option Int} {d : Nat} {ls st : List AV} {h : HV} {Q : Int → HV → Prop} : G fz d 404 1 ls st h Q = X fz d 404 Q (blk 404 1) ls st h := G_eq
theorem q404_2 {fz : Int → Int → Option Int} {d : Nat} {ls st : List AV} {h : HV} {Q : Int → HV → Prop} : G fz d 404 2 ls st h Q = X fz d 404 Q (blk 404 2) ls st h := G_eq
theorem q404_3 {fz : Int → Int → Option Int} {d : Nat} {ls st : List AV} {h : HV} {Q : Int → HV → Prop} : G fz d 404 3 ls st h Q = X fz d 404 Q (blk 404 3) ls st h := G_eq
theorem q404_4 {fz : Int → Int → Option Int} {d : Nat} {ls st : List AV} {h : HV} {Q : Int → HV → Prop} : G fz d 404 4 ls st h Q = X fz d 404 Q (blk 404 4) ls st h := G_eq
theorem q404_5 {fz : Int → Int → Option Int} {d : Nat} {ls st : List AV} {h : HV} {Q : Int → HV → Prop} : G fz d 404 5 ls st h Q = X fz d 404 Q (blk 404 5) ls st h := G_eq
theorem q404_6 {fz : Int → Int → Option Int} {d : Nat} {ls st : List AV} {h : HV} {Q : Int → HV → Prop} : G fz d 404 6 ls st h Q = X fz d 404 Q (blk 404 6) ls st h := G_eq
theorem q404_7 {fz : Int → Int → Option Int} {d : Nat} {ls st : List AV} {h : HV} {Q : Int → HV → Prop} : G fz d 404 7 ls st h Q = X fz d 404 Q (blk 404 7) ls st h := G_eq
theorem q404_8 {fz : Int → Int → Option Int} {d : Nat} {ls st : List AV} {h : HV} {Q : Int → HV → Prop} : G fz d 404 8 ls st h Q = X fz d 404 Q (blk 404 8) ls st h := G_eq
theorem q404_9 {fz : Int → Int → Option Int} {d : Nat} {ls st : List AV} {h : HV} {Q : Int → HV → Prop} : G fz d 404 9 ls st h Q = X fz d 404 Q (blk 404 9) ls st h := G_eq
theorem q404_10 {fz : Int → Int → Option Int} {d : Nat} {ls st : List AV} {h : HV} {Q : Int → HV → Prop} : G fz d 404 10 ls st h Q = X fz d 404 Q (blk 404 10) ls st h := G_eq
theorem q404_11 {fz : Int → Int → Option Int} {d : Nat} {ls st : List AV} {h : HV} {Q : Int → HV → Prop} : G fz d 404 11 ls st h Q = X fz d 404 Q (blk 404 11) ls st h := G_eq
theorem q404_12 {fz : Int → Int → Option Int} {d : Nat} {ls st : List AV} {h : HV} {Q : Int → HV → Prop} : G fz d 404 12 ls st h Q = X fz d 404 Q (blk 404 12) ls st h := G_eq
theorem q404_13 {fz : Int → Int → Option Int} {d : Nat} {ls st : List AV} {h : HV} {Q : Int → HV → Prop} : G fz d 404 13 ls st h Q = X fz d 404 Q (blk 404 13) ls st h := G_eq
theorem q404_14 {fz : Int → Int → Option Int} {d : Nat} {ls st : List AV} {h : HV} {Q : Int → HV → Prop} : G fz d 404 14 ls st h Q = X fz d 404 Q (blk 404 14) ls st h := G_eq
theorem q404_15 {fz : Int → Int → Option Int} {d : Nat} {ls st : List AV} {h : HV} {Q : Int → HV → Prop} : G fz d 404 15 ls st h Q = X fz d 404 Q (blk 404 15) ls st h := G_eq
theorem q404_16 {fz : Int → Int → Option Int} {d : Nat} {ls st : List AV} {h : HV} {Q : Int → HV → Prop} : G fz d 404 16 ls st h Q = X fz d 404 Q (blk 404 16) ls st h := G_eq
theorem q404_17 {fz : Int → Int → Option Int} {d : Nat} {ls st : List AV} {h : HV} {Q : Int → HV → Prop} : G fz d 404 17 ls st h Q = X fz d 404 Q (blk 404 17) ls st h := G_eq
theorem q404_18 {fz : Int → Int → Option Int} {d : Nat} {ls st : List AV} {h : HV} {Q : Int → HV → Prop} : G fz d 404 18 ls st h Q = X fz d 404 Q (blk 404 18) ls st h := G_eq
theorem q404_19 {fz : Int → Int → Option Int} {d : Nat} {ls st : List AV} {h : HV} {Q : Int → HV → Prop} : G fz d 404 19 ls st h Q = X fz d 404 Q (blk 404 19) ls st h := G_eq
theorem q404_20 {fz : Int → Int → Option Int} {d : Nat} {ls st : List AV} {h : HV} {Q : Int → HV → Prop} : G fz d 404 20 ls st h Q = X fz d 404 Q (blk 404 20) ls st h := G_eq
theorem q404_21 {fz : Int → Int → Option Int} {d : Nat} {ls st : List AV} {h : HV} {Q : Int → HV → Prop} : G fz d 404 21 ls st h Q = X fz d 404 Q (blk 404 21) ls st h := G_eq
theorem q404_22 {fz : Int → Int → Option Int} {d : Nat} {ls st : List AV} {h : HV} {Q : Int → HV → Prop} : G fz d 404 22 ls st h Q = X fz d 404 Q (blk 404 22) ls st h := G_eq
theorem q404_23 {fz : Int → Int → Option Int} {d : Nat} {ls st : List AV} {h : HV} {Q : Int → HV → Prop} : G fz d 404 23 ls st h Q = X fz d 404 Q (blk 404 23) ls st h := G_eq
theorem q405_1 {fz : Int → Int → Option Int} {d : Nat} {ls st : List AV} {h : HV} {Q : Int → HV → Prop} : G fz d 405 1 ls st h Q = X fz d 405 Q (blk 405 1) ls st h := G_eq
theorem q405_2 {fz : Int → Int → Option Int} {d : Nat} {ls st : List AV} {h : HV} {Q : Int → HV → Prop} : G fz d 405 2 ls st h Q = X fz d 405 Q (blk 405 2) ls st h := G_eq
theorem q405_3 {fz : Int → Int → Option Int} {d : Nat} {ls st : List AV} {h : HV} {Q : Int → HV → Prop} : G fz d 405 3 ls st h Q = X fz d 405 Q (blk 405 3) ls st h := G_eq
theorem q406_1 {fz : Int → Int → Option Int} {d : Nat} {ls st : List AV} {h : HV} {Q : Int → HV → Prop} : G fz d 406 1 ls st h Q = X fz d 406 Q (blk 406 1) ls st h := G_eq
theorem q406_2 {fz : Int → Int → Option Int} {d : Nat} {ls st : List AV} {h : HV} {Q : Int → HV → Prop} : G fz d 406 2 ls st h Q = X fz d 406 Q (blk 406 2) ls st h := G_eq
theorem q406_3 {fz : Int → Int → Option Int} {d : Nat} {ls st : List AV} {h : HV} {Q : Int → HV → Prop} : G fz d 406 3 ls st h Q = X fz d 406 Q (blk 406 3) ls st h := G_eq
theorem q406_4 {fz : Int → Int → Option Int} {d : Nat} {ls st : List AV} {h : HV} {Q : Int → HV → Prop} : G fz d 406 4 ls st h Q = X fz d 406 Q (blk 406 4) ls st h := G_eq
theorem q406_5 {fz : Int → Int → Option Int} {d : Nat} {ls st : List AV} {h : HV} {Q : Int → HV → Prop} : G fz d 406 5 ls st h Q = X fz d 406 Q (blk 406 5) ls st h := G_eq
theorem q406_6 {fz : Int → Int → Option Int} {d : Nat} {ls st : List AV} {h : HV} {Q : Int → HV → Prop} : G fz d 406 6 ls st h Q = X fz d 406 Q (blk 406 6) ls st h := G_eq
theorem q406_7 {fz : Int → Int → Option Int} {d : Nat} {ls st : List AV} {h : HV} {Q : Int → HV → Prop} : G fz d 406 7 ls st h Q = X fz d 406 Q (blk 406 7) ls st h := G_eq
theorem q407_1 {fz : Int → Int → Option Int} {d : Nat} {ls st : List AV} {h : HV} {Q : Int → HV → Prop} : G fz d 407 1 ls st h Q = X fz d 407 Q (blk 407 1) ls st h := G_eq
theorem q407_2 {fz : Int → Int → Option Int} {d : Nat} {ls st : List AV} {h : HV} {Q : Int → HV → Prop} : G fz d 407 2 ls st h Q = X fz d 407 Q (blk 407 2) ls st h := G_eq
theorem q407_3 {fz : Int → Int → Option Int} {d : Nat} {ls st : List AV} {h : HV} {Q : Int → HV → Prop} : G fz d 407 3 ls st h Q = X fz d 407 Q (blk 407 3) ls st h := G_eq
theorem q407_4 {fz : Int → Int → Option Int} {d : Nat} {ls st : List AV} {h : HV} {Q : Int → HV → Prop} : G fz d 407 4 ls st h Q = X fz d 407 Q (blk 407 4) ls st h := G_eq
theorem q407_5 {fz : Int → Int → Option Int} {d : Nat} {ls st : List AV} {h : HV} {Q : Int → HV → Prop} : G fz d 407 5 ls st h Q = X fz d 407 Q (blk 407 5) ls st h := G_eq
theorem q407_6 {fz : Int → Int → Option Int} {d : Nat} {ls st : List AV} {h : HV} {Q : Int → HV → Prop} : G fz d 407 6 ls st h Q = X fz d 407 Q (blk 407 6) ls st h := G_eq
theorem q408_1 {fz : Int → Int → Option Int} {d : Nat} {ls st : List AV} {h : HV} {Q : Int → HV → Prop} : G fz d 408 1 ls st h Q = X fz d 408 Q (blk 408 1) ls st h := G_eq
theorem q408_2 {fz : Int → Int → Option Int} {d : Nat} {ls st : List AV} {h : HV} {Q : Int → HV → Prop} : G fz d 408 2 ls st h Q = X fz d 408 Q (blk 408 2) ls st h := G_eq
theorem q408_3 {fz : Int → Int → Option Int} {d : Nat} {ls st : List AV} {h : HV} {Q : Int → HV → Prop} : G fz d 408 3 ls st h Q = X fz d 408 Q (blk 408 3) ls st h := G_eq
theorem q408_4 {fz : Int → Int → Option Int} {d : Nat} {ls st : List AV} {h : HV} {Q : Int → HV → Prop} : G fz d 408 4 ls st h Q = X fz d 408 Q (blk 408 4) ls st h := G_eq
theorem q408_5 {fz : Int → Int → Option Int} {d : Nat} {ls st : List AV} {h : HV} {Q : Int → HV → Prop} : G fz d 408 5 ls st h Q = X fz d 408 Q (blk 408 5) ls st h := G_eq
theorem q408_6 {fz : Int → Int → Option Int} {d : Nat} {ls st : List AV} {h : HV} {Q : Int → HV → Prop} : G fz d 408 6 ls st h Q = X fz d 408 Q (blk 408 6) ls st h := G_eq
theorem q409_1 {fz : Int → Int → Option Int} {d : Nat} {ls st : List AV} {h : HV} {Q : Int → HV → Prop} : G fz d 409 1 ls st h Q = X fz d 409 Q (blk 409 1) ls st h := G_eq
theorem q409_2 {fz : Int → Int → Option Int} {d : Nat} {ls st : List AV} {h : HV} {Q : Int → HV → Prop} : G fz d 409 2 ls st h Q = X fz d 409 Q (blk 409 2) ls st h := G_eq
theorem q409_3 {fz : Int → Int → Option Int} {d : Nat} {ls st : List AV} {h : HV} {Q : Int → HV → Prop} : G fz d 409 3 ls st h Q = X fz d 409 Q (blk 409 3) ls st h := G_eq
theorem q409_4 {fz : Int → Int → Option Int} {d : Nat} {ls st : List AV} {h : HV} {Q : Int → HV → Prop} : G fz d 409 4 ls st h Q = X fz d 409 Q (blk 409 4) ls st h := G_eq
theorem q409_5 {fz : Int → Int → Option Int} {d : Nat} {ls st : List AV} {h : HV} {Q : Int → HV → Prop} : G fz d 409 5 ls st h Q = X fz d 409 Q (blk 409 5) ls st h := G_eq
theorem q410_1 {fz : Int → Int → Option Int} {d : Nat} {ls st : List AV} {h : HV} {Q : Int → HV → Prop} : G fz d 410 1 ls st h Q = X fz d 410 Q (blk 410 1) ls st h := G_eq
theorem q410_2 {fz : Int → Int → Option Int} {d : Nat} {ls st : List AV} {h : HV} {Q : Int → HV → Prop} : G fz d 410 2 ls st h Q = X fz d 410 Q (blk 410 2) ls st h := G_eq
theorem q410_3 {fz : Int → Int → Option Int} {d : Nat} {ls st : List AV} {h : HV} {Q : Int → HV → Prop} : G fz d 410 3 ls st h Q = X fz d 410 Q (blk 410 3) ls st h := G_eq
theorem q410_4 {fz : Int → Int → Option Int} {d : Nat} {ls st : List AV} {h : HV} {Q : Int → HV → Prop} : G fz d 410 4 ls st h Q = X fz d 410 Q (blk 410 4) ls st h := G_eq
theorem q410_5 {fz : Int → Int → Option Int} {d : Nat} {ls st : List AV} {h : HV} {Q : Int → HV → Prop} : G fz d 410 5 ls st h Q = X fz d 410 Q (blk 410 5) ls st h := G_eq
theorem q410_6 {fz : Int → Int → Option Int} {d : Nat} {ls st : List AV} {h : HV} {Q : Int → HV → Prop} : G fz d 410 6 ls st h Q = X fz d 410 Q (blk 410 6) ls st h := G_eq
theorem q410_7 {fz : Int → Int → Option Int} {d : Nat} {ls st : List AV} {h : HV} {Q : Int → HV → Prop} : G fz d 410 7 ls st h Q = X fz d 410 Q (blk 410 7) ls st h := G_eq
theorem q410_8 {fz : Int → Int → Option Int} {d : Nat} {ls st : List AV} {h : HV} {Q : Int → HV → Prop} : G fz d 410 8 ls st h Q = X fz d 410 Q (blk 410 8) ls st h := G_eq
theorem q410_9 {fz : Int → Int → Option Int} {d : Nat} {ls st : List AV} {h : HV} {Q : Int → HV → Prop} : G fz d 410 9 ls st h Q = X fz d 410 Q (blk 410 9) ls st h := G_eq
theorem q410_10 {fz : Int → Int → Option Int} {d : Nat} {ls st : List AV} {h : HV} {Q : Int → HV → Prop} : G fz d 410 10 ls st h Q = X fz d 410 Q (blk 410 10) ls st h := G_eq
theorem q410_11 {fz : Int → Int → Option Int} {d : Nat} {ls st : List AV} {h : HV} {Q : Int → HV → Prop} : G fz d 410 11 ls st h Q = X fz d 410 Q (blk 410 11) ls st h := G_eq
theorem q410_12 {fz : Int → Int → Option Int} {d : Nat} {ls st : List AV} {h : HV} {Q : Int → HV → Prop} : G fz d 410 12 ls st h Q = X fz d 410 Q (blk 410 12) ls st h := G_eq
theorem q410_13 {fz : Int → Int → Option Int} {d : Nat} {ls st : List AV} {h : HV} {Q : Int → HV → Prop} : G fz d 410 13 ls st h Q = X fz d 410 Q (blk 410 13) ls st h := G_eq
theorem q410_14 {fz : Int → Int → Option Int} {d : Nat} {ls st : List AV} {h : HV} {Q : Int → HV → Prop} : G fz d 410 14 ls st h Q = X fz d 410 Q (blk 410 14) ls st h := G_eq
theorem q410_15 {fz : Int → Int → Option Int} {d : Nat} {ls st : List AV} {h : HV} {Q : Int → HV → Prop} : G fz d 410 15 ls st h Q = X fz d 410 Q (blk 410 15) ls st h := G_eq
theorem q410_16 {fz : Int → Int → Option Int} {d : Nat} {ls st : List AV} {h : HV} {Q : Int → HV → Prop} : G fz d 410 16 ls st h Q = X fz d 410 Q (blk 410 16) ls st h := G_eq
theorem q410_17 {fz : Int → Int → Option Int} {d : Nat} {ls st : List AV} {h : HV} {Q : Int → HV → Prop} : G fz d 410 17 ls st h Q = X fz d 410 Q (blk 410 17) ls st h := G_eq
theorem q410_18 {fz : Int → Int → Option Int} {d : Nat} {ls st : List AV} {h : HV} {Q : Int → HV → Prop} : G fz d 410 18 ls st h Q = X fz d 410 Q (blk 410 18) ls st h := G_eq
theorem q410_19 {fz : Int → Int → Option Int} {d : Nat} {ls st : List AV} {h : HV} {Q : Int → HV → Prop} : G fz d 410 19 ls st h Q = X fz d 410 Q (blk 410 19) ls st h := G_eq
theorem q410_20 {fz : Int → Int → Option Int} {d : Nat} {ls st : List AV} {h : HV} {Q : Int → HV → Prop} : G fz d 410 20 ls st h Q = X fz d 410 Q (blk 410 20) ls st h := G_eq
theorem q410_21 {fz : Int → Int → Option Int} {d : Nat} {ls st : List AV} {h : HV} {Q : Int → HV → Prop} : G fz d 410 21 ls st h Q = X fz d 410 Q (blk 410 21) ls st h := G_eq
theorem q410_22 {fz : Int → Int → Option Int} {d : Nat} {ls st : List AV} {h : HV} {Q : Int → HV → Prop} : G fz d 410 22 ls st h Q = X fz d 410 Q (blk 410 22) ls st h := G_eq
theorem q410_23 {fz : Int → Int → Option Int} {d : Nat} {ls st : List AV} {h : HV} {Q : Int → HV → Prop} : G fz d 410 23 ls st h Q = X fz d 410 Q (blk 410 23) ls st h := G_eq
theorem q410_24 {fz : Int → Int → Option Int} {d : Nat} {ls st : List AV} {h : HV} {Q : Int → HV → Prop} : G fz d 410 24 ls st h Q = X fz d 410 Q (blk 410 24) ls st h := G_eq
theorem q410_25 {fz : Int → Int → Option Int} {d : Nat} {ls st : List AV} {h : HV} {Q : Int → HV → Prop} : G fz d 410 25 ls st h Q = X fz d 410 Q (blk 410 25) ls st h := G_eq
theorem q410_26 {fz : Int → Int → Option Int} {d : Nat} {ls st : List AV} {h : HV} {Q : Int → HV → Prop} : G fz d 410 26 ls st h Q = X fz d 410 Q (blk 410 26) ls st h := G_eq
theorem q410_27 {fz : Int → Int → Option Int} {d : Nat} {ls st : List AV} {h : HV} {Q : Int → HV → Prop} : G fz d 410 27 ls st h Q = X fz d 410 Q (blk 410 27) ls st h := G_eq
theorem q410_28 {fz : Int → Int → Option Int} {d : Nat} {ls st : List AV} {h : HV} {Q : Int → HV → Prop} : G fz d 410 28 ls st h Q = X fz d 410 Q (blk 410 28) ls st h := G_eq
theorem q410_29 {fz : Int → Int → Option Int} {d : Nat} {ls st : List AV} {h : HV} {Q : Int → HV → Prop} : G fz d 410 29 ls st h Q = X fz d 410 Q (blk 410 29) ls st h := G_eq
theorem q411_1 {fz : Int → Int → Option Int} {d : Nat} {ls st : List AV} {h : HV} {Q : Int → HV → Prop} : G fz d 411 1 ls st h Q = X fz d 411 Q (blk 411 1) ls st h := G_eq
theorem q411_2 {fz : Int → Int → Option Int} {d : Nat} {ls st : List AV} {h : HV} {Q : Int → HV → Prop} : G fz d 411 2 ls st h Q = X fz d 411 Q (blk 411 2) ls st h := G_eq
theorem q411_3 {fz : Int → Int → Option Int} {d : Nat} {ls st : List AV} {h : HV} {Q : Int → HV → Prop} : G fz d 411 3 ls st h Q = X fz d 411 Q (blk 411 3) ls st h := G_eq
theorem q411_4 {fz : Int → Int → Option Int} {d : Nat} {ls st : List AV} {h : HV} {Q : Int → HV → Prop} : G fz d 411 4 ls st h Q = X fz d 411 Q (blk 411 4) ls st h := G_eq
theorem q411_5 {fz : Int → Int → Option Int} {d : Nat} {ls st : List AV} {h : HV} {Q : Int → HV → Prop} : G fz d 411 5 ls st h Q = X fz d 411 Q (blk 411 5) ls st h := G_eq
theorem q411_6 {fz : Int → Int → Option Int} {d : Nat} {ls st : List AV} {h : HV} {Q : Int → HV → Prop} : G fz d 411 6 ls st h Q = X fz d 411 Q (blk 411 6) ls st h := G_eq
theorem q411_7 {fz : Int → Int → Option Int} {d : Nat} {ls st : List AV} {h : HV} {Q : Int → HV → Prop} : G fz d 411 7 ls st h Q = X fz d 411 Q (blk 411 7) ls st h := G_eq
theorem q411_8 {fz : Int → Int → Option Int} {d : Nat} {ls st : List AV} {h : HV} {Q : Int → HV → Prop} : G fz d 411 8 ls st h Q = X fz d 411 Q (blk 411 8) ls st h := G_eq
theorem q411_9 {fz : Int → Int → Option Int} {d : Nat} {ls st : List AV} {h : HV} {Q : Int → HV → Prop} : G fz d 411 9 ls st h Q = X fz d 411 Q (blk 411 9) ls st h := G_eq
theorem q411_10 {fz : Int → Int → Option Int} {d : Nat} {ls st : List AV} {h : HV} {Q : Int → HV → Prop} : G fz d 411 10 ls st h Q = X fz d 411 Q (blk 411 10) ls st h := G_eq
theorem q411_11 {fz : Int → Int → Option Int} {d : Nat} {ls st : List AV} {h : HV} {Q : Int → HV → Prop} : G fz d 411 11 ls st h Q = X fz d 411 Q (blk 411 11) ls st h := G_eq
theorem q411_12 {fz : Int → Int → Option Int} {d : Nat} {ls st : List AV} {h : HV} {Q : Int → HV → Prop} : G fz d 411 12 ls st h Q = X fz d 411 Q (blk 411 12) ls st h := G_eq
theorem q411_13 {fz : Int → Int → Option Int} {d : Nat} {ls st : List AV} {h : HV} {Q : Int → HV → Prop} : G fz d 411 13 ls st h Q = X fz d 411 Q (blk 411 13) ls st h := G_eq
theorem q413_1 {fz : Int → Int → Option Int} {d : Nat} {ls st : List AV} {h : HV} {Q : Int → HV → Prop} : G fz d 413 1 ls st h Q = X fz d 413 Q (blk 413 1) ls st h := G_eq
theorem q413_2 {fz : Int → Int → Option Int} {d : Nat} {ls st : List AV} {h : HV} {Q : Int → HV → Prop} : G fz d 413 2 ls st h Q = X fz d 413 Q (blk 413 2) ls st h := G_eq
theorem q413_3 {fz : Int → Int → Option Int} {d : Nat} {ls st : List AV} {h : HV} {Q : Int → HV → Prop} : G fz d 413 3 ls st h Q = X fz d 413 Q (blk 413 3) ls st h := G_eq
theorem q413_4 {fz : Int → Int → Option Int} {d : Nat} {ls st : List AV} {h : HV} {Q : Int → HV → Prop} : G fz d 413 4 ls st h Q = X fz d 413 Q (blk 413 4) ls st h := G_eq
theorem q413_5 {fz : Int → Int → Option Int} {d : Nat} {ls st : List AV} {h : HV} {Q : Int → HV → Prop} : G fz d 413 5 ls st h Q = X fz d 413 Q (blk 413 5) ls st h := G_eq
theorem q413_6 {fz : Int → Int → Option Int} {d : Nat} {ls st : List AV} {h : HV} {Q : Int → HV → Prop} : G fz d 413 6 ls st h Q = X fz d 413 Q (blk 413 6) ls st h := G_eq
theorem q413_7 {fz : Int → Int → Option Int} {d : Nat} {ls st : List AV} {h : HV} {Q : Int → HV → Prop} : G fz d 413 7 ls st h Q = X fz d 413 Q (blk 413 7) ls st h := G_eq
theorem q413_8 {fz : Int → Int → Option Int} {d : Nat} {ls st : List AV} {h : HV} {Q : Int → HV → Prop} : G fz d 413 8 ls st h Q = X fz d 413 Q (blk 413 8) ls st h := G_eq
theorem q413_9 {fz : Int → Int → Option Int} {d : Nat} {ls st : List AV} {h : HV} {Q : Int → HV → Prop} : G fz d 413 9 ls st h Q = X fz d 413 Q (blk 413 9) ls st h := G_eq
theorem q413_10 {fz : Int → Int → Option Int} {d : Nat} {ls st : List AV} {h : HV} {Q : Int → HV → Prop} : G fz d 413 10 ls st h Q = X fz d 413 Q (blk 413 10) ls st h := G_eq
theorem q413_11 {fz : Int → Int → Option Int} {d : Nat} {ls st : List AV} {h : HV} {Q : Int → HV → Prop} : G fz d 413 11 ls st h Q = X fz d 413 Q (blk 413 11) ls st h := G_eq
theorem q413_12 {fz : Int → Int → Option Int} {d : Nat} {ls st : List AV} {h : HV} {Q : Int → HV → Prop} : G fz d 413 12 ls st h Q = X fz d 413 Q (blk 413 12) ls st h := G_eq
theorem q413_13 {fz : Int → Int → Option Int} {d : Nat} {ls st : List AV} {h : HV} {Q : Int → HV → Prop} : G fz d 413 13 ls st h Q = X fz d 413 Q (blk 413 13) ls st h := G_eq
theorem q414_1 {fz : Int → Int → Option Int} {d : Nat} {ls st : List AV} {h : HV} {Q : Int → HV → Prop} : G fz d 414 1 ls st h Q = X fz d 414 Q (blk 414 1) ls st h := G_eq
theorem q414_2 {fz : Int → Int → Option Int} {d : Nat} {ls st : List AV} {h : HV} {Q : Int → HV → Prop} : G fz d 414 2 ls st h Q = X fz d 414 Q (blk 414 2) ls st h := G_eq
theorem q414_3 {fz : Int → Int → Option Int} {d : Nat} {ls st : List AV} {h : HV} {Q : Int → HV → Prop} : G fz d 414 3 ls st h Q = X fz d 414 Q (blk 414 3) ls st h := G_eq
theorem q414_4 {fz : Int → Int → Option Int} {d : Nat} {ls st : List AV} {h : HV} {Q : Int → HV → Prop} : G fz d 414 4 ls st h Q = X fz d 414 Q (blk 414 4) ls st h := G_eq
theorem q414_5 {fz : Int → Int → Option Int} {d : Nat} {ls st : List AV} {h : HV} {Q : Int → HV → Prop} : G fz d 414 5 ls st h Q = X fz d 414 Q (blk 414 5) ls st h := G_eq
theorem q414_6 {fz : Int → Int → Option Int} {d : Nat} {ls st : List AV} {h : HV} {Q : Int → HV → Prop} : G fz d 414 6 ls st h Q = X fz d 414 Q (blk 414 6) ls st h := G_eq
theorem q414_7 {fz : Int → Int → Option Int} {d : Nat} {ls st : List AV} {h : HV} {Q : Int → HV → Prop} : G fz d 414 7 ls st h Q = X fz d 414 Q (blk 414 7) ls st h := G_eq
theorem q415_1 {fz : Int → Int → Option Int} {d : Nat} {ls st : List AV} {h : HV} {Q : Int → HV → Prop} : G fz d 415 1 ls st h Q = X fz d 415 Q (blk 415 1) ls st h := G_eq
theorem q415_2 {fz : Int → Int → Option Int} {d : Nat} {ls st : List AV} {h : HV} {Q : Int → HV → Prop} : G fz d 415 2 ls st h Q = X fz d 415 Q (blk 415 2) ls st h := G_eq
theorem q416_1 {fz : Int → Int → Option Int} {d : Nat} {ls st : List AV} {h : HV} {Q : Int → HV → Prop} : G fz d 416 1 ls st h Q = X fz d 416 Q (blk 416 1) ls st h := G_eq
theorem q416_2 {fz : Int → Int → Option Int} {d : Nat} {ls st : List AV} {h : HV} {Q : Int → HV → Prop} : G fz d 416 2 ls st h Q = X fz d 416 Q (blk 416 2) ls st h := G_eq
theorem q416_3 {fz : Int → Int → Option Int} {d : Nat} {ls st : List AV} {h : HV} {Q : Int → HV → Prop} : G fz d 416 3 ls st h Q = X fz d 416 Q (blk 416 3) ls st h := G_eq
theorem q416_4 {fz : Int → Int → Option Int} {d : Nat} {ls st : List AV} {h : HV} {Q : Int → HV → Prop} : G fz d 416 4 ls st h Q = X fz d 416 Q (blk 416 4) ls st h := G_eq
theorem q416_5 {fz : Int → Int → Option Int} {d : Nat} {ls st : List AV} {h : HV} {Q : Int → HV → Prop} : G fz d 416 5 ls st h Q = X fz d 416 Q (blk 416 5) ls st h := G_eq
theorem q418_1 {fz : Int → Int → Option Int} {d : Nat} {ls st : List AV} {h : HV} {Q : Int → HV → Prop} : G fz d 418 1 ls st h Q = X fz d 418 Q (blk 418 1) ls st h := G_eq
theorem q419_1 {fz : Int → Int → Option Int} {d : Nat} {ls st : List AV} {h : HV} {Q : Int → HV → Prop} : G fz d 419 1 ls st h Q = X fz d 419 Q (blk 419 1) ls st h := G_eq
theorem q419_2 {fz : Int → Int → Option Int} {d : Nat} {ls st : List AV} {h : HV} {Q : Int → HV → Prop} : G fz d 419 2 ls st h Q = X fz d 419 Q (blk 419 2) ls st h := G_eq
theorem q420_1 {fz : Int → Int → Option Int} {d : Nat} {ls st : List AV} {h : HV} {Q : Int → HV → Prop} : G fz d 420 1 ls st h Q = X fz d 420 Q (blk 420 1) ls st h := G_eq
theorem q420_2 {fz : Int → Int → Option Int} {d : Nat} {ls st : List AV} {h : HV} {Q : Int → HV → Prop} : G fz d 420 2 ls st h Q = X fz d 420 Q (blk 420 2) ls st h := G_eq
theorem q421_1 {fz : Int → Int → Option Int} {d : Nat} {ls st : List AV} {h : HV} {Q : Int → HV → Prop} : G fz d 421 1 ls st h Q = X fz d 421 Q (blk 421 1) ls st h := G_eq
theorem q421_2 {fz : Int → Int → Option Int} {d : Nat} {ls st : List AV} {h : HV} {Q : Int → HV → Prop} : G fz d 421 2 ls st h Q = X fz d 421 Q (blk 421 2) ls st h := G_eq
theorem q421_3 {fz : Int → Int → Option Int} {d : Nat} {ls st : List AV} {h : HV} {Q : Int → HV → Prop} : G fz d 421 3 ls st h Q = X fz d 421 Q (blk 421 3) ls st h := G_eq
theorem q421_4 {fz : Int → Int → Option Int} {d : Nat} {ls st : List AV} {h : HV} {Q : Int → HV → Prop} : G fz d 421 4 ls st h Q = X fz d 421 Q (blk 421 4) ls st h := G_eq
theorem q421_5 {fz : Int → Int → Option Int} {d : Nat} {ls st : List AV} {h : HV} {Q : Int → HV → Prop} : G fz d 421 5 ls st h Q = X fz d 421 Q (blk 421 5) ls st h := G_eq
theorem q421_6 {fz : Int → Int → Option Int} {d : Nat} {ls st : List AV} {h : HV} {Q : Int → HV → Prop} : G fz d 421 6 ls st h Q = X fz d 421 Q (blk 421 6) ls st h := G_eq
theorem q421_7 {fz : Int → Int → Option Int} {d : Nat} {ls st : List AV} {h : HV} {Q : Int → HV → Prop} : G fz d 421 7 ls st h Q = X fz d 421 Q (blk 421 7) ls st h := G_eq
theorem q421_8 {fz : Int → Int → Option Int} {d : Nat} {ls st : List AV} {h : HV} {Q : Int → HV → Prop} : G fz d 421 8 ls st h Q = X fz d 421 Q (blk 421 8) ls st h := G_eq
theorem q421_9 {fz : Int → Int → Option Int} {d : Nat} {ls st : List AV} {h : HV} {Q : Int → HV → Prop} : G fz d 421 9 ls st h Q = X fz d 421 Q (blk 421 9) ls st h := G_eq
theorem q421_10 {fz : Int → Int → Option Int} {d : Nat} {ls st : List AV} {h : HV} {Q : Int → HV → Prop} : G fz d 421 10 ls st h Q = X fz d 421 Q (blk 421 10) ls st h := G_eq
theorem q421_11 {fz : Int → Int → Option Int} {d : Nat} {ls st : List AV} {h : HV} {Q : Int → HV → Prop} : G fz d 421 11 ls st h Q = X fz d 421 Q (blk 421 11) ls st h := G_eq
theorem q421_12 {fz : Int → Int → Option Int} {d : Nat} {ls st : List AV} {h : HV} {Q : Int → HV → Prop} : G fz d 421 12 ls st h Q = X fz d 421 Q (blk 421 12) ls st h := G_eq
theorem q421_13 {fz : Int → Int → Option Int} {d : Nat} {ls st : List AV} {h : HV} {Q : Int → HV → Prop} : G fz d 421 13 ls st h Q = X fz d 421 Q (blk 421 13) ls st h := G_eq
theorem q421_14 {fz : Int → Int → Option Int} {d : Nat} {ls st : List AV} {h : HV} {Q : Int → HV → Prop} : G fz d 421 14 ls st h Q = X fz d 421 Q (blk 421 14) ls st h := G_eq
theorem q421_15 {fz : Int → Int → Option Int} {d : Nat} {ls st : List AV} {h : HV} {Q : Int → HV → Prop} : G fz d 421 15 ls st h Q = X fz d 421 Q (blk 421 15) ls st h := G_eq
theorem q421_16 {fz : Int → Int → Option Int} {d : Nat} {ls st : List AV} {h : HV} {Q : Int → HV → Prop} : G fz d 421 16 ls st h Q = X fz d 421 Q (blk 421 16) ls st h := G_eq
theorem q421_17 {fz : Int → Int → Option Int} {d : Nat} {ls st : List AV} {h : HV} {Q : Int → HV → Prop} : G fz d 421 17 ls st h Q = X fz d 421 Q (blk 421 17) ls st h := G_eq
theorem q421_18 {fz : Int → Int → Option Int} {d : Nat} {ls st : List AV} {h : HV} {Q : Int → HV → Prop} : G fz d 421 18 ls st h Q = X fz d 421 Q (blk 421 18) ls st h := G_eq
theorem q421_19 {fz : Int → Int → Option Int} {d : Nat} {ls st : List AV} {h : HV} {Q : Int → HV → Prop} : G fz d 421 19 ls st h Q = X fz d 421 Q (blk 421 19) ls st h := G_eq
theorem q421_20 {fz : Int → Int → Option Int} {d : Nat} {ls st : List AV} {h : HV} {Q : Int → HV → Prop} : G fz d 421 20 ls st h Q = X fz d 421 Q (blk 421 20) ls st h := G_eq
theorem q421_21 {fz : Int → Int → Option Int} {d : Nat} {ls st : List AV} {h : HV} {Q : Int → HV → Prop} : G fz d 421 21 ls st h Q = X fz d 421 Q (blk 421 21) ls st h := G_eq
theorem q421_22 {fz : Int → Int → Option Int} {d : Nat} {ls st : List AV} {h : HV} {Q : Int → HV → Prop} : G fz d 421 22 ls st h Q = X fz d 421 Q (blk 421 22) ls st h := G_eq
theorem q422_1 {fz : Int → Int → Option Int} {d : Nat} {ls st : List AV} {h : HV} {Q : Int → HV → Prop} : G fz d 422 1 ls st h Q = X fz d 422 Q (blk 422 1) ls st h := G_eq
theorem q422_2 {fz : Int → Int → Option Int} {d : Nat} {ls st : List AV} {h : HV} {Q : Int → HV → Prop} : G fz d 422 2 ls st h Q = X fz d 422 Q (blk 422 2) ls st h := G_eq
theorem q422_3 {fz : Int → Int → Option Int} {d : Nat} {ls st : List AV} {h : HV} {Q : Int → HV → Prop} : G fz d 422 3 ls st h Q = X fz d 422 Q (blk 422 3) ls st h := G_eq
theorem q422_4 {fz : Int → Int → Option Int} {d : Nat} {ls st : List AV} {h : HV} {Q : Int → HV → Prop} : G fz d 422 4 ls st h Q = X fz d 422 Q (blk 422 4) ls st h := G_eq
theorem q423_1 {fz : Int → Int → Option Int} {d : Nat} {ls st : List AV} {h : HV} {Q : Int → HV → Prop} : G fz d 423 1 ls st h Q = X fz d 423 Q (blk 423 1) ls st h := G_eq
theorem q423_2 {fz : Int → Int → Option Int} {d : Nat} {ls st : List AV} {h : HV} {Q : Int → HV → Prop} : G fz d 423 2 ls st h Q = X fz d 423 Q (blk 423 2) ls st h := G_eq
theorem q423_3 {fz : Int → Int → Option Int} {d : Nat} {ls st : List AV} {h : HV} {Q : Int → HV → Prop} : G fz d 423 3 ls st h Q = X fz d 423 Q (blk 423 3) ls st h := G_eq
theorem q423_4 {fz : Int → Int → Option Int} {d : Nat} {ls st : List AV} {h : HV} {Q : Int → HV → Prop} : G fz d 423 4 ls st h Q = X fz d 423 Q (blk 423 4) ls st h := G_eq
theorem q423_5 {fz : Int → Int → Option Int} {d : Nat} {ls st : List AV} {h : HV} {Q : Int → HV → Prop} : G fz d 423 5 ls st h Q = X fz d 423 Q (blk 423 5) ls st h := G_eq
theorem q423_6 {fz : Int → Int → Option Int} {d : Nat} {ls st : List AV} {h : HV} {Q : Int → HV → Prop} : G fz d 423 6 ls st h Q = X fz d 423 Q (blk 423 6) ls st h := G_eq
theorem q423_7 {fz : Int → Int → Option Int} {d : Nat} {ls st : List AV} {h : HV} {Q : Int → HV → Prop} : G fz d 423 7 ls st h Q = X fz d 423 Q (blk 423 7) ls st h := G_eq
theorem q423_8 {fz : Int → Int → Option Int} {d : Nat} {ls st : List AV} {h : HV} {Q : Int → HV → Prop} : G fz d 423 8 ls st h Q = X fz d 423 Q (blk 423 8) ls st h := G_eq
theorem q423_9 {fz : Int → Int → Option Int} {d : Nat} {ls st : List AV} {h : HV} {Q : Int → HV → Prop} : G fz d 423 9 ls st h Q = X fz d 423 Q (blk 423 9) ls st h := G_eq
theorem q423_10 {fz : Int → Int → Option Int} {d : Nat} {ls st : List AV} {h : HV} {Q : Int → HV → Prop} : G fz d 423 10 ls st h Q = X fz d 423 Q (blk 423 10) ls st h := G_eq
theorem q424_1 {fz : Int → Int → Option Int} {d : Nat} {ls st : List AV} {h : HV} {Q : Int → HV → Prop} : G fz d 424 1 ls st h Q = X fz d 424 Q (blk 424 1) ls st h := G_eq
theorem q424_2 {fz : Int → Int → Option Int} {d : Nat} {ls st : List AV} {h : HV} {Q : Int → HV → Prop} : G fz d 424 2 ls st h Q = X fz d 424 Q (blk 424 2) ls st h := G_eq
theorem q424_3 {fz : Int → Int → Option Int} {d : Nat} {ls st : List AV} {h : HV} {Q : Int → HV → Prop} : G fz d 424 3 ls st h Q = X fz d 424 Q (blk 424 3) ls st h := G_eq
theorem q424_4 {fz : Int → Int → Option Int} {d : Nat} {ls st : List AV} {h : HV} {Q : Int → HV → Prop} : G fz d 424 4 ls st h Q = X fz d 424 Q (blk 424 4) ls st h := G_eq
theorem q424_5 {fz : Int → Int → Option Int} {d : Nat} {ls st : List AV} {h : HV} {Q : Int → HV → Prop} : G fz d 424 5 ls st h Q = X fz d 424 Q (blk 424 5) ls st h := G_eq
theorem q424_6 {fz : Int → Int → Option Int} {d : Nat} {ls st : List AV} {h : HV} {Q : Int → HV → Prop} : G fz d 424 6 ls st h Q = X fz d 424 Q (blk 424 6) ls st h := G_eq
theorem q425_1 {fz : Int → Int → Option Int} {d : Nat} {ls st : List AV} {h : HV} {Q : Int → HV → Prop} : G fz d 425 1 ls st h Q = X fz d 425 Q (blk 425 1) ls st h := G_eq
theorem q425_2 {fz : Int → Int → Option Int} {d : Nat} {ls st : List AV} {h : HV} {Q : Int → HV → Prop} : G fz d 425 2 ls st h Q = X fz d 425 Q (blk 425 2) ls st h := G_eq
theorem q425_3 {fz : Int → Int → Option Int} {d : Nat} {ls st : List AV} {h : HV} {Q : Int → HV → Prop} : G fz d 425 3 ls st h Q = X fz d 425 Q (blk 425 3) ls st h := G_eq
theorem q425_4 {fz : Int → Int → Option Int} {d : Nat} {ls st : List AV} {h : HV} {Q : Int → HV → Prop} : G fz d 425 4 ls st h Q = X fz d 425 Q (blk 425 4) ls st h := G_eq
theorem q425_5 {fz : Int → Int → Option Int} {d : Nat} {ls st : List AV} {h : HV} {Q : Int → HV → Prop} : G fz d 425 5 ls st h Q = X fz d 425 Q (blk 425 5) ls st h := G_eq
theorem q425_6 {fz : Int → Int → Option Int} {d : Nat} {ls st : List AV} {h : HV} {Q : Int → HV → Prop} : G fz d 425 6 ls st h Q = X fz d 425 Q (blk 425 6) ls st h := G_eq
theorem q426_1 {fz : Int → Int → Option Int} {d : Nat} {ls st : List AV} {h : HV} {Q : Int → HV → Prop} : G fz d 426 1 ls st h Q = X fz d 426 Q (blk 426 1) ls st h := G_eq
theorem q426_2 {fz : Int → Int → Option Int} {d : Nat} {ls st : List AV} {h : HV} {Q : Int → HV → Prop} : G fz d 426 2 ls st h Q = X fz d 426 Q (blk 426 2) ls st h := G_eq
theorem q426_3 {fz : Int → Int → Option Int} {d : Nat} {ls st : List AV} {h : HV} {Q : Int → HV → Prop} : G fz d 426 3 ls st h Q = X fz d 426 Q (blk 426 3) ls st h := G_eq
theorem q426_4 {fz : Int → Int → Option Int} {d : Nat} {ls st : List AV} {h : HV} {Q : Int → HV → Prop} : G fz d 426 4 ls st h Q = X fz d 426 Q (blk 426 4) ls st h := G_eq
theorem q427_1 {fz : Int → Int → Option Int} {d : Nat} {ls st : List AV} {h : HV} {Q : Int → HV → Prop} : G fz d 427 1 ls st h Q = X fz d 427 Q (blk 427 1) ls st h := G_eq
theorem q427_2 {fz : Int → Int → Option Int} {d : Nat} {ls st : List AV} {h : HV} {Q : Int → HV → Prop} : G fz d 427 2 ls st h Q = X fz d 427 Q (blk 427 2) ls st h := G_eq
theorem q427_3 {fz : Int → Int → Option Int} {d : Nat} {ls st : List AV} {h : HV} {Q : Int → HV → Prop} : G fz d 427 3 ls st h Q = X fz d 427 Q (blk 427 3) ls st h := G_eq
theorem q428_1 {fz : Int → Int → Option Int} {d : Nat} {ls st : List AV} {h : HV} {Q : Int → HV → Prop} : G fz d 428 1 ls st h Q = X fz d 428 Q (blk 428 1) ls st h := G_eq
theorem q428_2 {fz : Int → Int → Option Int} {d : Nat} {ls st : List AV} {h : HV} {Q : Int → HV → Prop} : G fz d 428 2 ls st h Q = X fz d 428 Q (blk 428 2) ls st h := G_eq
theorem q428_3 {fz : Int → Int → Option Int} {d : Nat} {ls st : List AV} {h : HV} {Q : Int → HV → Prop} : G fz d 428 3 ls st h Q = X fz d 428 Q (blk 428 3) ls st h := G_eq
theorem q428_4 {fz : Int → Int → Option Int} {d : Nat} {ls st : List AV} {h : HV} {Q : Int → HV → Prop} : G fz d 428 4 ls st h Q = X fz d 428 Q (blk 428 4) ls st h := G_eq
theorem q428_5 {fz : Int → Int → Option Int} {d : Nat} {ls st : List AV} {h : HV} {Q : Int → HV → Prop} : G fz d 428 5 ls st h Q = X fz d 428 Q (blk 428 5) ls st h := G_eq
theorem q429_1 {fz : Int → Int → Option Int} {d : Nat} {ls st : List AV} {h : HV} {Q : Int → HV → Prop} : G fz d 429 1 ls st h Q = X fz d 429 Q (blk 429 1) ls st h := G_eq
theorem q429_2 {fz : Int → Int → Option Int} {d : Nat} {ls st : List AV} {h : HV} {Q : Int → HV → Prop} : G fz d 429 2 ls st h Q = X fz d 429 Q (blk 429 2) ls st h := G_eq
theorem q430_1 {fz : Int → Int → Option Int} {d : Nat} {ls st : List AV} {h : HV} {Q : Int → HV → Prop} : G fz d 430 1 ls st h Q = X fz d 430 Q (blk 430 1) ls st h := G_eq
theorem q430_2 {fz : Int → Int → Option Int} {d : Nat} {ls st : List AV} {h : HV} {Q : Int → HV → Prop} : G fz d 430 2 ls st h Q = X fz d 430 Q (blk 430 2) ls st h := G_eq
theorem q431_1 {fz : Int → Int → Option Int} {d : Nat} {ls st : List AV} {h : HV} {Q : Int → HV → Prop} : G fz d 431 1 ls st h Q = X fz d 431 Q (blk 431 1) ls st h := G_eq
theorem q431_2 {fz : Int → Int → Option Int} {d : Nat} {ls st : List AV} {h : HV} {Q : Int → HV → Prop} : G fz d 431 2 ls st h Q = X fz d 431 Q (blk 431 2) ls st h := G_eq
theorem q431_3 {fz : Int → Int → Option Int} {d : Nat} {ls st : List AV} {h : HV} {Q : Int → HV → Prop} : G fz d 431 3 ls st h Q = X fz d 431 Q (blk 431 3) ls st h := G_eq
theorem q431_4 {fz : Int → Int → Option Int} {d : Nat} {ls st : List AV} {h : HV} {Q : Int → HV → Prop} : G fz d 431 4 ls st h Q = X fz d 431 Q (blk 431 4) ls st h := G_eq
theorem q431_5 {fz : Int → Int → Option Int} {d : Nat} {ls st : List AV} {h : HV} {Q : Int → HV → Prop} : G fz d 431 5 ls st h Q = X fz d 431 Q (blk 431 5) ls st h := G_eq
theorem q431_6 {fz : Int → Int → Option Int} {d : Nat} {ls st : List AV} {h : HV} {Q : Int → HV → Prop} : G fz d 431 6 ls st h Q = X fz d 431 Q (blk 431 6) ls st h := G_eq
theorem q431_7 {fz : Int → Int → Option Int} {d : Nat} {ls st : List AV} {h : HV} {Q : Int → HV → Prop} : G fz d 431 7 ls st h Q = X fz d 431 Q (blk 431 7) ls st h := G_eq
theorem q431_8 {fz : Int → Int → Option Int} {d : Nat} {ls st : List AV} {h : HV} {Q : Int → HV → Prop} : G fz d 431 8 ls st h Q = X fz d 431 Q (blk 431 8) ls st h := G_eq
theorem q431_9 {fz : Int → Int → Option Int} {d : Nat} {ls st : List AV} {h : HV} {Q : Int → HV → Prop} : G fz d 431 9 ls st h Q = X fz d 431 Q (blk 431 9) ls st h := G_eq
theorem q432_1 {fz : Int → Int → Option Int} {d : Nat} {ls st : List AV} {h : HV} {Q : Int → HV → Prop} : G fz d 432 1 ls st h Q = X fz d 432 Q (blk 432 1) ls st h := G_eq
theorem q432_2 {fz : Int → Int → Option Int} {d : Nat} {ls st : List AV} {h : HV} {Q : Int → HV → Prop} : G fz d 432 2 ls st h Q = X fz d 432 Q (blk 432 2) ls st h := G_eq
theorem q432_3 {fz : Int → Int → Option Int} {d : Nat} {ls st : List AV} {h : HV} {Q : Int → HV → Prop} : G fz d 432 3 ls st h Q = X fz d 432 Q (blk 432 3) ls st h := G_eq
theorem q432_4 {fz : Int → Int → Option Int} {d : Nat} {ls st : List AV} {h : HV} {Q : Int → HV → Prop} : G fz d 432 4 ls st h Q = X fz d 432 Q (blk 432 4) ls st h := G_eq
theorem q432_5 {fz : Int → Int → Option Int} {d : Nat} {ls st : List AV} {h : HV} {Q : Int → HV → Prop} : G fz d 432 5 ls st h Q = X fz d 432 Q (blk 432 5) ls st h := G_eq
theorem q432_6 {fz : Int → Int → Option Int} {d : Nat} {ls st : List AV} {h : HV} {Q : Int → HV → Prop} : G fz d 432 6 ls st h Q = X fz d 432 Q (blk 432 6) ls st h := G_eq
theorem q432_7 {fz : Int → Int → Option Int} {d : Nat} {ls st : List AV} {h : HV} {Q : Int → HV → Prop} : G fz d 432 7 ls st h Q = X fz d 432 Q (blk 432 7) ls st h := G_eq
theorem q432_8 {fz : Int → Int → Option Int} {d : Nat} {ls st : List AV} {h : HV} {Q : Int → HV → Prop} : G fz d 432 8 ls st h Q = X fz d 432 Q (blk 432 8) ls st h := G_eq
theorem q432_9 {fz : Int → Int → Option Int} {d : Nat} {ls st : List AV} {h : HV} {Q : Int → HV → Prop} : G fz d 432 9 ls st h Q = X fz d 432 Q (blk 432 9) ls st h := G_eq
theorem q433_1 {fz : Int → Int → Option Int} {d : Nat} {ls st : List AV} {h : HV} {Q : Int → HV → Prop} : G fz d 433 1 ls st h Q = X fz d 433 Q (blk 433 1) ls st h := G_eq
theorem q433_2 {fz : Int → Int → Option Int} {d : Nat} {ls st : List AV} {h : HV} {Q : Int → HV → Prop} : G fz d 433 2 ls st h Q = X fz d 433 Q (blk 433 2) ls st h := G_eq
theorem q433_3 {fz : Int → Int → Option Int} {d : Nat} {ls st : List AV} {h : HV} {Q : Int → HV → Prop} : G fz d 433 3 ls st h Q = X fz d 433 Q (blk 433 3) ls st h := G_eq
theorem q433_4 {fz : Int → Int → Option Int} {d : Nat} {ls st : List AV} {h : HV} {Q : Int → HV → Prop} : G fz d 433 4 ls st h Q = X fz d 433 Q (blk 433 4) ls st h := G_eq
theorem q434_1 {fz : Int → Int → Option Int} {d : Nat} {ls st : List AV} {h : HV} {Q : Int → HV → Prop} : G fz d 434 1 ls st h Q = X fz d 434 Q (blk 434 1) ls st h := G_eq
theorem q434_2 {fz : Int → Int → Option Int} {d : Nat} {ls st : List AV} {h : HV} {Q : Int → HV → Prop} : G fz d 434 2 ls st h Q = X fz d 434 Q (blk 434 2) ls st h := G_eq
theorem q434_3 {fz : Int → Int → Option Int} {d : Nat} {ls st : List AV} {h : HV} {Q : Int → HV → Prop} : G fz d 434 3 ls st h Q = X fz d 434 Q (blk 434 3) ls st h := G_eq
theorem q435_1 {fz : Int → Int → Option Int} {d : Nat} {ls st : List AV} {h : HV} {Q : Int → HV → Prop} : G fz d 435 1 ls st h Q = X fz d 435 Q (blk 435 1) ls st h := G_eq
theorem q435_2 {fz : Int → Int → Option Int} {d : Nat} {ls st : List AV} {h : HV} {Q : Int → HV → Prop} : G fz d 435 2 ls st h Q = X fz d 435 Q (blk 435 2) ls st h := G_eq
theorem q435_3 {fz : Int → Int → Option Int} {d : Nat} {ls st : List AV} {h : HV} {Q : Int → HV → Prop} : G fz d 435 3 ls st h Q = X fz d 435 Q (blk 435 3) ls st h := G_eq
theorem q435_4 {fz : Int → Int → Option Int} {d : Nat} {ls st : List AV} {h : HV} {Q : Int → HV → Prop} : G fz d 435 4 ls st h Q = X fz d 435 Q (blk 435 4) ls st h := G_eq
theorem q435_5 {fz : Int → Int → Option Int} {d : Nat} {ls st : List AV} {h : HV} {Q : Int → HV → Prop} : G fz d 435 5 ls st h Q = X fz d 435 Q (blk 435 5) ls st h := G_eq
theorem q435_6 {fz : Int → Int → Option Int} {d : Nat} {ls st : List AV} {h : HV} {Q : Int → HV → Prop} : G fz d 435 6 ls st h Q = X fz d 435 Q (blk 435 6) ls st h := G_eq
theorem q435_7 {fz : Int → Int → Option Int} {d : Nat} {ls st : List AV} {h : HV} {Q : Int → HV → Prop} : G fz d 435 7 ls st h Q = X fz d 435 Q (blk 435 7) ls st h := G_eq
theorem q435_8 {fz : Int → Int → Option Int} {d : Nat} {ls st : List AV} {h : HV} {Q : Int → HV → Prop} : G fz d 435 8 ls st h Q = X fz d 435 Q (blk 435 8) ls st h := G_eq
theorem q435_9 {fz : Int → Int → Option Int} {d : Nat} {ls st : List AV} {h : HV} {Q : Int → HV → Prop} : G fz d 435 9 ls st h Q = X fz d 435 Q (blk 435 9) ls st h := G_eq
theorem q435_10 {fz : Int → Int → Option Int} {d : Nat} {ls st : List AV} {h : HV} {Q : Int → HV → Prop} : G fz d 435 10 ls st h Q = X fz d 435 Q (blk 435 10) ls st h := G_eq
theorem q435_11 {fz : Int → Int → Option Int} {d : Nat} {ls st : List AV} {h : HV} {Q : Int → HV → Prop} : G fz d 435 11 ls st h Q = X fz d 435 Q (blk 435 11) ls st h := G_eq
theorem q435_12 {fz : Int → Int → Option Int} {d : Nat} {ls st : List AV} {h : HV} {Q : Int → HV → Prop} : G fz d 435 12 ls st h Q = X fz d 435 Q (blk 435 12) ls st h := G_eq
theorem q435_13 {fz : Int → Int → Option Int} {d : Nat} {ls st : List AV} {h : HV} {Q : Int → HV → Prop} : G fz d 435 13 ls st h Q = X fz d 435 Q (blk 435 13) ls st h := G_eq
theorem q435_14 {fz : Int → Int → Option Int} {d : Nat} {ls st : List AV} {h : HV} {Q : Int → HV → Prop} : G fz d 435 14 ls st h Q = X fz d 435 Q (blk 435 14) ls st h := G_eq
theorem q435_15 {fz : Int → Int → Option Int} {d : Nat} {ls st : List AV} {h : HV} {Q : Int → HV → Prop} : G fz d 435 15 ls st h Q = X fz d 435 Q (blk 435 15) ls st h := G_eq
theorem q435_16 {fz : Int → Int → Option Int} {d : Nat} {ls st : List AV} {h : HV} {Q : Int → HV → Prop} : G fz d 435 16 ls st h Q = X fz d 435 Q (blk 435 16) ls st h := G_eq
theorem q435_17 {fz : Int → Int → Option Int} {d : Nat} {ls st : List AV} {h : HV} {Q : Int → HV → Prop} : G fz d 435 17 ls st h Q = X fz d 435 Q (blk 435 17) ls st h := G_eq
theorem q435_18 {fz : Int → Int → Option Int} {d : Nat} {ls st : List AV} {h : HV} {Q : Int → HV → Prop} : G fz d 435 18 ls st h Q = X fz d 435 Q (blk 435 18) ls st h := G_eq
theorem q435_19 {fz : Int → Int → Option Int} {d : Nat} {ls st : List AV} {h : HV} {Q : Int → HV → Prop} : G fz d 435 19 ls st h Q = X fz d 435 Q (blk 435 19) ls st h := G_eq
theorem q435_20 {fz : Int → Int → Option Int} {d : Nat} {ls st : List AV} {h : HV} {Q : Int → HV → Prop} : G fz d 435 20 ls st h Q = X fz d 435 Q (blk 435 20) ls st h := G_eq
theorem q435_21 {fz : Int → Int → Option Int} {d : Nat} {ls st : List AV} {h : HV} {Q : Int → HV → Prop} : G fz d 435 21 ls st h Q = X fz d 435 Q (blk 435 21) ls st h := G_eq
theorem q435_22 {fz : Int → Int → Option Int} {d : Nat} {ls st : List AV} {h : HV} {Q : Int → HV → Prop} : G fz d 435 22 ls st h Q = X fz d 435 Q (blk 435 22) ls st h := G_eq
theorem q435_23 {fz : Int → Int → Option Int} {d : Nat} {ls st : List AV} {h : HV} {Q : Int → HV → Prop} : G fz d 435 23 ls st h Q = X fz d 435 Q (blk 435 23) ls st h := G_eq
theorem q435_24 {fz : Int → Int → Option Int} {d : Nat} {ls st : List AV} {h : HV} {Q : Int → HV → Prop} : G fz d 435 24 ls st h Q = X fz d 435 Q (blk 435 24) ls st h := G_eq
theorem q435_25 {fz : Int → Int → Option Int} {d : Nat} {ls st : List AV} {h : HV} {Q : Int → HV → Prop} : G fz d 435 25 ls st h Q = X fz d 435 Q (blk 435 25) ls st h := G_eq
theorem q435_26 {fz : Int → Int → Option Int} {d : Nat} {ls st : List AV} {h : HV} {Q : Int → HV → Prop} : G fz d 435 26 ls st h Q = X fz d 435 Q (blk 435 26) ls st h := G_eq
theorem q435_27 {fz : Int → Int → Option Int} {d : Nat} {ls st : List AV} {h : HV} {Q : Int → HV → Prop} : G fz d 435 27 ls st h Q = X fz d 435 Q (blk 435 27) ls st h := G_eq
theorem q435_28 {fz : Int → Int → Option Int} {d : Nat} {ls st : List AV} {h : HV} {Q : Int → HV → Prop} : G fz d 435 28 ls st h Q = X fz d 435 Q (blk 435 28) ls st h := G_eq
theorem q435_29 {fz : Int → Int → Option Int} {d : Nat} {ls st : List AV} {h : HV} {Q : Int → HV → Prop} : G fz d 435 29 ls st h Q = X fz d 435 Q (blk 435 29) ls st h := G_eq
theorem q435_30 {fz : Int → Int → Option Int} {d : Nat} {ls st : List AV} {h : HV} {Q : Int → HV → Prop} : G fz d 435 30 ls st h Q = X fz d 435 Q (blk 435 30) ls st h := G_eq
theorem q435_31 {fz : Int → Int → Option Int} {d : Nat} {ls st : List AV} {h : HV} {Q : Int → HV → Prop} : G fz d 435 31 ls st h Q = X fz d 435 Q (blk 435 31) ls st h := G_eq
theorem q435_32 {fz : Int → Int → Option Int} {d : Nat} {ls st : List AV} {h : HV} {Q : Int → HV → Prop} : G fz d 435 32 ls st h Q = X fz d 435 Q (blk 435 32) ls st h := G_eq
theorem q435_33 {fz : Int → Int → Option Int} {d : Nat} {ls st : List AV} {h : HV} {Q : Int → HV → Prop} : G fz d 435 33 ls st h Q = X fz d 435 Q (blk 435 33) ls st h := G_eq
theorem q435_34 {fz : Int → Int → Option Int} {d : Nat} {ls st : List AV} {h : HV} {Q : Int → HV → Prop} : G fz d 435 34 ls st h Q = X fz d 435 Q (blk 435 34) ls st h := G_eq
theorem q435_35 {fz : Int → Int → Option Int} {d : Nat} {ls st : List AV} {h : HV} {Q : Int → HV → Prop} : G fz d 435 35 ls st h Q = X fz d 435 Q (blk 435 35) ls st h := G_eq
theorem q436_1 {fz : Int → Int → Option Int} {d : Nat} {ls st : List AV} {h : HV} {Q : Int → HV → Prop} : G fz d 436 1 ls st h Q = X fz d 436 Q (blk 436 1) ls st h := G_eq
theorem q436_2 {fz : Int → Int → Option Int} {d : Nat} {ls st : List AV} {h : HV} {Q : Int → HV → Prop} : G fz d 436 2 ls st h Q = X fz d 436 Q (blk 436 2) ls st h := G_eq
theorem q436_3 {fz : Int → Int → Option Int} {d : Nat} {ls st : List AV} {h : HV} {Q : Int → HV → Prop} : G fz d 436 3 ls st h Q = X fz d 436 Q (blk 436 3) ls st h := G_eq
theorem q437_1 {fz : Int → Int → Option Int} {d : Nat} {ls st : List AV} {h : HV} {Q : Int → HV → Prop} : G fz d 437 1 ls st h Q = X fz d 437 Q (blk 437 1) ls st h := G_eq
theorem q437_2 {fz : Int → Int → Option Int} {d : Nat} {ls st : List AV} {h : HV} {Q : Int → HV → Prop} : G fz d 437 2 ls st h Q = X fz d 437 Q (blk 437 2) ls st h := G_eq
theorem q438_1 {fz : Int → Int → Option Int} {d : Nat} {ls st : List AV} {h : HV} {Q : Int → HV → Prop} : G fz d 438 1 ls st h Q = X fz d 438 Q (blk 438 1) ls st h := G_eq
theorem q438_2 {fz : Int → Int → Option Int} {d : Nat} {ls st : List AV} {h : HV} {Q : Int → HV → Prop} : G fz d 438 2 ls st h Q = X fz d 438 Q (blk 438 2) ls st h := G_eq
theorem q438_3 {fz : Int → Int → Option Int} {d : Nat} {ls st : List AV} {h : HV} {Q : Int → HV → Prop} : G fz d 438 3 ls st h Q = X fz d 438 Q (blk 438 3) ls st h := G_eq
theorem q438_4 {fz : Int → Int → Option Int} {d : Nat} {ls st : List AV} {h : HV} {Q : Int → HV → Prop} : G fz d 438 4 ls st h Q = X fz d 438 Q (blk 438 4) ls st h := G_eq
theorem q438_5 {fz : Int → Int → Option Int} {d : Nat} {ls st : List AV} {h : HV} {Q : Int → HV → Prop} : G fz d 438 5 ls st h Q = X fz d 438 Q (blk 438 5) ls st h := G_eq
theorem q438_6 {fz : Int → Int → Option Int} {d : Nat} {ls st : List AV} {h : HV} {Q : Int → HV → Prop} : G fz d 438 6 ls st h Q = X fz d 438 Q (blk 438 6) ls st h := G_eq
theorem q438_7 {fz : Int → Int → Option Int} {d : Nat} {ls st : List AV} {h : HV} {Q : Int → HV → Prop} : G fz d 438 7 ls st h Q = X fz d 438 Q (blk 438 7) ls st h := G_eq
theorem q438_8 {fz : Int → Int → Option Int} {d : Nat} {ls st : List AV} {h : HV} {Q : Int → HV → Prop} : G fz d 438 8 ls st h Q = X fz d 438 Q (blk 438 8) ls st h := G_eq
theorem q438_9 {fz : Int → Int → Option Int} {d : Nat} {ls st : List AV} {h : HV} {Q : Int → HV → Prop} : G fz d 438 9 ls st h Q = X fz d 438 Q (blk 438 9) ls st h := G_eq
theorem q438_10 {fz : Int → Int → Option Int} {d : Nat} {ls st : List AV} {h : HV} {Q : Int → HV → Prop} : G fz d 438 10 ls st h Q = X fz d 438 Q (blk 438 10) ls st h := G_eq
theorem q438_11 {fz : Int → Int → Option Int} {d : Nat} {ls st : List AV} {h : HV} {Q : Int → HV → Prop} : G fz d 438 11 ls st h Q = X fz d 438 Q (blk 438 11) ls st h := G_eq
theorem q438_12 {fz : Int → Int → Option Int} {d : Nat} {ls st : List AV} {h : HV} {Q : Int → HV → Prop} : G fz d 438 12 ls st h Q = X fz d 438 Q (blk 438 12) ls st h := G_eq
theorem q438_13 {fz : Int → Int → Option Int} {d : Nat} {ls st : List AV} {h : HV} {Q : Int → HV → Prop} : G fz d 438 13 ls st h Q = X fz d 438 Q (blk 438 13) ls st h := G_eq
theorem q438_14 {fz : Int → Int → Option Int} {d : Nat} {ls st : List AV} {h : HV} {Q : Int → HV → Prop} : G fz d 438 14 ls st h Q = X fz d 438 Q (blk 438 14) ls st h := G_eq
theorem q438_15 {fz : Int → Int → Option Int} {d : Nat} {ls st : List AV} {h : HV} {Q : Int → HV → Prop} : G fz d 438 15 ls st h Q = X fz d 438 Q (blk 438 15) ls st h := G_eq
theorem q439_1 {fz : Int → Int → Option Int} {d : Nat} {ls st : List AV} {h : HV} {Q : Int → HV → Prop} : G fz d 439 1 ls st h Q = X fz d 439 Q (blk 439 1) ls st h := G_eq
theorem q440_1 {fz : Int → Int → Option Int} {d : Nat} {ls st : List AV} {h : HV} {Q : Int → HV → Prop} : G fz d 440 1 ls st h Q = X fz d 440 Q (blk 440 1) ls st h := G_eq
theorem q440_2 {fz : Int → Int → Option Int} {d : Nat} {ls st : List AV} {h : HV} {Q : Int → HV → Prop} : G fz d 440 2 ls st h Q = X fz d 440 Q (blk 440 2) ls st h := G_eq
theorem q440_3 {fz : Int → Int → Option Int} {d : Nat} {ls st : List AV} {h : HV} {Q : Int → HV → Prop} : G fz d 440 3 ls st h Q = X fz d 440 Q (blk 440 3) ls st h := G_eq
theorem q440_4 {fz : Int → Int → Option Int} {d : Nat} {ls st : List AV} {h : HV} {Q : Int → HV → Prop} : G fz d 440 4 ls st h Q = X fz d 440 Q (blk 440 4) ls st h := G_eq
theorem q440_5 {fz : Int → Int → Option Int} {d : Nat} {ls st : List AV} {h : HV} {Q : Int → HV → Prop} : G fz d 440 5 ls st h Q = X fz d 440 Q (blk 440 5) ls st h := G_eq
theorem q440_6 {fz : Int → Int → Option Int} {d : Nat} {ls st : List AV} {h : HV} {Q : Int → HV → Prop} : G fz d 440 6 ls st h Q = X fz d 440 Q (blk 440 6) ls st h := G_eq
theorem q440_7 {fz : Int → Int → Option Int} {d : Nat} {ls st : List AV} {h : HV} {Q : Int → HV → Prop} : G fz d 440 7 ls st h Q = X fz d 440 Q (blk 440 7) ls st h := G_eq
theorem q440_8 {fz : Int → Int → Option Int} {d : Nat} {ls st : List AV} {h : HV} {Q : Int → HV → Prop} : G fz d 440 8 ls st h Q = X fz d 440 Q (blk 440 8) ls st h := G_eq
theorem q440_9 {fz : Int → Int → Option Int} {d : Nat} {ls st : List AV} {h : HV} {Q : Int → HV → Prop} : G fz d 440 9 ls st h Q = X fz d 440 Q (blk 440 9) ls st h := G_eq
theorem q440_10 {fz : Int → Int → Option Int} {d : Nat} {ls st : List AV} {h : HV} {Q : Int → HV → Prop} : G fz d 440 10 ls st h Q = X fz d 440 Q (blk 440 10) ls st h := G_eq
theorem q440_11 {fz : Int → Int → Option Int} {d : Nat} {ls st : List AV} {h : HV} {Q : Int → HV → Prop} : G fz d 440 11 ls st h Q = X fz d 440 Q (blk 440 11) ls st h := G_eq
theorem q440_12 {fz : Int → Int → Option Int} {d : Nat} {ls st : List AV} {h : HV} {Q : Int → HV → Prop} : G fz d 440 12 ls st h Q = X fz d 440 Q (blk 440 12) ls st h := G_eq
theorem q440_13 {fz : Int → Int → Option Int} {d : Nat} {ls st : List AV} {h : HV} {Q : Int → HV → Prop} : G fz d 440 13 ls st h Q = X fz d 440 Q (blk 440 13) ls st h := G_eq
theorem q440_14 {fz : Int → Int → Option Int} {d : Nat} {ls st : List AV} {h : HV} {Q : Int → HV → Prop} : G fz d 440 14 ls st h Q = X fz d 440 Q (blk 440 14) ls st h := G_eq
theorem q440_15 {fz : Int → Int → Option Int} {d : Nat} {ls st : List AV} {h : HV} {Q : Int → HV → Prop} : G fz d 440 15 ls st h Q = X fz d 440 Q (blk 440 15) ls st h := G_eq
theorem q440_16 {fz : Int → Int → Option Int} {d : Nat} {ls st : List AV} {h : HV} {Q : Int → HV → Prop} : G fz d 440 16 ls st h Q = X fz d 440 Q (blk 440 16) ls st h := G_eq
theorem q440_17 {fz : Int → Int → Option Int} {d : Nat} {ls st : List AV} {h : HV} {Q : Int → HV → Prop} : G fz d 440 17 ls st h Q = X fz d 440 Q (blk 440 17) ls st h := G_eq
theorem q440_18 {fz : Int → Int → Option Int} {d : Nat} {ls st : List AV} {h : HV} {Q : Int → HV → Prop} : G fz d 440 18 ls st h Q = X fz d 440 Q (blk 440 18) ls st h := G_eq
theorem q440_19 {fz : Int → Int → Option Int} {d : Nat} {ls st : List AV} {h : HV} {Q : Int → HV → Prop} : G fz d 440 19 ls st h Q = X fz d 440 Q (blk 440 19) ls st h := G_eq
theorem q440_20 {fz : Int → Int → Option Int} {d : Nat} {ls st : List AV} {h : HV} {Q : Int → HV → Prop} : G fz d 440 20 ls st h Q = X fz d 440 Q (blk 440 20) ls st h := G_eq
theorem q440_21 {fz : Int → Int → Option Int} {d : Nat} {ls st : List AV} {h : HV} {Q : Int → HV → Prop} : G fz d 440 21 ls st h Q = X fz d 440 Q (blk 440 21) ls st h := G_eq
theorem q441_1 {fz : Int → Int → Option Int} {d : Nat} {ls st : List AV} {h : HV} {Q : Int → HV → Prop} : G fz d 441 1 ls st h Q = X fz d 441 Q (blk 441 1) ls st h := G_eq
theorem q441_2 {fz : Int → Int → Option Int} {d : Nat} {ls st : List AV} {h : HV} {Q : Int → HV → Prop} : G fz d 441 2 ls st h Q = X fz d 441 Q (blk 441 2) ls st h := G_eq
theorem q441_3 {fz : Int → Int → Option Int} {d : Nat} {ls st : List AV} {h : HV} {Q : Int → HV → Prop} : G fz d 441 3 ls st h Q = X fz d 441 Q (blk 441 3) ls st h := G_eq
theorem q441_4 {fz : Int → Int → Option Int} {d : Nat} {ls st : List AV} {h : HV} {Q : Int → HV → Prop} : G fz d 441 4 ls st h Q = X fz d 441 Q (blk 441 4) ls st h := G_eq
theorem q441_5 {fz : Int → Int → Option Int} {d : Nat} {ls st : List AV} {h : HV} {Q : Int → HV → Prop} : G fz d 441 5 ls st h Q = X fz d 441 Q (blk 441 5) ls st h := G_eq
theorem q441_6 {fz : Int → Int → Option Int} {d : Nat} {ls st : List AV} {h : HV} {Q : Int → HV → Prop} : G fz d 441 6 ls st h Q = X fz d 441 Q (blk 441 6) ls st h := G_eq
theorem q441_7 {fz : Int → Int → Option Int} {d : Nat} {ls st : List AV} {h : HV} {Q : Int → HV → Prop} : G fz d 441 7 ls st h Q = X fz d 441 Q (blk 441 7) ls st h := G_eq
theorem q441_8 {fz : Int → Int → Option Int} {d : Nat} {ls st : List AV} {h : HV} {Q : Int → HV → Prop} : G fz d 441 8 ls st h Q = X fz d 441 Q (blk 441 8) ls st h := G_eq
theorem q441_9 {fz : Int → Int → Option Int} {d : Nat} {ls st : List AV} {h : HV} {Q : Int → HV → Prop} : G fz d 441 9 ls st h Q = X fz d 441 Q (blk 441 9) ls st h := G_eq
theorem q441_10 {fz : Int → Int → Option Int} {d : Nat} {ls st : List AV} {h : HV} {Q : Int → HV → Prop} : G fz d 441 10 ls st h Q = X fz d 441 Q (blk 441 10) ls st h := G_eq
theorem q441_11 {fz : Int → Int → Option Int} {d : Nat} {ls st : List AV} {h : HV} {Q : Int → HV → Prop} : G fz d 441 11 ls st h Q = X fz d 441 Q (blk 441 11) ls st h := G_eq
theorem q442_1 {fz : Int → Int → Option Int} {d : Nat} {ls st : List AV} {h : HV} {Q : Int → HV → Prop} : G fz d 442 1 ls st h Q = X fz d 442 Q (blk 442 1) ls st h := G_eq
theorem q442_2 {fz : Int → Int → Option Int} {d : Nat} {ls st : List AV} {h : HV} {Q : Int → HV → Prop} : G fz d 442 2 ls st h Q = X fz d 442 Q (blk 442 2) ls st h := G_eq
theorem q443_1 {fz : Int → Int → Option Int} {d : Nat} {ls st : List AV} {h : HV} {Q : Int → HV → Prop} : G fz d 443 1 ls st h Q = X fz d 443 Q (blk 443 1) ls st h := G_eq
theorem q443_2 {fz : Int → Int → Option Int} {d : Nat} {ls st : List AV} {h : HV} {Q : Int → HV → Prop} : G fz d 443 2 ls st h Q = X fz d 443 Q (blk 443 2) ls st h := G_eq
theorem q443_3 {fz : Int → Int → Option Int} {d : Nat} {ls st : List AV} {h : HV} {Q : Int → HV → Prop} : G fz d 443 3 ls st h Q = X fz d 443 Q (blk 443 3) ls st h := G_eq
theorem q444_1 {fz : Int → Int → Option Int} {d : Nat} {ls st : List AV} {h : HV} {Q : Int → HV → Prop} : G fz d 444 1 ls st h Q = X fz d 444 Q (blk 444 1) ls st h := G_eq
theorem q444_2 {fz : Int → Int → Option Int} {d : Nat} {ls st : List AV} {h : HV} {Q : Int → HV → Prop} : G fz d 444 2 ls st h Q = X fz d 444 Q (blk 444 2) ls st h := G_eq
theorem q444_3 {fz : Int → Int → Option Int} {d : Nat} {ls st : List AV} {h : HV} {Q : Int → HV → Prop} : G fz d 444 3 ls st h Q = X fz d 444 Q (blk 444 3) ls st h := G_eq
theorem q444_4 {fz : Int → Int → Option Int} {d : Nat} {ls st : List AV} {h : HV} {Q : Int → HV → Prop} : G fz d 444 4 ls st h Q = X fz d 444 Q (blk 444 4) ls st h := G_eq
theorem q444_5 {fz : Int → Int → Option Int} {d : Nat} {ls st : List AV} {h : HV} {Q : Int → HV → Prop} : G fz d 444 5 ls st h Q = X fz d 444 Q (blk 444 5) ls st h := G_eq
theorem q444_6 {fz : Int → Int → Option Int} {d : Nat} {ls st : List AV} {h : HV} {Q : Int → HV → Prop} : G fz d 444 6 ls st h Q = X fz d 444 Q (blk 444 6) ls st h := G_eq
theorem q444_7 {fz : Int → Int → Option Int} {d : Nat} {ls st : List AV} {h : HV} {Q : Int → HV → Prop} : G fz d 444 7 ls st h Q = X fz d 444 Q (blk 444 7) ls st h := G_eq
theorem q444_8 {fz : Int → Int → Option Int} {d : Nat} {ls st : List AV} {h : HV} {Q : Int → HV → Prop} : G fz d 444 8 ls st h Q = X fz d 444 Q (blk 444 8) ls st h := G_eq
