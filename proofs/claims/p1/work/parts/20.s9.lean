/-! SOUNDNESS, 9: the counters only grow -/
def MonI (h : HV) (f : Option (Int × HV)) : Prop := ∀ x, f = some x → h 0 0 ≤ x.2 0 0 ∧ h 0 1 ≤ x.2 0 1
theorem MonI.no {h : HV} : MonI h none := fun _ e => by cases e
theorem MonI.le {h h' : HV} {f : Option (Int × HV)} (e0 : h 0 0 ≤ h' 0 0) (e1 : h 0 1 ≤ h' 0 1) (g : MonI h' f) : MonI h f := fun x e => ⟨Int.le_trans e0 (g x e).1, Int.le_trans e1 (g x e).2⟩
theorem MonI.eq0 {h h' : HV} {f : Option (Int × HV)} (e : h' 0 = h 0) (g : MonI h' f) : MonI h f := g.le (by rw [e]; exact Int.le_refl _) (by rw [e]; exact Int.le_refl _)
theorem MonI.chk {c : Prop} {h : HV} {f : Option (Int × HV)} (g : c → MonI h f) : MonI h (ochk c f) := by
  by_cases hc : c
  · rw [ochk, oif_pos hc]; exact g hc
  · rw [ochk, oif_neg hc]; exact MonI.no
theorem MonI.br {c : Prop} {h : HV} {f f2 : Option (Int × HV)} (g : MonI h f) (g2 : MonI h f2) : MonI h (oif c f f2) := by
  by_cases hc : c
  · rw [oif_pos hc]; exact g
  · rw [oif_neg hc]; exact g2
theorem hset0 {h : HV} {o i v : Int} (e : o ≠ 0) : hset h o i v 0 = h 0 := hset_ne (Ne.symm e)
theorem acp0 {h : HV} {o sp d dp n : Int} (e : d ≠ 0) : acp h o sp d dp n 0 = h 0 := by
  funext b
  unfold acp
  rw [if_neg (fun q => e q.1.symm)]
theorem akd_nn (t : ArrayType) : 0 ≤ akd t := by cases t <;> decide
theorem one_of {h h' : HV} (e : h' 0 = h 0) (h1 : 1 ≤ h 0 0) : 1 ≤ h' 0 0 := by rw [e]; exact h1
section UP
variable {fz : Int → Int → Option Int} {C : Nat → List AV → HV → (Int → HV → Option (Int × HV)) → Option (Int × HV)} {J : Nat → List AV → List AV → HV → Option (Int × HV)} {R : Nat → Int → HV → Option (Int × HV)} {K : List AV → List AV → HV → Option (Int × HV)}
theorem sw_up {h : HV} (hJ : ∀ b ls st, MonI h (J b ls st h)) (v d : Int) (ls st : List AV) : ∀ (os : List Int) (lo : Int), MonI h (sw oif J v d ls st h lo os)
  | [], _ => hJ _ _ _
  | _ :: os, lo => MonI.br (hJ _ _ _) (sw_up hJ v d ls st os (lo + 1))
theorem hset_up {h : HV} {o i v : Int} (e : o ≠ 0) (h1 : 1 ≤ h 0 0) (hK : ∀ ls st h, 1 ≤ h 0 0 → MonI h (K ls st h)) (ls st : List AV) : MonI h (K ls st (hset h o i v)) := (hK ls st _ (one_of (hset0 e) h1)).eq0 (hset0 e)
theorem alc_up {h : HV} {kd n sl : Int} (hk : 0 ≤ kd) (hs : 0 ≤ sl) (h1 : 1 ≤ h 0 0) (hK : ∀ ls st h, 1 ≤ h 0 0 → MonI h (K ls st h)) (ls st : List AV) : MonI h (K ls st (alc h kd n sl)) :=
  (hK ls st _ (by rw [alc_00 h1 hk]; omega)).le (by rw [alc_00 h1 hk]; omega) (by rw [alc_01 h1 hk]; omega)
theorem alc2_up {h : HV} {n k : Int} (hn : 0 ≤ n) (hk : 0 ≤ k) (h1 : 1 ≤ h 0 0) (hK : ∀ ls st h, 1 ≤ h 0 0 → MonI h (K ls st h)) (ls st : List AV) : MonI h (K ls st (alc2 h n k)) :=
  (hK ls st _ (by rw [alc2_00 h1]; omega)).le (by rw [alc2_00 h1]; omega) (by rw [alc2_01 h1]; have := Int.mul_nonneg hn hk; omega)
theorem xs_up (hC : ∀ m as h c, 1 ≤ h 0 0 → (∀ r h', 1 ≤ h' 0 0 → MonI h' (c r h')) → MonI h (C m as h c)) (hJ : ∀ b ls st h, 1 ≤ h 0 0 → MonI h (J b ls st h)) (hR : ∀ t r h, MonI h (R t r h)) (hK : ∀ ls st h, 1 ≤ h 0 0 → MonI h (K ls st h)) (i : Instr) (ls st : List AV) (h : HV) (h1 : 1 ≤ h 0 0) :
    MonI h (xs ochk oif none fz C J R K i ls st h) := by
  unfold xs
  split
  all_goals first
    | exact hK _ _ _ h1
    | exact hJ _ _ _ _ h1
    | exact hR _ _ _
    | exact MonI.no
    | exact MonI.br (hJ _ _ _ _ h1) (hK _ _ _ h1)
    | exact MonI.chk (fun _ => hK _ _ _ h1)
    | exact sw_up (fun _ _ _ => hJ _ _ _ _ h1) _ _ _ _ _ _
    | exact MonI.chk (fun hc => hset_up hc.1 h1 hK _ _)
    | exact MonI.chk (fun hc => hset_up (by omega) h1 hK _ _)
    | exact MonI.chk (fun hc => alc_up (by omega) (by omega) h1 hK _ _)
    | exact MonI.chk (fun hc => alc_up (akd_nn _) (by omega) h1 hK _ _)
    | exact MonI.chk (fun hc => alc2_up hc.1 hc.2.2.1 h1 hK _ _)
    | exact MonI.chk (fun hc => (hK _ _ _ (one_of (acp0 (by omega)) h1)).eq0 (acp0 (by omega)))
    | skip
  all_goals (split <;> first
    | exact hK _ _ _ h1
    | exact MonI.no
    | exact MonI.chk (fun _ => hC _ _ _ _ h1 (fun _ _ h2 => hK _ _ _ h2))
    | skip)
theorem xl_up (hC : ∀ m as h c, 1 ≤ h 0 0 → (∀ r h', 1 ≤ h' 0 0 → MonI h' (c r h')) → MonI h (C m as h c)) (hJ : ∀ b ls st h, 1 ≤ h 0 0 → MonI h (J b ls st h)) (hR : ∀ t r h, MonI h (R t r h)) : ∀ (is : List Instr) (ls st : List AV) (h : HV), 1 ≤ h 0 0 → MonI h (xl ochk oif none fz C J R is ls st h)
  | [], _, _, _, _ => MonI.no
  | i :: is, ls, st, h, h1 => xs_up hC hJ hR (xl_up hC hJ hR is) i ls st h h1
end UP
noncomputable def CC (fz : Int → Int → Option Int) (n d : Nat) : Nat → List AV → HV → (Int → HV → Option (Int × HV)) → Option (Int × HV) := fun m as h c => match d with
  | 0 => none
  | d' + 1 => ochk ((entL as).length ≤ ml m) (match runM fz n d' m 0 (ent m as) [] h with
    | some (r, h') => c r h'
    | none => none)
noncomputable def JJ (fz : Int → Int → Option Int) (n d k : Nat) : Nat → List AV → List AV → HV → Option (Int × HV) := fun b ls st h => runM fz n d k b ls st h
def RR : Nat → Int → HV → Option (Int × HV) := fun _ r h => some (r, h)
theorem runM_eq (fz : Int → Int → Option Int) (n d k b : Nat) (ls st : List AV) (h : HV) : runM fz (n + 1) d k b ls st h = xl ochk oif none fz (CC fz n d) (JJ fz n d k) RR (blk k b) ls st h := rfl
theorem RR_up (t : Nat) (r : Int) (h : HV) : MonI h (RR t r h) := fun x e => by cases e; exact ⟨Int.le_refl _, Int.le_refl _⟩
theorem CC_up {fz : Int → Int → Option Int} {n : Nat} (ih : ∀ d k b ls st h, 1 ≤ h 0 0 → MonI h (runM fz n d k b ls st h)) (d : Nat) (m : Nat) (as : List AV) (h : HV) (c : Int → HV → Option (Int × HV)) (h1 : 1 ≤ h 0 0) (hc : ∀ r h', 1 ≤ h' 0 0 → MonI h' (c r h')) : MonI h (CC fz n d m as h c) := by
  unfold CC
  cases d with
  | zero => exact MonI.no
  | succ d' =>
    refine MonI.chk fun _ => ?_
    cases e : runM fz n d' m 0 (ent m as) [] h with
    | none => exact MonI.no
    | some p =>
      obtain ⟨r, h'⟩ := p
      have := ih d' m 0 (ent m as) [] h h1 _ e
      exact (hc r h' (Int.le_trans h1 this.1)).le this.1 this.2
theorem runM_up {fz : Int → Int → Option Int} : ∀ (n d k b : Nat) (ls st : List AV) (h : HV), 1 ≤ h 0 0 → MonI h (runM fz n d k b ls st h)
  | 0, _, _, _, _, _, _, _ => MonI.no
  | n + 1, d, k, b, ls, st, h, h1 => by
    rw [runM_eq]
    exact xl_up (CC_up (runM_up n) d) (fun b ls st h => runM_up n d k b ls st h) RR_up _ _ _ _ h1
theorem step_up {fz : Int → Int → Option Int} {n d k : Nat} {is : List Instr} {ls st : List AV} {h hE : HV} {r : Int} (h1 : 1 ≤ h 0 0) (e : xl ochk oif none fz (CC fz n d) (JJ fz n d k) RR is ls st h = some (r, hE)) : h 0 0 ≤ hE 0 0 ∧ h 0 1 ≤ hE 0 1 :=
  xl_up (CC_up (runM_up n) d) (fun b ls st h => runM_up n d k b ls st h) RR_up is ls st h h1 _ e
