/-! SOUNDNESS, 10: calls, one instruction, a block -/
theorem chk_simple {a i : Instr} {ln : Nat} (h : (simple a && decide (a = i) && decide (ln = 1)) = true) : i = a ∧ ln = 1 := by
  simp only [Bool.and_eq_true, decide_eq_true_eq] at h
  exact ⟨h.1.2.symm, h.2⟩
theorem ochk_some {α : Type} {c : Prop} {f : Option α} {x : α} (h : ochk c f = some x) : c ∧ f = some x := by
  by_cases hc : c
  · rw [ochk, oif_pos hc] at h; exact ⟨hc, h⟩
  · rw [ochk, oif_neg hc] at h; cases h
theorem oif_l {α : Type} {c : Prop} {a b : Option α} {x : α} (h : oif c a b = some x) (hc : c) : a = some x := by rw [oif_pos hc] at h; exact h
theorem oif_r {α : Type} {c : Prop} {a b : Option α} {x : α} (h : oif c a b = some x) (hc : ¬ c) : b = some x := by rw [oif_neg hc] at h; exact h
theorem SRL_lt : ∀ q ∈ SRL, q.2.2 < 48 := by decide +kernel
theorem fld_use {k x : Nat} {hh : Nat × Nat} {g : Int} {fin : Bool} (h : fldOK k x hh g fin = true) : ∃ cn j : Nat, cn < 13 ∧ j < cN cn ∧ g / 1024 = (cn : Int) ∧ g / 8 % 128 = (j : Int) ∧ fT cn j = (g % 8).toNat ∧ (cF cn j).2.2.2 = fin ∧ Jvm.Cond.fieldLink (own_ k) x (cF cn j).1 (cF cn j).2.1 (cF cn j).2.2.1 ∈ BIG := by
  unfold fldOK at h
  simp only [Bool.and_eq_true, decide_eq_true_eq, beq_iff_eq] at h
  obtain ⟨⟨⟨⟨⟨h0, h1⟩, h2⟩, h3⟩, h4⟩, h5⟩ := h
  exact ⟨(g / 1024).toNat, (g / 8 % 128).toNat, h1, h2, by omega, by omega, h3, h4, wrd_big h5 (gw_fieldLink _ _ _ _ _)⟩
theorem popA_use : ∀ (n : Nat) (acc st as r : List AV), popA n acc st = some (as, r) → acc.reverse ++ st = as.reverse ++ r ∧ as.length = n + acc.length
  | 0, acc, st, as, r, h => by cases h; exact ⟨rfl, by omega⟩
  | n + 1, acc, [], as, r, h => by cases h
  | n + 1, acc, v :: st, as, r, h => by
    obtain ⟨h1, h2⟩ := popA_use n (v :: acc) st as r h
    refine ⟨?_, by rw [h2, List.length_cons]; omega⟩
    rw [← h1, List.reverse_cons, List.append_assoc]
    rfl
theorem rcv_use {c : Nat} {as : List AV} (h : rcv c as) (hc : 1 ≤ c) : ∃ (o : Int) (as' : List AV), as = (3, o) :: as' ∧ o ≠ 0 ∧ o % 64 = ((c - 1 : Nat) : Int) := by
  match c, as, hc, h with
  | c + 1, (3, o) :: as', _, h => exact ⟨o, as', rfl, h.1, h.2⟩
def rcode (n : Nat) : Nat := match n with
  | 7 => 4
  | 1 => 1
  | 2 => 2
  | 3 => 3
  | _ => 0
theorem psh_ne {t : Nat} (h : t ≠ 4) (x : Int) (r : List AV) : psh t x r = (t, x) :: r := by
  unfold psh
  split
  · exact absurd rfl h
  · rfl
def retT (vF : Value) (al : Int → Prop) (ad : Int → Nat) (t : Nat) (x : Int) (v : Option Value) : Prop := if t = 4 then v = none else v = some (cv vF ad t x) ∧ rng al t x
theorem sw_run {J : Nat → List AV → List AV → HV → Option (Int × HV)} {v d : Int} {ls st : List AV} {h : HV} {x : Int × HV} : ∀ (os : List Int) (lo : Int), sw oif J v d ls st h lo os = some x → (∃ (j : Nat) (o : Int), os[j]? = some o ∧ v = lo + j ∧ J o.toNat ls st h = some x) ∨ ((v < lo ∨ lo + os.length ≤ v) ∧ J d.toNat ls st h = some x)
  | [], lo, e => Or.inr ⟨by rw [List.length_nil]; omega, e⟩
  | o :: os, lo, e => by
    by_cases hv : v = lo
    · exact Or.inl ⟨0, o, rfl, by omega, oif_l e hv⟩
    · rcases sw_run os (lo + 1) (oif_r e hv) with ⟨j, o', h1, h2, h3⟩ | ⟨h1, h2⟩
      · exact Or.inl ⟨j + 1, o', h1, by omega, h3⟩
      · exact Or.inr ⟨by rw [List.length_cons]; omega, h2⟩
/-- what a frame of method k is -/
def FC (p : Program) (R : Room) (s : State) (m : MethodId) (args : Array Value) (meth : Method) (c : Code) (fz : Int → Int → Option Int) (base : Nat) (H0 : Heap) (hI : HV) (dC : Nat → ClassId) (dI : Nat → Nat → Nat) (vF : Value) (adS adV : Nat → Nat) (bS : Nat) (len : List Nat) (byt : List (List Int32)) (L : Nat) (xs : Nat → Int32) (k d : Nat) : Prop :=
  (p.tables.exec = Jvm.exec) ∧ (c.code = ck k) ∧ (c.maxLocals = ml k) ∧ (s.vm.findClass (own_ k) = some m.cls) ∧ (∀ w ∈ BIG, w.before args s = true) ∧ (FA base H0 dC dI vF adS adV bS len byt L xs s) ∧ (HIok hI len byt L xs) ∧ (FZ fz) ∧ (vF = .null ∨ ∃ a, vF = .ref a) ∧ (d + 1 ≤ R.frames) ∧ (40 * (d + 1) ≤ R.locals) ∧ ((yk k).name = "<init>" → meth.name = "<init>")
section FCS
variable {p : Program} {R : Room} {s : State} {m : MethodId} {args : Array Value} {meth : Method} {c : Code} {fz : Int → Int → Option Int} {base : Nat} {H0 : Heap} {hI : HV} {dC : Nat → ClassId} {dI : Nat → Nat → Nat} {vF : Value} {adS adV : Nat → Nat} {bS : Nat} {len : List Nat} {byt : List (List Int32)} {L : Nat} {xs : Nat → Int32} {k d : Nat}
theorem FC.hx (F : FC p R s m args meth c fz base H0 hI dC dI vF adS adV bS len byt L xs k d) : p.tables.exec = Jvm.exec := F.1
theorem FC.hb (F : FC p R s m args meth c fz base H0 hI dC dI vF adS adV bS len byt L xs k d) : c.code = ck k := F.2.1
theorem FC.hml (F : FC p R s m args meth c fz base H0 hI dC dI vF adS adV bS len byt L xs k d) : c.maxLocals = ml k := F.2.2.1
theorem FC.own (F : FC p R s m args meth c fz base H0 hI dC dI vF adS adV bS len byt L xs k d) : s.vm.findClass (own_ k) = some m.cls := F.2.2.2.1
theorem FC.hts (F : FC p R s m args meth c fz base H0 hI dC dI vF adS adV bS len byt L xs k d) : ∀ w ∈ BIG, w.before args s = true := F.2.2.2.2.1
theorem FC.hF (F : FC p R s m args meth c fz base H0 hI dC dI vF adS adV bS len byt L xs k d) : FA base H0 dC dI vF adS adV bS len byt L xs s := F.2.2.2.2.2.1
theorem FC.hH (F : FC p R s m args meth c fz base H0 hI dC dI vF adS adV bS len byt L xs k d) : HIok hI len byt L xs := F.2.2.2.2.2.2.1
theorem FC.hZ (F : FC p R s m args meth c fz base H0 hI dC dI vF adS adV bS len byt L xs k d) : FZ fz := F.2.2.2.2.2.2.2.1
theorem FC.hvF (F : FC p R s m args meth c fz base H0 hI dC dI vF adS adV bS len byt L xs k d) : vF = .null ∨ ∃ a, vF = .ref a := F.2.2.2.2.2.2.2.2.1
theorem FC.fr (F : FC p R s m args meth c fz base H0 hI dC dI vF adS adV bS len byt L xs k d) : d + 1 ≤ R.frames := F.2.2.2.2.2.2.2.2.2.1
theorem FC.lo (F : FC p R s m args meth c fz base H0 hI dC dI vF adS adV bS len byt L xs k d) : 40 * (d + 1) ≤ R.locals := F.2.2.2.2.2.2.2.2.2.2.1
theorem FC.nam (F : FC p R s m args meth c fz base H0 hI dC dI vF adS adV bS len byt L xs k d) : (yk k).name = "<init>" → meth.name = "<init>" := F.2.2.2.2.2.2.2.2.2.2.2
end FCS
theorem AOAL.moved {u U : State} (hvm : u.vm.Alike U.vm) (h : AOAL u) : AOAL U := by
  unfold AOAL Cond.before Cond.holds at h ⊢
  simp only [Cond.value, beq_iff_eq] at h ⊢
  cases hc : u.vm.findClass (FieldType.array .long).toString with
  | none => simp [hc] at h
  | some comp =>
    simp only [hc, Option.bind_some, Option.bind_eq_some_iff, Option.map_eq_some_iff] at h
    obtain ⟨cA, hi, kA, hk, hb⟩ := h
    obtain ⟨k', hk', he⟩ := hvm.2.2 _ _ hk
    have hi' := (va_idx_bare U.vm comp).symm.trans ((congrArg (fun v : Vm => v.classes.findIdx? _) hvm.bare_eq).trans ((va_idx_bare u.vm comp).trans hi))
    have hkk : k'.kind = kA.kind := by rw [he]
    rw [hvm.findClass, hc, Option.bind_some]
    refine (congrArg (fun o : Option Nat => o.bind _) hi').trans ?_
    rw [Option.bind_some, hk', Option.map_some, hkk, hvm.findClass]
    exact congrArg some hb
section KC
variable {p : Program} {l : Launch} {e : Env} {R : Room} {s : State} {m : MethodId} {args : Array Value} {below : List Frame} {meth : Method} {c : Code} {Q : State → Prop}
variable {fz : Int → Int → Option Int} {base : Nat} {H0 : Heap} {hI : HV} {dC : Nat → ClassId} {dI : Nat → Nat → Nat} {vF : Value} {adS adV : Nat → Nat} {bS : Nat} {hE : HV} {al0 : Int → Prop} {ad0 : Int → Nat}
variable {len : List Nat} {byt : List (List Int32)} {L : Nat} {xs : Nat → Int32}
variable {pc : Nat} {ls st : List AV} {h : HV}
theorem FC.fr1 {k d : Nat} (F : FC p R s m args meth c fz base H0 hI dC dI vF adS adV bS len byt L xs k d) : 1 ≤ R.frames := by have := F.fr; omega
theorem FC.lo1 {k d : Nat} (F : FC p R s m args meth c fz base H0 hI dC dI vF adS adV bS len byt L xs k d) : 40 ≤ R.locals := by have := F.lo; omega
theorem k_tab {k NB : Nat} {cc : ByteArray} {r : Int} (hx : p.tables.exec = Jvm.exec) (hb : c.code = cc) {d' lo hi : Int} {os' : Array Int} {ln : Nat} (hdg : decode cc pc = .ok (.tableswitch d' lo hi os', ln)) {d x : Int} {os : Array Int} (hd : (pc : Int) + d' = (pcs k d.toNat : Int)) (ho : os.toList.map (fun t => (pcs k t.toNat : Int)) = os'.toList.map (fun o => (pc : Int) + o)) (hs : hi + 1 = lo + os.size) (hB : d.toNat < NB) (hBs : os.toList.all (fun t => decide (t.toNat < NB)) = true)
    {J : Nat → List AV → List AV → HV → Option (Int × HV)} (jj : ∀ t : Nat, t < NB → J t ls st h = some (r, hE) → Kn p l e R s m args below meth c Q (ST fz base H0 hI dC dI vF adS adV bS s R hE al0 ad0) (pcs k t) ls st h) (hrun : sw oif J x d ls st h lo os.toList = some (r, hE)) : Kn p l e R s m args below meth c Q (ST fz base H0 hI dC dI vF adS adV bS s R hE al0 ad0) pc ls ((0, x) :: st) h := by
  intro al ad H locs cells slots lc sc g
  obtain ⟨sc1, rfl, r1, g1⟩ := g.pop
  have r1 : -2147483648 ≤ x ∧ x ≤ 2147483647 := r1
  have ex : (Int32.ofInt x).toInt = x := i_ofr r1
  have hsz : os.toList.length = os.size := Array.length_toList
  rcases sw_run _ _ hrun with ⟨j, o, h1, h2, h3⟩ | ⟨h1, h2⟩
  · have hj : j < os.toList.length := (List.getElem?_eq_some_iff.mp h1).1
    have e1 : (os.toList.map (fun t => (pcs k t.toNat : Int)))[j]? = some (pcs k o.toNat : Int) := by rw [List.getElem?_map, h1]; rfl
    rw [ho, List.getElem?_map] at e1
    cases e2 : os'.toList[j]? with
    | none => rw [e2] at e1; cases e1
    | some off =>
      rw [e2] at e1
      have e3 : (pc : Int) + off = (pcs k o.toNat : Int) := Option.some.inj e1
      have e4 : os'[j]? = some off := by rw [← Array.getElem?_toList]; exact e2
      have hob : o.toNat < NB := by
        have := List.all_eq_true.mp hBs o (List.mem_of_getElem? h1)
        exact of_decide_eq_true this
      refine lv_tableIn hx hb hdg (by rw [ex]; omega) (by rw [ex]; omega) (off := off) ?_ e3 (jj _ hob h3 _ _ _ _ _ _ _ _ g1)
      rw [ex, show (x - lo).toNat = j by omega]
      exact e4
  · exact lv_tableOut hx hb hdg (by rw [ex]; omega) hd (jj _ hB h2 _ _ _ _ _ _ _ _ g1)
end KC
section MET
variable (fz : Int → Int → Option Int) (base : Nat) (H0 : Heap) (hI : HV) (dC : Nat → ClassId) (dI : Nat → Nat → Nat) (vF : Value) (adS adV : Nat → Nat) (bS : Nat) (len : List Nat) (byt : List (List Int32)) (L : Nat) (xs : Nat → Int32)
def PcM (s0 : State) (as : List AV) (al0 : Int → Prop) (ad0 : Int → Nat) (h : HV) : Array Value → State → Prop := fun a U =>
  a = (as.map (cvv vF ad0)).toArray ∧ s0.vm.Alike U.vm ∧ Sm fz base H0 hI dC dI vF s0 al0 ad0 adS adV bS h U.heap ∧ (∀ v ∈ as, rng al0 v.1 v.2) ∧ FA base H0 dC dI vF adS adV bS len byt L xs U
def QcM (s0 : State) (al0 : Int → Prop) (ad0 : Int → Nat) (h1 : HV) (r : Int) (rt : Nat) : Array Value → State → Outcome → State → Prop := fun _ _ o t =>
  ∃ (v : Option Value) (al : Int → Prop) (ad : Int → Nat), o = .returned v ∧ (∀ x, al0 x → al x ∧ ad x = ad0 x) ∧ Sm fz base H0 hI dC dI vF s0 al ad adS adV bS h1 t.heap ∧ retT vF al ad rt r v
def RM (d : Nat) (h h1 : HV) : Room := { frames := d + 1, cells := (h1 0 0 - h 0 0).toNat, slots := (h1 0 1 - h 0 1).toNat, locals := 40 * (d + 1) }
def MetM (l : Launch) (n : Nat) : Prop := ∀ (k d : Nat) (as : List AV) (h h1 : HV) (r : Int) (s0 : State) (al0 : Int → Prop) (ad0 : Int → Nat), 0 < k → k < 445 → as.length = na k → (entL as).length ≤ ml k → runM fz n d k 0 (ent k as) [] h = some (r, h1) →
  Met l (yk k) (Jvm.Cond.code (yk k) (ck k) (ml k) (rk k) :: BIG) (RM d h h1) (PcM fz base H0 hI dC dI vF adS adV bS len byt L xs s0 as al0 ad0 h) (QcM fz base H0 hI dC dI vF adS adV bS s0 al0 ad0 h1 r (rcode (rn k))) (h1 0 0 - h 0 0).toNat (h1 0 1 - h 0 1).toNat (fun q => base ≤ q)
end MET
theorem PcM_blind {fz : Int → Int → Option Int} {base : Nat} {H0 : Heap} {hI : HV} {dC : Nat → ClassId} {dI : Nat → Nat → Nat} {vF : Value} {adS adV : Nat → Nat} {bS : Nat} {len : List Nat} {byt : List (List Int32)} {L : Nat} {xs : Nat → Int32} {s0 : State} {as : List AV} {al0 : Int → Prop} {ad0 : Int → Nat} {h : HV} :
    FrameBlind (PcM fz base H0 hI dC dI vF adS adV bS len byt L xs s0 as al0 ad0 h) := by
  intro a U g mk hp
  obtain ⟨h1, h2, h3, h4, h5⟩ := hp
  exact ⟨h1, h2, h3, h4, h5⟩
section KC2
variable {p : Program} {l : Launch} {e : Env} {R : Room} {s : State} {m : MethodId} {args : Array Value} {below : List Frame} {meth : Method} {c : Code} {Q : State → Prop}
variable {fz : Int → Int → Option Int} {base : Nat} {H0 : Heap} {hI : HV} {dC : Nat → ClassId} {dI : Nat → Nat → Nat} {vF : Value} {adS adV : Nat → Nat} {bS : Nat} {hE : HV} {al0 : Int → Prop} {ad0 : Int → Nat}
variable {len : List Nat} {byt : List (List Int32)} {L : Nat} {xs : Nat → Int32}
variable {pc : Nat} {ls st : List AV} {h : HV}
/-- the frame's state behind a call -/
theorem ST.called {al al' : Int → Prop} {ad ad' : Int → Nat} {h1 : HV} {H H' : Heap} {locs LL : List Loc} {cells slots : Nat} {lc : Array Slot} {sc : List Value} {as r : List AV} {x : Int} {t : Nat} {v : Option Value} (g : ST fz base H0 hI dC dI vF adS adV bS s R hE al0 ad0 al ad h H locs cells slots ls st lc sc) (hst : st = as.reverse ++ r) (hk : ∀ x, al x → al' x ∧ ad' x = ad x) (hS : Sm fz base H0 hI dC dI vF s al' ad' adS adV bS h1 H') (hL : ∀ q ∈ LL, base ≤ q.base) (hv : retT vF al' ad' t x v) (hup : h 0 0 ≤ h1 0 0 ∧ h 0 1 ≤ h1 0 1) :
    ST fz base H0 hI dC dI vF adS adV bS s R hE al0 ad0 al' ad' h1 H' (locs ++ LL) (cells + (h1 0 0 - h 0 0).toNat) (slots + (h1 0 1 - h 0 1).toNat) ls (psh t x r) lc (v.toList ++ r.map (cvv vF ad)) := by
  subst hst
  obtain ⟨g1, g2, g3, ⟨g4, g5⟩, g6, g7, g8⟩ := g
  have gr : ST fz base H0 hI dC dI vF adS adV bS s R hE al0 ad0 al ad h H locs cells slots ls r lc (r.map (cvv vF ad)) := ⟨g1, g2, g3, ⟨rfl, fun w hw => g5 w (List.mem_append_right _ hw)⟩, g6, g7, g8⟩
  have gg := gr.grow hS (fun x hx => (hk x hx).1) (fun x hx => (hk x hx).2) (cells' := cells + (h1 0 0 - h 0 0).toNat) (slots' := slots + (h1 0 1 - h 0 1).toNat) (by omega) (by omega)
  obtain ⟨q1, q2, q3, q4, q5, q6⟩ := gg
  have gL : ST fz base H0 hI dC dI vF adS adV bS s R hE al0 ad0 al' ad' h1 H' (locs ++ LL) (cells + (h1 0 0 - h 0 0).toNat) (slots + (h1 0 1 - h 0 1).toNat) ls r lc (r.map (cvv vF ad)) := ⟨q1, q2, q3, q4, fun q hq => (List.mem_append.mp hq).elim (q5 q) (hL q), q6⟩
  by_cases h4 : t = 4
  · unfold retT at hv
    rw [if_pos h4] at hv
    subst h4 hv
    exact gL
  · unfold retT at hv
    rw [if_neg h4] at hv
    obtain ⟨rfl, hr⟩ := hv
    rw [psh_ne h4]
    exact gL.push (v := (t, x)) hr
theorem k_run {as r : List AV} {x : Int} {t mc ms : Nat} {h1 : HV} (hst : st = as.reverse ++ r) (hup : h 0 0 ≤ h1 0 0 ∧ h 0 1 ≤ h1 0 1) (hmc : mc = (h1 0 0 - h 0 0).toNat) (hms : ms = (h1 0 1 - h 0 1).toNat)
    (hr : ∀ (al : Int → Prop) (ad : Int → Nat) (H : Heap) (locs : List Loc) (cells slots : Nat) (lc : Array Slot) (sc : List Value), ST fz base H0 hI dC dI vF adS adV bS s R hE al0 ad0 al ad h H locs cells slots ls st lc sc → ∃ aa, va_Run p l e R s m args below meth c H locs cells slots mc ms (F0 m pc lc sc) (r.map (cvv vF ad)) (QcM fz base H0 hI dC dI vF adS adV bS s al ad h1 x t aa) (fun q => base ≤ q))
    (kk : Kn p l e R s m args below meth c Q (ST fz base H0 hI dC dI vF adS adV bS s R hE al0 ad0) (pc + 3) ls (psh t x r) h1) : Kn p l e R s m args below meth c Q (ST fz base H0 hI dC dI vF adS adV bS s R hE al0 ad0) pc ls st h := by
  intro al ad H locs cells slots lc sc g
  obtain ⟨aa, hr⟩ := hr al ad H locs cells slots lc sc g
  subst hmc hms
  intro T hT X
  obtain ⟨v, st0, t0, T', LL, e0, X', hL, e1, e2, ⟨v', al', ad', hv, hk, hS, hret⟩, go⟩ := hr T hT X
  cases hv
  obtain ⟨t2, a1, b1⟩ := kk al' ad' _ _ _ _ lc _ (g.called hst hk hS hL hret hup) T' e1 X'
  exact ⟨t2, go t2 a1, b1⟩
theorem cvv_rev {ad : Int → Nat} {as r : List AV} : (as.reverse ++ r).map (cvv vF ad) = (as.map (cvv vF ad)).reverse ++ r.map (cvv vF ad) := by
  rw [List.map_append, List.map_reverse]
/-- what a callee's premise needs -/
theorem pcM_of {as r : List AV} {al : Int → Prop} {ad : Int → Nat} {H : Heap} {locs : List Loc} {cells slots : Nat} {lc : Array Slot} {sc : List Value} (hst : st = as.reverse ++ r) (hF : FA base H0 dC dI vF adS adV bS len byt L xs s) (g : ST fz base H0 hI dC dI vF adS adV bS s R hE al0 ad0 al ad h H locs cells slots ls st lc sc) (U : State) (hU : U.heap = H) (hW : s.WarmedH U.vm) : PcM fz base H0 hI dC dI vF adS adV bS len byt L xs s as al ad h (as.map (cvv vF ad)).toArray U := by
  subst hst
  refine ⟨rfl, hW.alike, by rw [hU]; exact g.1, fun v hv => g.2.2.2.1.2 v (List.mem_append_left _ (List.mem_reverse.mpr hv)), hF.warm hW (AOAL.moved hW.alike)⟩
theorem om_use {k : Nat} (h : OM k) : (Jvm.Cond.code (yk k) (ck k) (ml k) (rk k)) ∈ BIG ∧ (Jvm.Cond.initialized (yk k).cls) ∈ BIG ∧ (sk k = true → (Jvm.Cond.static (yk k)) ∈ BIG) ∧ (sk k = false → (Jvm.Cond.instanceMethod (yk k)) ∈ BIG) ∧ (sk k = false → (yk k).name ≠ "<init>" → Jvm.Cond.selects (yk k).cls (yk k) (yk k) ∈ BIG) ∧ plainName (yk k).cls = true ∧ ((yk k).cls ≠ "java/lang/invoke/MethodHandle" ∧ (yk k).cls ≠ "java/lang/invoke/VarHandle") ∧ (parseMethodDescriptor (yk k).desc).map (fun d => d.parameters.length) = some (na k - (if sk k then 0 else 1)) ∧ rtOK (rn k) (rk k) = true ∧ ml k ≤ 20 := by
  obtain ⟨h0, h⟩ := h
  unfold okMr at h
  simp only [Bool.and_eq_true, decide_eq_true_eq] at h
  obtain ⟨⟨⟨⟨⟨⟨⟨⟨⟨a1, a2⟩, a3⟩, a4⟩, a5⟩, a6⟩, a7⟩, a8⟩, a9⟩, a10⟩ := h
  refine ⟨wrd_big h0 (gw_code _ _ _ _), wrd_big a1 (gw_init _), fun hs => ?_, fun hs => ?_, fun hs hn => ?_, a4, ⟨a5, a6⟩, a7, a9, a10⟩
  · rw [if_pos hs] at a2
    exact wrd_big (of_decide_eq_true a2) (gw_stat _)
  · rw [if_neg (by rw [hs]; decide)] at a2
    exact wrd_big (of_decide_eq_true a2) (gw_inst _)
  · rw [if_neg (by rw [hs]; simp [hn])] at a3
    exact wrd_big (of_decide_eq_true a3) (gw_sel _ _ _)
theorem one_call {k d n : Nat} (F : FC p R s m args meth c fz base H0 hI dC dI vF adS adV bS len byt L xs k d) (hC : MetM fz base H0 hI dC dI vF adS adV bS len byt L xs l n) (hOM : ∀ k, 0 < k → k < 445 → OM k) {i : Instr} {ln mi nn : Nat} {hh : Nat × Nat} {r0 : Int} {K : List AV → List AV → HV → Option (Int × HV)} (hdg : decode (ck k) pc = .ok (i, ln)) (hchk : chkI k pc hh (.invokeinterface mi nn) i ln = true) (hls : ls.length = ml k)
    (hup : ∀ ls st h, 1 ≤ h 0 0 → K ls st h = some (r0, hE) → h 0 0 ≤ hE 0 0 ∧ h 0 1 ≤ hE 0 1) (kkk : ∀ ls st h, ls.length = ml k → K ls st h = some (r0, hE) → Kn p l e R s m args below meth c Q (ST fz base H0 hI dC dI vF adS adV bS s R hE al0 ad0) (pc + ln) ls st h)
    (hrun : (match popA nn [] st with
      | some (as, r) => ochk (rcv (mi / 8 % 32) as ∧ wds r ≤ 8) (CC fz n d (mi / 256) as h (fun x h' => K ls (psh (mi % 8) x r) h'))
      | none => none) = some (r0, hE)) : Kn p l e R s m args below meth c Q (ST fz base H0 hI dC dI vF adS adV bS s R hE al0 ad0) pc ls st h := by
  cases hpop : popA nn [] st with
  | none => rw [hpop] at hrun; cases hrun
  | some q =>
  obtain ⟨as, r⟩ := q
  rw [hpop] at hrun
  obtain ⟨hst, hlen⟩ := popA_use _ _ _ _ _ hpop
  have hst : st = as.reverse ++ r := hst
  have hlen : as.length = nn := hlen
  obtain ⟨⟨hrc, hw8⟩, hrun1⟩ := ochk_some hrun
  clear hrun
  cases d with
  | zero => cases hrun1
  | succ d' =>
  obtain ⟨hle, hrun2⟩ := ochk_some hrun1
  clear hrun1
  cases hr : runM fz n d' (mi / 256) 0 (ent (mi / 256) as) [] h with
  | none => rw [hr] at hrun2; cases hrun2
  | some q =>
  obtain ⟨x, h1⟩ := q
  rw [hr] at hrun2
  have hrun : K ls (psh (mi % 8) x r) h1 = some (r0, hE) := hrun2
  clear hrun2
  generalize hmm : mi / 256 = mm at *
  have key : ∀ (own : String), own = own_ k → mm < 445 → 0 < mm → nn = na mm → mi % 8 = rcode (rn mm) →
      (∀ (al : Int → Prop) (ad : Int → Nat) (H : Heap) (locs : List Loc) (cells slots : Nat) (lc : Array Slot) (sc : List Value), ST fz base H0 hI dC dI vF adS adV bS s R hE al0 ad0 al ad h H locs cells slots ls st lc sc → 1 ≤ h 0 0 →
        Met l (yk mm) (Jvm.Cond.code (yk mm) (ck mm) (ml mm) (rk mm) :: BIG) (RM d' h h1) (PcM fz base H0 hI dC dI vF adS adV bS len byt L xs s as al ad h) (QcM fz base H0 hI dC dI vF adS adV bS s al ad h1 x (rcode (rn mm))) (h1 0 0 - h 0 0).toNat (h1 0 1 - h 0 1).toNat (fun q => base ≤ q) →
        (cells + (h1 0 0 - h 0 0).toNat ≤ R.cells ∧ slots + (h1 0 1 - h 0 1).toNat ≤ R.slots) → sc = (as.map (cvv vF ad)).reverse ++ r.map (cvv vF ad) → lc.size = ml k → 2 * 0 + ((r.map (cvv vF ad)).map fun v => v.category).sum ≤ 8 →
        ∃ aa, va_Run p l e R s m args below meth c H locs cells slots (h1 0 0 - h 0 0).toNat (h1 0 1 - h 0 1).toNat (F0 m pc lc sc) (r.map (cvv vF ad)) (QcM fz base H0 hI dC dI vF adS adV bS s al ad h1 x (rcode (rn mm)) aa) (fun q => base ≤ q)) →
      ln = 3 → Kn p l e R s m args below meth c Q (ST fz base H0 hI dC dI vF adS adV bS s R hE al0 ad0) pc ls st h := by
    intro own hown hm1 hm0 hna hrt hcall hl3
    subst hl3
    rw [hrt] at hrun
    intro al ad H locs cells slots lc sc g
    have h1' := g.1.2.2.2.2.2.2.2
    have u1 : h 0 0 ≤ h1 0 0 ∧ h 0 1 ≤ h1 0 1 := runM_up n d' mm 0 (ent mm as) [] h h1' _ hr
    have u2 : h1 0 0 ≤ hE 0 0 ∧ h1 0 1 ≤ hE 0 1 := hup _ _ _ (Int.le_trans h1' u1.1) hrun
    refine k_run hst u1 rfl rfl (fun al ad H locs cells slots lc sc g => ?_) (kkk _ _ _ hls hrun) al ad H locs cells slots lc sc g
    have g7 := g.2.2.2.2.2.1
    have g8 := g.2.2.2.2.2.2
    have gsc := g.2.2.2.1.1
    have gw : ((r.map (cvv vF ad)).map fun v => v.category).sum = wds r := wds_sum F.hvF r (fun v hv => g.2.2.2.1.2 v (by rw [hst]; exact List.mem_append_right _ hv))
    refine hcall al ad H locs cells slots lc sc g h1' (hC mm d' as h h1 x s al ad hm0 hm1 (hlen.trans hna) hle hr) ⟨by omega, by omega⟩ (by rw [gsc, hst, cvv_rev]) (by rw [g.lcs, hls]) (by rw [gw]; omega)
  have fix : CallFix p m c (ck k) (ml k) s args BIG (own_ k) := ⟨F.hx, F.hb, F.hml, F.own, F.hts⟩
  have hfr := F.fr
  have hlo := F.lo
  have hgood : ∀ hO : OM mm, GoodIn BIG (Jvm.Cond.code (yk mm) (ck mm) (ml mm) (rk mm) :: BIG) := fun hO => BIG_good (fun w hw => by
    rcases List.mem_cons.mp hw with rfl | hw
    · exact (om_use hO).1
    · exact hw)
  have hroom : ∀ hO : OM mm, (RM d' h h1).frames + 1 ≤ R.frames ∧ 8 + (ml mm + 11) + (RM d' h h1).locals ≤ R.locals := fun hO => by
    have := (om_use hO).2.2.2.2.2.2.2.2.2
    exact ⟨by show d' + 1 + 1 ≤ _; omega, by show _ + 40 * (d' + 1) ≤ _; omega⟩
  have hq : c_invokeinterface k pc hh mi nn i ln = true := hchk
  unfold c_invokeinterface at hq
  split at hq
  · -- virtual
    rename_i idx
    unfold callOK at hq
    simp only [Bool.and_eq_true, decide_eq_true_eq, Bool.not_eq_true', hmm] at hq
    obtain ⟨⟨⟨⟨⟨⟨rfl, ⟨⟨⟨⟨hm1, hm0⟩, hna⟩, hlk⟩, hrt⟩⟩, hsk⟩, hnn⟩, hcl⟩, hc1⟩, hcls⟩ := hq
    have hO := hOM mm hm0 hm1
    obtain ⟨o1, o2, o3, o4, o5, o6, o7, o8, o9, o10⟩ := om_use hO
    refine key (own_ k) rfl hm1 hm0 hna hrt (fun al ad H locs cells slots lc sc g h1' hM hf hsc hlc hW => ?_) rfl
    obtain ⟨o, as', rfl, ho, hok⟩ := rcv_use hrc hc1
    rw [hsk] at o8
    have hB := callB_of (R := R) (own := own_ k) (index := idx) (rm := RM d' h h1) (na mm - 1) F.hts (hgood hO) rfl rfl rfl (F.hts _ o2) (F.hts _ (wrd_big hlk (gw_methodLink _ _ _))) ⟨o7.1, o7.2, o8⟩ (hroom hO)
    have hob : ∃ cellB : Cell, H[ad o]? = some cellB ∧ cellB.vm.isStatics = false ∧ s.vm.findClass (yk mm).cls = some cellB.cls := by
      rw [← hcls]
      by_cases h13 : mi / 8 % 32 - 1 = 13
      · rw [h13] at hok ⊢
        obtain ⟨v0, v62, v64, hw⟩ := g.1.low (o := o) (g.2.2.2.1.2 (3, o) (by rw [hst]; simp)) (Or.inr (Or.inr hok))
        obtain ⟨j, hj, rfl⟩ : ∃ j, j < 48 ∧ o = sid j := by
          rcases hw with rfl | ⟨j, hj, q | q⟩
          · omega
          · exact ⟨j, hj, q⟩
          · have := bid_mod j; omega
        obtain ⟨s1, s2, -⟩ := g.1.2.2.2.2.1 j hj
        obtain ⟨cellV, q1, q2, q3, q4⟩ := (F.hF.2.2.1.1 j hj).1
        exact ⟨cellV, by rw [s2, g.1.1.2 _ (Nat.lt_of_not_le q4)]; exact q1, q2, q3⟩
      · have hcn : mi / 8 % 32 - 1 < 13 := by omega
        obtain ⟨ha, h64, -⟩ := g.1.obj (o := o) (g.2.2.2.1.2 (3, o) (by rw [hst]; simp)) ho (by omega)
        obtain ⟨⟨cell, c1, c2, c3, -⟩, -⟩ := (g.1.2.1 o ha h64).1.1 (by omega)
        have hcn' : (o % 64).toNat = mi / 8 % 32 - 1 := by omega
        rw [hcn'] at c2
        obtain ⟨-, hfc, -⟩ := F.hF.1 _ hcn
        exact ⟨cell, c1, by rw [c3]; rfl, by rw [c2]; exact hfc⟩
    have e0 : cvv vF ad (3, o) = .ref (ad o) := cv_ref ho (by omega)
    refine ⟨_, va_runV (b := ad o) (As := as'.map (cvv vF ad)) (C := (yk mm).cls) fix hM ⟨hB, F.hts _ (o4 hsk), F.hts _ (o5 hsk hnn)⟩ ⟨PcM_blind, hob, fun U hU hWU => ?_⟩ rfl (by rw [List.length_map]; rw [List.length_cons] at hlen; omega) hlc (by show sc = _; rw [hsc, List.map_cons, List.reverse_cons, List.append_assoc, e0]; rfl) hW hdg hf⟩
    have := pcM_of hst F.hF g U hU hWU
    rw [List.map_cons, e0] at this
    exact this
  · -- special
    rename_i idx
    simp only [Bool.and_eq_true, Bool.or_eq_true, decide_eq_true_eq, Bool.not_eq_true', hmm] at hq
    obtain ⟨⟨⟨⟨⟨⟨⟨rfl, hck⟩, hsk⟩, hnm⟩, hr7⟩, hcl⟩, hc1⟩, hcls⟩ := hq
    obtain ⟨hm1, hm0, hna, hrt⟩ : mm < 445 ∧ 0 < mm ∧ nn = na mm ∧ mi % 8 = rcode (rn mm) := by
      rcases hck with hck | hck
      · unfold callOK at hck
        simp only [Bool.and_eq_true, decide_eq_true_eq] at hck
        obtain ⟨⟨⟨⟨a, b⟩, c⟩, -⟩, d⟩ := hck
        exact ⟨a, b, c, d⟩
      · unfold nestOK at hck
        simp only [Bool.and_eq_true, decide_eq_true_eq] at hck
        obtain ⟨⟨⟨⟨⟨⟨⟨a, b⟩, c⟩, -⟩, -⟩, -⟩, d⟩, e⟩ := hck
        exact ⟨a, b, c, by rw [d, e]; rfl⟩
    have hO := hOM mm hm0 hm1
    obtain ⟨o1, o2, o3, o4, o5, o6, o7, o8, o9, o10⟩ := om_use hO
    have hrk : rk mm = none := by
      rw [hr7] at o9
      cases hk : rk mm with
      | none => rfl
      | some t => rw [hk] at o9; exact absurd o9 (by unfold rtOK ofTy; simp)
    refine key (own_ k) rfl hm1 hm0 hna hrt (fun al ad H locs cells slots lc sc g h1' hM hf hsc hlc hW => ?_) rfl
    obtain ⟨o, as', rfl, ho, hok⟩ := rcv_use hrc hc1
    rw [hsk] at o8
    rw [hrk] at hM
    have hg' := hgood hO
    rw [hrk] at hg'
    have hro : rng al 3 o := g.2.2.2.1.2 (3, o) (by rw [hst]; simp)
    have e0 : cvv vF ad (3, o) = .ref (ad o) := cv_ref ho (by omega)
    have hpre : PreS s H (PcM fz base H0 hI dC dI vF adS adV bS len byt L xs s ((3, o) :: as') al ad h) (.ref (ad o) :: as'.map (cvv vF ad)) := ⟨PcM_blind, fun U hU hWU => by
      have := pcM_of hst F.hF g U hU hWU
      rw [List.map_cons, e0] at this
      exact this⟩
    have hlen' : (as'.map (cvv vF ad)).length = na mm - 1 := by rw [List.length_map]; rw [List.length_cons] at hlen; omega
    have hstk : (F0 m pc lc sc).stack = (as'.map (cvv vF ad)).reverse ++ .ref (ad o) :: r.map (cvv vF ad) := by show sc = _; rw [hsc, List.map_cons, List.reverse_cons, List.append_assoc, e0]; rfl
    rcases hck with hck | hck
    · unfold callOK at hck
      simp only [Bool.and_eq_true, decide_eq_true_eq] at hck
      have hB := callB_of (R := R) (own := own_ k) (index := idx) (rm := RM d' h h1) (na mm - 1) F.hts hg' rfl rfl rfl (F.hts _ o2) (F.hts _ (wrd_big hck.1.2 (gw_methodLink _ _ _))) ⟨o7.1, o7.2, o8⟩ (hroom hO)
      exact ⟨_, va_runI fix hM ⟨hB, hnm, F.hts _ (o4 hsk)⟩ hpre rfl hlen' hlc hstk hW hdg hf⟩
    · unfold nestOK at hck
      simp only [Bool.and_eq_true, decide_eq_true_eq] at hck
      obtain ⟨⟨⟨⟨⟨⟨⟨-, -⟩, -⟩, n1⟩, n2⟩, n3⟩, -⟩, -⟩ := hck
      have hB := va_cnB (R := R) (own := own_ k) (host := "SchoolHouseModel") (index := idx) (rm := RM d' h h1) (na mm - 1) F.hts hg' rfl rfl rfl (by rw [n1, n2, n3]; exact F.hF.2.2.2.2.2.2.2.1) (F.hts _ o2) ⟨o7.1, o7.2, o8⟩ (hroom hO)
      exact ⟨_, va_runIN fix hM ⟨hB, hnm, F.hts _ (o4 hsk)⟩ hpre rfl hlen' hlc hstk hW hdg hf⟩
  · -- static
    rename_i idx
    unfold callOK at hq
    simp only [Bool.and_eq_true, decide_eq_true_eq, hmm] at hq
    obtain ⟨⟨⟨rfl, ⟨⟨⟨⟨hm1, hm0⟩, hna⟩, hlk⟩, hrt⟩⟩, hsk⟩, hc0⟩ := hq
    have hO := hOM mm hm0 hm1
    obtain ⟨o1, o2, o3, o4, o5, o6, o7, o8, o9, o10⟩ := om_use hO
    refine key (own_ k) rfl hm1 hm0 hna hrt (fun al ad H locs cells slots lc sc g h1' hM hf hsc hlc hW => ?_) rfl
    rw [hsk] at o8
    have hB := callB_of (R := R) (own := own_ k) (index := idx) (rm := RM d' h h1) (na mm) F.hts (hgood hO) rfl rfl rfl (F.hts _ o2) (F.hts _ (wrd_big hlk (gw_methodLink _ _ _))) ⟨o7.1, o7.2, o8⟩ (hroom hO)
    exact ⟨_, va_runS (As := as.map (cvv vF ad)) fix hM ⟨hB, F.hts _ (o3 hsk)⟩ ⟨PcM_blind, fun U hU hWU => pcM_of hst F.hF g U hU hWU⟩ rfl (by rw [List.length_map]; omega) hlc hsc hW hdg hf⟩
  · cases hq
end KC2
