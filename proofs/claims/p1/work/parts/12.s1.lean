/-! SOUNDNESS, 1: what an abstract heap is on the machine -/
def BIG : List Jvm.Cond := lw_tbl.filter goodWord
theorem BIG_lw : lw_tbl = BIGc.flatten := by
  unfold lw_tbl BIGc tables_1
  simp only [List.flatten_cons, List.flatten_nil, List.append_nil]
theorem wrd_in {h : Nat × Nat} {w : Jvm.Cond} (hw : wrd h = some w) : w ∈ lw_tbl := by
  unfold wrd at hw
  rw [Option.bind_eq_some_iff] at hw
  obtain ⟨L, h1, h2⟩ := hw
  rw [BIG_lw, List.mem_flatten]
  exact ⟨L, List.mem_of_getElem? h1, List.mem_of_getElem? h2⟩
theorem wrd_big {h : Nat × Nat} {w : Jvm.Cond} (hw : wrd h = some w) (hg : goodWord w = true) : w ∈ BIG := List.mem_filter.mpr ⟨wrd_in hw, hg⟩
theorem BIG_good {ws : List Jvm.Cond} (h : ∀ w ∈ ws, w ∈ BIG) : GoodIn BIG ws := fun w hw => ⟨h w hw, good_of_word (List.mem_filter.mp (h w hw)).2⟩
def sid (j : Nat) : Int := -64 * (2 * (j : Int) + 1) + 13
def bid (j : Nat) : Int := -64 * (2 * (j : Int) + 2) + 51
def cv (vF : Value) (ad : Int → Nat) (t : Nat) (x : Int) : Value := match t with
  | 0 => .int (Int32.ofInt x)
  | 1 => .long (Int64.ofInt x)
  | 2 => .double (d_U x)
  | _ => if x = 0 then .null else if x = 62 then vF else .ref (ad x)
def rng (al : Int → Prop) (t : Nat) (x : Int) : Prop := match t with
  | 0 => -2147483648 ≤ x ∧ x ≤ 2147483647
  | 1 => -9223372036854775808 ≤ x ∧ x ≤ 9223372036854775807
  | 2 => -9223372036854775808 ≤ x ∧ x ≤ 9223372036854775807
  | 3 => x = 0 ∨ x = 62 ∨ al x
  | _ => False
def aT (kd : Int) : Nat := if kd = 33 then 1 else if kd = 34 then 2 else if kd = 37 then 3 else if kd = 38 then 3 else 0
def aF (kd : Int) : FieldType := if kd = 32 then .int else if kd = 33 then .long else if kd = 34 then .double else if kd = 35 then .byte else if kd = 36 then .boolean else if kd = 37 then .array .long else .object "java/lang/String"
/-- what the constants freeze -/
def FZ (fz : Int → Int → Option Int) : Prop := (∀ o i : Int, 0 ≤ i → (32 ≤ o % 64 ∧ o % 64 ≤ 36) → fz o i = none) ∧ (∀ (o : Int) (j : Nat), 0 ≤ o % 64 → o % 64 < 13 → (cF (o % 64).toNat j).2.2.2 = false → fz o j = none) ∧ ∀ o i : Int, o < 64 → fz o i = none
section SIM
variable (fz : Int → Int → Option Int) (base : Nat) (H0 : Heap) (hI : HV) (dC : Nat → ClassId) (dI : Nat → Nat → Nat) (vF : Value)
/-- a made object or array, as the machine has it -/
def SmW (U : State) (al : Int → Prop) (ad : Int → Nat) (h : HV) (H : Heap) (o : Int) : Prop :=
  (o % 64 < 13 → t_OB (ad o) (dC (o % 64).toNat) (cN (o % 64).toNat) (dI (o % 64).toNat) H (fun j => cv vF ad (tg (fT (o % 64).toNat j)) (rd fz h o j)) ∧ ∀ j : Nat, j < cN (o % 64).toNat → rng al (tg (fT (o % 64).toNat j)) (rd fz h o j)) ∧
  (32 ≤ o % 64 → 0 ≤ rd fz h o (-1) ∧ rd fz h o (-1) < 2147483648 ∧ (∀ j : Nat, (j : Int) < rd fz h o (-1) → rng al (aT (o % 64)) (rd fz h o j)) ∧ ∃ cA : ClassId, H[ad o]? = some (arrV cA (rd fz h o (-1)).toNat (fun j => cv vF ad (aT (o % 64)) (rd fz h o j))) ∧ ArrOfT U cA (aF (o % 64)) ∧ va_RA U cA (aF (o % 64)))
def Sm (U : State) (al : Int → Prop) (ad : Int → Nat) (adS adV : Nat → Nat) (bS : Nat) (h : HV) (H : Heap) : Prop :=
  (base ≤ H.size ∧ ∀ q, q < base → H[q]? = H0[q]?) ∧
  (∀ o, al o → 64 ≤ o → SmW fz dC dI vF U al ad h H o ∧ base ≤ ad o ∧ ad o < H.size ∧ o / 64 < h 0 0 ∧ (o % 64 < 13 ∨ (32 ≤ o % 64 ∧ o % 64 ≤ 38))) ∧
  (∀ o o', al o → al o' → 64 ≤ o → 64 ≤ o' → ad o = ad o' → o = o') ∧
  (∀ o, al o → o < 64 → o = 50 ∨ ∃ j, j < 48 ∧ (o = sid j ∨ o = bid j)) ∧
  (∀ j, j < 48 → al (sid j) ∧ ad (sid j) = adS j ∧ al (bid j) ∧ ad (bid j) = adV j) ∧ (al 50 ∧ ad 50 = bS) ∧
  (∀ o, o < 64 → o ≠ 0 → h o = hI o) ∧ 1 ≤ h 0 0
end SIM
theorem cv_same {vF : Value} {al : Int → Prop} {ad ad' : Int → Nat} (he : ∀ o, al o → ad' o = ad o) {t : Nat} {x : Int} (hr : rng al t x) : cv vF ad' t x = cv vF ad t x := by
  match t, hr with
  | 0, _ => rfl
  | 1, _ => rfl
  | 2, _ => rfl
  | 3, hr =>
    show (if x = 0 then Value.null else if x = 62 then vF else .ref (ad' x)) = (if x = 0 then Value.null else if x = 62 then vF else .ref (ad x))
    by_cases h0 : x = 0
    · rw [if_pos h0, if_pos h0]
    · rw [if_neg h0, if_neg h0]
      by_cases h1 : x = 62
      · rw [if_pos h1, if_pos h1]
      · rw [if_neg h1, if_neg h1, he x (by rcases hr with h | h | h
                                           · exact absurd h h0
                                           · exact absurd h h1
                                           · exact h)]
theorem rng_mono {al al' : Int → Prop} (he : ∀ o, al o → al' o) {t : Nat} {x : Int} (hr : rng al t x) : rng al' t x := by
  match t, hr with
  | 0, hr => exact hr
  | 1, hr => exact hr
  | 2, hr => exact hr
  | 3, hr =>
    rcases hr with h | h | h
    · exact Or.inl h
    · exact Or.inr (Or.inl h)
    · exact Or.inr (Or.inr (he _ h))
theorem rd_congr {fz : Int → Int → Option Int} {h h' : HV} {o : Int} (e : h' o = h o) (i : Int) : rd fz h' o i = rd fz h o i := by
  unfold rd
  cases fz o i with
  | some v => rfl
  | none => exact congrFun e i
theorem arrV_cg {cA : ClassId} {n : Nat} {f g : Nat → Value} (h : ∀ j, j < n → f j = g j) : arrV cA n f = arrV cA n g := by
  show ({ cls := cA, slots := Array.ofFn (n := n) fun j => f j.val, vm := .none } : Cell) = { cls := cA, slots := Array.ofFn (n := n) fun j => g j.val, vm := .none }
  rw [show (fun j : Fin n => f j.val) = (fun j : Fin n => g j.val) from funext fun j => h j.val j.isLt]
section SIM2
variable {fz : Int → Int → Option Int} {base : Nat} {H0 : Heap} {hI : HV} {dC : Nat → ClassId} {dI : Nat → Nat → Nat} {vF : Value}
theorem SmW.cg {U : State} {al al' : Int → Prop} {ad ad' : Int → Nat} {h h' : HV} {H H' : Heap} {o : Int} (g : SmW fz dC dI vF U al ad h H o) (hal : ∀ x, al x → al' x) (he : ∀ x, al x → ad' x = ad x) (ho : ad' o = ad o) (eh : h' o = h o) (eH : H'[ad o]? = H[ad o]?) : SmW fz dC dI vF U al' ad' h' H' o := by
  refine ⟨fun hk => ?_, fun hk => ?_⟩
  · obtain ⟨g1, g2⟩ := g.1 hk
    rw [ho]
    refine ⟨(g1.kept eH).to (fun j hj => ?_), fun j hj => ?_⟩
    · rw [rd_congr eh, cv_same he (g2 j hj)]
    · rw [rd_congr eh]; exact rng_mono hal (g2 j hj)
  · obtain ⟨g1, g2, g3, cA, g4, g5, g6⟩ := g.2 hk
    rw [ho, rd_congr eh]
    refine ⟨g1, g2, fun j hj => ?_, cA, ?_, g5, g6⟩
    · rw [rd_congr eh]; exact rng_mono hal (g3 j hj)
    · rw [eH, g4]
      exact congrArg some (arrV_cg fun j hj => by rw [rd_congr eh, cv_same he (g3 j (by omega))])
theorem SmW.moved {u U : State} (hvm : u.vm.Alike U.vm) {al : Int → Prop} {ad : Int → Nat} {h : HV} {H : Heap} {o : Int} (g : SmW fz dC dI vF u al ad h H o) : SmW fz dC dI vF U al ad h H o := by
  refine ⟨g.1, fun hk => ?_⟩
  obtain ⟨g1, g2, g3, cA, g4, g5, g6⟩ := g.2 hk
  exact ⟨g1, g2, g3, cA, g4, arrOfT_moved hvm g5, g6.moved hvm⟩
theorem Sm.moved {u U : State} (hvm : u.vm.Alike U.vm) {al : Int → Prop} {ad : Int → Nat} {adS adV : Nat → Nat} {bS : Nat} {h : HV} {H : Heap} (g : Sm fz base H0 hI dC dI vF u al ad adS adV bS h H) : Sm fz base H0 hI dC dI vF U al ad adS adV bS h H := by
  obtain ⟨g1, g2, g3⟩ := g
  exact ⟨g1, fun o h1 h2 => ⟨(g2 o h1 h2).1.moved hvm, (g2 o h1 h2).2⟩, g3⟩
/-- one made cell is written -/
theorem Sm.put {U : State} {al : Int → Prop} {ad : Int → Nat} {adS adV : Nat → Nat} {bS : Nat} {h h' : HV} {H H' : Heap} {o : Int} (g : Sm fz base H0 hI dC dI vF U al ad adS adV bS h H) (hao : al o) (ho : 64 ≤ o) (ez : H'.size = H.size) (eo : ∀ q, q ≠ ad o → H'[q]? = H[q]?) (eh : ∀ x, x ≠ o → h' x = h x) (hw : SmW fz dC dI vF U al ad h' H' o) : Sm fz base H0 hI dC dI vF U al ad adS adV bS h' H' := by
  obtain ⟨⟨a1, a2⟩, a3, a4, a5, a6, a7, a8, a9⟩ := g
  have hb := (a3 o hao ho).2.1
  have h0 : h' 0 = h 0 := eh 0 (by omega)
  refine ⟨⟨by rw [ez]; exact a1, fun q hq => (eo q (by omega)).trans (a2 q hq)⟩, fun x hx h64 => ?_, a4, a5, a6, a7, fun x hx hne => (eh x (by omega)).trans (a8 x hx hne), by rw [h0]; exact a9⟩
  obtain ⟨b1, b2, b3, b4, b5⟩ := a3 x hx h64
  refine ⟨?_, b2, by rw [ez]; exact b3, by rw [h0]; exact b4, b5⟩
  by_cases e : x = o
  · rw [e]; exact hw
  · exact b1.cg (fun _ q => q) (fun _ _ => rfl) rfl (eh x e) (eo _ (fun q => e (a4 x o hx hao h64 ho q)))
/-- a cell is made -/
theorem Sm.add {U : State} {al : Int → Prop} {ad : Int → Nat} {adS adV : Nat → Nat} {bS : Nat} {h h' : HV} {H H' : Heap} {o : Int} (g : Sm fz base H0 hI dC dI vF U al ad adS adV bS h H) (ho : 64 * h 0 0 ≤ o) (hkd : o % 64 < 13 ∨ (32 ≤ o % 64 ∧ o % 64 ≤ 38)) (ez : H'.size = H.size + 1) (eo : ∀ q, q < H.size → H'[q]? = H[q]?) (eh : ∀ x, x ≠ o → x ≠ 0 → h' x = h x) (e0 : h 0 0 ≤ h' 0 0) (e1 : o / 64 < h' 0 0)
    (hw : SmW fz dC dI vF U (fun x => al x ∨ x = o) (fun x => if x = o then H.size else ad x) h' H' o) : Sm fz base H0 hI dC dI vF U (fun x => al x ∨ x = o) (fun x => if x = o then H.size else ad x) adS adV bS h' H' ∧ ¬ al o := by
  obtain ⟨⟨a1, a2⟩, a3, a4, a5, a6, a7, a8, a9⟩ := g
  have hno : ¬ al o := fun q => by
    by_cases h64 : 64 ≤ o
    · have := (a3 o q h64).2.2.2.1; omega
    · omega
  have hne : ∀ x, al x → x ≠ o := fun x hx e => hno (e ▸ hx)
  have hif : ∀ x, x ≠ o → (fun x => if x = o then H.size else ad x) x = ad x := fun x hx => if_neg hx
  have hso : (fun x => if x = o then H.size else ad x) o = H.size := if_pos rfl
  refine ⟨⟨⟨by omega, fun q hq => (eo q (by omega)).trans (a2 q hq)⟩, fun x hx h64 => ?_, fun x y hx hy h1 h2 e => ?_, fun x hx h64 => ?_, fun j hj => ?_, ⟨Or.inl a7.1, ?_⟩, fun x hx hx0 => (eh x (by omega) hx0).trans (a8 x hx hx0), by omega⟩, hno⟩
  · by_cases e : x = o
    · rw [e]
      exact ⟨hw, by rw [hso]; exact a1, by rw [hso]; omega, e1, hkd⟩
    · have hx' : al x := hx.resolve_right e
      obtain ⟨b1, b2, b3, b4, b5⟩ := a3 x hx' h64
      rw [hif x e]
      exact ⟨b1.cg (fun _ q => Or.inl q) (fun y hy => hif y (hne y hy)) (hif x e) (eh x e (by omega)) (eo _ b3), b2, by omega, by omega, b5⟩
  · by_cases ex : x = o
    · by_cases ey : y = o
      · rw [ex, ey]
      · rw [ex, hso, hif y ey] at e
        have := (a3 y (hy.resolve_right ey) h2).2.2.1
        omega
    · by_cases ey : y = o
      · rw [ey, hso, hif x ex] at e
        have := (a3 x (hx.resolve_right ex) h1).2.2.1
        omega
      · rw [hif x ex, hif y ey] at e
        exact a4 x y (hx.resolve_right ex) (hy.resolve_right ey) h1 h2 e
  · rcases hx with hx | hx
    · exact a5 x hx h64
    · omega
  · obtain ⟨c1, c2, c3, c4⟩ := a6 j hj
    exact ⟨Or.inl c1, by rw [hif _ (hne _ c1)]; exact c2, Or.inl c3, by rw [hif _ (hne _ c3)]; exact c4⟩
  · rw [hif _ (hne _ a7.1)]; exact a7.2
end SIM2
