/-! THE PURE SIDE, 9: two runs side by side -/
/-- two programs that both end, with Q of both ends -/
def R2 (a b : (Int → HV → Prop) → Prop) (Q : Int → HV → Int → HV → Prop) : Prop := ∃ x h y h', (∀ P : Int → HV → Prop, P x h → a P) ∧ (∀ P : Int → HV → Prop, P y h' → b P) ∧ Q x h y h'
theorem R2.imp {a b : (Int → HV → Prop) → Prop} {Q Q' : Int → HV → Int → HV → Prop} (g : R2 a b Q) (hq : ∀ x h y h', Q x h y h' → Q' x h y h') : R2 a b Q' := by
  obtain ⟨x, h, y, h', e1, e2, q⟩ := g
  exact ⟨x, h, y, h', e1, e2, hq _ _ _ _ q⟩
theorem R2_fin {x y : Int} {h h' : HV} {Q : Int → HV → Int → HV → Prop} (q : Q x h y h') : R2 (fun P => P x h) (fun P => P y h') Q := ⟨x, h, y, h', fun _ p => p, fun _ p => p, q⟩
section LR
variable {fz : Int → Int → Option Int} {d k b m : Nat} {ls st as : List AV} {h : HV} {a a1 a2 c : (Int → HV → Prop) → Prop} {p : Prop} {Q : Int → HV → Int → HV → Prop}
theorem R2_inL (g : R2 (fun P => X fz d k P (blk k b) ls st h) c Q) : R2 (fun P => G fz d k b ls st h P) c Q := by
  obtain ⟨x, h1, y, h2, e1, e2, q⟩ := g
  exact ⟨x, h1, y, h2, fun P p => G_in (e1 P p), e2, q⟩
theorem R2_inR (g : R2 c (fun P => X fz d k P (blk k b) ls st h) Q) : R2 c (fun P => G fz d k b ls st h P) Q := by
  obtain ⟨x, h1, y, h2, e1, e2, q⟩ := g
  exact ⟨x, h1, y, h2, e1, fun P p => G_in (e2 P p), q⟩
theorem R2_spL (g : R2 (fun P => X fz d m P (blk m 0) (ent m as) [] h) c Q) : R2 (fun P => Sp fz d m as h P) c Q := R2_inL g
theorem R2_spR (g : R2 c (fun P => X fz d m P (blk m 0) (ent m as) [] h) Q) : R2 c (fun P => Sp fz d m as h P) Q := R2_inR g
theorem R2_aL (hp : p) (g : R2 a c Q) : R2 (fun P => p ∧ a P) c Q := by
  obtain ⟨x, h1, y, h2, e1, e2, q⟩ := g
  exact ⟨x, h1, y, h2, fun P w => ⟨hp, e1 P w⟩, e2, q⟩
theorem R2_aR (hp : p) (g : R2 c a Q) : R2 c (fun P => p ∧ a P) Q := by
  obtain ⟨x, h1, y, h2, e1, e2, q⟩ := g
  exact ⟨x, h1, y, h2, e1, fun P w => ⟨hp, e2 P w⟩, q⟩
theorem R2_bL (g1 : p → R2 a1 c Q) (g2 : ¬ p → R2 a2 c Q) : R2 (fun P => (p → a1 P) ∧ (¬ p → a2 P)) c Q := by
  by_cases hp : p
  · obtain ⟨x, h1, y, h2, e1, e2, q⟩ := g1 hp
    exact ⟨x, h1, y, h2, fun P w => ⟨fun _ => e1 P w, fun n => (n hp).elim⟩, e2, q⟩
  · obtain ⟨x, h1, y, h2, e1, e2, q⟩ := g2 hp
    exact ⟨x, h1, y, h2, fun P w => ⟨fun n => (hp n).elim, fun _ => e1 P w⟩, e2, q⟩
theorem R2_bR (g1 : p → R2 c a1 Q) (g2 : ¬ p → R2 c a2 Q) : R2 c (fun P => (p → a1 P) ∧ (¬ p → a2 P)) Q := by
  by_cases hp : p
  · obtain ⟨x, h1, y, h2, e1, e2, q⟩ := g1 hp
    exact ⟨x, h1, y, h2, e1, fun P w => ⟨fun _ => e2 P w, fun n => (n hp).elim⟩, q⟩
  · obtain ⟨x, h1, y, h2, e1, e2, q⟩ := g2 hp
    exact ⟨x, h1, y, h2, e1, fun P w => ⟨fun n => (hp n).elim, fun _ => e2 P w⟩, q⟩
theorem R2_nbL (g1 : ¬ p → R2 a1 c Q) (g2 : p → R2 a2 c Q) : R2 (fun P => (¬ p → a1 P) ∧ (p → a2 P)) c Q := by
  by_cases hp : p
  · obtain ⟨x, h1, y, h2, e1, e2, q⟩ := g2 hp
    exact ⟨x, h1, y, h2, fun P w => ⟨fun n => (n hp).elim, fun _ => e1 P w⟩, e2, q⟩
  · obtain ⟨x, h1, y, h2, e1, e2, q⟩ := g1 hp
    exact ⟨x, h1, y, h2, fun P w => ⟨fun _ => e1 P w, fun n => (hp n).elim⟩, e2, q⟩
theorem R2_nbR (g1 : ¬ p → R2 c a1 Q) (g2 : p → R2 c a2 Q) : R2 c (fun P => (¬ p → a1 P) ∧ (p → a2 P)) Q := by
  by_cases hp : p
  · obtain ⟨x, h1, y, h2, e1, e2, q⟩ := g2 hp
    exact ⟨x, h1, y, h2, e1, fun P w => ⟨fun n => (n hp).elim, fun _ => e2 P w⟩, q⟩
  · obtain ⟨x, h1, y, h2, e1, e2, q⟩ := g1 hp
    exact ⟨x, h1, y, h2, e1, fun P w => ⟨fun _ => e2 P w, fun n => (hp n).elim⟩, q⟩
/-- a call on one side, by what is known of it -/
theorem R2_cL {K : (Int → HV → Prop) → Int → HV → Prop} (g : Sp fz d m as h (fun x h' => R2 (fun P => K P x h') c Q)) : R2 (fun P => Sp fz d m as h (K P)) c Q := by
  obtain ⟨n, r, h1, e, g⟩ := g
  obtain ⟨x, h2, y, h3, e1, e2, q⟩ := g
  exact ⟨x, h2, y, h3, fun P w => ⟨n, r, h1, e, e1 P w⟩, e2, q⟩
theorem R2_cR {K : (Int → HV → Prop) → Int → HV → Prop} (g : Sp fz d m as h (fun x h' => R2 c (fun P => K P x h') Q)) : R2 c (fun P => Sp fz d m as h (K P)) Q := by
  obtain ⟨n, r, h1, e, g⟩ := g
  obtain ⟨x, h2, y, h3, e1, e2, q⟩ := g
  exact ⟨x, h2, y, h3, e1, fun P w => ⟨n, r, h1, e, e2 P w⟩, q⟩
theorem R2_gL {K : (Int → HV → Prop) → Int → HV → Prop} (g : G fz d k b ls st h (fun x h' => R2 (fun P => K P x h') c Q)) : R2 (fun P => G fz d k b ls st h (K P)) c Q := by
  obtain ⟨n, r, h1, e, g⟩ := g
  obtain ⟨x, h2, y, h3, e1, e2, q⟩ := g
  exact ⟨x, h2, y, h3, fun P w => ⟨n, r, h1, e, e1 P w⟩, e2, q⟩
theorem R2_gR {K : (Int → HV → Prop) → Int → HV → Prop} (g : G fz d k b ls st h (fun x h' => R2 c (fun P => K P x h') Q)) : R2 c (fun P => G fz d k b ls st h (K P)) Q := by
  obtain ⟨n, r, h1, e, g⟩ := g
  obtain ⟨x, h2, y, h3, e1, e2, q⟩ := g
  exact ⟨x, h2, y, h3, e1, fun P w => ⟨n, r, h1, e, e2 P w⟩, q⟩
end LR
/-- a call on both sides -/
theorem R2_cc {fz fz' : Int → Int → Option Int} {d d' m m' : Nat} {as as' : List AV} {h h' : HV} {K K' : (Int → HV → Prop) → Int → HV → Prop} {Q1 Q : Int → HV → Int → HV → Prop} (g : R2 (fun P => Sp fz d m as h P) (fun P => Sp fz' d' m' as' h' P) Q1) (hk : ∀ x h1 y h2, Q1 x h1 y h2 → R2 (fun P => K P x h1) (fun P => K' P y h2) Q) : R2 (fun P => Sp fz d m as h (K P)) (fun P => Sp fz' d' m' as' h' (K' P)) Q := by
  obtain ⟨x, h1, y, h2, e1, e2, q⟩ := g
  obtain ⟨x', h1', y', h2', f1, f2, r⟩ := hk _ _ _ _ q
  exact ⟨x', h1', y', h2', fun P w => e1 _ (f1 P w), fun P w => e2 _ (f2 P w), r⟩
theorem runM_det {fz : Int → Int → Option Int} {n n' d k b : Nat} {ls st : List AV} {h : HV} {x y : Int × HV} (e : runM fz n d k b ls st h = some x) (e' : runM fz n' d k b ls st h = some y) : x = y := by
  have h1 := runM_le (Nat.le_max_left n n') e
  have h2 := runM_le (Nat.le_max_right n n') e'
  exact Option.some.inj (h1.symm.trans h2)
theorem Sp_det {fz : Int → Int → Option Int} {d m : Nat} {as : List AV} {h h1 h2 : HV} {x y : Int} (g : Sp fz d m as h (fun a b => a = x ∧ b = h1)) (g' : Sp fz d m as h (fun a b => a = y ∧ b = h2)) : x = y ∧ h1 = h2 := by
  obtain ⟨n, r, h', e, rfl, rfl⟩ := g
  obtain ⟨n', r', h'', e', rfl, rfl⟩ := g'
  have := runM_det e e'
  exact ⟨congrArg Prod.fst this, congrArg Prod.snd this⟩
/-- both one behind the other: the second one is run where the first one has come to -/
theorem R2_seq {fz : Int → Int → Option Int} {d m d' m' : Nat} {as as' : List AV} {h : HV} {S : HV → HV → Prop} {Q : HV → Int → HV → Int → HV → Prop} {P : Int → HV → Int → HV → Prop}
    (hS : S h h) (L : ∀ hr, S h hr → R2 (fun P => Sp fz d m as h P) (fun P => Sp fz d' m' as' hr P) (Q hr)) (hk : ∀ x h1 y h2, Q h x h1 y h2 → S h h1) (hP : ∀ x h1 y h2, Q h1 x h1 y h2 → P x h1 y h2) : Sp fz d m as h (fun x h1 => Sp fz d' m' as' h1 (fun y h2 => P x h1 y h2)) := by
  obtain ⟨x, h1, y, h2, e1, -, q⟩ := L h hS
  obtain ⟨x', h1', y', h2', f1, f2, r⟩ := L h1 (hk _ _ _ _ q)
  obtain ⟨rfl, rfl⟩ := Sp_det (e1 _ ⟨rfl, rfl⟩) (f1 _ ⟨rfl, rfl⟩)
  exact e1 _ (f2 _ (hP _ _ _ _ r))
