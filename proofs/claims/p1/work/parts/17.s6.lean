/-! SOUNDNESS, 6: heap instructions -/
section KH
variable {p : Program} {l : Launch} {e : Env} {R : Room} {s : State} {m : MethodId} {args : Array Value} {below : List Frame} {meth : Method} {c : Code} {Q : State → Prop}
variable {fz : Int → Int → Option Int} {base : Nat} {H0 : Heap} {hI : HV} {dC : Nat → ClassId} {dI : Nat → Nat → Nat} {vF : Value} {adS adV : Nat → Nat} {bS : Nat} {hE : HV} {al0 : Int → Prop} {ad0 : Int → Nat}
variable {len : List Nat} {byt : List (List Int32)} {L : Nat} {xs : Nat → Int32}
variable {cc : ByteArray} {pc : Nat} {ls st : List AV} {h : HV} {x y : Int}
/-- the frame's state with another heap -/
theorem ST.heap {al : Int → Prop} {ad : Int → Nat} {h' : HV} {H H' : Heap} {locs locs' : List Loc} {cells slots : Nat} {lc : Array Slot} {sc : List Value} (g : ST fz base H0 hI dC dI vF adS adV bS s R hE al0 ad0 al ad h H locs cells slots ls st lc sc) (hS : Sm fz base H0 hI dC dI vF s al ad adS adV bS h' H') (h0 : h' 0 = h 0) (hl : ∀ q ∈ locs', base ≤ q.base) : ST fz base H0 hI dC dI vF adS adV bS s R hE al0 ad0 al ad h' H' locs' cells slots ls st lc sc := by
  obtain ⟨g1, g2, g3, g4, g5, g6, g7⟩ := g
  exact ⟨hS, g2, g3, g4, hl, by rw [h0]; exact g6, by rw [h0]; exact g7⟩
theorem locs_add {locs : List Loc} {a i : Nat} (h : ∀ q ∈ locs, base ≤ q.base) (ha : base ≤ a) : ∀ q ∈ locs ++ [(⟨a, i⟩ : Loc)], base ≤ q.base := by
  intro q hq
  rcases List.mem_append.mp hq with hq | hq
  · exact h q hq
  · rw [List.mem_singleton] at hq
    subst hq
    exact ha
theorem k_getf (hx : p.tables.exec = Jvm.exec) (hb : c.code = cc) {own : String} {index : Nat} (hown : s.vm.findClass own = some m.cls) (hts : ∀ w ∈ BIG, w.before args s = true) (hF : FA base H0 dC dI vF adS adV bS len byt L xs s) {cn j : Nat} (hcn : cn < 13) (hj : j < cN cn) {t : Nat} (ht : fT cn j = t) (hw : Jvm.Cond.fieldLink own index (cF cn j).1 (cF cn j).2.1 (cF cn j).2.2.1 ∈ BIG) {o v : Int} (h0 : o ≠ 0) (hk : o % 64 = cn) (hv : rd fz h o j = v) (hdg : decode cc pc = .ok (.getfield index, 3))
    (kk : Kn p l e R s m args below meth c Q (ST fz base H0 hI dC dI vF adS adV bS s R hE al0 ad0) (pc + 3) ls ((tg t, v) :: st) h) : Kn p l e R s m args below meth c Q (ST fz base H0 hI dC dI vF adS adV bS s R hE al0 ad0) pc ls ((3, o) :: st) h := by
  intro al ad H locs cells slots lc sc g
  obtain ⟨sc1, rfl, r1, g1⟩ := g.pop
  obtain ⟨ha, h64, h62⟩ := g1.1.obj r1 h0 (by omega)
  obtain ⟨q1, q2⟩ := (g1.1.2.1 o ha h64).1.1 (by omega)
  have hcn' : (o % 64).toNat = cn := by omega
  rw [hcn'] at q1 q2
  obtain ⟨cell, c1, c2, c3, c4⟩ := q1
  obtain ⟨hS, hfc, kC, hkC, hkind⟩ := hF.1 cn hcn
  obtain ⟨cf, kf, fi, f, hi, hsl⟩ := hS j hj
  have e0 : cvv vF ad (3, o) = .ref (ad o) := cv_ref h0 h62
  rw [e0]
  refine W.getf hx hb hown (hts _ hw) hi (u_facts hfc hkC (u_lays hts (FS3 cn hcn) hj) hi).1 c1 (by rw [c3]; exact fun h => by cases h) (v := cvv vF ad (tg t, v)) ?_ rfl rfl hdg (kk _ _ _ _ _ _ _ _ (g1.push (v := (tg t, v)) ?_))
  · rw [hsl, c4 j hj]
    show some (cv vF ad (tg (fT cn j)) (rd fz h o j)) = _
    rw [ht, hv]
  · have := q2 j hj
    rw [ht, hv] at this
    exact this
theorem k_putf (hx : p.tables.exec = Jvm.exec) (hb : c.code = cc) (hvF : vF = .null ∨ ∃ a, vF = .ref a) {own : String} {index : Nat} (hown : s.vm.findClass own = some m.cls) (hts : ∀ w ∈ BIG, w.before args s = true) (hF : FA base H0 dC dI vF adS adV bS len byt L xs s) {cn j : Nat} (hcn : cn < 13) (hj : j < cN cn) {t : Nat} (ht : fT cn j = t) (hw : Jvm.Cond.fieldLink own index (cF cn j).1 (cF cn j).2.1 (cF cn j).2.2.1 ∈ BIG) {o v : Int} (h0 : o ≠ 0) (hk : o % 64 = cn) (hfit : fitI t v) (hz : fz o j = none) (hfin : (cF cn j).2.2.2 = false ∨ (meth.name = "<init>" ∧ own = cR cn)) (hdg : decode cc pc = .ok (.putfield index, 3))
    (kk : Kn p l e R s m args below meth c Q (ST fz base H0 hI dC dI vF adS adV bS s R hE al0 ad0) (pc + 3) ls st (hset h o j v)) : Kn p l e R s m args below meth c Q (ST fz base H0 hI dC dI vF adS adV bS s R hE al0 ad0) pc ls ((tg t, v) :: (3, o) :: st) h := by
  intro al ad H locs cells slots lc sc g
  obtain ⟨sc1, rfl, r1, g1⟩ := g.pop
  obtain ⟨sc2, rfl, r2, g2⟩ := g1.pop
  obtain ⟨ha, h64, h62⟩ := g2.1.obj r2 h0 (by omega)
  obtain ⟨hsw, hba, -⟩ := g2.1.2.1 o ha h64
  obtain ⟨q1, q2⟩ := hsw.1 (by omega)
  have hcn' : (o % 64).toNat = cn := by omega
  rw [hcn'] at q1 q2
  obtain ⟨cell, c1, c2, c3, c4⟩ := q1
  obtain ⟨hS, hfc, kC, hkC, hkind⟩ := hF.1 cn hcn
  obtain ⟨cf, kf, fi, f, hi, hsl⟩ := hS j hj
  have e0 : cvv vF ad (3, o) = .ref (ad o) := cv_ref h0 h62
  rw [e0]
  have hpo := put_ok (ad := ad) (al := al) hvF (t := t) (x := v) (by rw [← ht]; exact FS6 cn hcn j hj) hfit r1
  have hlay := u_lays hts (FS3 cn hcn) hj
  have hst := (u_facts hfc hkC hlay hi).1
  have hap : ∀ a b, a < cN cn → b < cN cn → a ≠ b → dI cn a ≠ dI cn b := by
    intro a b ha hb hne
    obtain ⟨_, _, _, fa, hia, ea⟩ := hS a ha
    obtain ⟨_, _, _, fb, hib, eb⟩ := hS b hb
    rw [← ea, ← eb]
    refine u_apart (u_lays hts (FS3 cn hcn) ha) (u_lays hts (FS3 cn hcn) hb) hia hib ?_
    rw [(State.fieldFound?_type hia (FS1 cn hcn a ha)).1, (State.fieldFound?_type hib (FS1 cn hcn b hb)).1]
    exact FS2 cn hcn a ha b hb hne
  have hend : ∀ H' : Heap, H'[ad o]? = some (cell.setSlot f.slot (cvv vF ad (tg t, v))) → H'.size = H.size → (∀ q, q ≠ ad o → H'[q]? = H[q]?) → W p l e R s m args below meth c H' (locs ++ [⟨ad o, f.slot⟩]) cells slots Q (F0 m (pc + 3) lc sc2) := by
    intro H' e1 e2 e3
    refine kk _ _ _ _ _ _ _ _ (g2.heap (g2.1.put ha h64 e2 e3 (fun z hz' => hset_ne hz') ⟨fun _ => ?_, fun h32 => by omega⟩) (hset_ne (by omega)) (locs_add g2.2.2.2.2.1 hba))
    rw [hcn']
    rw [hsl] at e1
    refine ⟨t_OB.to (V := updV (fun j => cv vF ad (tg (fT cn j)) (rd fz h o j)) j (cvv vF ad (tg t, v))) ⟨_, e1, c2, c3, t_set c4 hap hj _⟩ (fun i hi => ?_), fun i hi => ?_⟩
    · rw [rd_set hz]
      unfold updV
      by_cases ei : i = j
      · subst ei
        rw [if_pos rfl, if_pos rfl, ht]
      · rw [if_neg ei, if_neg (by omega)]
    · rw [rd_set hz]
      by_cases ei : (i : Int) = j
      · rw [if_pos ei]
        have : i = j := by omega
        rw [this, ht]
        exact r1
      · rw [if_neg ei]; exact q2 i hi
  have hlt : f.slot < cell.slots.size := by rw [hsl]; exact k2_hasslot (c4 j hj)
  rcases Bool.eq_false_or_eq_true (cF cn j).2.2.2 with hf | hf
  · obtain ⟨hin, hox⟩ := hfin.resolve_left (by rw [hf]; decide)
    have hlf : (Jvm.Cond.laysFinal (cR cn) (cF cn j).1 (cF cn j).2.1 (cF cn j).2.2.1).before args s = true := by
      have h1 := hts _ (FS3 cn hcn _ (u_in_lay hj))
      unfold u_lay at h1
      rw [if_pos hf] at h1
      exact h1
    have hcf : m.cls = cf := by
      obtain ⟨_, _, c', _, _, _, -, -, hf', -, -, -, hown2, -⟩ := Cond.laysFinal_spec hlf
      have e1 : c' = cf := by have := hi.symm.trans hf'; simp at this; exact this.1.symm
      rw [FS5 cn hcn j hj, ← hox] at hown2
      rw [← e1]; exact Option.some.inj (hown.symm.trans hown2)
    have h6 := u_fits hfc hkC hkind (Or.inr hlf) hi (FS1 cn hcn j hj) hpo.1 hpo.2
    exact W.putFinK hx hb hown (hts _ hw) hi hst hcf hin (by rw [c2]; exact h6) c1 c3 hlt rfl rfl hdg hend
  · have hlf : (Jvm.Cond.lays (cR cn) (cF cn j).1 (cF cn j).2.1 (cF cn j).2.2.1).before args s = true := by
      have h1 := hts _ (FS3 cn hcn _ (u_in_lay hj))
      unfold u_lay at h1
      rw [if_neg (by rw [hf]; decide)] at h1
      exact h1
    have h6 := u_store hfc hkC hkind hlf hi (FS1 cn hcn j hj) hpo.1 hpo.2
    exact W.putK hx hb (f := f) ⟨hown, hts _ hw, ⟨_, _, _, hi⟩, hst⟩ (by rw [c2]; exact h6) c1 c3 hlt rfl rfl hdg hend
/-- an array that may be read and written: 32 .. 38 -/
theorem ST.ar {al : Int → Prop} {ad : Int → Nat} {H : Heap} {locs : List Loc} {cells slots : Nat} {lc : Array Slot} {sc : List Value} {o i : Int} (g : ST fz base H0 hI dC dI vF adS adV bS s R hE al0 ad0 al ad h H locs cells slots ls st lc sc) (hr : rng al 3 o) (hk : 32 ≤ o % 64) (hk2 : o % 64 ≤ 38) (hi0 : 0 ≤ i) (hi1 : i < rd fz h o (-1)) :
    ∃ cA : ClassId, al o ∧ 64 ≤ o ∧ base ≤ ad o ∧ cv vF ad 3 o = .ref (ad o) ∧ H[ad o]? = some (arrV cA (rd fz h o (-1)).toNat (fun j => cv vF ad (aT (o % 64)) (rd fz h o j))) ∧ ArrOfT s cA (aF (o % 64)) ∧ va_RA s cA (aF (o % 64)) ∧ rd fz h o (-1) < 2147483648 ∧ (Int32.ofInt i).toNatClampNeg = i.toNat ∧
      ¬ (Int32.ofInt i < 0 ∨ (arrV cA (rd fz h o (-1)).toNat (fun j => cv vF ad (aT (o % 64)) (rd fz h o j))).slots.size ≤ (Int32.ofInt i).toNatClampNeg) ∧ (arrV cA (rd fz h o (-1)).toNat (fun j => cv vF ad (aT (o % 64)) (rd fz h o j))).slots[(Int32.ofInt i).toNatClampNeg]? = some (cv vF ad (aT (o % 64)) (rd fz h o i)) ∧ rng al (aT (o % 64)) (rd fz h o i) ∧
      (∀ j : Nat, (j : Int) < rd fz h o (-1) → rng al (aT (o % 64)) (rd fz h o j)) := by
  obtain ⟨ha, h64, h0, h62⟩ := g.1.arr hr hk hk2
  obtain ⟨hsw, hba, -⟩ := g.1.2.1 o ha h64
  obtain ⟨n0, n1, n2, cA, n3, n4, n5⟩ := hsw.2 hk
  obtain ⟨a1, a2, a3⟩ := arr_in (cA := cA) (f := fun j => cv vF ad (aT (o % 64)) (rd fz h o j)) hi0 hi1 n1
  have ei : ((i.toNat : Nat) : Int) = i := by omega
  refine ⟨cA, ha, h64, hba, cv_ref h0 h62, n3, n4, n5, n1, a3, a1, ?_, ?_, n2⟩
  · rw [a2]
    show some (cv vF ad (aT (o % 64)) (rd fz h o ((i.toNat : Nat) : Int))) = _
    rw [ei]
  · have := n2 i.toNat (by omega)
    rw [ei] at this
    exact this
/-- an array behind a store -/
theorem ST.st_ar {al : Int → Prop} {ad : Int → Nat} {H H' : Heap} {locs : List Loc} {cells slots : Nat} {lc : Array Slot} {sc : List Value} {o i v : Int} {cA : ClassId} (g : ST fz base H0 hI dC dI vF adS adV bS s R hE al0 ad0 al ad h H locs cells slots ls st lc sc) (hr : rng al 3 o) (hk : 32 ≤ o % 64) (hk2 : o % 64 ≤ 38) (hi0 : 0 ≤ i) (hi1 : i < rd fz h o (-1)) (hz : fz o i = none) (hv : rng al (aT (o % 64)) v)
    (hcA : H[ad o]? = some (arrV cA (rd fz h o (-1)).toNat (fun j => cv vF ad (aT (o % 64)) (rd fz h o j)))) (hA : ArrOfT s cA (aF (o % 64))) (hRA : va_RA s cA (aF (o % 64)))
    (e1 : H'[ad o]? = some ((arrV cA (rd fz h o (-1)).toNat (fun j => cv vF ad (aT (o % 64)) (rd fz h o j))).setSlot (Int32.ofInt i).toNatClampNeg (cv vF ad (aT (o % 64)) v))) (e2 : H'.size = H.size) (e3 : ∀ q, q ≠ ad o → H'[q]? = H[q]?) :
    ST fz base H0 hI dC dI vF adS adV bS s R hE al0 ad0 al ad (hset h o i v) H' (locs ++ [⟨ad o, (Int32.ofInt i).toNatClampNeg⟩]) cells slots ls st lc sc := by
  obtain ⟨ha, h64, h0, h62⟩ := g.1.arr hr hk hk2
  obtain ⟨hsw, hba, -⟩ := g.1.2.1 o ha h64
  obtain ⟨n0, n1, n2, -⟩ := hsw.2 hk
  have a3 : (Int32.ofInt i).toNatClampNeg = i.toNat := i_clamp hi0 (by omega)
  have hm1 : rd fz (hset h o i v) o (-1) = rd fz h o (-1) := by rw [rd_set hz, if_neg (by omega)]
  refine g.heap (g.1.put ha h64 e2 e3 (fun z hz' => hset_ne hz') ⟨fun h13 => by omega, fun _ => ?_⟩) (hset_ne (by omega)) (locs_add g.2.2.2.2.1 hba)
  rw [hm1]
  refine ⟨n0, n1, fun j hj => ?_, cA, ?_, hA, hRA⟩
  · rw [rd_set hz]
    by_cases ej : (j : Int) = i
    · rw [if_pos ej]; exact hv
    · rw [if_neg ej]; exact n2 j hj
  · rw [e1, arrV_store, a3]
    refine congrArg some (arrV_cg fun j hj => ?_)
    rw [rd_set hz]
    unfold updV
    by_cases ej : j = i.toNat
    · rw [if_pos ej, if_pos (by omega)]
    · rw [if_neg ej, if_neg (by omega)]
theorem k_laload (hx : p.tables.exec = Jvm.exec) (hb : c.code = cc) (hZ : FZ fz) {o i : Int} (hc : o % 64 = 33 ∧ 0 ≤ i ∧ i < rd fz h o (-1)) (hdg : decode cc pc = .ok (.laload, 1)) (kk : Kn p l e R s m args below meth c Q (ST fz base H0 hI dC dI vF adS adV bS s R hE al0 ad0) (pc + 1) ls ((1, h o i) :: st) h) : Kn p l e R s m args below meth c Q (ST fz base H0 hI dC dI vF adS adV bS s R hE al0 ad0) pc ls ((0, i) :: (3, o) :: st) h := by
  intro al ad H locs cells slots lc sc g
  obtain ⟨sc1, rfl, r1, g1⟩ := g.pop
  obtain ⟨sc2, rfl, r2, g2⟩ := g1.pop
  obtain ⟨cA, ha, h64, hba, e0, n3, n4, n5, n6, a3, a1, a2, ri, -⟩ := g2.ar r2 (by omega) (by omega) hc.2.1 hc.2.2
  have hr : rd fz h o i = h o i := by unfold rd; rw [hZ.1 o i hc.2.1 (by omega)]
  rw [hc.1] at a2 ri n4 a1 n3
  rw [hr] at a2 ri
  have e0 : cvv vF ad (3, o) = .ref (ad o) := e0
  rw [e0]
  exact W.lald (v := cvv vF ad (1, h o i)) hx hb n3 (n4 _ _) (fun q => by cases q) a1 a2 rfl rfl hdg (kk _ _ _ _ _ _ _ _ (g2.push (v := (1, h o i)) ri))
theorem k_daload (hx : p.tables.exec = Jvm.exec) (hb : c.code = cc) (hZ : FZ fz) {o i : Int} (hc : o % 64 = 34 ∧ 0 ≤ i ∧ i < rd fz h o (-1)) (hdg : decode cc pc = .ok (.daload, 1)) (kk : Kn p l e R s m args below meth c Q (ST fz base H0 hI dC dI vF adS adV bS s R hE al0 ad0) (pc + 1) ls ((2, h o i) :: st) h) : Kn p l e R s m args below meth c Q (ST fz base H0 hI dC dI vF adS adV bS s R hE al0 ad0) pc ls ((0, i) :: (3, o) :: st) h := by
  intro al ad H locs cells slots lc sc g
  obtain ⟨sc1, rfl, r1, g1⟩ := g.pop
  obtain ⟨sc2, rfl, r2, g2⟩ := g1.pop
  obtain ⟨cA, ha, h64, hba, e0, n3, n4, n5, n6, a3, a1, a2, ri, -⟩ := g2.ar r2 (by omega) (by omega) hc.2.1 hc.2.2
  have hr : rd fz h o i = h o i := by unfold rd; rw [hZ.1 o i hc.2.1 (by omega)]
  rw [hc.1] at a2 ri n4 a1 n3
  rw [hr] at a2 ri
  have e0 : cvv vF ad (3, o) = .ref (ad o) := e0
  rw [e0]
  exact W.dald (v := cvv vF ad (2, h o i)) hx hb n3 (n4 _ _) (fun q => by cases q) a1 a2 rfl rfl hdg (kk _ _ _ _ _ _ _ _ (g2.push (v := (2, h o i)) ri))
theorem k_iaload (hx : p.tables.exec = Jvm.exec) (hb : c.code = cc) (hF : FA base H0 dC dI vF adS adV bS len byt L xs s) (hH : HIok hI len byt L xs) (hZ : FZ fz) {o i : Int} (hc : (o % 64 = 32 ∨ o % 64 = 50) ∧ 0 ≤ i ∧ i < rd fz h o (-1)) (hdg : decode cc pc = .ok (.iaload, 1)) (kk : Kn p l e R s m args below meth c Q (ST fz base H0 hI dC dI vF adS adV bS s R hE al0 ad0) (pc + 1) ls ((0, h o i) :: st) h) : Kn p l e R s m args below meth c Q (ST fz base H0 hI dC dI vF adS adV bS s R hE al0 ad0) pc ls ((0, i) :: (3, o) :: st) h := by
  intro al ad H locs cells slots lc sc g
  obtain ⟨sc1, rfl, r1, g1⟩ := g.pop
  obtain ⟨sc2, rfl, r2, g2⟩ := g1.pop
  rcases hc.1 with hk | hk
  · obtain ⟨cA, ha, h64, hba, e0, n3, n4, n5, n6, a3, a1, a2, ri, -⟩ := g2.ar r2 (by omega) (by omega) hc.2.1 hc.2.2
    have hr : rd fz h o i = h o i := by unfold rd; rw [hZ.1 o i hc.2.1 (by omega)]
    rw [hk] at a2 ri n4 a1 n3
    rw [hr] at a2 ri
    have e0 : cvv vF ad (3, o) = .ref (ad o) := e0
    rw [e0]
    exact W.iald (v := cvv vF ad (0, h o i)) hx hb n3 (n4 _ _) (fun q => by cases q) a1 a2 rfl rfl hdg (kk _ _ _ _ _ _ _ _ (g2.push (v := (0, h o i)) ri))
  · obtain ⟨h0, h62, h64, hw⟩ := g2.1.low r2 (Or.inl hk)
    have e0 : cvv vF ad (3, o) = .ref (ad o) := cv_ref h0 h62
    rw [e0]
    rcases hw with rfl | ⟨j, -, e | e⟩
    · obtain ⟨scr, x1, x2, x3, x4, x5⟩ := hF.2.2.2.1
      have hbS := hF.2.2.2.2.1
      have e5 := g2.1.2.2.2.2.2.1.2
      have hz : ∀ i, rd fz h 50 i = h 50 i := fun i => by unfold rd; rw [hZ.2.2 50 i (by decide)]
      have hh : h 50 = hI 50 := g2.1.2.2.2.2.2.2.1 50 (by decide) (by decide)
      have hl : rd fz h 50 (-1) = (L : Int) := by rw [hz, hh]; exact hH.2.1
      have hL := hH.2.2.1
      rw [hl] at hc
      obtain ⟨y1, y2, y3⟩ := hH.2.2.2 i.toNat (by omega)
      have ei : ((i.toNat : Nat) : Int) = i := by omega
      rw [ei] at y1 y2 y3
      have a3 : (Int32.ofInt i).toNatClampNeg = i.toNat := i_clamp hc.2.1 (by omega)
      rw [e5]
      refine W.iald (v := cvv vF ad (0, h 50 i)) hx hb (by rw [g2.1.1.2 _ hbS]; exact x1) x2 x3 ?_ ?_ rfl rfl hdg (kk _ _ _ _ _ _ _ _ (g2.push (v := (0, h 50 i)) (show rng al 0 _ from by rw [hh]; exact ⟨y2, y3⟩)))
      · rw [x4, a3]
        rintro (q | q)
        · have := (i_ltE (x := i) (y := 0) (by omega) (by omega)).mp q
          omega
        · omega
      · rw [a3, x5 _ (by omega), hh]
        exact congrArg (fun z => some (Value.int z)) y1.symm
    · have := sid_mod j; omega
    · have := bid_mod j; omega
theorem k_baload (hx : p.tables.exec = Jvm.exec) (hb : c.code = cc) (hF : FA base H0 dC dI vF adS adV bS len byt L xs s) (hH : HIok hI len byt L xs) (hZ : FZ fz) {o i : Int} (hc : (o % 64 = 35 ∨ o % 64 = 36 ∨ o % 64 = 51) ∧ 0 ≤ i ∧ i < rd fz h o (-1)) (hdg : decode cc pc = .ok (.baload, 1)) (kk : Kn p l e R s m args below meth c Q (ST fz base H0 hI dC dI vF adS adV bS s R hE al0 ad0) (pc + 1) ls ((0, h o i) :: st) h) : Kn p l e R s m args below meth c Q (ST fz base H0 hI dC dI vF adS adV bS s R hE al0 ad0) pc ls ((0, i) :: (3, o) :: st) h := by
  intro al ad H locs cells slots lc sc g
  obtain ⟨sc1, rfl, r1, g1⟩ := g.pop
  obtain ⟨sc2, rfl, r2, g2⟩ := g1.pop
  rcases hc.1 with hk | hk | hk
  · obtain ⟨cA, ha, h64, hba, e0, n3, n4, n5, n6, a3, a1, a2, ri, -⟩ := g2.ar r2 (by omega) (by omega) hc.2.1 hc.2.2
    have hr : rd fz h o i = h o i := by unfold rd; rw [hZ.1 o i hc.2.1 (by omega)]
    rw [hk] at a2 ri n4 a1 n3
    rw [hr] at a2 ri
    have e0 : cvv vF ad (3, o) = .ref (ad o) := e0
    rw [e0]
    exact W.bald (v := cvv vF ad (0, h o i)) hx hb n3 (n4 _ _) (fun q => by cases q) a1 a2 rfl rfl hdg (kk _ _ _ _ _ _ _ _ (g2.push (v := (0, h o i)) ri))
  · obtain ⟨cA, ha, h64, hba, e0, n3, n4, n5, n6, a3, a1, a2, ri, -⟩ := g2.ar r2 (by omega) (by omega) hc.2.1 hc.2.2
    have hr : rd fz h o i = h o i := by unfold rd; rw [hZ.1 o i hc.2.1 (by omega)]
    rw [hk] at a2 ri n4 a1 n3
    rw [hr] at a2 ri
    have e0 : cvv vF ad (3, o) = .ref (ad o) := e0
    rw [e0]
    exact W.zald (v := cvv vF ad (0, h o i)) hx hb n3 (n4 _ _) (fun q => by cases q) a1 a2 rfl rfl hdg (kk _ _ _ _ _ _ _ _ (g2.push (v := (0, h o i)) ri))
  · obtain ⟨h0, h62, h64, hw⟩ := g2.1.low r2 (Or.inr (Or.inl hk))
    have e0 : cvv vF ad (3, o) = .ref (ad o) := cv_ref h0 h62
    rw [e0]
    rcases hw with rfl | ⟨j, hj, e | e⟩
    · omega
    · have := sid_mod j; omega
    · subst e
      obtain ⟨-, -, -, hT⟩ := hF.2.2.1.1 j hj
      obtain ⟨cell, x1, x2, x3, x4, x5, x6, x7⟩ := hT
      obtain ⟨-, -, c3, c4, c5⟩ := hH.1 j hj
      obtain ⟨-, -, -, d4⟩ := g2.1.2.2.2.2.1 j hj
      have hz : ∀ i, rd fz h (bid j) i = h (bid j) i := fun i => by unfold rd; rw [hZ.2.2 _ i h64]
      have hh : h (bid j) = hI (bid j) := g2.1.2.2.2.2.2.2.1 _ h64 h0
      have hl : rd fz h (bid j) (-1) = (len.getD j 0 : Int) := by rw [hz, hh]; exact c3
      rw [hl] at hc
      obtain ⟨y1, y2, y3⟩ := c5 i.toNat (by omega)
      have ei : ((i.toNat : Nat) : Int) = i := by omega
      rw [ei] at y1 y2 y3
      have a3 : (Int32.ofInt i).toNatClampNeg = i.toNat := i_clamp hc.2.1 (by omega)
      rw [d4]
      refine W.bald (v := cvv vF ad (0, h (bid j) i)) hx hb (by rw [g2.1.1.2 _ (Nat.lt_of_not_le x7)]; exact x1) x2 x3 ?_ ?_ rfl rfl hdg (kk _ _ _ _ _ _ _ _ (g2.push (v := (0, h (bid j) i)) (show rng al 0 _ from by rw [hh]; exact ⟨by omega, by omega⟩)))
      · rw [a3]
        rintro (q | q)
        · have := (i_ltE (x := i) (y := 0) (by omega) (by omega)).mp q
          omega
        · omega
      · rw [a3, x6 _ (by omega), hh]
        exact congrArg (fun z => some (Value.int z)) y1.symm
theorem k_aaload (hx : p.tables.exec = Jvm.exec) (hb : c.code = cc) {o i : Int} (hc : (o % 64 = 37 ∨ o % 64 = 38) ∧ 0 ≤ i ∧ i < rd fz h o (-1)) (hdg : decode cc pc = .ok (.aaload, 1)) (kk : Kn p l e R s m args below meth c Q (ST fz base H0 hI dC dI vF adS adV bS s R hE al0 ad0) (pc + 1) ls ((3, rd fz h o i) :: st) h) : Kn p l e R s m args below meth c Q (ST fz base H0 hI dC dI vF adS adV bS s R hE al0 ad0) pc ls ((0, i) :: (3, o) :: st) h := by
  intro al ad H locs cells slots lc sc g
  obtain ⟨sc1, rfl, r1, g1⟩ := g.pop
  obtain ⟨sc2, rfl, r2, g2⟩ := g1.pop
  obtain ⟨cA, ha, h64, hba, e0, n3, n4, n5, n6, a3, a1, a2, ri, -⟩ := g2.ar r2 (by omega) (by omega) hc.2.1 hc.2.2
  have e0 : cvv vF ad (3, o) = .ref (ad o) := e0
  rw [e0]
  have e3 : aT (o % 64) = 3 := by rcases hc.1 with q | q <;> rw [q] <;> rfl
  have eR : (aF (o % 64)).isReference = true := by rcases hc.1 with q | q <;> rw [q] <;> rfl
  rw [e3] at a2 ri a1 n3
  exact W.aald (v := cvv vF ad (3, rd fz h o i)) (ty := aF (o % 64)) hx hb n3 (n4 _ _) eR (fun q => by cases q) a1 a2 rfl rfl hdg (kk _ _ _ _ _ _ _ _ (g2.push (v := (3, rd fz h o i)) ri))
theorem k_iastore (hx : p.tables.exec = Jvm.exec) (hb : c.code = cc) (hZ : FZ fz) {o i v : Int} (hc : o % 64 = 32 ∧ 0 ≤ i ∧ i < rd fz h o (-1)) (hdg : decode cc pc = .ok (.iastore, 1)) (kk : Kn p l e R s m args below meth c Q (ST fz base H0 hI dC dI vF adS adV bS s R hE al0 ad0) (pc + 1) ls st (hset h o i v)) : Kn p l e R s m args below meth c Q (ST fz base H0 hI dC dI vF adS adV bS s R hE al0 ad0) pc ls ((0, v) :: (0, i) :: (3, o) :: st) h := by
  intro al ad H locs cells slots lc sc g
  obtain ⟨sc0, rfl, r0, g0⟩ := g.pop
  obtain ⟨sc1, rfl, r1, g1⟩ := g0.pop
  obtain ⟨sc2, rfl, r2, g2⟩ := g1.pop
  obtain ⟨cA, ha, h64, hba, e0, n3, n4, n5, n6, a3, a1, a2, ri, -⟩ := g2.ar r2 (by omega) (by omega) hc.2.1 hc.2.2
  have e0 : cvv vF ad (3, o) = .ref (ad o) := e0
  rw [e0]
  have eT : aT (o % 64) = 0 := by rw [hc.1]; rfl
  refine W.iast hx hb n3 (by have := n4 (rd fz h o (-1)).toNat (fun j => cv vF ad (aT (o % 64)) (rd fz h o j)); rw [hc.1] at this ⊢; exact this) (fun q => by cases q) a1 rfl rfl hdg fun H' e1 e2 e3 => ?_
  exact kk _ _ _ _ _ _ _ _ (g2.st_ar r2 (by omega) (by omega) hc.2.1 hc.2.2 (hZ.1 o i hc.2.1 (by omega)) (by rw [eT]; exact r0) n3 n4 n5 (by rw [e1, eT]; rfl) e2 e3)
theorem k_lastore (hx : p.tables.exec = Jvm.exec) (hb : c.code = cc) (hZ : FZ fz) {o i v : Int} (hc : o % 64 = 33 ∧ 0 ≤ i ∧ i < rd fz h o (-1)) (hdg : decode cc pc = .ok (.lastore, 1)) (kk : Kn p l e R s m args below meth c Q (ST fz base H0 hI dC dI vF adS adV bS s R hE al0 ad0) (pc + 1) ls st (hset h o i v)) : Kn p l e R s m args below meth c Q (ST fz base H0 hI dC dI vF adS adV bS s R hE al0 ad0) pc ls ((1, v) :: (0, i) :: (3, o) :: st) h := by
  intro al ad H locs cells slots lc sc g
  obtain ⟨sc0, rfl, r0, g0⟩ := g.pop
  obtain ⟨sc1, rfl, r1, g1⟩ := g0.pop
  obtain ⟨sc2, rfl, r2, g2⟩ := g1.pop
  obtain ⟨cA, ha, h64, hba, e0, n3, n4, n5, n6, a3, a1, a2, ri, -⟩ := g2.ar r2 (by omega) (by omega) hc.2.1 hc.2.2
  have e0 : cvv vF ad (3, o) = .ref (ad o) := e0
  rw [e0]
  have eT : aT (o % 64) = 1 := by rw [hc.1]; rfl
  refine W.last hx hb n3 (by have := n4 (rd fz h o (-1)).toNat (fun j => cv vF ad (aT (o % 64)) (rd fz h o j)); rw [hc.1] at this ⊢; exact this) (fun q => by cases q) a1 rfl rfl hdg fun H' e1 e2 e3 => ?_
  exact kk _ _ _ _ _ _ _ _ (g2.st_ar r2 (by omega) (by omega) hc.2.1 hc.2.2 (hZ.1 o i hc.2.1 (by omega)) (by rw [eT]; exact r0) n3 n4 n5 (by rw [e1, eT]; rfl) e2 e3)
theorem k_dastore (hx : p.tables.exec = Jvm.exec) (hb : c.code = cc) (hZ : FZ fz) {o i v : Int} (hc : o % 64 = 34 ∧ 0 ≤ i ∧ i < rd fz h o (-1)) (hdg : decode cc pc = .ok (.dastore, 1)) (kk : Kn p l e R s m args below meth c Q (ST fz base H0 hI dC dI vF adS adV bS s R hE al0 ad0) (pc + 1) ls st (hset h o i v)) : Kn p l e R s m args below meth c Q (ST fz base H0 hI dC dI vF adS adV bS s R hE al0 ad0) pc ls ((2, v) :: (0, i) :: (3, o) :: st) h := by
  intro al ad H locs cells slots lc sc g
  obtain ⟨sc0, rfl, r0, g0⟩ := g.pop
  obtain ⟨sc1, rfl, r1, g1⟩ := g0.pop
  obtain ⟨sc2, rfl, r2, g2⟩ := g1.pop
  obtain ⟨cA, ha, h64, hba, e0, n3, n4, n5, n6, a3, a1, a2, ri, -⟩ := g2.ar r2 (by omega) (by omega) hc.2.1 hc.2.2
  have e0 : cvv vF ad (3, o) = .ref (ad o) := e0
  rw [e0]
  have eT : aT (o % 64) = 2 := by rw [hc.1]; rfl
  refine W.dast hx hb n3 (by have := n4 (rd fz h o (-1)).toNat (fun j => cv vF ad (aT (o % 64)) (rd fz h o j)); rw [hc.1] at this ⊢; exact this) (fun q => by cases q) a1 rfl rfl hdg fun H' e1 e2 e3 => ?_
  exact kk _ _ _ _ _ _ _ _ (g2.st_ar r2 (by omega) (by omega) hc.2.1 hc.2.2 (hZ.1 o i hc.2.1 (by omega)) (by rw [eT]; exact r0) n3 n4 n5 (by rw [e1, eT]; rfl) e2 e3)
theorem k_bastore (hx : p.tables.exec = Jvm.exec) (hb : c.code = cc) (hZ : FZ fz) {o i v : Int} (hc : (o % 64 = 35 ∨ o % 64 = 36) ∧ 0 ≤ i ∧ i < rd fz h o (-1)) (hdg : decode cc pc = .ok (.bastore, 1)) (kk : Kn p l e R s m args below meth c Q (ST fz base H0 hI dC dI vF adS adV bS s R hE al0 ad0) (pc + 1) ls st (hset h o i (bst o v))) : Kn p l e R s m args below meth c Q (ST fz base H0 hI dC dI vF adS adV bS s R hE al0 ad0) pc ls ((0, v) :: (0, i) :: (3, o) :: st) h := by
  intro al ad H locs cells slots lc sc g
  obtain ⟨sc0, rfl, r0, g0⟩ := g.pop
  obtain ⟨sc1, rfl, r1, g1⟩ := g0.pop
  obtain ⟨sc2, rfl, r2, g2⟩ := g1.pop
  obtain ⟨cA, ha, h64, hba, e0, n3, n4, n5, n6, a3, a1, a2, ri, -⟩ := g2.ar r2 (by omega) (by omega) hc.2.1 hc.2.2
  have e0 : cvv vF ad (3, o) = .ref (ad o) := e0
  rw [e0]
  have eT : aT (o % 64) = 0 := by rcases hc.1 with q | q <;> rw [q] <;> rfl
  have hrg : rng al 0 (bst o v) := by
    unfold bst
    have := w8_rng v
    split
    · exact ⟨by omega, by omega⟩
    · exact ⟨by omega, by omega⟩
  rcases hc.1 with hk | hk
  · refine W.bast hx hb n3 (by have := n4 (rd fz h o (-1)).toNat (fun j => cv vF ad (aT (o % 64)) (rd fz h o j)); rw [hk] at this ⊢; exact this) (fun q => by cases q) a1 rfl rfl hdg fun H' e1 e2 e3 => ?_
    refine kk _ _ _ _ _ _ _ _ (g2.st_ar r2 (by omega) (by omega) hc.2.1 hc.2.2 (hZ.1 o i hc.2.1 (by omega)) (by rw [eT]; exact hrg) n3 n4 n5 ?_ e2 e3)
    rw [e1, eT]
    have : narrow .byte (.int (Int32.ofInt v)) = cv vF ad 0 (bst o v) := by
      unfold bst
      rw [if_pos hk]
      exact congrArg Value.int (i2bE v)
    rw [← this]
  · refine W.zast hx hb n3 (by have := n4 (rd fz h o (-1)).toNat (fun j => cv vF ad (aT (o % 64)) (rd fz h o j)); rw [hk] at this ⊢; exact this) (fun q => by cases q) a1 rfl rfl hdg fun H' e1 e2 e3 => ?_
    refine kk _ _ _ _ _ _ _ _ (g2.st_ar r2 (by omega) (by omega) hc.2.1 hc.2.2 (hZ.1 o i hc.2.1 (by omega)) (by rw [eT]; exact hrg) n3 n4 n5 ?_ e2 e3)
    rw [e1, eT]
    have : narrow .boolean (.int (Int32.ofInt v)) = cv vF ad 0 (bst o v) := by
      unfold bst
      rw [if_neg (by omega)]
      exact congrArg Value.int (i_and1 v)
    rw [← this]
theorem k_alen (hx : p.tables.exec = Jvm.exec) (hb : c.code = cc) (hF : FA base H0 dC dI vF adS adV bS len byt L xs s) (hH : HIok hI len byt L xs) (hZ : FZ fz) {o : Int} (hk : 32 ≤ o % 64 ∧ o % 64 ≤ 51) (hdg : decode cc pc = .ok (.arraylength, 1)) (kk : Kn p l e R s m args below meth c Q (ST fz base H0 hI dC dI vF adS adV bS s R hE al0 ad0) (pc + 1) ls ((0, rd fz h o (-1)) :: st) h) : Kn p l e R s m args below meth c Q (ST fz base H0 hI dC dI vF adS adV bS s R hE al0 ad0) pc ls ((3, o) :: st) h := by
  intro al ad H locs cells slots lc sc g
  obtain ⟨sc1, rfl, r1, g1⟩ := g.pop
  have h0 : o ≠ 0 := by omega
  have h62 : o ≠ 62 := by omega
  have hao : al o := by
    rcases r1 with q | q | q
    · exact absurd q h0
    · exact absurd q h62
    · exact q
  have e0 : cvv vF ad (3, o) = .ref (ad o) := cv_ref h0 h62
  rw [e0]
  rcases Int.lt_or_le o 64 with h64 | h64
  · have hz : ∀ i, rd fz h o i = h o i := fun i => by unfold rd; rw [hZ.2.2 o i h64]
    rcases g1.1.2.2.2.1 o hao h64 with rfl | ⟨j, hj, e | e⟩
    · obtain ⟨scr, x1, x2, x3, x4, x5⟩ := hF.2.2.2.1
      have hbS := hF.2.2.2.2.1
      have e5 := g1.1.2.2.2.2.2.1.2
      have hl : rd fz h 50 (-1) = (L : Int) := by rw [hz, g1.1.2.2.2.2.2.2.1 50 (by decide) (by decide)]; exact hH.2.1
      have hL := hH.2.2.1
      rw [e5]
      refine W.alen (n := Int32.ofInt (L : Int)) hx hb (by rw [g1.1.1.2 _ hbS]; exact x1) x2 (by rw [x4, Int32.ofInt_eq_ofNat]) rfl rfl hdg ?_
      rw [hl] at kk
      exact kk _ _ _ _ _ _ _ _ (g1.push (v := (0, (L : Int))) (show rng al 0 _ from ⟨by omega, by omega⟩))
    · have := sid_mod j; omega
    · subst e
      obtain ⟨-, -, -, hT⟩ := hF.2.2.1.1 j hj
      obtain ⟨cell, x1, x2, x3, x4, x5, x6, x7⟩ := hT
      obtain ⟨-, -, c3, c4, -⟩ := hH.1 j hj
      obtain ⟨-, -, -, d4⟩ := g1.1.2.2.2.2.1 j hj
      have hl : rd fz h (bid j) (-1) = (len.getD j 0 : Int) := by rw [hz, g1.1.2.2.2.2.2.2.1 _ h64 h0]; exact c3
      rw [d4]
      refine W.alen (n := Int32.ofInt (len.getD j 0 : Int)) hx hb (by rw [g1.1.1.2 _ (Nat.lt_of_not_le x7)]; exact x1) x2 (by rw [x5, Int32.ofInt_eq_ofNat]) rfl rfl hdg ?_
      rw [hl] at kk
      exact kk _ _ _ _ _ _ _ _ (g1.push (v := (0, (len.getD j 0 : Int))) (show rng al 0 _ from ⟨by omega, by omega⟩))
  · obtain ⟨hsw, hba, -, -, hkd⟩ := g1.1.2.1 o hao h64
    obtain ⟨n0, n1, n2, cA, n3, n4, n5⟩ := hsw.2 hk.1
    have eL : Int32.ofInt (rd fz h o (-1)) = Int32.ofNat (rd fz h o (-1)).toNat := by
      rw [← Int32.ofInt_eq_ofNat]
      congr 1
      omega
    refine W.alen (n := Int32.ofInt (rd fz h o (-1))) hx hb n3 (n4 _ _) (by rw [arrV_size, eL]) rfl rfl hdg ?_
    exact kk _ _ _ _ _ _ _ _ (g1.push (v := (0, rd fz h o (-1))) (show rng al 0 _ from ⟨by omega, by omega⟩))
end KH
