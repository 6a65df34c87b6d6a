/-! SOUNDNESS, 7: what is made, the natives, constants of the tables -/
theorem alc_new (h : HV) (kd n sl i : Int) : alc h kd n sl (64 * h 0 0 + kd) i = if i = -1 then n else 0 := by unfold alc; rw [if_pos rfl]
theorem alc_00 {h : HV} {kd n sl : Int} (h1 : 1 ≤ h 0 0) (hk : 0 ≤ kd) : alc h kd n sl 0 0 = h 0 0 + 1 := by unfold alc; rw [if_neg (by omega), if_pos ⟨rfl, rfl⟩]
theorem alc_01 {h : HV} {kd n sl : Int} (h1 : 1 ≤ h 0 0) (hk : 0 ≤ kd) : alc h kd n sl 0 1 = h 0 1 + sl := by unfold alc; rw [if_neg (by omega), if_neg (by omega), if_pos ⟨rfl, rfl⟩]
theorem alc_ot {h : HV} {kd n sl a : Int} (e : a ≠ 64 * h 0 0 + kd) (e0 : a ≠ 0) : alc h kd n sl a = h a := by
  funext b
  unfold alc
  rw [if_neg e, if_neg (fun q => e0 q.1), if_neg (fun q => e0 q.1)]
theorem wds_sum {vF : Value} {ad : Int → Nat} {al : Int → Prop} (hvF : vF = .null ∨ ∃ a, vF = .ref a) : ∀ (st : List AV), (∀ v ∈ st, rng al v.1 v.2) → ((st.map (cvv vF ad)).map fun v => v.category).sum = wds st
  | [], _ => rfl
  | (t, x) :: r, hr => by
    have ih := wds_sum (ad := ad) hvF r (fun v hv => hr v (List.mem_cons_of_mem _ hv))
    have h0 : rng al t x := hr (t, x) List.mem_cons_self
    show (cv vF ad t x).category + ((r.map (cvv vF ad)).map fun v => v.category).sum = wds ((t, x) :: r)
    rw [ih]
    match t, h0 with
    | 0, _ => show 1 + wds r = wds r + 1; omega
    | 1, _ => show 2 + wds r = wds r + 2; omega
    | 2, _ => show 2 + wds r = wds r + 2; omega
    | 3, h0 =>
      rw [cv_cat hvF 3 x (by decide) (by decide) h0]
      show 1 + wds r = wds r + 1
      omega
section KH7
variable {p : Program} {l : Launch} {e : Env} {R : Room} {s : State} {m : MethodId} {args : Array Value} {below : List Frame} {meth : Method} {c : Code} {Q : State → Prop}
variable {fz : Int → Int → Option Int} {base : Nat} {H0 : Heap} {hI : HV} {dC : Nat → ClassId} {dI : Nat → Nat → Nat} {vF : Value} {adS adV : Nat → Nat} {bS : Nat} {hE : HV} {al0 : Int → Prop} {ad0 : Int → Nat}
variable {len : List Nat} {byt : List (List Int32)} {L : Nat} {xs : Nat → Int32}
variable {cc : ByteArray} {pc : Nat} {ls st : List AV} {h : HV} {x y : Int}
theorem ST.wsum {al : Int → Prop} {ad : Int → Nat} {H : Heap} {locs : List Loc} {cells slots : Nat} {lc : Array Slot} {sc : List Value} (hvF : vF = .null ∨ ∃ a, vF = .ref a) (g : ST fz base H0 hI dC dI vF adS adV bS s R hE al0 ad0 al ad h H locs cells slots ls st lc sc) : (sc.map fun v => v.category).sum = wds st := by
  obtain ⟨-, -, -, ⟨g4, g4'⟩, -⟩ := g
  rw [g4]
  exact wds_sum hvF st g4'
/-- the frame's state over more made things -/
theorem ST.grow {al al' : Int → Prop} {ad ad' : Int → Nat} {h' : HV} {H H' : Heap} {locs : List Loc} {cells slots cells' slots' : Nat} {lc : Array Slot} {sc : List Value} (g : ST fz base H0 hI dC dI vF adS adV bS s R hE al0 ad0 al ad h H locs cells slots ls st lc sc) (hS : Sm fz base H0 hI dC dI vF s al' ad' adS adV bS h' H') (hal : ∀ x, al x → al' x) (he : ∀ x, al x → ad' x = ad x) (hc : (cells' : Int) + (hE 0 0 - h' 0 0) = R.cells) (hs : (slots' : Int) + (hE 0 1 - h' 0 1) = R.slots) :
    ST fz base H0 hI dC dI vF adS adV bS s R hE al0 ad0 al' ad' h' H' locs cells' slots' ls st lc sc := by
  obtain ⟨g1, g2, ⟨g3, g3'⟩, ⟨g4, g4'⟩, g5, g6, g7⟩ := g
  refine ⟨hS, fun o ho => ⟨hal o (g2 o ho).1, (he o (g2 o ho).1).trans (g2 o ho).2⟩, ⟨⟨g3.1, g3.2.1, fun q hq => ?_⟩, fun v hv h3 => rng_mono hal (g3' v hv h3)⟩, ⟨?_, fun v hv => rng_mono hal (g4' v hv)⟩, g5, hc, hs⟩
  · obtain ⟨u, h1, h2, h4⟩ := kl_mem.mp hq
    refine g3.2.2 q (kl_mem.mpr ⟨u, h1, h2, ?_⟩)
    rw [h4]
    exact cv_same he (g3' u (List.mem_of_getElem? h1) h2)
  · rw [g4]
    exact List.map_congr_left fun v hv => (cv_same he (g4' v hv)).symm
/-- one object or array more -/
theorem ST.born {al : Int → Prop} {ad : Int → Nat} {H H' : Heap} {locs : List Loc} {cells slots : Nat} {lc : Array Slot} {sc : List Value} {kd n sl : Int} {sl' : Nat} (g : ST fz base H0 hI dC dI vF adS adV bS s R hE al0 ad0 al ad h H locs cells slots ls st lc sc) (hkd : 0 ≤ kd ∧ (kd < 13 ∨ (32 ≤ kd ∧ kd ≤ 38))) (hsl : (sl' : Int) = sl) (ez : H'.size = H.size + 1) (eo : ∀ q, q < H.size → H'[q]? = H[q]?)
    (hw : ∀ (al' : Int → Prop) (ad' : Int → Nat), al' = (fun x => al x ∨ x = 64 * h 0 0 + kd) → ad' (64 * h 0 0 + kd) = H.size → SmW fz dC dI vF s al' ad' (alc h kd n sl) H' (64 * h 0 0 + kd)) :
    ST fz base H0 hI dC dI vF adS adV bS s R hE al0 ad0 (fun x => al x ∨ x = 64 * h 0 0 + kd) (fun x => if x = 64 * h 0 0 + kd then H.size else ad x) (alc h kd n sl) H' locs (cells + 1) (slots + sl') ls ((3, 64 * h 0 0 + kd) :: st) lc (.ref H.size :: sc) := by
  have h1 := g.1.2.2.2.2.2.2.2
  have g6 := g.2.2.2.2.2.1
  have g7 := g.2.2.2.2.2.2
  have e0 := alc_00 (h := h) (kd := kd) (n := n) (sl := sl) h1 hkd.1
  have e1 := alc_01 (h := h) (kd := kd) (n := n) (sl := sl) h1 hkd.1
  obtain ⟨hS, hno⟩ := g.1.add (h' := alc h kd n sl) (o := 64 * h 0 0 + kd) (by omega) (by omega) ez eo (fun x hx hx0 => alc_ot hx hx0) (by omega) (by omega) (hw _ _ rfl (if_pos rfl))
  have hg := (g.grow hS (fun x hx => Or.inl hx) (fun x hx => if_neg (fun q : x = 64 * h 0 0 + kd => hno (q ▸ hx))) (cells' := cells + 1) (slots' := slots + sl') (by rw [e0]; omega) (by rw [e1]; omega)).push (v := (3, 64 * h 0 0 + kd)) (show rng (fun x => al x ∨ x = 64 * h 0 0 + kd) 3 (64 * h 0 0 + kd) from Or.inr (Or.inr (Or.inr rfl)))
  have ec : cvv vF (fun x => if x = 64 * h 0 0 + kd then H.size else ad x) (3, 64 * h 0 0 + kd) = .ref H.size := by
    refine (cv_ref (by omega) (by omega)).trans ?_
    exact congrArg Value.ref (if_pos rfl)
  rw [ec] at hg
  exact hg
theorem k_new (hx : p.tables.exec = Jvm.exec) (hb : c.code = cc) {own : String} {index : Nat} (hown : s.vm.findClass own = some m.cls) (hts : ∀ w ∈ BIG, w.before args s = true) (hF : FA base H0 dC dI vF adS adV bS len byt L xs s) {cn : Nat} (hcn : cn < 13) (hw : Jvm.Cond.classLink own index (cR cn) ∈ BIG) (hz : ∀ i, fz (64 * h 0 0 + cn) i = none) (hc0 : h 0 0 + 1 ≤ hE 0 0) (hc1 : h 0 1 + (cN cn : Int) ≤ hE 0 1) (hdg : decode cc pc = .ok (.new index, 3))
    (kk : Kn p l e R s m args below meth c Q (ST fz base H0 hI dC dI vF adS adV bS s R hE al0 ad0) (pc + 3) ls ((3, 64 * h 0 0 + cn) :: st) (alc h cn 0 (cN cn))) : Kn p l e R s m args below meth c Q (ST fz base H0 hI dC dI vF adS adV bS s R hE al0 ad0) pc ls st h := by
  intro al ad H locs cells slots lc sc g
  have h1 := g.1.2.2.2.2.2.2.2
  have g6 := g.2.2.2.2.2.1
  have g7 := g.2.2.2.2.2.2
  obtain ⟨hS, hfc, kC, hkC, hkind⟩ := hF.1 cn hcn
  refine W.newcK hx hb hown (hts _ hw) (hts _ (FS4 cn hcn).1) (hts _ (FS4 cn hcn).2) rfl hdg (by omega) (by omega) hfc rfl fun H' kC' hkC' e1 e2 e3 => ?_
  refine kk _ _ _ _ _ _ _ _ (g.born (kd := cn) (n := 0) (sl := cN cn) (sl' := cN cn) ⟨by omega, by omega⟩ rfl e2 e3 fun al' ad' _ had => ⟨fun _ => ?_, fun q => by omega⟩)
  have hcn' : ((64 * h 0 0 + cn) % 64).toNat = cn := by omega
  have hr : ∀ j : Nat, rd fz (alc h cn 0 (cN cn)) (64 * h 0 0 + cn) j = 0 := by
    intro j
    unfold rd
    rw [hz]
    show alc h cn 0 (cN cn) (64 * h 0 0 + cn) j = 0
    rw [alc_new, if_neg (by omega)]
  rw [hcn', had]
  refine ⟨(u_born (cT cn) hts (FS3 cn hcn) (hF.1 cn hcn) hkC' e1 (fun k hk => FS1 cn hcn k hk)).to (fun j hj => ?_), fun j hj => ?_⟩
  · rw [hr]
    exact dv_ok (FS6 cn hcn j hj)
  · rw [hr]
    exact rng0 _
theorem k_newa (hx : p.tables.exec = Jvm.exec) (hb : c.code = cc) {t : ArrayType} {kd : Int} (hkd : 32 ≤ kd ∧ kd ≤ 36) (hak : akd t = kd) (hty : newarray.typeOf t = aF kd) (hdef : ∀ ad : Int → Nat, defaultValue (aF kd) = cv vF ad (aT kd) 0) (hrng : ∀ al : Int → Prop, rng al (aT kd) 0) (hcb : componentBytes (aF kd) ≤ 8) (hRA : ∀ cA, s.vm.findClass ("[" ++ (aF kd).toString) = some cA → va_RA s cA (aF kd)) (harr : (Cond.arrayClass (aF kd)).before args s = true) {n : Int} (hn : 0 ≤ n ∧ n ≤ 67000000) (hz : ∀ i, fz (64 * h 0 0 + akd t) i = none) (hc0 : h 0 0 + 1 ≤ hE 0 0) (hc1 : h 0 1 + n ≤ hE 0 1) (hdg : decode cc pc = .ok (.newarray t, 2))
    (kk : Kn p l e R s m args below meth c Q (ST fz base H0 hI dC dI vF adS adV bS s R hE al0 ad0) (pc + 2) ls ((3, 64 * h 0 0 + akd t) :: st) (alc h (akd t) n n)) : Kn p l e R s m args below meth c Q (ST fz base H0 hI dC dI vF adS adV bS s R hE al0 ad0) pc ls ((0, n) :: st) h := by
  intro al ad H locs cells slots lc sc g
  obtain ⟨sc1, rfl, r1, g1⟩ := g.pop
  have h1 := g.1.2.2.2.2.2.2.2
  have g6 := g.2.2.2.2.2.1
  have g7 := g.2.2.2.2.2.2
  rw [hak] at kk hz
  have hN : (Int32.ofInt n).toNatClampNeg = n.toNat := i_clamp hn.1 (by omega)
  refine va_newaK hx hb (by rw [hty]; exact harr) rfl hdg rfl (fun q => by have := (i_ltE (x := n) (y := 0) r1 (by constructor <;> decide)).mp q; omega) hN (by rw [hty]; exact Nat.le_trans (Nat.mul_le_mul_left _ hcb) (by omega)) (by omega) (by omega) rfl fun H' cA e1 e2 e3 e4 e5 => ?_
  rw [hty] at e1 e4 e5
  refine kk _ _ _ _ _ _ _ _ (g1.born (kd := kd) (n := n) (sl := n) (sl' := n.toNat) ⟨by omega, by omega⟩ (by omega) e2 e3 fun al' ad' _ had => ⟨fun q => by omega, fun _ => ?_⟩)
  have hkm : (64 * h 0 0 + kd) % 64 = kd := by omega
  have hr : ∀ j : Int, rd fz (alc h kd n n) (64 * h 0 0 + kd) j = if j = -1 then n else 0 := by
    intro j
    unfold rd
    rw [hz]
    exact alc_new h kd n n j
  have hr1 : rd fz (alc h kd n n) (64 * h 0 0 + kd) (-1) = n := by rw [hr, if_pos rfl]
  have hr2 : ∀ j : Nat, rd fz (alc h kd n n) (64 * h 0 0 + kd) (j : Int) = 0 := fun j => by rw [hr, if_neg (by omega)]
  rw [hr1, hkm, had]
  refine ⟨hn.1, by omega, fun j _ => by rw [hr2]; exact hrng _, cA, ?_, e4, hRA cA e5⟩
  rw [e1]
  exact congrArg some (arrV_cg fun j _ => by rw [hr2]; exact hdef _)
theorem k_newarray (hx : p.tables.exec = Jvm.exec) (hb : c.code = cc) (hts : ∀ w ∈ BIG, w.before args s = true) {t : ArrayType} (ht : t = .int ∨ t = .long ∨ t = .double ∨ t = .byte ∨ t = .boolean) {n : Int} (hn : 0 ≤ n ∧ n ≤ 67000000 ∧ ∀ i, fz (64 * h 0 0 + akd t) i = none) (hc0 : h 0 0 + 1 ≤ hE 0 0) (hc1 : h 0 1 + n ≤ hE 0 1) (hdg : decode cc pc = .ok (.newarray t, 2))
    (kk : Kn p l e R s m args below meth c Q (ST fz base H0 hI dC dI vF adS adV bS s R hE al0 ad0) (pc + 2) ls ((3, 64 * h 0 0 + akd t) :: st) (alc h (akd t) n n)) : Kn p l e R s m args below meth c Q (ST fz base H0 hI dC dI vF adS adV bS s R hE al0 ad0) pc ls ((0, n) :: st) h := by
  have h7 := lwB_in FS7
  rcases ht with rfl | rfl | rfl | rfl | rfl
  · exact k_newa (kd := 32) hx hb (by decide) rfl rfl (fun _ => rfl) (fun _ => ⟨by decide, by decide⟩) (by decide) (fun _ h => h) (hts _ (h7 _ (List.mem_of_getElem? (i := 2) rfl))) ⟨hn.1, hn.2.1⟩ hn.2.2 hc0 hc1 hdg kk
  · exact k_newa (kd := 33) hx hb (by decide) rfl rfl (fun _ => rfl) (fun _ => ⟨by decide, by decide⟩) (by decide) (fun _ h => h) (hts _ (h7 _ (List.mem_of_getElem? (i := 1) rfl))) ⟨hn.1, hn.2.1⟩ hn.2.2 hc0 hc1 hdg kk
  · exact k_newa (kd := 34) hx hb (by decide) rfl rfl (fun _ => rfl) (fun _ => ⟨by decide, by decide⟩) (by decide) (fun _ h => h) (hts _ (h7 _ (List.mem_of_getElem? (i := 4) rfl))) ⟨hn.1, hn.2.1⟩ hn.2.2 hc0 hc1 hdg kk
  · exact k_newa (kd := 35) hx hb (by decide) rfl rfl (fun _ => rfl) (fun _ => ⟨by decide, by decide⟩) (by decide) (fun _ h => h) (hts _ (h7 _ (List.mem_of_getElem? (i := 0) rfl))) ⟨hn.1, hn.2.1⟩ hn.2.2 hc0 hc1 hdg kk
  · exact k_newa (kd := 36) hx hb (by decide) rfl rfl (fun _ => rfl) (fun _ => ⟨by decide, by decide⟩) (by decide) (fun _ h => h) (hts _ (h7 _ (List.mem_of_getElem? (i := 3) rfl))) ⟨hn.1, hn.2.1⟩ hn.2.2 hc0 hc1 hdg kk
theorem k_anewarray (hx : p.tables.exec = Jvm.exec) (hb : c.code = cc) {own : String} {index : Nat} (hown : s.vm.findClass own = some m.cls) (hts : ∀ w ∈ BIG, w.before args s = true) (hF : FA base H0 dC dI vF adS adV bS len byt L xs s) (hw : Jvm.Cond.classLink own index "java/lang/String" ∈ BIG) {n : Int} (hn : 0 ≤ n ∧ n ≤ 67000000 ∧ ∀ i, fz (64 * h 0 0 + 38) i = none) (hc0 : h 0 0 + 1 ≤ hE 0 0) (hc1 : h 0 1 + n ≤ hE 0 1) (hdg : decode cc pc = .ok (.anewarray index, 3))
    (kk : Kn p l e R s m args below meth c Q (ST fz base H0 hI dC dI vF adS adV bS s R hE al0 ad0) (pc + 3) ls ((3, 64 * h 0 0 + 38) :: st) (alc h 38 n n)) : Kn p l e R s m args below meth c Q (ST fz base H0 hI dC dI vF adS adV bS s R hE al0 ad0) pc ls ((0, n) :: st) h := by
  intro al ad H locs cells slots lc sc g
  obtain ⟨sc1, rfl, r1, g1⟩ := g.pop
  have h1 := g.1.2.2.2.2.2.2.2
  have g6 := g.2.2.2.2.2.1
  have g7 := g.2.2.2.2.2.2
  have hN : (Int32.ofInt n).toNatClampNeg = n.toNat := i_clamp hn.1 (by omega)
  refine W.anew hx hb hown (hts _ hw) (va_AO.use hF.2.2.2.2.2.2.2.2.1) rfl hdg rfl (fun q => by have := (i_ltE (x := n) (y := 0) r1 (by constructor <;> decide)).mp q; omega) (by rw [hN]; omega) (by omega) (by rw [hN]; omega) fun cA kA comp f1 f2 f3 f4 => ?_
  rw [hN]
  refine kk _ _ _ _ _ _ _ _ (g1.born (kd := 38) (n := n) (sl := n) (sl' := n.toNat) (by decide) (by omega) (by rw [Array.size_push]) (fun q hq => by rw [Array.getElem?_push, if_neg (Nat.ne_of_lt hq)]) fun al' ad' _ had => ⟨fun q => by omega, fun _ => ?_⟩)
  have hkm : (64 * h 0 0 + 38) % 64 = 38 := by omega
  have hr : ∀ j : Int, rd fz (alc h 38 n n) (64 * h 0 0 + 38) j = if j = -1 then n else 0 := by
    intro j
    unfold rd
    rw [hn.2.2]
    exact alc_new h 38 n n j
  have hr1 : rd fz (alc h 38 n n) (64 * h 0 0 + 38) (-1) = n := by rw [hr, if_pos rfl]
  have hr2 : ∀ j : Nat, rd fz (alc h 38 n n) (64 * h 0 0 + 38) (j : Int) = 0 := fun j => by rw [hr, if_neg (by omega)]
  rw [hr1, hkm, had]
  have hAr : ArrOfT s cA (.object "java/lang/String") := fun N z => ⟨(fun k h => by cases h), kA, f2, comp, f3⟩
  refine ⟨hn.1, by omega, fun j _ => by rw [hr2]; exact Or.inl rfl, cA, ?_, hAr, kA, comp, f2, f3, f4, f1⟩
  rw [Array.getElem?_push_size, arrV_new]
  exact congrArg some (arrV_cg fun j _ => by rw [hr2]; rfl)
theorem k_aastore (hx : p.tables.exec = Jvm.exec) (hb : c.code = cc) (hF : FA base H0 dC dI vF adS adV bS len byt L xs s) {o i v : Int} (hc : o % 64 = 38 ∧ v % 64 = 13 ∧ 0 ≤ i ∧ i < rd fz h o (-1) ∧ fz o i = none) (hdg : decode cc pc = .ok (.aastore, 1)) (kk : Kn p l e R s m args below meth c Q (ST fz base H0 hI dC dI vF adS adV bS s R hE al0 ad0) (pc + 1) ls st (hset h o i v)) : Kn p l e R s m args below meth c Q (ST fz base H0 hI dC dI vF adS adV bS s R hE al0 ad0) pc ls ((3, v) :: (0, i) :: (3, o) :: st) h := by
  intro al ad H locs cells slots lc sc g
  obtain ⟨sc0, rfl, r0, g0⟩ := g.pop
  obtain ⟨sc1, rfl, r1, g1⟩ := g0.pop
  obtain ⟨sc2, rfl, r2, g2⟩ := g1.pop
  obtain ⟨cA, ha, h64, hba, e0, n3, n4, n5, n6, a3, a1, a2, ri, -⟩ := g2.ar r2 (by omega) (by omega) hc.2.2.1 hc.2.2.2.1
  have e0 : cvv vF ad (3, o) = .ref (ad o) := e0
  have eT : aT (o % 64) = 3 := by rw [hc.1]; rfl
  have eF : aF (o % 64) = .object "java/lang/String" := by rw [hc.1]; rfl
  obtain ⟨v0, v62, v64, hw⟩ := g2.1.low r0 (Or.inr (Or.inr hc.2.1))
  obtain ⟨j, hj, rfl⟩ : ∃ j, j < 48 ∧ v = sid j := by
    rcases hw with rfl | ⟨j, hj, q | q⟩
    · omega
    · exact ⟨j, hj, q⟩
    · have := bid_mod j; omega
  obtain ⟨s1, s2, -⟩ := g2.1.2.2.2.2.1 j hj
  obtain ⟨cellV, q1, q2, q3, q4⟩ := (hF.2.2.1.1 j hj).1
  have eV : cvv vF ad (3, sid j) = .ref (adS j) := by rw [← s2]; exact cv_ref v0 v62
  have n5' := n5
  rw [eF] at n5'
  obtain ⟨kA, comp, k1, k2, k3, -⟩ := n5'
  obtain ⟨kE, hkE, -⟩ := Vm.findClass_spec k3
  obtain ⟨kC, hkC, -⟩ := Vm.findClass_spec q3
  rw [e0, eV]
  refine W.aast hx hb n3 (fun q h => by cases h) (fun h => by cases h) k1 k2 rfl hkE ⟨fun q => a1 (Or.inl q), Nat.lt_of_not_le fun q => a1 (Or.inr q)⟩ (v := adS j) (cv := cellV) (by rw [g2.1.1.2 _ (Nat.lt_of_not_le q4)]; exact q1) (fun q h => by rw [h] at q2; cases q2) hkC (vb_asgS _ _ k3 q3) rfl rfl hdg fun H' e1 e2 e3 => ?_
  exact kk _ _ _ _ _ _ _ _ (g2.st_ar r2 (by omega) (by omega) hc.2.2.1 hc.2.2.2.1 hc.2.2.2.2 (by rw [eT]; exact r0) n3 n4 n5 (by rw [e1, eT]; rw [← eV]) e2 e3)
theorem i_nlt0 {x : Int} (h0 : 0 ≤ x) (h1 : x ≤ 2147483647) : ¬ Int32.ofInt x < 0 := fun q => by
  have := (i_ltE (x := x) (y := 0) (by omega) (by constructor <;> decide)).mp q
  omega
theorem k_arraycopy (hx : p.tables.exec = Jvm.exec) (hb : c.code = cc) (hvF : vF = .null ∨ ∃ a, vF = .ref a) (hml : c.maxLocals = ls.length) (hFr : 1 ≤ R.frames) (hLo : 40 ≤ R.locals) {own : String} {index : Nat} (hown : s.vm.findClass own = some m.cls) (hts : ∀ w ∈ BIG, w.before args s = true) (hZ : FZ fz) (hw : Jvm.Cond.methodLink own index arraycopyName ∈ BIG) {o sp d dp n : Int}
    (hc : wds st ≤ 8 ∧ (o % 64 = 32 ∨ o % 64 = 33) ∧ d % 64 = o % 64 ∧ o ≠ d ∧ 0 ≤ sp ∧ 0 ≤ dp ∧ 0 ≤ n ∧ sp + n ≤ rd fz h o (-1) ∧ dp + n ≤ rd fz h d (-1)) (hdg : decode cc pc = .ok (.invokestatic index, 3))
    (kk : Kn p l e R s m args below meth c Q (ST fz base H0 hI dC dI vF adS adV bS s R hE al0 ad0) (pc + 3) ls st (acp h o sp d dp n)) : Kn p l e R s m args below meth c Q (ST fz base H0 hI dC dI vF adS adV bS s R hE al0 ad0) pc ls ((0, n) :: (0, dp) :: (3, d) :: (0, sp) :: (3, o) :: st) h := by
  intro al ad H locs cells slots lc sc g
  obtain ⟨sc0, rfl, r0, g0⟩ := g.pop
  obtain ⟨sc1, rfl, r1, g1⟩ := g0.pop
  obtain ⟨sc2, rfl, r2, g2⟩ := g1.pop
  obtain ⟨sc3, rfl, r3, g3⟩ := g2.pop
  obtain ⟨sc4, rfl, r4, g4⟩ := g3.pop
  obtain ⟨c1, c2, c3, c4, c5, c6, c7, c8, c9⟩ := hc
  have r0 : -2147483648 ≤ n ∧ n ≤ 2147483647 := r0
  have r1 : -2147483648 ≤ dp ∧ dp ≤ 2147483647 := r1
  have r3 : -2147483648 ≤ sp ∧ sp ≤ 2147483647 := r3
  obtain ⟨oa, o64, o0, o62⟩ := g4.1.arr r4 (by omega) (by omega)
  obtain ⟨da, d64, d0, d62⟩ := g4.1.arr r2 (by omega) (by omega)
  obtain ⟨osw, oba, -⟩ := g4.1.2.1 o oa o64
  obtain ⟨dsw, dba, -⟩ := g4.1.2.1 d da d64
  obtain ⟨m0, m1, m2, cO, m3, m4, m5⟩ := osw.2 (by omega)
  obtain ⟨n0, n1, n2, cD, n3, n4, n5⟩ := dsw.2 (by omega)
  have hne : ad o ≠ ad d := fun q => c4 (g4.1.2.2.1 o d oa da o64 d64 q)
  have eo : cvv vF ad (3, o) = .ref (ad o) := cv_ref o0 o62
  have ed : cvv vF ad (3, d) = .ref (ad d) := cv_ref d0 d62
  rw [c3] at n2 n3 n4 n5
  have eN : (Int32.ofInt n).toNatClampNeg = n.toNat := i_clamp c7 (by omega)
  have eS : (Int32.ofInt sp).toNatClampNeg = sp.toNat := i_clamp c5 (by omega)
  have eD : (Int32.ofInt dp).toNatClampNeg = dp.toNat := i_clamp c6 (by omega)
  have hfr : ∀ (q : Int) (i : Int), 0 ≤ i → (q % 64 = 32 ∨ q % 64 = 33) → rd fz h q i = h q i := fun q i hi hk => by unfold rd; rw [hZ.1 q i hi (by omega)]
  have hp : refKind (aF (o % 64)) = false := by rcases c2 with q | q <;> rw [q] <;> rfl
  have hfi : ∀ x : Int, fits (aF (o % 64)) (cv vF ad (aT (o % 64)) x) = true := by intro x; rcases c2 with q | q <;> rw [q] <;> rfl
  have htk : ∀ (T : State) (cm : ClassId) (x : Int), T.takes cm (cv vF ad (aT (o % 64)) x) := by intro T cm x; rcases c2 with q | q <;> rw [q] <;> exact trivial
  have hsum : (sc4.map fun v => v.category).sum = wds st := g4.wsum hvF
  rw [eo, ed]
  intro T hT X
  obtain ⟨-, k0, hk0, cm0, hkk0⟩ := m4 (rd fz h o (-1)).toNat (fun j => cv vF ad (aT (o % 64)) (rd fz h o j))
  obtain ⟨-, k1, hk1, cm1, hkk1⟩ := n4 (rd fz h d (-1)).toNat (fun j => cv vF ad (aT (o % 64)) (rd fz h d j))
  obtain ⟨vm', X', step⟩ := X.arraycopy hx hown (hts _ hw) (hts _ (lwB_in FS8 _ (List.mem_of_getElem? (i := 0) rfl))) (hts _ (lwB_in FS8 _ (List.mem_of_getElem? (i := 1) rfl))) (hts _ (lwB_in FS8 _ (List.mem_of_getElem? (i := 2) rfl))) (src := ad o) (dst := ad d) (cs := arrV cO (rd fz h o (-1)).toNat (fun j => cv vF ad (aT (o % 64)) (rd fz h o j))) (cd := arrV cD (rd fz h d (-1)).toNat (fun j => cv vF ad (aT (o % 64)) (rd fz h d j))) (srcPos := Int32.ofInt sp) (destPos := Int32.ofInt dp) (n := Int32.ofInt n) (by rw [hT]; exact m3) (by rw [hT]; exact n3)
    (fun _ h => by cases h) (fun _ h => by cases h) (fun h => by cases h) (fun h => by cases h) hk0 hk1 hkk0 hkk1 (by simp [hp]) (i_nlt0 c5 (by omega)) (i_nlt0 c6 (by omega)) (i_nlt0 c7 (by omega))
    (by rw [i_ofr r3, i_ofr r0, arrV_size]; omega) (by rw [i_ofr r1, i_ofr r0, arrV_size]; omega)
    (fun vm₁ _ i hi => by
      have e : (arrV cO (rd fz h o (-1)).toNat (fun j => cv vF ad (aT (o % 64)) (rd fz h o j))).slots.getD ((Int32.ofInt sp).toNatClampNeg + i) .null = cv vF ad (aT (o % 64)) (rd fz h o (((Int32.ofInt sp).toNatClampNeg + i : Nat) : Int)) := by
        rw [Array.getD_eq_getD_getElem?, arrV_read _ _ (by omega)]
        rfl
      rw [e]
      exact ⟨hfi _, htk _ _ _⟩)
    (g := F0 m pc lc (.int (Int32.ofInt n) :: .int (Int32.ofInt dp) :: .ref (ad d) :: .int (Int32.ofInt sp) :: .ref (ad o) :: sc4)) rfl (by show lc.size = _; rw [hml, g4.lcs]) (rest := sc4) rfl (by rw [hb]; exact hdg) hFr (by
      have : nativeFrameWords "java/lang/System" "arraycopy" 5 + 11 ≤ 18 := by decide
      show 2 * 0 + _ + _ ≤ _
      omega)
  have e1 : copied (arrV cO (rd fz h o (-1)).toNat (fun j => cv vF ad (aT (o % 64)) (rd fz h o j))) (arrV cD (rd fz h d (-1)).toNat (fun j => cv vF ad (aT (o % 64)) (rd fz h d j))) (Int32.ofInt sp) (Int32.ofInt dp) (Int32.ofInt n) = arrV cD (rd fz h d (-1)).toNat (fun j => cv vF ad (aT (o % 64)) (va_cpy (fun j : Nat => rd fz h o j) (fun j : Nat => rd fz h d j) (Int32.ofInt sp).toNatClampNeg (Int32.ofInt dp).toNatClampNeg (Int32.ofInt n).toNatClampNeg j)) :=
    va_copied (fun z => cv vF ad (aT (o % 64)) z) cO cD _ _ (by omega)
  rw [e1] at X' step
  generalize hcell : arrV cD (rd fz h d (-1)).toNat (fun j => cv vF ad (aT (o % 64)) (va_cpy (fun j : Nat => rd fz h o j) (fun j : Nat => rd fz h d j) (Int32.ofInt sp).toNatClampNeg (Int32.ofInt dp).toNatClampNeg (Int32.ofInt n).toNatClampNeg j)) = cell at X' step
  have hl : ad d < H.size := (Array.getElem?_eq_some_iff.mp n3).1
  have hheap : ((T.setVm vm').setCell (ad d) cell).heap = H.setIfInBounds (ad d) cell := by rw [← hT]; rfl
  have oq : ∀ q : Nat, q ≠ ad d → (H.setIfInBounds (ad d) cell)[q]? = H[q]? := fun q hq => by simp [Array.getElem?_setIfInBounds, Ne.symm hq]
  have hac : ∀ z, z ≠ d → acp h o sp d dp n z = h z := fun z hz => by
    funext b
    unfold acp
    rw [if_neg (fun q => hz q.1)]
  have hrd : ∀ i : Int, rd fz (acp h o sp d dp n) d i = if dp ≤ i ∧ i < dp + n then h o (sp + (i - dp)) else rd fz h d i := by
    intro i
    by_cases hi : dp ≤ i ∧ i < dp + n
    · rw [if_pos hi]
      unfold rd
      rw [hZ.1 d i (by omega) (by omega)]
      show acp h o sp d dp n d i = _
      unfold acp
      rw [if_pos ⟨rfl, hi⟩]
    · rw [if_neg hi]
      unfold rd
      cases fz d i with
      | some v => rfl
      | none =>
        show acp h o sp d dp n d i = h d i
        unfold acp
        rw [if_neg (fun q => hi q.2)]
  have hr1 : rd fz (acp h o sp d dp n) d (-1) = rd fz h d (-1) := by rw [hrd, if_neg (by omega)]
  obtain ⟨t, a1, b1⟩ := kk al ad _ _ cells slots lc sc4 (g4.heap (g4.1.put da d64 (H' := H.setIfInBounds (ad d) cell) (by simp) oq hac ⟨fun q => by omega, fun _ => by
      rw [hr1, c3]
      refine ⟨n0, n1, fun j hj => ?_, cD, ?_, n4, n5⟩
      · rw [hrd]
        by_cases hi : dp ≤ (j : Int) ∧ (j : Int) < dp + n
        · rw [if_pos hi, ← hfr o _ (by omega) c2]
          have := m2 (sp + ((j : Int) - dp)).toNat (by omega)
          rw [show (((sp + ((j : Int) - dp)).toNat : Nat) : Int) = sp + ((j : Int) - dp) by omega] at this
          exact this
        · rw [if_neg hi]; exact n2 j hj
      · rw [show (H.setIfInBounds (ad d) cell)[ad d]? = some cell by simp [Array.getElem?_setIfInBounds, hl], ← hcell]
        refine congrArg some (arrV_cg fun j hj => ?_)
        rw [hrd]
        unfold va_cpy
        rw [eS, eD, eN]
        by_cases hi : dp ≤ (j : Int) ∧ (j : Int) < dp + n
        · rw [if_pos hi, if_pos (by omega), ← hfr o _ (by omega) c2]
          show cv vF ad (aT (o % 64)) (rd fz h o ((sp.toNat + (j - dp.toNat) : Nat) : Int)) = _
          rw [show ((sp.toNat + (j - dp.toNat) : Nat) : Int) = sp + ((j : Int) - dp) by omega]
        · rw [if_neg hi, if_neg (by omega)]⟩) (hac 0 (by omega)) (fun q hq => by
        rcases List.mem_append.mp hq with hq | hq
        · exact g4.2.2.2.2.1 q hq
        · obtain ⟨z, -, hz⟩ := List.mem_map.mp hq
          rw [← hz]
          exact dba)) _ hheap X'
  exact ⟨t, step t a1, b1⟩
theorem k_d2l (hx : p.tables.exec = Jvm.exec) (hb : c.code = cc) (hvF : vF = .null ∨ ∃ a, vF = .ref a) (hml : c.maxLocals = ls.length) (hFr : 1 ≤ R.frames) (hLo : 40 ≤ R.locals) {own : String} {index : Nat} (hown : s.vm.findClass own = some m.cls) (hts : ∀ w ∈ BIG, w.before args s = true) (hw : Jvm.Cond.methodLink own index ⟨"java/lang/Double", "doubleToRawLongBits", "(D)J"⟩ ∈ BIG) (hc : wds st ≤ 8) (hdg : decode cc pc = .ok (.invokestatic index, 3))
    (kk : Kn p l e R s m args below meth c Q (ST fz base H0 hI dC dI vF adS adV bS s R hE al0 ad0) (pc + 3) ls ((1, x) :: st) h) : Kn p l e R s m args below meth c Q (ST fz base H0 hI dC dI vF adS adV bS s R hE al0 ad0) pc ls ((2, x) :: st) h := by
  intro al ad H locs cells slots lc sc g
  obtain ⟨sc1, rfl, r1, g1⟩ := g.pop
  have hsum := g1.wsum hvF
  refine vn_d2l hx hb (by rw [hml, g1.lcs]) hown (hts _ hw) (hts _ (lwB_in FS8 _ (List.mem_of_getElem? (i := 3) rfl))) (hts _ (lwB_in FS8 _ (List.mem_of_getElem? (i := 4) rfl))) (hts _ (lwB_in FS8 _ (List.mem_of_getElem? (i := 7) rfl))) hFr (by omega) hdg ?_
  have k0 := kk _ _ _ _ _ _ _ _ (g1.push (v := (1, x)) r1)
  have e : (d_U x).toInt64 = Int64.ofInt x := by unfold d_U; exact Int64.toInt64_toUInt64 _
  rw [e]
  exact k0
theorem k_f2d (hx : p.tables.exec = Jvm.exec) (hb : c.code = cc) (hvF : vF = .null ∨ ∃ a, vF = .ref a) (hml : c.maxLocals = ls.length) (hFr : 1 ≤ R.frames) (hLo : 40 ≤ R.locals) {own : String} {index : Nat} (hown : s.vm.findClass own = some m.cls) (hts : ∀ w ∈ BIG, w.before args s = true) (hw : Jvm.Cond.methodLink own index ⟨"java/lang/Double", "longBitsToDouble", "(J)D"⟩ ∈ BIG) (hc : vn_snl2d (Int64.ofInt x) = false ∧ wds st ≤ 8) (hdg : decode cc pc = .ok (.invokestatic index, 3))
    (kk : Kn p l e R s m args below meth c Q (ST fz base H0 hI dC dI vF adS adV bS s R hE al0 ad0) (pc + 3) ls ((2, x) :: st) h) : Kn p l e R s m args below meth c Q (ST fz base H0 hI dC dI vF adS adV bS s R hE al0 ad0) pc ls ((1, x) :: st) h := by
  intro al ad H locs cells slots lc sc g
  obtain ⟨sc1, rfl, r1, g1⟩ := g.pop
  have hsum := g1.wsum hvF
  exact vn_l2d hx hb (by rw [hml, g1.lcs]) hown (hts _ hw) (hts _ (lwB_in FS8 _ (List.mem_of_getElem? (i := 5) rfl))) (hts _ (lwB_in FS8 _ (List.mem_of_getElem? (i := 6) rfl))) (hts _ (lwB_in FS8 _ (List.mem_of_getElem? (i := 7) rfl))) hc.1 hFr (by omega) hdg (kk _ _ _ _ _ _ _ _ (g1.push (v := (2, x)) r1))
theorem k_maxI (hx : p.tables.exec = Jvm.exec) (hb : c.code = cc) (hvF : vF = .null ∨ ∃ a, vF = .ref a) (hml : c.maxLocals = ls.length) (hFr : 1 ≤ R.frames) (hLo : 40 ≤ R.locals) {own : String} {index : Nat} (hown : s.vm.findClass own = some m.cls) (hts : ∀ w ∈ BIG, w.before args s = true) (hw : Jvm.Cond.methodLink own index Lib.Math.max.name ∈ BIG) (hcnt : h 0 0 ≤ hE 0 0 ∧ h 0 1 ≤ hE 0 1) (hc : wds st ≤ 8) (hdg : decode cc pc = .ok (.invokestatic index, 3))
    (kk : Kn p l e R s m args below meth c Q (ST fz base H0 hI dC dI vF adS adV bS s R hE al0 ad0) (pc + 3) ls ((0, max x y) :: st) h) : Kn p l e R s m args below meth c Q (ST fz base H0 hI dC dI vF adS adV bS s R hE al0 ad0) pc ls ((0, y) :: (0, x) :: st) h := by
  intro al ad H locs cells slots lc sc g
  obtain ⟨sc1, rfl, r1, g1⟩ := g.pop
  obtain ⟨sc2, rfl, r2, g2⟩ := g1.pop
  have g6 := g.2.2.2.2.2.1
  have g7 := g.2.2.2.2.2.2
  have hsum := g2.wsum hvF
  refine va_mmax hx hb (by rw [hml, g2.lcs]) hown (hts _ hw) (hts _ (lwB_in FS8 _ (List.mem_of_getElem? (i := 8) rfl))) (hts _ (lwB_in FS8 _ (List.mem_of_getElem? (i := 18) rfl))) (hts _ (lwB_in FS8 _ (List.mem_of_getElem? (i := 9) rfl))) hFr (by omega) (by omega) (by omega) hdg ?_
  have ry := r1
  have rx := r2
  have e : (if Int32.ofInt x < Int32.ofInt y then Int32.ofInt y else Int32.ofInt x) = Int32.ofInt (max x y) := by
    by_cases q : x < y
    · rw [if_pos ((i_ltE rx ry).mpr q)]
      congr 1
      omega
    · rw [if_neg (fun z => q ((i_ltE rx ry).mp z))]
      congr 1
      omega
  rw [e]
  refine kk _ _ _ _ _ _ _ _ (g2.push (v := (0, max x y)) ?_)
  have ry : _ ≤ y ∧ y ≤ _ := r1
  have rx : _ ≤ x ∧ x ≤ _ := r2
  exact ⟨by show _ ≤ max x y; omega, by show max x y ≤ _; omega⟩
theorem k_minI (hx : p.tables.exec = Jvm.exec) (hb : c.code = cc) (hvF : vF = .null ∨ ∃ a, vF = .ref a) (hml : c.maxLocals = ls.length) (hFr : 1 ≤ R.frames) (hLo : 40 ≤ R.locals) {own : String} {index : Nat} (hown : s.vm.findClass own = some m.cls) (hts : ∀ w ∈ BIG, w.before args s = true) (hw : Jvm.Cond.methodLink own index Lib.Math.min.name ∈ BIG) (hcnt : h 0 0 ≤ hE 0 0 ∧ h 0 1 ≤ hE 0 1) (hc : wds st ≤ 8) (hdg : decode cc pc = .ok (.invokestatic index, 3))
    (kk : Kn p l e R s m args below meth c Q (ST fz base H0 hI dC dI vF adS adV bS s R hE al0 ad0) (pc + 3) ls ((0, min x y) :: st) h) : Kn p l e R s m args below meth c Q (ST fz base H0 hI dC dI vF adS adV bS s R hE al0 ad0) pc ls ((0, y) :: (0, x) :: st) h := by
  intro al ad H locs cells slots lc sc g
  obtain ⟨sc1, rfl, r1, g1⟩ := g.pop
  obtain ⟨sc2, rfl, r2, g2⟩ := g1.pop
  have g6 := g.2.2.2.2.2.1
  have g7 := g.2.2.2.2.2.2
  have hsum := g2.wsum hvF
  refine va_mmin hx hb (by rw [hml, g2.lcs]) hown (hts _ hw) (hts _ (lwB_in FS8 _ (List.mem_of_getElem? (i := 10) rfl))) (hts _ (lwB_in FS8 _ (List.mem_of_getElem? (i := 18) rfl))) (hts _ (lwB_in FS8 _ (List.mem_of_getElem? (i := 11) rfl))) hFr (by omega) (by omega) (by omega) hdg ?_
  have ry := r1
  have rx := r2
  have e : (if Int32.ofInt y < Int32.ofInt x then Int32.ofInt y else Int32.ofInt x) = Int32.ofInt (min x y) := by
    by_cases q : y < x
    · rw [if_pos ((i_ltE ry rx).mpr q)]
      congr 1
      omega
    · rw [if_neg (fun z => q ((i_ltE ry rx).mp z))]
      congr 1
      omega
  rw [e]
  refine kk _ _ _ _ _ _ _ _ (g2.push (v := (0, min x y)) ?_)
  have ry : _ ≤ y ∧ y ≤ _ := r1
  have rx : _ ≤ x ∧ x ≤ _ := r2
  exact ⟨by show _ ≤ min x y; omega, by show min x y ≤ _; omega⟩
theorem k_maxL (hx : p.tables.exec = Jvm.exec) (hb : c.code = cc) (hvF : vF = .null ∨ ∃ a, vF = .ref a) (hml : c.maxLocals = ls.length) (hFr : 1 ≤ R.frames) (hLo : 40 ≤ R.locals) {own : String} {index : Nat} (hown : s.vm.findClass own = some m.cls) (hts : ∀ w ∈ BIG, w.before args s = true) (hw : Jvm.Cond.methodLink own index Lib.MathLoose.max_long.x ∈ BIG) (hcnt : h 0 0 ≤ hE 0 0 ∧ h 0 1 ≤ hE 0 1) (hc : wds st ≤ 8) (hdg : decode cc pc = .ok (.invokestatic index, 3))
    (kk : Kn p l e R s m args below meth c Q (ST fz base H0 hI dC dI vF adS adV bS s R hE al0 ad0) (pc + 3) ls ((1, max x y) :: st) h) : Kn p l e R s m args below meth c Q (ST fz base H0 hI dC dI vF adS adV bS s R hE al0 ad0) pc ls ((1, y) :: (1, x) :: st) h := by
  intro al ad H locs cells slots lc sc g
  obtain ⟨sc1, rfl, r1, g1⟩ := g.pop
  obtain ⟨sc2, rfl, r2, g2⟩ := g1.pop
  have g6 := g.2.2.2.2.2.1
  have g7 := g.2.2.2.2.2.2
  have hsum := g2.wsum hvF
  refine va_mmax_long hx hb (by rw [hml, g2.lcs]) hown (hts _ hw) (hts _ (lwB_in FS8 _ (List.mem_of_getElem? (i := 12) rfl))) (hts _ (lwB_in FS8 _ (List.mem_of_getElem? (i := 18) rfl))) (hts _ (lwB_in FS8 _ (List.mem_of_getElem? (i := 13) rfl))) hFr (by omega) (by omega) (by omega) hdg ?_
  have ry := r1
  have rx := r2
  have e : (if Int64.ofInt y < Int64.ofInt x then Int64.ofInt x else Int64.ofInt y) = Int64.ofInt (max x y) := by
    by_cases q : y < x
    · rw [if_pos ((l_ltE ry rx).mpr q)]
      congr 1
      omega
    · rw [if_neg (fun z => q ((l_ltE ry rx).mp z))]
      congr 1
      omega
  rw [e]
  refine kk _ _ _ _ _ _ _ _ (g2.push (v := (1, max x y)) ?_)
  have ry : _ ≤ y ∧ y ≤ _ := r1
  have rx : _ ≤ x ∧ x ≤ _ := r2
  exact ⟨by show _ ≤ max x y; omega, by show max x y ≤ _; omega⟩
theorem k_minL (hx : p.tables.exec = Jvm.exec) (hb : c.code = cc) (hvF : vF = .null ∨ ∃ a, vF = .ref a) (hml : c.maxLocals = ls.length) (hFr : 1 ≤ R.frames) (hLo : 40 ≤ R.locals) {own : String} {index : Nat} (hown : s.vm.findClass own = some m.cls) (hts : ∀ w ∈ BIG, w.before args s = true) (hw : Jvm.Cond.methodLink own index Lib.MathLoose.min_long.x ∈ BIG) (hcnt : h 0 0 ≤ hE 0 0 ∧ h 0 1 ≤ hE 0 1) (hc : wds st ≤ 8) (hdg : decode cc pc = .ok (.invokestatic index, 3))
    (kk : Kn p l e R s m args below meth c Q (ST fz base H0 hI dC dI vF adS adV bS s R hE al0 ad0) (pc + 3) ls ((1, min x y) :: st) h) : Kn p l e R s m args below meth c Q (ST fz base H0 hI dC dI vF adS adV bS s R hE al0 ad0) pc ls ((1, y) :: (1, x) :: st) h := by
  intro al ad H locs cells slots lc sc g
  obtain ⟨sc1, rfl, r1, g1⟩ := g.pop
  obtain ⟨sc2, rfl, r2, g2⟩ := g1.pop
  have g6 := g.2.2.2.2.2.1
  have g7 := g.2.2.2.2.2.2
  have hsum := g2.wsum hvF
  refine va_mmin_long hx hb (by rw [hml, g2.lcs]) hown (hts _ hw) (hts _ (lwB_in FS8 _ (List.mem_of_getElem? (i := 14) rfl))) (hts _ (lwB_in FS8 _ (List.mem_of_getElem? (i := 18) rfl))) (hts _ (lwB_in FS8 _ (List.mem_of_getElem? (i := 15) rfl))) hFr (by omega) (by omega) (by omega) hdg ?_
  have ry := r1
  have rx := r2
  have e : (if Int64.ofInt y < Int64.ofInt x then Int64.ofInt y else Int64.ofInt x) = Int64.ofInt (min x y) := by
    by_cases q : y < x
    · rw [if_pos ((l_ltE ry rx).mpr q)]
      congr 1
      omega
    · rw [if_neg (fun z => q ((l_ltE ry rx).mp z))]
      congr 1
      omega
  rw [e]
  refine kk _ _ _ _ _ _ _ _ (g2.push (v := (1, min x y)) ?_)
  have ry : _ ≤ y ∧ y ≤ _ := r1
  have rx : _ ≤ x ∧ x ≤ _ := r2
  exact ⟨by show _ ≤ min x y; omega, by show min x y ≤ _; omega⟩
theorem k_absL (hx : p.tables.exec = Jvm.exec) (hb : c.code = cc) (hvF : vF = .null ∨ ∃ a, vF = .ref a) (hml : c.maxLocals = ls.length) (hFr : 1 ≤ R.frames) (hLo : 40 ≤ R.locals) {own : String} {index : Nat} (hown : s.vm.findClass own = some m.cls) (hts : ∀ w ∈ BIG, w.before args s = true) (hw : Jvm.Cond.methodLink own index Lib.MathLoose.abs_long.x ∈ BIG) (hcnt : h 0 0 ≤ hE 0 0 ∧ h 0 1 ≤ hE 0 1) (hc : wds st ≤ 8) (hdg : decode cc pc = .ok (.invokestatic index, 3))
    (kk : Kn p l e R s m args below meth c Q (ST fz base H0 hI dC dI vF adS adV bS s R hE al0 ad0) (pc + 3) ls ((1, max x (w64 (-x))) :: st) h) : Kn p l e R s m args below meth c Q (ST fz base H0 hI dC dI vF adS adV bS s R hE al0 ad0) pc ls ((1, x) :: st) h := by
  intro al ad H locs cells slots lc sc g
  obtain ⟨sc1, rfl, r1, g1⟩ := g.pop
  have g6 := g.2.2.2.2.2.1
  have g7 := g.2.2.2.2.2.2
  have hsum := g1.wsum hvF
  refine va_mabs_long hx hb (by rw [hml, g1.lcs]) hown (hts _ hw) (hts _ (lwB_in FS8 _ (List.mem_of_getElem? (i := 16) rfl))) (hts _ (lwB_in FS8 _ (List.mem_of_getElem? (i := 18) rfl))) (hts _ (lwB_in FS8 _ (List.mem_of_getElem? (i := 17) rfl))) hFr (by omega) (by omega) (by omega) hdg ?_
  have rx : -9223372036854775808 ≤ x ∧ x ≤ 9223372036854775807 := r1
  have hw := w64_rng (-x)
  have e : (if 0 < Int64.ofInt x then Int64.ofInt x else -Int64.ofInt x) = Int64.ofInt (max x (w64 (-x))) := by
    by_cases q : 0 < x
    · have q' : (0 : Int64) < Int64.ofInt x := (l_ltE (x := 0) (by constructor <;> decide) rx).mpr q
      rw [if_pos q']
      congr 1
      have := w64_id (x := -x) (by omega)
      omega
    · have q' : ¬ (0 : Int64) < Int64.ofInt x := fun z => q ((l_ltE (x := 0) (by constructor <;> decide) rx).mp z)
      rw [if_neg q', l_negE]
      congr 1
      by_cases q2 : x = -9223372036854775808
      · subst q2; decide
      · have := w64_id (x := -x) (by omega)
        omega
  rw [e]
  refine kk _ _ _ _ _ _ _ _ (g1.push (v := (1, max x (w64 (-x)))) ?_)
  exact ⟨by show _ ≤ max x (w64 (-x)); omega, by show max x (w64 (-x)) ≤ _; omega⟩
theorem k_objInit (hx : p.tables.exec = Jvm.exec) (hb : c.code = cc) (hvF : vF = .null ∨ ∃ a, vF = .ref a) (hml : c.maxLocals = ls.length) (hFr : 1 ≤ R.frames) (hLo : 40 ≤ R.locals) {own : String} {index : Nat} (hown : s.vm.findClass own = some m.cls) (hts : ∀ w ∈ BIG, w.before args s = true) (hw : Jvm.Cond.methodLink own index Lib.objectInit ∈ BIG) {o : Int} (hc : o ≠ 0 ∧ o ≠ 62 ∧ wds st ≤ 8) (hdg : decode cc pc = .ok (.invokespecial index, 3))
    (kk : Kn p l e R s m args below meth c Q (ST fz base H0 hI dC dI vF adS adV bS s R hE al0 ad0) (pc + 3) ls st h) : Kn p l e R s m args below meth c Q (ST fz base H0 hI dC dI vF adS adV bS s R hE al0 ad0) pc ls ((3, o) :: st) h := by
  intro al ad H locs cells slots lc sc g
  obtain ⟨sc1, rfl, r1, g1⟩ := g.pop
  have hsum := g1.wsum hvF
  have e0 : cvv vF ad (3, o) = .ref (ad o) := cv_ref hc.1 hc.2.1
  rw [e0]
  exact W.objInit hx hb hown (hts _ hw) (hts _ (lwB_in FS8 _ (List.mem_of_getElem? (i := 19) rfl))) (hts _ (lwB_in FS8 _ (List.mem_of_getElem? (i := 20) rfl))) rfl (by show lc.size = _; rw [hml, g1.lcs]) rfl hdg hFr (by show 2 * 0 + _ + _ ≤ _; omega) (kk _ _ _ _ _ _ _ _ g1)
theorem ldcw_S {H : Heap} {locs : List Loc} {cells slots : Nat} {lsx : Array Slot} {rest : List Value} (hexec : p.tables.exec = Jvm.exec) (hb : c.code = cc) {own tx : String} {index q : Nat} (hown : s.vm.findClass own = some m.cls) (hZ : vk_R own index tx q s) (hdg : decode cc pc = .ok (.ldc_w index, 3))
    (k : W p l e R s m args below meth c H locs cells slots Q (F0 m (pc + 3) lsx (.ref q :: rest))) : W p l e R s m args below meth c H locs cells slots Q (F0 m pc lsx rest) := by
  intro T hT X
  obtain ⟨t, a1, b1⟩ := k T hT X
  refine ⟨t, ?_, b1⟩
  obtain ⟨k, cf, i, a', hk, hcf, hcp, -, hr, hev'⟩ := Cond.stringRef_spec hown hZ.1
  cases hZ.2.symm.trans hev'
  obtain ⟨k', hk', he⟩ := X.warmed.alike.2.2 _ _ hk
  have hr' : k'.resolved[index]? = some (some (.string q)) := by
    rcases X.warmed.entry hk hk' index with h | ⟨h, -⟩
    · rw [h]; exact hr
    · rw [hr] at h; cases h
  have hdg' : decode c.code (F0 m pc lsx rest).pc = .ok (.ldc_w index, 3) := by rw [hb]; exact hdg
  jvm_step X.here [hexec, hdg', ldc_w.wp_string (e := e) (s := T) (f := F0 m pc lsx rest) X.here.top hk' (by rw [he]; exact hcf) hcp hr']
  exact a1
theorem k_ldcS (hx : p.tables.exec = Jvm.exec) (hb : c.code = cc) {own : String} {index j : Nat} (hj : j < 48) (hown : s.vm.findClass own = some m.cls) (hF : FA base H0 dC dI vF adS adV bS len byt L xs s) (hw : (own, index, j) ∈ SRL) {ln : Nat} (hdg : (ln = 2 ∧ decode cc pc = .ok (.ldc index, 2)) ∨ (ln = 3 ∧ decode cc pc = .ok (.ldc_w index, 3)))
    (kk : Kn p l e R s m args below meth c Q (ST fz base H0 hI dC dI vF adS adV bS s R hE al0 ad0) (pc + ln) ls ((3, sid j) :: st) h) : Kn p l e R s m args below meth c Q (ST fz base H0 hI dC dI vF adS adV bS s R hE al0 ad0) pc ls st h := by
  intro al ad H locs cells slots lc sc g
  obtain ⟨s1, s2, -⟩ := g.1.2.2.2.2.1 j hj
  have hR := hF.2.1 _ hw
  have hm := sid_mod j
  have eV : cvv vF ad (3, sid j) = .ref (adS j) := by rw [← s2]; exact cv_ref (by omega) (by omega)
  have k0 := kk _ _ _ _ _ _ _ _ (g.push (v := (3, sid j)) (Or.inr (Or.inr s1)))
  rw [eV] at k0
  rcases hdg with ⟨rfl, hdg⟩ | ⟨rfl, hdg⟩
  · exact va_ldcS hx hb hown hR hdg k0
  · exact ldcw_S hx hb hown hR hdg k0
theorem k_getC (hx : p.tables.exec = Jvm.exec) (hb : c.code = cc) {own : String} {index : Nat} (hown : s.vm.findClass own = some m.cls) (hts : ∀ w ∈ BIG, w.before args s = true) (hF : FA base H0 dC dI vF adS adV bS len byt L xs s) (hw : Jvm.Cond.fieldLink own index "java/lang/String" "COMPACT_STRINGS" "Z" ∈ BIG) (hdg : decode cc pc = .ok (.getstatic index, 3))
    (kk : Kn p l e R s m args below meth c Q (ST fz base H0 hI dC dI vF adS adV bS s R hE al0 ad0) (pc + 3) ls ((0, 1) :: st) h) : Kn p l e R s m args below meth c Q (ST fz base H0 hI dC dI vF adS adV bS s R hE al0 ad0) pc ls st h := by
  intro al ad H locs cells slots lc sc g
  obtain ⟨cf, kf, fi, f, a, cell, h1, h2, h3, h4, h5, h6, h7, h8⟩ := hF.2.2.2.2.2.1
  exact W.gets hx hb hown (hts _ hw) h1 h2 h3 h4 (by rw [g.1.1.2 _ (Nat.lt_of_not_le h8)]; exact h5) (fun e => by rw [e] at h6; cases h6) h7 rfl hdg (kk _ _ _ _ _ _ _ _ (g.push (v := (0, 1)) (show rng al 0 1 from ⟨by decide, by decide⟩)))
theorem k_getF (hx : p.tables.exec = Jvm.exec) (hb : c.code = cc) {own : String} {index : Nat} (hown : s.vm.findClass own = some m.cls) (hts : ∀ w ∈ BIG, w.before args s = true) (hF : FA base H0 dC dI vF adS adV bS len byt L xs s) (hw : Jvm.Cond.fieldLink own index "jdk/internal/util/Preconditions" "SIOOBE_FORMATTER" "Ljava/util/function/BiFunction;" ∈ BIG) (hdg : decode cc pc = .ok (.getstatic index, 3))
    (kk : Kn p l e R s m args below meth c Q (ST fz base H0 hI dC dI vF adS adV bS s R hE al0 ad0) (pc + 3) ls ((3, 62) :: st) h) : Kn p l e R s m args below meth c Q (ST fz base H0 hI dC dI vF adS adV bS s R hE al0 ad0) pc ls st h := by
  intro al ad H locs cells slots lc sc g
  obtain ⟨cf, kf, fi, f, a, cell, h1, h2, h3, h4, h5, h6, h7, h8⟩ := hF.2.2.2.2.2.2.1
  exact W.gets hx hb hown (hts _ hw) h1 h2 h3 h4 (by rw [g.1.1.2 _ (Nat.lt_of_not_le h8)]; exact h5) (fun e => by rw [e] at h6; cases h6) h7 rfl hdg (kk _ _ _ _ _ _ _ _ (g.push (v := (3, 62)) (Or.inr (Or.inl rfl))))
theorem k_strV (hx : p.tables.exec = Jvm.exec) (hb : c.code = cc) {own : String} {index : Nat} (hown : s.vm.findClass own = some m.cls) (hts : ∀ w ∈ BIG, w.before args s = true) (hF : FA base H0 dC dI vF adS adV bS len byt L xs s) (hH : HIok hI len byt L xs) (hZ : FZ fz) (hw : Jvm.Cond.fieldLink own index "java/lang/String" "value" "[B" ∈ BIG) {o : Int} (hk : o % 64 = 13) (hdg : decode cc pc = .ok (.getfield index, 3))
    (kk : Kn p l e R s m args below meth c Q (ST fz base H0 hI dC dI vF adS adV bS s R hE al0 ad0) (pc + 3) ls ((3, rd fz h o 0) :: st) h) : Kn p l e R s m args below meth c Q (ST fz base H0 hI dC dI vF adS adV bS s R hE al0 ad0) pc ls ((3, o) :: st) h := by
  intro al ad H locs cells slots lc sc g
  obtain ⟨sc1, rfl, r1, g1⟩ := g.pop
  obtain ⟨h0, h62, h64, hw'⟩ := g1.1.low r1 (Or.inr (Or.inr hk))
  obtain ⟨j, hj, rfl⟩ : ∃ j, j < 48 ∧ o = sid j := by
    rcases hw' with rfl | ⟨j, hj, q | q⟩
    · omega
    · exact ⟨j, hj, q⟩
    · have := bid_mod j; omega
  obtain ⟨s1, s2, s3, s4⟩ := g1.1.2.2.2.2.1 j hj
  have hm := bid_mod j
  have eV : cvv vF ad (3, sid j) = .ref (adS j) := by rw [← s2]; exact cv_ref h0 h62
  have eB : cvv vF ad (3, bid j) = .ref (adV j) := by rw [← s4]; exact cv_ref (by omega) (by omega)
  have hr : rd fz h (sid j) 0 = bid j := by
    unfold rd
    rw [hZ.2.2 _ 0 h64]
    show h (sid j) 0 = _
    rw [g1.1.2.2.2.2.2.2.1 _ h64 h0]
    exact (hH.1 j hj).1
  rw [hr] at kk
  obtain ⟨cf, kf, fi, f, cell, q1, q2, q3, q4, q5, q6⟩ := (hF.2.2.1.1 j hj).2.2.1
  have k0 := kk _ _ _ _ _ _ _ _ (g1.push (v := (3, bid j)) (Or.inr (Or.inr s3)))
  rw [eB] at k0
  rw [eV]
  exact W.getf hx hb hown (hts _ hw) q1 q2 (by rw [g1.1.1.2 _ (Nat.lt_of_not_le q6)]; exact q3) q4 q5 rfl rfl hdg k0
theorem k_strC (hx : p.tables.exec = Jvm.exec) (hb : c.code = cc) {own : String} {index : Nat} (hown : s.vm.findClass own = some m.cls) (hts : ∀ w ∈ BIG, w.before args s = true) (hF : FA base H0 dC dI vF adS adV bS len byt L xs s) (hH : HIok hI len byt L xs) (hZ : FZ fz) (hw : Jvm.Cond.fieldLink own index "java/lang/String" "coder" "B" ∈ BIG) {o : Int} (hk : o % 64 = 13) (hdg : decode cc pc = .ok (.getfield index, 3))
    (kk : Kn p l e R s m args below meth c Q (ST fz base H0 hI dC dI vF adS adV bS s R hE al0 ad0) (pc + 3) ls ((0, rd fz h o 1) :: st) h) : Kn p l e R s m args below meth c Q (ST fz base H0 hI dC dI vF adS adV bS s R hE al0 ad0) pc ls ((3, o) :: st) h := by
  intro al ad H locs cells slots lc sc g
  obtain ⟨sc1, rfl, r1, g1⟩ := g.pop
  obtain ⟨h0, h62, h64, hw'⟩ := g1.1.low r1 (Or.inr (Or.inr hk))
  obtain ⟨j, hj, rfl⟩ : ∃ j, j < 48 ∧ o = sid j := by
    rcases hw' with rfl | ⟨j, hj, q | q⟩
    · omega
    · exact ⟨j, hj, q⟩
    · have := bid_mod j; omega
  obtain ⟨s1, s2, -⟩ := g1.1.2.2.2.2.1 j hj
  have eV : cvv vF ad (3, sid j) = .ref (adS j) := by rw [← s2]; exact cv_ref h0 h62
  have hr : rd fz h (sid j) 1 = 0 := by
    unfold rd
    rw [hZ.2.2 _ 1 h64]
    show h (sid j) 1 = _
    rw [g1.1.2.2.2.2.2.2.1 _ h64 h0]
    exact (hH.1 j hj).2.1
  rw [hr] at kk
  obtain ⟨cf, kf, fi, f, cell, q1, q2, q3, q4, q5, q6⟩ := (hF.2.2.1.1 j hj).2.1
  have k0 := kk _ _ _ _ _ _ _ _ (g1.push (v := (0, 0)) (show rng al 0 0 from ⟨by decide, by decide⟩))
  rw [eV]
  exact W.getf hx hb hown (hts _ hw) q1 q2 (by rw [g1.1.1.2 _ (Nat.lt_of_not_le q6)]; exact q3) q4 q5 rfl rfl hdg k0
end KH7
