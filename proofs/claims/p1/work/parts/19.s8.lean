/-! SOUNDNESS, 8: new long[n][k] -/
theorem alc2_o (h : HV) (n k i : Int) : alc2 h n k (64 * h 0 0 + 37) i = if i = -1 then n else if 0 ≤ i ∧ i < n then 64 * (h 0 0 + 1 + i) + 33 else 0 := by unfold alc2; rw [if_pos rfl]
theorem alc2_r {h : HV} {n k j : Int} (hj : 0 ≤ j ∧ j < n) (i : Int) : alc2 h n k (64 * (h 0 0 + 1 + j) + 33) i = if i = -1 then k else 0 := by unfold alc2; rw [if_neg (by omega), if_pos (by omega)]
theorem alc2_00 {h : HV} {n k : Int} (h1 : 1 ≤ h 0 0) : alc2 h n k 0 0 = h 0 0 + 1 + n := by unfold alc2; rw [if_neg (by omega), if_neg (by omega), if_pos ⟨rfl, rfl⟩]
theorem alc2_01 {h : HV} {n k : Int} (h1 : 1 ≤ h 0 0) : alc2 h n k 0 1 = h 0 1 + n + n * k := by unfold alc2; rw [if_neg (by omega), if_neg (by omega), if_neg (by omega), if_pos ⟨rfl, rfl⟩]
theorem alc2_ot {h : HV} {n k a : Int} (e : a / 64 < h 0 0) (e0 : a ≠ 0) : alc2 h n k a = h a := by
  funext b
  unfold alc2
  rw [if_neg (by omega), if_neg (by omega), if_neg (fun q => e0 q.1), if_neg (fun q => e0 q.1)]
theorem outerC_arrV' (c : ClassId) (N h0 : Nat) : ∀ i, Jvm.Free.Multi.outerC c N h0 i = arrV c N (fun j => if j < i then .ref (h0 + 1 + j) else .null)
  | 0 => (arrV_new c N .null).trans (arrV_cg fun j _ => (if_neg (by omega)).symm)
  | i + 1 => by
    show (Jvm.Free.Multi.outerC c N h0 i).setSlot i (.ref (h0 + 1 + i)) = _
    rw [outerC_arrV' c N h0 i, arrV_store]
    refine arrV_cg fun j _ => ?_
    unfold updV
    by_cases e : j = i
    · rw [if_pos e, if_pos (by omega), e]
    · rw [if_neg e]
      show (if j < i then Value.ref (h0 + 1 + j) else Value.null) = _
      by_cases e2 : j < i
      · rw [if_pos e2, if_pos (by omega)]
      · rw [if_neg e2, if_neg (by omega)]
theorem outerC_arrV (c : ClassId) (N h0 : Nat) : Jvm.Free.Multi.outerC c N h0 N = arrV c N (fun j => .ref (h0 + 1 + j)) :=
  (outerC_arrV' c N h0 N).trans (arrV_cg fun j hj => if_pos hj)
section KH8
variable {p : Program} {l : Launch} {e : Env} {R : Room} {s : State} {m : MethodId} {args : Array Value} {below : List Frame} {meth : Method} {c : Code} {Q : State → Prop}
variable {fz : Int → Int → Option Int} {base : Nat} {H0 : Heap} {hI : HV} {dC : Nat → ClassId} {dI : Nat → Nat → Nat} {vF : Value} {adS adV : Nat → Nat} {bS : Nat} {hE : HV} {al0 : Int → Prop} {ad0 : Int → Nat}
variable {len : List Nat} {byt : List (List Int32)} {L : Nat} {xs : Nat → Int32}
variable {cc : ByteArray} {pc : Nat} {ls st : List AV} {h : HV}
theorem k_multi (hx : p.tables.exec = Jvm.exec) (hb : c.code = cc) {own : String} {index : Nat} (hown : s.vm.findClass own = some m.cls) (hts : ∀ w ∈ BIG, w.before args s = true) (hF : FA base H0 dC dI vF adS adV bS len byt L xs s) (hw : Jvm.Cond.classLink own index "[[J" ∈ BIG) {n k : Int} (hc : 0 ≤ n ∧ n ≤ 1000 ∧ 0 ≤ k ∧ k ≤ 1000 ∧ ∀ o i, h 0 0 ≤ o / 64 → fz o i = none) (hc0 : h 0 0 + 1 + n ≤ hE 0 0) (hc1 : h 0 1 + n + n * k ≤ hE 0 1) (hdg : decode cc pc = .ok (.multianewarray index 2, 4))
    (kk : Kn p l e R s m args below meth c Q (ST fz base H0 hI dC dI vF adS adV bS s R hE al0 ad0) (pc + 4) ls ((3, 64 * h 0 0 + 37) :: st) (alc2 h n k)) : Kn p l e R s m args below meth c Q (ST fz base H0 hI dC dI vF adS adV bS s R hE al0 ad0) pc ls ((0, k) :: (0, n) :: st) h := by
  intro al ad H locs cells slots lc sc g
  obtain ⟨sc1, rfl, r1, g1⟩ := g.pop
  obtain ⟨sc2, rfl, r2, g2⟩ := g1.pop
  obtain ⟨c1, c2, c3, c4, c5⟩ := hc
  have h1 := g.1.2.2.2.2.2.2.2
  have g6 := g.2.2.2.2.2.1
  have g7 := g.2.2.2.2.2.2
  have eN : (Int32.ofInt n).toNatClampNeg = n.toNat := i_clamp c1 (by omega)
  have eK : (Int32.ofInt k).toNatClampNeg = k.toNat := i_clamp c3 (by omega)
  have eM : ((n.toNat * k.toNat : Nat) : Int) = n * k := by
    rw [Int.natCast_mul, Int.toNat_of_nonneg c1, Int.toNat_of_nonneg c3]
  have eM' : ((n.toNat + n.toNat * k.toNat : Nat) : Int) = n + n * k := by
    rw [Int.natCast_add, eM, Int.toNat_of_nonneg c1]
  intro T hT X
  obtain ⟨vm', cA, comp, hW, f1, f2, hO, hI', X', step⟩ := X.multianewarray2F hx (ty := .long) hown (hts _ hw) hF.2.2.2.2.2.2.2.2.2 (hts _ (lwB_in FS7 _ (List.mem_of_getElem? (i := 1) rfl))) (g := F0 m pc lc (.int (Int32.ofInt k) :: .int (Int32.ofInt n) :: sc2)) rfl (by rw [hb]; exact hdg) (n := Int32.ofInt n) (k := Int32.ofInt k) (rest := sc2) rfl (i_nlt0 c1 (by omega)) (i_nlt0 c3 (by omega))
    (by rw [eN]; omega) (by rw [eK]; show k.toNat * 8 ≤ _; omega) (by rw [eK]; omega) rfl rfl (by rw [eN]; omega) (by rw [eN, eK]; omega)
  rw [eN, eK] at X' step
  have q1 := Jvm.Free.Multi.fill_facts (T.setVm vm') cA comp n.toNat k.toNat (defaultValue .long) n.toNat
  have q2 : ∀ a : Nat, a < H.size → _ := fun a ha => Jvm.Free.Multi.fill_old (T.setVm vm') cA comp n.toNat k.toNat (defaultValue .long) (a := a) (show a < T.heap.size by rw [hT]; exact ha) n.toNat
  have q3 := Jvm.Free.Multi.fill_inner (T.setVm vm') cA comp n.toNat k.toNat (defaultValue .long) n.toNat
  have hTh : (T.setVm vm').heap = H := hT
  rw [hTh] at q1 q3
  rw [outerC_arrV] at q1
  have q2 : ∀ a : Nat, a < H.size → (Jvm.Free.Multi.fill (T.setVm vm') cA comp n.toNat k.toNat (defaultValue .long) n.toNat).heap[a]? = H[a]? := fun a ha => (q2 a ha).trans (by rw [hTh])
  generalize hF' : Jvm.Free.Multi.fill (T.setVm vm') cA comp n.toNat k.toNat (defaultValue .long) n.toNat = T' at *
  obtain ⟨z1, z2, -⟩ := q1
  obtain ⟨⟨a1, a2⟩, a3, a4, a5, a6, a7, a8, a9⟩ := g.1
  have hser : ∀ x, al x → 64 ≤ x → x / 64 < h 0 0 := fun x hx h64 => (a3 x hx h64).2.2.2.1
  have hlow : ∀ x, al x → x / 64 < h 0 0 := fun x hx => by
    by_cases h64 : 64 ≤ x
    · exact hser x hx h64
    · omega
  have hrd : ∀ o i, h 0 0 ≤ o / 64 → rd fz (alc2 h n k) o i = alc2 h n k o i := fun o i ho => by unfold rd; rw [c5 o i ho]
  generalize hal : (fun x : Int => al x ∨ x = 64 * h 0 0 + 37 ∨ ∃ j : Int, 0 ≤ j ∧ j < n ∧ x = 64 * (h 0 0 + 1 + j) + 33) = al'
  generalize had : (fun x : Int => if x / 64 < h 0 0 then ad x else H.size + (x / 64 - h 0 0).toNat) = ad'
  have hal1 : ∀ x, al x → al' x := fun x hx => by rw [← hal]; exact Or.inl hx
  have had1 : ∀ x, al x → ad' x = ad x := fun x hx => by rw [← had]; exact if_pos (hlow x hx)
  have had2 : ∀ x, h 0 0 ≤ x / 64 → ad' x = H.size + (x / 64 - h 0 0).toNat := fun x hx => by rw [← had]; exact if_neg (by omega)
  have e00 := alc2_00 (h := h) (n := n) (k := k) h1
  have e01 := alc2_01 (h := h) (n := n) (k := k) h1
  have hro : ∀ j : Int, 0 ≤ j → j < n → cv vF ad' 3 (64 * (h 0 0 + 1 + j) + 33) = .ref (H.size + 1 + j.toNat) := fun j h0 h2 => by
    rw [cv_ref (by omega) (by omega), had2 _ (by omega)]
    exact congrArg Value.ref (show (H.size + ((64 * (h 0 0 + 1 + j) + 33) / 64 - h 0 0).toNat : Nat) = H.size + 1 + j.toNat by omega)
  have hout : SmW fz dC dI vF s al' ad' (alc2 h n k) T'.heap (64 * h 0 0 + 37) := by
    have hkm : (64 * h 0 0 + 37) % 64 = 37 := by omega
    refine ⟨fun q => by omega, fun _ => ?_⟩
    rw [hkm, hrd _ _ (by omega), alc2_o, if_pos rfl, had2 _ (by omega)]
    refine ⟨c1, by omega, fun j hj => ?_, cA, ?_, fun N z => ⟨fun _ h => (by cases h), (hO 0 0 0).1.2⟩, f1⟩
    · rw [hrd _ _ (by omega), alc2_o, if_neg (by omega), if_pos (by omega), ← hal]
      exact Or.inr (Or.inr (Or.inr (Or.inr ⟨j, by omega, by omega, rfl⟩)))
    · rw [show H.size + ((64 * h 0 0 + 37) / 64 - h 0 0).toNat = H.size by omega, z2]
      refine congrArg some (arrV_cg fun j hj => ?_)
      rw [hrd _ _ (by omega), alc2_o, if_neg (by omega), if_pos (by omega)]
      rw [show aT 37 = 3 from rfl, hro j (by omega) (by omega)]
      rfl
  have hin : ∀ j : Int, 0 ≤ j → j < n → SmW fz dC dI vF s al' ad' (alc2 h n k) T'.heap (64 * (h 0 0 + 1 + j) + 33) := by
    intro j j0 j1
    have hkm : (64 * (h 0 0 + 1 + j) + 33) % 64 = 33 := by omega
    refine ⟨fun q => by omega, fun _ => ?_⟩
    rw [hkm, hrd _ _ (by omega), alc2_r ⟨j0, j1⟩, if_pos rfl, had2 _ (by omega)]
    have f2' : s.vm.findClass ("[" ++ (FieldType.long).toString) = some comp := f2
    refine ⟨c3, by omega, fun i hi => ?_, comp, ?_, fun N z => ⟨fun _ h => (by cases h), (hI' 0 .null).1.2⟩, f2'⟩
    · rw [hrd _ _ (by omega), alc2_r ⟨j0, j1⟩, if_neg (by omega)]
      exact ⟨by decide, by decide⟩
    · rw [show H.size + ((64 * (h 0 0 + 1 + j) + 33) / 64 - h 0 0).toNat = H.size + 1 + j.toNat by omega, q3 j.toNat (by omega)]
      refine congrArg some ((arrV_new comp k.toNat (defaultValue .long)).trans (arrV_cg fun i hi => ?_))
      rw [hrd _ _ (by omega), alc2_r ⟨j0, j1⟩, if_neg (by omega)]
      rfl
  have hnew : ∀ x, al' x → al x ∨ (h 0 0 ≤ x / 64 ∧ x / 64 < h 0 0 + 1 + n ∧ (x % 64 = 37 ∨ x % 64 = 33) ∧ SmW fz dC dI vF s al' ad' (alc2 h n k) T'.heap x) := fun x hx => by
    rw [← hal] at hx
    rcases hx with hx | rfl | ⟨j, j0, j1, rfl⟩
    · exact Or.inl hx
    · exact Or.inr ⟨by omega, by omega, by omega, hout⟩
    · exact Or.inr ⟨by omega, by omega, by omega, hin j j0 j1⟩
  have huniq : ∀ x y, al' x → al' y → ¬ al x → ¬ al y → x / 64 = y / 64 → x = y := fun x y hx hy nx ny he => by
    rw [← hal] at hx hy
    rcases hx with hx | rfl | ⟨j, j0, j1, rfl⟩
    · exact absurd hx nx
    · rcases hy with hy | rfl | ⟨i, i0, i1, rfl⟩
      · exact absurd hy ny
      · rfl
      · omega
    · rcases hy with hy | rfl | ⟨i, i0, i1, rfl⟩
      · exact absurd hy ny
      · omega
      · omega
  have hSm : Sm fz base H0 hI dC dI vF s al' ad' adS adV bS (alc2 h n k) T'.heap := by
    refine ⟨⟨by omega, fun q hq => (q2 q (by omega)).trans (a2 q hq)⟩, fun x hx h64 => ?_, fun x y hx hy h2 h3 e => ?_, fun x hx h64 => ?_, fun j hj => ?_, ⟨hal1 _ a7.1, (had1 _ a7.1).trans a7.2⟩, fun x hx hx0 => (alc2_ot (by omega) hx0).trans (a8 x hx hx0), by omega⟩
    · rcases hnew x hx with hx' | ⟨b1, b2, b3, b4⟩
      · obtain ⟨b1, b2, b3, b4, b5⟩ := a3 x hx' h64
        rw [had1 x hx']
        exact ⟨b1.cg hal1 had1 (had1 x hx') (alc2_ot b4 (by omega)) (q2 _ b3), b2, by omega, by omega, b5⟩
      · exact ⟨b4, by rw [had2 x b1]; omega, by rw [had2 x b1]; omega, by omega, by omega⟩
    · by_cases nx : al x
      · by_cases ny : al y
        · rw [had1 x nx, had1 y ny] at e
          exact a4 x y nx ny h2 h3 e
        · rcases hnew y hy with q | ⟨b1, -⟩
          · exact absurd q ny
          · rw [had1 x nx, had2 y b1] at e
            have := (a3 x nx h2).2.2.1
            omega
      · rcases hnew x hx with q | ⟨b1, -⟩
        · exact absurd q nx
        · by_cases ny : al y
          · rw [had1 y ny, had2 x b1] at e
            have := (a3 y ny h3).2.2.1
            omega
          · rcases hnew y hy with q | ⟨b2, -⟩
            · exact absurd q ny
            · rw [had2 x b1, had2 y b2] at e
              exact huniq x y hx hy nx ny (by omega)
    · rcases hnew x hx with hx' | ⟨b1, -⟩
      · exact a5 x hx' h64
      · omega
    · obtain ⟨b1, b2, b3, b4⟩ := a6 j hj
      exact ⟨hal1 _ b1, (had1 _ b1).trans b2, hal1 _ b3, (had1 _ b3).trans b4⟩
  have hg := (g2.grow hSm hal1 had1 (cells' := cells + 1 + n.toNat) (slots' := slots + n.toNat + n.toNat * k.toNat) (by rw [e00]; omega) (by rw [e01]; omega)).push (v := (3, 64 * h 0 0 + 37)) (show rng al' 3 (64 * h 0 0 + 37) from by rw [← hal]; exact Or.inr (Or.inr (Or.inr (Or.inl rfl))))
  have ec : cvv vF ad' (3, 64 * h 0 0 + 37) = .ref T.heap.size := by
    refine (cv_ref (by omega) (by omega)).trans ?_
    rw [had2 _ (by omega), hT]
    exact congrArg Value.ref (show (H.size + ((64 * h 0 0 + 37) / 64 - h 0 0).toNat : Nat) = H.size by omega)
  rw [ec] at hg
  obtain ⟨t, b1, b2⟩ := kk _ _ _ _ _ _ _ _ hg _ rfl X'
  exact ⟨t, step t b1, b2⟩
end KH8
