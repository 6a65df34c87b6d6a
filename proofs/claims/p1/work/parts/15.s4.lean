/-! SOUNDNESS, 4: instructions on stack and locals: printed by wip/tools/gens4.py -/
def Kn (p : Program) (l : Launch) (e : Env) (R : Room) (s : State) (m : MethodId) (args : Array Value) (below : List Frame) (meth : Method) (c : Code) (Q : State → Prop) (S : (Int → Prop) → (Int → Nat) → HV → Heap → List Loc → Nat → Nat → List AV → List AV → Array Slot → List Value → Prop) (pc : Nat) (ls st : List AV) (h : HV) : Prop :=
  ∀ (al : Int → Prop) (ad : Int → Nat) (H : Heap) (locs : List Loc) (cells slots : Nat) (lc : Array Slot) (sc : List Value), S al ad h H locs cells slots ls st lc sc → W p l e R s m args below meth c H locs cells slots Q (F0 m pc lc sc)
theorem cv_3 {vF : Value} {ad : Int → Nat} (hvF : vF = .null ∨ ∃ a, vF = .ref a) {x : Int} : cvv vF ad (3, x) = .null ∨ ∃ a, cvv vF ad (3, x) = .ref a := by
  show (if x = 0 then Value.null else if x = 62 then vF else .ref (ad x)) = .null ∨ ∃ a, (if x = 0 then Value.null else if x = 62 then vF else .ref (ad x)) = .ref a
  split
  · exact Or.inl rfl
  · split
    · exact hvF
    · exact Or.inr ⟨_, rfl⟩
theorem cv_cat {vF : Value} {ad : Int → Nat} {al : Int → Prop} (hvF : vF = .null ∨ ∃ a, vF = .ref a) (t : Nat) (x : Int) (h1 : t ≠ 1) (h2 : t ≠ 2) (hr : rng al t x) : (cv vF ad t x).category = 1 := by
  match t, hr with
  | 0, _ => rfl
  | 1, _ => exact absurd rfl h1
  | 2, _ => exact absurd rfl h2
  | 3, _ => rcases cv_3 (ad := ad) hvF (x := x) with e | ⟨a, e⟩ <;> (show (cvv vF ad (3, x)).category = 1; rw [e]; rfl)
section KN
variable {p : Program} {l : Launch} {e : Env} {R : Room} {s : State} {m : MethodId} {args : Array Value} {below : List Frame} {meth : Method} {c : Code} {Q : State → Prop}
variable {fz : Int → Int → Option Int} {base : Nat} {H0 : Heap} {hI : HV} {dC : Nat → ClassId} {dI : Nat → Nat → Nat} {vF : Value} {adS adV : Nat → Nat} {bS : Nat} {hE : HV} {al0 : Int → Prop} {ad0 : Int → Nat}
variable {cc : ByteArray} {pc : Nat} {ls st : List AV} {h : HV} {x y : Int}
theorem k_iadd (hx : p.tables.exec = Jvm.exec) (hb : c.code = cc) (hdg : decode cc pc = .ok (.iadd, 1)) (kk : Kn p l e R s m args below meth c Q (ST fz base H0 hI dC dI vF adS adV bS s R hE al0 ad0) (pc + 1) ls ((0, w32 (x + y)) :: st) h) : Kn p l e R s m args below meth c Q (ST fz base H0 hI dC dI vF adS adV bS s R hE al0 ad0) pc ls ((0, y) :: (0, x) :: st) h := by
  intro al ad H locs cells slots lc sc g
  obtain ⟨sc1, rfl, r1, g1⟩ := g.pop
  obtain ⟨sc2, rfl, r2, g2⟩ := g1.pop
  refine lv_iadd hx hb hdg ?_
  rw [i_addE]
  exact kk _ _ _ _ _ _ _ _ (g2.push (v := (0, w32 (x + y))) (show rng al 0 _ from w32_rng _))
theorem k_isub (hx : p.tables.exec = Jvm.exec) (hb : c.code = cc) (hdg : decode cc pc = .ok (.isub, 1)) (kk : Kn p l e R s m args below meth c Q (ST fz base H0 hI dC dI vF adS adV bS s R hE al0 ad0) (pc + 1) ls ((0, w32 (x - y)) :: st) h) : Kn p l e R s m args below meth c Q (ST fz base H0 hI dC dI vF adS adV bS s R hE al0 ad0) pc ls ((0, y) :: (0, x) :: st) h := by
  intro al ad H locs cells slots lc sc g
  obtain ⟨sc1, rfl, r1, g1⟩ := g.pop
  obtain ⟨sc2, rfl, r2, g2⟩ := g1.pop
  refine lv_isub hx hb hdg ?_
  rw [i_subE]
  exact kk _ _ _ _ _ _ _ _ (g2.push (v := (0, w32 (x - y))) (show rng al 0 _ from w32_rng _))
theorem k_imul (hx : p.tables.exec = Jvm.exec) (hb : c.code = cc) (hdg : decode cc pc = .ok (.imul, 1)) (kk : Kn p l e R s m args below meth c Q (ST fz base H0 hI dC dI vF adS adV bS s R hE al0 ad0) (pc + 1) ls ((0, w32 (x * y)) :: st) h) : Kn p l e R s m args below meth c Q (ST fz base H0 hI dC dI vF adS adV bS s R hE al0 ad0) pc ls ((0, y) :: (0, x) :: st) h := by
  intro al ad H locs cells slots lc sc g
  obtain ⟨sc1, rfl, r1, g1⟩ := g.pop
  obtain ⟨sc2, rfl, r2, g2⟩ := g1.pop
  refine lv_imul hx hb hdg ?_
  rw [i_mulE]
  exact kk _ _ _ _ _ _ _ _ (g2.push (v := (0, w32 (x * y))) (show rng al 0 _ from w32_rng _))
theorem k_ladd (hx : p.tables.exec = Jvm.exec) (hb : c.code = cc) (hdg : decode cc pc = .ok (.ladd, 1)) (kk : Kn p l e R s m args below meth c Q (ST fz base H0 hI dC dI vF adS adV bS s R hE al0 ad0) (pc + 1) ls ((1, w64 (x + y)) :: st) h) : Kn p l e R s m args below meth c Q (ST fz base H0 hI dC dI vF adS adV bS s R hE al0 ad0) pc ls ((1, y) :: (1, x) :: st) h := by
  intro al ad H locs cells slots lc sc g
  obtain ⟨sc1, rfl, r1, g1⟩ := g.pop
  obtain ⟨sc2, rfl, r2, g2⟩ := g1.pop
  refine lv_ladd hx hb hdg ?_
  rw [l_addE]
  exact kk _ _ _ _ _ _ _ _ (g2.push (v := (1, w64 (x + y))) (show rng al 1 _ from w64_rng _))
theorem k_lsub (hx : p.tables.exec = Jvm.exec) (hb : c.code = cc) (hdg : decode cc pc = .ok (.lsub, 1)) (kk : Kn p l e R s m args below meth c Q (ST fz base H0 hI dC dI vF adS adV bS s R hE al0 ad0) (pc + 1) ls ((1, w64 (x - y)) :: st) h) : Kn p l e R s m args below meth c Q (ST fz base H0 hI dC dI vF adS adV bS s R hE al0 ad0) pc ls ((1, y) :: (1, x) :: st) h := by
  intro al ad H locs cells slots lc sc g
  obtain ⟨sc1, rfl, r1, g1⟩ := g.pop
  obtain ⟨sc2, rfl, r2, g2⟩ := g1.pop
  refine lv_lsub hx hb hdg ?_
  rw [l_subE]
  exact kk _ _ _ _ _ _ _ _ (g2.push (v := (1, w64 (x - y))) (show rng al 1 _ from w64_rng _))
theorem k_lmul (hx : p.tables.exec = Jvm.exec) (hb : c.code = cc) (hdg : decode cc pc = .ok (.lmul, 1)) (kk : Kn p l e R s m args below meth c Q (ST fz base H0 hI dC dI vF adS adV bS s R hE al0 ad0) (pc + 1) ls ((1, w64 (x * y)) :: st) h) : Kn p l e R s m args below meth c Q (ST fz base H0 hI dC dI vF adS adV bS s R hE al0 ad0) pc ls ((1, y) :: (1, x) :: st) h := by
  intro al ad H locs cells slots lc sc g
  obtain ⟨sc1, rfl, r1, g1⟩ := g.pop
  obtain ⟨sc2, rfl, r2, g2⟩ := g1.pop
  refine lv_lmul hx hb hdg ?_
  rw [l_mulE]
  exact kk _ _ _ _ _ _ _ _ (g2.push (v := (1, w64 (x * y))) (show rng al 1 _ from w64_rng _))
theorem k_ineg (hx : p.tables.exec = Jvm.exec) (hb : c.code = cc) (hdg : decode cc pc = .ok (.ineg, 1)) (kk : Kn p l e R s m args below meth c Q (ST fz base H0 hI dC dI vF adS adV bS s R hE al0 ad0) (pc + 1) ls ((0, w32 (-x)) :: st) h) : Kn p l e R s m args below meth c Q (ST fz base H0 hI dC dI vF adS adV bS s R hE al0 ad0) pc ls ((0, x) :: st) h := by
  intro al ad H locs cells slots lc sc g
  obtain ⟨sc1, rfl, r1, g1⟩ := g.pop
  refine lv_ineg hx hb hdg ?_
  rw [i_negE]
  exact kk _ _ _ _ _ _ _ _ (g1.push (v := (0, w32 (-x))) (show rng al 0 _ from w32_rng _))
theorem k_lneg (hx : p.tables.exec = Jvm.exec) (hb : c.code = cc) (hdg : decode cc pc = .ok (.lneg, 1)) (kk : Kn p l e R s m args below meth c Q (ST fz base H0 hI dC dI vF adS adV bS s R hE al0 ad0) (pc + 1) ls ((1, w64 (-x)) :: st) h) : Kn p l e R s m args below meth c Q (ST fz base H0 hI dC dI vF adS adV bS s R hE al0 ad0) pc ls ((1, x) :: st) h := by
  intro al ad H locs cells slots lc sc g
  obtain ⟨sc1, rfl, r1, g1⟩ := g.pop
  refine lv_lneg hx hb hdg ?_
  rw [l_negE]
  exact kk _ _ _ _ _ _ _ _ (g1.push (v := (1, w64 (-x))) (show rng al 1 _ from w64_rng _))
theorem k_idiv (hx : p.tables.exec = Jvm.exec) (hb : c.code = cc) (hy : y ≠ 0) (hdg : decode cc pc = .ok (.idiv, 1)) (kk : Kn p l e R s m args below meth c Q (ST fz base H0 hI dC dI vF adS adV bS s R hE al0 ad0) (pc + 1) ls ((0, w32 (Int.tdiv x y)) :: st) h) : Kn p l e R s m args below meth c Q (ST fz base H0 hI dC dI vF adS adV bS s R hE al0 ad0) pc ls ((0, y) :: (0, x) :: st) h := by
  intro al ad H locs cells slots lc sc g
  obtain ⟨sc1, rfl, r1, g1⟩ := g.pop
  obtain ⟨sc2, rfl, r2, g2⟩ := g1.pop
  refine lv_idiv hx hb hdg (fun q => hy ((i_eqE (y := 0) r1 (by constructor <;> decide)).mp q)) ?_
  rw [i_divE r2 r1]
  exact kk _ _ _ _ _ _ _ _ (g2.push (v := (0, w32 (Int.tdiv x y))) (show rng al 0 _ from w32_rng _))
theorem k_irem (hx : p.tables.exec = Jvm.exec) (hb : c.code = cc) (hy : y ≠ 0) (hdg : decode cc pc = .ok (.irem, 1)) (kk : Kn p l e R s m args below meth c Q (ST fz base H0 hI dC dI vF adS adV bS s R hE al0 ad0) (pc + 1) ls ((0, Int.tmod x y) :: st) h) : Kn p l e R s m args below meth c Q (ST fz base H0 hI dC dI vF adS adV bS s R hE al0 ad0) pc ls ((0, y) :: (0, x) :: st) h := by
  intro al ad H locs cells slots lc sc g
  obtain ⟨sc1, rfl, r1, g1⟩ := g.pop
  obtain ⟨sc2, rfl, r2, g2⟩ := g1.pop
  refine lv_irem hx hb hdg (fun q => hy ((i_eqE (y := 0) r1 (by constructor <;> decide)).mp q)) ?_
  rw [i_remE r2 r1]
  exact kk _ _ _ _ _ _ _ _ (g2.push (v := (0, Int.tmod x y)) (show rng al 0 _ from tm_rng (M := 2147483647) r2))
theorem k_ldiv (hx : p.tables.exec = Jvm.exec) (hb : c.code = cc) (hy : y ≠ 0) (hdg : decode cc pc = .ok (.ldiv, 1)) (kk : Kn p l e R s m args below meth c Q (ST fz base H0 hI dC dI vF adS adV bS s R hE al0 ad0) (pc + 1) ls ((1, w64 (Int.tdiv x y)) :: st) h) : Kn p l e R s m args below meth c Q (ST fz base H0 hI dC dI vF adS adV bS s R hE al0 ad0) pc ls ((1, y) :: (1, x) :: st) h := by
  intro al ad H locs cells slots lc sc g
  obtain ⟨sc1, rfl, r1, g1⟩ := g.pop
  obtain ⟨sc2, rfl, r2, g2⟩ := g1.pop
  refine lv_ldiv hx hb hdg (fun q => hy ((l_eqE (y := 0) r1 (by constructor <;> decide)).mp q)) ?_
  rw [l_divE r2 r1]
  exact kk _ _ _ _ _ _ _ _ (g2.push (v := (1, w64 (Int.tdiv x y))) (show rng al 1 _ from w64_rng _))
theorem k_lrem (hx : p.tables.exec = Jvm.exec) (hb : c.code = cc) (hy : y ≠ 0) (hdg : decode cc pc = .ok (.lrem, 1)) (kk : Kn p l e R s m args below meth c Q (ST fz base H0 hI dC dI vF adS adV bS s R hE al0 ad0) (pc + 1) ls ((1, Int.tmod x y) :: st) h) : Kn p l e R s m args below meth c Q (ST fz base H0 hI dC dI vF adS adV bS s R hE al0 ad0) pc ls ((1, y) :: (1, x) :: st) h := by
  intro al ad H locs cells slots lc sc g
  obtain ⟨sc1, rfl, r1, g1⟩ := g.pop
  obtain ⟨sc2, rfl, r2, g2⟩ := g1.pop
  refine lv_lrem hx hb hdg (fun q => hy ((l_eqE (y := 0) r1 (by constructor <;> decide)).mp q)) ?_
  rw [l_remE r2 r1]
  exact kk _ _ _ _ _ _ _ _ (g2.push (v := (1, Int.tmod x y)) (show rng al 1 _ from tm_rng (M := 9223372036854775807) r2))
theorem k_iand (hx : p.tables.exec = Jvm.exec) (hb : c.code = cc) (hdg : decode cc pc = .ok (.iand, 1)) (kk : Kn p l e R s m args below meth c Q (ST fz base H0 hI dC dI vF adS adV bS s R hE al0 ad0) (pc + 1) ls ((0, i_and x y) :: st) h) : Kn p l e R s m args below meth c Q (ST fz base H0 hI dC dI vF adS adV bS s R hE al0 ad0) pc ls ((0, y) :: (0, x) :: st) h := by
  intro al ad H locs cells slots lc sc g
  obtain ⟨sc1, rfl, r1, g1⟩ := g.pop
  obtain ⟨sc2, rfl, r2, g2⟩ := g1.pop
  have k0 := kk _ _ _ _ _ _ _ _ (g2.push (v := (0, i_and x y)) (show rng al 0 _ from i_rng _))
  have e0 : cvv vF ad (0, i_and x y) = .int (Int32.ofInt x &&& Int32.ofInt y) := congrArg Value.int (i_back _)
  rw [e0] at k0
  exact lv_iand hx hb hdg k0
theorem k_ior (hx : p.tables.exec = Jvm.exec) (hb : c.code = cc) (hdg : decode cc pc = .ok (.ior, 1)) (kk : Kn p l e R s m args below meth c Q (ST fz base H0 hI dC dI vF adS adV bS s R hE al0 ad0) (pc + 1) ls ((0, i_or x y) :: st) h) : Kn p l e R s m args below meth c Q (ST fz base H0 hI dC dI vF adS adV bS s R hE al0 ad0) pc ls ((0, y) :: (0, x) :: st) h := by
  intro al ad H locs cells slots lc sc g
  obtain ⟨sc1, rfl, r1, g1⟩ := g.pop
  obtain ⟨sc2, rfl, r2, g2⟩ := g1.pop
  have k0 := kk _ _ _ _ _ _ _ _ (g2.push (v := (0, i_or x y)) (show rng al 0 _ from i_rng _))
  have e0 : cvv vF ad (0, i_or x y) = .int (Int32.ofInt x ||| Int32.ofInt y) := congrArg Value.int (i_back _)
  rw [e0] at k0
  exact lv_ior hx hb hdg k0
theorem k_ixor (hx : p.tables.exec = Jvm.exec) (hb : c.code = cc) (hdg : decode cc pc = .ok (.ixor, 1)) (kk : Kn p l e R s m args below meth c Q (ST fz base H0 hI dC dI vF adS adV bS s R hE al0 ad0) (pc + 1) ls ((0, i_xor x y) :: st) h) : Kn p l e R s m args below meth c Q (ST fz base H0 hI dC dI vF adS adV bS s R hE al0 ad0) pc ls ((0, y) :: (0, x) :: st) h := by
  intro al ad H locs cells slots lc sc g
  obtain ⟨sc1, rfl, r1, g1⟩ := g.pop
  obtain ⟨sc2, rfl, r2, g2⟩ := g1.pop
  have k0 := kk _ _ _ _ _ _ _ _ (g2.push (v := (0, i_xor x y)) (show rng al 0 _ from i_rng _))
  have e0 : cvv vF ad (0, i_xor x y) = .int (Int32.ofInt x ^^^ Int32.ofInt y) := congrArg Value.int (i_back _)
  rw [e0] at k0
  exact lv_ixor hx hb hdg k0
theorem k_ishl (hx : p.tables.exec = Jvm.exec) (hb : c.code = cc) (hdg : decode cc pc = .ok (.ishl, 1)) (kk : Kn p l e R s m args below meth c Q (ST fz base H0 hI dC dI vF adS adV bS s R hE al0 ad0) (pc + 1) ls ((0, i_shl x y) :: st) h) : Kn p l e R s m args below meth c Q (ST fz base H0 hI dC dI vF adS adV bS s R hE al0 ad0) pc ls ((0, y) :: (0, x) :: st) h := by
  intro al ad H locs cells slots lc sc g
  obtain ⟨sc1, rfl, r1, g1⟩ := g.pop
  obtain ⟨sc2, rfl, r2, g2⟩ := g1.pop
  have k0 := kk _ _ _ _ _ _ _ _ (g2.push (v := (0, i_shl x y)) (show rng al 0 _ from i_rng _))
  have e0 : cvv vF ad (0, i_shl x y) = .int (Int32.ofInt x <<< (Int32.ofInt y &&& 31)) := congrArg Value.int (i_back _)
  rw [e0] at k0
  exact lv_ishl hx hb hdg k0
theorem k_ishr (hx : p.tables.exec = Jvm.exec) (hb : c.code = cc) (hdg : decode cc pc = .ok (.ishr, 1)) (kk : Kn p l e R s m args below meth c Q (ST fz base H0 hI dC dI vF adS adV bS s R hE al0 ad0) (pc + 1) ls ((0, i_shr x y) :: st) h) : Kn p l e R s m args below meth c Q (ST fz base H0 hI dC dI vF adS adV bS s R hE al0 ad0) pc ls ((0, y) :: (0, x) :: st) h := by
  intro al ad H locs cells slots lc sc g
  obtain ⟨sc1, rfl, r1, g1⟩ := g.pop
  obtain ⟨sc2, rfl, r2, g2⟩ := g1.pop
  have k0 := kk _ _ _ _ _ _ _ _ (g2.push (v := (0, i_shr x y)) (show rng al 0 _ from i_rng _))
  have e0 : cvv vF ad (0, i_shr x y) = .int (Int32.ofInt x >>> (Int32.ofInt y &&& 31)) := congrArg Value.int (i_back _)
  rw [e0] at k0
  exact lv_ishr hx hb hdg k0
theorem k_iushr (hx : p.tables.exec = Jvm.exec) (hb : c.code = cc) (hdg : decode cc pc = .ok (.iushr, 1)) (kk : Kn p l e R s m args below meth c Q (ST fz base H0 hI dC dI vF adS adV bS s R hE al0 ad0) (pc + 1) ls ((0, i_ushr x y) :: st) h) : Kn p l e R s m args below meth c Q (ST fz base H0 hI dC dI vF adS adV bS s R hE al0 ad0) pc ls ((0, y) :: (0, x) :: st) h := by
  intro al ad H locs cells slots lc sc g
  obtain ⟨sc1, rfl, r1, g1⟩ := g.pop
  obtain ⟨sc2, rfl, r2, g2⟩ := g1.pop
  have k0 := kk _ _ _ _ _ _ _ _ (g2.push (v := (0, i_ushr x y)) (show rng al 0 _ from i_rng _))
  have e0 : cvv vF ad (0, i_ushr x y) = .int (((Int32.ofInt x).toUInt32 >>> ((Int32.ofInt y).toUInt32 &&& Int32.toUInt32 31)).toInt32) := congrArg Value.int (i_back _)
  rw [e0] at k0
  exact lv_iushr hx hb hdg rfl k0
theorem k_land (hx : p.tables.exec = Jvm.exec) (hb : c.code = cc) (hdg : decode cc pc = .ok (.land, 1)) (kk : Kn p l e R s m args below meth c Q (ST fz base H0 hI dC dI vF adS adV bS s R hE al0 ad0) (pc + 1) ls ((1, l_and x y) :: st) h) : Kn p l e R s m args below meth c Q (ST fz base H0 hI dC dI vF adS adV bS s R hE al0 ad0) pc ls ((1, y) :: (1, x) :: st) h := by
  intro al ad H locs cells slots lc sc g
  obtain ⟨sc1, rfl, r1, g1⟩ := g.pop
  obtain ⟨sc2, rfl, r2, g2⟩ := g1.pop
  have k0 := kk _ _ _ _ _ _ _ _ (g2.push (v := (1, l_and x y)) (show rng al 1 _ from l_rng _))
  have e0 : cvv vF ad (1, l_and x y) = .long (Int64.ofInt x &&& Int64.ofInt y) := congrArg Value.long (l_back _)
  rw [e0] at k0
  exact lv_land hx hb hdg k0
theorem k_lor (hx : p.tables.exec = Jvm.exec) (hb : c.code = cc) (hdg : decode cc pc = .ok (.lor, 1)) (kk : Kn p l e R s m args below meth c Q (ST fz base H0 hI dC dI vF adS adV bS s R hE al0 ad0) (pc + 1) ls ((1, l_or x y) :: st) h) : Kn p l e R s m args below meth c Q (ST fz base H0 hI dC dI vF adS adV bS s R hE al0 ad0) pc ls ((1, y) :: (1, x) :: st) h := by
  intro al ad H locs cells slots lc sc g
  obtain ⟨sc1, rfl, r1, g1⟩ := g.pop
  obtain ⟨sc2, rfl, r2, g2⟩ := g1.pop
  have k0 := kk _ _ _ _ _ _ _ _ (g2.push (v := (1, l_or x y)) (show rng al 1 _ from l_rng _))
  have e0 : cvv vF ad (1, l_or x y) = .long (Int64.ofInt x ||| Int64.ofInt y) := congrArg Value.long (l_back _)
  rw [e0] at k0
  exact lv_lor hx hb hdg k0
theorem k_lxor (hx : p.tables.exec = Jvm.exec) (hb : c.code = cc) (hdg : decode cc pc = .ok (.lxor, 1)) (kk : Kn p l e R s m args below meth c Q (ST fz base H0 hI dC dI vF adS adV bS s R hE al0 ad0) (pc + 1) ls ((1, l_xor x y) :: st) h) : Kn p l e R s m args below meth c Q (ST fz base H0 hI dC dI vF adS adV bS s R hE al0 ad0) pc ls ((1, y) :: (1, x) :: st) h := by
  intro al ad H locs cells slots lc sc g
  obtain ⟨sc1, rfl, r1, g1⟩ := g.pop
  obtain ⟨sc2, rfl, r2, g2⟩ := g1.pop
  have k0 := kk _ _ _ _ _ _ _ _ (g2.push (v := (1, l_xor x y)) (show rng al 1 _ from l_rng _))
  have e0 : cvv vF ad (1, l_xor x y) = .long (Int64.ofInt x ^^^ Int64.ofInt y) := congrArg Value.long (l_back _)
  rw [e0] at k0
  exact lv_lxor hx hb hdg k0
theorem k_lshl (hx : p.tables.exec = Jvm.exec) (hb : c.code = cc) (hdg : decode cc pc = .ok (.lshl, 1)) (kk : Kn p l e R s m args below meth c Q (ST fz base H0 hI dC dI vF adS adV bS s R hE al0 ad0) (pc + 1) ls ((1, l_shl x y) :: st) h) : Kn p l e R s m args below meth c Q (ST fz base H0 hI dC dI vF adS adV bS s R hE al0 ad0) pc ls ((0, y) :: (1, x) :: st) h := by
  intro al ad H locs cells slots lc sc g
  obtain ⟨sc1, rfl, r1, g1⟩ := g.pop
  obtain ⟨sc2, rfl, r2, g2⟩ := g1.pop
  have k0 := kk _ _ _ _ _ _ _ _ (g2.push (v := (1, l_shl x y)) (show rng al 1 _ from l_rng _))
  have e0 : cvv vF ad (1, l_shl x y) = .long (Int64.ofInt x <<< ((Int32.ofInt y).toInt64 &&& 63)) := congrArg Value.long (l_back _)
  rw [e0] at k0
  exact lv_lshl hx hb hdg rfl k0
theorem k_lshr (hx : p.tables.exec = Jvm.exec) (hb : c.code = cc) (hdg : decode cc pc = .ok (.lshr, 1)) (kk : Kn p l e R s m args below meth c Q (ST fz base H0 hI dC dI vF adS adV bS s R hE al0 ad0) (pc + 1) ls ((1, l_shr x y) :: st) h) : Kn p l e R s m args below meth c Q (ST fz base H0 hI dC dI vF adS adV bS s R hE al0 ad0) pc ls ((0, y) :: (1, x) :: st) h := by
  intro al ad H locs cells slots lc sc g
  obtain ⟨sc1, rfl, r1, g1⟩ := g.pop
  obtain ⟨sc2, rfl, r2, g2⟩ := g1.pop
  have k0 := kk _ _ _ _ _ _ _ _ (g2.push (v := (1, l_shr x y)) (show rng al 1 _ from l_rng _))
  have e0 : cvv vF ad (1, l_shr x y) = .long (Int64.ofInt x >>> ((Int32.ofInt y).toInt64 &&& 63)) := congrArg Value.long (l_back _)
  rw [e0] at k0
  exact lv_lshr hx hb hdg rfl k0
theorem k_lushr (hx : p.tables.exec = Jvm.exec) (hb : c.code = cc) (hdg : decode cc pc = .ok (.lushr, 1)) (kk : Kn p l e R s m args below meth c Q (ST fz base H0 hI dC dI vF adS adV bS s R hE al0 ad0) (pc + 1) ls ((1, l_ushr x y) :: st) h) : Kn p l e R s m args below meth c Q (ST fz base H0 hI dC dI vF adS adV bS s R hE al0 ad0) pc ls ((0, y) :: (1, x) :: st) h := by
  intro al ad H locs cells slots lc sc g
  obtain ⟨sc1, rfl, r1, g1⟩ := g.pop
  obtain ⟨sc2, rfl, r2, g2⟩ := g1.pop
  have k0 := kk _ _ _ _ _ _ _ _ (g2.push (v := (1, l_ushr x y)) (show rng al 1 _ from l_rng _))
  have e0 : cvv vF ad (1, l_ushr x y) = .long (((Int64.ofInt x).toUInt64 >>> ((Int32.ofInt y).toInt64.toUInt64 &&& Int64.toUInt64 63)).toInt64) := congrArg Value.long (l_back _)
  rw [e0] at k0
  exact lv_lushr hx hb hdg rfl k0
theorem k_lcmp (hx : p.tables.exec = Jvm.exec) (hb : c.code = cc) (hdg : decode cc pc = .ok (.lcmp, 1)) (kk : Kn p l e R s m args below meth c Q (ST fz base H0 hI dC dI vF adS adV bS s R hE al0 ad0) (pc + 1) ls ((0, l_cmp x y) :: st) h) : Kn p l e R s m args below meth c Q (ST fz base H0 hI dC dI vF adS adV bS s R hE al0 ad0) pc ls ((1, y) :: (1, x) :: st) h := by
  intro al ad H locs cells slots lc sc g
  obtain ⟨sc1, rfl, r1, g1⟩ := g.pop
  obtain ⟨sc2, rfl, r2, g2⟩ := g1.pop
  refine W.lcmp hx hb hdg ?_
  have e0 : lg_cmp (Int64.ofInt x) (Int64.ofInt y) = Int32.ofInt (l_cmp x y) := by
    unfold lg_cmp l_cmp
    by_cases h1 : x > y
    · rw [if_pos ((l_ltE r1 r2).mpr h1), if_pos h1]; rfl
    · rw [if_neg (fun q => h1 ((l_ltE r1 r2).mp q)), if_neg h1]
      by_cases h2 : x = y
      · rw [if_pos ((l_eqE r2 r1).mpr h2), if_pos h2]; rfl
      · rw [if_neg (fun q => h2 ((l_eqE r2 r1).mp q)), if_neg h2]; rfl
  rw [e0]
  refine kk _ _ _ _ _ _ _ _ (g2.push (v := (0, l_cmp x y)) (show rng al 0 _ from ?_))
  unfold l_cmp
  split
  · constructor <;> decide
  · split <;> constructor <;> decide
theorem k_i2l (hx : p.tables.exec = Jvm.exec) (hb : c.code = cc) (hdg : decode cc pc = .ok (.i2l, 1)) (kk : Kn p l e R s m args below meth c Q (ST fz base H0 hI dC dI vF adS adV bS s R hE al0 ad0) (pc + 1) ls ((1, x) :: st) h) : Kn p l e R s m args below meth c Q (ST fz base H0 hI dC dI vF adS adV bS s R hE al0 ad0) pc ls ((0, x) :: st) h := by
  intro al ad H locs cells slots lc sc g
  obtain ⟨sc1, rfl, r1, g1⟩ := g.pop
  exact lv_i2l hx hb hdg (i2lE r1) (kk _ _ _ _ _ _ _ _ (g1.push (v := (1, x)) (show rng al 1 _ from ⟨by have := r1.1; omega, by have := r1.2; omega⟩)))
theorem k_l2i (hx : p.tables.exec = Jvm.exec) (hb : c.code = cc) (hdg : decode cc pc = .ok (.l2i, 1)) (kk : Kn p l e R s m args below meth c Q (ST fz base H0 hI dC dI vF adS adV bS s R hE al0 ad0) (pc + 1) ls ((0, w32 x) :: st) h) : Kn p l e R s m args below meth c Q (ST fz base H0 hI dC dI vF adS adV bS s R hE al0 ad0) pc ls ((1, x) :: st) h := by
  intro al ad H locs cells slots lc sc g
  obtain ⟨sc1, rfl, r1, g1⟩ := g.pop
  exact lv_l2i hx hb hdg (l2iE x) (kk _ _ _ _ _ _ _ _ (g1.push (v := (0, w32 x)) (show rng al 0 _ from w32_rng _)))
theorem k_i2b (hx : p.tables.exec = Jvm.exec) (hb : c.code = cc) (hdg : decode cc pc = .ok (.i2b, 1)) (kk : Kn p l e R s m args below meth c Q (ST fz base H0 hI dC dI vF adS adV bS s R hE al0 ad0) (pc + 1) ls ((0, w8 x) :: st) h) : Kn p l e R s m args below meth c Q (ST fz base H0 hI dC dI vF adS adV bS s R hE al0 ad0) pc ls ((0, x) :: st) h := by
  intro al ad H locs cells slots lc sc g
  obtain ⟨sc1, rfl, r1, g1⟩ := g.pop
  exact lv_i2b hx hb hdg (i2bE x) (kk _ _ _ _ _ _ _ _ (g1.push (v := (0, w8 x)) (show rng al 0 _ from ⟨by have := w8_rng x; omega, by have := w8_rng x; omega⟩)))
theorem k_i2c (hx : p.tables.exec = Jvm.exec) (hb : c.code = cc) (hdg : decode cc pc = .ok (.i2c, 1)) (kk : Kn p l e R s m args below meth c Q (ST fz base H0 hI dC dI vF adS adV bS s R hE al0 ad0) (pc + 1) ls ((0, x % 65536) :: st) h) : Kn p l e R s m args below meth c Q (ST fz base H0 hI dC dI vF adS adV bS s R hE al0 ad0) pc ls ((0, x) :: st) h := by
  intro al ad H locs cells slots lc sc g
  obtain ⟨sc1, rfl, r1, g1⟩ := g.pop
  exact lv_i2c hx hb hdg (i2cE x) (kk _ _ _ _ _ _ _ _ (g1.push (v := (0, x % 65536)) (show rng al 0 _ from ⟨by omega, by omega⟩)))
theorem k_l2d (hx : p.tables.exec = Jvm.exec) (hb : c.code = cc) (hdg : decode cc pc = .ok (.l2d, 1)) (kk : Kn p l e R s m args below meth c Q (ST fz base H0 hI dC dI vF adS adV bS s R hE al0 ad0) (pc + 1) ls ((2, d_I (FP.l2d (Int64.ofInt x))) :: st) h) : Kn p l e R s m args below meth c Q (ST fz base H0 hI dC dI vF adS adV bS s R hE al0 ad0) pc ls ((1, x) :: st) h := by
  intro al ad H locs cells slots lc sc g
  obtain ⟨sc1, rfl, r1, g1⟩ := g.pop
  have k0 := kk _ _ _ _ _ _ _ _ (g1.push (v := (2, d_I (FP.l2d (Int64.ofInt x)))) (show rng al 2 _ from d_rng _))
  have e0 : cvv vF ad (2, d_I (FP.l2d (Int64.ofInt x))) = .double (FP.l2d (Int64.ofInt x)) := congrArg Value.double (d_back2 _)
  rw [e0] at k0
  exact lv_l2d hx hb hdg k0
theorem k_d2i (hx : p.tables.exec = Jvm.exec) (hb : c.code = cc) (hdg : decode cc pc = .ok (.d2i, 1)) (kk : Kn p l e R s m args below meth c Q (ST fz base H0 hI dC dI vF adS adV bS s R hE al0 ad0) (pc + 1) ls ((0, (FP.d2i (d_U x)).toInt) :: st) h) : Kn p l e R s m args below meth c Q (ST fz base H0 hI dC dI vF adS adV bS s R hE al0 ad0) pc ls ((2, x) :: st) h := by
  intro al ad H locs cells slots lc sc g
  obtain ⟨sc1, rfl, r1, g1⟩ := g.pop
  have k0 := kk _ _ _ _ _ _ _ _ (g1.push (v := (0, (FP.d2i (d_U x)).toInt)) (show rng al 0 _ from i_rng _))
  have e0 : cvv vF ad (0, (FP.d2i (d_U x)).toInt) = .int (FP.d2i (d_U x)) := congrArg Value.int (i_back _)
  rw [e0] at k0
  exact lv_d2i hx hb hdg k0
theorem k_dneg (hx : p.tables.exec = Jvm.exec) (hb : c.code = cc) (hdg : decode cc pc = .ok (.dneg, 1)) (kk : Kn p l e R s m args below meth c Q (ST fz base H0 hI dC dI vF adS adV bS s R hE al0 ad0) (pc + 1) ls ((2, d_I (FP.dneg (d_U x))) :: st) h) : Kn p l e R s m args below meth c Q (ST fz base H0 hI dC dI vF adS adV bS s R hE al0 ad0) pc ls ((2, x) :: st) h := by
  intro al ad H locs cells slots lc sc g
  obtain ⟨sc1, rfl, r1, g1⟩ := g.pop
  have k0 := kk _ _ _ _ _ _ _ _ (g1.push (v := (2, d_I (FP.dneg (d_U x)))) (show rng al 2 _ from d_rng _))
  have e0 : cvv vF ad (2, d_I (FP.dneg (d_U x))) = .double (FP.dneg (d_U x)) := congrArg Value.double (d_back2 _)
  rw [e0] at k0
  exact lv_dneg hx hb hdg k0
theorem k_dadd (hx : p.tables.exec = Jvm.exec) (hb : c.code = cc) (hn : vf_n64 (FP.dadd (d_U x) (d_U y))) (hdg : decode cc pc = .ok (.dadd, 1)) (kk : Kn p l e R s m args below meth c Q (ST fz base H0 hI dC dI vF adS adV bS s R hE al0 ad0) (pc + 1) ls ((2, d_I (FP.dadd (d_U x) (d_U y))) :: st) h) : Kn p l e R s m args below meth c Q (ST fz base H0 hI dC dI vF adS adV bS s R hE al0 ad0) pc ls ((2, y) :: (2, x) :: st) h := by
  intro al ad H locs cells slots lc sc g
  obtain ⟨sc1, rfl, r1, g1⟩ := g.pop
  obtain ⟨sc2, rfl, r2, g2⟩ := g1.pop
  have k0 := kk _ _ _ _ _ _ _ _ (g2.push (v := (2, d_I (FP.dadd (d_U x) (d_U y)))) (show rng al 2 _ from d_rng _))
  have e0 : cvv vF ad (2, d_I (FP.dadd (d_U x) (d_U y))) = .double (FP.dadd (d_U x) (d_U y)) := congrArg Value.double (d_back2 _)
  rw [e0] at k0
  exact lv_dadd hx hb hdg hn k0
theorem k_dsub (hx : p.tables.exec = Jvm.exec) (hb : c.code = cc) (hn : vf_n64 (FP.dsub (d_U x) (d_U y))) (hdg : decode cc pc = .ok (.dsub, 1)) (kk : Kn p l e R s m args below meth c Q (ST fz base H0 hI dC dI vF adS adV bS s R hE al0 ad0) (pc + 1) ls ((2, d_I (FP.dsub (d_U x) (d_U y))) :: st) h) : Kn p l e R s m args below meth c Q (ST fz base H0 hI dC dI vF adS adV bS s R hE al0 ad0) pc ls ((2, y) :: (2, x) :: st) h := by
  intro al ad H locs cells slots lc sc g
  obtain ⟨sc1, rfl, r1, g1⟩ := g.pop
  obtain ⟨sc2, rfl, r2, g2⟩ := g1.pop
  have k0 := kk _ _ _ _ _ _ _ _ (g2.push (v := (2, d_I (FP.dsub (d_U x) (d_U y)))) (show rng al 2 _ from d_rng _))
  have e0 : cvv vF ad (2, d_I (FP.dsub (d_U x) (d_U y))) = .double (FP.dsub (d_U x) (d_U y)) := congrArg Value.double (d_back2 _)
  rw [e0] at k0
  exact lv_dsub hx hb hdg hn k0
theorem k_dmul (hx : p.tables.exec = Jvm.exec) (hb : c.code = cc) (hn : vf_n64 (FP.dmul (d_U x) (d_U y))) (hdg : decode cc pc = .ok (.dmul, 1)) (kk : Kn p l e R s m args below meth c Q (ST fz base H0 hI dC dI vF adS adV bS s R hE al0 ad0) (pc + 1) ls ((2, d_I (FP.dmul (d_U x) (d_U y))) :: st) h) : Kn p l e R s m args below meth c Q (ST fz base H0 hI dC dI vF adS adV bS s R hE al0 ad0) pc ls ((2, y) :: (2, x) :: st) h := by
  intro al ad H locs cells slots lc sc g
  obtain ⟨sc1, rfl, r1, g1⟩ := g.pop
  obtain ⟨sc2, rfl, r2, g2⟩ := g1.pop
  have k0 := kk _ _ _ _ _ _ _ _ (g2.push (v := (2, d_I (FP.dmul (d_U x) (d_U y)))) (show rng al 2 _ from d_rng _))
  have e0 : cvv vF ad (2, d_I (FP.dmul (d_U x) (d_U y))) = .double (FP.dmul (d_U x) (d_U y)) := congrArg Value.double (d_back2 _)
  rw [e0] at k0
  exact lv_dmul hx hb hdg hn k0
theorem k_ddiv (hx : p.tables.exec = Jvm.exec) (hb : c.code = cc) (hn : vf_n64 (FP.ddiv (d_U x) (d_U y))) (hdg : decode cc pc = .ok (.ddiv, 1)) (kk : Kn p l e R s m args below meth c Q (ST fz base H0 hI dC dI vF adS adV bS s R hE al0 ad0) (pc + 1) ls ((2, d_I (FP.ddiv (d_U x) (d_U y))) :: st) h) : Kn p l e R s m args below meth c Q (ST fz base H0 hI dC dI vF adS adV bS s R hE al0 ad0) pc ls ((2, y) :: (2, x) :: st) h := by
  intro al ad H locs cells slots lc sc g
  obtain ⟨sc1, rfl, r1, g1⟩ := g.pop
  obtain ⟨sc2, rfl, r2, g2⟩ := g1.pop
  have k0 := kk _ _ _ _ _ _ _ _ (g2.push (v := (2, d_I (FP.ddiv (d_U x) (d_U y)))) (show rng al 2 _ from d_rng _))
  have e0 : cvv vF ad (2, d_I (FP.ddiv (d_U x) (d_U y))) = .double (FP.ddiv (d_U x) (d_U y)) := congrArg Value.double (d_back2 _)
  rw [e0] at k0
  exact lv_ddiv hx hb hdg hn k0
theorem k_drem (hx : p.tables.exec = Jvm.exec) (hb : c.code = cc) (hn : vf_n64 (FP.drem (d_U x) (d_U y))) (hdg : decode cc pc = .ok (.drem, 1)) (kk : Kn p l e R s m args below meth c Q (ST fz base H0 hI dC dI vF adS adV bS s R hE al0 ad0) (pc + 1) ls ((2, d_I (FP.drem (d_U x) (d_U y))) :: st) h) : Kn p l e R s m args below meth c Q (ST fz base H0 hI dC dI vF adS adV bS s R hE al0 ad0) pc ls ((2, y) :: (2, x) :: st) h := by
  intro al ad H locs cells slots lc sc g
  obtain ⟨sc1, rfl, r1, g1⟩ := g.pop
  obtain ⟨sc2, rfl, r2, g2⟩ := g1.pop
  have k0 := kk _ _ _ _ _ _ _ _ (g2.push (v := (2, d_I (FP.drem (d_U x) (d_U y)))) (show rng al 2 _ from d_rng _))
  have e0 : cvv vF ad (2, d_I (FP.drem (d_U x) (d_U y))) = .double (FP.drem (d_U x) (d_U y)) := congrArg Value.double (d_back2 _)
  rw [e0] at k0
  exact lv_drem hx hb hdg hn k0
theorem k_dcmp (hx : p.tables.exec = Jvm.exec) (hb : c.code = cc) {op : CmpOp} (hdg : decode cc pc = .ok (.dcmp op, 1)) (kk : Kn p l e R s m args below meth c Q (ST fz base H0 hI dC dI vF adS adV bS s R hE al0 ad0) (pc + 1) ls ((0, d_cmp op x y) :: st) h) : Kn p l e R s m args below meth c Q (ST fz base H0 hI dC dI vF adS adV bS s R hE al0 ad0) pc ls ((2, y) :: (2, x) :: st) h := by
  intro al ad H locs cells slots lc sc g
  obtain ⟨sc1, rfl, r1, g1⟩ := g.pop
  obtain ⟨sc2, rfl, r2, g2⟩ := g1.pop
  have k0 := kk _ _ _ _ _ _ _ _ (g2.push (v := (0, d_cmp op x y)) (show rng al 0 _ from i_rng _))
  have e0 : cvv vF ad (0, d_cmp op x y) = .int (Op.cmpValue (FP.dcmp (d_U x) (d_U y)) op) := congrArg Value.int (i_back _)
  rw [e0] at k0
  exact lv_dcmp hx hb hdg k0
theorem k_iconst (hx : p.tables.exec = Jvm.exec) (hb : c.code = cc) (hr : -1 ≤ x ∧ x ≤ 5) (hdg : decode cc pc = .ok (.iconst x, 1)) (kk : Kn p l e R s m args below meth c Q (ST fz base H0 hI dC dI vF adS adV bS s R hE al0 ad0) (pc + 1) ls ((0, x) :: st) h) : Kn p l e R s m args below meth c Q (ST fz base H0 hI dC dI vF adS adV bS s R hE al0 ad0) pc ls st h := fun _ _ _ _ _ _ _ _ g => lv_iconst hx hb hdg rfl (kk _ _ _ _ _ _ _ _ (g.push (v := (0, x)) (show rng _ 0 x from ⟨by omega, by omega⟩)))
theorem k_bipush (hx : p.tables.exec = Jvm.exec) (hb : c.code = cc) (hr : -128 ≤ x ∧ x ≤ 127) (hdg : decode cc pc = .ok (.bipush x, 2)) (kk : Kn p l e R s m args below meth c Q (ST fz base H0 hI dC dI vF adS adV bS s R hE al0 ad0) (pc + 2) ls ((0, x) :: st) h) : Kn p l e R s m args below meth c Q (ST fz base H0 hI dC dI vF adS adV bS s R hE al0 ad0) pc ls st h := fun _ _ _ _ _ _ _ _ g => lv_bipush hx hb hdg (by apply i_eq; rw [Int8.toInt_toInt32, Int8.toInt_ofInt]; show Int.bmod x 256 = _; rw [← w8_bmod]; unfold w8 w32; omega) (kk _ _ _ _ _ _ _ _ (g.push (v := (0, x)) (show rng _ 0 x from ⟨by omega, by omega⟩)))
theorem k_sipush (hx : p.tables.exec = Jvm.exec) (hb : c.code = cc) (hr : -32768 ≤ x ∧ x ≤ 32767) (hdg : decode cc pc = .ok (.sipush x, 3)) (kk : Kn p l e R s m args below meth c Q (ST fz base H0 hI dC dI vF adS adV bS s R hE al0 ad0) (pc + 3) ls ((0, x) :: st) h) : Kn p l e R s m args below meth c Q (ST fz base H0 hI dC dI vF adS adV bS s R hE al0 ad0) pc ls st h := fun _ _ _ _ _ _ _ _ g => lv_sipush hx hb hdg (by apply i_eq; rw [Int16.toInt_toInt32, Int16.toInt_ofInt]; show Int.bmod x 65536 = _; rw [Int.bmod_def]; unfold w32; split <;> omega) (kk _ _ _ _ _ _ _ _ (g.push (v := (0, x)) (show rng _ 0 x from ⟨by omega, by omega⟩)))
theorem k_ldc (hx : p.tables.exec = Jvm.exec) (hb : c.code = cc) {own : String} {index : Nat} (hown : s.vm.findClass own = some m.cls) (hr : -2147483648 ≤ x ∧ x ≤ 2147483647) (hc : (Jvm.Cond.constant own index (Int32.ofInt x)).before args s = true) (hdg : decode cc pc = .ok (.ldc index, 2)) (kk : Kn p l e R s m args below meth c Q (ST fz base H0 hI dC dI vF adS adV bS s R hE al0 ad0) (pc + 2) ls ((0, x) :: st) h) : Kn p l e R s m args below meth c Q (ST fz base H0 hI dC dI vF adS adV bS s R hE al0 ad0) pc ls st h := fun _ _ _ _ _ _ _ _ g => lv_ldc hx hb hown hc hdg (kk _ _ _ _ _ _ _ _ (g.push (v := (0, x)) hr))
theorem k_ldc_w (hx : p.tables.exec = Jvm.exec) (hb : c.code = cc) {own : String} {index : Nat} (hown : s.vm.findClass own = some m.cls) (hr : -2147483648 ≤ x ∧ x ≤ 2147483647) (hc : (Jvm.Cond.constant own index (Int32.ofInt x)).before args s = true) (hdg : decode cc pc = .ok (.ldc_w index, 3)) (kk : Kn p l e R s m args below meth c Q (ST fz base H0 hI dC dI vF adS adV bS s R hE al0 ad0) (pc + 3) ls ((0, x) :: st) h) : Kn p l e R s m args below meth c Q (ST fz base H0 hI dC dI vF adS adV bS s R hE al0 ad0) pc ls st h := fun _ _ _ _ _ _ _ _ g => lv_ldcw hx hb hown hc hdg (kk _ _ _ _ _ _ _ _ (g.push (v := (0, x)) hr))
theorem k_lconst (hx : p.tables.exec = Jvm.exec) (hb : c.code = cc) {n : Fin 2} (hn : x = n.val) (hdg : decode cc pc = .ok (.lconst n, 1)) (kk : Kn p l e R s m args below meth c Q (ST fz base H0 hI dC dI vF adS adV bS s R hE al0 ad0) (pc + 1) ls ((1, x) :: st) h) : Kn p l e R s m args below meth c Q (ST fz base H0 hI dC dI vF adS adV bS s R hE al0 ad0) pc ls st h := fun _ _ _ _ _ _ _ _ g => lv_lconst hx hb hdg (by subst hn; rw [← Int64.ofInt_eq_ofNat]) (kk _ _ _ _ _ _ _ _ (g.push (v := (1, x)) (show rng _ 1 x from ⟨by have := n.isLt; omega, by have := n.isLt; omega⟩)))
theorem k_ldc2 (hx : p.tables.exec = Jvm.exec) (hb : c.code = cc) {own : String} {index : Nat} (hown : s.vm.findClass own = some m.cls) (hr : -9223372036854775808 ≤ x ∧ x ≤ 9223372036854775807) (hc : (Jvm.Cond.constantLong own index (Int64.ofInt x)).before args s = true) (hdg : decode cc pc = .ok (.ldc2_w index, 3)) (kk : Kn p l e R s m args below meth c Q (ST fz base H0 hI dC dI vF adS adV bS s R hE al0 ad0) (pc + 3) ls ((1, x) :: st) h) : Kn p l e R s m args below meth c Q (ST fz base H0 hI dC dI vF adS adV bS s R hE al0 ad0) pc ls st h := fun _ _ _ _ _ _ _ _ g => lv_ldc2 hx hb hown hc hdg (kk _ _ _ _ _ _ _ _ (g.push (v := (1, x)) hr))
theorem k_ldc2d (hx : p.tables.exec = Jvm.exec) (hb : c.code = cc) {own : String} {index : Nat} (hown : s.vm.findClass own = some m.cls) (hr : -9223372036854775808 ≤ x ∧ x ≤ 9223372036854775807) (hc : (Jvm.Cond.constantDouble own index (d_U x)).before args s = true) (hdg : decode cc pc = .ok (.ldc2_w index, 3)) (kk : Kn p l e R s m args below meth c Q (ST fz base H0 hI dC dI vF adS adV bS s R hE al0 ad0) (pc + 3) ls ((2, x) :: st) h) : Kn p l e R s m args below meth c Q (ST fz base H0 hI dC dI vF adS adV bS s R hE al0 ad0) pc ls st h := fun _ _ _ _ _ _ _ _ g => lv_ldc2d hx hb hown hc hdg (kk _ _ _ _ _ _ _ _ (g.push (v := (2, x)) hr))
theorem k_dconst (hx : p.tables.exec = Jvm.exec) (hb : c.code = cc) (hdg : decode cc pc = .ok (.dconst 0, 1)) (kk : Kn p l e R s m args below meth c Q (ST fz base H0 hI dC dI vF adS adV bS s R hE al0 ad0) (pc + 1) ls ((2, 0) :: st) h) : Kn p l e R s m args below meth c Q (ST fz base H0 hI dC dI vF adS adV bS s R hE al0 ad0) pc ls st h := fun _ _ _ _ _ _ _ _ g => lv_dconst0 hx hb hdg (show W p l e R s m args below meth c _ _ _ _ Q (F0 m (pc + 1) _ (.double FP.dconst0 :: _)) from (show FP.dconst0 = d_U 0 by decide +kernel) ▸ kk _ _ _ _ _ _ _ _ (g.push (v := (2, 0)) (show rng _ 2 0 from ⟨by decide, by decide⟩)))
theorem k_iload (hx : p.tables.exec = Jvm.exec) (hb : c.code = cc) {i : Nat} (hv : ls.getD i nun = (0, x)) (hdg : decode cc pc = .ok (.iload i, 2)) (kk : Kn p l e R s m args below meth c Q (ST fz base H0 hI dC dI vF adS adV bS s R hE al0 ad0) (pc + 2) ls ((0, x) :: st) h) : Kn p l e R s m args below meth c Q (ST fz base H0 hI dC dI vF adS adV bS s R hE al0 ad0) pc ls st h := fun _ _ _ _ _ _ _ _ g => lv_iload hx hb hdg (g.load hv (Nat.le_of_ble_eq_true rfl)).1 (kk _ _ _ _ _ _ _ _ (g.push (v := (0, x)) (g.load hv (Nat.le_of_ble_eq_true rfl)).2))
theorem k_iload_n (hx : p.tables.exec = Jvm.exec) (hb : c.code = cc) {i : Nat} {n : Fin 4} (hn : n.val = i) (hv : ls.getD i nun = (0, x)) (hdg : decode cc pc = .ok (.iload_n n, 1)) (kk : Kn p l e R s m args below meth c Q (ST fz base H0 hI dC dI vF adS adV bS s R hE al0 ad0) (pc + 1) ls ((0, x) :: st) h) : Kn p l e R s m args below meth c Q (ST fz base H0 hI dC dI vF adS adV bS s R hE al0 ad0) pc ls st h := fun _ _ _ _ _ _ _ _ g => lv_iload_n hx hb hdg hn (g.load hv (Nat.le_of_ble_eq_true rfl)).1 (kk _ _ _ _ _ _ _ _ (g.push (v := (0, x)) (g.load hv (Nat.le_of_ble_eq_true rfl)).2))
theorem k_lload (hx : p.tables.exec = Jvm.exec) (hb : c.code = cc) {i : Nat} (hv : ls.getD i nun = (1, x)) (hdg : decode cc pc = .ok (.lload i, 2)) (kk : Kn p l e R s m args below meth c Q (ST fz base H0 hI dC dI vF adS adV bS s R hE al0 ad0) (pc + 2) ls ((1, x) :: st) h) : Kn p l e R s m args below meth c Q (ST fz base H0 hI dC dI vF adS adV bS s R hE al0 ad0) pc ls st h := fun _ _ _ _ _ _ _ _ g => lv_lload hx hb hdg (g.load hv (Nat.le_of_ble_eq_true rfl)).1 (kk _ _ _ _ _ _ _ _ (g.push (v := (1, x)) (g.load hv (Nat.le_of_ble_eq_true rfl)).2))
theorem k_lload_n (hx : p.tables.exec = Jvm.exec) (hb : c.code = cc) {i : Nat} {n : Fin 4} (hn : n.val = i) (hv : ls.getD i nun = (1, x)) (hdg : decode cc pc = .ok (.lload_n n, 1)) (kk : Kn p l e R s m args below meth c Q (ST fz base H0 hI dC dI vF adS adV bS s R hE al0 ad0) (pc + 1) ls ((1, x) :: st) h) : Kn p l e R s m args below meth c Q (ST fz base H0 hI dC dI vF adS adV bS s R hE al0 ad0) pc ls st h := fun _ _ _ _ _ _ _ _ g => lv_lload_n hx hb hdg hn (g.load hv (Nat.le_of_ble_eq_true rfl)).1 (kk _ _ _ _ _ _ _ _ (g.push (v := (1, x)) (g.load hv (Nat.le_of_ble_eq_true rfl)).2))
theorem k_dload (hx : p.tables.exec = Jvm.exec) (hb : c.code = cc) {i : Nat} (hv : ls.getD i nun = (2, x)) (hdg : decode cc pc = .ok (.dload i, 2)) (kk : Kn p l e R s m args below meth c Q (ST fz base H0 hI dC dI vF adS adV bS s R hE al0 ad0) (pc + 2) ls ((2, x) :: st) h) : Kn p l e R s m args below meth c Q (ST fz base H0 hI dC dI vF adS adV bS s R hE al0 ad0) pc ls st h := fun _ _ _ _ _ _ _ _ g => lv_dload hx hb hdg (g.load hv (Nat.le_of_ble_eq_true rfl)).1 (kk _ _ _ _ _ _ _ _ (g.push (v := (2, x)) (g.load hv (Nat.le_of_ble_eq_true rfl)).2))
theorem k_dload_n (hx : p.tables.exec = Jvm.exec) (hb : c.code = cc) {i : Nat} {n : Fin 4} (hn : n.val = i) (hv : ls.getD i nun = (2, x)) (hdg : decode cc pc = .ok (.dload_n n, 1)) (kk : Kn p l e R s m args below meth c Q (ST fz base H0 hI dC dI vF adS adV bS s R hE al0 ad0) (pc + 1) ls ((2, x) :: st) h) : Kn p l e R s m args below meth c Q (ST fz base H0 hI dC dI vF adS adV bS s R hE al0 ad0) pc ls st h := fun _ _ _ _ _ _ _ _ g => lv_dload_n hx hb hdg hn (g.load hv (Nat.le_of_ble_eq_true rfl)).1 (kk _ _ _ _ _ _ _ _ (g.push (v := (2, x)) (g.load hv (Nat.le_of_ble_eq_true rfl)).2))
theorem k_aload (hx : p.tables.exec = Jvm.exec) (hb : c.code = cc) (hvF : vF = .null ∨ ∃ a, vF = .ref a) {i : Nat} (hv : ls.getD i nun = (3, x)) (hdg : decode cc pc = .ok (.aload i, 2)) (kk : Kn p l e R s m args below meth c Q (ST fz base H0 hI dC dI vF adS adV bS s R hE al0 ad0) (pc + 2) ls ((3, x) :: st) h) : Kn p l e R s m args below meth c Q (ST fz base H0 hI dC dI vF adS adV bS s R hE al0 ad0) pc ls st h := by
  intro al ad H locs cells slots lc sc g
  obtain ⟨q1, q2⟩ := g.load hv (Nat.le_of_ble_eq_true rfl)
  have k0 := kk _ _ _ _ _ _ _ _ (g.push (v := (3, x)) q2)
  have hc : cvv vF ad (3, x) = .null ∨ ∃ a, cvv vF ad (3, x) = .ref a := cv_3 hvF
  generalize cvv vF ad (3, x) = w at q1 k0 hc
  rcases hc with rfl | ⟨a, rfl⟩
  · exact lv_aloadN hx hb hdg q1 k0
  · exact lv_aload hx hb hdg q1 k0
theorem k_aload_n (hx : p.tables.exec = Jvm.exec) (hb : c.code = cc) (hvF : vF = .null ∨ ∃ a, vF = .ref a) {i : Nat} {n : Fin 4} (hn : n.val = i) (hv : ls.getD i nun = (3, x)) (hdg : decode cc pc = .ok (.aload_n n, 1)) (kk : Kn p l e R s m args below meth c Q (ST fz base H0 hI dC dI vF adS adV bS s R hE al0 ad0) (pc + 1) ls ((3, x) :: st) h) : Kn p l e R s m args below meth c Q (ST fz base H0 hI dC dI vF adS adV bS s R hE al0 ad0) pc ls st h := by
  intro al ad H locs cells slots lc sc g
  obtain ⟨q1, q2⟩ := g.load hv (Nat.le_of_ble_eq_true rfl)
  have k0 := kk _ _ _ _ _ _ _ _ (g.push (v := (3, x)) q2)
  have hc : cvv vF ad (3, x) = .null ∨ ∃ a, cvv vF ad (3, x) = .ref a := cv_3 hvF
  generalize cvv vF ad (3, x) = w at q1 k0 hc
  rcases hc with rfl | ⟨a, rfl⟩
  · exact lv_aload_nN hx hb hdg hn q1 k0
  · exact lv_aload_n hx hb hdg hn q1 k0
theorem k_istore (hx : p.tables.exec = Jvm.exec) (hb : c.code = cc) (hvF : vF = .null ∨ ∃ a, vF = .ref a) {i : Nat} (hi : i < ls.length) (hdg : decode cc pc = .ok (.istore i, 2)) (kk : Kn p l e R s m args below meth c Q (ST fz base H0 hI dC dI vF adS adV bS s R hE al0 ad0) (pc + 2) (stl ls i (0, x)) st h) : Kn p l e R s m args below meth c Q (ST fz base H0 hI dC dI vF adS adV bS s R hE al0 ad0) pc ls ((0, x) :: st) h := by
  intro al ad H locs cells slots lc sc g
  obtain ⟨sc1, rfl, r1, g1⟩ := g.pop
  exact lv_istore hx hb hdg g1.2.2.1.1 hi rfl fun lc' hl => kk _ _ _ _ _ _ _ _ (g1.sto1 (v := (0, x)) hi r1 hl (cv_cat hvF))
theorem k_istore_n (hx : p.tables.exec = Jvm.exec) (hb : c.code = cc) (hvF : vF = .null ∨ ∃ a, vF = .ref a) {i : Nat} {n : Fin 4} (hn : n.val = i) (hi : i < ls.length) (hdg : decode cc pc = .ok (.istore_n n, 1)) (kk : Kn p l e R s m args below meth c Q (ST fz base H0 hI dC dI vF adS adV bS s R hE al0 ad0) (pc + 1) (stl ls i (0, x)) st h) : Kn p l e R s m args below meth c Q (ST fz base H0 hI dC dI vF adS adV bS s R hE al0 ad0) pc ls ((0, x) :: st) h := by
  intro al ad H locs cells slots lc sc g
  obtain ⟨sc1, rfl, r1, g1⟩ := g.pop
  exact lv_istore_n hx hb hdg hn g1.2.2.1.1 hi rfl fun lc' hl => kk _ _ _ _ _ _ _ _ (g1.sto1 (v := (0, x)) hi r1 hl (cv_cat hvF))
theorem k_astore (hx : p.tables.exec = Jvm.exec) (hb : c.code = cc) (hvF : vF = .null ∨ ∃ a, vF = .ref a) {i : Nat} (hi : i < ls.length) (hdg : decode cc pc = .ok (.astore i, 2)) (kk : Kn p l e R s m args below meth c Q (ST fz base H0 hI dC dI vF adS adV bS s R hE al0 ad0) (pc + 2) (stl ls i (3, x)) st h) : Kn p l e R s m args below meth c Q (ST fz base H0 hI dC dI vF adS adV bS s R hE al0 ad0) pc ls ((3, x) :: st) h := by
  intro al ad H locs cells slots lc sc g
  obtain ⟨sc1, rfl, r1, g1⟩ := g.pop
  have hc : cvv vF ad (3, x) = .null ∨ ∃ a, cvv vF ad (3, x) = .ref a := cv_3 hvF
  have k0 : ∀ lc', lv_has lc' ls.length ((i, cvv vF ad (3, x)) :: (kl vF ad ls).filter (fun q => !(q.1 == i) && !(q.1 + 1 == i && q.2.category == 2))) → W p l e R s m args below meth c H locs cells slots Q (F0 m (pc + 2) lc' sc1) := fun lc' hl => kk _ _ _ _ _ _ _ _ (g1.sto1 (v := (3, x)) hi r1 hl (cv_cat hvF))
  generalize cvv vF ad (3, x) = w at k0 hc
  rcases hc with rfl | ⟨a, rfl⟩
  · exact lv_astoreN hx hb hdg g1.2.2.1.1 hi rfl k0
  · exact lv_astore hx hb hdg g1.2.2.1.1 hi rfl k0
theorem k_astore_n (hx : p.tables.exec = Jvm.exec) (hb : c.code = cc) (hvF : vF = .null ∨ ∃ a, vF = .ref a) {i : Nat} {n : Fin 4} (hn : n.val = i) (hi : i < ls.length) (hdg : decode cc pc = .ok (.astore_n n, 1)) (kk : Kn p l e R s m args below meth c Q (ST fz base H0 hI dC dI vF adS adV bS s R hE al0 ad0) (pc + 1) (stl ls i (3, x)) st h) : Kn p l e R s m args below meth c Q (ST fz base H0 hI dC dI vF adS adV bS s R hE al0 ad0) pc ls ((3, x) :: st) h := by
  intro al ad H locs cells slots lc sc g
  obtain ⟨sc1, rfl, r1, g1⟩ := g.pop
  have hc : cvv vF ad (3, x) = .null ∨ ∃ a, cvv vF ad (3, x) = .ref a := cv_3 hvF
  have k0 : ∀ lc', lv_has lc' ls.length ((i, cvv vF ad (3, x)) :: (kl vF ad ls).filter (fun q => !(q.1 == i) && !(q.1 + 1 == i && q.2.category == 2))) → W p l e R s m args below meth c H locs cells slots Q (F0 m (pc + 1) lc' sc1) := fun lc' hl => kk _ _ _ _ _ _ _ _ (g1.sto1 (v := (3, x)) hi r1 hl (cv_cat hvF))
  generalize cvv vF ad (3, x) = w at k0 hc
  rcases hc with rfl | ⟨a, rfl⟩
  · exact lv_astore_nN hx hb hdg hn g1.2.2.1.1 hi rfl k0
  · exact lv_astore_n hx hb hdg hn g1.2.2.1.1 hi rfl k0
theorem k_lstore (hx : p.tables.exec = Jvm.exec) (hb : c.code = cc) (hvF : vF = .null ∨ ∃ a, vF = .ref a) {i : Nat} (hi : i + 1 < ls.length) (hdg : decode cc pc = .ok (.lstore i, 2)) (kk : Kn p l e R s m args below meth c Q (ST fz base H0 hI dC dI vF adS adV bS s R hE al0 ad0) (pc + 2) (stl2 ls i (1, x)) st h) : Kn p l e R s m args below meth c Q (ST fz base H0 hI dC dI vF adS adV bS s R hE al0 ad0) pc ls ((1, x) :: st) h := by
  intro al ad H locs cells slots lc sc g
  obtain ⟨sc1, rfl, r1, g1⟩ := g.pop
  exact lv_lstore hx hb hdg g1.2.2.1.1 hi rfl fun lc' hl => kk _ _ _ _ _ _ _ _ (g1.sto2 (v := (1, x)) hi r1 hl (cv_cat hvF))
theorem k_lstore_n (hx : p.tables.exec = Jvm.exec) (hb : c.code = cc) (hvF : vF = .null ∨ ∃ a, vF = .ref a) {i : Nat} {n : Fin 4} (hn : n.val = i) (hi : i + 1 < ls.length) (hdg : decode cc pc = .ok (.lstore_n n, 1)) (kk : Kn p l e R s m args below meth c Q (ST fz base H0 hI dC dI vF adS adV bS s R hE al0 ad0) (pc + 1) (stl2 ls i (1, x)) st h) : Kn p l e R s m args below meth c Q (ST fz base H0 hI dC dI vF adS adV bS s R hE al0 ad0) pc ls ((1, x) :: st) h := by
  intro al ad H locs cells slots lc sc g
  obtain ⟨sc1, rfl, r1, g1⟩ := g.pop
  exact lv_lstore_n hx hb hdg hn g1.2.2.1.1 hi rfl fun lc' hl => kk _ _ _ _ _ _ _ _ (g1.sto2 (v := (1, x)) hi r1 hl (cv_cat hvF))
theorem k_dstore (hx : p.tables.exec = Jvm.exec) (hb : c.code = cc) (hvF : vF = .null ∨ ∃ a, vF = .ref a) {i : Nat} (hi : i + 1 < ls.length) (hdg : decode cc pc = .ok (.dstore i, 2)) (kk : Kn p l e R s m args below meth c Q (ST fz base H0 hI dC dI vF adS adV bS s R hE al0 ad0) (pc + 2) (stl2 ls i (2, x)) st h) : Kn p l e R s m args below meth c Q (ST fz base H0 hI dC dI vF adS adV bS s R hE al0 ad0) pc ls ((2, x) :: st) h := by
  intro al ad H locs cells slots lc sc g
  obtain ⟨sc1, rfl, r1, g1⟩ := g.pop
  exact lv_dstore hx hb hdg g1.2.2.1.1 hi rfl fun lc' hl => kk _ _ _ _ _ _ _ _ (g1.sto2 (v := (2, x)) hi r1 hl (cv_cat hvF))
theorem k_dstore_n (hx : p.tables.exec = Jvm.exec) (hb : c.code = cc) (hvF : vF = .null ∨ ∃ a, vF = .ref a) {i : Nat} {n : Fin 4} (hn : n.val = i) (hi : i + 1 < ls.length) (hdg : decode cc pc = .ok (.dstore_n n, 1)) (kk : Kn p l e R s m args below meth c Q (ST fz base H0 hI dC dI vF adS adV bS s R hE al0 ad0) (pc + 1) (stl2 ls i (2, x)) st h) : Kn p l e R s m args below meth c Q (ST fz base H0 hI dC dI vF adS adV bS s R hE al0 ad0) pc ls ((2, x) :: st) h := by
  intro al ad H locs cells slots lc sc g
  obtain ⟨sc1, rfl, r1, g1⟩ := g.pop
  exact lv_dstore_n hx hb hdg hn g1.2.2.1.1 hi rfl fun lc' hl => kk _ _ _ _ _ _ _ _ (g1.sto2 (v := (2, x)) hi r1 hl (cv_cat hvF))
theorem k_iinc (hx : p.tables.exec = Jvm.exec) (hb : c.code = cc) (hvF : vF = .null ∨ ∃ a, vF = .ref a) {i : Nat} {v : Int} (hv : ls.getD i nun = (0, x)) (hdg : decode cc pc = .ok (.iinc i v, 3)) (kk : Kn p l e R s m args below meth c Q (ST fz base H0 hI dC dI vF adS adV bS s R hE al0 ad0) (pc + 3) (stl ls i (0, w32 (x + v))) st h) : Kn p l e R s m args below meth c Q (ST fz base H0 hI dC dI vF adS adV bS s R hE al0 ad0) pc ls st h := by
  intro al ad H locs cells slots lc sc g
  have hv' : ls[i]? = some (0, x) := by
    rw [List.getD_eq_getElem?_getD] at hv
    cases e : ls[i]? with
    | none => rw [e] at hv; exact absurd (show (9 : Nat) = 0 from congrArg Prod.fst hv) (by decide)
    | some w => rw [e] at hv; exact congrArg some hv
  have hi : i < ls.length := (List.getElem?_eq_some_iff.mp hv').1
  have hm : (i, cvv vF ad (0, x)) ∈ kl vF ad ls := kl_mem.mpr ⟨(0, x), hv', Nat.le_of_ble_eq_true rfl, rfl⟩
  obtain ⟨q, hq⟩ := List.getElem?_of_mem hm
  exact lv_iinc (v := Int32.ofInt (w32 (x + v))) hx hb hdg g.2.2.1.1 hq (i_addE x v) hi rfl fun lc' hl => kk _ _ _ _ _ _ _ _ (g.sto1 (v := (0, w32 (x + v))) hi (w32_rng _) hl (cv_cat hvF))
theorem k_dup0 (hx : p.tables.exec = Jvm.exec) (hb : c.code = cc) (hvF : vF = .null ∨ ∃ a, vF = .ref a) (hdg : decode cc pc = .ok (.dup, 1)) (kk : Kn p l e R s m args below meth c Q (ST fz base H0 hI dC dI vF adS adV bS s R hE al0 ad0) (pc + 1) ls ((0, x) :: (0, x) :: st) h) : Kn p l e R s m args below meth c Q (ST fz base H0 hI dC dI vF adS adV bS s R hE al0 ad0) pc ls ((0, x) :: st) h := by
  intro al ad H locs cells slots lc sc g
  obtain ⟨sc1, rfl, r1, g1⟩ := g.pop
  exact lv_dup hx hb hdg rfl (kk _ _ _ _ _ _ _ _ ((g1.push (v := (0, x)) r1).push (v := (0, x)) r1))
theorem k_dup3 (hx : p.tables.exec = Jvm.exec) (hb : c.code = cc) (hvF : vF = .null ∨ ∃ a, vF = .ref a) (hdg : decode cc pc = .ok (.dup, 1)) (kk : Kn p l e R s m args below meth c Q (ST fz base H0 hI dC dI vF adS adV bS s R hE al0 ad0) (pc + 1) ls ((3, x) :: (3, x) :: st) h) : Kn p l e R s m args below meth c Q (ST fz base H0 hI dC dI vF adS adV bS s R hE al0 ad0) pc ls ((3, x) :: st) h := by
  intro al ad H locs cells slots lc sc g
  obtain ⟨sc1, rfl, r1, g1⟩ := g.pop
  exact lv_dup hx hb hdg (cv_cat hvF 3 x (by decide) (by decide) r1) (kk _ _ _ _ _ _ _ _ ((g1.push (v := (3, x)) r1).push (v := (3, x)) r1))
theorem k_dup21 (hx : p.tables.exec = Jvm.exec) (hb : c.code = cc) (hvF : vF = .null ∨ ∃ a, vF = .ref a) (hdg : decode cc pc = .ok (.dup2, 1)) (kk : Kn p l e R s m args below meth c Q (ST fz base H0 hI dC dI vF adS adV bS s R hE al0 ad0) (pc + 1) ls ((1, x) :: (1, x) :: st) h) : Kn p l e R s m args below meth c Q (ST fz base H0 hI dC dI vF adS adV bS s R hE al0 ad0) pc ls ((1, x) :: st) h := by
  intro al ad H locs cells slots lc sc g
  obtain ⟨sc1, rfl, r1, g1⟩ := g.pop
  exact lv_dup2_2 hx hb hdg rfl (kk _ _ _ _ _ _ _ _ ((g1.push (v := (1, x)) r1).push (v := (1, x)) r1))
theorem k_dup203 (hx : p.tables.exec = Jvm.exec) (hb : c.code = cc) (hvF : vF = .null ∨ ∃ a, vF = .ref a) (hdg : decode cc pc = .ok (.dup2, 1)) (kk : Kn p l e R s m args below meth c Q (ST fz base H0 hI dC dI vF adS adV bS s R hE al0 ad0) (pc + 1) ls ((0, x) :: (3, y) :: (0, x) :: (3, y) :: st) h) : Kn p l e R s m args below meth c Q (ST fz base H0 hI dC dI vF adS adV bS s R hE al0 ad0) pc ls ((0, x) :: (3, y) :: st) h := by
  intro al ad H locs cells slots lc sc g
  obtain ⟨sc1, rfl, r1, g1⟩ := g.pop
  obtain ⟨sc2, rfl, r2, g2⟩ := g1.pop
  exact lv_dup2_11 hx hb hdg rfl (cv_cat hvF 3 y (by decide) (by decide) r2) (kk _ _ _ _ _ _ _ _ ((((g2.push (v := (3, y)) r2).push (v := (0, x)) r1).push (v := (3, y)) r2).push (v := (0, x)) r1))
theorem k_pop0 (hx : p.tables.exec = Jvm.exec) (hb : c.code = cc) (hvF : vF = .null ∨ ∃ a, vF = .ref a) (hdg : decode cc pc = .ok (.pop, 1)) (kk : Kn p l e R s m args below meth c Q (ST fz base H0 hI dC dI vF adS adV bS s R hE al0 ad0) (pc + 1) ls st h) : Kn p l e R s m args below meth c Q (ST fz base H0 hI dC dI vF adS adV bS s R hE al0 ad0) pc ls ((0, x) :: st) h := by
  intro al ad H locs cells slots lc sc g
  obtain ⟨sc1, rfl, r1, g1⟩ := g.pop
  exact lv_pop hx hb hdg rfl (kk _ _ _ _ _ _ _ _ g1)
theorem k_pop3 (hx : p.tables.exec = Jvm.exec) (hb : c.code = cc) (hvF : vF = .null ∨ ∃ a, vF = .ref a) (hdg : decode cc pc = .ok (.pop, 1)) (kk : Kn p l e R s m args below meth c Q (ST fz base H0 hI dC dI vF adS adV bS s R hE al0 ad0) (pc + 1) ls st h) : Kn p l e R s m args below meth c Q (ST fz base H0 hI dC dI vF adS adV bS s R hE al0 ad0) pc ls ((3, x) :: st) h := by
  intro al ad H locs cells slots lc sc g
  obtain ⟨sc1, rfl, r1, g1⟩ := g.pop
  exact lv_pop hx hb hdg (cv_cat hvF 3 x (by decide) (by decide) r1) (kk _ _ _ _ _ _ _ _ g1)
theorem k_icmp_eq (hx : p.tables.exec = Jvm.exec) (hb : c.code = cc) {off : Int} {tgt : Nat} (hdg : decode cc pc = .ok (.if_icmp .eq off, 3)) (ht : (pc : Int) + off = (tgt : Int)) (kt : cnd .eq x y → Kn p l e R s m args below meth c Q (ST fz base H0 hI dC dI vF adS adV bS s R hE al0 ad0) tgt ls st h) (kf : ¬ cnd .eq x y → Kn p l e R s m args below meth c Q (ST fz base H0 hI dC dI vF adS adV bS s R hE al0 ad0) (pc + 3) ls st h) : Kn p l e R s m args below meth c Q (ST fz base H0 hI dC dI vF adS adV bS s R hE al0 ad0) pc ls ((0, y) :: (0, x) :: st) h := by
  intro al ad H locs cells slots lc sc g
  obtain ⟨sc1, rfl, r1, g1⟩ := g.pop
  obtain ⟨sc2, rfl, r2, g2⟩ := g1.pop
  exact lv_icmp_eq hx hb hdg ht (fun q => kt ((i_eqE r2 r1).mp q) _ _ _ _ _ _ _ _ g2) (fun q => kf (fun z => q ((i_eqE r2 r1).mpr z)) _ _ _ _ _ _ _ _ g2)
theorem k_if_eq (hx : p.tables.exec = Jvm.exec) (hb : c.code = cc) {off : Int} {tgt : Nat} (hdg : decode cc pc = .ok (.ifCond .eq off, 3)) (ht : (pc : Int) + off = (tgt : Int)) (kt : cnd .eq x 0 → Kn p l e R s m args below meth c Q (ST fz base H0 hI dC dI vF adS adV bS s R hE al0 ad0) tgt ls st h) (kf : ¬ cnd .eq x 0 → Kn p l e R s m args below meth c Q (ST fz base H0 hI dC dI vF adS adV bS s R hE al0 ad0) (pc + 3) ls st h) : Kn p l e R s m args below meth c Q (ST fz base H0 hI dC dI vF adS adV bS s R hE al0 ad0) pc ls ((0, x) :: st) h := by
  intro al ad H locs cells slots lc sc g
  obtain ⟨sc1, rfl, r1, g1⟩ := g.pop
  exact lv_if_eq hx hb hdg ht (fun q => kt ((i_eqE (y := 0) r1 (by constructor <;> decide)).mp q) _ _ _ _ _ _ _ _ g1) (fun q => kf (fun z => q ((i_eqE (y := 0) r1 (by constructor <;> decide)).mpr z)) _ _ _ _ _ _ _ _ g1)
theorem k_icmp_ne (hx : p.tables.exec = Jvm.exec) (hb : c.code = cc) {off : Int} {tgt : Nat} (hdg : decode cc pc = .ok (.if_icmp .ne off, 3)) (ht : (pc : Int) + off = (tgt : Int)) (kt : cnd .ne x y → Kn p l e R s m args below meth c Q (ST fz base H0 hI dC dI vF adS adV bS s R hE al0 ad0) tgt ls st h) (kf : ¬ cnd .ne x y → Kn p l e R s m args below meth c Q (ST fz base H0 hI dC dI vF adS adV bS s R hE al0 ad0) (pc + 3) ls st h) : Kn p l e R s m args below meth c Q (ST fz base H0 hI dC dI vF adS adV bS s R hE al0 ad0) pc ls ((0, y) :: (0, x) :: st) h := by
  intro al ad H locs cells slots lc sc g
  obtain ⟨sc1, rfl, r1, g1⟩ := g.pop
  obtain ⟨sc2, rfl, r2, g2⟩ := g1.pop
  exact lv_icmp_ne hx hb hdg ht (fun q => kt (fun z => q ((i_eqE r2 r1).mpr z)) _ _ _ _ _ _ _ _ g2) (fun q => kf (fun z => z ((i_eqE r2 r1).mp q)) _ _ _ _ _ _ _ _ g2)
theorem k_if_ne (hx : p.tables.exec = Jvm.exec) (hb : c.code = cc) {off : Int} {tgt : Nat} (hdg : decode cc pc = .ok (.ifCond .ne off, 3)) (ht : (pc : Int) + off = (tgt : Int)) (kt : cnd .ne x 0 → Kn p l e R s m args below meth c Q (ST fz base H0 hI dC dI vF adS adV bS s R hE al0 ad0) tgt ls st h) (kf : ¬ cnd .ne x 0 → Kn p l e R s m args below meth c Q (ST fz base H0 hI dC dI vF adS adV bS s R hE al0 ad0) (pc + 3) ls st h) : Kn p l e R s m args below meth c Q (ST fz base H0 hI dC dI vF adS adV bS s R hE al0 ad0) pc ls ((0, x) :: st) h := by
  intro al ad H locs cells slots lc sc g
  obtain ⟨sc1, rfl, r1, g1⟩ := g.pop
  exact lv_if_ne hx hb hdg ht (fun q => kt (fun z => q ((i_eqE (y := 0) r1 (by constructor <;> decide)).mpr z)) _ _ _ _ _ _ _ _ g1) (fun q => kf (fun z => z ((i_eqE (y := 0) r1 (by constructor <;> decide)).mp q)) _ _ _ _ _ _ _ _ g1)
theorem k_icmp_lt (hx : p.tables.exec = Jvm.exec) (hb : c.code = cc) {off : Int} {tgt : Nat} (hdg : decode cc pc = .ok (.if_icmp .lt off, 3)) (ht : (pc : Int) + off = (tgt : Int)) (kt : cnd .lt x y → Kn p l e R s m args below meth c Q (ST fz base H0 hI dC dI vF adS adV bS s R hE al0 ad0) tgt ls st h) (kf : ¬ cnd .lt x y → Kn p l e R s m args below meth c Q (ST fz base H0 hI dC dI vF adS adV bS s R hE al0 ad0) (pc + 3) ls st h) : Kn p l e R s m args below meth c Q (ST fz base H0 hI dC dI vF adS adV bS s R hE al0 ad0) pc ls ((0, y) :: (0, x) :: st) h := by
  intro al ad H locs cells slots lc sc g
  obtain ⟨sc1, rfl, r1, g1⟩ := g.pop
  obtain ⟨sc2, rfl, r2, g2⟩ := g1.pop
  exact lv_icmp_lt hx hb hdg ht (fun q => kt ((i_ltE r2 r1).mp q) _ _ _ _ _ _ _ _ g2) (fun q => kf (fun z => q ((i_ltE r2 r1).mpr z)) _ _ _ _ _ _ _ _ g2)
theorem k_if_lt (hx : p.tables.exec = Jvm.exec) (hb : c.code = cc) {off : Int} {tgt : Nat} (hdg : decode cc pc = .ok (.ifCond .lt off, 3)) (ht : (pc : Int) + off = (tgt : Int)) (kt : cnd .lt x 0 → Kn p l e R s m args below meth c Q (ST fz base H0 hI dC dI vF adS adV bS s R hE al0 ad0) tgt ls st h) (kf : ¬ cnd .lt x 0 → Kn p l e R s m args below meth c Q (ST fz base H0 hI dC dI vF adS adV bS s R hE al0 ad0) (pc + 3) ls st h) : Kn p l e R s m args below meth c Q (ST fz base H0 hI dC dI vF adS adV bS s R hE al0 ad0) pc ls ((0, x) :: st) h := by
  intro al ad H locs cells slots lc sc g
  obtain ⟨sc1, rfl, r1, g1⟩ := g.pop
  exact lv_if_lt hx hb hdg ht (fun q => kt ((i_ltE (y := 0) r1 (by constructor <;> decide)).mp q) _ _ _ _ _ _ _ _ g1) (fun q => kf (fun z => q ((i_ltE (y := 0) r1 (by constructor <;> decide)).mpr z)) _ _ _ _ _ _ _ _ g1)
theorem k_icmp_ge (hx : p.tables.exec = Jvm.exec) (hb : c.code = cc) {off : Int} {tgt : Nat} (hdg : decode cc pc = .ok (.if_icmp .ge off, 3)) (ht : (pc : Int) + off = (tgt : Int)) (kt : cnd .ge x y → Kn p l e R s m args below meth c Q (ST fz base H0 hI dC dI vF adS adV bS s R hE al0 ad0) tgt ls st h) (kf : ¬ cnd .ge x y → Kn p l e R s m args below meth c Q (ST fz base H0 hI dC dI vF adS adV bS s R hE al0 ad0) (pc + 3) ls st h) : Kn p l e R s m args below meth c Q (ST fz base H0 hI dC dI vF adS adV bS s R hE al0 ad0) pc ls ((0, y) :: (0, x) :: st) h := by
  intro al ad H locs cells slots lc sc g
  obtain ⟨sc1, rfl, r1, g1⟩ := g.pop
  obtain ⟨sc2, rfl, r2, g2⟩ := g1.pop
  exact lv_icmp_ge hx hb hdg ht (fun q => kt ((i_leE r1 r2).mp q) _ _ _ _ _ _ _ _ g2) (fun q => kf (fun z => q ((i_leE r1 r2).mpr z)) _ _ _ _ _ _ _ _ g2)
theorem k_if_ge (hx : p.tables.exec = Jvm.exec) (hb : c.code = cc) {off : Int} {tgt : Nat} (hdg : decode cc pc = .ok (.ifCond .ge off, 3)) (ht : (pc : Int) + off = (tgt : Int)) (kt : cnd .ge x 0 → Kn p l e R s m args below meth c Q (ST fz base H0 hI dC dI vF adS adV bS s R hE al0 ad0) tgt ls st h) (kf : ¬ cnd .ge x 0 → Kn p l e R s m args below meth c Q (ST fz base H0 hI dC dI vF adS adV bS s R hE al0 ad0) (pc + 3) ls st h) : Kn p l e R s m args below meth c Q (ST fz base H0 hI dC dI vF adS adV bS s R hE al0 ad0) pc ls ((0, x) :: st) h := by
  intro al ad H locs cells slots lc sc g
  obtain ⟨sc1, rfl, r1, g1⟩ := g.pop
  exact lv_if_ge hx hb hdg ht (fun q => kt ((i_leE (x := 0) (by constructor <;> decide) r1).mp q) _ _ _ _ _ _ _ _ g1) (fun q => kf (fun z => q ((i_leE (x := 0) (by constructor <;> decide) r1).mpr z)) _ _ _ _ _ _ _ _ g1)
theorem k_icmp_gt (hx : p.tables.exec = Jvm.exec) (hb : c.code = cc) {off : Int} {tgt : Nat} (hdg : decode cc pc = .ok (.if_icmp .gt off, 3)) (ht : (pc : Int) + off = (tgt : Int)) (kt : cnd .gt x y → Kn p l e R s m args below meth c Q (ST fz base H0 hI dC dI vF adS adV bS s R hE al0 ad0) tgt ls st h) (kf : ¬ cnd .gt x y → Kn p l e R s m args below meth c Q (ST fz base H0 hI dC dI vF adS adV bS s R hE al0 ad0) (pc + 3) ls st h) : Kn p l e R s m args below meth c Q (ST fz base H0 hI dC dI vF adS adV bS s R hE al0 ad0) pc ls ((0, y) :: (0, x) :: st) h := by
  intro al ad H locs cells slots lc sc g
  obtain ⟨sc1, rfl, r1, g1⟩ := g.pop
  obtain ⟨sc2, rfl, r2, g2⟩ := g1.pop
  exact lv_icmp_gt hx hb hdg ht (fun q => kt ((i_ltE r1 r2).mp q) _ _ _ _ _ _ _ _ g2) (fun q => kf (fun z => q ((i_ltE r1 r2).mpr z)) _ _ _ _ _ _ _ _ g2)
theorem k_if_gt (hx : p.tables.exec = Jvm.exec) (hb : c.code = cc) {off : Int} {tgt : Nat} (hdg : decode cc pc = .ok (.ifCond .gt off, 3)) (ht : (pc : Int) + off = (tgt : Int)) (kt : cnd .gt x 0 → Kn p l e R s m args below meth c Q (ST fz base H0 hI dC dI vF adS adV bS s R hE al0 ad0) tgt ls st h) (kf : ¬ cnd .gt x 0 → Kn p l e R s m args below meth c Q (ST fz base H0 hI dC dI vF adS adV bS s R hE al0 ad0) (pc + 3) ls st h) : Kn p l e R s m args below meth c Q (ST fz base H0 hI dC dI vF adS adV bS s R hE al0 ad0) pc ls ((0, x) :: st) h := by
  intro al ad H locs cells slots lc sc g
  obtain ⟨sc1, rfl, r1, g1⟩ := g.pop
  exact lv_if_gt hx hb hdg ht (fun q => kt ((i_ltE (x := 0) (by constructor <;> decide) r1).mp q) _ _ _ _ _ _ _ _ g1) (fun q => kf (fun z => q ((i_ltE (x := 0) (by constructor <;> decide) r1).mpr z)) _ _ _ _ _ _ _ _ g1)
theorem k_icmp_le (hx : p.tables.exec = Jvm.exec) (hb : c.code = cc) {off : Int} {tgt : Nat} (hdg : decode cc pc = .ok (.if_icmp .le off, 3)) (ht : (pc : Int) + off = (tgt : Int)) (kt : cnd .le x y → Kn p l e R s m args below meth c Q (ST fz base H0 hI dC dI vF adS adV bS s R hE al0 ad0) tgt ls st h) (kf : ¬ cnd .le x y → Kn p l e R s m args below meth c Q (ST fz base H0 hI dC dI vF adS adV bS s R hE al0 ad0) (pc + 3) ls st h) : Kn p l e R s m args below meth c Q (ST fz base H0 hI dC dI vF adS adV bS s R hE al0 ad0) pc ls ((0, y) :: (0, x) :: st) h := by
  intro al ad H locs cells slots lc sc g
  obtain ⟨sc1, rfl, r1, g1⟩ := g.pop
  obtain ⟨sc2, rfl, r2, g2⟩ := g1.pop
  exact lv_icmp_le hx hb hdg ht (fun q => kt ((i_leE r2 r1).mp q) _ _ _ _ _ _ _ _ g2) (fun q => kf (fun z => q ((i_leE r2 r1).mpr z)) _ _ _ _ _ _ _ _ g2)
theorem k_if_le (hx : p.tables.exec = Jvm.exec) (hb : c.code = cc) {off : Int} {tgt : Nat} (hdg : decode cc pc = .ok (.ifCond .le off, 3)) (ht : (pc : Int) + off = (tgt : Int)) (kt : cnd .le x 0 → Kn p l e R s m args below meth c Q (ST fz base H0 hI dC dI vF adS adV bS s R hE al0 ad0) tgt ls st h) (kf : ¬ cnd .le x 0 → Kn p l e R s m args below meth c Q (ST fz base H0 hI dC dI vF adS adV bS s R hE al0 ad0) (pc + 3) ls st h) : Kn p l e R s m args below meth c Q (ST fz base H0 hI dC dI vF adS adV bS s R hE al0 ad0) pc ls ((0, x) :: st) h := by
  intro al ad H locs cells slots lc sc g
  obtain ⟨sc1, rfl, r1, g1⟩ := g.pop
  exact lv_if_le hx hb hdg ht (fun q => kt ((i_leE (y := 0) r1 (by constructor <;> decide)).mp q) _ _ _ _ _ _ _ _ g1) (fun q => kf (fun z => q ((i_leE (y := 0) r1 (by constructor <;> decide)).mpr z)) _ _ _ _ _ _ _ _ g1)
theorem k_icmp (hx : p.tables.exec = Jvm.exec) (hb : c.code = cc) {cd : ClassFile.Cond} {off : Int} {tgt : Nat} (hdg : decode cc pc = .ok (.if_icmp cd off, 3)) (ht : (pc : Int) + off = (tgt : Int)) (kt : cnd cd x y → Kn p l e R s m args below meth c Q (ST fz base H0 hI dC dI vF adS adV bS s R hE al0 ad0) tgt ls st h) (kf : ¬ cnd cd x y → Kn p l e R s m args below meth c Q (ST fz base H0 hI dC dI vF adS adV bS s R hE al0 ad0) (pc + 3) ls st h) : Kn p l e R s m args below meth c Q (ST fz base H0 hI dC dI vF adS adV bS s R hE al0 ad0) pc ls ((0, y) :: (0, x) :: st) h := by
  cases cd
  · exact k_icmp_eq hx hb hdg ht kt kf
  · exact k_icmp_ne hx hb hdg ht kt kf
  · exact k_icmp_lt hx hb hdg ht kt kf
  · exact k_icmp_ge hx hb hdg ht kt kf
  · exact k_icmp_gt hx hb hdg ht kt kf
  · exact k_icmp_le hx hb hdg ht kt kf
theorem k_if (hx : p.tables.exec = Jvm.exec) (hb : c.code = cc) {cd : ClassFile.Cond} {off : Int} {tgt : Nat} (hdg : decode cc pc = .ok (.ifCond cd off, 3)) (ht : (pc : Int) + off = (tgt : Int)) (kt : cnd cd x 0 → Kn p l e R s m args below meth c Q (ST fz base H0 hI dC dI vF adS adV bS s R hE al0 ad0) tgt ls st h) (kf : ¬ cnd cd x 0 → Kn p l e R s m args below meth c Q (ST fz base H0 hI dC dI vF adS adV bS s R hE al0 ad0) (pc + 3) ls st h) : Kn p l e R s m args below meth c Q (ST fz base H0 hI dC dI vF adS adV bS s R hE al0 ad0) pc ls ((0, x) :: st) h := by
  cases cd
  · exact k_if_eq hx hb hdg ht kt kf
  · exact k_if_ne hx hb hdg ht kt kf
  · exact k_if_lt hx hb hdg ht kt kf
  · exact k_if_ge hx hb hdg ht kt kf
  · exact k_if_gt hx hb hdg ht kt kf
  · exact k_if_le hx hb hdg ht kt kf
theorem k_goto (hx : p.tables.exec = Jvm.exec) (hb : c.code = cc) {off : Int} {tgt : Nat} (hdg : decode cc pc = .ok (.goto off, 3)) (ht : (pc : Int) + off = (tgt : Int)) (kk : Kn p l e R s m args below meth c Q (ST fz base H0 hI dC dI vF adS adV bS s R hE al0 ad0) tgt ls st h) : Kn p l e R s m args below meth c Q (ST fz base H0 hI dC dI vF adS adV bS s R hE al0 ad0) pc ls st h := fun _ _ _ _ _ _ _ _ g => lv_goto hx hb hdg ht (kk _ _ _ _ _ _ _ _ g)
end KN
