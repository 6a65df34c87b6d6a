/-! SOUNDNESS, 12: every run of the numbered machine is a run of the bytes -/
theorem ent_len {k : Nat} {as : List AV} (h : (entL as).length ≤ ml k) : (ent k as).length = ml k := by
  unfold ent
  rw [List.length_append, List.length_replicate]
  omega
theorem entL_w {t : Nat} {x : Int} {r : List AV} (h : t = 1 ∨ t = 2) : entL ((t, x) :: r) = (t, x) :: (9, 0) :: entL r := by
  rcases h with rfl | rfl <;> rfl
theorem entL_n {t : Nat} {x : Int} {r : List AV} (h1 : t ≠ 1) (h2 : t ≠ 2) : entL ((t, x) :: r) = (t, x) :: entL r := by
  match t, h1, h2 with
  | 0, _, _ => rfl
  | 1, h, _ => exact absurd rfl h
  | 2, _, h => exact absurd rfl h
  | t + 3, _, _ => rfl
theorem cv_cat2 {vF : Value} {ad : Int → Nat} {t : Nat} (h : t = 1 ∨ t = 2) (x : Int) : (cv vF ad t x).category = 2 := by
  rcases h with rfl | rfl <;> rfl
theorem lgsl_len {vF : Value} {ad : Int → Nat} {al : Int → Prop} (hvF : vF = .null ∨ ∃ a, vF = .ref a) : ∀ (as : List AV), (∀ v ∈ as, rng al v.1 v.2) → (lg_sl (as.map (cvv vF ad))).length = (entL as).length
  | [], _ => rfl
  | (t, x) :: r, hr => by
    have ih := lgsl_len (ad := ad) hvF r (fun v hv => hr v (List.mem_cons_of_mem _ hv))
    have h0 : rng al t x := hr (t, x) List.mem_cons_self
    have e : lg_sl (((t, x) :: r).map (cvv vF ad)) = (if (cv vF ad t x).category = 2 then [.val (cv vF ad t x), .second] else [.val (cv vF ad t x)]) ++ lg_sl (r.map (cvv vF ad)) := rfl
    rw [e, List.length_append, ih]
    by_cases h : t = 1 ∨ t = 2
    · rw [if_pos (cv_cat2 h x), entL_w h]
      simp only [List.length_cons, List.length_nil]
      omega
    · have h1 : t ≠ 1 := fun q => h (Or.inl q)
      have h2 : t ≠ 2 := fun q => h (Or.inr q)
      rw [if_neg (by rw [cv_cat hvF t x h1 h2 h0]; decide), entL_n h1 h2]
      simp only [List.length_cons, List.length_nil]
      omega
theorem entL_mem {vF : Value} {ad : Int → Nat} {al : Int → Prop} (hvF : vF = .null ∨ ∃ a, vF = .ref a) : ∀ (as : List AV) (i0 j : Nat) (v : AV), (∀ v ∈ as, rng al v.1 v.2) → (entL as)[j]? = some v → v.1 ≤ 3 → (i0 + j, cvv vF ad v) ∈ lv_args i0 (as.map (cvv vF ad)) ∧ v ∈ as
  | [], _, _, _, _, h, _ => by cases h
  | (t, x) :: r, i0, j, v, hr, h, h3 => by
    have h0 : rng al t x := hr (t, x) List.mem_cons_self
    have e : lv_args i0 (((t, x) :: r).map (cvv vF ad)) = (i0, cvv vF ad (t, x)) :: lv_args (if (cv vF ad t x).category = 2 then i0 + 2 else i0 + 1) (r.map (cvv vF ad)) := rfl
    rw [e]
    by_cases ht : t = 1 ∨ t = 2
    · rw [entL_w ht] at h
      rw [if_pos (cv_cat2 ht x)]
      match j, h with
      | 0, h => cases h; exact ⟨List.mem_cons_self, List.mem_cons_self⟩
      | 1, h => cases h; exact absurd h3 (by show ¬ 9 ≤ 3; decide)
      | j + 2, h =>
        have ih := entL_mem (ad := ad) hvF r (i0 + 2) j v (fun v hv => hr v (List.mem_cons_of_mem _ hv)) h h3
        rw [show i0 + (j + 2) = i0 + 2 + j by omega]
        exact ⟨List.mem_cons_of_mem _ ih.1, List.mem_cons_of_mem _ ih.2⟩
    · have h1 : t ≠ 1 := fun q => ht (Or.inl q)
      have h2 : t ≠ 2 := fun q => ht (Or.inr q)
      rw [entL_n h1 h2] at h
      rw [if_neg (by rw [cv_cat hvF t x h1 h2 h0]; decide)]
      match j, h with
      | 0, h => cases h; exact ⟨List.mem_cons_self, List.mem_cons_self⟩
      | j + 1, h =>
        have ih := entL_mem (ad := ad) hvF r (i0 + 1) j v (fun v hv => hr v (List.mem_cons_of_mem _ hv)) h h3
        rw [show i0 + (j + 1) = i0 + 1 + j by omega]
        exact ⟨List.mem_cons_of_mem _ ih.1, List.mem_cons_of_mem _ ih.2⟩
theorem ent_get {k : Nat} {as : List AV} {j : Nat} {v : AV} (h : (ent k as)[j]? = some v) (h3 : v.1 ≤ 3) : (entL as)[j]? = some v := by
  unfold ent at h
  by_cases hj : j < (entL as).length
  · rw [List.getElem?_append_left hj] at h; exact h
  · rw [List.getElem?_append_right (by omega), List.getElem?_replicate] at h
    split at h
    · cases h; exact absurd h3 (by decide)
    · cases h
theorem LR_ent {vF : Value} {ad : Int → Nat} {al : Int → Prop} (hvF : vF = .null ∨ ∃ a, vF = .ref a) {k : Nat} {as : List AV} (h : (entL as).length ≤ ml k) (hr : ∀ v ∈ as, rng al v.1 v.2) : LR vF al ad (ent k as) ((lg_sl (as.map (cvv vF ad)) ++ List.replicate (ml k - (lg_sl (as.map (cvv vF ad))).length) Slot.unset).toArray) := by
  have h0 := lv_entry (as.map (cvv vF ad)) (n := ml k) (by rw [lgsl_len hvF as hr]; exact h)
  refine ⟨⟨by rw [ent_len h]; exact h0.1, h0.2.1, fun q hq => ?_⟩, fun v hv h3 => ?_⟩
  · obtain ⟨v, h1, h2, h4⟩ := kl_mem.mp hq
    have := (entL_mem (ad := ad) hvF as 0 q.1 v hr (ent_get h1 h2) h2).1
    rw [Nat.zero_add, ← h4] at this
    exact h0.2.2 q this
  · obtain ⟨j, hj⟩ := List.getElem?_of_mem hv
    exact hr v (entL_mem (vF := vF) (ad := ad) hvF as 0 j v hr (ent_get hj h3) h3).2
section RET
variable {p : Program} {l : Launch} {e : Env} {R : Room} {s : State} {m : MethodId} {args : Array Value} {below : List Frame} {meth : Method} {c : Code} {H : Heap} {locs : List Loc} {cells slots : Nat}
/-- a return of an int that is cut to the method's type -/
theorem W_nret {cc : ByteArray} {Qc : Array Value → State → Outcome → State → Prop} {free : Addr → Prop} {v v' : Int32} {ty : FieldType} (hexec : p.tables.exec = Jvm.exec) (hb : c.code = cc) (hr : meth.sig.returnType = some ty) (hn : narrow ty (.int v) = .int v')
    (hq : ∀ t : State, t.heap = H → s.WarmedH t.vm → Qc args s (.returned (some (.int v'))) t) (hf : ∀ q ∈ locs, free q.base)
    {pc : Nat} {ls : Array Slot} (hdg : decode cc pc = .ok (.ireturn, 1)) (hlocks : meth.locks = false) : W p l e R s m args below meth c H locs cells slots (MQ below Qc args s cells slots free) (F0 m pc ls [.int v]) := by
  intro T hT X
  obtain ⟨fs, hret, hrun, hended, hW, hframe⟩ := X.leave (v := some (.int v')) (fun h => by rw [hr] at h; cases h)
  have hmeth' : T.vm.method? m = some meth := X.method'
  refine ⟨T.setFrames fs, ?_, .returned (some (.int v')), hrun, hended, hq _ hT hW, locs, ⟨⟨_, rfl⟩, hW, hframe⟩, hf⟩
  jvm_step X.here [X.here.top, hexec, hb, hdg, hmeth', hr, hn]
  (try refine ⟨rfl, ?_⟩); (try refine ⟨rfl, ?_⟩)
  first | (intro acts; rw [hret _ acts rfl rfl rfl]) | rw [hret _ _ rfl rfl rfl]
  exact Steps.refl _
end RET
theorem nar_i (x : Int) : narrow .int (.int (Int32.ofInt x)) = .int (Int32.ofInt x) := rfl
theorem nar_z (x : Int) : narrow .boolean (.int (Int32.ofInt x)) = .int (Int32.ofInt (x % 2)) := congrArg Value.int (i_and1 x)
theorem nar_c (x : Int) : narrow .char (.int (Int32.ofInt x)) = .int (Int32.ofInt (x % 65536)) := congrArg Value.int (i2cE x)
theorem nar_b (x : Int) : narrow .byte (.int (Int32.ofInt x)) = .int (Int32.ofInt (w8 x)) := congrArg Value.int (i2bE x)
theorem rt_int {r : Nat} {t : Option FieldType} (h : rtOK r t = true) (hr : r ≠ 7) : ∃ ft, t = some ft ∧ ofTy r ft = true := by
  cases t with
  | none => exact absurd (of_decide_eq_true h) hr
  | some ft => exact ⟨ft, rfl, h⟩
section MAIN
variable {l : Launch} {fz : Int → Int → Option Int} {base : Nat} {H0 : Heap} {hI : HV} {dC : Nat → ClassId} {dI : Nat → Nat → Nat} {vF : Value} {adS adV : Nat → Nat} {bS : Nat} {len : List Nat} {byt : List (List Int32)} {L : Nat} {sx : Nat → Int32}
def BLK (l : Launch) (fz : Int → Int → Option Int) (base : Nat) (H0 : Heap) (hI : HV) (dC : Nat → ClassId) (dI : Nat → Nat → Nat) (vF : Value) (adS adV : Nat → Nat) (bS : Nat) (len : List Nat) (byt : List (List Int32)) (L : Nat) (sx : Nat → Int32) (n : Nat) : Prop :=
  ∀ (p : Program) (e : Env) (R : Room) (s : State) (m : MethodId) (args : Array Value) (below : List Frame) (meth : Method) (c : Code) (Q : State → Prop) (al0 : Int → Prop) (ad0 : Int → Nat) (k d : Nat) (r0 : Int) (hE : HV), k < 445 →
    FC p R s m args meth c fz base H0 hI dC dI vF adS adV bS len byt L sx k d → Ends p l e R s m args below meth c Q (ST fz base H0 hI dC dI vF adS adV bS s R hE al0 ad0) k r0 hE →
    ∀ (b : Nat) (ls st : List AV) (h : HV), b < (hk k).length → ls.length = ml k → runM fz n d k b ls st h = some (r0, hE) → Kn p l e R s m args below meth c Q (ST fz base H0 hI dC dI vF adS adV bS s R hE al0 ad0) (pcs k b) ls st h
theorem ends_MQ {p : Program} {e : Env} {s s0 : State} {m : MethodId} {args : Array Value} {below : List Frame} {meth : Method} {c : Code} {al0 : Int → Prop} {ad0 : Int → Nat} {k d : Nat} {h hE : HV} {r0 : Int} (hx : p.tables.exec = Jvm.exec) (hb : c.code = ck k) (hret : meth.sig.returnType = rk k) (hlk : meth.locks = false) (hrt : rtOK (rn k) (rk k) = true) (hvm : s0.vm.Alike s.vm) (hvF : vF = .null ∨ ∃ a, vF = .ref a) :
    Ends p l e (RM d h hE) s m args below meth c (MQ below (QcM fz base H0 hI dC dI vF adS adV bS s0 al0 ad0 hE r0 (rcode (rn k))) args s (hE 0 0 - h 0 0).toNat (hE 0 1 - h 0 1).toNat (fun q => base ≤ q)) (ST fz base H0 hI dC dI vF adS adV bS s (RM d h hE) hE al0 ad0) k r0 hE := by
  have key : ∀ (al : Int → Prop) (ad : Int → Nat) (H : Heap) (locs : List Loc) (cells slots : Nat) (ls st : List AV) (lc : Array Slot) (sc : List Value), ST fz base H0 hI dC dI vF adS adV bS s (RM d h hE) hE al0 ad0 al ad hE H locs cells slots ls st lc sc →
      cells = (hE 0 0 - h 0 0).toNat ∧ slots = (hE 0 1 - h 0 1).toNat ∧ (∀ q ∈ locs, base ≤ q.base) ∧ ∀ (v : Option Value) (t : State), retT vF al ad (rcode (rn k)) r0 v → t.heap = H → QcM fz base H0 hI dC dI vF adS adV bS s0 al0 ad0 hE r0 (rcode (rn k)) args s (.returned v) t := by
    intro al ad H locs cells slots ls st lc sc g
    have g6 := g.2.2.2.2.2.1
    have g7 := g.2.2.2.2.2.2
    have e1 : (RM d h hE).cells = (hE 0 0 - h 0 0).toNat := rfl
    have e2 : (RM d h hE).slots = (hE 0 1 - h 0 1).toNat := rfl
    rw [e1] at g6
    rw [e2] at g7
    exact ⟨by omega, by omega, g.2.2.2.2.1, fun v t hv ht => ⟨v, al, ad, rfl, g.2.1, by rw [ht]; exact g.1.moved hvm.symm, hv⟩⟩
  refine ⟨fun pc ls x hdg hcase => ?_, fun pc ls hdg hr => ?_, fun pc ls hdg hr => ?_, fun pc ls hdg hr => ?_, fun pc ls hdg hr => ?_⟩ <;> intro al ad H locs cells slots lc sc g
  · obtain ⟨k1, k2, k3, k4⟩ := key _ _ _ _ _ _ _ _ _ _ g
    obtain ⟨sc1, rfl, q1, g1⟩ := g.pop
    obtain ⟨g4, -⟩ := g1.2.2.2.1
    subst g4 k1 k2
    have hn : ∃ ty, meth.sig.returnType = some ty ∧ narrow ty (.int (Int32.ofInt x)) = .int (Int32.ofInt r0) ∧ rcode (rn k) = 0 ∧ rng al 0 r0 := by
      have q1 : -2147483648 ≤ x ∧ x ≤ 2147483647 := q1
      rcases hcase with ⟨hr, rfl⟩ | ⟨hr, rfl⟩ | ⟨hr, rfl⟩ | ⟨hr, rfl⟩
      · obtain ⟨ft, e1, e2⟩ := rt_int hrt (by rw [hr]; decide)
        rw [hr] at e2 ⊢
        match ft, e2 with
        | .int, _ => exact ⟨_, hret.trans e1, nar_i _, rfl, q1⟩
      · obtain ⟨ft, e1, e2⟩ := rt_int hrt (by rw [hr]; decide)
        rw [hr] at e2 ⊢
        match ft, e2 with
        | .boolean, _ => exact ⟨_, hret.trans e1, nar_z _, rfl, by constructor <;> omega⟩
      · obtain ⟨ft, e1, e2⟩ := rt_int hrt (by rw [hr]; decide)
        rw [hr] at e2 ⊢
        match ft, e2 with
        | .char, _ => exact ⟨_, hret.trans e1, nar_c _, rfl, by constructor <;> omega⟩
      · obtain ⟨ft, e1, e2⟩ := rt_int hrt (by rw [hr]; decide)
        rw [hr] at e2 ⊢
        have := w8_rng x
        match ft, e2 with
        | .byte, _ => exact ⟨_, hret.trans e1, nar_b _, rfl, by constructor <;> omega⟩
    obtain ⟨ty, n1, n2, n3, n4⟩ := hn
    refine W_nret hx hb n1 n2 (fun t ht _ => k4 _ t ?_ ht) k3 hdg hlk
    unfold retT
    rw [n3, if_neg (by decide)]
    exact ⟨rfl, n4⟩
  · obtain ⟨k1, k2, k3, k4⟩ := key _ _ _ _ _ _ _ _ _ _ g
    obtain ⟨sc1, rfl, q1, g1⟩ := g.pop
    obtain ⟨g4, -⟩ := g1.2.2.2.1
    subst g4 k1 k2
    obtain ⟨ft, e1, e2⟩ := rt_int hrt (by rw [hr]; decide)
    rw [hr] at e2
    match ft, e2 with
    | .long, _ =>
      refine W.lret hx hb (hret.trans e1) (fun t ht _ => k4 _ t ?_ ht) k3 hdg hlk
      unfold retT
      rw [hr, if_neg (by decide)]
      exact ⟨rfl, q1⟩
  · obtain ⟨k1, k2, k3, k4⟩ := key _ _ _ _ _ _ _ _ _ _ g
    obtain ⟨sc1, rfl, q1, g1⟩ := g.pop
    obtain ⟨g4, -⟩ := g1.2.2.2.1
    subst g4 k1 k2
    obtain ⟨ft, e1, e2⟩ := rt_int hrt (by rw [hr]; decide)
    rw [hr] at e2
    match ft, e2 with
    | .double, _ =>
      refine W.dret hx hb (hret.trans e1) (fun t ht _ => k4 _ t ?_ ht) k3 hdg hlk
      unfold retT
      rw [hr, if_neg (by decide)]
      exact ⟨rfl, q1⟩
  · obtain ⟨k1, k2, k3, k4⟩ := key _ _ _ _ _ _ _ _ _ _ g
    obtain ⟨sc1, rfl, q1, g1⟩ := g.pop
    obtain ⟨g4, -⟩ := g1.2.2.2.1
    subst g4 k1 k2
    obtain ⟨ft, e1, e2⟩ := rt_int hrt (by rw [hr]; decide)
    rw [hr] at e2
    have hrt3 : (∃ n, ft = .object n) ∨ ∃ t, ft = .array t := by
      match ft, e2 with
      | .object n, _ => exact Or.inl ⟨n, rfl⟩
      | .array t, _ => exact Or.inr ⟨t, rfl⟩
    refine W.aret hx hb (hret.trans e1) hrt3 (cv_3 hvF) (fun t ht _ => k4 _ t ?_ ht) k3 hdg hlk
    unfold retT
    rw [hr, if_neg (by decide)]
    exact ⟨rfl, q1⟩
  · obtain ⟨k1, k2, k3, k4⟩ := key _ _ _ _ _ _ _ _ _ _ g
    obtain ⟨g4, -⟩ := g.2.2.2.1
    subst g4 k1 k2
    have hr0 : rk k = none := by
      cases e1 : rk k with
      | none => rfl
      | some ft => rw [hr, e1] at hrt; exact absurd hrt (by unfold rtOK ofTy; simp)
    refine W.vret hx hb (hret.trans hr0) (fun t ht _ => k4 _ t ?_ ht) k3 hdg hlk
    unfold retT
    rw [hr]
    rw [if_pos (show rcode 7 = 4 from rfl)]
theorem metM_of (hH : HIok hI len byt L sx) (hZ : FZ fz) (hvF : vF = .null ∨ ∃ a, vF = .ref a) (hOB : ∀ k, k < 445 → OKB k) (hNB : ∀ k, k < 445 → 0 < (hk k).length) (hOM : ∀ k, 0 < k → k < 445 → OM k) {n : Nat} (ih : BLK l fz base H0 hI dC dI vF adS adV bS len byt L sx n) : MetM fz base H0 hI dC dI vF adS adV bS len byt L sx l n := by
  intro k d as h h1 r s0 al0 ad0 hk0 hk1 hlen hle hrun
  obtain ⟨o1, o2, o3, o4, o5, o6, o7, o8, o9, o10⟩ := om_use (hOM k hk0 hk1)
  refine Met.ofW (cc := ck k) (maxL := ml k) (ret := rk k) (ws' := BIG) o6 rfl ?_
  intro p e s m args below meth c s₁ B hml hP
  obtain ⟨rfl, hvm, hSm, hrng, hFA⟩ := hP
  have hts := atoms_spec (ws := Jvm.Cond.code (yk k) (ck k) (ml k) (rk k) :: BIG) B.pre
  have hown : s.vm.findClass (own_ k) = some m.cls := findClass_of_methodNamed B.named
  have h1' : 1 ≤ h 0 0 := hSm.2.2.2.2.2.2.2
  have hu : h 0 0 ≤ h1 0 0 ∧ h 0 1 ≤ h1 0 1 := runM_up n d k 0 (ent k as) [] h h1' _ hrun
  have F : FC p (RM d h h1) s m (as.map (cvv vF ad0)).toArray meth c fz base H0 hI dC dI vF adS adV bS len byt L sx k d := ⟨B.exec, B.bytes, hml, hown, fun w hw => hts w (List.mem_cons_of_mem _ hw), hFA, hH, hZ, hvF, Nat.le_refl _, Nat.le_refl _, fun hn => (name_of_methodNamed B.named B.method).1.trans hn⟩
  have hb := ih p e (RM d h h1) s m _ below meth c _ al0 ad0 k d r h1 hk1 F (ends_MQ (s0 := s0) (al0 := al0) (ad0 := ad0) (h := h) B.exec B.bytes B.returns B.notSynchronized o9 hvm hvF) 0 (ent k as) [] h (hNB k hk1) (ent_len hle) hrun
  rw [(hOB k hk1).1] at hb
  rw [lg_entry_eq]
  refine hb al0 ad0 s.heap [] 0 0 _ [] ⟨hSm.moved hvm, fun o ho => ⟨ho, rfl⟩, LR_ent hvF hle hrng, ⟨rfl, fun v hv => (by cases hv)⟩, (fun q hq => by cases hq), ?_, ?_⟩
  · show ((0 : Nat) : Int) + _ = ((h1 0 0 - h 0 0).toNat : Int)
    omega
  · show ((0 : Nat) : Int) + _ = ((h1 0 1 - h 0 1).toNat : Int)
    omega
theorem blk_all (hH : HIok hI len byt L sx) (hZ : FZ fz) (hvF : vF = .null ∨ ∃ a, vF = .ref a) (hOB : ∀ k, k < 445 → OKB k) (hNB : ∀ k, k < 445 → 0 < (hk k).length) (hOM : ∀ k, 0 < k → k < 445 → OM k) : ∀ n, BLK l fz base H0 hI dC dI vF adS adV bS len byt L sx n
  | 0 => fun p e R s m args below meth c Q al0 ad0 k d r0 hE hk F hR b ls st h hb hls hrun => by cases hrun
  | n + 1 => fun p e R s m args below meth c Q al0 ad0 k d r0 hE hk F hR b ls st h hb hls hrun =>
    have ih := blk_all hH hZ hvF hOB hNB hOM n
    seg F (metM_of hH hZ hvF hOB hNB hOM ih) hOM hR (fun b ls st h hb hls hq => ih p e _ s m args below meth c Q al0 ad0 k d r0 hE hk F hR b ls st h hb hls hq) (blk k b) (hts_ k b) (pcs k b) ls st h ((hOB k hk).2 b hb) hls (by rw [runM_eq] at hrun; exact hrun)
end MAIN
