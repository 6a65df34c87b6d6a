/-! SOUNDNESS, 3: what a frame knows, and the instructions -/
/-- the String constants: their cells and bytes -/
def vkS (N : Nat) (len : List Nat) (byt : List (List Int32)) (adK adV : Nat → Nat) (A : Nat → Prop) (U : State) (H : Heap) : Prop :=
  (∀ i : Nat, i < N → va_O "java/lang/String" (adK i) A U H ∧ va_OF "java/lang/String" "coder" "B" (.int 0) (adK i) A U H ∧ va_OF "java/lang/String" "value" "[B" (.ref (adV i)) (adK i) A U H ∧ va_T .byte (adV i) (len.getD i 0) (fun j => .int ((byt.getD i []).getD j 0)) A U H) ∧ True
theorem vkS.moved {N : Nat} {len : List Nat} {byt : List (List Int32)} {adK adV : Nat → Nat} {A : Nat → Prop} {u U : State} {H : Heap} (hvm : u.vm.Alike U.vm) (h : vkS N len byt adK adV A u H) : vkS N len byt adK adV A U H :=
  ⟨fun i hi => ⟨va_O.moved hvm (h.1 i hi).1, va_OF.moved hvm (h.1 i hi).2.1, va_OF.moved hvm (h.1 i hi).2.2.1, va_T.moved hvm (h.1 i hi).2.2.2⟩, trivial⟩
section FA0
variable (base : Nat) (H0 : Heap) (hI : HV) (dC : Nat → ClassId) (dI : Nat → Nat → Nat) (vF : Value) (adS adV : Nat → Nat) (bS : Nat) (len : List Nat) (byt : List (List Int32)) (L : Nat) (xs : Nat → Int32)
def AOAL (U : State) : Prop := (Cond.arrayOver (.array .long)).before #[] U = true
def NWC : Jvm.Cond := .methodLinkNest "SchoolHouseModel" 15 ⟨"SchoolHouseModel$Text", "<init>", "()V"⟩ "SchoolHouseModel"
/-- what the tables and the constants are, at a state -/
def FA (U : State) : Prop := (∀ c, c < 13 → u_Kn U (cR c) (cF c) (cN c) (dC c) (dI c)) ∧ (∀ q ∈ SRL, vk_R q.1 q.2.1 (sTx q.2.2) (adS q.2.2) U) ∧ vkS 48 len byt adS adV (fun q => base ≤ q) U H0 ∧ va_X bS L xs U H0 ∧ bS < base ∧
  va_Z "java/lang/String" "COMPACT_STRINGS" "Z" (.int 1) (fun q => base ≤ q) U H0 ∧ va_Z "jdk/internal/util/Preconditions" "SIOOBE_FORMATTER" "Ljava/util/function/BiFunction;" vF (fun q => base ≤ q) U H0 ∧ va_Nw NWC U ∧ va_AO "java/lang/String" U ∧ AOAL U
/-- what the first heap holds of the constants and the script -/
def HIok : Prop := (∀ j, j < 48 → hI (sid j) 0 = bid j ∧ hI (sid j) 1 = 0 ∧ hI (bid j) (-1) = (len.getD j 0 : Int) ∧ len.getD j 0 < 2147483648 ∧ ∀ i : Nat, i < len.getD j 0 → Int32.ofInt (hI (bid j) i) = (byt.getD j []).getD i 0 ∧ -128 ≤ hI (bid j) i ∧ hI (bid j) i ≤ 127) ∧
  hI 50 (-1) = (L : Int) ∧ L < 2147483648 ∧ ∀ i : Nat, i < L → Int32.ofInt (hI 50 i) = xs i ∧ -2147483648 ≤ hI 50 i ∧ hI 50 i ≤ 2147483647
end FA0
theorem va_Z.al {C n d : String} {v : Value} {A : Nat → Prop} {u U : State} {H : Heap} (hvm : u.vm.Alike U.vm) (h : va_Z C n d v A u H) : va_Z C n d v A U H := va_Z.moved hvm h
section FA1
variable {base : Nat} {H0 : Heap} {hI : HV} {dC : Nat → ClassId} {dI : Nat → Nat → Nat} {vF : Value} {adS adV : Nat → Nat} {bS : Nat} {len : List Nat} {byt : List (List Int32)} {L : Nat} {xs : Nat → Int32}
theorem FA.warm {s U : State} (hW : s.WarmedH U.vm) (ho : AOAL s → AOAL U) (h : FA base H0 dC dI vF adS adV bS len byt L xs s) : FA base H0 dC dI vF adS adV bS len byt L xs U := by
  obtain ⟨h1, h2, h3, h4, h5, h6, h7, h8, h9, h10⟩ := h
  have hvm := hW.alike
  exact ⟨fun c hc => u_Kn_moved hvm (h1 c hc), fun q hq => (h2 q hq).warm hW, h3.moved hvm, h4.moved hvm, h5, h6.moved hvm, h7.moved hvm, va_Nw.warmM hW h8, h9.moved hvm, ho h10⟩
end FA1
theorem cv_ref {vF : Value} {ad : Int → Nat} {o : Int} (h0 : o ≠ 0) (h1 : o ≠ 62) : cv vF ad 3 o = .ref (ad o) := by
  show (if o = 0 then Value.null else if o = 62 then vF else .ref (ad o)) = _
  rw [if_neg h0, if_neg h1]
theorem sid_mod (j : Nat) : sid j % 64 = 13 := by unfold sid; omega
theorem bid_mod (j : Nat) : bid j % 64 = 51 := by unfold bid; omega
theorem arr_in {cA : ClassId} {f : Nat → Value} {i len : Int} (h0 : 0 ≤ i) (h1 : i < len) (hl : len < 2147483648) : ¬ (Int32.ofInt i < 0 ∨ (arrV cA len.toNat f).slots.size ≤ (Int32.ofInt i).toNatClampNeg) ∧ (arrV cA len.toNat f).slots[(Int32.ofInt i).toNatClampNeg]? = some (f i.toNat) ∧ (Int32.ofInt i).toNatClampNeg = i.toNat := by
  have hc : (Int32.ofInt i).toNatClampNeg = i.toNat := i_clamp h0 (by omega)
  refine ⟨?_, ?_, hc⟩
  · rw [arrV_size, hc]
    rintro (q | q)
    · have h := (i_ltE (x := i) (y := 0) (by omega) (by omega)).mp q
      omega
    · omega
  · rw [hc]
    exact arrV_read cA f (by omega)
theorem rd_set {fz : Int → Int → Option Int} {h : HV} {o i x : Int} (hz : fz o i = none) (j : Int) : rd fz (hset h o i x) o j = if j = i then x else rd fz h o j := by
  by_cases e : j = i
  · subst e
    rw [if_pos rfl]
    unfold rd
    rw [hz]
    show (if o = o ∧ j = j then x else h o j) = x
    rw [if_pos ⟨rfl, rfl⟩]
  · rw [if_neg e]
    unfold rd
    cases fz o j with
    | some v => rfl
    | none =>
      show (if o = o ∧ j = i then x else h o j) = h o j
      rw [if_neg (fun q => e q.2)]
theorem hset_ne {h : HV} {o i x o' : Int} (e : o' ≠ o) : hset h o i x o' = h o' := by
  funext b
  show (if o' = o ∧ b = i then x else h o' b) = h o' b
  rw [if_neg (fun q => e q.1)]
section SM
variable {fz : Int → Int → Option Int} {base : Nat} {H0 : Heap} {hI : HV} {dC : Nat → ClassId} {dI : Nat → Nat → Nat} {vF : Value} {adS adV : Nat → Nat} {bS : Nat} {U : State} {al : Int → Prop} {ad : Int → Nat} {h : HV} {H : Heap} {o : Int}
theorem Sm.arr (g : Sm fz base H0 hI dC dI vF U al ad adS adV bS h H) (hr : rng al 3 o) (hk : 32 ≤ o % 64) (hk2 : o % 64 ≤ 38) : al o ∧ 64 ≤ o ∧ o ≠ 0 ∧ o ≠ 62 := by
  have h0 : o ≠ 0 := by omega
  have h1 : o ≠ 62 := by omega
  have ha : al o := by
    rcases hr with q | q | q
    · exact absurd q h0
    · exact absurd q h1
    · exact q
  refine ⟨ha, ?_, h0, h1⟩
  rcases Int.lt_or_le o 64 with q | q
  · rcases g.2.2.2.1 o ha q with e | ⟨j, -, e | e⟩
    · omega
    · have := sid_mod j; omega
    · have := bid_mod j; omega
  · exact q
theorem Sm.obj (g : Sm fz base H0 hI dC dI vF U al ad adS adV bS h H) (hr : rng al 3 o) (h0 : o ≠ 0) (hk : o % 64 < 13) : al o ∧ 64 ≤ o ∧ o ≠ 62 := by
  have h1 : o ≠ 62 := by omega
  have ha : al o := by
    rcases hr with q | q | q
    · exact absurd q h0
    · exact absurd q h1
    · exact q
  refine ⟨ha, ?_, h1⟩
  rcases Int.lt_or_le o 64 with q | q
  · rcases g.2.2.2.1 o ha q with e | ⟨j, -, e | e⟩
    · omega
    · have := sid_mod j; omega
    · have := bid_mod j; omega
  · exact q
theorem Sm.low (g : Sm fz base H0 hI dC dI vF U al ad adS adV bS h H) (hr : rng al 3 o) (hk : o % 64 = 50 ∨ o % 64 = 51 ∨ o % 64 = 13) : o ≠ 0 ∧ o ≠ 62 ∧ o < 64 ∧ (o = 50 ∨ ∃ j, j < 48 ∧ (o = sid j ∨ o = bid j)) := by
  have h0 : o ≠ 0 := by omega
  have h1 : o ≠ 62 := by omega
  have ha : al o := by
    rcases hr with q | q | q
    · exact absurd q h0
    · exact absurd q h1
    · exact q
  rcases Int.lt_or_le o 64 with q | q
  · exact ⟨h0, h1, q, g.2.2.2.1 o ha q⟩
  · have := (g.2.1 o ha q).2.2.2.2; omega
end SM
