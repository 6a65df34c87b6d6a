/-! SOUNDNESS, 13: the law's start and end: printed with wip/tools/gens13.py -/
def LENS : List Nat := [17, 43, 18, 26, 39, 66, 22, 3, 2, 3, 4, 4, 2, 2, 6, 7, 4, 5, 5, 6, 6, 4, 7, 5, 4, 2, 3, 3, 5, 4, 4, 6, 5, 4, 4, 4, 5, 5, 3, 5, 6, 8, 5, 4, 5, 6, 5, 5]
def BYTS : List (List Int32) := [[59, 58, 44, 61, 43, 45, 42, 47, 37, 60, 62, 40, 41, 91, 93, 123, 125], [115, 117, 98, 106, 101, 99, 116, 32, 114, 111, 111, 109, 32, 115, 116, 97, 102, 102, 32, 103, 114, 111, 117, 112, 32, 108, 101, 115, 115, 111, 110, 32, 99, 111, 117, 114, 115, 101, 32, 114, 117, 108, 101], [116, 101, 97, 99, 104, 101, 114, 32, 116, 117, 116, 111, 114, 32, 104, 101, 97, 100], [105, 102, 32, 102, 111, 114, 32, 116, 114, 121, 32, 114, 97, 105, 115, 101, 32, 103, 105, 118, 101, 32, 99, 111, 112, 121], [100, 105, 118, 105, 100, 101, 32, 105, 110, 100, 101, 120, 32, 110, 117, 108, 108, 32, 99, 97, 115, 116, 32, 115, 105, 122, 101, 32, 115, 116, 111, 114, 101, 32, 101, 120, 97, 99, 116], [114, 111, 119, 32, 114, 101, 97, 108, 115, 32, 112, 101, 111, 112, 108, 101, 32, 116, 101, 97, 99, 104, 101, 114, 115, 32, 115, 105, 122, 101, 32, 119, 104, 111, 108, 101, 32, 114, 101, 97, 108, 32, 108, 97, 99, 107, 115, 32, 112, 101, 114, 115, 111, 110, 32, 108, 101, 118, 101, 108, 32, 109, 97, 114, 107, 115], [101, 108, 115, 101, 32, 116, 111, 32, 111, 110, 32, 97, 108, 119, 97, 121, 115, 32, 110, 111, 110, 101], [60, 62, 61], [43, 45], [42, 47, 37], [110, 111, 110, 101], [101, 108, 115, 101], [116, 111], [111, 110], [97, 108, 119, 97, 121, 115], [115, 117, 98, 106, 101, 99, 116], [114, 111, 111, 109], [115, 116, 97, 102, 102], [103, 114, 111, 117, 112], [108, 101, 115, 115, 111, 110], [99, 111, 117, 114, 115, 101], [114, 117, 108, 101], [116, 101, 97, 99, 104, 101, 114], [116, 117, 116, 111, 114], [104, 101, 97, 100], [105, 102], [102, 111, 114], [116, 114, 121], [114, 97, 105, 115, 101], [103, 105, 118, 101], [99, 111, 112, 121], [100, 105, 118, 105, 100, 101], [105, 110, 100, 101, 120], [110, 117, 108, 108], [99, 97, 115, 116], [115, 105, 122, 101], [115, 116, 111, 114, 101], [101, 120, 97, 99, 116], [114, 111, 119], [114, 101, 97, 108, 115], [112, 101, 111, 112, 108, 101], [116, 101, 97, 99, 104, 101, 114, 115], [119, 104, 111, 108, 101], [114, 101, 97, 108], [108, 97, 99, 107, 115], [112, 101, 114, 115, 111, 110], [108, 101, 118, 101, 108], [109, 97, 114, 107, 115]]
def TMSl : List (String × Nat) := [("SchoolHouse$Scanner", 60), ("SchoolHouse$Reader", 62), ("SchoolHouse$Reader", 113), ("SchoolHouse$Reader", 156), ("SchoolHouse$Reader", 158), ("SchoolHouse$Reader", 160), ("SchoolHouse$Reader", 162), ("SchoolHouse$Reader", 295), ("SchoolHouse$Reader", 306), ("SchoolHouse$Reader", 311), ("SchoolHouse$Reader", 336), ("SchoolHouse$Reader", 278), ("SchoolHouse$Reader", 283), ("SchoolHouse$Reader", 285), ("SchoolHouse$Reader", 290), ("SchoolHouseModel", 25), ("SchoolHouseModel", 27), ("SchoolHouseModel", 29), ("SchoolHouseModel", 31), ("SchoolHouseModel", 33), ("SchoolHouseModel", 35), ("SchoolHouseModel", 37), ("SchoolHouseModel", 39), ("SchoolHouseModel", 41), ("SchoolHouseModel", 43), ("SchoolHouseModel", 45), ("SchoolHouseModel", 49), ("SchoolHouseModel", 53), ("SchoolHouseModel", 59), ("SchoolHouseModel", 61), ("SchoolHouseModel", 63), ("SchoolHouseModel", 65), ("SchoolHouseModel", 67), ("SchoolHouseModel", 69), ("SchoolHouseModel", 71), ("SchoolHouseModel", 73), ("SchoolHouseModel", 75), ("SchoolHouseModel", 77), ("SchoolHouseModel", 81), ("SchoolHouseModel", 83), ("SchoolHouseModel", 85), ("SchoolHouseModel", 87), ("SchoolHouseModel", 89), ("SchoolHouseModel", 91), ("SchoolHouseModel", 93), ("SchoolHouseModel", 95), ("SchoolHouseModel", 97), ("SchoolHouseModel", 99)]
def TMS (j : Nat) : Term := .string (TMSl.getD j ("", 0)).1 (TMSl.getD j ("", 0)).2
def IXS : List Nat := [7, 28, 75, 97, 127, 170, 240, 287, 281, 274, 266, 294, 302, 308, 314, 324, 335, 343, 352, 361, 371, 381, 389, 400, 409, 417, 432, 446, 471, 480, 488, 496, 506, 515, 523, 531, 539, 548, 566, 573, 582, 592, 604, 613, 621, 630, 640, 649]
def expS (j : Nat) : List Jvm.Cond := [.exactly (TMS j) "java/lang/String", .eq (.field (TMS j) "java/lang/String" "coder" "B") (.int 0), .arrayOf (.field (TMS j) "java/lang/String" "value" "[B") .byte, .eq (.length (.field (TMS j) "java/lang/String" "value" "[B")) (.int (Int32.ofNat (LENS.getD j 0)))] ++ (List.range (LENS.getD j 0)).map (fun q => .eq (.elem (.field (TMS j) "java/lang/String" "value" "[B") (.int (Int32.ofNat q))) (.int ((BYTS.getD j []).getD q 0)))
set_option maxRecDepth 100000 in
theorem expS_ok : ∀ j, j < 48 → ((flatC narrow_1).drop (IXS.getD j 0)).take (4 + LENS.getD j 0) = expS j := by decide +kernel
theorem expS_in {j : Nat} (hj : j < 48) {w : Jvm.Cond} (h : w ∈ expS j) : w ∈ flatC narrow_1 := by
  rw [← expS_ok j hj] at h
  exact List.mem_of_mem_drop (List.mem_of_mem_take h)
theorem expS_el {j q : Nat} (hq : q < LENS.getD j 0) : Jvm.Cond.eq (.elem (.field (TMS j) "java/lang/String" "value" "[B") (.int (Int32.ofNat q))) (.int ((BYTS.getD j []).getD q 0)) ∈ expS j :=
  List.mem_append_right _ (List.mem_map.mpr ⟨q, List.mem_range.mpr hq, rfl⟩)
theorem LENS_lt : ∀ j, j < 48 → LENS.getD j 0 < 100 := by decide +kernel
theorem BYTS_rng : ∀ j, j < 48 → ∀ q, q < LENS.getD j 0 → -128 ≤ ((BYTS.getD j []).getD q 0).toInt ∧ ((BYTS.getD j []).getD q 0).toInt ≤ 127 := by decide +kernel
def DUP : List Jvm.Cond := [.eq (.string "SchoolHouse$Reader" 278) (.string "SchoolHouseModel" 47), .eq (.string "SchoolHouse$Reader" 283) (.string "SchoolHouseModel" 51), .eq (.string "SchoolHouse$Reader" 285) (.string "SchoolHouseModel" 55), .eq (.string "SchoolHouse$Reader" 290) (.string "SchoolHouseModel" 57), .eq (.string "SchoolHouse$Reader" 336) (.string "SchoolHouseModel" 79)]
set_option maxRecDepth 100000 in
theorem DUP_ok : DUP.map some = ([431, 445, 459, 470, 565] : List Nat).map (fun i => (flatC narrow_1)[i]?) := by decide +kernel
theorem DUP_in {w : Jvm.Cond} (h : w ∈ DUP) : w ∈ flatC narrow_1 := by
  have h1 : some w ∈ DUP.map some := List.mem_map_of_mem h
  rw [DUP_ok] at h1
  obtain ⟨i, -, hi⟩ := List.mem_map.mp h1
  exact List.mem_of_getElem? hi
theorem SRL_ev : ∀ q ∈ SRL, TMS q.2.2 = .string q.1 q.2.1 ∨ Jvm.Cond.eq (TMS q.2.2) (.string q.1 q.2.1) ∈ DUP := by decide +kernel
def SRH : List (Nat × Nat) := [(3, 130), (3, 229), (4, 28), (4, 29), (4, 30), (4, 31), (4, 32), (5, 13), (5, 26), (5, 31), (5, 32), (5, 45), (5, 58), (5, 63), (5, 68), (9, 68), (9, 69), (9, 70), (9, 71), (9, 72), (9, 73), (9, 74), (9, 75), (9, 76), (9, 77), (9, 78), (9, 79), (9, 80), (9, 81), (9, 82), (9, 83), (9, 84), (9, 85), (9, 86), (9, 87), (9, 88), (9, 89), (9, 90), (9, 91), (9, 92), (9, 93), (9, 94), (9, 95), (9, 96), (9, 97), (9, 98), (9, 99), (9, 100), (9, 101), (9, 102), (9, 103), (9, 104), (9, 105)]
set_option maxRecDepth 100000 in
theorem SRW_ok : (SRL.map (fun q => Jvm.Cond.stringRef q.1 q.2.1 (sTx q.2.2))).map some = SRH.map wrd := by decide +kernel
theorem SRL_w {q : String × Nat × Nat} (h : q ∈ SRL) : Jvm.Cond.stringRef q.1 q.2.1 (sTx q.2.2) ∈ lw_tbl := by
  have h1 : some (Jvm.Cond.stringRef q.1 q.2.1 (sTx q.2.2)) ∈ (SRL.map (fun q => Jvm.Cond.stringRef q.1 q.2.1 (sTx q.2.2))).map some := List.mem_map_of_mem (List.mem_map_of_mem (f := fun q : String × Nat × Nat => Jvm.Cond.stringRef q.1 q.2.1 (sTx q.2.2)) h)
  rw [SRW_ok] at h1
  obtain ⟨i, -, hi⟩ := List.mem_map.mp h1
  exact wrd_in hi
set_option maxRecDepth 100000 in
theorem W_nwc : NWC ∈ lw_tbl := wrd_in (h := (8, 205)) (by decide +kernel)
set_option maxRecDepth 100000 in
theorem W_aos : Jvm.Cond.arrayOver (.object "java/lang/String") ∈ lw_tbl := wrd_in (h := (9, 67)) (by decide +kernel)
set_option maxRecDepth 100000 in
theorem W_aol : Jvm.Cond.arrayOver (.array .long) ∈ lw_tbl := wrd_in (h := (2, 143)) (by decide +kernel)
set_option maxRecDepth 100000 in
theorem W_lsc : Jvm.Cond.laysStatic "java/lang/String" "COMPACT_STRINGS" "Z" ∈ lw_tbl := wrd_in (h := (3, 144)) (by decide +kernel)
set_option maxRecDepth 100000 in
theorem W_lss : Jvm.Cond.laysStatic "jdk/internal/util/Preconditions" "SIOOBE_FORMATTER" "Ljava/util/function/BiFunction;" ∈ lw_tbl := wrd_in (h := (3, 187)) (by decide +kernel)
set_option maxRecDepth 100000 in
theorem W_ins : Jvm.Cond.initialized "java/lang/String" ∈ lw_tbl := wrd_in (h := (1, 15)) (by decide +kernel)
set_option maxRecDepth 100000 in
theorem W_inp : Jvm.Cond.initialized "jdk/internal/util/Preconditions" ∈ lw_tbl := wrd_in (h := (1, 19)) (by decide +kernel)
set_option maxRecDepth 100000 in
theorem F_c : (flatC narrow_1)[2]? = some (.eq (.static "java/lang/String" "COMPACT_STRINGS" "Z") (.int 1)) := by decide +kernel
set_option maxRecDepth 100000 in
theorem F_s : (flatC narrow_1)[3]? = some (.isRef (.static "jdk/internal/util/Preconditions" "SIOOBE_FORMATTER" "Ljava/util/function/BiFunction;")) := by decide +kernel
theorem vkS_of {args : Array Value} {s : State} {A : Nat → Prop} (hs : ∀ w ∈ flatC narrow_1, w.before args s = true) (hA : ∀ a : Nat, a < s.heap.size → ¬ A a) : ∃ adK adV : Nat → Nat, vkS 48 LENS BYTS adK adV A s s.heap ∧ ∀ i : Nat, i < 48 → (TMS i).eval args s none [] s = some (.ref (adK i)) := by
  have h0 : ∀ i : Nat, ∃ q : Nat × Nat, i < 48 → (TMS i).eval args s none [] s = some (.ref q.1) ∧ va_O "java/lang/String" q.1 A s s.heap ∧ va_OF "java/lang/String" "coder" "B" (.int 0) q.1 A s s.heap ∧ va_OF "java/lang/String" "value" "[B" (.ref q.2) q.1 A s s.heap ∧ va_T .byte q.2 (LENS.getD i 0) (fun j => .int ((BYTS.getD i []).getD j 0)) A s s.heap := by
    intro i
    by_cases hi : i < 48
    · have e0 := hs _ (expS_in hi (show Jvm.Cond.exactly (TMS i) "java/lang/String" ∈ expS i from List.mem_cons_self))
      have e1 := hs _ (expS_in hi (show Jvm.Cond.eq (.field (TMS i) "java/lang/String" "coder" "B") (.int 0) ∈ expS i from List.mem_cons_of_mem _ List.mem_cons_self))
      have e2 := hs _ (expS_in hi (show Jvm.Cond.arrayOf (.field (TMS i) "java/lang/String" "value" "[B") .byte ∈ expS i from List.mem_cons_of_mem _ (List.mem_cons_of_mem _ List.mem_cons_self)))
      have e3 := hs _ (expS_in hi (show Jvm.Cond.eq (.length (.field (TMS i) "java/lang/String" "value" "[B")) (.int (Int32.ofNat (LENS.getD i 0))) ∈ expS i from List.mem_cons_of_mem _ (List.mem_cons_of_mem _ (List.mem_cons_of_mem _ List.mem_cons_self))))
      obtain ⟨a, c, cA, kA, q1, q2, q3, q4, q5, q6, -⟩ := Cond.exactly_spec (args := args) (first := s) (o := none) (s := s) (idx := []) (t := TMS i) (cls := "java/lang/String") e0
      obtain ⟨t, ht, hT⟩ := va_Tof (f := fun j => .int ((BYTS.getD i []).getD j 0)) (A := A) (by have := LENS_lt i hi; omega) e2 (va_eqt e3) (fun j hj => va_eqt (hs _ (expS_in hi (expS_el hj)))) hA
      exact ⟨(a, t), fun _ => ⟨q1, ⟨cA, q3, q5, by rw [q6]; exact q2, hA a (Array.getElem?_eq_some_iff.mp q3).1⟩, vk_OFof q1 (va_eqt e1) hA, vk_OFof q1 ht hA, hT⟩⟩
    · exact ⟨(0, 0), fun h => absurd h hi⟩
  obtain ⟨ad, had⟩ := Classical.axiomOfChoice h0
  exact ⟨fun i => (ad i).1, fun i => (ad i).2, ⟨fun i hi => (had i hi).2, trivial⟩, fun i hi => (had i hi).1⟩
/-- the first heap -/
def hI0 (L : Nat) (xs : Nat → Int32) : HV := fun a i =>
  if a = 50 then (if i = -1 then (L : Int) else if 0 ≤ i ∧ i < L then (xs i.toNat).toInt else 0)
  else if a = 0 then (if i = 0 then 1 else 0)
  else if a < 0 ∧ a % 128 = 77 then (if i = 0 then a - 26 else 0)
  else if a < 0 ∧ a % 128 = 51 then (if i = -1 then (LENS.getD ((-a - 77) / 128).toNat 0 : Int) else ((BYTS.getD ((-a - 77) / 128).toNat []).getD i.toNat 0).toInt)
  else 0
theorem hI0_ok {L : Nat} {xs : Nat → Int32} (hL : L ≤ 3584) : HIok (hI0 L xs) LENS BYTS L xs := by
  refine ⟨fun j hj => ?_, ?_, by omega, fun i hi => ?_⟩
  · have hs : hI0 L xs (sid j) = fun i => if i = 0 then sid j - 26 else 0 := by
      funext i
      unfold hI0
      have : sid j < 0 ∧ sid j % 128 = 77 := by unfold sid; omega
      rw [if_neg (by omega), if_neg (by omega), if_pos this]
    have hb : hI0 L xs (bid j) = fun i => if i = -1 then (LENS.getD j 0 : Int) else ((BYTS.getD j []).getD i.toNat 0).toInt := by
      funext i
      unfold hI0
      have : bid j < 0 ∧ bid j % 128 = 51 := by unfold bid; omega
      rw [if_neg (by omega), if_neg (by omega), if_neg (by omega), if_pos this, show ((-bid j - 77) / 128).toNat = j by unfold bid; omega]
    rw [hs, hb]
    have := LENS_lt j hj
    refine ⟨?_, ?_, ?_, by omega, fun i hi => ?_⟩
    · show (if (0 : Int) = 0 then sid j - 26 else 0) = _
      rw [if_pos rfl]
      unfold sid bid
      omega
    · show (if (1 : Int) = 0 then sid j - 26 else 0) = 0
      rw [if_neg (by decide)]
    · show (if (-1 : Int) = -1 then _ else _) = _
      rw [if_pos rfl]
    · show Int32.ofInt (if (i : Int) = -1 then _ else _) = _ ∧ -128 ≤ (if (i : Int) = -1 then _ else _) ∧ (if (i : Int) = -1 then _ else _) ≤ _
      rw [if_neg (by omega)]
      have e : ((i : Int)).toNat = i := by omega
      rw [e]
      exact ⟨i_back _, BYTS_rng j hj i hi⟩
  · unfold hI0
    rw [if_pos rfl, if_pos rfl]
  · have e : hI0 L xs 50 i = (xs i).toInt := by
      unfold hI0
      rw [if_pos rfl, if_neg (by omega), if_pos (by omega)]
      congr 1
    rw [e]
    exact ⟨i_back _, i_rng _⟩
def al_0 (x : Int) : Prop := x = 50 ∨ ∃ j : Nat, j < 48 ∧ (x = sid j ∨ x = bid j)
def ad_0 (b : Nat) (adS adV : Nat → Nat) (x : Int) : Nat := if x = 50 then b else if x % 128 = 77 then adS ((-x - 51) / 128).toNat else adV ((-x - 77) / 128).toNat
theorem ad_sid (b : Nat) (adS adV : Nat → Nat) (j : Nat) : ad_0 b adS adV (sid j) = adS j := by
  unfold ad_0
  rw [if_neg (by unfold sid; omega), if_pos (by unfold sid; omega), show ((-sid j - 51) / 128).toNat = j by unfold sid; omega]
theorem ad_bid (b : Nat) (adS adV : Nat → Nat) (j : Nat) : ad_0 b adS adV (bid j) = adV j := by
  unfold ad_0
  rw [if_neg (by unfold bid; omega), if_neg (by unfold bid; omega), show ((-bid j - 77) / 128).toNat = j by unfold bid; omega]
theorem lw_ret2 {p : Program} {l : Launch} {e : Env} {s : State} {m : MethodId} {below : List Frame} {meth : Method} {c : Code} {b : Nat} {d0 : Drawn} {v : Int32} (hv : narrow .boolean (.int v) = .int 1) (hd0 : s.drawn.sameBut d0 lw_cs) (hx : p.tables.exec = Jvm.exec) (hb : c.code = code) (hr : meth.sig.returnType = ret) (hlocks : meth.locks = false) {pc : Nat} {H : Heap} {ls : Array Slot} (hdg : decode code pc = .ok (.ireturn, 1)) : W p l e room_1 (s.setDrawn d0) m #[Value.ref b] below meth c H [] 600000 7302250 (lw_Z below #[Value.ref b] s) (F0 m pc ls [.int v]) := by
  intro T hT X
  obtain ⟨fs, hret, hrun, hended, hW, hframe⟩ := X.leave (v := some (.int 1)) (hlocks := hlocks) (fun h => by rw [hr] at h; cases h)
  have hmeth' : T.vm.method? m = some meth := X.method'
  refine ⟨T.setFrames fs, ?_, .returned (some (.int 1)), hrun, hended, rfl, lw_closed hd0 ⟨_, rfl⟩ hW hframe⟩
  jvm_step X.here [X.here.top, hx, hb, hdg, hmeth', hr, ret, hv]
  (try refine ⟨rfl, ?_⟩); (try refine ⟨rfl, ?_⟩)
  first | (intro acts; rw [hret _ acts rfl rfl rfl]) | rw [hret _ _ rfl rfl rfl]
  exact Steps.refl _
/-- THE LAW'S WALK OUT OF A RUN OF THE NUMBERED MACHINE -/
theorem law_walk {p : Program} {e : Env} {s : State} {m : MethodId} {below : List Frame} {meth : Method} {c : Code} (l : Launch) {b L : Nat} {xs : Nat → Int32} (hL : L ≤ 3584) (C0 : lw_At p s m meth c b L xs) {fz : Int → Int → Option Int} (hZ : FZ fz) (hOB : ∀ k, k < 445 → OKB k) (hNB : ∀ k, k < 445 → 0 < (hk k).length) (hOM : ∀ k, 0 < k → k < 445 → OM k)
    {d n : Nat} {hE : HV} (hd : d ≤ 2000) (hrun : runM fz n d 0 0 (ent 0 [(3, 50)]) [] (hI0 L xs) = some (1, hE)) (hc : hE 0 0 ≤ 600001) (hs : hE 0 1 ≤ 7302250) : W p l e room_1 s m #[Value.ref b] below meth c s.heap [] 0 0 (lw_Z below #[Value.ref b] s) (entryFrame m ([Value.ref b] : List Value).toArray 4) := by
  obtain ⟨hx, hb, hr, hml, hown, hts, hX, hbs, hlk, hg⟩ := C0
  have hfl : ∀ w ∈ flatC narrow_1, w.before #[Value.ref b] s = true := fun w hw => flat_of_before _ hg w (List.mem_append_right _ hw)
  have hA : ∀ a : Nat, a < s.heap.size → ¬ s.heap.size ≤ a := fun a h => Nat.not_le.mpr h
  obtain ⟨adS, adV, hS, hEv⟩ := vkS_of (A := fun q => s.heap.size ≤ q) hfl hA
  have hbig : ∀ w ∈ BIG, w.before #[Value.ref b] s = true := fun w hw => hts w (List.mem_filter.mp hw).1
  have hkn : ∀ cn : Nat, ∃ q : ClassId × (Nat → Nat), cn < 13 → u_Kn s (cR cn) (cF cn) (cN cn) q.1 q.2 := by
    intro cn
    by_cases h : cn < 13
    · obtain ⟨cC, iS, hK⟩ := u_known (ws := BIG) hbig (FS3 cn h) (hbig _ (FS4 cn h).1)
      exact ⟨(cC, iS), fun _ => hK⟩
    · exact ⟨(0, fun _ => 0), fun q => absurd q h⟩
  obtain ⟨dd, hdd⟩ := Classical.axiomOfChoice hkn
  obtain ⟨vF, hv1, hv2⟩ := Cond.isRef_spec (hfl _ (List.mem_of_getElem? F_s))
  have hvF : vF = .null ∨ ∃ a, vF = .ref a := by
    cases vF <;> first | exact Or.inl rfl | exact Or.inr ⟨_, rfl⟩ | cases hv2
  have hFA : FA s.heap.size s.heap (fun c => (dd c).1) (fun c => (dd c).2) vF adS adV b LENS BYTS L xs s := by
    refine ⟨fun c hc => hdd c hc, fun q hq => ?_, hS, hX, hbs, va_Zof (hts _ W_lsc) (hts _ W_ins) (va_eqt (hfl _ (List.mem_of_getElem? F_c))) hA, va_Zof (hts _ W_lss) (hts _ W_inp) hv1 hA, va_Nw.of rfl (hts _ W_nwc), va_AO.of (hts _ W_aos), hts _ W_aol⟩
    refine vk_R.of (hts _ (SRL_w hq)) ?_
    rcases SRL_ev q hq with h | h
    · rw [← h]
      exact hEv _ (SRL_lt q hq)
    · exact va_eqR (hfl _ (DUP_in h)) (hEv _ (SRL_lt q hq))
  have hSm : Sm fz s.heap.size s.heap (hI0 L xs) (fun c => (dd c).1) (fun c => (dd c).2) vF s al_0 (ad_0 b adS adV) adS adV b (hI0 L xs) s.heap := by
    refine ⟨⟨Nat.le_refl _, fun q hq => rfl⟩, fun o ho h64 => ?_, fun o o' ho ho' h64 => ?_, fun o ho hlt => ho, fun j hj => ⟨Or.inr ⟨j, hj, Or.inl rfl⟩, ad_sid b adS adV j, Or.inr ⟨j, hj, Or.inr rfl⟩, ad_bid b adS adV j⟩, ⟨Or.inl rfl, rfl⟩, fun o ho ho0 => rfl, ?_⟩
    · rcases ho with rfl | ⟨j, -, rfl | rfl⟩
      · omega
      · unfold sid at h64; omega
      · unfold bid at h64; omega
    · rcases ho with rfl | ⟨j, -, rfl | rfl⟩
      · omega
      · unfold sid at h64; omega
      · unfold bid at h64; omega
    · show (1 : Int) ≤ hI0 L xs 0 0
      unfold hI0
      rw [if_neg (by decide), if_pos rfl, if_pos rfl]
      decide
  have hI00 : hI0 L xs 0 0 = 1 := by
    unfold hI0
    rw [if_neg (by decide), if_pos rfl, if_pos rfl]
  have hI01 : hI0 L xs 0 1 = 0 := by
    unfold hI0
    rw [if_neg (by decide), if_pos rfl, if_neg (by decide)]
  have hu : hI0 L xs 0 0 ≤ hE 0 0 ∧ hI0 L xs 0 1 ≤ hE 0 1 := runM_up n d 0 0 _ [] _ (by rw [hI00]; decide) _ hrun
  rw [hI00, hI01] at hu
  have F : FC p room_1 s m #[Value.ref b] meth c fz s.heap.size s.heap (hI0 L xs) (fun c => (dd c).1) (fun c => (dd c).2) vF adS adV b LENS BYTS L xs 0 d :=
    ⟨hx, hb, hml, hown, hbig, hFA, hI0_ok hL, hZ, hvF, by show d + 1 ≤ 2048; omega, by show 40 * (d + 1) ≤ 84000; omega, fun h => absurd h (by decide)⟩
  have hend : Ends p l e room_1 s m #[Value.ref b] below meth c (lw_Z below #[Value.ref b] s) (ST fz s.heap.size s.heap (hI0 L xs) (fun c => (dd c).1) (fun c => (dd c).2) vF adS adV b s room_1 hE al_0 (ad_0 b adS adV)) 0 1 hE := by
    refine ⟨fun pc ls x hdg hcase => ?_, fun pc ls hdg h => absurd h (by decide), fun pc ls hdg h => absurd h (by decide), fun pc ls hdg h => absurd h (by decide), fun pc ls hdg h => absurd h (by decide)⟩
    intro al ad H locs cells slots lc sc g
    have hx2 : x % 2 = 1 := by
      rcases hcase with ⟨h, -⟩ | ⟨-, h⟩ | ⟨h, -⟩ | ⟨h, -⟩
      · exact absurd h (by decide)
      · exact h
      · exact absurd h (by decide)
      · exact absurd h (by decide)
    have hloc := g.2.2.2.2.1
    have g6 := g.2.2.2.2.2.1
    have g7 := g.2.2.2.2.2.2
    obtain ⟨sc1, rfl, q1, g1⟩ := g.pop
    obtain ⟨g4, -⟩ := g1.2.2.2.1
    subst g4
    have e6 : (room_1.cells : Int) = 600000 := rfl
    have e7 : (room_1.slots : Int) = 7302250 := rfl
    refine W.widen (k := 600000) (n := 7302250) (by omega) (by omega) ?_
    intro T hT X
    exact lw_ret2 (d0 := s.drawn) (by rw [nar_z, hx2]; rfl) (Drawn.sameBut.refl s.drawn lw_cs) hx hb hr hlk hdg T hT (Stand.forget X hloc)
  have hK := blk_all (l := l) (hI0_ok hL) hZ hvF hOB hNB hOM n p e room_1 s m #[Value.ref b] below meth c (lw_Z below #[Value.ref b] s) al_0 (ad_0 b adS adV) 0 d 1 hE (by decide) F hend 0 (ent 0 [(3, 50)]) [] (hI0 L xs) (hNB 0 (by decide)) (ent_len (by decide)) hrun
  rw [(hOB 0 (by decide)).1] at hK
  rw [lg_entry_eq]
  refine W.widen (k := 600000 - (hE 0 0 - 1).toNat) (n := 7302250 - (hE 0 1).toNat) (by omega) (by omega) ?_
  have hrg : ∀ v ∈ ([(3, 50)] : List AV), rng al_0 v.1 v.2 := fun v hv => by
    rw [List.mem_singleton] at hv
    subst hv
    exact Or.inr (Or.inr (Or.inl rfl))
  refine hK al_0 (ad_0 b adS adV) s.heap [] _ _ _ [] ⟨hSm, fun o ho => ⟨ho, rfl⟩, LR_ent (ad := ad_0 b adS adV) hvF (by decide) hrg, ⟨rfl, fun v hv => (by cases hv)⟩, (fun q hq => by cases hq), ?_, ?_⟩
  · show ((600000 - (hE 0 0 - 1).toNat : Nat) : Int) + (hE 0 0 - hI0 L xs 0 0) = 600000
    rw [hI00]
    omega
  · show ((7302250 - (hE 0 1).toNat : Nat) : Int) + (hE 0 1 - hI0 L xs 0 1) = 7302250
    rw [hI01]
    omega
