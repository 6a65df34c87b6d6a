/-! SOUNDNESS, 5: the static facts; fields, arrays, what is made, natives -/
set_option maxRecDepth 100000 in
theorem FS1 : ∀ c, c < 13 → ∀ j, j < cN c → parseFieldDescriptor (cF c j).2.2.1 = some (cT c j) := by decide +kernel
set_option maxRecDepth 100000 in
theorem FS2 : ∀ c, c < 13 → ∀ a, a < cN c → ∀ b, b < cN c → a ≠ b → (cF c a).2.1 ≠ (cF c b).2.1 := by decide +kernel
set_option maxRecDepth 100000 in
theorem FS5 : ∀ c, c < 13 → ∀ j, j < cN c → (cF c j).1 = cR c := by decide +kernel
set_option maxRecDepth 100000 in
theorem FS6 : ∀ c, c < 13 → ∀ j, j < cN c → ofTy (fT c j) (cT c j) = true := by decide +kernel
def lwB (ws : List Jvm.Cond) (hs : List (Nat × Nat)) : Bool := decide (ws.map some = hs.map wrd) && ws.all goodWord
theorem lwB_in {ws : List Jvm.Cond} {hs : List (Nat × Nat)} (h : lwB ws hs = true) : ∀ w ∈ ws, w ∈ BIG := by
  unfold lwB at h
  rw [Bool.and_eq_true, decide_eq_true_eq] at h
  intro w hw
  have h1 : some w ∈ hs.map wrd := h.1 ▸ List.mem_map_of_mem hw
  obtain ⟨q, -, hq⟩ := List.mem_map.mp h1
  exact wrd_big hq (List.all_eq_true.mp h.2 w hw)
set_option maxRecDepth 100000 in
theorem lay0 : lwB (u_ws (cR 0) (cF 0) (cN 0)) [(3, 42), (3, 44), (3, 46), (3, 48), (3, 50), (3, 52), (3, 54), (3, 56), (3, 58), (3, 60), (3, 62), (3, 64), (3, 66), (3, 68), (3, 70), (3, 72), (3, 74)] = true := by decide +kernel
set_option maxRecDepth 100000 in
theorem lay1 : lwB (u_ws (cR 1) (cF 1) (cN 1)) [(1, 49), (1, 51), (1, 53), (1, 55), (1, 57), (1, 59), (1, 61), (1, 63), (1, 65), (1, 67)] = true := by decide +kernel
set_option maxRecDepth 100000 in
theorem lay2 : lwB (u_ws (cR 2) (cF 2) (cN 2)) [(1, 88), (1, 90), (1, 92), (1, 94), (1, 96), (1, 98), (1, 100), (1, 102), (1, 104), (1, 106), (1, 108)] = true := by decide +kernel
set_option maxRecDepth 100000 in
theorem lay3 : lwB (u_ws (cR 3) (cF 3) (cN 3)) [(1, 123), (1, 125), (1, 127), (1, 129)] = true := by decide +kernel
set_option maxRecDepth 100000 in
theorem lay4 : lwB (u_ws (cR 4) (cF 4) (cN 4)) [(1, 143), (1, 145), (1, 147), (1, 149), (1, 151)] = true := by decide +kernel
set_option maxRecDepth 100000 in
theorem lay5 : lwB (u_ws (cR 5) (cF 5) (cN 5)) [(1, 197), (1, 199), (1, 201), (1, 203), (1, 205), (1, 207), (1, 209), (1, 211), (1, 213), (1, 215), (1, 217), (1, 219), (1, 221), (1, 223), (1, 225), (1, 227), (1, 229), (1, 231), (1, 233), (1, 235), (1, 237)] = true := by decide +kernel
set_option maxRecDepth 100000 in
theorem lay6 : lwB (u_ws (cR 6) (cF 6) (cN 6)) [(1, 169), (1, 171), (1, 173)] = true := by decide +kernel
set_option maxRecDepth 100000 in
theorem lay7 : lwB (u_ws (cR 7) (cF 7) (cN 7)) [(2, 22), (2, 24), (2, 26), (2, 28), (2, 30), (2, 32), (2, 34), (2, 36), (2, 38), (2, 40), (2, 42), (2, 44), (2, 46), (2, 48), (2, 50), (2, 52)] = true := by decide +kernel
set_option maxRecDepth 100000 in
theorem lay8 : lwB (u_ws (cR 8) (cF 8) (cN 8)) [(2, 72), (2, 74), (2, 76), (2, 78), (2, 80), (2, 82), (2, 84), (2, 86), (2, 88), (2, 90), (2, 92)] = true := by decide +kernel
set_option maxRecDepth 100000 in
theorem lay9 : lwB (u_ws (cR 9) (cF 9) (cN 9)) [(2, 111), (2, 113), (2, 115), (2, 117), (2, 119), (2, 121), (2, 123), (2, 125), (2, 127), (2, 129)] = true := by decide +kernel
set_option maxRecDepth 100000 in
theorem lay10 : lwB (u_ws (cR 10) (cF 10) (cN 10)) [(2, 191), (2, 193), (2, 195), (2, 197), (2, 199), (2, 201), (2, 203), (2, 205), (2, 207), (2, 209), (2, 211), (2, 213), (2, 215), (2, 217), (2, 219), (2, 221), (2, 223), (2, 225)] = true := by decide +kernel
set_option maxRecDepth 100000 in
theorem lay11 : lwB (u_ws (cR 11) (cF 11) (cN 11)) [(9, 207), (9, 209), (9, 211), (9, 213), (9, 215), (9, 217), (9, 219), (9, 221), (9, 223), (9, 225), (9, 227), (9, 229), (9, 231), (9, 233), (9, 235), (9, 237), (9, 239), (10, 1), (10, 3), (10, 5), (10, 7), (10, 9), (10, 11), (10, 13), (10, 15), (10, 17), (10, 19), (10, 21), (10, 23), (10, 25), (10, 27), (10, 29), (10, 31), (10, 33), (10, 35), (10, 37), (10, 39), (10, 41), (10, 43), (10, 45), (10, 47), (10, 49), (10, 51), (10, 53), (10, 55), (10, 57), (10, 59), (10, 61), (10, 63), (10, 65), (10, 67), (10, 69), (10, 71), (10, 73), (10, 75), (10, 77), (10, 79), (10, 81), (10, 83), (10, 85), (10, 87), (10, 89), (10, 91), (10, 93), (10, 95), (10, 97), (10, 99), (10, 101), (10, 103), (10, 105), (10, 107), (10, 109), (10, 111), (10, 113), (10, 115), (10, 117), (10, 119), (10, 121), (10, 123), (10, 125), (10, 127), (10, 129), (10, 131), (10, 133), (10, 135), (10, 137), (10, 139), (10, 141), (10, 143), (10, 145), (10, 147), (10, 149), (10, 151), (10, 153), (10, 155)] = true := by decide +kernel
set_option maxRecDepth 100000 in
theorem lay12 : lwB (u_ws (cR 12) (cF 12) (cN 12)) [(9, 19), (9, 21), (9, 23), (9, 25), (9, 27), (9, 29), (9, 31), (9, 33), (9, 35), (9, 37), (9, 39), (9, 41), (9, 43), (9, 45), (9, 47), (9, 49), (9, 51), (9, 53), (9, 55), (9, 57), (9, 59), (9, 61), (9, 63), (9, 65), (9, 67)] = true := by decide +kernel
theorem FS3 (c : Nat) (hc : c < 13) : ∀ w ∈ u_ws (cR c) (cF c) (cN c), w ∈ BIG := by
  match c, hc with
  | 0, _ => exact lwB_in lay0
  | 1, _ => exact lwB_in lay1
  | 2, _ => exact lwB_in lay2
  | 3, _ => exact lwB_in lay3
  | 4, _ => exact lwB_in lay4
  | 5, _ => exact lwB_in lay5
  | 6, _ => exact lwB_in lay6
  | 7, _ => exact lwB_in lay7
  | 8, _ => exact lwB_in lay8
  | 9, _ => exact lwB_in lay9
  | 10, _ => exact lwB_in lay10
  | 11, _ => exact lwB_in lay11
  | 12, _ => exact lwB_in lay12
  | q + 13, h => exact absurd h (by omega)
set_option maxRecDepth 100000 in
theorem ini_all : lwB [.instantiable (cR 0) (cN 0), .initialized (cR 0), .instantiable (cR 1) (cN 1), .initialized (cR 1), .instantiable (cR 2) (cN 2), .initialized (cR 2), .instantiable (cR 3) (cN 3), .initialized (cR 3), .instantiable (cR 4) (cN 4), .initialized (cR 4), .instantiable (cR 5) (cN 5), .initialized (cR 5), .instantiable (cR 6) (cN 6), .initialized (cR 6), .instantiable (cR 7) (cN 7), .initialized (cR 7), .instantiable (cR 8) (cN 8), .initialized (cR 8), .instantiable (cR 9) (cN 9), .initialized (cR 9), .instantiable (cR 10) (cN 10), .initialized (cR 10), .instantiable (cR 11) (cN 11), .initialized (cR 11), .instantiable (cR 12) (cN 12), .initialized (cR 12)] [(1, 26), (1, 1), (1, 34), (1, 2), (1, 72), (1, 3), (1, 114), (1, 4), (1, 133), (1, 5), (1, 155), (1, 6), (1, 161), (1, 7), (2, 1), (1, 8), (2, 56), (1, 9), (2, 96), (1, 10), (2, 134), (1, 11), (8, 203), (1, 13), (8, 209), (1, 14)] = true := by decide +kernel
theorem FS4 (c : Nat) (hc : c < 13) : (Jvm.Cond.instantiable (cR c) (cN c)) ∈ BIG ∧ (Jvm.Cond.initialized (cR c)) ∈ BIG := by
  match c, hc with
  | 0, _ => exact ⟨lwB_in ini_all _ (List.mem_of_getElem? (i := 0) rfl), lwB_in ini_all _ (List.mem_of_getElem? (i := 1) rfl)⟩
  | 1, _ => exact ⟨lwB_in ini_all _ (List.mem_of_getElem? (i := 2) rfl), lwB_in ini_all _ (List.mem_of_getElem? (i := 3) rfl)⟩
  | 2, _ => exact ⟨lwB_in ini_all _ (List.mem_of_getElem? (i := 4) rfl), lwB_in ini_all _ (List.mem_of_getElem? (i := 5) rfl)⟩
  | 3, _ => exact ⟨lwB_in ini_all _ (List.mem_of_getElem? (i := 6) rfl), lwB_in ini_all _ (List.mem_of_getElem? (i := 7) rfl)⟩
  | 4, _ => exact ⟨lwB_in ini_all _ (List.mem_of_getElem? (i := 8) rfl), lwB_in ini_all _ (List.mem_of_getElem? (i := 9) rfl)⟩
  | 5, _ => exact ⟨lwB_in ini_all _ (List.mem_of_getElem? (i := 10) rfl), lwB_in ini_all _ (List.mem_of_getElem? (i := 11) rfl)⟩
  | 6, _ => exact ⟨lwB_in ini_all _ (List.mem_of_getElem? (i := 12) rfl), lwB_in ini_all _ (List.mem_of_getElem? (i := 13) rfl)⟩
  | 7, _ => exact ⟨lwB_in ini_all _ (List.mem_of_getElem? (i := 14) rfl), lwB_in ini_all _ (List.mem_of_getElem? (i := 15) rfl)⟩
  | 8, _ => exact ⟨lwB_in ini_all _ (List.mem_of_getElem? (i := 16) rfl), lwB_in ini_all _ (List.mem_of_getElem? (i := 17) rfl)⟩
  | 9, _ => exact ⟨lwB_in ini_all _ (List.mem_of_getElem? (i := 18) rfl), lwB_in ini_all _ (List.mem_of_getElem? (i := 19) rfl)⟩
  | 10, _ => exact ⟨lwB_in ini_all _ (List.mem_of_getElem? (i := 20) rfl), lwB_in ini_all _ (List.mem_of_getElem? (i := 21) rfl)⟩
  | 11, _ => exact ⟨lwB_in ini_all _ (List.mem_of_getElem? (i := 22) rfl), lwB_in ini_all _ (List.mem_of_getElem? (i := 23) rfl)⟩
  | 12, _ => exact ⟨lwB_in ini_all _ (List.mem_of_getElem? (i := 24) rfl), lwB_in ini_all _ (List.mem_of_getElem? (i := 25) rfl)⟩
  | q + 13, h => exact absurd h (by omega)
set_option maxRecDepth 100000 in
theorem FS7 : lwB [.arrayClass .byte, .arrayClass .long, .arrayClass .int, .arrayClass .boolean, .arrayClass .double] [(1, 70), (1, 111), (1, 112), (2, 132), (9, 70)] = true := by decide +kernel
set_option maxRecDepth 100000 in
theorem FS8 : lwB [.native arraycopyName, .static arraycopyName, .initialized "java/lang/System", .native ⟨"java/lang/Double", "doubleToRawLongBits", "(D)J"⟩, .static ⟨"java/lang/Double", "doubleToRawLongBits", "(D)J"⟩, .native ⟨"java/lang/Double", "longBitsToDouble", "(J)D"⟩, .static ⟨"java/lang/Double", "longBitsToDouble", "(J)D"⟩, .initialized "java/lang/Double", .static Lib.Math.max.name, .code Lib.Math.max.name Lib.Math.max.code 2 (some .int), .static Lib.Math.min.name, .code Lib.Math.min.name Lib.Math.min.code 2 (some .int), .static Lib.MathLoose.max_long.x, .code Lib.MathLoose.max_long.x Lib.MathLoose.max_long.code 4 (some .long), .static Lib.MathLoose.min_long.x, .code Lib.MathLoose.min_long.x Lib.MathLoose.min_long.code 4 (some .long), .static Lib.MathLoose.abs_long.x, .code Lib.MathLoose.abs_long.x Lib.MathLoose.abs_long.code 2 (some .long), .initialized "java/lang/Math", .instanceMethod Lib.objectInit, .code Lib.objectInit ⟨#[0xb1]⟩ 1 none] [(5, 224), (5, 223), (1, 22), (12, 0), (11, 239), (12, 16), (12, 15), (1, 24), (3, 157), (3, 158), (3, 160), (3, 161), (7, 56), (7, 57), (4, 226), (4, 227), (4, 215), (4, 216), (1, 17), (1, 31), (1, 32)] = true := by decide +kernel
theorem gw_fieldLink (a : String) (i : Nat) (b n d : String) : goodWord (.fieldLink a i b n d) = true := rfl
theorem gw_methodLink (a : String) (i : Nat) (x : MethodName) : goodWord (.methodLink a i x) = true := rfl
theorem gw_classLink (a : String) (i : Nat) (b : String) : goodWord (.classLink a i b) = true := rfl
theorem gw_constant (a : String) (i : Nat) (b : Int32) : goodWord (.constant a i b) = true := rfl
theorem gw_constantL (a : String) (i : Nat) (b : Int64) : goodWord (.constantLong a i b) = true := rfl
theorem gw_constantD (a : String) (i : Nat) (b : UInt64) : goodWord (.constantDouble a i b) = true := rfl
theorem gw_code (y : MethodName) (b : ByteArray) (n : Nat) (r : Option FieldType) : goodWord (.code y b n r) = true := rfl
theorem gw_init (a : String) : goodWord (.initialized a) = true := rfl
theorem gw_inst (y : MethodName) : goodWord (.instanceMethod y) = true := rfl
theorem gw_stat (y : MethodName) : goodWord (.static y) = true := rfl
theorem gw_sel (a : String) (x y : MethodName) : goodWord (.selects a x y) = true := rfl
theorem put_ok {vF : Value} {ad : Int → Nat} {al : Int → Prop} (hvF : vF = .null ∨ ∃ a, vF = .ref a) {t : Nat} {ft : FieldType} {x : Int} (ho : ofTy t ft = true) (hf : fitI t x) (hr : rng al (tg t) x) : narrow ft (cv vF ad (tg t) x) = cv vF ad (tg t) x ∧ fits ft (cv vF ad (tg t) x) = true := by
  have h3 : ∀ ft : FieldType, (∃ C, ft = .object C) ∨ (∃ C, ft = .array C) → narrow ft (cv vF ad 3 x) = cv vF ad 3 x ∧ fits ft (cv vF ad 3 x) = true := by
    intro ft hft
    rcases cv_3 (ad := ad) hvF (x := x) with e | ⟨a, e⟩ <;> (have e : cv vF ad 3 x = _ := e; rw [e]; rcases hft with ⟨C, rfl⟩ | ⟨C, rfl⟩ <;> exact ⟨rfl, rfl⟩)
  match t, ft, ho, hf, hr with
  | 0, .int, _, _, _ => exact ⟨rfl, rfl⟩
  | 1, .long, _, _, _ => exact ⟨rfl, rfl⟩
  | 2, .double, _, _, _ => exact ⟨rfl, rfl⟩
  | 3, .object C, _, _, _ => exact h3 _ (Or.inl ⟨C, rfl⟩)
  | 3, .array C, _, _, _ => exact h3 _ (Or.inr ⟨C, rfl⟩)
  | 4, .boolean, _, hf, _ =>
    have hf : 0 ≤ x ∧ x ≤ 1 := hf
    rcases (show x = 0 ∨ x = 1 by omega) with rfl | rfl
    · show narrow .boolean (.int (Int32.ofInt 0)) = .int (Int32.ofInt 0) ∧ fits .boolean (.int (Int32.ofInt 0)) = true
      decide
    · show narrow .boolean (.int (Int32.ofInt 1)) = .int (Int32.ofInt 1) ∧ fits .boolean (.int (Int32.ofInt 1)) = true
      decide
  | 5, .char, _, hf, _ =>
    have hf : 0 ≤ x ∧ x ≤ 65535 := hf
    obtain ⟨n, rfl⟩ := Int.eq_ofNat_of_zero_le hf.1
    have e : cv vF ad (tg 5) (n : Int) = .int (nI n) := congrArg Value.int Int32.ofInt_eq_ofNat
    have := pk_charN (q := n) (by omega)
    rw [e]; exact this
  | 6, .byte, _, hf, _ =>
    have hf : -128 ≤ x ∧ x ≤ 127 := hf
    have e : (Int32.ofInt x).toInt8.toInt32 = Int32.ofInt x := by
      rw [i2bE]
      congr 1
      unfold w8; omega
    refine ⟨congrArg Value.int e, ?_⟩
    have := pk_fb (Int32.ofInt x)
    rw [e] at this
    exact this
theorem dv_ok {vF : Value} {ad : Int → Nat} {t : Nat} {ft : FieldType} (ho : ofTy t ft = true) : defaultValue ft = cv vF ad (tg t) 0 := by
  match t, ft, ho with
  | 0, .int, _ => rfl
  | 1, .long, _ => rfl
  | 2, .double, _ => rfl
  | 3, .object C, _ => rfl
  | 3, .array C, _ => rfl
  | 4, .boolean, _ => rfl
  | 5, .char, _ => rfl
  | 6, .byte, _ => rfl
theorem rng0 {al : Int → Prop} (t : Nat) : rng al (tg t) 0 := by
  match t with
  | 0 => exact ⟨by decide, by decide⟩
  | 1 => exact ⟨by decide, by decide⟩
  | 2 => exact ⟨by decide, by decide⟩
  | 3 => exact Or.inl rfl
  | t + 4 => exact ⟨by decide, by decide⟩
