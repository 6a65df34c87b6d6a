/-! SOUNDNESS, 5: the static facts; fields, arrays, what is made, natives -/
set_option maxRecDepth 100000 in
theorem FS1 : ∀ c, c < 13 → ∀ j, j < cN c → parseFieldDescriptor (cF c j).2.2.1 = some (cT c j) := by decide +kernel
set_option maxRecDepth 100000 in
theorem FS2 : ∀ c, c < 13 → ∀ a, a < cN c → ∀ b, b < cN c → a ≠ b → (cF c a).2.1 ≠ (cF c b).2.1 := by decide +kernel
set_option maxRecDepth 100000 in
theorem FS5 : ∀ c, c < 13 → ∀ j, j < cN c → (cF c j).1 = cR c := by decide +kernel
set_option maxRecDepth 100000 in
theorem FS6 : ∀ c, c < 13 → ∀ j, j < cN c → ofTy (fT c j) (cT c j) = true := by decide +kernel
def lwB (ws : List Jvm.Cond) (hs : List (Nat × Nat)) : Bool := decide (ws.map some = hs.map wrd) && ws.all goodWord
theorem lwB_in {ws : List Jvm.Cond} {hs : List (Nat × Nat)} (h : lwB ws hs = true) : ∀ w ∈ ws, w ∈ BIG := by
  unfold lwB at h
  rw [Bool.and_eq_true, decide_eq_true_eq] at h
  intro w hw
  have h1 : some w ∈ hs.map wrd := h.1 ▸ List.mem_map_of_mem hw
  obtain ⟨q, -, hq⟩ := List.mem_map.mp h1
  exact wrd_big hq (List.all_eq_true.mp h.2 w hw)
set_option maxRecDepth 100000 in
theorem lay0 : lwB (u_ws (cR 0) (cF 0) (cN 0)) [(3, 45), (3, 47), (3, 49), (3, 51), (3, 53), (3, 55), (3, 57), (3, 59), (3, 61), (3, 63), (3, 65), (3, 67), (3, 69), (3, 71), (3, 73), (3, 75), (3, 77)] = true := by decide +kernel
set_option maxRecDepth 100000 in
theorem lay1 : lwB (u_ws (cR 1) (cF 1) (cN 1)) [(1, 49), (1, 51), (1, 53), (1, 55), (1, 57), (1, 59), (1, 61), (1, 63), (1, 65), (1, 67)] = true := by decide +kernel
set_option maxRecDepth 100000 in
theorem lay2 : lwB (u_ws (cR 2) (cF 2) (cN 2)) [(1, 89), (1, 91), (1, 93), (1, 97), (1, 99), (1, 101), (1, 103), (1, 105), (1, 107), (1, 109), (1, 111), (1, 95)] = true := by decide +kernel
set_option maxRecDepth 100000 in
theorem lay3 : lwB (u_ws (cR 3) (cF 3) (cN 3)) [(1, 126), (1, 128), (1, 130), (1, 132)] = true := by decide +kernel
set_option maxRecDepth 100000 in
theorem lay4 : lwB (u_ws (cR 4) (cF 4) (cN 4)) [(1, 146), (1, 148), (1, 150), (1, 152), (1, 154)] = true := by decide +kernel
set_option maxRecDepth 100000 in
theorem lay5 : lwB (u_ws (cR 5) (cF 5) (cN 5)) [(1, 200), (1, 202), (1, 204), (1, 206), (1, 208), (1, 210), (1, 212), (1, 214), (1, 216), (1, 218), (1, 220), (1, 222), (1, 224), (1, 226), (1, 228), (1, 230), (1, 232), (1, 234), (1, 236), (1, 238), (2, 0)] = true := by decide +kernel
set_option maxRecDepth 100000 in
theorem lay6 : lwB (u_ws (cR 6) (cF 6) (cN 6)) [(1, 172), (1, 174), (1, 176)] = true := by decide +kernel
set_option maxRecDepth 100000 in
theorem lay7 : lwB (u_ws (cR 7) (cF 7) (cN 7)) [(2, 25), (2, 27), (2, 29), (2, 31), (2, 33), (2, 35), (2, 37), (2, 39), (2, 41), (2, 43), (2, 45), (2, 47), (2, 49), (2, 51), (2, 53), (2, 55)] = true := by decide +kernel
set_option maxRecDepth 100000 in
theorem lay8 : lwB (u_ws (cR 8) (cF 8) (cN 8)) [(2, 75), (2, 77), (2, 79), (2, 81), (2, 83), (2, 85), (2, 87), (2, 89), (2, 91), (2, 93), (2, 95)] = true := by decide +kernel
set_option maxRecDepth 100000 in
theorem lay9 : lwB (u_ws (cR 9) (cF 9) (cN 9)) [(2, 114), (2, 116), (2, 118), (2, 120), (2, 122), (2, 124), (2, 126), (2, 128), (2, 130), (2, 132)] = true := by decide +kernel
set_option maxRecDepth 100000 in
theorem lay10 : lwB (u_ws (cR 10) (cF 10) (cN 10)) [(2, 194), (2, 196), (2, 198), (2, 200), (2, 202), (2, 204), (2, 206), (2, 208), (2, 210), (2, 212), (2, 214), (2, 216), (2, 218), (2, 220), (2, 222), (2, 224), (2, 226), (2, 228)] = true := by decide +kernel
set_option maxRecDepth 100000 in
theorem lay11 : lwB (u_ws (cR 11) (cF 11) (cN 11)) [(9, 202), (9, 204), (9, 206), (9, 208), (9, 210), (9, 212), (9, 214), (9, 216), (9, 218), (9, 220), (9, 222), (9, 224), (9, 226), (9, 228), (9, 230), (9, 232), (9, 234), (9, 236), (9, 238), (10, 0), (10, 2), (10, 4), (10, 6), (10, 8), (10, 10), (10, 12), (10, 14), (10, 16), (10, 18), (10, 20), (10, 22), (10, 24), (10, 26), (10, 28), (10, 30), (10, 32), (10, 34), (10, 36), (10, 38), (10, 40), (10, 42), (10, 44), (10, 46), (10, 48), (10, 50), (10, 52), (10, 54), (10, 56), (10, 58), (10, 60), (10, 62), (10, 64), (10, 66), (10, 68), (10, 70), (10, 72), (10, 74), (10, 76), (10, 78), (10, 80), (10, 82), (10, 84), (10, 86), (10, 88), (10, 90), (10, 92), (10, 94), (10, 96), (10, 98), (10, 100), (10, 102), (10, 104), (10, 106), (10, 108), (10, 110), (10, 112), (10, 114), (10, 116), (10, 118), (10, 120), (10, 122), (10, 124), (10, 126), (10, 128), (10, 130), (10, 132), (10, 134), (10, 136), (10, 138), (10, 140), (10, 142), (10, 144), (10, 146), (10, 148), (10, 150)] = true := by decide +kernel
set_option maxRecDepth 100000 in
theorem lay12 : lwB (u_ws (cR 12) (cF 12) (cN 12)) [(9, 14), (9, 16), (9, 18), (9, 20), (9, 22), (9, 24), (9, 26), (9, 28), (9, 30), (9, 32), (9, 34), (9, 36), (9, 38), (9, 40), (9, 42), (9, 44), (9, 46), (9, 48), (9, 50), (9, 52), (9, 54), (9, 56), (9, 58), (9, 60), (9, 62)] = true := by decide +kernel
theorem FS3 (c : Nat) (hc : c < 13) : ∀ w ∈ u_ws (cR c) (cF c) (cN c), w ∈ BIG := by
  match c, hc with
  | 0, _ => exact lwB_in lay0
  | 1, _ => exact lwB_in lay1
  | 2, _ => exact lwB_in lay2
  | 3, _ => exact lwB_in lay3
  | 4, _ => exact lwB_in lay4
  | 5, _ => exact lwB_in lay5
  | 6, _ => exact lwB_in lay6
  | 7, _ => exact lwB_in lay7
  | 8, _ => exact lwB_in lay8
  | 9, _ => exact lwB_in lay9
  | 10, _ => exact lwB_in lay10
  | 11, _ => exact lwB_in lay11
  | 12, _ => exact lwB_in lay12
  | q + 13, h => exact absurd h (by omega)
set_option maxRecDepth 100000 in
theorem ini_all : lwB [.instantiable (cR 0) (cN 0), .initialized (cR 0), .instantiable (cR 1) (cN 1), .initialized (cR 1), .instantiable (cR 2) (cN 2), .initialized (cR 2), .instantiable (cR 3) (cN 3), .initialized (cR 3), .instantiable (cR 4) (cN 4), .initialized (cR 4), .instantiable (cR 5) (cN 5), .initialized (cR 5), .instantiable (cR 6) (cN 6), .initialized (cR 6), .instantiable (cR 7) (cN 7), .initialized (cR 7), .instantiable (cR 8) (cN 8), .initialized (cR 8), .instantiable (cR 9) (cN 9), .initialized (cR 9), .instantiable (cR 10) (cN 10), .initialized (cR 10), .instantiable (cR 11) (cN 11), .initialized (cR 11), .instantiable (cR 12) (cN 12), .initialized (cR 12)] [(1, 26), (1, 1), (1, 34), (1, 2), (1, 72), (1, 3), (1, 117), (1, 4), (1, 136), (1, 5), (1, 158), (1, 6), (1, 164), (1, 7), (2, 4), (1, 8), (2, 59), (1, 9), (2, 99), (1, 10), (2, 137), (1, 11), (8, 198), (1, 13), (8, 204), (1, 14)] = true := by decide +kernel
theorem FS4 (c : Nat) (hc : c < 13) : (Jvm.Cond.instantiable (cR c) (cN c)) ∈ BIG ∧ (Jvm.Cond.initialized (cR c)) ∈ BIG := by
  match c, hc with
  | 0, _ => exact ⟨lwB_in ini_all _ (List.mem_of_getElem? (i := 0) rfl), lwB_in ini_all _ (List.mem_of_getElem? (i := 1) rfl)⟩
  | 1, _ => exact ⟨lwB_in ini_all _ (List.mem_of_getElem? (i := 2) rfl), lwB_in ini_all _ (List.mem_of_getElem? (i := 3) rfl)⟩
  | 2, _ => exact ⟨lwB_in ini_all _ (List.mem_of_getElem? (i := 4) rfl), lwB_in ini_all _ (List.mem_of_getElem? (i := 5) rfl)⟩
  | 3, _ => exact ⟨lwB_in ini_all _ (List.mem_of_getElem? (i := 6) rfl), lwB_in ini_all _ (List.mem_of_getElem? (i := 7) rfl)⟩
  | 4, _ => exact ⟨lwB_in ini_all _ (List.mem_of_getElem? (i := 8) rfl), lwB_in ini_all _ (List.mem_of_getElem? (i := 9) rfl)⟩
  | 5, _ => exact ⟨lwB_in ini_all _ (List.mem_of_getElem? (i := 10) rfl), lwB_in ini_all _ (List.mem_of_getElem? (i := 11) rfl)⟩
  | 6, _ => exact ⟨lwB_in ini_all _ (List.mem_of_getElem? (i := 12) rfl), lwB_in ini_all _ (List.mem_of_getElem? (i := 13) rfl)⟩
  | 7, _ => exact ⟨lwB_in ini_all _ (List.mem_of_getElem? (i := 14) rfl), lwB_in ini_all _ (List.mem_of_getElem? (i := 15) rfl)⟩
  | 8, _ => exact ⟨lwB_in ini_all _ (List.mem_of_getElem? (i := 16) rfl), lwB_in ini_all _ (List.mem_of_getElem? (i := 17) rfl)⟩
  | 9, _ => exact ⟨lwB_in ini_all _ (List.mem_of_getElem? (i := 18) rfl), lwB_in ini_all _ (List.mem_of_getElem? (i := 19) rfl)⟩
  | 10, _ => exact ⟨lwB_in ini_all _ (List.mem_of_getElem? (i := 20) rfl), lwB_in ini_all _ (List.mem_of_getElem? (i := 21) rfl)⟩
  | 11, _ => exact ⟨lwB_in ini_all _ (List.mem_of_getElem? (i := 22) rfl), lwB_in ini_all _ (List.mem_of_getElem? (i := 23) rfl)⟩
  | 12, _ => exact ⟨lwB_in ini_all _ (List.mem_of_getElem? (i := 24) rfl), lwB_in ini_all _ (List.mem_of_getElem? (i := 25) rfl)⟩
  | q + 13, h => exact absurd h (by omega)
set_option maxRecDepth 100000 in
theorem FS7 : lwB [.arrayClass .byte, .arrayClass .long, .arrayClass .int, .arrayClass .boolean, .arrayClass .double] [(1, 70), (1, 114), (1, 115), (2, 135), (9, 65)] = true := by decide +kernel
set_option maxRecDepth 100000 in
theorem FS8 : lwB [.native arraycopyName, .static arraycopyName, .initialized "java/lang/System", .native ⟨"java/lang/Double", "doubleToRawLongBits", "(D)J"⟩, .static ⟨"java/lang/Double", "doubleToRawLongBits", "(D)J"⟩, .native ⟨"java/lang/Double", "longBitsToDouble", "(J)D"⟩, .static ⟨"java/lang/Double", "longBitsToDouble", "(J)D"⟩, .initialized "java/lang/Double", .static Lib.Math.max.name, .code Lib.Math.max.name Lib.Math.max.code 2 (some .int), .static Lib.Math.min.name, .code Lib.Math.min.name Lib.Math.min.code 2 (some .int), .static Lib.MathLoose.max_long.x, .code Lib.MathLoose.max_long.x Lib.MathLoose.max_long.code 4 (some .long), .static Lib.MathLoose.min_long.x, .code Lib.MathLoose.min_long.x Lib.MathLoose.min_long.code 4 (some .long), .static Lib.MathLoose.abs_long.x, .code Lib.MathLoose.abs_long.x Lib.MathLoose.abs_long.code 2 (some .long), .initialized "java/lang/Math", .instanceMethod Lib.objectInit, .code Lib.objectInit ⟨#[0xb1]⟩ 1 none] [(5, 219), (5, 218), (1, 22), (11, 235), (11, 234), (12, 11), (12, 10), (1, 24), (3, 160), (3, 161), (3, 163), (3, 164), (7, 51), (7, 52), (4, 221), (4, 222), (4, 210), (4, 211), (1, 17), (1, 31), (1, 32)] = true := by decide +kernel
theorem gw_fieldLink (a : String) (i : Nat) (b n d : String) : goodWord (.fieldLink a i b n d) = true := rfl
theorem gw_methodLink (a : String) (i : Nat) (x : MethodName) : goodWord (.methodLink a i x) = true := rfl
theorem gw_classLink (a : String) (i : Nat) (b : String) : goodWord (.classLink a i b) = true := rfl
theorem gw_constant (a : String) (i : Nat) (b : Int32) : goodWord (.constant a i b) = true := rfl
theorem gw_constantL (a : String) (i : Nat) (b : Int64) : goodWord (.constantLong a i b) = true := rfl
theorem gw_constantD (a : String) (i : Nat) (b : UInt64) : goodWord (.constantDouble a i b) = true := rfl
theorem gw_code (y : MethodName) (b : ByteArray) (n : Nat) (r : Option FieldType) : goodWord (.code y b n r) = true := rfl
theorem gw_init (a : String) : goodWord (.initialized a) = true := rfl
theorem gw_inst (y : MethodName) : goodWord (.instanceMethod y) = true := rfl
theorem gw_stat (y : MethodName) : goodWord (.static y) = true := rfl
theorem gw_sel (a : String) (x y : MethodName) : goodWord (.selects a x y) = true := rfl
theorem put_ok {vF : Value} {ad : Int → Nat} {al : Int → Prop} (hvF : vF = .null ∨ ∃ a, vF = .ref a) {t : Nat} {ft : FieldType} {x : Int} (ho : ofTy t ft = true) (hf : fitI t x) (hr : rng al (tg t) x) : narrow ft (cv vF ad (tg t) x) = cv vF ad (tg t) x ∧ fits ft (cv vF ad (tg t) x) = true := by
  have h3 : ∀ ft : FieldType, (∃ C, ft = .object C) ∨ (∃ C, ft = .array C) → narrow ft (cv vF ad 3 x) = cv vF ad 3 x ∧ fits ft (cv vF ad 3 x) = true := by
    intro ft hft
    rcases cv_3 (ad := ad) hvF (x := x) with e | ⟨a, e⟩ <;> (have e : cv vF ad 3 x = _ := e; rw [e]; rcases hft with ⟨C, rfl⟩ | ⟨C, rfl⟩ <;> exact ⟨rfl, rfl⟩)
  match t, ft, ho, hf, hr with
  | 0, .int, _, _, _ => exact ⟨rfl, rfl⟩
  | 1, .long, _, _, _ => exact ⟨rfl, rfl⟩
  | 2, .double, _, _, _ => exact ⟨rfl, rfl⟩
  | 3, .object C, _, _, _ => exact h3 _ (Or.inl ⟨C, rfl⟩)
  | 3, .array C, _, _, _ => exact h3 _ (Or.inr ⟨C, rfl⟩)
  | 4, .boolean, _, hf, _ =>
    have hf : 0 ≤ x ∧ x ≤ 1 := hf
    rcases (show x = 0 ∨ x = 1 by omega) with rfl | rfl
    · show narrow .boolean (.int (Int32.ofInt 0)) = .int (Int32.ofInt 0) ∧ fits .boolean (.int (Int32.ofInt 0)) = true
      decide
    · show narrow .boolean (.int (Int32.ofInt 1)) = .int (Int32.ofInt 1) ∧ fits .boolean (.int (Int32.ofInt 1)) = true
      decide
  | 5, .char, _, hf, _ =>
    have hf : 0 ≤ x ∧ x ≤ 65535 := hf
    obtain ⟨n, rfl⟩ := Int.eq_ofNat_of_zero_le hf.1
    have e : cv vF ad (tg 5) (n : Int) = .int (nI n) := congrArg Value.int Int32.ofInt_eq_ofNat
    have := pk_charN (q := n) (by omega)
    rw [e]; exact this
  | 6, .byte, _, hf, _ =>
    have hf : -128 ≤ x ∧ x ≤ 127 := hf
    have e : (Int32.ofInt x).toInt8.toInt32 = Int32.ofInt x := by
      rw [i2bE]
      congr 1
      unfold w8; omega
    refine ⟨congrArg Value.int e, ?_⟩
    have := pk_fb (Int32.ofInt x)
    rw [e] at this
    exact this
theorem dv_ok {vF : Value} {ad : Int → Nat} {t : Nat} {ft : FieldType} (ho : ofTy t ft = true) : defaultValue ft = cv vF ad (tg t) 0 := by
  match t, ft, ho with
  | 0, .int, _ => rfl
  | 1, .long, _ => rfl
  | 2, .double, _ => rfl
  | 3, .object C, _ => rfl
  | 3, .array C, _ => rfl
  | 4, .boolean, _ => rfl
  | 5, .char, _ => rfl
  | 6, .byte, _ => rfl
theorem rng0 {al : Int → Prop} (t : Nat) : rng al (tg t) 0 := by
  match t with
  | 0 => exact ⟨by decide, by decide⟩
  | 1 => exact ⟨by decide, by decide⟩
  | 2 => exact ⟨by decide, by decide⟩
  | 3 => exact Or.inl rfl
  | t + 4 => exact ⟨by decide, by decide⟩
