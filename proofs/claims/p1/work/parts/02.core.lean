/-! THE ABSTRACT MACHINE. A value is a kind (0 int, 1 long, 2 double as its bits, 3 reference) and a whole number; a heap gives each object and place a number (place -1 of an array: its length). An object's number is 64 * its serial number + its kind. -/
abbrev HV : Type := Int → Int → Int
abbrev AV : Type := Nat × Int
def hset (h : HV) (o i v : Int) : HV := fun a b => if a = o ∧ b = i then v else h a b
def w32 (x : Int) : Int := (x + 2147483648) % 4294967296 - 2147483648
def w64 (x : Int) : Int := (x + 9223372036854775808) % 18446744073709551616 - 9223372036854775808
def w8 (x : Int) : Int := (x + 128) % 256 - 128
def i_and (a b : Int) : Int := (Int32.ofInt a &&& Int32.ofInt b).toInt
def i_or (a b : Int) : Int := (Int32.ofInt a ||| Int32.ofInt b).toInt
def i_xor (a b : Int) : Int := (Int32.ofInt a ^^^ Int32.ofInt b).toInt
def i_shl (a b : Int) : Int := (Int32.ofInt a <<< (Int32.ofInt b &&& 31)).toInt
def i_shr (a b : Int) : Int := (Int32.ofInt a >>> (Int32.ofInt b &&& 31)).toInt
def i_ushr (a b : Int) : Int := ((Int32.ofInt a).toUInt32 >>> ((Int32.ofInt b).toUInt32 &&& Int32.toUInt32 31)).toInt32.toInt
def l_and (a b : Int) : Int := (Int64.ofInt a &&& Int64.ofInt b).toInt
def l_or (a b : Int) : Int := (Int64.ofInt a ||| Int64.ofInt b).toInt
def l_xor (a b : Int) : Int := (Int64.ofInt a ^^^ Int64.ofInt b).toInt
def l_shl (a b : Int) : Int := (Int64.ofInt a <<< ((Int32.ofInt b).toInt64 &&& 63)).toInt
def l_shr (a b : Int) : Int := (Int64.ofInt a >>> ((Int32.ofInt b).toInt64 &&& 63)).toInt
def l_ushr (a b : Int) : Int := ((Int64.ofInt a).toUInt64 >>> ((Int32.ofInt b).toInt64.toUInt64 &&& Int64.toUInt64 63)).toInt64.toInt
def l_cmp (a b : Int) : Int := if a > b then 1 else if a = b then 0 else -1
def d_U (x : Int) : UInt64 := (Int64.ofInt x).toUInt64
def d_I (u : UInt64) : Int := u.toInt64.toInt
def d_cmp (op : CmpOp) (a b : Int) : Int := (Op.cmpValue (FP.dcmp (d_U a) (d_U b)) op).toInt
def cnd (c : ClassFile.Cond) (x y : Int) : Prop := match c with
  | .eq => x = y
  | .ne => x ≠ y
  | .lt => x < y
  | .ge => y ≤ x
  | .gt => y < x
  | .le => x ≤ y
def akd (t : ArrayType) : Int := match t with
  | .int => 32
  | .long => 33
  | .double => 34
  | .byte => 35
  | .boolean => 36
  | _ => 45
/-- a new object or array: its kind, its length (-1 for an object), its places -/
def alc (h : HV) (kd n sl : Int) : HV := fun a b =>
  if a = 64 * h 0 0 + kd then (if b = -1 then n else 0) else if a = 0 ∧ b = 0 then h 0 0 + 1 else if a = 0 ∧ b = 1 then h 0 1 + sl else h a b
/-- new long[n][k]: the outer array, then its rows -/
def alc2 (h : HV) (n k : Int) : HV := fun a b =>
  if a = 64 * h 0 0 + 37 then (if b = -1 then n else if 0 ≤ b ∧ b < n then 64 * (h 0 0 + 1 + b) + 33 else 0)
  else if a % 64 = 33 ∧ h 0 0 < a / 64 ∧ a / 64 ≤ h 0 0 + n then (if b = -1 then k else 0)
  else if a = 0 ∧ b = 0 then h 0 0 + 1 + n else if a = 0 ∧ b = 1 then h 0 1 + n + n * k else h a b
def acp (h : HV) (s sp d dp n : Int) : HV := fun a b => if a = d ∧ dp ≤ b ∧ b < dp + n then h s (sp + (b - dp)) else h a b
def rd (fz : Int → Int → Option Int) (h : HV) (o i : Int) : Int := match fz o i with
  | some v => v
  | none => h o i
def tg (ty : Nat) : Nat := match ty with
  | 1 => 1
  | 2 => 2
  | 3 => 3
  | _ => 0
/-- what may be put into a field of a type -/
def fitI (ty : Nat) (x : Int) : Prop := match ty with
  | 4 => 0 ≤ x ∧ x ≤ 1
  | 5 => 0 ≤ x ∧ x ≤ 65535
  | 6 => -128 ≤ x ∧ x ≤ 127
  | _ => True
def nun : AV := (9, 0)
def klp : Nat → AV → AV
  | 0, (1, _) => (9, 0)
  | 0, (2, _) => (9, 0)
  | _, a => a
def stl : List AV → Nat → AV → List AV
  | [], _, _ => []
  | _ :: r, 0, v => v :: r
  | a :: r, n + 1, v => klp n a :: stl r n v
def stl2 : List AV → Nat → AV → List AV
  | [], _, _ => []
  | _ :: _ :: r, 0, v => v :: (9, 0) :: r
  | _ :: [], 0, _ => []
  | a :: r, n + 1, v => klp n a :: stl2 r n v
def entL : List AV → List AV
  | [] => []
  | (1, x) :: r => (1, x) :: (9, 0) :: entL r
  | (2, x) :: r => (2, x) :: (9, 0) :: entL r
  | (k, x) :: r => (k, x) :: entL r
def popA : Nat → List AV → List AV → Option (List AV × List AV)
  | 0, acc, st => some (acc, st)
  | n + 1, acc, v :: st => popA n (v :: acc) st
  | _ + 1, _, [] => none
def sw {α : Type} (br : Prop → α → α → α) (J : Nat → List AV → List AV → HV → α) (x : Int) (d : Int) (ls st : List AV) (h : HV) : Int → List Int → α
  | _, [] => J d.toNat ls st h
  | lo, o :: os => br (x = lo) (J o.toNat ls st h) (sw br J x d ls st h (lo + 1) os)
def psh (rt : Nat) (x : Int) (r : List AV) : List AV := match rt with
  | 4 => r
  | t => (t, x) :: r
def rcv (c : Nat) (as : List AV) : Prop := match c, as with
  | 0, _ => True
  | c + 1, (3, o) :: _ => o ≠ 0 ∧ o % 64 = c
  | _, _ => False
def wds : List AV → Nat
  | [] => 0
  | (1, _) :: r => wds r + 2
  | (2, _) :: r => wds r + 2
  | _ :: r => wds r + 1
def bst (o x : Int) : Int := if o % 64 = 35 then w8 x else x % 2
/-- ONE INSTRUCTION, the same for runs (α an outcome) and for what they need (α a proposition): chk what must hold, br a branch, F stuck, C a call, J a jump to a block, R the end, K what comes behind -/
def xs {α : Type} (chk : Prop → α → α) (br : Prop → α → α → α) (F : α) (fz : Int → Int → Option Int) (C : Nat → List AV → HV → (Int → HV → α) → α) (J : Nat → List AV → List AV → HV → α) (R : Nat → Int → HV → α) (K : List AV → List AV → HV → α) (i : Instr) (ls st : List AV) (h : HV) : α :=
  match i, st with
  | .iconst v, st => K ls ((0, v) :: st) h
  | .bipush v, st => K ls ((1, v) :: st) h
  | .sipush v, st => K ls ((2, v) :: st) h
  | .jsr v, st => K ls ((3, v) :: st) h
  | .iload n, st => match ls.getD n nun with
    | (0, x) => K ls ((0, x) :: st) h
    | _ => F
  | .lload n, st => match ls.getD n nun with
    | (1, x) => K ls ((1, x) :: st) h
    | _ => F
  | .dload n, st => match ls.getD n nun with
    | (2, x) => K ls ((2, x) :: st) h
    | _ => F
  | .aload n, st => match ls.getD n nun with
    | (3, x) => K ls ((3, x) :: st) h
    | _ => F
  | .istore n, (0, x) :: r => K (stl ls n (0, x)) r h
  | .astore n, (3, x) :: r => K (stl ls n (3, x)) r h
  | .lstore n, (1, x) :: r => K (stl2 ls n (1, x)) r h
  | .dstore n, (2, x) :: r => K (stl2 ls n (2, x)) r h
  | .iinc n v, st => match ls.getD n nun with
    | (0, x) => K (stl ls n (0, w32 (x + v))) st h
    | _ => F
  | .dup, (0, x) :: r => K ls ((0, x) :: (0, x) :: r) h
  | .dup, (3, x) :: r => K ls ((3, x) :: (3, x) :: r) h
  | .dup2, (1, x) :: r => K ls ((1, x) :: (1, x) :: r) h
  | .dup2, (0, x) :: (3, y) :: r => K ls ((0, x) :: (3, y) :: (0, x) :: (3, y) :: r) h
  | .pop, (0, _) :: r => K ls r h
  | .pop, (3, _) :: r => K ls r h
  | .iadd, (0, y) :: (0, x) :: r => K ls ((0, w32 (x + y)) :: r) h
  | .isub, (0, y) :: (0, x) :: r => K ls ((0, w32 (x - y)) :: r) h
  | .imul, (0, y) :: (0, x) :: r => K ls ((0, w32 (x * y)) :: r) h
  | .idiv, (0, y) :: (0, x) :: r => chk (y ≠ 0) (K ls ((0, w32 (Int.tdiv x y)) :: r) h)
  | .irem, (0, y) :: (0, x) :: r => chk (y ≠ 0) (K ls ((0, Int.tmod x y) :: r) h)
  | .ineg, (0, x) :: r => K ls ((0, w32 (-x)) :: r) h
  | .iand, (0, y) :: (0, x) :: r => K ls ((0, i_and x y) :: r) h
  | .ior, (0, y) :: (0, x) :: r => K ls ((0, i_or x y) :: r) h
  | .ixor, (0, y) :: (0, x) :: r => K ls ((0, i_xor x y) :: r) h
  | .ishl, (0, y) :: (0, x) :: r => K ls ((0, i_shl x y) :: r) h
  | .ishr, (0, y) :: (0, x) :: r => K ls ((0, i_shr x y) :: r) h
  | .iushr, (0, y) :: (0, x) :: r => K ls ((0, i_ushr x y) :: r) h
  | .ladd, (1, y) :: (1, x) :: r => K ls ((1, w64 (x + y)) :: r) h
  | .lsub, (1, y) :: (1, x) :: r => K ls ((1, w64 (x - y)) :: r) h
  | .lmul, (1, y) :: (1, x) :: r => K ls ((1, w64 (x * y)) :: r) h
  | .ldiv, (1, y) :: (1, x) :: r => chk (y ≠ 0) (K ls ((1, w64 (Int.tdiv x y)) :: r) h)
  | .lrem, (1, y) :: (1, x) :: r => chk (y ≠ 0) (K ls ((1, Int.tmod x y) :: r) h)
  | .lneg, (1, x) :: r => K ls ((1, w64 (-x)) :: r) h
  | .land, (1, y) :: (1, x) :: r => K ls ((1, l_and x y) :: r) h
  | .lor, (1, y) :: (1, x) :: r => K ls ((1, l_or x y) :: r) h
  | .lxor, (1, y) :: (1, x) :: r => K ls ((1, l_xor x y) :: r) h
  | .lshl, (0, y) :: (1, x) :: r => K ls ((1, l_shl x y) :: r) h
  | .lshr, (0, y) :: (1, x) :: r => K ls ((1, l_shr x y) :: r) h
  | .lushr, (0, y) :: (1, x) :: r => K ls ((1, l_ushr x y) :: r) h
  | .lcmp, (1, y) :: (1, x) :: r => K ls ((0, l_cmp x y) :: r) h
  | .i2l, (0, x) :: r => K ls ((1, x) :: r) h
  | .l2i, (1, x) :: r => K ls ((0, w32 x) :: r) h
  | .i2b, (0, x) :: r => K ls ((0, w8 x) :: r) h
  | .i2c, (0, x) :: r => K ls ((0, x % 65536) :: r) h
  | .l2d, (1, x) :: r => K ls ((2, d_I (FP.l2d (Int64.ofInt x))) :: r) h
  | .d2i, (2, x) :: r => K ls ((0, (FP.d2i (d_U x)).toInt) :: r) h
  | .dneg, (2, x) :: r => K ls ((2, d_I (FP.dneg (d_U x))) :: r) h
  | .dadd, (2, y) :: (2, x) :: r => chk (vf_n64 (FP.dadd (d_U x) (d_U y))) (K ls ((2, d_I (FP.dadd (d_U x) (d_U y))) :: r) h)
  | .dsub, (2, y) :: (2, x) :: r => chk (vf_n64 (FP.dsub (d_U x) (d_U y))) (K ls ((2, d_I (FP.dsub (d_U x) (d_U y))) :: r) h)
  | .dmul, (2, y) :: (2, x) :: r => chk (vf_n64 (FP.dmul (d_U x) (d_U y))) (K ls ((2, d_I (FP.dmul (d_U x) (d_U y))) :: r) h)
  | .ddiv, (2, y) :: (2, x) :: r => chk (vf_n64 (FP.ddiv (d_U x) (d_U y))) (K ls ((2, d_I (FP.ddiv (d_U x) (d_U y))) :: r) h)
  | .drem, (2, y) :: (2, x) :: r => chk (vf_n64 (FP.drem (d_U x) (d_U y))) (K ls ((2, d_I (FP.drem (d_U x) (d_U y))) :: r) h)
  | .dcmp op, (2, y) :: (2, x) :: r => K ls ((0, d_cmp op x y) :: r) h
  | .d2l, (2, x) :: r => chk (wds r ≤ 8) (K ls ((1, x) :: r) h)
  | .f2d, (1, x) :: r => chk (vn_snl2d (Int64.ofInt x) = false ∧ wds r ≤ 8) (K ls ((2, x) :: r) h)
  | .ifCond c t, (0, x) :: r => br (cnd c x 0) (J t.toNat ls r h) (K ls r h)
  | .if_icmp c t, (0, y) :: (0, x) :: r => br (cnd c x y) (J t.toNat ls r h) (K ls r h)
  | .goto t, st => J t.toNat ls st h
  | .tableswitch d lo _ offs, (0, x) :: r => sw br J x d ls r h lo offs.toList
  | .ireturn, (0, x) :: [] => R 0 x h
  | .lreturn, (1, x) :: [] => R 1 x h
  | .dreturn, (2, x) :: [] => R 2 x h
  | .areturn, (3, x) :: [] => R 3 x h
  | .freturn, (0, x) :: [] => R 4 (x % 2) h
  | .fneg, (0, x) :: [] => R 5 (x % 65536) h
  | .fadd, (0, x) :: [] => R 6 (w8 x) h
  | .return_, [] => R 7 0 h
  | .ifnull g, (3, o) :: r => chk (o ≠ 0 ∧ o % 64 = g / 1024) (K ls ((tg (g % 8).toNat, h o (g / 8 % 128)) :: r) h)
  | .ifnonnull g, (3, o) :: r => chk (o ≠ 0 ∧ o % 64 = g / 1024) (K ls ((tg (g % 8).toNat, rd fz h o (g / 8 % 128)) :: r) h)
  | .jsr_w g, (t, v) :: (3, o) :: r => chk (o ≠ 0 ∧ o % 64 = g / 1024 ∧ t = tg (g % 8).toNat ∧ fitI (g % 8).toNat v) (K ls r (hset h o (g / 8 % 128) v))
  | .if_acmp _ g, (t, v) :: (3, o) :: r => chk (o ≠ 0 ∧ o % 64 = g / 1024 ∧ t = tg (g % 8).toNat ∧ fitI (g % 8).toNat v ∧ fz o (g / 8 % 128) = none) (K ls r (hset h o (g / 8 % 128) v))
  | .goto_w g, st => chk (0 ≤ g ∧ ∀ i, fz (64 * h 0 0 + g / 128) i = none) (K ls ((3, 64 * h 0 0 + g / 128) :: st) (alc h (g / 128) 0 (g % 128)))
  | .newarray t, (0, n) :: r => chk (0 ≤ n ∧ n ≤ 67000000 ∧ ∀ i, fz (64 * h 0 0 + akd t) i = none) (K ls ((3, 64 * h 0 0 + akd t) :: r) (alc h (akd t) n n))
  | .anewarray _, (0, n) :: r => chk (0 ≤ n ∧ n ≤ 67000000 ∧ ∀ i, fz (64 * h 0 0 + 38) i = none) (K ls ((3, 64 * h 0 0 + 38) :: r) (alc h 38 n n))
  | .multianewarray _ _, (0, k) :: (0, n) :: r => chk (0 ≤ n ∧ n ≤ 1000 ∧ 0 ≤ k ∧ k ≤ 1000 ∧ ∀ o i, h 0 0 ≤ o / 64 → fz o i = none) (K ls ((3, 64 * h 0 0 + 37) :: r) (alc2 h n k))
  | .arraylength, (3, o) :: r => chk (32 ≤ o % 64 ∧ o % 64 ≤ 51) (K ls ((0, rd fz h o (-1)) :: r) h)
  | .iaload, (0, i) :: (3, o) :: r => chk ((o % 64 = 32 ∨ o % 64 = 50) ∧ 0 ≤ i ∧ i < rd fz h o (-1)) (K ls ((0, h o i) :: r) h)
  | .laload, (0, i) :: (3, o) :: r => chk (o % 64 = 33 ∧ 0 ≤ i ∧ i < rd fz h o (-1)) (K ls ((1, h o i) :: r) h)
  | .daload, (0, i) :: (3, o) :: r => chk (o % 64 = 34 ∧ 0 ≤ i ∧ i < rd fz h o (-1)) (K ls ((2, h o i) :: r) h)
  | .baload, (0, i) :: (3, o) :: r => chk ((o % 64 = 35 ∨ o % 64 = 36 ∨ o % 64 = 51) ∧ 0 ≤ i ∧ i < rd fz h o (-1)) (K ls ((0, h o i) :: r) h)
  | .aaload, (0, i) :: (3, o) :: r => chk ((o % 64 = 37 ∨ o % 64 = 38) ∧ 0 ≤ i ∧ i < rd fz h o (-1)) (K ls ((3, rd fz h o i) :: r) h)
  | .iastore, (0, x) :: (0, i) :: (3, o) :: r => chk (o % 64 = 32 ∧ 0 ≤ i ∧ i < rd fz h o (-1)) (K ls r (hset h o i x))
  | .lastore, (1, x) :: (0, i) :: (3, o) :: r => chk (o % 64 = 33 ∧ 0 ≤ i ∧ i < rd fz h o (-1)) (K ls r (hset h o i x))
  | .dastore, (2, x) :: (0, i) :: (3, o) :: r => chk (o % 64 = 34 ∧ 0 ≤ i ∧ i < rd fz h o (-1)) (K ls r (hset h o i x))
  | .bastore, (0, x) :: (0, i) :: (3, o) :: r => chk ((o % 64 = 35 ∨ o % 64 = 36) ∧ 0 ≤ i ∧ i < rd fz h o (-1)) (K ls r (hset h o i (bst o x)))
  | .aastore, (3, x) :: (0, i) :: (3, o) :: r => chk (o % 64 = 38 ∧ x % 64 = 13 ∧ 0 ≤ i ∧ i < rd fz h o (-1) ∧ fz o i = none) (K ls r (hset h o i x))
  | .monitorenter, (0, n) :: (0, dp) :: (3, d) :: (0, sp) :: (3, s) :: r => chk (wds r ≤ 8 ∧ (s % 64 = 32 ∨ s % 64 = 33) ∧ d % 64 = s % 64 ∧ s ≠ d ∧ 0 ≤ sp ∧ 0 ≤ dp ∧ 0 ≤ n ∧ sp + n ≤ rd fz h s (-1) ∧ dp + n ≤ rd fz h d (-1)) (K ls r (acp h s sp d dp n))
  | .dup_x1, (0, y) :: (0, x) :: r => chk (wds r ≤ 8) (K ls ((0, max x y) :: r) h)
  | .dup_x2, (0, y) :: (0, x) :: r => chk (wds r ≤ 8) (K ls ((0, min x y) :: r) h)
  | .dup2_x1, (1, y) :: (1, x) :: r => chk (wds r ≤ 8) (K ls ((1, max x y) :: r) h)
  | .dup2_x2, (1, y) :: (1, x) :: r => chk (wds r ≤ 8) (K ls ((1, min x y) :: r) h)
  | .swap, (1, x) :: r => chk (wds r ≤ 8) (K ls ((1, max x (w64 (-x))) :: r) h)
  | .monitorexit, (3, o) :: r => chk (o ≠ 0 ∧ o ≠ 62 ∧ wds r ≤ 8) (K ls r h)
  | .invokeinterface mi n, st => match popA n [] st with
    | some (as, r) => chk (rcv (mi / 8 % 32) as ∧ wds r ≤ 8) (C (mi / 256) as h (fun x h' => K ls (psh (mi % 8) x r) h'))
    | none => F
  | _, _ => F
def xl {α : Type} (chk : Prop → α → α) (br : Prop → α → α → α) (F : α) (fz : Int → Int → Option Int) (C : Nat → List AV → HV → (Int → HV → α) → α) (J : Nat → List AV → List AV → HV → α) (R : Nat → Int → HV → α) : List Instr → List AV → List AV → HV → α
  | [], _, _, _ => F
  | i :: is, ls, st, h => xs chk br F fz C J R (xl chk br F fz C J R is) i ls st h
