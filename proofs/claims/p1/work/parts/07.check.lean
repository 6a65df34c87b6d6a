/-! THE NUMBERED INSTRUCTIONS ARE THE BYTES' OWN: checked by the kernel -/
def pcs (k b : Nat) : Nat := ((hk k)[b]?.map (·.1)).getD 0
def own_ (k : Nat) : String := (yk k).cls
def clsNo (s : String) : Nat := (List.range 14).foldl (fun a i => if cR i = s then i else a) 99
def r32 (v : Int) : Bool := decide (-2147483648 ≤ v ∧ v ≤ 2147483647)
def r64 (v : Int) : Bool := decide (-9223372036854775808 ≤ v ∧ v ≤ 9223372036854775807)
def ofTy (ty : Nat) (t : FieldType) : Bool := match ty, t with
  | 0, .int => true
  | 1, .long => true
  | 2, .double => true
  | 3, .object _ => true
  | 3, .array _ => true
  | 4, .boolean => true
  | 5, .char => true
  | 6, .byte => true
  | _, _ => false
/-- field g of class g / 1024, read or written in method k by the pool's number x -/
def fldOK (k x : Nat) (h : Nat × Nat) (g : Int) (fin : Bool) : Bool :=
  let c := (g / 1024).toNat
  let j := (g / 8 % 128).toNat
  let F := cF c j
  decide (0 ≤ g) && decide (c < 13) && decide (j < cN c) && decide (fT c j = (g % 8).toNat) && (F.2.2.2 == fin) && decide (wrd h = some (.fieldLink (own_ k) x F.1 F.2.1 F.2.2.1))
def callOK (k x m : Nat) (h : Nat × Nat) (n rt : Nat) : Bool :=
  decide (m < 445) && decide (0 < m) && decide (n = na m) && decide (wrd h = some (.methodLink (own_ k) x (yk m))) && decide (rt = (match rn m with
    | 7 => 4
    | 1 => 1
    | 2 => 2
    | 3 => 3
    | _ => 0))
def nestOK (k x m : Nat) (h : Nat × Nat) (n rt : Nat) : Bool :=
  decide (m < 445) && decide (0 < m) && decide (n = na m) && decide (own_ k = "SchoolHouseModel") && decide (x = 15) && decide (yk m = ⟨"SchoolHouseModel$Text", "<init>", "()V"⟩) && decide (rt = 4) && decide (rn m = 7)
def simple (i : Instr) : Bool := match i with
  | .dup | .dup2 | .pop | .iadd | .isub | .imul | .idiv | .irem | .ineg | .iand | .ior | .ixor | .ishl | .ishr | .iushr | .ladd | .lsub | .lmul | .ldiv | .lrem | .lneg | .land | .lor | .lxor | .lshl | .lshr | .lushr | .lcmp | .i2l | .l2i | .i2b | .i2c | .l2d | .d2i | .dneg | .dadd | .dsub | .dmul | .ddiv | .drem | .arraylength | .iaload | .laload | .daload | .baload | .aaload | .iastore | .lastore | .dastore | .bastore | .aastore => true
  | .dcmp _ => true
  | _ => false
def c_iconst (k pc : Nat) (h : Nat × Nat) (v : Int) (i : Instr) (len : Nat) : Bool := match i with
  | .iconst n => decide (len = 1) && decide (v = n) && decide (-1 ≤ n ∧ n ≤ 5)
  | .bipush n => decide (len = 2) && decide (v = n) && decide (-128 ≤ n ∧ n ≤ 127)
  | .sipush n => decide (len = 3) && decide (v = n) && decide (-32768 ≤ n ∧ n ≤ 32767)
  | .ldc x => decide (len = 2) && r32 v && decide (wrd h = some (.constant (own_ k) x (Int32.ofInt v)))
  | .ldc_w x => decide (len = 3) && r32 v && decide (wrd h = some (.constant (own_ k) x (Int32.ofInt v)))
  | .getstatic x => decide (len = 3) && decide (v = 1) && decide (wrd h = some (.fieldLink (own_ k) x "java/lang/String" "COMPACT_STRINGS" "Z"))
  | _ => false
def c_jsr (k pc : Nat) (h : Nat × Nat) (v : Int) (i : Instr) (len : Nat) : Bool := match i with
  | .getstatic x => decide (len = 3) && decide (v = 62) && decide (wrd h = some (.fieldLink (own_ k) x "jdk/internal/util/Preconditions" "SIOOBE_FORMATTER" "Ljava/util/function/BiFunction;"))
  | .ldc x => decide (len = 2) && decide (v < 0) && decide ((own_ k, x, ((-v - 51) / 128).toNat) ∈ SRL) && decide (v = -64 * (2 * (((-v - 51) / 128).toNat : Int) + 1) + 13)
  | .ldc_w x => decide (len = 3) && decide (v < 0) && decide ((own_ k, x, ((-v - 51) / 128).toNat) ∈ SRL) && decide (v = -64 * (2 * (((-v - 51) / 128).toNat : Int) + 1) + 13)
  | _ => false
def c_bipush (k pc : Nat) (h : Nat × Nat) (v : Int) (i : Instr) (len : Nat) : Bool := match i with
  | .lconst n => decide (len = 1) && decide (v = n.val)
  | .ldc2_w x => decide (len = 3) && r64 v && decide (wrd h = some (.constantLong (own_ k) x (Int64.ofInt v)))
  | _ => false
def c_sipush (k pc : Nat) (h : Nat × Nat) (v : Int) (i : Instr) (len : Nat) : Bool := match i with
  | .dconst n => decide (len = 1) && decide (n = 0) && decide (v = 0)
  | .ldc2_w x => decide (len = 3) && r64 v && decide (wrd h = some (.constantDouble (own_ k) x (d_U v)))
  | _ => false
def c_iload (k pc : Nat) (h : Nat × Nat) (a : Nat) (i : Instr) (len : Nat) : Bool := match i with
  | .iload b => decide (len = 2) && decide (a = b)
  | .iload_n b => decide (len = 1) && decide (b.val = a)
  | _ => false
def c_lload (k pc : Nat) (h : Nat × Nat) (a : Nat) (i : Instr) (len : Nat) : Bool := match i with
  | .lload b => decide (len = 2) && decide (a = b)
  | .lload_n b => decide (len = 1) && decide (b.val = a)
  | _ => false
def c_dload (k pc : Nat) (h : Nat × Nat) (a : Nat) (i : Instr) (len : Nat) : Bool := match i with
  | .dload b => decide (len = 2) && decide (a = b)
  | .dload_n b => decide (len = 1) && decide (b.val = a)
  | _ => false
def c_aload (k pc : Nat) (h : Nat × Nat) (a : Nat) (i : Instr) (len : Nat) : Bool := match i with
  | .aload b => decide (len = 2) && decide (a = b)
  | .aload_n b => decide (len = 1) && decide (b.val = a)
  | _ => false
def c_istore (k pc : Nat) (h : Nat × Nat) (a : Nat) (i : Instr) (len : Nat) : Bool := match i with
  | .istore b => decide (len = 2) && decide (a = b) && decide (a < ml k)
  | .istore_n b => decide (len = 1) && decide (b.val = a) && decide (a < ml k)
  | _ => false
def c_lstore (k pc : Nat) (h : Nat × Nat) (a : Nat) (i : Instr) (len : Nat) : Bool := match i with
  | .lstore b => decide (len = 2) && decide (a = b) && decide (a + 1 < ml k)
  | .lstore_n b => decide (len = 1) && decide (b.val = a) && decide (a + 1 < ml k)
  | _ => false
def c_dstore (k pc : Nat) (h : Nat × Nat) (a : Nat) (i : Instr) (len : Nat) : Bool := match i with
  | .dstore b => decide (len = 2) && decide (a = b) && decide (a + 1 < ml k)
  | .dstore_n b => decide (len = 1) && decide (b.val = a) && decide (a + 1 < ml k)
  | _ => false
def c_astore (k pc : Nat) (h : Nat × Nat) (a : Nat) (i : Instr) (len : Nat) : Bool := match i with
  | .astore b => decide (len = 2) && decide (a = b) && decide (a < ml k)
  | .astore_n b => decide (len = 1) && decide (b.val = a) && decide (a < ml k)
  | _ => false
def c_iinc (k pc : Nat) (h : Nat × Nat) (a : Nat) (v : Int) (i : Instr) (len : Nat) : Bool := match i with
  | .iinc b w => decide (len = 3) && decide (a = b) && decide (v = w)
  | _ => false
def c_ifCond (k pc : Nat) (h : Nat × Nat) (c : ClassFile.Cond) (t : Int) (i : Instr) (len : Nat) : Bool := match i with
  | .ifCond c' off => decide (len = 3) && decide (c = c') && decide ((pc : Int) + off = (pcs k t.toNat : Int)) && decide (t.toNat < (hk k).length)
  | _ => false
def c_if_icmp (k pc : Nat) (h : Nat × Nat) (c : ClassFile.Cond) (t : Int) (i : Instr) (len : Nat) : Bool := match i with
  | .if_icmp c' off => decide (len = 3) && decide (c = c') && decide ((pc : Int) + off = (pcs k t.toNat : Int)) && decide (t.toNat < (hk k).length)
  | _ => false
def c_goto (k pc : Nat) (h : Nat × Nat) (t : Int) (i : Instr) (len : Nat) : Bool := match i with
  | .goto off => decide (len = 3) && decide ((pc : Int) + off = (pcs k t.toNat : Int)) && decide (t.toNat < (hk k).length)
  | _ => false
def c_tableswitch (k pc : Nat) (h : Nat × Nat) (d : Int) (lo : Int) (hi : Int) (os : Array Int) (i : Instr) (len : Nat) : Bool := match i with
  | .tableswitch d' lo' hi' os' => decide (lo = lo') && decide (hi = hi') && decide ((pc : Int) + d' = (pcs k d.toNat : Int)) && decide (os.toList.map (fun t => (pcs k t.toNat : Int)) = os'.toList.map (fun o => (pc : Int) + o)) && decide (hi + 1 = lo + os.size) && decide (d.toNat < (hk k).length) && os.toList.all (fun t => decide (t.toNat < (hk k).length))
  | _ => false
def c_ifnull (k pc : Nat) (h : Nat × Nat) (g : Int) (i : Instr) (len : Nat) : Bool := match i with
  | .getfield x => decide (len = 3) && fldOK k x h g false
  | _ => false
def c_ifnonnull (k pc : Nat) (h : Nat × Nat) (g : Int) (i : Instr) (len : Nat) : Bool := match i with
  | .getfield x => decide (len = 3) && (fldOK k x h g true || (decide (g = 13315) && decide (wrd h = some (.fieldLink (own_ k) x "java/lang/String" "value" "[B"))) || (decide (g = 13326) && decide (wrd h = some (.fieldLink (own_ k) x "java/lang/String" "coder" "B"))))
  | _ => false
def c_jsr_w (k pc : Nat) (h : Nat × Nat) (g : Int) (i : Instr) (len : Nat) : Bool := match i with
  | .putfield x => decide (len = 3) && fldOK k x h g false
  | _ => false
def c_if_acmp (k pc : Nat) (h : Nat × Nat) (g : Int) (i : Instr) (len : Nat) : Bool := match i with
  | .putfield x => decide (len = 3) && fldOK k x h g true && decide ((yk k).name = "<init>") && decide (own_ k = cR (g / 1024).toNat)
  | _ => false
def c_goto_w (k pc : Nat) (h : Nat × Nat) (g : Int) (i : Instr) (len : Nat) : Bool := match i with
  | .new x => decide (len = 3) && decide (0 ≤ g) && decide ((g / 128).toNat < 13) && decide ((cN (g / 128).toNat : Int) = g % 128) && decide (wrd h = some (.classLink (own_ k) x (cR (g / 128).toNat)))
  | _ => false
def c_newarray (k pc : Nat) (h : Nat × Nat) (t : ArrayType) (i : Instr) (len : Nat) : Bool := match i with
  | .newarray t' => decide (len = 2) && decide (t = t') && (decide (t = .int) || decide (t = .long) || decide (t = .double) || decide (t = .byte) || decide (t = .boolean))
  | _ => false
def c_anewarray (k pc : Nat) (h : Nat × Nat) (u0 : Nat) (i : Instr) (len : Nat) : Bool := match i with
  | .anewarray x => decide (len = 3) && decide (wrd h = some (.classLink (own_ k) x "java/lang/String"))
  | _ => false
def c_multianewarray (k pc : Nat) (h : Nat × Nat) (u0 : Nat) (u1 : Nat) (i : Instr) (len : Nat) : Bool := match i with
  | .multianewarray x y => decide (len = 4) && decide (y = 2) && decide (wrd h = some (.classLink (own_ k) x "[[J"))
  | _ => false
def c_d2l (k pc : Nat) (h : Nat × Nat) (i : Instr) (len : Nat) : Bool := match i with
  | .invokestatic x => decide (len = 3) && decide (wrd h = some (.methodLink (own_ k) x ⟨"java/lang/Double", "doubleToRawLongBits", "(D)J"⟩))
  | _ => false
def c_f2d (k pc : Nat) (h : Nat × Nat) (i : Instr) (len : Nat) : Bool := match i with
  | .invokestatic x => decide (len = 3) && decide (wrd h = some (.methodLink (own_ k) x ⟨"java/lang/Double", "longBitsToDouble", "(J)D"⟩))
  | _ => false
def c_monitorenter (k pc : Nat) (h : Nat × Nat) (i : Instr) (len : Nat) : Bool := match i with
  | .invokestatic x => decide (len = 3) && decide (wrd h = some (.methodLink (own_ k) x arraycopyName))
  | _ => false
def c_dup_x1 (k pc : Nat) (h : Nat × Nat) (i : Instr) (len : Nat) : Bool := match i with
  | .invokestatic x => decide (len = 3) && decide (wrd h = some (.methodLink (own_ k) x Lib.Math.max.name))
  | _ => false
def c_dup_x2 (k pc : Nat) (h : Nat × Nat) (i : Instr) (len : Nat) : Bool := match i with
  | .invokestatic x => decide (len = 3) && decide (wrd h = some (.methodLink (own_ k) x Lib.Math.min.name))
  | _ => false
def c_dup2_x1 (k pc : Nat) (h : Nat × Nat) (i : Instr) (len : Nat) : Bool := match i with
  | .invokestatic x => decide (len = 3) && decide (wrd h = some (.methodLink (own_ k) x Lib.MathLoose.max_long.x))
  | _ => false
def c_dup2_x2 (k pc : Nat) (h : Nat × Nat) (i : Instr) (len : Nat) : Bool := match i with
  | .invokestatic x => decide (len = 3) && decide (wrd h = some (.methodLink (own_ k) x Lib.MathLoose.min_long.x))
  | _ => false
def c_swap (k pc : Nat) (h : Nat × Nat) (i : Instr) (len : Nat) : Bool := match i with
  | .invokestatic x => decide (len = 3) && decide (wrd h = some (.methodLink (own_ k) x Lib.MathLoose.abs_long.x))
  | _ => false
def c_monitorexit (k pc : Nat) (h : Nat × Nat) (i : Instr) (len : Nat) : Bool := match i with
  | .invokespecial x => decide (len = 3) && decide (wrd h = some (.methodLink (own_ k) x Lib.objectInit))
  | _ => false
def c_invokeinterface (k pc : Nat) (h : Nat × Nat) (mi : Nat) (n : Nat) (i : Instr) (len : Nat) : Bool := match i with
  | .invokevirtual x => decide (len = 3) && callOK k x (mi / 256) h n (mi % 8) && !sk (mi / 256) && decide ((yk (mi / 256)).name ≠ "<init>") && decide (mi / 8 % 32 ≤ 14) && decide (1 ≤ mi / 8 % 32) && decide (cR (mi / 8 % 32 - 1) = (yk (mi / 256)).cls)
  | .invokespecial x => decide (len = 3) && (callOK k x (mi / 256) h n (mi % 8) || nestOK k x (mi / 256) h n (mi % 8)) && !sk (mi / 256) && decide ((yk (mi / 256)).name = "<init>") && decide (rn (mi / 256) = 7) && decide (mi / 8 % 32 ≤ 14) && decide (1 ≤ mi / 8 % 32) && decide (cR (mi / 8 % 32 - 1) = (yk (mi / 256)).cls)
  | .invokestatic x => decide (len = 3) && callOK k x (mi / 256) h n (mi % 8) && sk (mi / 256) && decide (mi / 8 % 32 = 0)
  | _ => false
def c_ireturn (k pc : Nat) (h : Nat × Nat) (i : Instr) (len : Nat) : Bool := match i with
  | .ireturn => decide (len = 1) && decide (rn k = 0)
  | _ => false
def c_freturn (k pc : Nat) (h : Nat × Nat) (i : Instr) (len : Nat) : Bool := match i with
  | .ireturn => decide (len = 1) && decide (rn k = 4)
  | _ => false
def c_fneg (k pc : Nat) (h : Nat × Nat) (i : Instr) (len : Nat) : Bool := match i with
  | .ireturn => decide (len = 1) && decide (rn k = 5)
  | _ => false
def c_fadd (k pc : Nat) (h : Nat × Nat) (i : Instr) (len : Nat) : Bool := match i with
  | .ireturn => decide (len = 1) && decide (rn k = 6)
  | _ => false
def c_lreturn (k pc : Nat) (h : Nat × Nat) (i : Instr) (len : Nat) : Bool := match i with
  | .lreturn => decide (len = 1) && decide (rn k = 1)
  | _ => false
def c_dreturn (k pc : Nat) (h : Nat × Nat) (i : Instr) (len : Nat) : Bool := match i with
  | .dreturn => decide (len = 1) && decide (rn k = 2)
  | _ => false
def c_areturn (k pc : Nat) (h : Nat × Nat) (i : Instr) (len : Nat) : Bool := match i with
  | .areturn => decide (len = 1) && decide (rn k = 3)
  | _ => false
def c_return_ (k pc : Nat) (h : Nat × Nat) (i : Instr) (len : Nat) : Bool := match i with
  | .return_ => decide (len = 1) && decide (rn k = 7)
  | _ => false
def chkI (k pc : Nat) (h : Nat × Nat) (ri i : Instr) (len : Nat) : Bool := match ri with
  | .iconst v => c_iconst k pc h v i len
  | .jsr v => c_jsr k pc h v i len
  | .bipush v => c_bipush k pc h v i len
  | .sipush v => c_sipush k pc h v i len
  | .iload a => c_iload k pc h a i len
  | .lload a => c_lload k pc h a i len
  | .dload a => c_dload k pc h a i len
  | .aload a => c_aload k pc h a i len
  | .istore a => c_istore k pc h a i len
  | .lstore a => c_lstore k pc h a i len
  | .dstore a => c_dstore k pc h a i len
  | .astore a => c_astore k pc h a i len
  | .iinc a v => c_iinc k pc h a v i len
  | .ifCond c t => c_ifCond k pc h c t i len
  | .if_icmp c t => c_if_icmp k pc h c t i len
  | .goto t => c_goto k pc h t i len
  | .tableswitch d lo hi os => c_tableswitch k pc h d lo hi os i len
  | .ifnull g => c_ifnull k pc h g i len
  | .ifnonnull g => c_ifnonnull k pc h g i len
  | .jsr_w g => c_jsr_w k pc h g i len
  | .if_acmp .eq g => c_if_acmp k pc h g i len
  | .goto_w g => c_goto_w k pc h g i len
  | .newarray t => c_newarray k pc h t i len
  | .anewarray u0 => c_anewarray k pc h u0 i len
  | .multianewarray u0 u1 => c_multianewarray k pc h u0 u1 i len
  | .d2l => c_d2l k pc h i len
  | .f2d => c_f2d k pc h i len
  | .monitorenter => c_monitorenter k pc h i len
  | .dup_x1 => c_dup_x1 k pc h i len
  | .dup_x2 => c_dup_x2 k pc h i len
  | .dup2_x1 => c_dup2_x1 k pc h i len
  | .dup2_x2 => c_dup2_x2 k pc h i len
  | .swap => c_swap k pc h i len
  | .monitorexit => c_monitorexit k pc h i len
  | .invokeinterface mi n => c_invokeinterface k pc h mi n i len
  | .ireturn => c_ireturn k pc h i len
  | .freturn => c_freturn k pc h i len
  | .fneg => c_fneg k pc h i len
  | .fadd => c_fadd k pc h i len
  | .lreturn => c_lreturn k pc h i len
  | .dreturn => c_dreturn k pc h i len
  | .areturn => c_areturn k pc h i len
  | .return_ => c_return_ k pc h i len
  | a => simple a && decide (a = i) && decide (len = 1)
def chkB (k : Nat) : Nat → List Instr → List (Nat × Nat) → Bool
  | _, .athrow :: _, _ => true
  | pc, ri :: is, h :: hs => match ri, h with
    | .goto t, (99, _) => decide (pc = pcs k t.toNat) && decide (t.toNat < (hk k).length)
    | ri, h => match decode (ck k) pc with
      | .ok (i, len) => chkI k pc h ri i len && (match ri with
        | .goto _ | .tableswitch _ _ _ _ | .ireturn | .freturn | .fneg | .fadd | .lreturn | .dreturn | .areturn | .return_ => true
        | _ => chkB k (pc + len) is hs)
      | _ => false
  | _, _, _ => false
def rtOK (r : Nat) (t : Option FieldType) : Bool := match t with
  | none => decide (r = 7)
  | some t => ofTy r t
def okMr (k : Nat) : Bool :=
  decide (wrd (mhk k).2.1 = some (.initialized (own_ k))) &&
  (if sk k then decide (wrd (mhk k).2.2.1 = some (.static (yk k))) else decide (wrd (mhk k).2.2.1 = some (.instanceMethod (yk k)))) &&
  (if sk k || decide ((yk k).name = "<init>") then true else decide (wrd (mhk k).2.2.2 = some (.selects (own_ k) (yk k) (yk k)))) &&
  plainName (own_ k) && decide (own_ k ≠ "java/lang/invoke/MethodHandle") && decide (own_ k ≠ "java/lang/invoke/VarHandle") &&
  decide ((parseMethodDescriptor (yk k).desc).map (fun d => d.parameters.length) = some (na k - (if sk k then 0 else 1))) && (sk k || decide (1 ≤ na k)) && rtOK (rn k) (rk k) && decide (ml k ≤ 20)
/-- what okM says, with the code's word given apart -/
def OM (k : Nat) : Prop := wrd (mhk k).1 = some (.code (yk k) (ck k) (ml k) (rk k)) ∧ okMr k = true
def okB (k : Nat) : Bool := decide (pcs k 0 = 0) && (List.range (hk k).length).all (fun b => chkB k (pcs k b) (blk k b) (((hk k)[b]?.map (·.2)).getD []))
def hts_ (k b : Nat) : List (Nat × Nat) := ((hk k)[b]?.map (·.2)).getD []
def OKB (k : Nat) : Prop := pcs k 0 = 0 ∧ ∀ b, b < (hk k).length → chkB k (pcs k b) (blk k b) (hts_ k b) = true
theorem OKB.of {k : Nat} (h : okB k = true) : OKB k := by
  unfold okB at h
  rw [Bool.and_eq_true, decide_eq_true_eq, List.all_eq_true] at h
  exact ⟨h.1, fun b hb => h.2 b (List.mem_range.mpr hb)⟩
def endI (ri : Instr) : Bool := match ri with
  | .goto _ | .tableswitch _ _ _ _ | .ireturn | .freturn | .fneg | .fadd | .lreturn | .dreturn | .areturn | .return_ | .athrow => true
  | _ => false
/-- the beginning of a block -/
def chkP (k : Nat) : Nat → List Instr → List (Nat × Nat) → Option Nat
  | pc, [], [] => some pc
  | pc, ri :: is, h :: hs => if endI ri then none else match decode (ck k) pc with
    | .ok (i, len) => if chkI k pc h ri i len then chkP k (pc + len) is hs else none
    | _ => none
  | _, _, _ => none
theorem chkB_app {k : Nat} : ∀ (is1 : List Instr) (hs1 : List (Nat × Nat)) {pc pc' : Nat} {is2 : List Instr} {hs2 : List (Nat × Nat)}, chkP k pc is1 hs1 = some pc' → chkB k pc' is2 hs2 = true → chkB k pc (is1 ++ is2) (hs1 ++ hs2) = true
  | [], [], pc, pc', is2, hs2, h1, h2 => by
    rw [chkP] at h1
    cases h1
    exact h2
  | [], _ :: _, pc, pc', is2, hs2, h1, h2 => by cases h1
  | _ :: _, [], pc, pc', is2, hs2, h1, h2 => by cases h1
  | ri :: is, h :: hs, pc, pc', is2, hs2, h1, h2 => by
    rw [chkP] at h1
    by_cases he : endI ri = true
    · rw [if_pos he] at h1; cases h1
    · rw [if_neg he] at h1
      cases hd : decode (ck k) pc with
      | error e => rw [hd] at h1; cases h1
      | ok p =>
        obtain ⟨i, len⟩ := p
        rw [hd] at h1
        dsimp only at h1
        by_cases hc : chkI k pc h ri i len = true
        · rw [if_pos hc] at h1
          have ih := chkB_app is hs h1 h2
          show chkB k pc (ri :: (is ++ is2)) (h :: (hs ++ hs2)) = true
          cases ri <;> first
            | exact absurd rfl he
            | (show (match decode (ck k) pc with
                | .ok (i, len) => _
                | _ => false) = true
               rw [hd]
               show (chkI k pc h _ i len && chkB k (pc + len) (is ++ is2) (hs ++ hs2)) = true
               rw [hc, ih]
               rfl)
        · rw [if_neg hc] at h1; cases h1
theorem chkB_cut {k pc pc' : Nat} {L : List Instr} {H : List (Nat × Nat)} (n : Nat) (h1 : chkP k pc (L.take n) (H.take n) = some pc') (h2 : chkB k pc' (L.drop n) (H.drop n) = true) : chkB k pc L H = true := by
  have h := chkB_app _ _ h1 h2
  rwa [List.take_append_drop, List.take_append_drop] at h
