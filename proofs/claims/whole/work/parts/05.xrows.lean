/-! THE ROWS OF X, one an instruction form; the blocks, the entries: printed by wip/tools/genx.py -/
theorem klp_0 {x : Int} : klp 0 (0, x) = (0, x) := rfl
theorem klp_3 {x : Int} : klp 0 (3, x) = (3, x) := rfl
theorem klp_9 {x : Int} : klp 0 (9, x) = (9, x) := rfl
theorem klp_1 {x : Int} : klp 0 (1, x) = (9, 0) := rfl
theorem klp_2 {x : Int} : klp 0 (2, x) = (9, 0) := rfl
theorem x_aaload {fz : Int → Int → Option Int} {d k : Nat} {Q : Int → HV → Prop} {is : List Instr} {h : HV} {ls st : List AV} {o i : Int} : X fz d k Q (.aaload :: is) ls ((0, i) :: (3, o) :: st) h = (((o % 64 = 37 ∨ o % 64 = 38) ∧ 0 ≤ i ∧ i < rd fz h o (-1)) ∧ X fz d k Q is ls ((3, rd fz h o i) :: st) h) := rfl
theorem x_aastore {fz : Int → Int → Option Int} {d k : Nat} {Q : Int → HV → Prop} {is : List Instr} {h : HV} {ls st : List AV} {o i x : Int} : X fz d k Q (.aastore :: is) ls ((3, x) :: (0, i) :: (3, o) :: st) h = ((o % 64 = 38 ∧ x % 64 = 13 ∧ 0 ≤ i ∧ i < rd fz h o (-1) ∧ fz o i = none) ∧ X fz d k Q is ls st (hset h o i x)) := rfl
theorem x_acp {fz : Int → Int → Option Int} {d k : Nat} {Q : Int → HV → Prop} {is : List Instr} {h : HV} {ls st : List AV} {s sp d0 dp n : Int} : X fz d k Q (.monitorenter :: is) ls ((0, n) :: (0, dp) :: (3, d0) :: (0, sp) :: (3, s) :: st) h = ((wds st ≤ 8 ∧ (s % 64 = 32 ∨ s % 64 = 33) ∧ d0 % 64 = s % 64 ∧ s ≠ d0 ∧ 0 ≤ sp ∧ 0 ≤ dp ∧ 0 ≤ n ∧ sp + n ≤ rd fz h s (-1) ∧ dp + n ≤ rd fz h d0 (-1)) ∧ X fz d k Q is ls st (acp h s sp d0 dp n)) := rfl
theorem x_alen {fz : Int → Int → Option Int} {d k : Nat} {Q : Int → HV → Prop} {is : List Instr} {h : HV} {ls st : List AV} {o : Int} : X fz d k Q (.arraylength :: is) ls ((3, o) :: st) h = ((32 ≤ o % 64 ∧ o % 64 ≤ 51) ∧ X fz d k Q is ls ((0, rd fz h o (-1)) :: st) h) := rfl
theorem x_aload0 {fz : Int → Int → Option Int} {d k : Nat} {Q : Int → HV → Prop} {is : List Instr} {h : HV} {r st : List AV} {x : Int} : X fz d k Q (.aload 0 :: is) ((3, x) :: r) st h = X fz d k Q is ((3, x) :: r) ((3, x) :: st) h := rfl
theorem x_aload1 {fz : Int → Int → Option Int} {d k : Nat} {Q : Int → HV → Prop} {is : List Instr} {h : HV} {a0 : AV} {r st : List AV} {x : Int} : X fz d k Q (.aload 1 :: is) (a0 :: (3, x) :: r) st h = X fz d k Q is (a0 :: (3, x) :: r) ((3, x) :: st) h := rfl
theorem x_aload2 {fz : Int → Int → Option Int} {d k : Nat} {Q : Int → HV → Prop} {is : List Instr} {h : HV} {a0 a1 : AV} {r st : List AV} {x : Int} : X fz d k Q (.aload 2 :: is) (a0 :: a1 :: (3, x) :: r) st h = X fz d k Q is (a0 :: a1 :: (3, x) :: r) ((3, x) :: st) h := rfl
theorem x_areturn {fz : Int → Int → Option Int} {d k : Nat} {Q : Int → HV → Prop} {is : List Instr} {h : HV} {ls : List AV} {x : Int} : X fz d k Q (.areturn :: is) ls [(3, x)] h = Q x h := rfl
theorem x_astore1 {fz : Int → Int → Option Int} {d k : Nat} {Q : Int → HV → Prop} {is : List Instr} {h : HV} {a0 : AV} {b : AV} {r st : List AV} {x : Int} : X fz d k Q (.astore 1 :: is) (a0 :: b :: r) ((3, x) :: st) h = X fz d k Q is (klp 0 a0 :: (3, x) :: r) st h := rfl
theorem x_astore2 {fz : Int → Int → Option Int} {d k : Nat} {Q : Int → HV → Prop} {is : List Instr} {h : HV} {a0 a1 : AV} {b : AV} {r st : List AV} {x : Int} : X fz d k Q (.astore 2 :: is) (a0 :: a1 :: b :: r) ((3, x) :: st) h = X fz d k Q is (a0 :: klp 0 a1 :: (3, x) :: r) st h := rfl
theorem x_baload {fz : Int → Int → Option Int} {d k : Nat} {Q : Int → HV → Prop} {is : List Instr} {h : HV} {ls st : List AV} {o i : Int} : X fz d k Q (.baload :: is) ls ((0, i) :: (3, o) :: st) h = (((o % 64 = 35 ∨ o % 64 = 36 ∨ o % 64 = 51) ∧ 0 ≤ i ∧ i < rd fz h o (-1)) ∧ X fz d k Q is ls ((0, h o i) :: st) h) := rfl
theorem x_bastore {fz : Int → Int → Option Int} {d k : Nat} {Q : Int → HV → Prop} {is : List Instr} {h : HV} {ls st : List AV} {o i x : Int} : X fz d k Q (.bastore :: is) ls ((0, x) :: (0, i) :: (3, o) :: st) h = (((o % 64 = 35 ∨ o % 64 = 36) ∧ 0 ≤ i ∧ i < rd fz h o (-1)) ∧ X fz d k Q is ls st (hset h o i (bst o x))) := rfl
theorem x_bipush {fz : Int → Int → Option Int} {d k : Nat} {Q : Int → HV → Prop} {is : List Instr} {h : HV} {ls st : List AV} {v : Int} : X fz d k Q (.bipush v :: is) ls st h = X fz d k Q is ls ((1, v) :: st) h := rfl
theorem x_call1 {fz : Int → Int → Option Int} {d k : Nat} {Q : Int → HV → Prop} {is : List Instr} {h : HV} {ls st : List AV} {o : Int}  : X fz d k Q (.invokeinterface 268 1 :: is) ls ((3, o) :: st) h = (((o ≠ 0 ∧ o % 64 = 0) ∧ wds st ≤ 8) ∧ 0 < d ∧ Sp fz (d - 1) 1 [(3, o)] h (fun x h => X fz d k Q is ls st h)) := rfl
theorem x_call10 {fz : Int → Int → Option Int} {d k : Nat} {Q : Int → HV → Prop} {is : List Instr} {h : HV} {ls st : List AV} {o : Int} {a1 : AV}  : X fz d k Q (.invokeinterface 2644 2 :: is) ls (a1 :: (3, o) :: st) h = (((o ≠ 0 ∧ o % 64 = 9) ∧ wds st ≤ 8) ∧ 0 < d ∧ Sp fz (d - 1) 10 [(3, o), a1] h (fun x h => X fz d k Q is ls st h)) := rfl
theorem x_call100 {fz : Int → Int → Option Int} {d k : Nat} {Q : Int → HV → Prop} {is : List Instr} {h : HV} {ls st : List AV} {a0 a1 : AV}  : X fz d k Q (.invokeinterface 25601 2 :: is) ls (a1 :: a0 :: st) h = ((True ∧ wds st ≤ 8) ∧ 0 < d ∧ Sp fz (d - 1) 100 [a0, a1] h (fun x h => X fz d k Q is ls ((1, x) :: st) h)) := rfl
theorem x_call101 {fz : Int → Int → Option Int} {d k : Nat} {Q : Int → HV → Prop} {is : List Instr} {h : HV} {ls st : List AV} {a0 : AV}  : X fz d k Q (.invokeinterface 25856 1 :: is) ls (a0 :: st) h = ((True ∧ wds st ≤ 8) ∧ 0 < d ∧ Sp fz (d - 1) 101 [a0] h (fun x h => X fz d k Q is ls ((0, x) :: st) h)) := rfl
theorem x_call102 {fz : Int → Int → Option Int} {d k : Nat} {Q : Int → HV → Prop} {is : List Instr} {h : HV} {ls st : List AV} {a0 : AV}  : X fz d k Q (.invokeinterface 26112 1 :: is) ls (a0 :: st) h = ((True ∧ wds st ≤ 8) ∧ 0 < d ∧ Sp fz (d - 1) 102 [a0] h (fun x h => X fz d k Q is ls ((0, x) :: st) h)) := rfl
theorem x_call103 {fz : Int → Int → Option Int} {d k : Nat} {Q : Int → HV → Prop} {is : List Instr} {h : HV} {ls st : List AV} {a0 : AV}  : X fz d k Q (.invokeinterface 26368 1 :: is) ls (a0 :: st) h = ((True ∧ wds st ≤ 8) ∧ 0 < d ∧ Sp fz (d - 1) 103 [a0] h (fun x h => X fz d k Q is ls ((0, x) :: st) h)) := rfl
theorem x_call104 {fz : Int → Int → Option Int} {d k : Nat} {Q : Int → HV → Prop} {is : List Instr} {h : HV} {ls st : List AV} {a0 : AV}  : X fz d k Q (.invokeinterface 26625 1 :: is) ls (a0 :: st) h = ((True ∧ wds st ≤ 8) ∧ 0 < d ∧ Sp fz (d - 1) 104 [a0] h (fun x h => X fz d k Q is ls ((1, x) :: st) h)) := rfl
theorem x_call105 {fz : Int → Int → Option Int} {d k : Nat} {Q : Int → HV → Prop} {is : List Instr} {h : HV} {ls st : List AV} {a0 : AV}  : X fz d k Q (.invokeinterface 26880 1 :: is) ls (a0 :: st) h = ((True ∧ wds st ≤ 8) ∧ 0 < d ∧ Sp fz (d - 1) 105 [a0] h (fun x h => X fz d k Q is ls ((0, x) :: st) h)) := rfl
theorem x_call106 {fz : Int → Int → Option Int} {d k : Nat} {Q : Int → HV → Prop} {is : List Instr} {h : HV} {ls st : List AV} {a0 : AV}  : X fz d k Q (.invokeinterface 27136 1 :: is) ls (a0 :: st) h = ((True ∧ wds st ≤ 8) ∧ 0 < d ∧ Sp fz (d - 1) 106 [a0] h (fun x h => X fz d k Q is ls ((0, x) :: st) h)) := rfl
theorem x_call107 {fz : Int → Int → Option Int} {d k : Nat} {Q : Int → HV → Prop} {is : List Instr} {h : HV} {ls st : List AV} {o : Int} {a1 : AV}  : X fz d k Q (.invokeinterface 27420 2 :: is) ls (a1 :: (3, o) :: st) h = (((o ≠ 0 ∧ o % 64 = 2) ∧ wds st ≤ 8) ∧ 0 < d ∧ Sp fz (d - 1) 107 [(3, o), a1] h (fun x h => X fz d k Q is ls st h)) := rfl
theorem x_call108 {fz : Int → Int → Option Int} {d k : Nat} {Q : Int → HV → Prop} {is : List Instr} {h : HV} {ls st : List AV} {o : Int} {a1 : AV}  : X fz d k Q (.invokeinterface 27676 2 :: is) ls (a1 :: (3, o) :: st) h = (((o ≠ 0 ∧ o % 64 = 2) ∧ wds st ≤ 8) ∧ 0 < d ∧ Sp fz (d - 1) 108 [(3, o), a1] h (fun x h => X fz d k Q is ls st h)) := rfl
theorem x_call109 {fz : Int → Int → Option Int} {d k : Nat} {Q : Int → HV → Prop} {is : List Instr} {h : HV} {ls st : List AV} {o : Int} {a1 a2 a3 : AV}  : X fz d k Q (.invokeinterface 27932 4 :: is) ls (a3 :: a2 :: a1 :: (3, o) :: st) h = (((o ≠ 0 ∧ o % 64 = 2) ∧ wds st ≤ 8) ∧ 0 < d ∧ Sp fz (d - 1) 109 [(3, o), a1, a2, a3] h (fun x h => X fz d k Q is ls st h)) := rfl
theorem x_call11 {fz : Int → Int → Option Int} {d k : Nat} {Q : Int → HV → Prop} {is : List Instr} {h : HV} {ls st : List AV} {o : Int}  : X fz d k Q (.invokeinterface 2908 1 :: is) ls ((3, o) :: st) h = (((o ≠ 0 ∧ o % 64 = 10) ∧ wds st ≤ 8) ∧ 0 < d ∧ Sp fz (d - 1) 11 [(3, o)] h (fun x h => X fz d k Q is ls st h)) := rfl
theorem x_call110 {fz : Int → Int → Option Int} {d k : Nat} {Q : Int → HV → Prop} {is : List Instr} {h : HV} {ls st : List AV} {o : Int} {a1 a2 : AV}  : X fz d k Q (.invokeinterface 28188 3 :: is) ls (a2 :: a1 :: (3, o) :: st) h = (((o ≠ 0 ∧ o % 64 = 2) ∧ wds st ≤ 8) ∧ 0 < d ∧ Sp fz (d - 1) 110 [(3, o), a1, a2] h (fun x h => X fz d k Q is ls st h)) := rfl
theorem x_call111 {fz : Int → Int → Option Int} {d k : Nat} {Q : Int → HV → Prop} {is : List Instr} {h : HV} {ls st : List AV} {o : Int} {a1 : AV}  : X fz d k Q (.invokeinterface 28432 2 :: is) ls (a1 :: (3, o) :: st) h = (((o ≠ 0 ∧ o % 64 = 1) ∧ wds st ≤ 8) ∧ 0 < d ∧ Sp fz (d - 1) 111 [(3, o), a1] h (fun x h => X fz d k Q is ls ((0, x) :: st) h)) := rfl
theorem x_call112 {fz : Int → Int → Option Int} {d k : Nat} {Q : Int → HV → Prop} {is : List Instr} {h : HV} {ls st : List AV} {o : Int} {a1 : AV}  : X fz d k Q (.invokeinterface 28700 2 :: is) ls (a1 :: (3, o) :: st) h = (((o ≠ 0 ∧ o % 64 = 2) ∧ wds st ≤ 8) ∧ 0 < d ∧ Sp fz (d - 1) 112 [(3, o), a1] h (fun x h => X fz d k Q is ls st h)) := rfl
theorem x_call113 {fz : Int → Int → Option Int} {d k : Nat} {Q : Int → HV → Prop} {is : List Instr} {h : HV} {ls st : List AV} {o : Int} {a1 : AV}  : X fz d k Q (.invokeinterface 28952 2 :: is) ls (a1 :: (3, o) :: st) h = (((o ≠ 0 ∧ o % 64 = 2) ∧ wds st ≤ 8) ∧ 0 < d ∧ Sp fz (d - 1) 113 [(3, o), a1] h (fun x h => X fz d k Q is ls ((0, x) :: st) h)) := rfl
theorem x_call114 {fz : Int → Int → Option Int} {d k : Nat} {Q : Int → HV → Prop} {is : List Instr} {h : HV} {ls st : List AV} {o : Int}  : X fz d k Q (.invokeinterface 29208 1 :: is) ls ((3, o) :: st) h = (((o ≠ 0 ∧ o % 64 = 2) ∧ wds st ≤ 8) ∧ 0 < d ∧ Sp fz (d - 1) 114 [(3, o)] h (fun x h => X fz d k Q is ls ((0, x) :: st) h)) := rfl
theorem x_call115 {fz : Int → Int → Option Int} {d k : Nat} {Q : Int → HV → Prop} {is : List Instr} {h : HV} {ls st : List AV} {o : Int} {a1 : AV}  : X fz d k Q (.invokeinterface 29468 2 :: is) ls (a1 :: (3, o) :: st) h = (((o ≠ 0 ∧ o % 64 = 2) ∧ wds st ≤ 8) ∧ 0 < d ∧ Sp fz (d - 1) 115 [(3, o), a1] h (fun x h => X fz d k Q is ls st h)) := rfl
theorem x_call116 {fz : Int → Int → Option Int} {d k : Nat} {Q : Int → HV → Prop} {is : List Instr} {h : HV} {ls st : List AV} {o : Int} {a1 a2 : AV}  : X fz d k Q (.invokeinterface 29788 3 :: is) ls (a2 :: a1 :: (3, o) :: st) h = (((o ≠ 0 ∧ o % 64 = 10) ∧ wds st ≤ 8) ∧ 0 < d ∧ Sp fz (d - 1) 116 [(3, o), a1, a2] h (fun x h => X fz d k Q is ls st h)) := rfl
theorem x_call117 {fz : Int → Int → Option Int} {d k : Nat} {Q : Int → HV → Prop} {is : List Instr} {h : HV} {ls st : List AV} {o : Int} {a1 : AV}  : X fz d k Q (.invokeinterface 29980 2 :: is) ls (a1 :: (3, o) :: st) h = (((o ≠ 0 ∧ o % 64 = 2) ∧ wds st ≤ 8) ∧ 0 < d ∧ Sp fz (d - 1) 117 [(3, o), a1] h (fun x h => X fz d k Q is ls st h)) := rfl
theorem x_call118 {fz : Int → Int → Option Int} {d k : Nat} {Q : Int → HV → Prop} {is : List Instr} {h : HV} {ls st : List AV} {o : Int} {a1 : AV}  : X fz d k Q (.invokeinterface 30236 2 :: is) ls (a1 :: (3, o) :: st) h = (((o ≠ 0 ∧ o % 64 = 2) ∧ wds st ≤ 8) ∧ 0 < d ∧ Sp fz (d - 1) 118 [(3, o), a1] h (fun x h => X fz d k Q is ls st h)) := rfl
theorem x_call119 {fz : Int → Int → Option Int} {d k : Nat} {Q : Int → HV → Prop} {is : List Instr} {h : HV} {ls st : List AV} {o : Int} {a1 : AV}  : X fz d k Q (.invokeinterface 30488 2 :: is) ls (a1 :: (3, o) :: st) h = (((o ≠ 0 ∧ o % 64 = 2) ∧ wds st ≤ 8) ∧ 0 < d ∧ Sp fz (d - 1) 119 [(3, o), a1] h (fun x h => X fz d k Q is ls ((0, x) :: st) h)) := rfl
theorem x_call12 {fz : Int → Int → Option Int} {d k : Nat} {Q : Int → HV → Prop} {is : List Instr} {h : HV} {ls st : List AV} {o : Int} {a1 : AV}  : X fz d k Q (.invokeinterface 3140 2 :: is) ls (a1 :: (3, o) :: st) h = (((o ≠ 0 ∧ o % 64 = 7) ∧ wds st ≤ 8) ∧ 0 < d ∧ Sp fz (d - 1) 12 [(3, o), a1] h (fun x h => X fz d k Q is ls st h)) := rfl
theorem x_call120 {fz : Int → Int → Option Int} {d k : Nat} {Q : Int → HV → Prop} {is : List Instr} {h : HV} {ls st : List AV} {o : Int}  : X fz d k Q (.invokeinterface 30748 1 :: is) ls ((3, o) :: st) h = (((o ≠ 0 ∧ o % 64 = 2) ∧ wds st ≤ 8) ∧ 0 < d ∧ Sp fz (d - 1) 120 [(3, o)] h (fun x h => X fz d k Q is ls st h)) := rfl
theorem x_call121 {fz : Int → Int → Option Int} {d k : Nat} {Q : Int → HV → Prop} {is : List Instr} {h : HV} {ls st : List AV} {o : Int} {a1 : AV}  : X fz d k Q (.invokeinterface 31004 2 :: is) ls (a1 :: (3, o) :: st) h = (((o ≠ 0 ∧ o % 64 = 2) ∧ wds st ≤ 8) ∧ 0 < d ∧ Sp fz (d - 1) 121 [(3, o), a1] h (fun x h => X fz d k Q is ls st h)) := rfl
theorem x_call122 {fz : Int → Int → Option Int} {d k : Nat} {Q : Int → HV → Prop} {is : List Instr} {h : HV} {ls st : List AV} {o : Int} {a1 : AV}  : X fz d k Q (.invokeinterface 31260 2 :: is) ls (a1 :: (3, o) :: st) h = (((o ≠ 0 ∧ o % 64 = 2) ∧ wds st ≤ 8) ∧ 0 < d ∧ Sp fz (d - 1) 122 [(3, o), a1] h (fun x h => X fz d k Q is ls st h)) := rfl
theorem x_call123 {fz : Int → Int → Option Int} {d k : Nat} {Q : Int → HV → Prop} {is : List Instr} {h : HV} {ls st : List AV} {o : Int} {a1 : AV}  : X fz d k Q (.invokeinterface 31516 2 :: is) ls (a1 :: (3, o) :: st) h = (((o ≠ 0 ∧ o % 64 = 2) ∧ wds st ≤ 8) ∧ 0 < d ∧ Sp fz (d - 1) 123 [(3, o), a1] h (fun x h => X fz d k Q is ls st h)) := rfl
theorem x_call124 {fz : Int → Int → Option Int} {d k : Nat} {Q : Int → HV → Prop} {is : List Instr} {h : HV} {ls st : List AV} {o : Int}  : X fz d k Q (.invokeinterface 31772 1 :: is) ls ((3, o) :: st) h = (((o ≠ 0 ∧ o % 64 = 2) ∧ wds st ≤ 8) ∧ 0 < d ∧ Sp fz (d - 1) 124 [(3, o)] h (fun x h => X fz d k Q is ls st h)) := rfl
theorem x_call125 {fz : Int → Int → Option Int} {d k : Nat} {Q : Int → HV → Prop} {is : List Instr} {h : HV} {ls st : List AV} {o : Int} {a1 : AV}  : X fz d k Q (.invokeinterface 32088 2 :: is) ls (a1 :: (3, o) :: st) h = (((o ≠ 0 ∧ o % 64 = 10) ∧ wds st ≤ 8) ∧ 0 < d ∧ Sp fz (d - 1) 125 [(3, o), a1] h (fun x h => X fz d k Q is ls ((0, x) :: st) h)) := rfl
theorem x_call126 {fz : Int → Int → Option Int} {d k : Nat} {Q : Int → HV → Prop} {is : List Instr} {h : HV} {ls st : List AV} {o : Int}  : X fz d k Q (.invokeinterface 32276 1 :: is) ls ((3, o) :: st) h = (((o ≠ 0 ∧ o % 64 = 1) ∧ wds st ≤ 8) ∧ 0 < d ∧ Sp fz (d - 1) 126 [(3, o)] h (fun x h => X fz d k Q is ls st h)) := rfl
theorem x_call127 {fz : Int → Int → Option Int} {d k : Nat} {Q : Int → HV → Prop} {is : List Instr} {h : HV} {ls st : List AV} {o : Int}  : X fz d k Q (.invokeinterface 32524 1 :: is) ls ((3, o) :: st) h = (((o ≠ 0 ∧ o % 64 = 0) ∧ wds st ≤ 8) ∧ 0 < d ∧ Sp fz (d - 1) 127 [(3, o)] h (fun x h => X fz d k Q is ls st h)) := rfl
theorem x_call128 {fz : Int → Int → Option Int} {d k : Nat} {Q : Int → HV → Prop} {is : List Instr} {h : HV} {ls st : List AV} {o : Int}  : X fz d k Q (.invokeinterface 32804 1 :: is) ls ((3, o) :: st) h = (((o ≠ 0 ∧ o % 64 = 3) ∧ wds st ≤ 8) ∧ 0 < d ∧ Sp fz (d - 1) 128 [(3, o)] h (fun x h => X fz d k Q is ls st h)) := rfl
theorem x_call129 {fz : Int → Int → Option Int} {d k : Nat} {Q : Int → HV → Prop} {is : List Instr} {h : HV} {ls st : List AV} {o : Int}  : X fz d k Q (.invokeinterface 33068 1 :: is) ls ((3, o) :: st) h = (((o ≠ 0 ∧ o % 64 = 4) ∧ wds st ≤ 8) ∧ 0 < d ∧ Sp fz (d - 1) 129 [(3, o)] h (fun x h => X fz d k Q is ls st h)) := rfl
theorem x_call13 {fz : Int → Int → Option Int} {d k : Nat} {Q : Int → HV → Prop} {is : List Instr} {h : HV} {ls st : List AV} {o : Int}  : X fz d k Q (.invokeinterface 3396 1 :: is) ls ((3, o) :: st) h = (((o ≠ 0 ∧ o % 64 = 7) ∧ wds st ≤ 8) ∧ 0 < d ∧ Sp fz (d - 1) 13 [(3, o)] h (fun x h => X fz d k Q is ls st h)) := rfl
theorem x_call130 {fz : Int → Int → Option Int} {d k : Nat} {Q : Int → HV → Prop} {is : List Instr} {h : HV} {ls st : List AV} {o : Int} {a1 a2 a3 : AV}  : X fz d k Q (.invokeinterface 33320 4 :: is) ls (a3 :: a2 :: a1 :: (3, o) :: st) h = (((o ≠ 0 ∧ o % 64 = 4) ∧ wds st ≤ 8) ∧ 0 < d ∧ Sp fz (d - 1) 130 [(3, o), a1, a2, a3] h (fun x h => X fz d k Q is ls ((0, x) :: st) h)) := rfl
theorem x_call131 {fz : Int → Int → Option Int} {d k : Nat} {Q : Int → HV → Prop} {is : List Instr} {h : HV} {ls st : List AV} {o : Int} {a1 : AV}  : X fz d k Q (.invokeinterface 33544 2 :: is) ls (a1 :: (3, o) :: st) h = (((o ≠ 0 ∧ o % 64 = 0) ∧ wds st ≤ 8) ∧ 0 < d ∧ Sp fz (d - 1) 131 [(3, o), a1] h (fun x h => X fz d k Q is ls ((0, x) :: st) h)) := rfl
theorem x_call132 {fz : Int → Int → Option Int} {d k : Nat} {Q : Int → HV → Prop} {is : List Instr} {h : HV} {ls st : List AV} {o : Int}  : X fz d k Q (.invokeinterface 33832 1 :: is) ls ((3, o) :: st) h = (((o ≠ 0 ∧ o % 64 = 4) ∧ wds st ≤ 8) ∧ 0 < d ∧ Sp fz (d - 1) 132 [(3, o)] h (fun x h => X fz d k Q is ls ((0, x) :: st) h)) := rfl
theorem x_call133 {fz : Int → Int → Option Int} {d k : Nat} {Q : Int → HV → Prop} {is : List Instr} {h : HV} {ls st : List AV} {o : Int}  : X fz d k Q (.invokeinterface 34080 1 :: is) ls ((3, o) :: st) h = (((o ≠ 0 ∧ o % 64 = 3) ∧ wds st ≤ 8) ∧ 0 < d ∧ Sp fz (d - 1) 133 [(3, o)] h (fun x h => X fz d k Q is ls ((0, x) :: st) h)) := rfl
theorem x_call134 {fz : Int → Int → Option Int} {d k : Nat} {Q : Int → HV → Prop} {is : List Instr} {h : HV} {ls st : List AV} {o : Int}  : X fz d k Q (.invokeinterface 34352 1 :: is) ls ((3, o) :: st) h = (((o ≠ 0 ∧ o % 64 = 5) ∧ wds st ≤ 8) ∧ 0 < d ∧ Sp fz (d - 1) 134 [(3, o)] h (fun x h => X fz d k Q is ls ((0, x) :: st) h)) := rfl
theorem x_call135 {fz : Int → Int → Option Int} {d k : Nat} {Q : Int → HV → Prop} {is : List Instr} {h : HV} {ls st : List AV} {o : Int} {a1 a2 : AV}  : X fz d k Q (.invokeinterface 34568 3 :: is) ls (a2 :: a1 :: (3, o) :: st) h = (((o ≠ 0 ∧ o % 64 = 0) ∧ wds st ≤ 8) ∧ 0 < d ∧ Sp fz (d - 1) 135 [(3, o), a1, a2] h (fun x h => X fz d k Q is ls ((0, x) :: st) h)) := rfl
theorem x_call136 {fz : Int → Int → Option Int} {d k : Nat} {Q : Int → HV → Prop} {is : List Instr} {h : HV} {ls st : List AV} {a0 : AV}  : X fz d k Q (.invokeinterface 34816 1 :: is) ls (a0 :: st) h = ((True ∧ wds st ≤ 8) ∧ 0 < d ∧ Sp fz (d - 1) 136 [a0] h (fun x h => X fz d k Q is ls ((0, x) :: st) h)) := rfl
theorem x_call137 {fz : Int → Int → Option Int} {d k : Nat} {Q : Int → HV → Prop} {is : List Instr} {h : HV} {ls st : List AV} {o : Int} {a1 : AV}  : X fz d k Q (.invokeinterface 35112 2 :: is) ls (a1 :: (3, o) :: st) h = (((o ≠ 0 ∧ o % 64 = 4) ∧ wds st ≤ 8) ∧ 0 < d ∧ Sp fz (d - 1) 137 [(3, o), a1] h (fun x h => X fz d k Q is ls ((0, x) :: st) h)) := rfl
theorem x_call138 {fz : Int → Int → Option Int} {d k : Nat} {Q : Int → HV → Prop} {is : List Instr} {h : HV} {ls st : List AV} {o : Int} {a1 : AV}  : X fz d k Q (.invokeinterface 35368 2 :: is) ls (a1 :: (3, o) :: st) h = (((o ≠ 0 ∧ o % 64 = 4) ∧ wds st ≤ 8) ∧ 0 < d ∧ Sp fz (d - 1) 138 [(3, o), a1] h (fun x h => X fz d k Q is ls ((0, x) :: st) h)) := rfl
theorem x_call139 {fz : Int → Int → Option Int} {d k : Nat} {Q : Int → HV → Prop} {is : List Instr} {h : HV} {ls st : List AV} {o : Int} {a1 : AV}  : X fz d k Q (.invokeinterface 35624 2 :: is) ls (a1 :: (3, o) :: st) h = (((o ≠ 0 ∧ o % 64 = 4) ∧ wds st ≤ 8) ∧ 0 < d ∧ Sp fz (d - 1) 139 [(3, o), a1] h (fun x h => X fz d k Q is ls ((0, x) :: st) h)) := rfl
theorem x_call14 {fz : Int → Int → Option Int} {d k : Nat} {Q : Int → HV → Prop} {is : List Instr} {h : HV} {ls st : List AV} {a0 a1 : AV}  : X fz d k Q (.invokeinterface 3588 2 :: is) ls (a1 :: a0 :: st) h = ((True ∧ wds st ≤ 8) ∧ 0 < d ∧ Sp fz (d - 1) 14 [a0, a1] h (fun x h => X fz d k Q is ls st h)) := rfl
theorem x_call140 {fz : Int → Int → Option Int} {d k : Nat} {Q : Int → HV → Prop} {is : List Instr} {h : HV} {ls st : List AV} {o : Int} {a1 : AV}  : X fz d k Q (.invokeinterface 35880 2 :: is) ls (a1 :: (3, o) :: st) h = (((o ≠ 0 ∧ o % 64 = 4) ∧ wds st ≤ 8) ∧ 0 < d ∧ Sp fz (d - 1) 140 [(3, o), a1] h (fun x h => X fz d k Q is ls ((0, x) :: st) h)) := rfl
theorem x_call141 {fz : Int → Int → Option Int} {d k : Nat} {Q : Int → HV → Prop} {is : List Instr} {h : HV} {ls st : List AV} {o : Int} {a1 : AV}  : X fz d k Q (.invokeinterface 36104 2 :: is) ls (a1 :: (3, o) :: st) h = (((o ≠ 0 ∧ o % 64 = 0) ∧ wds st ≤ 8) ∧ 0 < d ∧ Sp fz (d - 1) 141 [(3, o), a1] h (fun x h => X fz d k Q is ls ((0, x) :: st) h)) := rfl
theorem x_call142 {fz : Int → Int → Option Int} {d k : Nat} {Q : Int → HV → Prop} {is : List Instr} {h : HV} {ls st : List AV} {o : Int} {a1 a2 : AV}  : X fz d k Q (.invokeinterface 36360 3 :: is) ls (a2 :: a1 :: (3, o) :: st) h = (((o ≠ 0 ∧ o % 64 = 0) ∧ wds st ≤ 8) ∧ 0 < d ∧ Sp fz (d - 1) 142 [(3, o), a1, a2] h (fun x h => X fz d k Q is ls ((0, x) :: st) h)) := rfl
theorem x_call143 {fz : Int → Int → Option Int} {d k : Nat} {Q : Int → HV → Prop} {is : List Instr} {h : HV} {ls st : List AV} {o : Int} {a1 : AV}  : X fz d k Q (.invokeinterface 36648 2 :: is) ls (a1 :: (3, o) :: st) h = (((o ≠ 0 ∧ o % 64 = 4) ∧ wds st ≤ 8) ∧ 0 < d ∧ Sp fz (d - 1) 143 [(3, o), a1] h (fun x h => X fz d k Q is ls ((0, x) :: st) h)) := rfl
theorem x_call144 {fz : Int → Int → Option Int} {d k : Nat} {Q : Int → HV → Prop} {is : List Instr} {h : HV} {ls st : List AV} {o : Int} {a1 : AV}  : X fz d k Q (.invokeinterface 36904 2 :: is) ls (a1 :: (3, o) :: st) h = (((o ≠ 0 ∧ o % 64 = 4) ∧ wds st ≤ 8) ∧ 0 < d ∧ Sp fz (d - 1) 144 [(3, o), a1] h (fun x h => X fz d k Q is ls ((0, x) :: st) h)) := rfl
theorem x_call145 {fz : Int → Int → Option Int} {d k : Nat} {Q : Int → HV → Prop} {is : List Instr} {h : HV} {ls st : List AV} {o : Int} {a1 a2 : AV}  : X fz d k Q (.invokeinterface 37128 3 :: is) ls (a2 :: a1 :: (3, o) :: st) h = (((o ≠ 0 ∧ o % 64 = 0) ∧ wds st ≤ 8) ∧ 0 < d ∧ Sp fz (d - 1) 145 [(3, o), a1, a2] h (fun x h => X fz d k Q is ls ((0, x) :: st) h)) := rfl
theorem x_call146 {fz : Int → Int → Option Int} {d k : Nat} {Q : Int → HV → Prop} {is : List Instr} {h : HV} {ls st : List AV} {a0 : AV}  : X fz d k Q (.invokeinterface 37376 1 :: is) ls (a0 :: st) h = ((True ∧ wds st ≤ 8) ∧ 0 < d ∧ Sp fz (d - 1) 146 [a0] h (fun x h => X fz d k Q is ls ((0, x) :: st) h)) := rfl
theorem x_call147 {fz : Int → Int → Option Int} {d k : Nat} {Q : Int → HV → Prop} {is : List Instr} {h : HV} {ls st : List AV} {o : Int} {a1 a2 : AV}  : X fz d k Q (.invokeinterface 37672 3 :: is) ls (a2 :: a1 :: (3, o) :: st) h = (((o ≠ 0 ∧ o % 64 = 4) ∧ wds st ≤ 8) ∧ 0 < d ∧ Sp fz (d - 1) 147 [(3, o), a1, a2] h (fun x h => X fz d k Q is ls ((0, x) :: st) h)) := rfl
theorem x_call148 {fz : Int → Int → Option Int} {d k : Nat} {Q : Int → HV → Prop} {is : List Instr} {h : HV} {ls st : List AV} {a0 : AV}  : X fz d k Q (.invokeinterface 37888 1 :: is) ls (a0 :: st) h = ((True ∧ wds st ≤ 8) ∧ 0 < d ∧ Sp fz (d - 1) 148 [a0] h (fun x h => X fz d k Q is ls ((0, x) :: st) h)) := rfl
theorem x_call149 {fz : Int → Int → Option Int} {d k : Nat} {Q : Int → HV → Prop} {is : List Instr} {h : HV} {ls st : List AV} {a0 : AV}  : X fz d k Q (.invokeinterface 38144 1 :: is) ls (a0 :: st) h = ((True ∧ wds st ≤ 8) ∧ 0 < d ∧ Sp fz (d - 1) 149 [a0] h (fun x h => X fz d k Q is ls ((0, x) :: st) h)) := rfl
theorem x_call15 {fz : Int → Int → Option Int} {d k : Nat} {Q : Int → HV → Prop} {is : List Instr} {h : HV} {ls st : List AV} {o : Int}  : X fz d k Q (.invokeinterface 3908 1 :: is) ls ((3, o) :: st) h = (((o ≠ 0 ∧ o % 64 = 7) ∧ wds st ≤ 8) ∧ 0 < d ∧ Sp fz (d - 1) 15 [(3, o)] h (fun x h => X fz d k Q is ls st h)) := rfl
theorem x_call150 {fz : Int → Int → Option Int} {d k : Nat} {Q : Int → HV → Prop} {is : List Instr} {h : HV} {ls st : List AV} {a0 : AV}  : X fz d k Q (.invokeinterface 38400 1 :: is) ls (a0 :: st) h = ((True ∧ wds st ≤ 8) ∧ 0 < d ∧ Sp fz (d - 1) 150 [a0] h (fun x h => X fz d k Q is ls ((0, x) :: st) h)) := rfl
theorem x_call151 {fz : Int → Int → Option Int} {d k : Nat} {Q : Int → HV → Prop} {is : List Instr} {h : HV} {ls st : List AV} {o : Int} {a1 a2 a3 : AV}  : X fz d k Q (.invokeinterface 38664 4 :: is) ls (a3 :: a2 :: a1 :: (3, o) :: st) h = (((o ≠ 0 ∧ o % 64 = 0) ∧ wds st ≤ 8) ∧ 0 < d ∧ Sp fz (d - 1) 151 [(3, o), a1, a2, a3] h (fun x h => X fz d k Q is ls ((0, x) :: st) h)) := rfl
theorem x_call152 {fz : Int → Int → Option Int} {d k : Nat} {Q : Int → HV → Prop} {is : List Instr} {h : HV} {ls st : List AV} {o : Int} {a1 a2 : AV}  : X fz d k Q (.invokeinterface 38920 3 :: is) ls (a2 :: a1 :: (3, o) :: st) h = (((o ≠ 0 ∧ o % 64 = 0) ∧ wds st ≤ 8) ∧ 0 < d ∧ Sp fz (d - 1) 152 [(3, o), a1, a2] h (fun x h => X fz d k Q is ls ((0, x) :: st) h)) := rfl
theorem x_call153 {fz : Int → Int → Option Int} {d k : Nat} {Q : Int → HV → Prop} {is : List Instr} {h : HV} {ls st : List AV} {o : Int} {a1 a2 : AV}  : X fz d k Q (.invokeinterface 39200 3 :: is) ls (a2 :: a1 :: (3, o) :: st) h = (((o ≠ 0 ∧ o % 64 = 3) ∧ wds st ≤ 8) ∧ 0 < d ∧ Sp fz (d - 1) 153 [(3, o), a1, a2] h (fun x h => X fz d k Q is ls ((0, x) :: st) h)) := rfl
theorem x_call154 {fz : Int → Int → Option Int} {d k : Nat} {Q : Int → HV → Prop} {is : List Instr} {h : HV} {ls st : List AV} {a0 a1 : AV}  : X fz d k Q (.invokeinterface 39427 2 :: is) ls (a1 :: a0 :: st) h = ((True ∧ wds st ≤ 8) ∧ 0 < d ∧ Sp fz (d - 1) 154 [a0, a1] h (fun x h => X fz d k Q is ls ((3, x) :: st) h)) := rfl
theorem x_call155 {fz : Int → Int → Option Int} {d k : Nat} {Q : Int → HV → Prop} {is : List Instr} {h : HV} {ls st : List AV} {a0 a1 : AV}  : X fz d k Q (.invokeinterface 39683 2 :: is) ls (a1 :: a0 :: st) h = ((True ∧ wds st ≤ 8) ∧ 0 < d ∧ Sp fz (d - 1) 155 [a0, a1] h (fun x h => X fz d k Q is ls ((3, x) :: st) h)) := rfl
theorem x_call156 {fz : Int → Int → Option Int} {d k : Nat} {Q : Int → HV → Prop} {is : List Instr} {h : HV} {ls st : List AV} {o : Int} {a1 a2 a3 : AV}  : X fz d k Q (.invokeinterface 39980 4 :: is) ls (a3 :: a2 :: a1 :: (3, o) :: st) h = (((o ≠ 0 ∧ o % 64 = 4) ∧ wds st ≤ 8) ∧ 0 < d ∧ Sp fz (d - 1) 156 [(3, o), a1, a2, a3] h (fun x h => X fz d k Q is ls st h)) := rfl
theorem x_call157 {fz : Int → Int → Option Int} {d k : Nat} {Q : Int → HV → Prop} {is : List Instr} {h : HV} {ls st : List AV} {o : Int} {a1 a2 a3 a4 : AV}  : X fz d k Q (.invokeinterface 40200 5 :: is) ls (a4 :: a3 :: a2 :: a1 :: (3, o) :: st) h = (((o ≠ 0 ∧ o % 64 = 0) ∧ wds st ≤ 8) ∧ 0 < d ∧ Sp fz (d - 1) 157 [(3, o), a1, a2, a3, a4] h (fun x h => X fz d k Q is ls ((0, x) :: st) h)) := rfl
theorem x_call158 {fz : Int → Int → Option Int} {d k : Nat} {Q : Int → HV → Prop} {is : List Instr} {h : HV} {ls st : List AV} {o : Int} {a1 a2 : AV}  : X fz d k Q (.invokeinterface 40488 3 :: is) ls (a2 :: a1 :: (3, o) :: st) h = (((o ≠ 0 ∧ o % 64 = 4) ∧ wds st ≤ 8) ∧ 0 < d ∧ Sp fz (d - 1) 158 [(3, o), a1, a2] h (fun x h => X fz d k Q is ls ((0, x) :: st) h)) := rfl
theorem x_call159 {fz : Int → Int → Option Int} {d k : Nat} {Q : Int → HV → Prop} {is : List Instr} {h : HV} {ls st : List AV} {o : Int} {a1 a2 : AV}  : X fz d k Q (.invokeinterface 40736 3 :: is) ls (a2 :: a1 :: (3, o) :: st) h = (((o ≠ 0 ∧ o % 64 = 3) ∧ wds st ≤ 8) ∧ 0 < d ∧ Sp fz (d - 1) 159 [(3, o), a1, a2] h (fun x h => X fz d k Q is ls ((0, x) :: st) h)) := rfl
theorem x_call16 {fz : Int → Int → Option Int} {d k : Nat} {Q : Int → HV → Prop} {is : List Instr} {h : HV} {ls st : List AV} {o : Int} {a1 : AV}  : X fz d k Q (.invokeinterface 4148 2 :: is) ls (a1 :: (3, o) :: st) h = (((o ≠ 0 ∧ o % 64 = 5) ∧ wds st ≤ 8) ∧ 0 < d ∧ Sp fz (d - 1) 16 [(3, o), a1] h (fun x h => X fz d k Q is ls st h)) := rfl
theorem x_call160 {fz : Int → Int → Option Int} {d k : Nat} {Q : Int → HV → Prop} {is : List Instr} {h : HV} {ls st : List AV} {o : Int} {a1 : AV}  : X fz d k Q (.invokeinterface 40992 2 :: is) ls (a1 :: (3, o) :: st) h = (((o ≠ 0 ∧ o % 64 = 3) ∧ wds st ≤ 8) ∧ 0 < d ∧ Sp fz (d - 1) 160 [(3, o), a1] h (fun x h => X fz d k Q is ls ((0, x) :: st) h)) := rfl
theorem x_call161 {fz : Int → Int → Option Int} {d k : Nat} {Q : Int → HV → Prop} {is : List Instr} {h : HV} {ls st : List AV} {o : Int} {a1 a2 : AV}  : X fz d k Q (.invokeinterface 41249 3 :: is) ls (a2 :: a1 :: (3, o) :: st) h = (((o ≠ 0 ∧ o % 64 = 3) ∧ wds st ≤ 8) ∧ 0 < d ∧ Sp fz (d - 1) 161 [(3, o), a1, a2] h (fun x h => X fz d k Q is ls ((1, x) :: st) h)) := rfl
theorem x_call162 {fz : Int → Int → Option Int} {d k : Nat} {Q : Int → HV → Prop} {is : List Instr} {h : HV} {ls st : List AV} {o : Int} {a1 a2 a3 : AV}  : X fz d k Q (.invokeinterface 41508 4 :: is) ls (a3 :: a2 :: a1 :: (3, o) :: st) h = (((o ≠ 0 ∧ o % 64 = 3) ∧ wds st ≤ 8) ∧ 0 < d ∧ Sp fz (d - 1) 162 [(3, o), a1, a2, a3] h (fun x h => X fz d k Q is ls st h)) := rfl
theorem x_call163 {fz : Int → Int → Option Int} {d k : Nat} {Q : Int → HV → Prop} {is : List Instr} {h : HV} {ls st : List AV} {o : Int} {a1 a2 a3 : AV}  : X fz d k Q (.invokeinterface 41736 4 :: is) ls (a3 :: a2 :: a1 :: (3, o) :: st) h = (((o ≠ 0 ∧ o % 64 = 0) ∧ wds st ≤ 8) ∧ 0 < d ∧ Sp fz (d - 1) 163 [(3, o), a1, a2, a3] h (fun x h => X fz d k Q is ls ((0, x) :: st) h)) := rfl
theorem x_call164 {fz : Int → Int → Option Int} {d k : Nat} {Q : Int → HV → Prop} {is : List Instr} {h : HV} {ls st : List AV} {o : Int} {a1 a2 a3 a4 a5 a6 : AV}  : X fz d k Q (.invokeinterface 41992 7 :: is) ls (a6 :: a5 :: a4 :: a3 :: a2 :: a1 :: (3, o) :: st) h = (((o ≠ 0 ∧ o % 64 = 0) ∧ wds st ≤ 8) ∧ 0 < d ∧ Sp fz (d - 1) 164 [(3, o), a1, a2, a3, a4, a5, a6] h (fun x h => X fz d k Q is ls ((0, x) :: st) h)) := rfl
theorem x_call165 {fz : Int → Int → Option Int} {d k : Nat} {Q : Int → HV → Prop} {is : List Instr} {h : HV} {ls st : List AV} {a0 : AV}  : X fz d k Q (.invokeinterface 42240 1 :: is) ls (a0 :: st) h = ((True ∧ wds st ≤ 8) ∧ 0 < d ∧ Sp fz (d - 1) 165 [a0] h (fun x h => X fz d k Q is ls ((0, x) :: st) h)) := rfl
theorem x_call166 {fz : Int → Int → Option Int} {d k : Nat} {Q : Int → HV → Prop} {is : List Instr} {h : HV} {ls st : List AV} {o : Int} {a1 a2 a3 a4 a5 a6 : AV}  : X fz d k Q (.invokeinterface 42544 7 :: is) ls (a6 :: a5 :: a4 :: a3 :: a2 :: a1 :: (3, o) :: st) h = (((o ≠ 0 ∧ o % 64 = 5) ∧ wds st ≤ 8) ∧ 0 < d ∧ Sp fz (d - 1) 166 [(3, o), a1, a2, a3, a4, a5, a6] h (fun x h => X fz d k Q is ls ((0, x) :: st) h)) := rfl
theorem x_call167 {fz : Int → Int → Option Int} {d k : Nat} {Q : Int → HV → Prop} {is : List Instr} {h : HV} {ls st : List AV} {o : Int} {a1 : AV}  : X fz d k Q (.invokeinterface 42812 2 :: is) ls (a1 :: (3, o) :: st) h = (((o ≠ 0 ∧ o % 64 = 6) ∧ wds st ≤ 8) ∧ 0 < d ∧ Sp fz (d - 1) 167 [(3, o), a1] h (fun x h => X fz d k Q is ls st h)) := rfl
theorem x_call168 {fz : Int → Int → Option Int} {d k : Nat} {Q : Int → HV → Prop} {is : List Instr} {h : HV} {ls st : List AV} {o : Int} {a1 a2 : AV}  : X fz d k Q (.invokeinterface 43068 3 :: is) ls (a2 :: a1 :: (3, o) :: st) h = (((o ≠ 0 ∧ o % 64 = 6) ∧ wds st ≤ 8) ∧ 0 < d ∧ Sp fz (d - 1) 168 [(3, o), a1, a2] h (fun x h => X fz d k Q is ls st h)) := rfl
theorem x_call169 {fz : Int → Int → Option Int} {d k : Nat} {Q : Int → HV → Prop} {is : List Instr} {h : HV} {ls st : List AV} {o : Int} {a1 a2 : AV}  : X fz d k Q (.invokeinterface 43316 3 :: is) ls (a2 :: a1 :: (3, o) :: st) h = (((o ≠ 0 ∧ o % 64 = 5) ∧ wds st ≤ 8) ∧ 0 < d ∧ Sp fz (d - 1) 169 [(3, o), a1, a2] h (fun x h => X fz d k Q is ls st h)) := rfl
theorem x_call17 {fz : Int → Int → Option Int} {d k : Nat} {Q : Int → HV → Prop} {is : List Instr} {h : HV} {ls st : List AV} {o : Int} {a1 : AV}  : X fz d k Q (.invokeinterface 4428 2 :: is) ls (a1 :: (3, o) :: st) h = (((o ≠ 0 ∧ o % 64 = 8) ∧ wds st ≤ 8) ∧ 0 < d ∧ Sp fz (d - 1) 17 [(3, o), a1] h (fun x h => X fz d k Q is ls st h)) := rfl
theorem x_call170 {fz : Int → Int → Option Int} {d k : Nat} {Q : Int → HV → Prop} {is : List Instr} {h : HV} {ls st : List AV} {o : Int}  : X fz d k Q (.invokeinterface 43576 1 :: is) ls ((3, o) :: st) h = (((o ≠ 0 ∧ o % 64 = 6) ∧ wds st ≤ 8) ∧ 0 < d ∧ Sp fz (d - 1) 170 [(3, o)] h (fun x h => X fz d k Q is ls ((0, x) :: st) h)) := rfl
theorem x_call171 {fz : Int → Int → Option Int} {d k : Nat} {Q : Int → HV → Prop} {is : List Instr} {h : HV} {ls st : List AV} {o : Int} {a1 : AV}  : X fz d k Q (.invokeinterface 43836 2 :: is) ls (a1 :: (3, o) :: st) h = (((o ≠ 0 ∧ o % 64 = 6) ∧ wds st ≤ 8) ∧ 0 < d ∧ Sp fz (d - 1) 171 [(3, o), a1] h (fun x h => X fz d k Q is ls st h)) := rfl
theorem x_call172 {fz : Int → Int → Option Int} {d k : Nat} {Q : Int → HV → Prop} {is : List Instr} {h : HV} {ls st : List AV} {o : Int}  : X fz d k Q (.invokeinterface 44080 1 :: is) ls ((3, o) :: st) h = (((o ≠ 0 ∧ o % 64 = 5) ∧ wds st ≤ 8) ∧ 0 < d ∧ Sp fz (d - 1) 172 [(3, o)] h (fun x h => X fz d k Q is ls ((0, x) :: st) h)) := rfl
theorem x_call173 {fz : Int → Int → Option Int} {d k : Nat} {Q : Int → HV → Prop} {is : List Instr} {h : HV} {ls st : List AV} {o : Int} {a1 : AV}  : X fz d k Q (.invokeinterface 44340 2 :: is) ls (a1 :: (3, o) :: st) h = (((o ≠ 0 ∧ o % 64 = 5) ∧ wds st ≤ 8) ∧ 0 < d ∧ Sp fz (d - 1) 173 [(3, o), a1] h (fun x h => X fz d k Q is ls st h)) := rfl
theorem x_call174 {fz : Int → Int → Option Int} {d k : Nat} {Q : Int → HV → Prop} {is : List Instr} {h : HV} {ls st : List AV} {o : Int}  : X fz d k Q (.invokeinterface 44592 1 :: is) ls ((3, o) :: st) h = (((o ≠ 0 ∧ o % 64 = 5) ∧ wds st ≤ 8) ∧ 0 < d ∧ Sp fz (d - 1) 174 [(3, o)] h (fun x h => X fz d k Q is ls ((0, x) :: st) h)) := rfl
theorem x_call175 {fz : Int → Int → Option Int} {d k : Nat} {Q : Int → HV → Prop} {is : List Instr} {h : HV} {ls st : List AV} {o : Int} {a1 a2 : AV}  : X fz d k Q (.invokeinterface 44852 3 :: is) ls (a2 :: a1 :: (3, o) :: st) h = (((o ≠ 0 ∧ o % 64 = 5) ∧ wds st ≤ 8) ∧ 0 < d ∧ Sp fz (d - 1) 175 [(3, o), a1, a2] h (fun x h => X fz d k Q is ls st h)) := rfl
theorem x_call176 {fz : Int → Int → Option Int} {d k : Nat} {Q : Int → HV → Prop} {is : List Instr} {h : HV} {ls st : List AV} {o : Int}  : X fz d k Q (.invokeinterface 45108 1 :: is) ls ((3, o) :: st) h = (((o ≠ 0 ∧ o % 64 = 5) ∧ wds st ≤ 8) ∧ 0 < d ∧ Sp fz (d - 1) 176 [(3, o)] h (fun x h => X fz d k Q is ls st h)) := rfl
theorem x_call177 {fz : Int → Int → Option Int} {d k : Nat} {Q : Int → HV → Prop} {is : List Instr} {h : HV} {ls st : List AV} {o : Int} {a1 : AV}  : X fz d k Q (.invokeinterface 45364 2 :: is) ls (a1 :: (3, o) :: st) h = (((o ≠ 0 ∧ o % 64 = 5) ∧ wds st ≤ 8) ∧ 0 < d ∧ Sp fz (d - 1) 177 [(3, o), a1] h (fun x h => X fz d k Q is ls st h)) := rfl
theorem x_call178 {fz : Int → Int → Option Int} {d k : Nat} {Q : Int → HV → Prop} {is : List Instr} {h : HV} {ls st : List AV} {o : Int} {a1 : AV}  : X fz d k Q (.invokeinterface 45616 2 :: is) ls (a1 :: (3, o) :: st) h = (((o ≠ 0 ∧ o % 64 = 5) ∧ wds st ≤ 8) ∧ 0 < d ∧ Sp fz (d - 1) 178 [(3, o), a1] h (fun x h => X fz d k Q is ls ((0, x) :: st) h)) := rfl
theorem x_call179 {fz : Int → Int → Option Int} {d k : Nat} {Q : Int → HV → Prop} {is : List Instr} {h : HV} {ls st : List AV} {o : Int} {a1 : AV}  : X fz d k Q (.invokeinterface 45880 2 :: is) ls (a1 :: (3, o) :: st) h = (((o ≠ 0 ∧ o % 64 = 6) ∧ wds st ≤ 8) ∧ 0 < d ∧ Sp fz (d - 1) 179 [(3, o), a1] h (fun x h => X fz d k Q is ls ((0, x) :: st) h)) := rfl
theorem x_call18 {fz : Int → Int → Option Int} {d k : Nat} {Q : Int → HV → Prop} {is : List Instr} {h : HV} {ls st : List AV} {o : Int}  : X fz d k Q (.invokeinterface 4684 1 :: is) ls ((3, o) :: st) h = (((o ≠ 0 ∧ o % 64 = 8) ∧ wds st ≤ 8) ∧ 0 < d ∧ Sp fz (d - 1) 18 [(3, o)] h (fun x h => X fz d k Q is ls st h)) := rfl
theorem x_call180 {fz : Int → Int → Option Int} {d k : Nat} {Q : Int → HV → Prop} {is : List Instr} {h : HV} {ls st : List AV} {o : Int} {a1 : AV}  : X fz d k Q (.invokeinterface 46137 2 :: is) ls (a1 :: (3, o) :: st) h = (((o ≠ 0 ∧ o % 64 = 6) ∧ wds st ≤ 8) ∧ 0 < d ∧ Sp fz (d - 1) 180 [(3, o), a1] h (fun x h => X fz d k Q is ls ((1, x) :: st) h)) := rfl
theorem x_call181 {fz : Int → Int → Option Int} {d k : Nat} {Q : Int → HV → Prop} {is : List Instr} {h : HV} {ls st : List AV} {o : Int} {a1 : AV}  : X fz d k Q (.invokeinterface 46388 2 :: is) ls (a1 :: (3, o) :: st) h = (((o ≠ 0 ∧ o % 64 = 5) ∧ wds st ≤ 8) ∧ 0 < d ∧ Sp fz (d - 1) 181 [(3, o), a1] h (fun x h => X fz d k Q is ls st h)) := rfl
theorem x_call182 {fz : Int → Int → Option Int} {d k : Nat} {Q : Int → HV → Prop} {is : List Instr} {h : HV} {ls st : List AV} {o : Int} {a1 : AV}  : X fz d k Q (.invokeinterface 46648 2 :: is) ls (a1 :: (3, o) :: st) h = (((o ≠ 0 ∧ o % 64 = 6) ∧ wds st ≤ 8) ∧ 0 < d ∧ Sp fz (d - 1) 182 [(3, o), a1] h (fun x h => X fz d k Q is ls ((0, x) :: st) h)) := rfl
theorem x_call183 {fz : Int → Int → Option Int} {d k : Nat} {Q : Int → HV → Prop} {is : List Instr} {h : HV} {ls st : List AV} {o : Int} {a1 : AV}  : X fz d k Q (.invokeinterface 46905 2 :: is) ls (a1 :: (3, o) :: st) h = (((o ≠ 0 ∧ o % 64 = 6) ∧ wds st ≤ 8) ∧ 0 < d ∧ Sp fz (d - 1) 183 [(3, o), a1] h (fun x h => X fz d k Q is ls ((1, x) :: st) h)) := rfl
theorem x_call184 {fz : Int → Int → Option Int} {d k : Nat} {Q : Int → HV → Prop} {is : List Instr} {h : HV} {ls st : List AV} {o : Int} {a1 a2 a3 : AV}  : X fz d k Q (.invokeinterface 47164 4 :: is) ls (a3 :: a2 :: a1 :: (3, o) :: st) h = (((o ≠ 0 ∧ o % 64 = 6) ∧ wds st ≤ 8) ∧ 0 < d ∧ Sp fz (d - 1) 184 [(3, o), a1, a2, a3] h (fun x h => X fz d k Q is ls st h)) := rfl
theorem x_call185 {fz : Int → Int → Option Int} {d k : Nat} {Q : Int → HV → Prop} {is : List Instr} {h : HV} {ls st : List AV} {o : Int} {a1 : AV}  : X fz d k Q (.invokeinterface 47412 2 :: is) ls (a1 :: (3, o) :: st) h = (((o ≠ 0 ∧ o % 64 = 5) ∧ wds st ≤ 8) ∧ 0 < d ∧ Sp fz (d - 1) 185 [(3, o), a1] h (fun x h => X fz d k Q is ls st h)) := rfl
theorem x_call186 {fz : Int → Int → Option Int} {d k : Nat} {Q : Int → HV → Prop} {is : List Instr} {h : HV} {ls st : List AV} {o : Int} {a1 : AV}  : X fz d k Q (.invokeinterface 47664 2 :: is) ls (a1 :: (3, o) :: st) h = (((o ≠ 0 ∧ o % 64 = 5) ∧ wds st ≤ 8) ∧ 0 < d ∧ Sp fz (d - 1) 186 [(3, o), a1] h (fun x h => X fz d k Q is ls ((0, x) :: st) h)) := rfl
theorem x_call187 {fz : Int → Int → Option Int} {d k : Nat} {Q : Int → HV → Prop} {is : List Instr} {h : HV} {ls st : List AV} {o : Int} {a1 : AV}  : X fz d k Q (.invokeinterface 47920 2 :: is) ls (a1 :: (3, o) :: st) h = (((o ≠ 0 ∧ o % 64 = 5) ∧ wds st ≤ 8) ∧ 0 < d ∧ Sp fz (d - 1) 187 [(3, o), a1] h (fun x h => X fz d k Q is ls ((0, x) :: st) h)) := rfl
theorem x_call188 {fz : Int → Int → Option Int} {d k : Nat} {Q : Int → HV → Prop} {is : List Instr} {h : HV} {ls st : List AV} {o : Int} {a1 : AV}  : X fz d k Q (.invokeinterface 48180 2 :: is) ls (a1 :: (3, o) :: st) h = (((o ≠ 0 ∧ o % 64 = 5) ∧ wds st ≤ 8) ∧ 0 < d ∧ Sp fz (d - 1) 188 [(3, o), a1] h (fun x h => X fz d k Q is ls st h)) := rfl
theorem x_call189 {fz : Int → Int → Option Int} {d k : Nat} {Q : Int → HV → Prop} {is : List Instr} {h : HV} {ls st : List AV} {a0 : AV}  : X fz d k Q (.invokeinterface 48384 1 :: is) ls (a0 :: st) h = ((True ∧ wds st ≤ 8) ∧ 0 < d ∧ Sp fz (d - 1) 189 [a0] h (fun x h => X fz d k Q is ls ((0, x) :: st) h)) := rfl
theorem x_call19 {fz : Int → Int → Option Int} {d k : Nat} {Q : Int → HV → Prop} {is : List Instr} {h : HV} {ls st : List AV} {o : Int}  : X fz d k Q (.invokeinterface 4940 1 :: is) ls ((3, o) :: st) h = (((o ≠ 0 ∧ o % 64 = 8) ∧ wds st ≤ 8) ∧ 0 < d ∧ Sp fz (d - 1) 19 [(3, o)] h (fun x h => X fz d k Q is ls st h)) := rfl
theorem x_call190 {fz : Int → Int → Option Int} {d k : Nat} {Q : Int → HV → Prop} {is : List Instr} {h : HV} {ls st : List AV} {o : Int} {a1 : AV}  : X fz d k Q (.invokeinterface 48688 2 :: is) ls (a1 :: (3, o) :: st) h = (((o ≠ 0 ∧ o % 64 = 5) ∧ wds st ≤ 8) ∧ 0 < d ∧ Sp fz (d - 1) 190 [(3, o), a1] h (fun x h => X fz d k Q is ls ((0, x) :: st) h)) := rfl
theorem x_call191 {fz : Int → Int → Option Int} {d k : Nat} {Q : Int → HV → Prop} {is : List Instr} {h : HV} {ls st : List AV} {o : Int} {a1 a2 : AV}  : X fz d k Q (.invokeinterface 48944 3 :: is) ls (a2 :: a1 :: (3, o) :: st) h = (((o ≠ 0 ∧ o % 64 = 5) ∧ wds st ≤ 8) ∧ 0 < d ∧ Sp fz (d - 1) 191 [(3, o), a1, a2] h (fun x h => X fz d k Q is ls ((0, x) :: st) h)) := rfl
theorem x_call192 {fz : Int → Int → Option Int} {d k : Nat} {Q : Int → HV → Prop} {is : List Instr} {h : HV} {ls st : List AV} {o : Int} {a1 : AV}  : X fz d k Q (.invokeinterface 49200 2 :: is) ls (a1 :: (3, o) :: st) h = (((o ≠ 0 ∧ o % 64 = 5) ∧ wds st ≤ 8) ∧ 0 < d ∧ Sp fz (d - 1) 192 [(3, o), a1] h (fun x h => X fz d k Q is ls ((0, x) :: st) h)) := rfl
theorem x_call193 {fz : Int → Int → Option Int} {d k : Nat} {Q : Int → HV → Prop} {is : List Instr} {h : HV} {ls st : List AV} {o : Int} {a1 : AV}  : X fz d k Q (.invokeinterface 49448 2 :: is) ls (a1 :: (3, o) :: st) h = (((o ≠ 0 ∧ o % 64 = 4) ∧ wds st ≤ 8) ∧ 0 < d ∧ Sp fz (d - 1) 193 [(3, o), a1] h (fun x h => X fz d k Q is ls ((0, x) :: st) h)) := rfl
theorem x_call194 {fz : Int → Int → Option Int} {d k : Nat} {Q : Int → HV → Prop} {is : List Instr} {h : HV} {ls st : List AV} {o : Int} {a1 : AV}  : X fz d k Q (.invokeinterface 49713 2 :: is) ls (a1 :: (3, o) :: st) h = (((o ≠ 0 ∧ o % 64 = 5) ∧ wds st ≤ 8) ∧ 0 < d ∧ Sp fz (d - 1) 194 [(3, o), a1] h (fun x h => X fz d k Q is ls ((1, x) :: st) h)) := rfl
theorem x_call195 {fz : Int → Int → Option Int} {d k : Nat} {Q : Int → HV → Prop} {is : List Instr} {h : HV} {ls st : List AV} {o : Int} {a1 : AV}  : X fz d k Q (.invokeinterface 49972 2 :: is) ls (a1 :: (3, o) :: st) h = (((o ≠ 0 ∧ o % 64 = 5) ∧ wds st ≤ 8) ∧ 0 < d ∧ Sp fz (d - 1) 195 [(3, o), a1] h (fun x h => X fz d k Q is ls st h)) := rfl
theorem x_call196 {fz : Int → Int → Option Int} {d k : Nat} {Q : Int → HV → Prop} {is : List Instr} {h : HV} {ls st : List AV} {o : Int}  : X fz d k Q (.invokeinterface 50224 1 :: is) ls ((3, o) :: st) h = (((o ≠ 0 ∧ o % 64 = 5) ∧ wds st ≤ 8) ∧ 0 < d ∧ Sp fz (d - 1) 196 [(3, o)] h (fun x h => X fz d k Q is ls ((0, x) :: st) h)) := rfl
theorem x_call197 {fz : Int → Int → Option Int} {d k : Nat} {Q : Int → HV → Prop} {is : List Instr} {h : HV} {ls st : List AV} {o : Int}  : X fz d k Q (.invokeinterface 50480 1 :: is) ls ((3, o) :: st) h = (((o ≠ 0 ∧ o % 64 = 5) ∧ wds st ≤ 8) ∧ 0 < d ∧ Sp fz (d - 1) 197 [(3, o)] h (fun x h => X fz d k Q is ls ((0, x) :: st) h)) := rfl
theorem x_call198 {fz : Int → Int → Option Int} {d k : Nat} {Q : Int → HV → Prop} {is : List Instr} {h : HV} {ls st : List AV} {o : Int} {a1 a2 a3 : AV}  : X fz d k Q (.invokeinterface 50740 4 :: is) ls (a3 :: a2 :: a1 :: (3, o) :: st) h = (((o ≠ 0 ∧ o % 64 = 5) ∧ wds st ≤ 8) ∧ 0 < d ∧ Sp fz (d - 1) 198 [(3, o), a1, a2, a3] h (fun x h => X fz d k Q is ls st h)) := rfl
theorem x_call199 {fz : Int → Int → Option Int} {d k : Nat} {Q : Int → HV → Prop} {is : List Instr} {h : HV} {ls st : List AV} {o : Int} {a1 a2 : AV}  : X fz d k Q (.invokeinterface 50996 3 :: is) ls (a2 :: a1 :: (3, o) :: st) h = (((o ≠ 0 ∧ o % 64 = 5) ∧ wds st ≤ 8) ∧ 0 < d ∧ Sp fz (d - 1) 199 [(3, o), a1, a2] h (fun x h => X fz d k Q is ls st h)) := rfl
theorem x_call2 {fz : Int → Int → Option Int} {d k : Nat} {Q : Int → HV → Prop} {is : List Instr} {h : HV} {ls st : List AV} {o : Int}  : X fz d k Q (.invokeinterface 532 1 :: is) ls ((3, o) :: st) h = (((o ≠ 0 ∧ o % 64 = 1) ∧ wds st ≤ 8) ∧ 0 < d ∧ Sp fz (d - 1) 2 [(3, o)] h (fun x h => X fz d k Q is ls st h)) := rfl
theorem x_call20 {fz : Int → Int → Option Int} {d k : Nat} {Q : Int → HV → Prop} {is : List Instr} {h : HV} {ls st : List AV} {o : Int} {a1 : AV}  : X fz d k Q (.invokeinterface 5204 2 :: is) ls (a1 :: (3, o) :: st) h = (((o ≠ 0 ∧ o % 64 = 9) ∧ wds st ≤ 8) ∧ 0 < d ∧ Sp fz (d - 1) 20 [(3, o), a1] h (fun x h => X fz d k Q is ls st h)) := rfl
theorem x_call200 {fz : Int → Int → Option Int} {d k : Nat} {Q : Int → HV → Prop} {is : List Instr} {h : HV} {ls st : List AV} {o : Int} {a1 a2 a3 : AV}  : X fz d k Q (.invokeinterface 51260 4 :: is) ls (a3 :: a2 :: a1 :: (3, o) :: st) h = (((o ≠ 0 ∧ o % 64 = 6) ∧ wds st ≤ 8) ∧ 0 < d ∧ Sp fz (d - 1) 200 [(3, o), a1, a2, a3] h (fun x h => X fz d k Q is ls st h)) := rfl
theorem x_call201 {fz : Int → Int → Option Int} {d k : Nat} {Q : Int → HV → Prop} {is : List Instr} {h : HV} {ls st : List AV} {a0 a1 : AV}  : X fz d k Q (.invokeinterface 51457 2 :: is) ls (a1 :: a0 :: st) h = ((True ∧ wds st ≤ 8) ∧ 0 < d ∧ Sp fz (d - 1) 201 [a0, a1] h (fun x h => X fz d k Q is ls ((1, x) :: st) h)) := rfl
theorem x_call202 {fz : Int → Int → Option Int} {d k : Nat} {Q : Int → HV → Prop} {is : List Instr} {h : HV} {ls st : List AV} {a0 a1 : AV}  : X fz d k Q (.invokeinterface 51713 2 :: is) ls (a1 :: a0 :: st) h = ((True ∧ wds st ≤ 8) ∧ 0 < d ∧ Sp fz (d - 1) 202 [a0, a1] h (fun x h => X fz d k Q is ls ((1, x) :: st) h)) := rfl
theorem x_call203 {fz : Int → Int → Option Int} {d k : Nat} {Q : Int → HV → Prop} {is : List Instr} {h : HV} {ls st : List AV} {a0 : AV}  : X fz d k Q (.invokeinterface 51969 1 :: is) ls (a0 :: st) h = ((True ∧ wds st ≤ 8) ∧ 0 < d ∧ Sp fz (d - 1) 203 [a0] h (fun x h => X fz d k Q is ls ((1, x) :: st) h)) := rfl
theorem x_call204 {fz : Int → Int → Option Int} {d k : Nat} {Q : Int → HV → Prop} {is : List Instr} {h : HV} {ls st : List AV} {a0 a1 : AV}  : X fz d k Q (.invokeinterface 52225 2 :: is) ls (a1 :: a0 :: st) h = ((True ∧ wds st ≤ 8) ∧ 0 < d ∧ Sp fz (d - 1) 204 [a0, a1] h (fun x h => X fz d k Q is ls ((1, x) :: st) h)) := rfl
theorem x_call205 {fz : Int → Int → Option Int} {d k : Nat} {Q : Int → HV → Prop} {is : List Instr} {h : HV} {ls st : List AV} {a0 a1 : AV}  : X fz d k Q (.invokeinterface 52481 2 :: is) ls (a1 :: a0 :: st) h = ((True ∧ wds st ≤ 8) ∧ 0 < d ∧ Sp fz (d - 1) 205 [a0, a1] h (fun x h => X fz d k Q is ls ((1, x) :: st) h)) := rfl
theorem x_call206 {fz : Int → Int → Option Int} {d k : Nat} {Q : Int → HV → Prop} {is : List Instr} {h : HV} {ls st : List AV} {o : Int} {a1 : AV}  : X fz d k Q (.invokeinterface 52788 2 :: is) ls (a1 :: (3, o) :: st) h = (((o ≠ 0 ∧ o % 64 = 5) ∧ wds st ≤ 8) ∧ 0 < d ∧ Sp fz (d - 1) 206 [(3, o), a1] h (fun x h => X fz d k Q is ls st h)) := rfl
theorem x_call207 {fz : Int → Int → Option Int} {d k : Nat} {Q : Int → HV → Prop} {is : List Instr} {h : HV} {ls st : List AV} {a0 a1 : AV}  : X fz d k Q (.invokeinterface 52992 2 :: is) ls (a1 :: a0 :: st) h = ((True ∧ wds st ≤ 8) ∧ 0 < d ∧ Sp fz (d - 1) 207 [a0, a1] h (fun x h => X fz d k Q is ls ((0, x) :: st) h)) := rfl
theorem x_call208 {fz : Int → Int → Option Int} {d k : Nat} {Q : Int → HV → Prop} {is : List Instr} {h : HV} {ls st : List AV} {a0 : AV}  : X fz d k Q (.invokeinterface 53249 1 :: is) ls (a0 :: st) h = ((True ∧ wds st ≤ 8) ∧ 0 < d ∧ Sp fz (d - 1) 208 [a0] h (fun x h => X fz d k Q is ls ((1, x) :: st) h)) := rfl
theorem x_call209 {fz : Int → Int → Option Int} {d k : Nat} {Q : Int → HV → Prop} {is : List Instr} {h : HV} {ls st : List AV} {a0 a1 : AV}  : X fz d k Q (.invokeinterface 53504 2 :: is) ls (a1 :: a0 :: st) h = ((True ∧ wds st ≤ 8) ∧ 0 < d ∧ Sp fz (d - 1) 209 [a0, a1] h (fun x h => X fz d k Q is ls ((0, x) :: st) h)) := rfl
theorem x_call21 {fz : Int → Int → Option Int} {d k : Nat} {Q : Int → HV → Prop} {is : List Instr} {h : HV} {ls st : List AV} {o : Int} {a1 a2 : AV}  : X fz d k Q (.invokeinterface 5384 3 :: is) ls (a2 :: a1 :: (3, o) :: st) h = (((o ≠ 0 ∧ o % 64 = 0) ∧ wds st ≤ 8) ∧ 0 < d ∧ Sp fz (d - 1) 21 [(3, o), a1, a2] h (fun x h => X fz d k Q is ls ((0, x) :: st) h)) := rfl
theorem x_call210 {fz : Int → Int → Option Int} {d k : Nat} {Q : Int → HV → Prop} {is : List Instr} {h : HV} {ls st : List AV} {o : Int}  : X fz d k Q (.invokeinterface 53812 1 :: is) ls ((3, o) :: st) h = (((o ≠ 0 ∧ o % 64 = 5) ∧ wds st ≤ 8) ∧ 0 < d ∧ Sp fz (d - 1) 210 [(3, o)] h (fun x h => X fz d k Q is ls st h)) := rfl
theorem x_call211 {fz : Int → Int → Option Int} {d k : Nat} {Q : Int → HV → Prop} {is : List Instr} {h : HV} {ls st : List AV} {o : Int}  : X fz d k Q (.invokeinterface 54068 1 :: is) ls ((3, o) :: st) h = (((o ≠ 0 ∧ o % 64 = 5) ∧ wds st ≤ 8) ∧ 0 < d ∧ Sp fz (d - 1) 211 [(3, o)] h (fun x h => X fz d k Q is ls st h)) := rfl
theorem x_call212 {fz : Int → Int → Option Int} {d k : Nat} {Q : Int → HV → Prop} {is : List Instr} {h : HV} {ls st : List AV} {o : Int} {a1 : AV}  : X fz d k Q (.invokeinterface 54324 2 :: is) ls (a1 :: (3, o) :: st) h = (((o ≠ 0 ∧ o % 64 = 5) ∧ wds st ≤ 8) ∧ 0 < d ∧ Sp fz (d - 1) 212 [(3, o), a1] h (fun x h => X fz d k Q is ls st h)) := rfl
theorem x_call213 {fz : Int → Int → Option Int} {d k : Nat} {Q : Int → HV → Prop} {is : List Instr} {h : HV} {ls st : List AV} {o : Int}  : X fz d k Q (.invokeinterface 54580 1 :: is) ls ((3, o) :: st) h = (((o ≠ 0 ∧ o % 64 = 5) ∧ wds st ≤ 8) ∧ 0 < d ∧ Sp fz (d - 1) 213 [(3, o)] h (fun x h => X fz d k Q is ls st h)) := rfl
theorem x_call214 {fz : Int → Int → Option Int} {d k : Nat} {Q : Int → HV → Prop} {is : List Instr} {h : HV} {ls st : List AV} {o : Int} {a1 a2 : AV}  : X fz d k Q (.invokeinterface 54836 3 :: is) ls (a2 :: a1 :: (3, o) :: st) h = (((o ≠ 0 ∧ o % 64 = 5) ∧ wds st ≤ 8) ∧ 0 < d ∧ Sp fz (d - 1) 214 [(3, o), a1, a2] h (fun x h => X fz d k Q is ls st h)) := rfl
theorem x_call215 {fz : Int → Int → Option Int} {d k : Nat} {Q : Int → HV → Prop} {is : List Instr} {h : HV} {ls st : List AV} {o : Int} {a1 a2 a3 : AV}  : X fz d k Q (.invokeinterface 55092 4 :: is) ls (a3 :: a2 :: a1 :: (3, o) :: st) h = (((o ≠ 0 ∧ o % 64 = 5) ∧ wds st ≤ 8) ∧ 0 < d ∧ Sp fz (d - 1) 215 [(3, o), a1, a2, a3] h (fun x h => X fz d k Q is ls st h)) := rfl
theorem x_call216 {fz : Int → Int → Option Int} {d k : Nat} {Q : Int → HV → Prop} {is : List Instr} {h : HV} {ls st : List AV} {o : Int} {a1 : AV}  : X fz d k Q (.invokeinterface 55348 2 :: is) ls (a1 :: (3, o) :: st) h = (((o ≠ 0 ∧ o % 64 = 5) ∧ wds st ≤ 8) ∧ 0 < d ∧ Sp fz (d - 1) 216 [(3, o), a1] h (fun x h => X fz d k Q is ls st h)) := rfl
theorem x_call217 {fz : Int → Int → Option Int} {d k : Nat} {Q : Int → HV → Prop} {is : List Instr} {h : HV} {ls st : List AV} {o : Int}  : X fz d k Q (.invokeinterface 55604 1 :: is) ls ((3, o) :: st) h = (((o ≠ 0 ∧ o % 64 = 5) ∧ wds st ≤ 8) ∧ 0 < d ∧ Sp fz (d - 1) 217 [(3, o)] h (fun x h => X fz d k Q is ls st h)) := rfl
theorem x_call218 {fz : Int → Int → Option Int} {d k : Nat} {Q : Int → HV → Prop} {is : List Instr} {h : HV} {ls st : List AV} {o : Int}  : X fz d k Q (.invokeinterface 55860 1 :: is) ls ((3, o) :: st) h = (((o ≠ 0 ∧ o % 64 = 5) ∧ wds st ≤ 8) ∧ 0 < d ∧ Sp fz (d - 1) 218 [(3, o)] h (fun x h => X fz d k Q is ls st h)) := rfl
theorem x_call219 {fz : Int → Int → Option Int} {d k : Nat} {Q : Int → HV → Prop} {is : List Instr} {h : HV} {ls st : List AV} {o : Int}  : X fz d k Q (.invokeinterface 56116 1 :: is) ls ((3, o) :: st) h = (((o ≠ 0 ∧ o % 64 = 5) ∧ wds st ≤ 8) ∧ 0 < d ∧ Sp fz (d - 1) 219 [(3, o)] h (fun x h => X fz d k Q is ls st h)) := rfl
theorem x_call22 {fz : Int → Int → Option Int} {d k : Nat} {Q : Int → HV → Prop} {is : List Instr} {h : HV} {ls st : List AV} {o : Int} {a1 a2 : AV}  : X fz d k Q (.invokeinterface 5648 3 :: is) ls (a2 :: a1 :: (3, o) :: st) h = (((o ≠ 0 ∧ o % 64 = 1) ∧ wds st ≤ 8) ∧ 0 < d ∧ Sp fz (d - 1) 22 [(3, o), a1, a2] h (fun x h => X fz d k Q is ls ((0, x) :: st) h)) := rfl
theorem x_call220 {fz : Int → Int → Option Int} {d k : Nat} {Q : Int → HV → Prop} {is : List Instr} {h : HV} {ls st : List AV} {o : Int}  : X fz d k Q (.invokeinterface 56368 1 :: is) ls ((3, o) :: st) h = (((o ≠ 0 ∧ o % 64 = 5) ∧ wds st ≤ 8) ∧ 0 < d ∧ Sp fz (d - 1) 220 [(3, o)] h (fun x h => X fz d k Q is ls ((0, x) :: st) h)) := rfl
theorem x_call221 {fz : Int → Int → Option Int} {d k : Nat} {Q : Int → HV → Prop} {is : List Instr} {h : HV} {ls st : List AV} {o : Int} {a1 : AV}  : X fz d k Q (.invokeinterface 56628 2 :: is) ls (a1 :: (3, o) :: st) h = (((o ≠ 0 ∧ o % 64 = 5) ∧ wds st ≤ 8) ∧ 0 < d ∧ Sp fz (d - 1) 221 [(3, o), a1] h (fun x h => X fz d k Q is ls st h)) := rfl
theorem x_call222 {fz : Int → Int → Option Int} {d k : Nat} {Q : Int → HV → Prop} {is : List Instr} {h : HV} {ls st : List AV} {o : Int}  : X fz d k Q (.invokeinterface 56884 1 :: is) ls ((3, o) :: st) h = (((o ≠ 0 ∧ o % 64 = 5) ∧ wds st ≤ 8) ∧ 0 < d ∧ Sp fz (d - 1) 222 [(3, o)] h (fun x h => X fz d k Q is ls st h)) := rfl
theorem x_call223 {fz : Int → Int → Option Int} {d k : Nat} {Q : Int → HV → Prop} {is : List Instr} {h : HV} {ls st : List AV} {o : Int}  : X fz d k Q (.invokeinterface 57140 1 :: is) ls ((3, o) :: st) h = (((o ≠ 0 ∧ o % 64 = 5) ∧ wds st ≤ 8) ∧ 0 < d ∧ Sp fz (d - 1) 223 [(3, o)] h (fun x h => X fz d k Q is ls st h)) := rfl
theorem x_call224 {fz : Int → Int → Option Int} {d k : Nat} {Q : Int → HV → Prop} {is : List Instr} {h : HV} {ls st : List AV} {o : Int}  : X fz d k Q (.invokeinterface 57396 1 :: is) ls ((3, o) :: st) h = (((o ≠ 0 ∧ o % 64 = 5) ∧ wds st ≤ 8) ∧ 0 < d ∧ Sp fz (d - 1) 224 [(3, o)] h (fun x h => X fz d k Q is ls st h)) := rfl
theorem x_call225 {fz : Int → Int → Option Int} {d k : Nat} {Q : Int → HV → Prop} {is : List Instr} {h : HV} {ls st : List AV} {o : Int}  : X fz d k Q (.invokeinterface 57652 1 :: is) ls ((3, o) :: st) h = (((o ≠ 0 ∧ o % 64 = 5) ∧ wds st ≤ 8) ∧ 0 < d ∧ Sp fz (d - 1) 225 [(3, o)] h (fun x h => X fz d k Q is ls st h)) := rfl
theorem x_call226 {fz : Int → Int → Option Int} {d k : Nat} {Q : Int → HV → Prop} {is : List Instr} {h : HV} {ls st : List AV} {a0 : AV}  : X fz d k Q (.invokeinterface 57856 1 :: is) ls (a0 :: st) h = ((True ∧ wds st ≤ 8) ∧ 0 < d ∧ Sp fz (d - 1) 226 [a0] h (fun x h => X fz d k Q is ls ((0, x) :: st) h)) := rfl
theorem x_call227 {fz : Int → Int → Option Int} {d k : Nat} {Q : Int → HV → Prop} {is : List Instr} {h : HV} {ls st : List AV} {o : Int}  : X fz d k Q (.invokeinterface 58164 1 :: is) ls ((3, o) :: st) h = (((o ≠ 0 ∧ o % 64 = 5) ∧ wds st ≤ 8) ∧ 0 < d ∧ Sp fz (d - 1) 227 [(3, o)] h (fun x h => X fz d k Q is ls st h)) := rfl
theorem x_call228 {fz : Int → Int → Option Int} {d k : Nat} {Q : Int → HV → Prop} {is : List Instr} {h : HV} {ls st : List AV} {o : Int}  : X fz d k Q (.invokeinterface 58420 1 :: is) ls ((3, o) :: st) h = (((o ≠ 0 ∧ o % 64 = 5) ∧ wds st ≤ 8) ∧ 0 < d ∧ Sp fz (d - 1) 228 [(3, o)] h (fun x h => X fz d k Q is ls st h)) := rfl
theorem x_call229 {fz : Int → Int → Option Int} {d k : Nat} {Q : Int → HV → Prop} {is : List Instr} {h : HV} {ls st : List AV} {o : Int}  : X fz d k Q (.invokeinterface 58676 1 :: is) ls ((3, o) :: st) h = (((o ≠ 0 ∧ o % 64 = 5) ∧ wds st ≤ 8) ∧ 0 < d ∧ Sp fz (d - 1) 229 [(3, o)] h (fun x h => X fz d k Q is ls st h)) := rfl
theorem x_call23 {fz : Int → Int → Option Int} {d k : Nat} {Q : Int → HV → Prop} {is : List Instr} {h : HV} {ls st : List AV} {o : Int}  : X fz d k Q (.invokeinterface 5904 1 :: is) ls ((3, o) :: st) h = (((o ≠ 0 ∧ o % 64 = 1) ∧ wds st ≤ 8) ∧ 0 < d ∧ Sp fz (d - 1) 23 [(3, o)] h (fun x h => X fz d k Q is ls ((0, x) :: st) h)) := rfl
theorem x_call230 {fz : Int → Int → Option Int} {d k : Nat} {Q : Int → HV → Prop} {is : List Instr} {h : HV} {ls st : List AV} {o : Int}  : X fz d k Q (.invokeinterface 58932 1 :: is) ls ((3, o) :: st) h = (((o ≠ 0 ∧ o % 64 = 5) ∧ wds st ≤ 8) ∧ 0 < d ∧ Sp fz (d - 1) 230 [(3, o)] h (fun x h => X fz d k Q is ls st h)) := rfl
theorem x_call231 {fz : Int → Int → Option Int} {d k : Nat} {Q : Int → HV → Prop} {is : List Instr} {h : HV} {ls st : List AV} {o : Int}  : X fz d k Q (.invokeinterface 59188 1 :: is) ls ((3, o) :: st) h = (((o ≠ 0 ∧ o % 64 = 5) ∧ wds st ≤ 8) ∧ 0 < d ∧ Sp fz (d - 1) 231 [(3, o)] h (fun x h => X fz d k Q is ls st h)) := rfl
theorem x_call232 {fz : Int → Int → Option Int} {d k : Nat} {Q : Int → HV → Prop} {is : List Instr} {h : HV} {ls st : List AV} {o : Int} {a1 a2 : AV}  : X fz d k Q (.invokeinterface 59440 3 :: is) ls (a2 :: a1 :: (3, o) :: st) h = (((o ≠ 0 ∧ o % 64 = 5) ∧ wds st ≤ 8) ∧ 0 < d ∧ Sp fz (d - 1) 232 [(3, o), a1, a2] h (fun x h => X fz d k Q is ls ((0, x) :: st) h)) := rfl
theorem x_call233 {fz : Int → Int → Option Int} {d k : Nat} {Q : Int → HV → Prop} {is : List Instr} {h : HV} {ls st : List AV} {o : Int}  : X fz d k Q (.invokeinterface 59697 1 :: is) ls ((3, o) :: st) h = (((o ≠ 0 ∧ o % 64 = 5) ∧ wds st ≤ 8) ∧ 0 < d ∧ Sp fz (d - 1) 233 [(3, o)] h (fun x h => X fz d k Q is ls ((1, x) :: st) h)) := rfl
theorem x_call234 {fz : Int → Int → Option Int} {d k : Nat} {Q : Int → HV → Prop} {is : List Instr} {h : HV} {ls st : List AV} {o : Int}  : X fz d k Q (.invokeinterface 59952 1 :: is) ls ((3, o) :: st) h = (((o ≠ 0 ∧ o % 64 = 5) ∧ wds st ≤ 8) ∧ 0 < d ∧ Sp fz (d - 1) 234 [(3, o)] h (fun x h => X fz d k Q is ls ((0, x) :: st) h)) := rfl
theorem x_call235 {fz : Int → Int → Option Int} {d k : Nat} {Q : Int → HV → Prop} {is : List Instr} {h : HV} {ls st : List AV} {o : Int} {a1 : AV}  : X fz d k Q (.invokeinterface 60169 2 :: is) ls (a1 :: (3, o) :: st) h = (((o ≠ 0 ∧ o % 64 = 0) ∧ wds st ≤ 8) ∧ 0 < d ∧ Sp fz (d - 1) 235 [(3, o), a1] h (fun x h => X fz d k Q is ls ((1, x) :: st) h)) := rfl
theorem x_call236 {fz : Int → Int → Option Int} {d k : Nat} {Q : Int → HV → Prop} {is : List Instr} {h : HV} {ls st : List AV} {o : Int}  : X fz d k Q (.invokeinterface 60424 1 :: is) ls ((3, o) :: st) h = (((o ≠ 0 ∧ o % 64 = 0) ∧ wds st ≤ 8) ∧ 0 < d ∧ Sp fz (d - 1) 236 [(3, o)] h (fun x h => X fz d k Q is ls ((0, x) :: st) h)) := rfl
theorem x_call237 {fz : Int → Int → Option Int} {d k : Nat} {Q : Int → HV → Prop} {is : List Instr} {h : HV} {ls st : List AV} {o : Int} {a1 a2 : AV}  : X fz d k Q (.invokeinterface 60680 3 :: is) ls (a2 :: a1 :: (3, o) :: st) h = (((o ≠ 0 ∧ o % 64 = 0) ∧ wds st ≤ 8) ∧ 0 < d ∧ Sp fz (d - 1) 237 [(3, o), a1, a2] h (fun x h => X fz d k Q is ls ((0, x) :: st) h)) := rfl
theorem x_call238 {fz : Int → Int → Option Int} {d k : Nat} {Q : Int → HV → Prop} {is : List Instr} {h : HV} {ls st : List AV} {o : Int} {a1 a2 : AV}  : X fz d k Q (.invokeinterface 60940 3 :: is) ls (a2 :: a1 :: (3, o) :: st) h = (((o ≠ 0 ∧ o % 64 = 0) ∧ wds st ≤ 8) ∧ 0 < d ∧ Sp fz (d - 1) 238 [(3, o), a1, a2] h (fun x h => X fz d k Q is ls st h)) := rfl
theorem x_call239 {fz : Int → Int → Option Int} {d k : Nat} {Q : Int → HV → Prop} {is : List Instr} {h : HV} {ls st : List AV} {o : Int} {a1 a2 a3 : AV}  : X fz d k Q (.invokeinterface 61192 4 :: is) ls (a3 :: a2 :: a1 :: (3, o) :: st) h = (((o ≠ 0 ∧ o % 64 = 0) ∧ wds st ≤ 8) ∧ 0 < d ∧ Sp fz (d - 1) 239 [(3, o), a1, a2, a3] h (fun x h => X fz d k Q is ls ((0, x) :: st) h)) := rfl
theorem x_call24 {fz : Int → Int → Option Int} {d k : Nat} {Q : Int → HV → Prop} {is : List Instr} {h : HV} {ls st : List AV} {o : Int}  : X fz d k Q (.invokeinterface 6152 1 :: is) ls ((3, o) :: st) h = (((o ≠ 0 ∧ o % 64 = 0) ∧ wds st ≤ 8) ∧ 0 < d ∧ Sp fz (d - 1) 24 [(3, o)] h (fun x h => X fz d k Q is ls ((0, x) :: st) h)) := rfl
theorem x_call240 {fz : Int → Int → Option Int} {d k : Nat} {Q : Int → HV → Prop} {is : List Instr} {h : HV} {ls st : List AV} {o : Int} {a1 : AV}  : X fz d k Q (.invokeinterface 61448 2 :: is) ls (a1 :: (3, o) :: st) h = (((o ≠ 0 ∧ o % 64 = 0) ∧ wds st ≤ 8) ∧ 0 < d ∧ Sp fz (d - 1) 240 [(3, o), a1] h (fun x h => X fz d k Q is ls ((0, x) :: st) h)) := rfl
theorem x_call241 {fz : Int → Int → Option Int} {d k : Nat} {Q : Int → HV → Prop} {is : List Instr} {h : HV} {ls st : List AV} {o : Int} {a1 : AV}  : X fz d k Q (.invokeinterface 61704 2 :: is) ls (a1 :: (3, o) :: st) h = (((o ≠ 0 ∧ o % 64 = 0) ∧ wds st ≤ 8) ∧ 0 < d ∧ Sp fz (d - 1) 241 [(3, o), a1] h (fun x h => X fz d k Q is ls ((0, x) :: st) h)) := rfl
theorem x_call242 {fz : Int → Int → Option Int} {d k : Nat} {Q : Int → HV → Prop} {is : List Instr} {h : HV} {ls st : List AV} {o : Int}  : X fz d k Q (.invokeinterface 62016 1 :: is) ls ((3, o) :: st) h = (((o ≠ 0 ∧ o % 64 = 7) ∧ wds st ≤ 8) ∧ 0 < d ∧ Sp fz (d - 1) 242 [(3, o)] h (fun x h => X fz d k Q is ls ((0, x) :: st) h)) := rfl
theorem x_call243 {fz : Int → Int → Option Int} {d k : Nat} {Q : Int → HV → Prop} {is : List Instr} {h : HV} {ls st : List AV} {o : Int} {a1 : AV}  : X fz d k Q (.invokeinterface 62276 2 :: is) ls (a1 :: (3, o) :: st) h = (((o ≠ 0 ∧ o % 64 = 7) ∧ wds st ≤ 8) ∧ 0 < d ∧ Sp fz (d - 1) 243 [(3, o), a1] h (fun x h => X fz d k Q is ls st h)) := rfl
theorem x_call244 {fz : Int → Int → Option Int} {d k : Nat} {Q : Int → HV → Prop} {is : List Instr} {h : HV} {ls st : List AV} {o : Int} {a1 a2 a3 : AV}  : X fz d k Q (.invokeinterface 62472 4 :: is) ls (a3 :: a2 :: a1 :: (3, o) :: st) h = (((o ≠ 0 ∧ o % 64 = 0) ∧ wds st ≤ 8) ∧ 0 < d ∧ Sp fz (d - 1) 244 [(3, o), a1, a2, a3] h (fun x h => X fz d k Q is ls ((0, x) :: st) h)) := rfl
theorem x_call245 {fz : Int → Int → Option Int} {d k : Nat} {Q : Int → HV → Prop} {is : List Instr} {h : HV} {ls st : List AV} {o : Int} {a1 a2 a3 : AV}  : X fz d k Q (.invokeinterface 62728 4 :: is) ls (a3 :: a2 :: a1 :: (3, o) :: st) h = (((o ≠ 0 ∧ o % 64 = 0) ∧ wds st ≤ 8) ∧ 0 < d ∧ Sp fz (d - 1) 245 [(3, o), a1, a2, a3] h (fun x h => X fz d k Q is ls ((0, x) :: st) h)) := rfl
theorem x_call246 {fz : Int → Int → Option Int} {d k : Nat} {Q : Int → HV → Prop} {is : List Instr} {h : HV} {ls st : List AV} {o : Int} {a1 : AV}  : X fz d k Q (.invokeinterface 63040 2 :: is) ls (a1 :: (3, o) :: st) h = (((o ≠ 0 ∧ o % 64 = 7) ∧ wds st ≤ 8) ∧ 0 < d ∧ Sp fz (d - 1) 246 [(3, o), a1] h (fun x h => X fz d k Q is ls ((0, x) :: st) h)) := rfl
theorem x_call247 {fz : Int → Int → Option Int} {d k : Nat} {Q : Int → HV → Prop} {is : List Instr} {h : HV} {ls st : List AV} {o : Int}  : X fz d k Q (.invokeinterface 63296 1 :: is) ls ((3, o) :: st) h = (((o ≠ 0 ∧ o % 64 = 7) ∧ wds st ≤ 8) ∧ 0 < d ∧ Sp fz (d - 1) 247 [(3, o)] h (fun x h => X fz d k Q is ls ((0, x) :: st) h)) := rfl
theorem x_call248 {fz : Int → Int → Option Int} {d k : Nat} {Q : Int → HV → Prop} {is : List Instr} {h : HV} {ls st : List AV} {o : Int} {a1 a2 a3 : AV}  : X fz d k Q (.invokeinterface 63556 4 :: is) ls (a3 :: a2 :: a1 :: (3, o) :: st) h = (((o ≠ 0 ∧ o % 64 = 7) ∧ wds st ≤ 8) ∧ 0 < d ∧ Sp fz (d - 1) 248 [(3, o), a1, a2, a3] h (fun x h => X fz d k Q is ls st h)) := rfl
theorem x_call249 {fz : Int → Int → Option Int} {d k : Nat} {Q : Int → HV → Prop} {is : List Instr} {h : HV} {ls st : List AV} {o : Int} {a1 a2 a3 : AV}  : X fz d k Q (.invokeinterface 63752 4 :: is) ls (a3 :: a2 :: a1 :: (3, o) :: st) h = (((o ≠ 0 ∧ o % 64 = 0) ∧ wds st ≤ 8) ∧ 0 < d ∧ Sp fz (d - 1) 249 [(3, o), a1, a2, a3] h (fun x h => X fz d k Q is ls ((0, x) :: st) h)) := rfl
theorem x_call25 {fz : Int → Int → Option Int} {d k : Nat} {Q : Int → HV → Prop} {is : List Instr} {h : HV} {ls st : List AV} {o : Int} {a1 : AV}  : X fz d k Q (.invokeinterface 6424 2 :: is) ls (a1 :: (3, o) :: st) h = (((o ≠ 0 ∧ o % 64 = 2) ∧ wds st ≤ 8) ∧ 0 < d ∧ Sp fz (d - 1) 25 [(3, o), a1] h (fun x h => X fz d k Q is ls ((0, x) :: st) h)) := rfl
theorem x_call250 {fz : Int → Int → Option Int} {d k : Nat} {Q : Int → HV → Prop} {is : List Instr} {h : HV} {ls st : List AV} {o : Int} {a1 a2 a3 : AV}  : X fz d k Q (.invokeinterface 64064 4 :: is) ls (a3 :: a2 :: a1 :: (3, o) :: st) h = (((o ≠ 0 ∧ o % 64 = 7) ∧ wds st ≤ 8) ∧ 0 < d ∧ Sp fz (d - 1) 250 [(3, o), a1, a2, a3] h (fun x h => X fz d k Q is ls ((0, x) :: st) h)) := rfl
theorem x_call251 {fz : Int → Int → Option Int} {d k : Nat} {Q : Int → HV → Prop} {is : List Instr} {h : HV} {ls st : List AV} {o : Int} {a1 a2 : AV}  : X fz d k Q (.invokeinterface 64320 3 :: is) ls (a2 :: a1 :: (3, o) :: st) h = (((o ≠ 0 ∧ o % 64 = 7) ∧ wds st ≤ 8) ∧ 0 < d ∧ Sp fz (d - 1) 251 [(3, o), a1, a2] h (fun x h => X fz d k Q is ls ((0, x) :: st) h)) := rfl
theorem x_call252 {fz : Int → Int → Option Int} {d k : Nat} {Q : Int → HV → Prop} {is : List Instr} {h : HV} {ls st : List AV} {o : Int} {a1 : AV}  : X fz d k Q (.invokeinterface 64520 2 :: is) ls (a1 :: (3, o) :: st) h = (((o ≠ 0 ∧ o % 64 = 0) ∧ wds st ≤ 8) ∧ 0 < d ∧ Sp fz (d - 1) 252 [(3, o), a1] h (fun x h => X fz d k Q is ls ((0, x) :: st) h)) := rfl
theorem x_call253 {fz : Int → Int → Option Int} {d k : Nat} {Q : Int → HV → Prop} {is : List Instr} {h : HV} {ls st : List AV} {o : Int} {a1 : AV}  : X fz d k Q (.invokeinterface 64832 2 :: is) ls (a1 :: (3, o) :: st) h = (((o ≠ 0 ∧ o % 64 = 7) ∧ wds st ≤ 8) ∧ 0 < d ∧ Sp fz (d - 1) 253 [(3, o), a1] h (fun x h => X fz d k Q is ls ((0, x) :: st) h)) := rfl
theorem x_call254 {fz : Int → Int → Option Int} {d k : Nat} {Q : Int → HV → Prop} {is : List Instr} {h : HV} {ls st : List AV} {o : Int}  : X fz d k Q (.invokeinterface 65092 1 :: is) ls ((3, o) :: st) h = (((o ≠ 0 ∧ o % 64 = 7) ∧ wds st ≤ 8) ∧ 0 < d ∧ Sp fz (d - 1) 254 [(3, o)] h (fun x h => X fz d k Q is ls st h)) := rfl
theorem x_call255 {fz : Int → Int → Option Int} {d k : Nat} {Q : Int → HV → Prop} {is : List Instr} {h : HV} {ls st : List AV} {o : Int} {a1 : AV}  : X fz d k Q (.invokeinterface 65344 2 :: is) ls (a1 :: (3, o) :: st) h = (((o ≠ 0 ∧ o % 64 = 7) ∧ wds st ≤ 8) ∧ 0 < d ∧ Sp fz (d - 1) 255 [(3, o), a1] h (fun x h => X fz d k Q is ls ((0, x) :: st) h)) := rfl
theorem x_call256 {fz : Int → Int → Option Int} {d k : Nat} {Q : Int → HV → Prop} {is : List Instr} {h : HV} {ls st : List AV} {o : Int}  : X fz d k Q (.invokeinterface 65604 1 :: is) ls ((3, o) :: st) h = (((o ≠ 0 ∧ o % 64 = 7) ∧ wds st ≤ 8) ∧ 0 < d ∧ Sp fz (d - 1) 256 [(3, o)] h (fun x h => X fz d k Q is ls st h)) := rfl
theorem x_call257 {fz : Int → Int → Option Int} {d k : Nat} {Q : Int → HV → Prop} {is : List Instr} {h : HV} {ls st : List AV} {o : Int} {a1 : AV}  : X fz d k Q (.invokeinterface 65860 2 :: is) ls (a1 :: (3, o) :: st) h = (((o ≠ 0 ∧ o % 64 = 7) ∧ wds st ≤ 8) ∧ 0 < d ∧ Sp fz (d - 1) 257 [(3, o), a1] h (fun x h => X fz d k Q is ls st h)) := rfl
theorem x_call258 {fz : Int → Int → Option Int} {d k : Nat} {Q : Int → HV → Prop} {is : List Instr} {h : HV} {ls st : List AV} {o : Int} {a1 a2 a3 : AV}  : X fz d k Q (.invokeinterface 66116 4 :: is) ls (a3 :: a2 :: a1 :: (3, o) :: st) h = (((o ≠ 0 ∧ o % 64 = 7) ∧ wds st ≤ 8) ∧ 0 < d ∧ Sp fz (d - 1) 258 [(3, o), a1, a2, a3] h (fun x h => X fz d k Q is ls st h)) := rfl
theorem x_call259 {fz : Int → Int → Option Int} {d k : Nat} {Q : Int → HV → Prop} {is : List Instr} {h : HV} {ls st : List AV} {o : Int} {a1 : AV}  : X fz d k Q (.invokeinterface 66368 2 :: is) ls (a1 :: (3, o) :: st) h = (((o ≠ 0 ∧ o % 64 = 7) ∧ wds st ≤ 8) ∧ 0 < d ∧ Sp fz (d - 1) 259 [(3, o), a1] h (fun x h => X fz d k Q is ls ((0, x) :: st) h)) := rfl
theorem x_call26 {fz : Int → Int → Option Int} {d k : Nat} {Q : Int → HV → Prop} {is : List Instr} {h : HV} {ls st : List AV} {o : Int}  : X fz d k Q (.invokeinterface 6748 1 :: is) ls ((3, o) :: st) h = (((o ≠ 0 ∧ o % 64 = 10) ∧ wds st ≤ 8) ∧ 0 < d ∧ Sp fz (d - 1) 26 [(3, o)] h (fun x h => X fz d k Q is ls st h)) := rfl
theorem x_call260 {fz : Int → Int → Option Int} {d k : Nat} {Q : Int → HV → Prop} {is : List Instr} {h : HV} {ls st : List AV} {o : Int} {a1 : AV}  : X fz d k Q (.invokeinterface 66624 2 :: is) ls (a1 :: (3, o) :: st) h = (((o ≠ 0 ∧ o % 64 = 7) ∧ wds st ≤ 8) ∧ 0 < d ∧ Sp fz (d - 1) 260 [(3, o), a1] h (fun x h => X fz d k Q is ls ((0, x) :: st) h)) := rfl
theorem x_call261 {fz : Int → Int → Option Int} {d k : Nat} {Q : Int → HV → Prop} {is : List Instr} {h : HV} {ls st : List AV} {o : Int} {a1 : AV}  : X fz d k Q (.invokeinterface 66880 2 :: is) ls (a1 :: (3, o) :: st) h = (((o ≠ 0 ∧ o % 64 = 7) ∧ wds st ≤ 8) ∧ 0 < d ∧ Sp fz (d - 1) 261 [(3, o), a1] h (fun x h => X fz d k Q is ls ((0, x) :: st) h)) := rfl
theorem x_call262 {fz : Int → Int → Option Int} {d k : Nat} {Q : Int → HV → Prop} {is : List Instr} {h : HV} {ls st : List AV} {o : Int} {a1 : AV}  : X fz d k Q (.invokeinterface 67136 2 :: is) ls (a1 :: (3, o) :: st) h = (((o ≠ 0 ∧ o % 64 = 7) ∧ wds st ≤ 8) ∧ 0 < d ∧ Sp fz (d - 1) 262 [(3, o), a1] h (fun x h => X fz d k Q is ls ((0, x) :: st) h)) := rfl
theorem x_call263 {fz : Int → Int → Option Int} {d k : Nat} {Q : Int → HV → Prop} {is : List Instr} {h : HV} {ls st : List AV} {o : Int} {a1 a2 : AV}  : X fz d k Q (.invokeinterface 67392 3 :: is) ls (a2 :: a1 :: (3, o) :: st) h = (((o ≠ 0 ∧ o % 64 = 7) ∧ wds st ≤ 8) ∧ 0 < d ∧ Sp fz (d - 1) 263 [(3, o), a1, a2] h (fun x h => X fz d k Q is ls ((0, x) :: st) h)) := rfl
theorem x_call264 {fz : Int → Int → Option Int} {d k : Nat} {Q : Int → HV → Prop} {is : List Instr} {h : HV} {ls st : List AV} {o : Int} {a1 : AV}  : X fz d k Q (.invokeinterface 67592 2 :: is) ls (a1 :: (3, o) :: st) h = (((o ≠ 0 ∧ o % 64 = 0) ∧ wds st ≤ 8) ∧ 0 < d ∧ Sp fz (d - 1) 264 [(3, o), a1] h (fun x h => X fz d k Q is ls ((0, x) :: st) h)) := rfl
theorem x_call265 {fz : Int → Int → Option Int} {d k : Nat} {Q : Int → HV → Prop} {is : List Instr} {h : HV} {ls st : List AV} {o : Int}  : X fz d k Q (.invokeinterface 67904 1 :: is) ls ((3, o) :: st) h = (((o ≠ 0 ∧ o % 64 = 7) ∧ wds st ≤ 8) ∧ 0 < d ∧ Sp fz (d - 1) 265 [(3, o)] h (fun x h => X fz d k Q is ls ((0, x) :: st) h)) := rfl
theorem x_call266 {fz : Int → Int → Option Int} {d k : Nat} {Q : Int → HV → Prop} {is : List Instr} {h : HV} {ls st : List AV} {o : Int}  : X fz d k Q (.invokeinterface 68160 1 :: is) ls ((3, o) :: st) h = (((o ≠ 0 ∧ o % 64 = 7) ∧ wds st ≤ 8) ∧ 0 < d ∧ Sp fz (d - 1) 266 [(3, o)] h (fun x h => X fz d k Q is ls ((0, x) :: st) h)) := rfl
theorem x_call267 {fz : Int → Int → Option Int} {d k : Nat} {Q : Int → HV → Prop} {is : List Instr} {h : HV} {ls st : List AV} {o : Int}  : X fz d k Q (.invokeinterface 68416 1 :: is) ls ((3, o) :: st) h = (((o ≠ 0 ∧ o % 64 = 7) ∧ wds st ≤ 8) ∧ 0 < d ∧ Sp fz (d - 1) 267 [(3, o)] h (fun x h => X fz d k Q is ls ((0, x) :: st) h)) := rfl
theorem x_call268 {fz : Int → Int → Option Int} {d k : Nat} {Q : Int → HV → Prop} {is : List Instr} {h : HV} {ls st : List AV} {o : Int}  : X fz d k Q (.invokeinterface 68672 1 :: is) ls ((3, o) :: st) h = (((o ≠ 0 ∧ o % 64 = 7) ∧ wds st ≤ 8) ∧ 0 < d ∧ Sp fz (d - 1) 268 [(3, o)] h (fun x h => X fz d k Q is ls ((0, x) :: st) h)) := rfl
theorem x_call269 {fz : Int → Int → Option Int} {d k : Nat} {Q : Int → HV → Prop} {is : List Instr} {h : HV} {ls st : List AV} {o : Int} {a1 a2 : AV}  : X fz d k Q (.invokeinterface 68872 3 :: is) ls (a2 :: a1 :: (3, o) :: st) h = (((o ≠ 0 ∧ o % 64 = 0) ∧ wds st ≤ 8) ∧ 0 < d ∧ Sp fz (d - 1) 269 [(3, o), a1, a2] h (fun x h => X fz d k Q is ls ((0, x) :: st) h)) := rfl
theorem x_call27 {fz : Int → Int → Option Int} {d k : Nat} {Q : Int → HV → Prop} {is : List Instr} {h : HV} {ls st : List AV} {o : Int}  : X fz d k Q (.invokeinterface 6932 1 :: is) ls ((3, o) :: st) h = (((o ≠ 0 ∧ o % 64 = 1) ∧ wds st ≤ 8) ∧ 0 < d ∧ Sp fz (d - 1) 27 [(3, o)] h (fun x h => X fz d k Q is ls st h)) := rfl
theorem x_call270 {fz : Int → Int → Option Int} {d k : Nat} {Q : Int → HV → Prop} {is : List Instr} {h : HV} {ls st : List AV} {o : Int} {a1 : AV}  : X fz d k Q (.invokeinterface 69184 2 :: is) ls (a1 :: (3, o) :: st) h = (((o ≠ 0 ∧ o % 64 = 7) ∧ wds st ≤ 8) ∧ 0 < d ∧ Sp fz (d - 1) 270 [(3, o), a1] h (fun x h => X fz d k Q is ls ((0, x) :: st) h)) := rfl
theorem x_call271 {fz : Int → Int → Option Int} {d k : Nat} {Q : Int → HV → Prop} {is : List Instr} {h : HV} {ls st : List AV} {o : Int} {a1 : AV}  : X fz d k Q (.invokeinterface 69440 2 :: is) ls (a1 :: (3, o) :: st) h = (((o ≠ 0 ∧ o % 64 = 7) ∧ wds st ≤ 8) ∧ 0 < d ∧ Sp fz (d - 1) 271 [(3, o), a1] h (fun x h => X fz d k Q is ls ((0, x) :: st) h)) := rfl
theorem x_call272 {fz : Int → Int → Option Int} {d k : Nat} {Q : Int → HV → Prop} {is : List Instr} {h : HV} {ls st : List AV} {o : Int} {a1 a2 : AV}  : X fz d k Q (.invokeinterface 69640 3 :: is) ls (a2 :: a1 :: (3, o) :: st) h = (((o ≠ 0 ∧ o % 64 = 0) ∧ wds st ≤ 8) ∧ 0 < d ∧ Sp fz (d - 1) 272 [(3, o), a1, a2] h (fun x h => X fz d k Q is ls ((0, x) :: st) h)) := rfl
theorem x_call273 {fz : Int → Int → Option Int} {d k : Nat} {Q : Int → HV → Prop} {is : List Instr} {h : HV} {ls st : List AV} {o : Int} {a1 a2 : AV}  : X fz d k Q (.invokeinterface 69968 3 :: is) ls (a2 :: a1 :: (3, o) :: st) h = (((o ≠ 0 ∧ o % 64 = 9) ∧ wds st ≤ 8) ∧ 0 < d ∧ Sp fz (d - 1) 273 [(3, o), a1, a2] h (fun x h => X fz d k Q is ls ((0, x) :: st) h)) := rfl
theorem x_call274 {fz : Int → Int → Option Int} {d k : Nat} {Q : Int → HV → Prop} {is : List Instr} {h : HV} {ls st : List AV} {o : Int} {a1 a2 : AV}  : X fz d k Q (.invokeinterface 70224 3 :: is) ls (a2 :: a1 :: (3, o) :: st) h = (((o ≠ 0 ∧ o % 64 = 9) ∧ wds st ≤ 8) ∧ 0 < d ∧ Sp fz (d - 1) 274 [(3, o), a1, a2] h (fun x h => X fz d k Q is ls ((0, x) :: st) h)) := rfl
theorem x_call275 {fz : Int → Int → Option Int} {d k : Nat} {Q : Int → HV → Prop} {is : List Instr} {h : HV} {ls st : List AV} {o : Int} {a1 a2 : AV}  : X fz d k Q (.invokeinterface 70480 3 :: is) ls (a2 :: a1 :: (3, o) :: st) h = (((o ≠ 0 ∧ o % 64 = 9) ∧ wds st ≤ 8) ∧ 0 < d ∧ Sp fz (d - 1) 275 [(3, o), a1, a2] h (fun x h => X fz d k Q is ls ((0, x) :: st) h)) := rfl
theorem x_call276 {fz : Int → Int → Option Int} {d k : Nat} {Q : Int → HV → Prop} {is : List Instr} {h : HV} {ls st : List AV} {o : Int} {a1 : AV}  : X fz d k Q (.invokeinterface 70664 2 :: is) ls (a1 :: (3, o) :: st) h = (((o ≠ 0 ∧ o % 64 = 0) ∧ wds st ≤ 8) ∧ 0 < d ∧ Sp fz (d - 1) 276 [(3, o), a1] h (fun x h => X fz d k Q is ls ((0, x) :: st) h)) := rfl
theorem x_call277 {fz : Int → Int → Option Int} {d k : Nat} {Q : Int → HV → Prop} {is : List Instr} {h : HV} {ls st : List AV} {o : Int} {a1 : AV}  : X fz d k Q (.invokeinterface 70992 2 :: is) ls (a1 :: (3, o) :: st) h = (((o ≠ 0 ∧ o % 64 = 9) ∧ wds st ≤ 8) ∧ 0 < d ∧ Sp fz (d - 1) 277 [(3, o), a1] h (fun x h => X fz d k Q is ls ((0, x) :: st) h)) := rfl
theorem x_call278 {fz : Int → Int → Option Int} {d k : Nat} {Q : Int → HV → Prop} {is : List Instr} {h : HV} {ls st : List AV} {a0 a1 a2 : AV}  : X fz d k Q (.invokeinterface 71168 3 :: is) ls (a2 :: a1 :: a0 :: st) h = ((True ∧ wds st ≤ 8) ∧ 0 < d ∧ Sp fz (d - 1) 278 [a0, a1, a2] h (fun x h => X fz d k Q is ls ((0, x) :: st) h)) := rfl
theorem x_call279 {fz : Int → Int → Option Int} {d k : Nat} {Q : Int → HV → Prop} {is : List Instr} {h : HV} {ls st : List AV} {o : Int} {a1 a2 : AV}  : X fz d k Q (.invokeinterface 71432 3 :: is) ls (a2 :: a1 :: (3, o) :: st) h = (((o ≠ 0 ∧ o % 64 = 0) ∧ wds st ≤ 8) ∧ 0 < d ∧ Sp fz (d - 1) 279 [(3, o), a1, a2] h (fun x h => X fz d k Q is ls ((0, x) :: st) h)) := rfl
theorem x_call28 {fz : Int → Int → Option Int} {d k : Nat} {Q : Int → HV → Prop} {is : List Instr} {h : HV} {ls st : List AV} {o : Int} {a1 : AV}  : X fz d k Q (.invokeinterface 7188 2 :: is) ls (a1 :: (3, o) :: st) h = (((o ≠ 0 ∧ o % 64 = 1) ∧ wds st ≤ 8) ∧ 0 < d ∧ Sp fz (d - 1) 28 [(3, o), a1] h (fun x h => X fz d k Q is ls st h)) := rfl
theorem x_call280 {fz : Int → Int → Option Int} {d k : Nat} {Q : Int → HV → Prop} {is : List Instr} {h : HV} {ls st : List AV} {o : Int} {a1 a2 : AV}  : X fz d k Q (.invokeinterface 71760 3 :: is) ls (a2 :: a1 :: (3, o) :: st) h = (((o ≠ 0 ∧ o % 64 = 9) ∧ wds st ≤ 8) ∧ 0 < d ∧ Sp fz (d - 1) 280 [(3, o), a1, a2] h (fun x h => X fz d k Q is ls ((0, x) :: st) h)) := rfl
theorem x_call281 {fz : Int → Int → Option Int} {d k : Nat} {Q : Int → HV → Prop} {is : List Instr} {h : HV} {ls st : List AV} {a0 : AV}  : X fz d k Q (.invokeinterface 71936 1 :: is) ls (a0 :: st) h = ((True ∧ wds st ≤ 8) ∧ 0 < d ∧ Sp fz (d - 1) 281 [a0] h (fun x h => X fz d k Q is ls ((0, x) :: st) h)) := rfl
theorem x_call282 {fz : Int → Int → Option Int} {d k : Nat} {Q : Int → HV → Prop} {is : List Instr} {h : HV} {ls st : List AV} {o : Int} {a1 : AV}  : X fz d k Q (.invokeinterface 72200 2 :: is) ls (a1 :: (3, o) :: st) h = (((o ≠ 0 ∧ o % 64 = 0) ∧ wds st ≤ 8) ∧ 0 < d ∧ Sp fz (d - 1) 282 [(3, o), a1] h (fun x h => X fz d k Q is ls ((0, x) :: st) h)) := rfl
theorem x_call283 {fz : Int → Int → Option Int} {d k : Nat} {Q : Int → HV → Prop} {is : List Instr} {h : HV} {ls st : List AV} {o : Int}  : X fz d k Q (.invokeinterface 72528 1 :: is) ls ((3, o) :: st) h = (((o ≠ 0 ∧ o % 64 = 9) ∧ wds st ≤ 8) ∧ 0 < d ∧ Sp fz (d - 1) 283 [(3, o)] h (fun x h => X fz d k Q is ls ((0, x) :: st) h)) := rfl
theorem x_call284 {fz : Int → Int → Option Int} {d k : Nat} {Q : Int → HV → Prop} {is : List Instr} {h : HV} {ls st : List AV} {o : Int}  : X fz d k Q (.invokeinterface 72788 1 :: is) ls ((3, o) :: st) h = (((o ≠ 0 ∧ o % 64 = 9) ∧ wds st ≤ 8) ∧ 0 < d ∧ Sp fz (d - 1) 284 [(3, o)] h (fun x h => X fz d k Q is ls st h)) := rfl
theorem x_call285 {fz : Int → Int → Option Int} {d k : Nat} {Q : Int → HV → Prop} {is : List Instr} {h : HV} {ls st : List AV} {o : Int}  : X fz d k Q (.invokeinterface 73044 1 :: is) ls ((3, o) :: st) h = (((o ≠ 0 ∧ o % 64 = 9) ∧ wds st ≤ 8) ∧ 0 < d ∧ Sp fz (d - 1) 285 [(3, o)] h (fun x h => X fz d k Q is ls st h)) := rfl
theorem x_call286 {fz : Int → Int → Option Int} {d k : Nat} {Q : Int → HV → Prop} {is : List Instr} {h : HV} {ls st : List AV} {o : Int}  : X fz d k Q (.invokeinterface 73296 1 :: is) ls ((3, o) :: st) h = (((o ≠ 0 ∧ o % 64 = 9) ∧ wds st ≤ 8) ∧ 0 < d ∧ Sp fz (d - 1) 286 [(3, o)] h (fun x h => X fz d k Q is ls ((0, x) :: st) h)) := rfl
theorem x_call287 {fz : Int → Int → Option Int} {d k : Nat} {Q : Int → HV → Prop} {is : List Instr} {h : HV} {ls st : List AV} {o : Int} {a1 a2 : AV}  : X fz d k Q (.invokeinterface 73556 3 :: is) ls (a2 :: a1 :: (3, o) :: st) h = (((o ≠ 0 ∧ o % 64 = 9) ∧ wds st ≤ 8) ∧ 0 < d ∧ Sp fz (d - 1) 287 [(3, o), a1, a2] h (fun x h => X fz d k Q is ls st h)) := rfl
theorem x_call288 {fz : Int → Int → Option Int} {d k : Nat} {Q : Int → HV → Prop} {is : List Instr} {h : HV} {ls st : List AV} {o : Int} {a1 : AV}  : X fz d k Q (.invokeinterface 73808 2 :: is) ls (a1 :: (3, o) :: st) h = (((o ≠ 0 ∧ o % 64 = 9) ∧ wds st ≤ 8) ∧ 0 < d ∧ Sp fz (d - 1) 288 [(3, o), a1] h (fun x h => X fz d k Q is ls ((0, x) :: st) h)) := rfl
theorem x_call289 {fz : Int → Int → Option Int} {d k : Nat} {Q : Int → HV → Prop} {is : List Instr} {h : HV} {ls st : List AV} {o : Int} {a1 a2 : AV}  : X fz d k Q (.invokeinterface 74068 3 :: is) ls (a2 :: a1 :: (3, o) :: st) h = (((o ≠ 0 ∧ o % 64 = 9) ∧ wds st ≤ 8) ∧ 0 < d ∧ Sp fz (d - 1) 289 [(3, o), a1, a2] h (fun x h => X fz d k Q is ls st h)) := rfl
theorem x_call29 {fz : Int → Int → Option Int} {d k : Nat} {Q : Int → HV → Prop} {is : List Instr} {h : HV} {ls st : List AV} {o : Int} {a1 : AV}  : X fz d k Q (.invokeinterface 7440 2 :: is) ls (a1 :: (3, o) :: st) h = (((o ≠ 0 ∧ o % 64 = 1) ∧ wds st ≤ 8) ∧ 0 < d ∧ Sp fz (d - 1) 29 [(3, o), a1] h (fun x h => X fz d k Q is ls ((0, x) :: st) h)) := rfl
theorem x_call290 {fz : Int → Int → Option Int} {d k : Nat} {Q : Int → HV → Prop} {is : List Instr} {h : HV} {ls st : List AV} {o : Int} {a1 : AV}  : X fz d k Q (.invokeinterface 74320 2 :: is) ls (a1 :: (3, o) :: st) h = (((o ≠ 0 ∧ o % 64 = 9) ∧ wds st ≤ 8) ∧ 0 < d ∧ Sp fz (d - 1) 290 [(3, o), a1] h (fun x h => X fz d k Q is ls ((0, x) :: st) h)) := rfl
theorem x_call291 {fz : Int → Int → Option Int} {d k : Nat} {Q : Int → HV → Prop} {is : List Instr} {h : HV} {ls st : List AV} {o : Int} {a1 a2 a3 : AV}  : X fz d k Q (.invokeinterface 74576 4 :: is) ls (a3 :: a2 :: a1 :: (3, o) :: st) h = (((o ≠ 0 ∧ o % 64 = 9) ∧ wds st ≤ 8) ∧ 0 < d ∧ Sp fz (d - 1) 291 [(3, o), a1, a2, a3] h (fun x h => X fz d k Q is ls ((0, x) :: st) h)) := rfl
theorem x_call292 {fz : Int → Int → Option Int} {d k : Nat} {Q : Int → HV → Prop} {is : List Instr} {h : HV} {ls st : List AV} {o : Int}  : X fz d k Q (.invokeinterface 74832 1 :: is) ls ((3, o) :: st) h = (((o ≠ 0 ∧ o % 64 = 9) ∧ wds st ≤ 8) ∧ 0 < d ∧ Sp fz (d - 1) 292 [(3, o)] h (fun x h => X fz d k Q is ls ((0, x) :: st) h)) := rfl
theorem x_call293 {fz : Int → Int → Option Int} {d k : Nat} {Q : Int → HV → Prop} {is : List Instr} {h : HV} {ls st : List AV} {o : Int}  : X fz d k Q (.invokeinterface 75088 1 :: is) ls ((3, o) :: st) h = (((o ≠ 0 ∧ o % 64 = 9) ∧ wds st ≤ 8) ∧ 0 < d ∧ Sp fz (d - 1) 293 [(3, o)] h (fun x h => X fz d k Q is ls ((0, x) :: st) h)) := rfl
theorem x_call294 {fz : Int → Int → Option Int} {d k : Nat} {Q : Int → HV → Prop} {is : List Instr} {h : HV} {ls st : List AV} {o : Int}  : X fz d k Q (.invokeinterface 75348 1 :: is) ls ((3, o) :: st) h = (((o ≠ 0 ∧ o % 64 = 9) ∧ wds st ≤ 8) ∧ 0 < d ∧ Sp fz (d - 1) 294 [(3, o)] h (fun x h => X fz d k Q is ls st h)) := rfl
theorem x_call295 {fz : Int → Int → Option Int} {d k : Nat} {Q : Int → HV → Prop} {is : List Instr} {h : HV} {ls st : List AV} {o : Int} {a1 : AV}  : X fz d k Q (.invokeinterface 75600 2 :: is) ls (a1 :: (3, o) :: st) h = (((o ≠ 0 ∧ o % 64 = 9) ∧ wds st ≤ 8) ∧ 0 < d ∧ Sp fz (d - 1) 295 [(3, o), a1] h (fun x h => X fz d k Q is ls ((0, x) :: st) h)) := rfl
theorem x_call296 {fz : Int → Int → Option Int} {d k : Nat} {Q : Int → HV → Prop} {is : List Instr} {h : HV} {ls st : List AV} {o : Int}  : X fz d k Q (.invokeinterface 75856 1 :: is) ls ((3, o) :: st) h = (((o ≠ 0 ∧ o % 64 = 9) ∧ wds st ≤ 8) ∧ 0 < d ∧ Sp fz (d - 1) 296 [(3, o)] h (fun x h => X fz d k Q is ls ((0, x) :: st) h)) := rfl
theorem x_call297 {fz : Int → Int → Option Int} {d k : Nat} {Q : Int → HV → Prop} {is : List Instr} {h : HV} {ls st : List AV} {o : Int} {a1 : AV}  : X fz d k Q (.invokeinterface 76112 2 :: is) ls (a1 :: (3, o) :: st) h = (((o ≠ 0 ∧ o % 64 = 9) ∧ wds st ≤ 8) ∧ 0 < d ∧ Sp fz (d - 1) 297 [(3, o), a1] h (fun x h => X fz d k Q is ls ((0, x) :: st) h)) := rfl
theorem x_call298 {fz : Int → Int → Option Int} {d k : Nat} {Q : Int → HV → Prop} {is : List Instr} {h : HV} {ls st : List AV} {o : Int} {a1 : AV}  : X fz d k Q (.invokeinterface 76368 2 :: is) ls (a1 :: (3, o) :: st) h = (((o ≠ 0 ∧ o % 64 = 9) ∧ wds st ≤ 8) ∧ 0 < d ∧ Sp fz (d - 1) 298 [(3, o), a1] h (fun x h => X fz d k Q is ls ((0, x) :: st) h)) := rfl
theorem x_call299 {fz : Int → Int → Option Int} {d k : Nat} {Q : Int → HV → Prop} {is : List Instr} {h : HV} {ls st : List AV} {o : Int} {a1 : AV}  : X fz d k Q (.invokeinterface 76552 2 :: is) ls (a1 :: (3, o) :: st) h = (((o ≠ 0 ∧ o % 64 = 0) ∧ wds st ≤ 8) ∧ 0 < d ∧ Sp fz (d - 1) 299 [(3, o), a1] h (fun x h => X fz d k Q is ls ((0, x) :: st) h)) := rfl
theorem x_call3 {fz : Int → Int → Option Int} {d k : Nat} {Q : Int → HV → Prop} {is : List Instr} {h : HV} {ls st : List AV} {o : Int} {a1 : AV}  : X fz d k Q (.invokeinterface 796 2 :: is) ls (a1 :: (3, o) :: st) h = (((o ≠ 0 ∧ o % 64 = 2) ∧ wds st ≤ 8) ∧ 0 < d ∧ Sp fz (d - 1) 3 [(3, o), a1] h (fun x h => X fz d k Q is ls st h)) := rfl
theorem x_call30 {fz : Int → Int → Option Int} {d k : Nat} {Q : Int → HV → Prop} {is : List Instr} {h : HV} {ls st : List AV} {o : Int}  : X fz d k Q (.invokeinterface 7700 1 :: is) ls ((3, o) :: st) h = (((o ≠ 0 ∧ o % 64 = 1) ∧ wds st ≤ 8) ∧ 0 < d ∧ Sp fz (d - 1) 30 [(3, o)] h (fun x h => X fz d k Q is ls st h)) := rfl
theorem x_call300 {fz : Int → Int → Option Int} {d k : Nat} {Q : Int → HV → Prop} {is : List Instr} {h : HV} {ls st : List AV} {o : Int} {a1 : AV}  : X fz d k Q (.invokeinterface 76880 2 :: is) ls (a1 :: (3, o) :: st) h = (((o ≠ 0 ∧ o % 64 = 9) ∧ wds st ≤ 8) ∧ 0 < d ∧ Sp fz (d - 1) 300 [(3, o), a1] h (fun x h => X fz d k Q is ls ((0, x) :: st) h)) := rfl
theorem x_call301 {fz : Int → Int → Option Int} {d k : Nat} {Q : Int → HV → Prop} {is : List Instr} {h : HV} {ls st : List AV} {o : Int}  : X fz d k Q (.invokeinterface 77064 1 :: is) ls ((3, o) :: st) h = (((o ≠ 0 ∧ o % 64 = 0) ∧ wds st ≤ 8) ∧ 0 < d ∧ Sp fz (d - 1) 301 [(3, o)] h (fun x h => X fz d k Q is ls ((0, x) :: st) h)) := rfl
theorem x_call302 {fz : Int → Int → Option Int} {d k : Nat} {Q : Int → HV → Prop} {is : List Instr} {h : HV} {ls st : List AV} {o : Int}  : X fz d k Q (.invokeinterface 77392 1 :: is) ls ((3, o) :: st) h = (((o ≠ 0 ∧ o % 64 = 9) ∧ wds st ≤ 8) ∧ 0 < d ∧ Sp fz (d - 1) 302 [(3, o)] h (fun x h => X fz d k Q is ls ((0, x) :: st) h)) := rfl
theorem x_call303 {fz : Int → Int → Option Int} {d k : Nat} {Q : Int → HV → Prop} {is : List Instr} {h : HV} {ls st : List AV} {o : Int}  : X fz d k Q (.invokeinterface 77648 1 :: is) ls ((3, o) :: st) h = (((o ≠ 0 ∧ o % 64 = 9) ∧ wds st ≤ 8) ∧ 0 < d ∧ Sp fz (d - 1) 303 [(3, o)] h (fun x h => X fz d k Q is ls ((0, x) :: st) h)) := rfl
theorem x_call304 {fz : Int → Int → Option Int} {d k : Nat} {Q : Int → HV → Prop} {is : List Instr} {h : HV} {ls st : List AV} {o : Int} {a1 a2 : AV}  : X fz d k Q (.invokeinterface 77904 3 :: is) ls (a2 :: a1 :: (3, o) :: st) h = (((o ≠ 0 ∧ o % 64 = 9) ∧ wds st ≤ 8) ∧ 0 < d ∧ Sp fz (d - 1) 304 [(3, o), a1, a2] h (fun x h => X fz d k Q is ls ((0, x) :: st) h)) := rfl
theorem x_call305 {fz : Int → Int → Option Int} {d k : Nat} {Q : Int → HV → Prop} {is : List Instr} {h : HV} {ls st : List AV} {o : Int} {a1 a2 : AV}  : X fz d k Q (.invokeinterface 78160 3 :: is) ls (a2 :: a1 :: (3, o) :: st) h = (((o ≠ 0 ∧ o % 64 = 9) ∧ wds st ≤ 8) ∧ 0 < d ∧ Sp fz (d - 1) 305 [(3, o), a1, a2] h (fun x h => X fz d k Q is ls ((0, x) :: st) h)) := rfl
theorem x_call306 {fz : Int → Int → Option Int} {d k : Nat} {Q : Int → HV → Prop} {is : List Instr} {h : HV} {ls st : List AV} {o : Int} {a1 a2 a3 : AV}  : X fz d k Q (.invokeinterface 78344 4 :: is) ls (a3 :: a2 :: a1 :: (3, o) :: st) h = (((o ≠ 0 ∧ o % 64 = 0) ∧ wds st ≤ 8) ∧ 0 < d ∧ Sp fz (d - 1) 306 [(3, o), a1, a2, a3] h (fun x h => X fz d k Q is ls ((0, x) :: st) h)) := rfl
theorem x_call307 {fz : Int → Int → Option Int} {d k : Nat} {Q : Int → HV → Prop} {is : List Instr} {h : HV} {ls st : List AV} {o : Int} {a1 a2 a3 : AV}  : X fz d k Q (.invokeinterface 78668 4 :: is) ls (a3 :: a2 :: a1 :: (3, o) :: st) h = (((o ≠ 0 ∧ o % 64 = 8) ∧ wds st ≤ 8) ∧ 0 < d ∧ Sp fz (d - 1) 307 [(3, o), a1, a2, a3] h (fun x h => X fz d k Q is ls st h)) := rfl
theorem x_call308 {fz : Int → Int → Option Int} {d k : Nat} {Q : Int → HV → Prop} {is : List Instr} {h : HV} {ls st : List AV} {o : Int} {a1 : AV}  : X fz d k Q (.invokeinterface 78856 2 :: is) ls (a1 :: (3, o) :: st) h = (((o ≠ 0 ∧ o % 64 = 0) ∧ wds st ≤ 8) ∧ 0 < d ∧ Sp fz (d - 1) 308 [(3, o), a1] h (fun x h => X fz d k Q is ls ((0, x) :: st) h)) := rfl
theorem x_call309 {fz : Int → Int → Option Int} {d k : Nat} {Q : Int → HV → Prop} {is : List Instr} {h : HV} {ls st : List AV} {o : Int} {a1 : AV}  : X fz d k Q (.invokeinterface 79176 2 :: is) ls (a1 :: (3, o) :: st) h = (((o ≠ 0 ∧ o % 64 = 8) ∧ wds st ≤ 8) ∧ 0 < d ∧ Sp fz (d - 1) 309 [(3, o), a1] h (fun x h => X fz d k Q is ls ((0, x) :: st) h)) := rfl
theorem x_call31 {fz : Int → Int → Option Int} {d k : Nat} {Q : Int → HV → Prop} {is : List Instr} {h : HV} {ls st : List AV} {o : Int} {a1 : AV}  : X fz d k Q (.invokeinterface 7952 2 :: is) ls (a1 :: (3, o) :: st) h = (((o ≠ 0 ∧ o % 64 = 1) ∧ wds st ≤ 8) ∧ 0 < d ∧ Sp fz (d - 1) 31 [(3, o), a1] h (fun x h => X fz d k Q is ls ((0, x) :: st) h)) := rfl
theorem x_call310 {fz : Int → Int → Option Int} {d k : Nat} {Q : Int → HV → Prop} {is : List Instr} {h : HV} {ls st : List AV} {o : Int} {a1 : AV}  : X fz d k Q (.invokeinterface 79432 2 :: is) ls (a1 :: (3, o) :: st) h = (((o ≠ 0 ∧ o % 64 = 8) ∧ wds st ≤ 8) ∧ 0 < d ∧ Sp fz (d - 1) 310 [(3, o), a1] h (fun x h => X fz d k Q is ls ((0, x) :: st) h)) := rfl
theorem x_call311 {fz : Int → Int → Option Int} {d k : Nat} {Q : Int → HV → Prop} {is : List Instr} {h : HV} {ls st : List AV} {o : Int} {a1 : AV}  : X fz d k Q (.invokeinterface 79688 2 :: is) ls (a1 :: (3, o) :: st) h = (((o ≠ 0 ∧ o % 64 = 8) ∧ wds st ≤ 8) ∧ 0 < d ∧ Sp fz (d - 1) 311 [(3, o), a1] h (fun x h => X fz d k Q is ls ((0, x) :: st) h)) := rfl
theorem x_call312 {fz : Int → Int → Option Int} {d k : Nat} {Q : Int → HV → Prop} {is : List Instr} {h : HV} {ls st : List AV} {o : Int} {a1 a2 a3 : AV}  : X fz d k Q (.invokeinterface 79948 4 :: is) ls (a3 :: a2 :: a1 :: (3, o) :: st) h = (((o ≠ 0 ∧ o % 64 = 8) ∧ wds st ≤ 8) ∧ 0 < d ∧ Sp fz (d - 1) 312 [(3, o), a1, a2, a3] h (fun x h => X fz d k Q is ls st h)) := rfl
theorem x_call313 {fz : Int → Int → Option Int} {d k : Nat} {Q : Int → HV → Prop} {is : List Instr} {h : HV} {ls st : List AV} {o : Int} {a1 a2 : AV}  : X fz d k Q (.invokeinterface 80192 3 :: is) ls (a2 :: a1 :: (3, o) :: st) h = (((o ≠ 0 ∧ o % 64 = 7) ∧ wds st ≤ 8) ∧ 0 < d ∧ Sp fz (d - 1) 313 [(3, o), a1, a2] h (fun x h => X fz d k Q is ls ((0, x) :: st) h)) := rfl
theorem x_call314 {fz : Int → Int → Option Int} {d k : Nat} {Q : Int → HV → Prop} {is : List Instr} {h : HV} {ls st : List AV} {o : Int} {a1 : AV}  : X fz d k Q (.invokeinterface 80392 2 :: is) ls (a1 :: (3, o) :: st) h = (((o ≠ 0 ∧ o % 64 = 0) ∧ wds st ≤ 8) ∧ 0 < d ∧ Sp fz (d - 1) 314 [(3, o), a1] h (fun x h => X fz d k Q is ls ((0, x) :: st) h)) := rfl
theorem x_call315 {fz : Int → Int → Option Int} {d k : Nat} {Q : Int → HV → Prop} {is : List Instr} {h : HV} {ls st : List AV} {o : Int}  : X fz d k Q (.invokeinterface 80712 1 :: is) ls ((3, o) :: st) h = (((o ≠ 0 ∧ o % 64 = 8) ∧ wds st ≤ 8) ∧ 0 < d ∧ Sp fz (d - 1) 315 [(3, o)] h (fun x h => X fz d k Q is ls ((0, x) :: st) h)) := rfl
theorem x_call316 {fz : Int → Int → Option Int} {d k : Nat} {Q : Int → HV → Prop} {is : List Instr} {h : HV} {ls st : List AV} {o : Int} {a1 : AV}  : X fz d k Q (.invokeinterface 80968 2 :: is) ls (a1 :: (3, o) :: st) h = (((o ≠ 0 ∧ o % 64 = 8) ∧ wds st ≤ 8) ∧ 0 < d ∧ Sp fz (d - 1) 316 [(3, o), a1] h (fun x h => X fz d k Q is ls ((0, x) :: st) h)) := rfl
theorem x_call317 {fz : Int → Int → Option Int} {d k : Nat} {Q : Int → HV → Prop} {is : List Instr} {h : HV} {ls st : List AV} {o : Int}  : X fz d k Q (.invokeinterface 81252 1 :: is) ls ((3, o) :: st) h = (((o ≠ 0 ∧ o % 64 = 11) ∧ wds st ≤ 8) ∧ 0 < d ∧ Sp fz (d - 1) 317 [(3, o)] h (fun x h => X fz d k Q is ls st h)) := rfl
theorem x_call318 {fz : Int → Int → Option Int} {d k : Nat} {Q : Int → HV → Prop} {is : List Instr} {h : HV} {ls st : List AV} {o : Int}  : X fz d k Q (.invokeinterface 81516 1 :: is) ls ((3, o) :: st) h = (((o ≠ 0 ∧ o % 64 = 12) ∧ wds st ≤ 8) ∧ 0 < d ∧ Sp fz (d - 1) 318 [(3, o)] h (fun x h => X fz d k Q is ls st h)) := rfl
theorem x_call319 {fz : Int → Int → Option Int} {d k : Nat} {Q : Int → HV → Prop} {is : List Instr} {h : HV} {ls st : List AV} {o : Int} {a1 a2 : AV}  : X fz d k Q (.invokeinterface 81760 3 :: is) ls (a2 :: a1 :: (3, o) :: st) h = (((o ≠ 0 ∧ o % 64 = 11) ∧ wds st ≤ 8) ∧ 0 < d ∧ Sp fz (d - 1) 319 [(3, o), a1, a2] h (fun x h => X fz d k Q is ls ((0, x) :: st) h)) := rfl
theorem x_call32 {fz : Int → Int → Option Int} {d k : Nat} {Q : Int → HV → Prop} {is : List Instr} {h : HV} {ls st : List AV} {o : Int}  : X fz d k Q (.invokeinterface 8212 1 :: is) ls ((3, o) :: st) h = (((o ≠ 0 ∧ o % 64 = 1) ∧ wds st ≤ 8) ∧ 0 < d ∧ Sp fz (d - 1) 32 [(3, o)] h (fun x h => X fz d k Q is ls st h)) := rfl
theorem x_call320 {fz : Int → Int → Option Int} {d k : Nat} {Q : Int → HV → Prop} {is : List Instr} {h : HV} {ls st : List AV} {o : Int}  : X fz d k Q (.invokeinterface 82016 1 :: is) ls ((3, o) :: st) h = (((o ≠ 0 ∧ o % 64 = 11) ∧ wds st ≤ 8) ∧ 0 < d ∧ Sp fz (d - 1) 320 [(3, o)] h (fun x h => X fz d k Q is ls ((0, x) :: st) h)) := rfl
theorem x_call321 {fz : Int → Int → Option Int} {d k : Nat} {Q : Int → HV → Prop} {is : List Instr} {h : HV} {ls st : List AV} {o : Int}  : X fz d k Q (.invokeinterface 82276 1 :: is) ls ((3, o) :: st) h = (((o ≠ 0 ∧ o % 64 = 11) ∧ wds st ≤ 8) ∧ 0 < d ∧ Sp fz (d - 1) 321 [(3, o)] h (fun x h => X fz d k Q is ls st h)) := rfl
theorem x_call322 {fz : Int → Int → Option Int} {d k : Nat} {Q : Int → HV → Prop} {is : List Instr} {h : HV} {ls st : List AV} {a0 : AV}  : X fz d k Q (.invokeinterface 82432 1 :: is) ls (a0 :: st) h = ((True ∧ wds st ≤ 8) ∧ 0 < d ∧ Sp fz (d - 1) 322 [a0] h (fun x h => X fz d k Q is ls ((0, x) :: st) h)) := rfl
theorem x_call323 {fz : Int → Int → Option Int} {d k : Nat} {Q : Int → HV → Prop} {is : List Instr} {h : HV} {ls st : List AV} {o : Int} {a1 : AV}  : X fz d k Q (.invokeinterface 82784 2 :: is) ls (a1 :: (3, o) :: st) h = (((o ≠ 0 ∧ o % 64 = 11) ∧ wds st ≤ 8) ∧ 0 < d ∧ Sp fz (d - 1) 323 [(3, o), a1] h (fun x h => X fz d k Q is ls ((0, x) :: st) h)) := rfl
theorem x_call324 {fz : Int → Int → Option Int} {d k : Nat} {Q : Int → HV → Prop} {is : List Instr} {h : HV} {ls st : List AV} {a0 : AV}  : X fz d k Q (.invokeinterface 82944 1 :: is) ls (a0 :: st) h = ((True ∧ wds st ≤ 8) ∧ 0 < d ∧ Sp fz (d - 1) 324 [a0] h (fun x h => X fz d k Q is ls ((0, x) :: st) h)) := rfl
theorem x_call325 {fz : Int → Int → Option Int} {d k : Nat} {Q : Int → HV → Prop} {is : List Instr} {h : HV} {ls st : List AV} {o : Int}  : X fz d k Q (.invokeinterface 83296 1 :: is) ls ((3, o) :: st) h = (((o ≠ 0 ∧ o % 64 = 11) ∧ wds st ≤ 8) ∧ 0 < d ∧ Sp fz (d - 1) 325 [(3, o)] h (fun x h => X fz d k Q is ls ((0, x) :: st) h)) := rfl
theorem x_call326 {fz : Int → Int → Option Int} {d k : Nat} {Q : Int → HV → Prop} {is : List Instr} {h : HV} {ls st : List AV} {o : Int}  : X fz d k Q (.invokeinterface 83556 1 :: is) ls ((3, o) :: st) h = (((o ≠ 0 ∧ o % 64 = 11) ∧ wds st ≤ 8) ∧ 0 < d ∧ Sp fz (d - 1) 326 [(3, o)] h (fun x h => X fz d k Q is ls st h)) := rfl
theorem x_call327 {fz : Int → Int → Option Int} {d k : Nat} {Q : Int → HV → Prop} {is : List Instr} {h : HV} {ls st : List AV} {o : Int} {a1 : AV}  : X fz d k Q (.invokeinterface 83808 2 :: is) ls (a1 :: (3, o) :: st) h = (((o ≠ 0 ∧ o % 64 = 11) ∧ wds st ≤ 8) ∧ 0 < d ∧ Sp fz (d - 1) 327 [(3, o), a1] h (fun x h => X fz d k Q is ls ((0, x) :: st) h)) := rfl
theorem x_call328 {fz : Int → Int → Option Int} {d k : Nat} {Q : Int → HV → Prop} {is : List Instr} {h : HV} {ls st : List AV} {o : Int} {a1 a2 : AV}  : X fz d k Q (.invokeinterface 84064 3 :: is) ls (a2 :: a1 :: (3, o) :: st) h = (((o ≠ 0 ∧ o % 64 = 11) ∧ wds st ≤ 8) ∧ 0 < d ∧ Sp fz (d - 1) 328 [(3, o), a1, a2] h (fun x h => X fz d k Q is ls ((0, x) :: st) h)) := rfl
theorem x_call329 {fz : Int → Int → Option Int} {d k : Nat} {Q : Int → HV → Prop} {is : List Instr} {h : HV} {ls st : List AV} {o : Int}  : X fz d k Q (.invokeinterface 84320 1 :: is) ls ((3, o) :: st) h = (((o ≠ 0 ∧ o % 64 = 11) ∧ wds st ≤ 8) ∧ 0 < d ∧ Sp fz (d - 1) 329 [(3, o)] h (fun x h => X fz d k Q is ls ((0, x) :: st) h)) := rfl
theorem x_call33 {fz : Int → Int → Option Int} {d k : Nat} {Q : Int → HV → Prop} {is : List Instr} {h : HV} {ls st : List AV} {o : Int} {a1 : AV}  : X fz d k Q (.invokeinterface 8560 2 :: is) ls (a1 :: (3, o) :: st) h = (((o ≠ 0 ∧ o % 64 = 13) ∧ wds st ≤ 8) ∧ 0 < d ∧ Sp fz (d - 1) 33 [(3, o), a1] h (fun x h => X fz d k Q is ls ((0, x) :: st) h)) := rfl
theorem x_call330 {fz : Int → Int → Option Int} {d k : Nat} {Q : Int → HV → Prop} {is : List Instr} {h : HV} {ls st : List AV} {o : Int}  : X fz d k Q (.invokeinterface 84577 1 :: is) ls ((3, o) :: st) h = (((o ≠ 0 ∧ o % 64 = 11) ∧ wds st ≤ 8) ∧ 0 < d ∧ Sp fz (d - 1) 330 [(3, o)] h (fun x h => X fz d k Q is ls ((1, x) :: st) h)) := rfl
theorem x_call331 {fz : Int → Int → Option Int} {d k : Nat} {Q : Int → HV → Prop} {is : List Instr} {h : HV} {ls st : List AV} {o : Int} {a1 a2 : AV}  : X fz d k Q (.invokeinterface 84832 3 :: is) ls (a2 :: a1 :: (3, o) :: st) h = (((o ≠ 0 ∧ o % 64 = 11) ∧ wds st ≤ 8) ∧ 0 < d ∧ Sp fz (d - 1) 331 [(3, o), a1, a2] h (fun x h => X fz d k Q is ls ((0, x) :: st) h)) := rfl
theorem x_call332 {fz : Int → Int → Option Int} {d k : Nat} {Q : Int → HV → Prop} {is : List Instr} {h : HV} {ls st : List AV} {o : Int}  : X fz d k Q (.invokeinterface 85092 1 :: is) ls ((3, o) :: st) h = (((o ≠ 0 ∧ o % 64 = 11) ∧ wds st ≤ 8) ∧ 0 < d ∧ Sp fz (d - 1) 332 [(3, o)] h (fun x h => X fz d k Q is ls st h)) := rfl
theorem x_call333 {fz : Int → Int → Option Int} {d k : Nat} {Q : Int → HV → Prop} {is : List Instr} {h : HV} {ls st : List AV} {o : Int} {a1 : AV}  : X fz d k Q (.invokeinterface 85348 2 :: is) ls (a1 :: (3, o) :: st) h = (((o ≠ 0 ∧ o % 64 = 11) ∧ wds st ≤ 8) ∧ 0 < d ∧ Sp fz (d - 1) 333 [(3, o), a1] h (fun x h => X fz d k Q is ls st h)) := rfl
theorem x_call334 {fz : Int → Int → Option Int} {d k : Nat} {Q : Int → HV → Prop} {is : List Instr} {h : HV} {ls st : List AV} {o : Int} {a1 : AV}  : X fz d k Q (.invokeinterface 85600 2 :: is) ls (a1 :: (3, o) :: st) h = (((o ≠ 0 ∧ o % 64 = 11) ∧ wds st ≤ 8) ∧ 0 < d ∧ Sp fz (d - 1) 334 [(3, o), a1] h (fun x h => X fz d k Q is ls ((0, x) :: st) h)) := rfl
theorem x_call335 {fz : Int → Int → Option Int} {d k : Nat} {Q : Int → HV → Prop} {is : List Instr} {h : HV} {ls st : List AV} {o : Int} {a1 a2 : AV}  : X fz d k Q (.invokeinterface 85856 3 :: is) ls (a2 :: a1 :: (3, o) :: st) h = (((o ≠ 0 ∧ o % 64 = 11) ∧ wds st ≤ 8) ∧ 0 < d ∧ Sp fz (d - 1) 335 [(3, o), a1, a2] h (fun x h => X fz d k Q is ls ((0, x) :: st) h)) := rfl
theorem x_call336 {fz : Int → Int → Option Int} {d k : Nat} {Q : Int → HV → Prop} {is : List Instr} {h : HV} {ls st : List AV} {o : Int}  : X fz d k Q (.invokeinterface 86116 1 :: is) ls ((3, o) :: st) h = (((o ≠ 0 ∧ o % 64 = 11) ∧ wds st ≤ 8) ∧ 0 < d ∧ Sp fz (d - 1) 336 [(3, o)] h (fun x h => X fz d k Q is ls st h)) := rfl
theorem x_call337 {fz : Int → Int → Option Int} {d k : Nat} {Q : Int → HV → Prop} {is : List Instr} {h : HV} {ls st : List AV} {o : Int}  : X fz d k Q (.invokeinterface 86372 1 :: is) ls ((3, o) :: st) h = (((o ≠ 0 ∧ o % 64 = 11) ∧ wds st ≤ 8) ∧ 0 < d ∧ Sp fz (d - 1) 337 [(3, o)] h (fun x h => X fz d k Q is ls st h)) := rfl
theorem x_call338 {fz : Int → Int → Option Int} {d k : Nat} {Q : Int → HV → Prop} {is : List Instr} {h : HV} {ls st : List AV} {o : Int} {a1 : AV}  : X fz d k Q (.invokeinterface 86624 2 :: is) ls (a1 :: (3, o) :: st) h = (((o ≠ 0 ∧ o % 64 = 11) ∧ wds st ≤ 8) ∧ 0 < d ∧ Sp fz (d - 1) 338 [(3, o), a1] h (fun x h => X fz d k Q is ls ((0, x) :: st) h)) := rfl
theorem x_call339 {fz : Int → Int → Option Int} {d k : Nat} {Q : Int → HV → Prop} {is : List Instr} {h : HV} {ls st : List AV} {o : Int}  : X fz d k Q (.invokeinterface 86884 1 :: is) ls ((3, o) :: st) h = (((o ≠ 0 ∧ o % 64 = 11) ∧ wds st ≤ 8) ∧ 0 < d ∧ Sp fz (d - 1) 339 [(3, o)] h (fun x h => X fz d k Q is ls st h)) := rfl
theorem x_call34 {fz : Int → Int → Option Int} {d k : Nat} {Q : Int → HV → Prop} {is : List Instr} {h : HV} {ls st : List AV} {o : Int} {a1 a2 : AV}  : X fz d k Q (.invokeinterface 8816 3 :: is) ls (a2 :: a1 :: (3, o) :: st) h = (((o ≠ 0 ∧ o % 64 = 13) ∧ wds st ≤ 8) ∧ 0 < d ∧ Sp fz (d - 1) 34 [(3, o), a1, a2] h (fun x h => X fz d k Q is ls ((0, x) :: st) h)) := rfl
theorem x_call340 {fz : Int → Int → Option Int} {d k : Nat} {Q : Int → HV → Prop} {is : List Instr} {h : HV} {ls st : List AV} {o : Int}  : X fz d k Q (.invokeinterface 87140 1 :: is) ls ((3, o) :: st) h = (((o ≠ 0 ∧ o % 64 = 11) ∧ wds st ≤ 8) ∧ 0 < d ∧ Sp fz (d - 1) 340 [(3, o)] h (fun x h => X fz d k Q is ls st h)) := rfl
theorem x_call341 {fz : Int → Int → Option Int} {d k : Nat} {Q : Int → HV → Prop} {is : List Instr} {h : HV} {ls st : List AV} {o : Int} {a1 : AV}  : X fz d k Q (.invokeinterface 87392 2 :: is) ls (a1 :: (3, o) :: st) h = (((o ≠ 0 ∧ o % 64 = 11) ∧ wds st ≤ 8) ∧ 0 < d ∧ Sp fz (d - 1) 341 [(3, o), a1] h (fun x h => X fz d k Q is ls ((0, x) :: st) h)) := rfl
theorem x_call342 {fz : Int → Int → Option Int} {d k : Nat} {Q : Int → HV → Prop} {is : List Instr} {h : HV} {ls st : List AV} {o : Int} {a1 : AV}  : X fz d k Q (.invokeinterface 87648 2 :: is) ls (a1 :: (3, o) :: st) h = (((o ≠ 0 ∧ o % 64 = 11) ∧ wds st ≤ 8) ∧ 0 < d ∧ Sp fz (d - 1) 342 [(3, o), a1] h (fun x h => X fz d k Q is ls ((0, x) :: st) h)) := rfl
theorem x_call343 {fz : Int → Int → Option Int} {d k : Nat} {Q : Int → HV → Prop} {is : List Instr} {h : HV} {ls st : List AV} {o : Int}  : X fz d k Q (.invokeinterface 87908 1 :: is) ls ((3, o) :: st) h = (((o ≠ 0 ∧ o % 64 = 11) ∧ wds st ≤ 8) ∧ 0 < d ∧ Sp fz (d - 1) 343 [(3, o)] h (fun x h => X fz d k Q is ls st h)) := rfl
theorem x_call344 {fz : Int → Int → Option Int} {d k : Nat} {Q : Int → HV → Prop} {is : List Instr} {h : HV} {ls st : List AV} {o : Int}  : X fz d k Q (.invokeinterface 88164 1 :: is) ls ((3, o) :: st) h = (((o ≠ 0 ∧ o % 64 = 11) ∧ wds st ≤ 8) ∧ 0 < d ∧ Sp fz (d - 1) 344 [(3, o)] h (fun x h => X fz d k Q is ls st h)) := rfl
theorem x_call345 {fz : Int → Int → Option Int} {d k : Nat} {Q : Int → HV → Prop} {is : List Instr} {h : HV} {ls st : List AV} {o : Int}  : X fz d k Q (.invokeinterface 88420 1 :: is) ls ((3, o) :: st) h = (((o ≠ 0 ∧ o % 64 = 11) ∧ wds st ≤ 8) ∧ 0 < d ∧ Sp fz (d - 1) 345 [(3, o)] h (fun x h => X fz d k Q is ls st h)) := rfl
theorem x_call346 {fz : Int → Int → Option Int} {d k : Nat} {Q : Int → HV → Prop} {is : List Instr} {h : HV} {ls st : List AV} {o : Int} {a1 : AV}  : X fz d k Q (.invokeinterface 88676 2 :: is) ls (a1 :: (3, o) :: st) h = (((o ≠ 0 ∧ o % 64 = 11) ∧ wds st ≤ 8) ∧ 0 < d ∧ Sp fz (d - 1) 346 [(3, o), a1] h (fun x h => X fz d k Q is ls st h)) := rfl
theorem x_call347 {fz : Int → Int → Option Int} {d k : Nat} {Q : Int → HV → Prop} {is : List Instr} {h : HV} {ls st : List AV} {o : Int} {a1 a2 a3 : AV}  : X fz d k Q (.invokeinterface 88928 4 :: is) ls (a3 :: a2 :: a1 :: (3, o) :: st) h = (((o ≠ 0 ∧ o % 64 = 11) ∧ wds st ≤ 8) ∧ 0 < d ∧ Sp fz (d - 1) 347 [(3, o), a1, a2, a3] h (fun x h => X fz d k Q is ls ((0, x) :: st) h)) := rfl
theorem x_call348 {fz : Int → Int → Option Int} {d k : Nat} {Q : Int → HV → Prop} {is : List Instr} {h : HV} {ls st : List AV} {o : Int}  : X fz d k Q (.invokeinterface 89188 1 :: is) ls ((3, o) :: st) h = (((o ≠ 0 ∧ o % 64 = 11) ∧ wds st ≤ 8) ∧ 0 < d ∧ Sp fz (d - 1) 348 [(3, o)] h (fun x h => X fz d k Q is ls st h)) := rfl
theorem x_call349 {fz : Int → Int → Option Int} {d k : Nat} {Q : Int → HV → Prop} {is : List Instr} {h : HV} {ls st : List AV} {o : Int}  : X fz d k Q (.invokeinterface 89444 1 :: is) ls ((3, o) :: st) h = (((o ≠ 0 ∧ o % 64 = 11) ∧ wds st ≤ 8) ∧ 0 < d ∧ Sp fz (d - 1) 349 [(3, o)] h (fun x h => X fz d k Q is ls st h)) := rfl
theorem x_call35 {fz : Int → Int → Option Int} {d k : Nat} {Q : Int → HV → Prop} {is : List Instr} {h : HV} {ls st : List AV} {o : Int}  : X fz d k Q (.invokeinterface 9072 1 :: is) ls ((3, o) :: st) h = (((o ≠ 0 ∧ o % 64 = 13) ∧ wds st ≤ 8) ∧ 0 < d ∧ Sp fz (d - 1) 35 [(3, o)] h (fun x h => X fz d k Q is ls ((0, x) :: st) h)) := rfl
theorem x_call350 {fz : Int → Int → Option Int} {d k : Nat} {Q : Int → HV → Prop} {is : List Instr} {h : HV} {ls st : List AV} {o : Int}  : X fz d k Q (.invokeinterface 89700 1 :: is) ls ((3, o) :: st) h = (((o ≠ 0 ∧ o % 64 = 11) ∧ wds st ≤ 8) ∧ 0 < d ∧ Sp fz (d - 1) 350 [(3, o)] h (fun x h => X fz d k Q is ls st h)) := rfl
theorem x_call351 {fz : Int → Int → Option Int} {d k : Nat} {Q : Int → HV → Prop} {is : List Instr} {h : HV} {ls st : List AV} {o : Int}  : X fz d k Q (.invokeinterface 89956 1 :: is) ls ((3, o) :: st) h = (((o ≠ 0 ∧ o % 64 = 11) ∧ wds st ≤ 8) ∧ 0 < d ∧ Sp fz (d - 1) 351 [(3, o)] h (fun x h => X fz d k Q is ls st h)) := rfl
theorem x_call352 {fz : Int → Int → Option Int} {d k : Nat} {Q : Int → HV → Prop} {is : List Instr} {h : HV} {ls st : List AV} {o : Int}  : X fz d k Q (.invokeinterface 90212 1 :: is) ls ((3, o) :: st) h = (((o ≠ 0 ∧ o % 64 = 11) ∧ wds st ≤ 8) ∧ 0 < d ∧ Sp fz (d - 1) 352 [(3, o)] h (fun x h => X fz d k Q is ls st h)) := rfl
theorem x_call353 {fz : Int → Int → Option Int} {d k : Nat} {Q : Int → HV → Prop} {is : List Instr} {h : HV} {ls st : List AV} {o : Int}  : X fz d k Q (.invokeinterface 90468 1 :: is) ls ((3, o) :: st) h = (((o ≠ 0 ∧ o % 64 = 11) ∧ wds st ≤ 8) ∧ 0 < d ∧ Sp fz (d - 1) 353 [(3, o)] h (fun x h => X fz d k Q is ls st h)) := rfl
theorem x_call354 {fz : Int → Int → Option Int} {d k : Nat} {Q : Int → HV → Prop} {is : List Instr} {h : HV} {ls st : List AV} {o : Int}  : X fz d k Q (.invokeinterface 90724 1 :: is) ls ((3, o) :: st) h = (((o ≠ 0 ∧ o % 64 = 11) ∧ wds st ≤ 8) ∧ 0 < d ∧ Sp fz (d - 1) 354 [(3, o)] h (fun x h => X fz d k Q is ls st h)) := rfl
theorem x_call355 {fz : Int → Int → Option Int} {d k : Nat} {Q : Int → HV → Prop} {is : List Instr} {h : HV} {ls st : List AV} {o : Int}  : X fz d k Q (.invokeinterface 90980 1 :: is) ls ((3, o) :: st) h = (((o ≠ 0 ∧ o % 64 = 11) ∧ wds st ≤ 8) ∧ 0 < d ∧ Sp fz (d - 1) 355 [(3, o)] h (fun x h => X fz d k Q is ls st h)) := rfl
theorem x_call356 {fz : Int → Int → Option Int} {d k : Nat} {Q : Int → HV → Prop} {is : List Instr} {h : HV} {ls st : List AV} {o : Int} {a1 : AV}  : X fz d k Q (.invokeinterface 91236 2 :: is) ls (a1 :: (3, o) :: st) h = (((o ≠ 0 ∧ o % 64 = 11) ∧ wds st ≤ 8) ∧ 0 < d ∧ Sp fz (d - 1) 356 [(3, o), a1] h (fun x h => X fz d k Q is ls st h)) := rfl
theorem x_call357 {fz : Int → Int → Option Int} {d k : Nat} {Q : Int → HV → Prop} {is : List Instr} {h : HV} {ls st : List AV} {o : Int}  : X fz d k Q (.invokeinterface 91492 1 :: is) ls ((3, o) :: st) h = (((o ≠ 0 ∧ o % 64 = 11) ∧ wds st ≤ 8) ∧ 0 < d ∧ Sp fz (d - 1) 357 [(3, o)] h (fun x h => X fz d k Q is ls st h)) := rfl
theorem x_call358 {fz : Int → Int → Option Int} {d k : Nat} {Q : Int → HV → Prop} {is : List Instr} {h : HV} {ls st : List AV} {o : Int} {a1 a2 a3 : AV}  : X fz d k Q (.invokeinterface 91748 4 :: is) ls (a3 :: a2 :: a1 :: (3, o) :: st) h = (((o ≠ 0 ∧ o % 64 = 11) ∧ wds st ≤ 8) ∧ 0 < d ∧ Sp fz (d - 1) 358 [(3, o), a1, a2, a3] h (fun x h => X fz d k Q is ls st h)) := rfl
theorem x_call359 {fz : Int → Int → Option Int} {d k : Nat} {Q : Int → HV → Prop} {is : List Instr} {h : HV} {ls st : List AV} {o : Int}  : X fz d k Q (.invokeinterface 92004 1 :: is) ls ((3, o) :: st) h = (((o ≠ 0 ∧ o % 64 = 11) ∧ wds st ≤ 8) ∧ 0 < d ∧ Sp fz (d - 1) 359 [(3, o)] h (fun x h => X fz d k Q is ls st h)) := rfl
theorem x_call36 {fz : Int → Int → Option Int} {d k : Nat} {Q : Int → HV → Prop} {is : List Instr} {h : HV} {ls st : List AV} {o : Int}  : X fz d k Q (.invokeinterface 9328 1 :: is) ls ((3, o) :: st) h = (((o ≠ 0 ∧ o % 64 = 13) ∧ wds st ≤ 8) ∧ 0 < d ∧ Sp fz (d - 1) 36 [(3, o)] h (fun x h => X fz d k Q is ls ((0, x) :: st) h)) := rfl
theorem x_call360 {fz : Int → Int → Option Int} {d k : Nat} {Q : Int → HV → Prop} {is : List Instr} {h : HV} {ls st : List AV} {o : Int}  : X fz d k Q (.invokeinterface 92260 1 :: is) ls ((3, o) :: st) h = (((o ≠ 0 ∧ o % 64 = 11) ∧ wds st ≤ 8) ∧ 0 < d ∧ Sp fz (d - 1) 360 [(3, o)] h (fun x h => X fz d k Q is ls st h)) := rfl
theorem x_call361 {fz : Int → Int → Option Int} {d k : Nat} {Q : Int → HV → Prop} {is : List Instr} {h : HV} {ls st : List AV} {o : Int} {a1 : AV}  : X fz d k Q (.invokeinterface 92516 2 :: is) ls (a1 :: (3, o) :: st) h = (((o ≠ 0 ∧ o % 64 = 11) ∧ wds st ≤ 8) ∧ 0 < d ∧ Sp fz (d - 1) 361 [(3, o), a1] h (fun x h => X fz d k Q is ls st h)) := rfl
theorem x_call362 {fz : Int → Int → Option Int} {d k : Nat} {Q : Int → HV → Prop} {is : List Instr} {h : HV} {ls st : List AV} {o : Int}  : X fz d k Q (.invokeinterface 92772 1 :: is) ls ((3, o) :: st) h = (((o ≠ 0 ∧ o % 64 = 11) ∧ wds st ≤ 8) ∧ 0 < d ∧ Sp fz (d - 1) 362 [(3, o)] h (fun x h => X fz d k Q is ls st h)) := rfl
theorem x_call363 {fz : Int → Int → Option Int} {d k : Nat} {Q : Int → HV → Prop} {is : List Instr} {h : HV} {ls st : List AV} {o : Int}  : X fz d k Q (.invokeinterface 93024 1 :: is) ls ((3, o) :: st) h = (((o ≠ 0 ∧ o % 64 = 11) ∧ wds st ≤ 8) ∧ 0 < d ∧ Sp fz (d - 1) 363 [(3, o)] h (fun x h => X fz d k Q is ls ((0, x) :: st) h)) := rfl
theorem x_call364 {fz : Int → Int → Option Int} {d k : Nat} {Q : Int → HV → Prop} {is : List Instr} {h : HV} {ls st : List AV} {o : Int}  : X fz d k Q (.invokeinterface 93284 1 :: is) ls ((3, o) :: st) h = (((o ≠ 0 ∧ o % 64 = 11) ∧ wds st ≤ 8) ∧ 0 < d ∧ Sp fz (d - 1) 364 [(3, o)] h (fun x h => X fz d k Q is ls st h)) := rfl
theorem x_call365 {fz : Int → Int → Option Int} {d k : Nat} {Q : Int → HV → Prop} {is : List Instr} {h : HV} {ls st : List AV} {o : Int} {a1 : AV}  : X fz d k Q (.invokeinterface 93540 2 :: is) ls (a1 :: (3, o) :: st) h = (((o ≠ 0 ∧ o % 64 = 11) ∧ wds st ≤ 8) ∧ 0 < d ∧ Sp fz (d - 1) 365 [(3, o), a1] h (fun x h => X fz d k Q is ls st h)) := rfl
theorem x_call366 {fz : Int → Int → Option Int} {d k : Nat} {Q : Int → HV → Prop} {is : List Instr} {h : HV} {ls st : List AV} {o : Int}  : X fz d k Q (.invokeinterface 93796 1 :: is) ls ((3, o) :: st) h = (((o ≠ 0 ∧ o % 64 = 11) ∧ wds st ≤ 8) ∧ 0 < d ∧ Sp fz (d - 1) 366 [(3, o)] h (fun x h => X fz d k Q is ls st h)) := rfl
theorem x_call367 {fz : Int → Int → Option Int} {d k : Nat} {Q : Int → HV → Prop} {is : List Instr} {h : HV} {ls st : List AV} {o : Int} {a1 a2 a3 : AV}  : X fz d k Q (.invokeinterface 94048 4 :: is) ls (a3 :: a2 :: a1 :: (3, o) :: st) h = (((o ≠ 0 ∧ o % 64 = 11) ∧ wds st ≤ 8) ∧ 0 < d ∧ Sp fz (d - 1) 367 [(3, o), a1, a2, a3] h (fun x h => X fz d k Q is ls ((0, x) :: st) h)) := rfl
theorem x_call368 {fz : Int → Int → Option Int} {d k : Nat} {Q : Int → HV → Prop} {is : List Instr} {h : HV} {ls st : List AV} {o : Int} {a1 a2 : AV}  : X fz d k Q (.invokeinterface 94304 3 :: is) ls (a2 :: a1 :: (3, o) :: st) h = (((o ≠ 0 ∧ o % 64 = 11) ∧ wds st ≤ 8) ∧ 0 < d ∧ Sp fz (d - 1) 368 [(3, o), a1, a2] h (fun x h => X fz d k Q is ls ((0, x) :: st) h)) := rfl
theorem x_call369 {fz : Int → Int → Option Int} {d k : Nat} {Q : Int → HV → Prop} {is : List Instr} {h : HV} {ls st : List AV} {a0 a1 a2 : AV}  : X fz d k Q (.invokeinterface 94464 3 :: is) ls (a2 :: a1 :: a0 :: st) h = ((True ∧ wds st ≤ 8) ∧ 0 < d ∧ Sp fz (d - 1) 369 [a0, a1, a2] h (fun x h => X fz d k Q is ls ((0, x) :: st) h)) := rfl
theorem x_call37 {fz : Int → Int → Option Int} {d k : Nat} {Q : Int → HV → Prop} {is : List Instr} {h : HV} {ls st : List AV} {o : Int}  : X fz d k Q (.invokeinterface 9584 1 :: is) ls ((3, o) :: st) h = (((o ≠ 0 ∧ o % 64 = 13) ∧ wds st ≤ 8) ∧ 0 < d ∧ Sp fz (d - 1) 37 [(3, o)] h (fun x h => X fz d k Q is ls ((0, x) :: st) h)) := rfl
theorem x_call370 {fz : Int → Int → Option Int} {d k : Nat} {Q : Int → HV → Prop} {is : List Instr} {h : HV} {ls st : List AV} {o : Int} {a1 : AV}  : X fz d k Q (.invokeinterface 94816 2 :: is) ls (a1 :: (3, o) :: st) h = (((o ≠ 0 ∧ o % 64 = 11) ∧ wds st ≤ 8) ∧ 0 < d ∧ Sp fz (d - 1) 370 [(3, o), a1] h (fun x h => X fz d k Q is ls ((0, x) :: st) h)) := rfl
theorem x_call371 {fz : Int → Int → Option Int} {d k : Nat} {Q : Int → HV → Prop} {is : List Instr} {h : HV} {ls st : List AV} {o : Int} {a1 a2 : AV}  : X fz d k Q (.invokeinterface 95072 3 :: is) ls (a2 :: a1 :: (3, o) :: st) h = (((o ≠ 0 ∧ o % 64 = 11) ∧ wds st ≤ 8) ∧ 0 < d ∧ Sp fz (d - 1) 371 [(3, o), a1, a2] h (fun x h => X fz d k Q is ls ((0, x) :: st) h)) := rfl
theorem x_call372 {fz : Int → Int → Option Int} {d k : Nat} {Q : Int → HV → Prop} {is : List Instr} {h : HV} {ls st : List AV} {o : Int} {a1 : AV}  : X fz d k Q (.invokeinterface 95328 2 :: is) ls (a1 :: (3, o) :: st) h = (((o ≠ 0 ∧ o % 64 = 11) ∧ wds st ≤ 8) ∧ 0 < d ∧ Sp fz (d - 1) 372 [(3, o), a1] h (fun x h => X fz d k Q is ls ((0, x) :: st) h)) := rfl
theorem x_call373 {fz : Int → Int → Option Int} {d k : Nat} {Q : Int → HV → Prop} {is : List Instr} {h : HV} {ls st : List AV} {o : Int} {a1 a2 : AV}  : X fz d k Q (.invokeinterface 95584 3 :: is) ls (a2 :: a1 :: (3, o) :: st) h = (((o ≠ 0 ∧ o % 64 = 11) ∧ wds st ≤ 8) ∧ 0 < d ∧ Sp fz (d - 1) 373 [(3, o), a1, a2] h (fun x h => X fz d k Q is ls ((0, x) :: st) h)) := rfl
theorem x_call374 {fz : Int → Int → Option Int} {d k : Nat} {Q : Int → HV → Prop} {is : List Instr} {h : HV} {ls st : List AV} {o : Int} {a1 a2 : AV}  : X fz d k Q (.invokeinterface 95840 3 :: is) ls (a2 :: a1 :: (3, o) :: st) h = (((o ≠ 0 ∧ o % 64 = 11) ∧ wds st ≤ 8) ∧ 0 < d ∧ Sp fz (d - 1) 374 [(3, o), a1, a2] h (fun x h => X fz d k Q is ls ((0, x) :: st) h)) := rfl
theorem x_call375 {fz : Int → Int → Option Int} {d k : Nat} {Q : Int → HV → Prop} {is : List Instr} {h : HV} {ls st : List AV} {o : Int} {a1 a2 a3 : AV}  : X fz d k Q (.invokeinterface 96096 4 :: is) ls (a3 :: a2 :: a1 :: (3, o) :: st) h = (((o ≠ 0 ∧ o % 64 = 11) ∧ wds st ≤ 8) ∧ 0 < d ∧ Sp fz (d - 1) 375 [(3, o), a1, a2, a3] h (fun x h => X fz d k Q is ls ((0, x) :: st) h)) := rfl
theorem x_call376 {fz : Int → Int → Option Int} {d k : Nat} {Q : Int → HV → Prop} {is : List Instr} {h : HV} {ls st : List AV} {o : Int} {a1 : AV}  : X fz d k Q (.invokeinterface 96352 2 :: is) ls (a1 :: (3, o) :: st) h = (((o ≠ 0 ∧ o % 64 = 11) ∧ wds st ≤ 8) ∧ 0 < d ∧ Sp fz (d - 1) 376 [(3, o), a1] h (fun x h => X fz d k Q is ls ((0, x) :: st) h)) := rfl
theorem x_call377 {fz : Int → Int → Option Int} {d k : Nat} {Q : Int → HV → Prop} {is : List Instr} {h : HV} {ls st : List AV} {o : Int} {a1 a2 : AV}  : X fz d k Q (.invokeinterface 96608 3 :: is) ls (a2 :: a1 :: (3, o) :: st) h = (((o ≠ 0 ∧ o % 64 = 11) ∧ wds st ≤ 8) ∧ 0 < d ∧ Sp fz (d - 1) 377 [(3, o), a1, a2] h (fun x h => X fz d k Q is ls ((0, x) :: st) h)) := rfl
theorem x_call378 {fz : Int → Int → Option Int} {d k : Nat} {Q : Int → HV → Prop} {is : List Instr} {h : HV} {ls st : List AV} {o : Int} {a1 a2 a3 a4 : AV}  : X fz d k Q (.invokeinterface 96864 5 :: is) ls (a4 :: a3 :: a2 :: a1 :: (3, o) :: st) h = (((o ≠ 0 ∧ o % 64 = 11) ∧ wds st ≤ 8) ∧ 0 < d ∧ Sp fz (d - 1) 378 [(3, o), a1, a2, a3, a4] h (fun x h => X fz d k Q is ls ((0, x) :: st) h)) := rfl
theorem x_call379 {fz : Int → Int → Option Int} {d k : Nat} {Q : Int → HV → Prop} {is : List Instr} {h : HV} {ls st : List AV} {o : Int} {a1 a2 a3 : AV}  : X fz d k Q (.invokeinterface 97120 4 :: is) ls (a3 :: a2 :: a1 :: (3, o) :: st) h = (((o ≠ 0 ∧ o % 64 = 11) ∧ wds st ≤ 8) ∧ 0 < d ∧ Sp fz (d - 1) 379 [(3, o), a1, a2, a3] h (fun x h => X fz d k Q is ls ((0, x) :: st) h)) := rfl
theorem x_call38 {fz : Int → Int → Option Int} {d k : Nat} {Q : Int → HV → Prop} {is : List Instr} {h : HV} {ls st : List AV} {a0 a1 a2 a3 : AV}  : X fz d k Q (.invokeinterface 9728 4 :: is) ls (a3 :: a2 :: a1 :: a0 :: st) h = ((True ∧ wds st ≤ 8) ∧ 0 < d ∧ Sp fz (d - 1) 38 [a0, a1, a2, a3] h (fun x h => X fz d k Q is ls ((0, x) :: st) h)) := rfl
theorem x_call380 {fz : Int → Int → Option Int} {d k : Nat} {Q : Int → HV → Prop} {is : List Instr} {h : HV} {ls st : List AV} {o : Int} {a1 a2 a3 a4 a5 a6 : AV}  : X fz d k Q (.invokeinterface 97376 7 :: is) ls (a6 :: a5 :: a4 :: a3 :: a2 :: a1 :: (3, o) :: st) h = (((o ≠ 0 ∧ o % 64 = 11) ∧ wds st ≤ 8) ∧ 0 < d ∧ Sp fz (d - 1) 380 [(3, o), a1, a2, a3, a4, a5, a6] h (fun x h => X fz d k Q is ls ((0, x) :: st) h)) := rfl
theorem x_call381 {fz : Int → Int → Option Int} {d k : Nat} {Q : Int → HV → Prop} {is : List Instr} {h : HV} {ls st : List AV} {o : Int} {a1 : AV}  : X fz d k Q (.invokeinterface 97632 2 :: is) ls (a1 :: (3, o) :: st) h = (((o ≠ 0 ∧ o % 64 = 11) ∧ wds st ≤ 8) ∧ 0 < d ∧ Sp fz (d - 1) 381 [(3, o), a1] h (fun x h => X fz d k Q is ls ((0, x) :: st) h)) := rfl
theorem x_call382 {fz : Int → Int → Option Int} {d k : Nat} {Q : Int → HV → Prop} {is : List Instr} {h : HV} {ls st : List AV} {o : Int} {a1 a2 a3 a4 a5 a6 : AV}  : X fz d k Q (.invokeinterface 97888 7 :: is) ls (a6 :: a5 :: a4 :: a3 :: a2 :: a1 :: (3, o) :: st) h = (((o ≠ 0 ∧ o % 64 = 11) ∧ wds st ≤ 8) ∧ 0 < d ∧ Sp fz (d - 1) 382 [(3, o), a1, a2, a3, a4, a5, a6] h (fun x h => X fz d k Q is ls ((0, x) :: st) h)) := rfl
theorem x_call383 {fz : Int → Int → Option Int} {d k : Nat} {Q : Int → HV → Prop} {is : List Instr} {h : HV} {ls st : List AV} {o : Int}  : X fz d k Q (.invokeinterface 98148 1 :: is) ls ((3, o) :: st) h = (((o ≠ 0 ∧ o % 64 = 11) ∧ wds st ≤ 8) ∧ 0 < d ∧ Sp fz (d - 1) 383 [(3, o)] h (fun x h => X fz d k Q is ls st h)) := rfl
theorem x_call384 {fz : Int → Int → Option Int} {d k : Nat} {Q : Int → HV → Prop} {is : List Instr} {h : HV} {ls st : List AV} {o : Int} {a1 : AV}  : X fz d k Q (.invokeinterface 98400 2 :: is) ls (a1 :: (3, o) :: st) h = (((o ≠ 0 ∧ o % 64 = 11) ∧ wds st ≤ 8) ∧ 0 < d ∧ Sp fz (d - 1) 384 [(3, o), a1] h (fun x h => X fz d k Q is ls ((0, x) :: st) h)) := rfl
theorem x_call385 {fz : Int → Int → Option Int} {d k : Nat} {Q : Int → HV → Prop} {is : List Instr} {h : HV} {ls st : List AV} {o : Int} {a1 : AV}  : X fz d k Q (.invokeinterface 98656 2 :: is) ls (a1 :: (3, o) :: st) h = (((o ≠ 0 ∧ o % 64 = 11) ∧ wds st ≤ 8) ∧ 0 < d ∧ Sp fz (d - 1) 385 [(3, o), a1] h (fun x h => X fz d k Q is ls ((0, x) :: st) h)) := rfl
theorem x_call386 {fz : Int → Int → Option Int} {d k : Nat} {Q : Int → HV → Prop} {is : List Instr} {h : HV} {ls st : List AV} {o : Int} {a1 : AV}  : X fz d k Q (.invokeinterface 98912 2 :: is) ls (a1 :: (3, o) :: st) h = (((o ≠ 0 ∧ o % 64 = 11) ∧ wds st ≤ 8) ∧ 0 < d ∧ Sp fz (d - 1) 386 [(3, o), a1] h (fun x h => X fz d k Q is ls ((0, x) :: st) h)) := rfl
theorem x_call387 {fz : Int → Int → Option Int} {d k : Nat} {Q : Int → HV → Prop} {is : List Instr} {h : HV} {ls st : List AV} {o : Int} {a1 : AV}  : X fz d k Q (.invokeinterface 99172 2 :: is) ls (a1 :: (3, o) :: st) h = (((o ≠ 0 ∧ o % 64 = 11) ∧ wds st ≤ 8) ∧ 0 < d ∧ Sp fz (d - 1) 387 [(3, o), a1] h (fun x h => X fz d k Q is ls st h)) := rfl
theorem x_call388 {fz : Int → Int → Option Int} {d k : Nat} {Q : Int → HV → Prop} {is : List Instr} {h : HV} {ls st : List AV} {o : Int} {a1 a2 a3 a4 : AV}  : X fz d k Q (.invokeinterface 99428 5 :: is) ls (a4 :: a3 :: a2 :: a1 :: (3, o) :: st) h = (((o ≠ 0 ∧ o % 64 = 11) ∧ wds st ≤ 8) ∧ 0 < d ∧ Sp fz (d - 1) 388 [(3, o), a1, a2, a3, a4] h (fun x h => X fz d k Q is ls st h)) := rfl
theorem x_call389 {fz : Int → Int → Option Int} {d k : Nat} {Q : Int → HV → Prop} {is : List Instr} {h : HV} {ls st : List AV} {o : Int} {a1 a2 : AV}  : X fz d k Q (.invokeinterface 99684 3 :: is) ls (a2 :: a1 :: (3, o) :: st) h = (((o ≠ 0 ∧ o % 64 = 11) ∧ wds st ≤ 8) ∧ 0 < d ∧ Sp fz (d - 1) 389 [(3, o), a1, a2] h (fun x h => X fz d k Q is ls st h)) := rfl
theorem x_call39 {fz : Int → Int → Option Int} {d k : Nat} {Q : Int → HV → Prop} {is : List Instr} {h : HV} {ls st : List AV} {a0 : AV}  : X fz d k Q (.invokeinterface 9984 1 :: is) ls (a0 :: st) h = ((True ∧ wds st ≤ 8) ∧ 0 < d ∧ Sp fz (d - 1) 39 [a0] h (fun x h => X fz d k Q is ls ((0, x) :: st) h)) := rfl
theorem x_call390 {fz : Int → Int → Option Int} {d k : Nat} {Q : Int → HV → Prop} {is : List Instr} {h : HV} {ls st : List AV} {o : Int}  : X fz d k Q (.invokeinterface 99936 1 :: is) ls ((3, o) :: st) h = (((o ≠ 0 ∧ o % 64 = 11) ∧ wds st ≤ 8) ∧ 0 < d ∧ Sp fz (d - 1) 390 [(3, o)] h (fun x h => X fz d k Q is ls ((0, x) :: st) h)) := rfl
theorem x_call391 {fz : Int → Int → Option Int} {d k : Nat} {Q : Int → HV → Prop} {is : List Instr} {h : HV} {ls st : List AV} {o : Int}  : X fz d k Q (.invokeinterface 100196 1 :: is) ls ((3, o) :: st) h = (((o ≠ 0 ∧ o % 64 = 11) ∧ wds st ≤ 8) ∧ 0 < d ∧ Sp fz (d - 1) 391 [(3, o)] h (fun x h => X fz d k Q is ls st h)) := rfl
theorem x_call392 {fz : Int → Int → Option Int} {d k : Nat} {Q : Int → HV → Prop} {is : List Instr} {h : HV} {ls st : List AV} {a0 a1 : AV}  : X fz d k Q (.invokeinterface 100352 2 :: is) ls (a1 :: a0 :: st) h = ((True ∧ wds st ≤ 8) ∧ 0 < d ∧ Sp fz (d - 1) 392 [a0, a1] h (fun x h => X fz d k Q is ls ((0, x) :: st) h)) := rfl
theorem x_call393 {fz : Int → Int → Option Int} {d k : Nat} {Q : Int → HV → Prop} {is : List Instr} {h : HV} {ls st : List AV} {o : Int} {a1 : AV}  : X fz d k Q (.invokeinterface 100705 2 :: is) ls (a1 :: (3, o) :: st) h = (((o ≠ 0 ∧ o % 64 = 11) ∧ wds st ≤ 8) ∧ 0 < d ∧ Sp fz (d - 1) 393 [(3, o), a1] h (fun x h => X fz d k Q is ls ((1, x) :: st) h)) := rfl
theorem x_call394 {fz : Int → Int → Option Int} {d k : Nat} {Q : Int → HV → Prop} {is : List Instr} {h : HV} {ls st : List AV} {o : Int} {a1 : AV}  : X fz d k Q (.invokeinterface 100960 2 :: is) ls (a1 :: (3, o) :: st) h = (((o ≠ 0 ∧ o % 64 = 11) ∧ wds st ≤ 8) ∧ 0 < d ∧ Sp fz (d - 1) 394 [(3, o), a1] h (fun x h => X fz d k Q is ls ((0, x) :: st) h)) := rfl
theorem x_call395 {fz : Int → Int → Option Int} {d k : Nat} {Q : Int → HV → Prop} {is : List Instr} {h : HV} {ls st : List AV} {o : Int} {a1 a2 : AV}  : X fz d k Q (.invokeinterface 101220 3 :: is) ls (a2 :: a1 :: (3, o) :: st) h = (((o ≠ 0 ∧ o % 64 = 11) ∧ wds st ≤ 8) ∧ 0 < d ∧ Sp fz (d - 1) 395 [(3, o), a1, a2] h (fun x h => X fz d k Q is ls st h)) := rfl
theorem x_call396 {fz : Int → Int → Option Int} {d k : Nat} {Q : Int → HV → Prop} {is : List Instr} {h : HV} {ls st : List AV} {a0 : AV}  : X fz d k Q (.invokeinterface 101377 1 :: is) ls (a0 :: st) h = ((True ∧ wds st ≤ 8) ∧ 0 < d ∧ Sp fz (d - 1) 396 [a0] h (fun x h => X fz d k Q is ls ((1, x) :: st) h)) := rfl
theorem x_call397 {fz : Int → Int → Option Int} {d k : Nat} {Q : Int → HV → Prop} {is : List Instr} {h : HV} {ls st : List AV} {a0 : AV}  : X fz d k Q (.invokeinterface 101633 1 :: is) ls (a0 :: st) h = ((True ∧ wds st ≤ 8) ∧ 0 < d ∧ Sp fz (d - 1) 397 [a0] h (fun x h => X fz d k Q is ls ((1, x) :: st) h)) := rfl
theorem x_call398 {fz : Int → Int → Option Int} {d k : Nat} {Q : Int → HV → Prop} {is : List Instr} {h : HV} {ls st : List AV} {a0 : AV}  : X fz d k Q (.invokeinterface 101888 1 :: is) ls (a0 :: st) h = ((True ∧ wds st ≤ 8) ∧ 0 < d ∧ Sp fz (d - 1) 398 [a0] h (fun x h => X fz d k Q is ls ((0, x) :: st) h)) := rfl
theorem x_call399 {fz : Int → Int → Option Int} {d k : Nat} {Q : Int → HV → Prop} {is : List Instr} {h : HV} {ls st : List AV} {o : Int} {a1 : AV}  : X fz d k Q (.invokeinterface 102244 2 :: is) ls (a1 :: (3, o) :: st) h = (((o ≠ 0 ∧ o % 64 = 11) ∧ wds st ≤ 8) ∧ 0 < d ∧ Sp fz (d - 1) 399 [(3, o), a1] h (fun x h => X fz d k Q is ls st h)) := rfl
theorem x_call4 {fz : Int → Int → Option Int} {d k : Nat} {Q : Int → HV → Prop} {is : List Instr} {h : HV} {ls st : List AV} {o : Int}  : X fz d k Q (.invokeinterface 1060 1 :: is) ls ((3, o) :: st) h = (((o ≠ 0 ∧ o % 64 = 3) ∧ wds st ≤ 8) ∧ 0 < d ∧ Sp fz (d - 1) 4 [(3, o)] h (fun x h => X fz d k Q is ls st h)) := rfl
theorem x_call40 {fz : Int → Int → Option Int} {d k : Nat} {Q : Int → HV → Prop} {is : List Instr} {h : HV} {ls st : List AV} {a0 a1 a2 a3 : AV}  : X fz d k Q (.invokeinterface 10240 4 :: is) ls (a3 :: a2 :: a1 :: a0 :: st) h = ((True ∧ wds st ≤ 8) ∧ 0 < d ∧ Sp fz (d - 1) 40 [a0, a1, a2, a3] h (fun x h => X fz d k Q is ls ((0, x) :: st) h)) := rfl
theorem x_call400 {fz : Int → Int → Option Int} {d k : Nat} {Q : Int → HV → Prop} {is : List Instr} {h : HV} {ls st : List AV} {o : Int} {a1 : AV}  : X fz d k Q (.invokeinterface 102496 2 :: is) ls (a1 :: (3, o) :: st) h = (((o ≠ 0 ∧ o % 64 = 11) ∧ wds st ≤ 8) ∧ 0 < d ∧ Sp fz (d - 1) 400 [(3, o), a1] h (fun x h => X fz d k Q is ls ((0, x) :: st) h)) := rfl
theorem x_call401 {fz : Int → Int → Option Int} {d k : Nat} {Q : Int → HV → Prop} {is : List Instr} {h : HV} {ls st : List AV} {o : Int} {a1 : AV}  : X fz d k Q (.invokeinterface 102754 2 :: is) ls (a1 :: (3, o) :: st) h = (((o ≠ 0 ∧ o % 64 = 11) ∧ wds st ≤ 8) ∧ 0 < d ∧ Sp fz (d - 1) 401 [(3, o), a1] h (fun x h => X fz d k Q is ls ((2, x) :: st) h)) := rfl
theorem x_call402 {fz : Int → Int → Option Int} {d k : Nat} {Q : Int → HV → Prop} {is : List Instr} {h : HV} {ls st : List AV} {o : Int} {a1 : AV}  : X fz d k Q (.invokeinterface 103012 2 :: is) ls (a1 :: (3, o) :: st) h = (((o ≠ 0 ∧ o % 64 = 11) ∧ wds st ≤ 8) ∧ 0 < d ∧ Sp fz (d - 1) 402 [(3, o), a1] h (fun x h => X fz d k Q is ls st h)) := rfl
theorem x_call403 {fz : Int → Int → Option Int} {d k : Nat} {Q : Int → HV → Prop} {is : List Instr} {h : HV} {ls st : List AV} {o : Int} {a1 : AV}  : X fz d k Q (.invokeinterface 103268 2 :: is) ls (a1 :: (3, o) :: st) h = (((o ≠ 0 ∧ o % 64 = 11) ∧ wds st ≤ 8) ∧ 0 < d ∧ Sp fz (d - 1) 403 [(3, o), a1] h (fun x h => X fz d k Q is ls st h)) := rfl
theorem x_call404 {fz : Int → Int → Option Int} {d k : Nat} {Q : Int → HV → Prop} {is : List Instr} {h : HV} {ls st : List AV} {a0 a1 a2 : AV}  : X fz d k Q (.invokeinterface 103424 3 :: is) ls (a2 :: a1 :: a0 :: st) h = ((True ∧ wds st ≤ 8) ∧ 0 < d ∧ Sp fz (d - 1) 404 [a0, a1, a2] h (fun x h => X fz d k Q is ls ((0, x) :: st) h)) := rfl
theorem x_call405 {fz : Int → Int → Option Int} {d k : Nat} {Q : Int → HV → Prop} {is : List Instr} {h : HV} {ls st : List AV} {a0 : AV}  : X fz d k Q (.invokeinterface 103680 1 :: is) ls (a0 :: st) h = ((True ∧ wds st ≤ 8) ∧ 0 < d ∧ Sp fz (d - 1) 405 [a0] h (fun x h => X fz d k Q is ls ((0, x) :: st) h)) := rfl
theorem x_call406 {fz : Int → Int → Option Int} {d k : Nat} {Q : Int → HV → Prop} {is : List Instr} {h : HV} {ls st : List AV} {o : Int}  : X fz d k Q (.invokeinterface 104036 1 :: is) ls ((3, o) :: st) h = (((o ≠ 0 ∧ o % 64 = 11) ∧ wds st ≤ 8) ∧ 0 < d ∧ Sp fz (d - 1) 406 [(3, o)] h (fun x h => X fz d k Q is ls st h)) := rfl
theorem x_call407 {fz : Int → Int → Option Int} {d k : Nat} {Q : Int → HV → Prop} {is : List Instr} {h : HV} {ls st : List AV} {o : Int}  : X fz d k Q (.invokeinterface 104292 1 :: is) ls ((3, o) :: st) h = (((o ≠ 0 ∧ o % 64 = 11) ∧ wds st ≤ 8) ∧ 0 < d ∧ Sp fz (d - 1) 407 [(3, o)] h (fun x h => X fz d k Q is ls st h)) := rfl
theorem x_call408 {fz : Int → Int → Option Int} {d k : Nat} {Q : Int → HV → Prop} {is : List Instr} {h : HV} {ls st : List AV} {o : Int} {a1 a2 : AV}  : X fz d k Q (.invokeinterface 104548 3 :: is) ls (a2 :: a1 :: (3, o) :: st) h = (((o ≠ 0 ∧ o % 64 = 11) ∧ wds st ≤ 8) ∧ 0 < d ∧ Sp fz (d - 1) 408 [(3, o), a1, a2] h (fun x h => X fz d k Q is ls st h)) := rfl
theorem x_call409 {fz : Int → Int → Option Int} {d k : Nat} {Q : Int → HV → Prop} {is : List Instr} {h : HV} {ls st : List AV} {o : Int} {a1 : AV}  : X fz d k Q (.invokeinterface 104804 2 :: is) ls (a1 :: (3, o) :: st) h = (((o ≠ 0 ∧ o % 64 = 11) ∧ wds st ≤ 8) ∧ 0 < d ∧ Sp fz (d - 1) 409 [(3, o), a1] h (fun x h => X fz d k Q is ls st h)) := rfl
theorem x_call41 {fz : Int → Int → Option Int} {d k : Nat} {Q : Int → HV → Prop} {is : List Instr} {h : HV} {ls st : List AV} {o : Int}  : X fz d k Q (.invokeinterface 10520 1 :: is) ls ((3, o) :: st) h = (((o ≠ 0 ∧ o % 64 = 2) ∧ wds st ≤ 8) ∧ 0 < d ∧ Sp fz (d - 1) 41 [(3, o)] h (fun x h => X fz d k Q is ls ((0, x) :: st) h)) := rfl
theorem x_call410 {fz : Int → Int → Option Int} {d k : Nat} {Q : Int → HV → Prop} {is : List Instr} {h : HV} {ls st : List AV} {o : Int} {a1 : AV}  : X fz d k Q (.invokeinterface 105060 2 :: is) ls (a1 :: (3, o) :: st) h = (((o ≠ 0 ∧ o % 64 = 11) ∧ wds st ≤ 8) ∧ 0 < d ∧ Sp fz (d - 1) 410 [(3, o), a1] h (fun x h => X fz d k Q is ls st h)) := rfl
theorem x_call411 {fz : Int → Int → Option Int} {d k : Nat} {Q : Int → HV → Prop} {is : List Instr} {h : HV} {ls st : List AV} {o : Int} {a1 : AV}  : X fz d k Q (.invokeinterface 105313 2 :: is) ls (a1 :: (3, o) :: st) h = (((o ≠ 0 ∧ o % 64 = 11) ∧ wds st ≤ 8) ∧ 0 < d ∧ Sp fz (d - 1) 411 [(3, o), a1] h (fun x h => X fz d k Q is ls ((1, x) :: st) h)) := rfl
theorem x_call412 {fz : Int → Int → Option Int} {d k : Nat} {Q : Int → HV → Prop} {is : List Instr} {h : HV} {ls st : List AV} {o : Int}  : X fz d k Q (.invokeinterface 105568 1 :: is) ls ((3, o) :: st) h = (((o ≠ 0 ∧ o % 64 = 11) ∧ wds st ≤ 8) ∧ 0 < d ∧ Sp fz (d - 1) 412 [(3, o)] h (fun x h => X fz d k Q is ls ((0, x) :: st) h)) := rfl
theorem x_call413 {fz : Int → Int → Option Int} {d k : Nat} {Q : Int → HV → Prop} {is : List Instr} {h : HV} {ls st : List AV} {o : Int} {a1 a2 : AV}  : X fz d k Q (.invokeinterface 105824 3 :: is) ls (a2 :: a1 :: (3, o) :: st) h = (((o ≠ 0 ∧ o % 64 = 11) ∧ wds st ≤ 8) ∧ 0 < d ∧ Sp fz (d - 1) 413 [(3, o), a1, a2] h (fun x h => X fz d k Q is ls ((0, x) :: st) h)) := rfl
theorem x_call414 {fz : Int → Int → Option Int} {d k : Nat} {Q : Int → HV → Prop} {is : List Instr} {h : HV} {ls st : List AV} {o : Int} {a1 a2 : AV}  : X fz d k Q (.invokeinterface 106080 3 :: is) ls (a2 :: a1 :: (3, o) :: st) h = (((o ≠ 0 ∧ o % 64 = 11) ∧ wds st ≤ 8) ∧ 0 < d ∧ Sp fz (d - 1) 414 [(3, o), a1, a2] h (fun x h => X fz d k Q is ls ((0, x) :: st) h)) := rfl
theorem x_call415 {fz : Int → Int → Option Int} {d k : Nat} {Q : Int → HV → Prop} {is : List Instr} {h : HV} {ls st : List AV} {o : Int} {a1 : AV}  : X fz d k Q (.invokeinterface 106336 2 :: is) ls (a1 :: (3, o) :: st) h = (((o ≠ 0 ∧ o % 64 = 11) ∧ wds st ≤ 8) ∧ 0 < d ∧ Sp fz (d - 1) 415 [(3, o), a1] h (fun x h => X fz d k Q is ls ((0, x) :: st) h)) := rfl
theorem x_call416 {fz : Int → Int → Option Int} {d k : Nat} {Q : Int → HV → Prop} {is : List Instr} {h : HV} {ls st : List AV} {o : Int} {a1 : AV}  : X fz d k Q (.invokeinterface 106592 2 :: is) ls (a1 :: (3, o) :: st) h = (((o ≠ 0 ∧ o % 64 = 11) ∧ wds st ≤ 8) ∧ 0 < d ∧ Sp fz (d - 1) 416 [(3, o), a1] h (fun x h => X fz d k Q is ls ((0, x) :: st) h)) := rfl
theorem x_call417 {fz : Int → Int → Option Int} {d k : Nat} {Q : Int → HV → Prop} {is : List Instr} {h : HV} {ls st : List AV} {o : Int}  : X fz d k Q (.invokeinterface 106852 1 :: is) ls ((3, o) :: st) h = (((o ≠ 0 ∧ o % 64 = 11) ∧ wds st ≤ 8) ∧ 0 < d ∧ Sp fz (d - 1) 417 [(3, o)] h (fun x h => X fz d k Q is ls st h)) := rfl
theorem x_call418 {fz : Int → Int → Option Int} {d k : Nat} {Q : Int → HV → Prop} {is : List Instr} {h : HV} {ls st : List AV} {o : Int} {a1 a2 a3 : AV}  : X fz d k Q (.invokeinterface 107104 4 :: is) ls (a3 :: a2 :: a1 :: (3, o) :: st) h = (((o ≠ 0 ∧ o % 64 = 11) ∧ wds st ≤ 8) ∧ 0 < d ∧ Sp fz (d - 1) 418 [(3, o), a1, a2, a3] h (fun x h => X fz d k Q is ls ((0, x) :: st) h)) := rfl
theorem x_call419 {fz : Int → Int → Option Int} {d k : Nat} {Q : Int → HV → Prop} {is : List Instr} {h : HV} {ls st : List AV} {o : Int} {a1 a2 a3 : AV}  : X fz d k Q (.invokeinterface 107360 4 :: is) ls (a3 :: a2 :: a1 :: (3, o) :: st) h = (((o ≠ 0 ∧ o % 64 = 11) ∧ wds st ≤ 8) ∧ 0 < d ∧ Sp fz (d - 1) 419 [(3, o), a1, a2, a3] h (fun x h => X fz d k Q is ls ((0, x) :: st) h)) := rfl
theorem x_call42 {fz : Int → Int → Option Int} {d k : Nat} {Q : Int → HV → Prop} {is : List Instr} {h : HV} {ls st : List AV} {o : Int}  : X fz d k Q (.invokeinterface 10768 1 :: is) ls ((3, o) :: st) h = (((o ≠ 0 ∧ o % 64 = 1) ∧ wds st ≤ 8) ∧ 0 < d ∧ Sp fz (d - 1) 42 [(3, o)] h (fun x h => X fz d k Q is ls ((0, x) :: st) h)) := rfl
theorem x_call420 {fz : Int → Int → Option Int} {d k : Nat} {Q : Int → HV → Prop} {is : List Instr} {h : HV} {ls st : List AV} {o : Int} {a1 a2 a3 : AV}  : X fz d k Q (.invokeinterface 107616 4 :: is) ls (a3 :: a2 :: a1 :: (3, o) :: st) h = (((o ≠ 0 ∧ o % 64 = 11) ∧ wds st ≤ 8) ∧ 0 < d ∧ Sp fz (d - 1) 420 [(3, o), a1, a2, a3] h (fun x h => X fz d k Q is ls ((0, x) :: st) h)) := rfl
theorem x_call421 {fz : Int → Int → Option Int} {d k : Nat} {Q : Int → HV → Prop} {is : List Instr} {h : HV} {ls st : List AV} {o : Int} {a1 : AV}  : X fz d k Q (.invokeinterface 107872 2 :: is) ls (a1 :: (3, o) :: st) h = (((o ≠ 0 ∧ o % 64 = 11) ∧ wds st ≤ 8) ∧ 0 < d ∧ Sp fz (d - 1) 421 [(3, o), a1] h (fun x h => X fz d k Q is ls ((0, x) :: st) h)) := rfl
theorem x_call422 {fz : Int → Int → Option Int} {d k : Nat} {Q : Int → HV → Prop} {is : List Instr} {h : HV} {ls st : List AV} {o : Int}  : X fz d k Q (.invokeinterface 108128 1 :: is) ls ((3, o) :: st) h = (((o ≠ 0 ∧ o % 64 = 11) ∧ wds st ≤ 8) ∧ 0 < d ∧ Sp fz (d - 1) 422 [(3, o)] h (fun x h => X fz d k Q is ls ((0, x) :: st) h)) := rfl
theorem x_call423 {fz : Int → Int → Option Int} {d k : Nat} {Q : Int → HV → Prop} {is : List Instr} {h : HV} {ls st : List AV} {o : Int} {a1 a2 a3 : AV}  : X fz d k Q (.invokeinterface 108384 4 :: is) ls (a3 :: a2 :: a1 :: (3, o) :: st) h = (((o ≠ 0 ∧ o % 64 = 11) ∧ wds st ≤ 8) ∧ 0 < d ∧ Sp fz (d - 1) 423 [(3, o), a1, a2, a3] h (fun x h => X fz d k Q is ls ((0, x) :: st) h)) := rfl
theorem x_call424 {fz : Int → Int → Option Int} {d k : Nat} {Q : Int → HV → Prop} {is : List Instr} {h : HV} {ls st : List AV} {o : Int} {a1 : AV}  : X fz d k Q (.invokeinterface 108640 2 :: is) ls (a1 :: (3, o) :: st) h = (((o ≠ 0 ∧ o % 64 = 11) ∧ wds st ≤ 8) ∧ 0 < d ∧ Sp fz (d - 1) 424 [(3, o), a1] h (fun x h => X fz d k Q is ls ((0, x) :: st) h)) := rfl
theorem x_call425 {fz : Int → Int → Option Int} {d k : Nat} {Q : Int → HV → Prop} {is : List Instr} {h : HV} {ls st : List AV} {o : Int} {a1 a2 : AV}  : X fz d k Q (.invokeinterface 108896 3 :: is) ls (a2 :: a1 :: (3, o) :: st) h = (((o ≠ 0 ∧ o % 64 = 11) ∧ wds st ≤ 8) ∧ 0 < d ∧ Sp fz (d - 1) 425 [(3, o), a1, a2] h (fun x h => X fz d k Q is ls ((0, x) :: st) h)) := rfl
theorem x_call426 {fz : Int → Int → Option Int} {d k : Nat} {Q : Int → HV → Prop} {is : List Instr} {h : HV} {ls st : List AV} {o : Int} {a1 a2 : AV}  : X fz d k Q (.invokeinterface 109152 3 :: is) ls (a2 :: a1 :: (3, o) :: st) h = (((o ≠ 0 ∧ o % 64 = 11) ∧ wds st ≤ 8) ∧ 0 < d ∧ Sp fz (d - 1) 426 [(3, o), a1, a2] h (fun x h => X fz d k Q is ls ((0, x) :: st) h)) := rfl
theorem x_call427 {fz : Int → Int → Option Int} {d k : Nat} {Q : Int → HV → Prop} {is : List Instr} {h : HV} {ls st : List AV} {o : Int} {a1 a2 : AV}  : X fz d k Q (.invokeinterface 109408 3 :: is) ls (a2 :: a1 :: (3, o) :: st) h = (((o ≠ 0 ∧ o % 64 = 11) ∧ wds st ≤ 8) ∧ 0 < d ∧ Sp fz (d - 1) 427 [(3, o), a1, a2] h (fun x h => X fz d k Q is ls ((0, x) :: st) h)) := rfl
theorem x_call428 {fz : Int → Int → Option Int} {d k : Nat} {Q : Int → HV → Prop} {is : List Instr} {h : HV} {ls st : List AV} {o : Int} {a1 : AV}  : X fz d k Q (.invokeinterface 109664 2 :: is) ls (a1 :: (3, o) :: st) h = (((o ≠ 0 ∧ o % 64 = 11) ∧ wds st ≤ 8) ∧ 0 < d ∧ Sp fz (d - 1) 428 [(3, o), a1] h (fun x h => X fz d k Q is ls ((0, x) :: st) h)) := rfl
theorem x_call429 {fz : Int → Int → Option Int} {d k : Nat} {Q : Int → HV → Prop} {is : List Instr} {h : HV} {ls st : List AV} {o : Int} {a1 a2 : AV}  : X fz d k Q (.invokeinterface 109920 3 :: is) ls (a2 :: a1 :: (3, o) :: st) h = (((o ≠ 0 ∧ o % 64 = 11) ∧ wds st ≤ 8) ∧ 0 < d ∧ Sp fz (d - 1) 429 [(3, o), a1, a2] h (fun x h => X fz d k Q is ls ((0, x) :: st) h)) := rfl
theorem x_call43 {fz : Int → Int → Option Int} {d k : Nat} {Q : Int → HV → Prop} {is : List Instr} {h : HV} {ls st : List AV} {o : Int}  : X fz d k Q (.invokeinterface 11024 1 :: is) ls ((3, o) :: st) h = (((o ≠ 0 ∧ o % 64 = 1) ∧ wds st ≤ 8) ∧ 0 < d ∧ Sp fz (d - 1) 43 [(3, o)] h (fun x h => X fz d k Q is ls ((0, x) :: st) h)) := rfl
theorem x_call430 {fz : Int → Int → Option Int} {d k : Nat} {Q : Int → HV → Prop} {is : List Instr} {h : HV} {ls st : List AV} {o : Int} {a1 : AV}  : X fz d k Q (.invokeinterface 110176 2 :: is) ls (a1 :: (3, o) :: st) h = (((o ≠ 0 ∧ o % 64 = 11) ∧ wds st ≤ 8) ∧ 0 < d ∧ Sp fz (d - 1) 430 [(3, o), a1] h (fun x h => X fz d k Q is ls ((0, x) :: st) h)) := rfl
theorem x_call431 {fz : Int → Int → Option Int} {d k : Nat} {Q : Int → HV → Prop} {is : List Instr} {h : HV} {ls st : List AV} {o : Int} {a1 : AV}  : X fz d k Q (.invokeinterface 110432 2 :: is) ls (a1 :: (3, o) :: st) h = (((o ≠ 0 ∧ o % 64 = 11) ∧ wds st ≤ 8) ∧ 0 < d ∧ Sp fz (d - 1) 431 [(3, o), a1] h (fun x h => X fz d k Q is ls ((0, x) :: st) h)) := rfl
theorem x_call432 {fz : Int → Int → Option Int} {d k : Nat} {Q : Int → HV → Prop} {is : List Instr} {h : HV} {ls st : List AV} {o : Int}  : X fz d k Q (.invokeinterface 110692 1 :: is) ls ((3, o) :: st) h = (((o ≠ 0 ∧ o % 64 = 11) ∧ wds st ≤ 8) ∧ 0 < d ∧ Sp fz (d - 1) 432 [(3, o)] h (fun x h => X fz d k Q is ls st h)) := rfl
theorem x_call433 {fz : Int → Int → Option Int} {d k : Nat} {Q : Int → HV → Prop} {is : List Instr} {h : HV} {ls st : List AV} {o : Int} {a1 : AV}  : X fz d k Q (.invokeinterface 110944 2 :: is) ls (a1 :: (3, o) :: st) h = (((o ≠ 0 ∧ o % 64 = 11) ∧ wds st ≤ 8) ∧ 0 < d ∧ Sp fz (d - 1) 433 [(3, o), a1] h (fun x h => X fz d k Q is ls ((0, x) :: st) h)) := rfl
theorem x_call434 {fz : Int → Int → Option Int} {d k : Nat} {Q : Int → HV → Prop} {is : List Instr} {h : HV} {ls st : List AV} {o : Int} {a1 a2 a3 : AV}  : X fz d k Q (.invokeinterface 111200 4 :: is) ls (a3 :: a2 :: a1 :: (3, o) :: st) h = (((o ≠ 0 ∧ o % 64 = 11) ∧ wds st ≤ 8) ∧ 0 < d ∧ Sp fz (d - 1) 434 [(3, o), a1, a2, a3] h (fun x h => X fz d k Q is ls ((0, x) :: st) h)) := rfl
theorem x_call435 {fz : Int → Int → Option Int} {d k : Nat} {Q : Int → HV → Prop} {is : List Instr} {h : HV} {ls st : List AV} {o : Int}  : X fz d k Q (.invokeinterface 111460 1 :: is) ls ((3, o) :: st) h = (((o ≠ 0 ∧ o % 64 = 11) ∧ wds st ≤ 8) ∧ 0 < d ∧ Sp fz (d - 1) 435 [(3, o)] h (fun x h => X fz d k Q is ls st h)) := rfl
theorem x_call436 {fz : Int → Int → Option Int} {d k : Nat} {Q : Int → HV → Prop} {is : List Instr} {h : HV} {ls st : List AV} {o : Int} {a1 : AV}  : X fz d k Q (.invokeinterface 111712 2 :: is) ls (a1 :: (3, o) :: st) h = (((o ≠ 0 ∧ o % 64 = 11) ∧ wds st ≤ 8) ∧ 0 < d ∧ Sp fz (d - 1) 436 [(3, o), a1] h (fun x h => X fz d k Q is ls ((0, x) :: st) h)) := rfl
theorem x_call437 {fz : Int → Int → Option Int} {d k : Nat} {Q : Int → HV → Prop} {is : List Instr} {h : HV} {ls st : List AV} {o : Int} {a1 : AV}  : X fz d k Q (.invokeinterface 111968 2 :: is) ls (a1 :: (3, o) :: st) h = (((o ≠ 0 ∧ o % 64 = 11) ∧ wds st ≤ 8) ∧ 0 < d ∧ Sp fz (d - 1) 437 [(3, o), a1] h (fun x h => X fz d k Q is ls ((0, x) :: st) h)) := rfl
theorem x_call438 {fz : Int → Int → Option Int} {d k : Nat} {Q : Int → HV → Prop} {is : List Instr} {h : HV} {ls st : List AV} {o : Int}  : X fz d k Q (.invokeinterface 112224 1 :: is) ls ((3, o) :: st) h = (((o ≠ 0 ∧ o % 64 = 11) ∧ wds st ≤ 8) ∧ 0 < d ∧ Sp fz (d - 1) 438 [(3, o)] h (fun x h => X fz d k Q is ls ((0, x) :: st) h)) := rfl
theorem x_call439 {fz : Int → Int → Option Int} {d k : Nat} {Q : Int → HV → Prop} {is : List Instr} {h : HV} {ls st : List AV} {o : Int} {a1 a2 a3 : AV}  : X fz d k Q (.invokeinterface 112480 4 :: is) ls (a3 :: a2 :: a1 :: (3, o) :: st) h = (((o ≠ 0 ∧ o % 64 = 11) ∧ wds st ≤ 8) ∧ 0 < d ∧ Sp fz (d - 1) 439 [(3, o), a1, a2, a3] h (fun x h => X fz d k Q is ls ((0, x) :: st) h)) := rfl
theorem x_call44 {fz : Int → Int → Option Int} {d k : Nat} {Q : Int → HV → Prop} {is : List Instr} {h : HV} {ls st : List AV} {o : Int}  : X fz d k Q (.invokeinterface 11292 1 :: is) ls ((3, o) :: st) h = (((o ≠ 0 ∧ o % 64 = 2) ∧ wds st ≤ 8) ∧ 0 < d ∧ Sp fz (d - 1) 44 [(3, o)] h (fun x h => X fz d k Q is ls st h)) := rfl
theorem x_call440 {fz : Int → Int → Option Int} {d k : Nat} {Q : Int → HV → Prop} {is : List Instr} {h : HV} {ls st : List AV} {o : Int} {a1 : AV}  : X fz d k Q (.invokeinterface 112736 2 :: is) ls (a1 :: (3, o) :: st) h = (((o ≠ 0 ∧ o % 64 = 11) ∧ wds st ≤ 8) ∧ 0 < d ∧ Sp fz (d - 1) 440 [(3, o), a1] h (fun x h => X fz d k Q is ls ((0, x) :: st) h)) := rfl
theorem x_call441 {fz : Int → Int → Option Int} {d k : Nat} {Q : Int → HV → Prop} {is : List Instr} {h : HV} {ls st : List AV} {o : Int} {a1 : AV}  : X fz d k Q (.invokeinterface 112992 2 :: is) ls (a1 :: (3, o) :: st) h = (((o ≠ 0 ∧ o % 64 = 11) ∧ wds st ≤ 8) ∧ 0 < d ∧ Sp fz (d - 1) 441 [(3, o), a1] h (fun x h => X fz d k Q is ls ((0, x) :: st) h)) := rfl
theorem x_call442 {fz : Int → Int → Option Int} {d k : Nat} {Q : Int → HV → Prop} {is : List Instr} {h : HV} {ls st : List AV} {o : Int} {a1 a2 : AV}  : X fz d k Q (.invokeinterface 113248 3 :: is) ls (a2 :: a1 :: (3, o) :: st) h = (((o ≠ 0 ∧ o % 64 = 11) ∧ wds st ≤ 8) ∧ 0 < d ∧ Sp fz (d - 1) 442 [(3, o), a1, a2] h (fun x h => X fz d k Q is ls ((0, x) :: st) h)) := rfl
theorem x_call443 {fz : Int → Int → Option Int} {d k : Nat} {Q : Int → HV → Prop} {is : List Instr} {h : HV} {ls st : List AV} {o : Int} {a1 : AV}  : X fz d k Q (.invokeinterface 113504 2 :: is) ls (a1 :: (3, o) :: st) h = (((o ≠ 0 ∧ o % 64 = 11) ∧ wds st ≤ 8) ∧ 0 < d ∧ Sp fz (d - 1) 443 [(3, o), a1] h (fun x h => X fz d k Q is ls ((0, x) :: st) h)) := rfl
theorem x_call444 {fz : Int → Int → Option Int} {d k : Nat} {Q : Int → HV → Prop} {is : List Instr} {h : HV} {ls st : List AV} {o : Int} {a1 : AV}  : X fz d k Q (.invokeinterface 113760 2 :: is) ls (a1 :: (3, o) :: st) h = (((o ≠ 0 ∧ o % 64 = 11) ∧ wds st ≤ 8) ∧ 0 < d ∧ Sp fz (d - 1) 444 [(3, o), a1] h (fun x h => X fz d k Q is ls ((0, x) :: st) h)) := rfl
theorem x_call45 {fz : Int → Int → Option Int} {d k : Nat} {Q : Int → HV → Prop} {is : List Instr} {h : HV} {ls st : List AV} {o : Int} {a1 : AV}  : X fz d k Q (.invokeinterface 11536 2 :: is) ls (a1 :: (3, o) :: st) h = (((o ≠ 0 ∧ o % 64 = 1) ∧ wds st ≤ 8) ∧ 0 < d ∧ Sp fz (d - 1) 45 [(3, o), a1] h (fun x h => X fz d k Q is ls ((0, x) :: st) h)) := rfl
theorem x_call46 {fz : Int → Int → Option Int} {d k : Nat} {Q : Int → HV → Prop} {is : List Instr} {h : HV} {ls st : List AV} {o : Int} {a1 : AV}  : X fz d k Q (.invokeinterface 11888 2 :: is) ls (a1 :: (3, o) :: st) h = (((o ≠ 0 ∧ o % 64 = 13) ∧ wds st ≤ 8) ∧ 0 < d ∧ Sp fz (d - 1) 46 [(3, o), a1] h (fun x h => X fz d k Q is ls ((0, x) :: st) h)) := rfl
theorem x_call47 {fz : Int → Int → Option Int} {d k : Nat} {Q : Int → HV → Prop} {is : List Instr} {h : HV} {ls st : List AV} {a0 a1 : AV}  : X fz d k Q (.invokeinterface 12032 2 :: is) ls (a1 :: a0 :: st) h = ((True ∧ wds st ≤ 8) ∧ 0 < d ∧ Sp fz (d - 1) 47 [a0, a1] h (fun x h => X fz d k Q is ls ((0, x) :: st) h)) := rfl
theorem x_call48 {fz : Int → Int → Option Int} {d k : Nat} {Q : Int → HV → Prop} {is : List Instr} {h : HV} {ls st : List AV} {a0 a1 : AV}  : X fz d k Q (.invokeinterface 12292 2 :: is) ls (a1 :: a0 :: st) h = ((True ∧ wds st ≤ 8) ∧ 0 < d ∧ Sp fz (d - 1) 48 [a0, a1] h (fun x h => X fz d k Q is ls st h)) := rfl
theorem x_call49 {fz : Int → Int → Option Int} {d k : Nat} {Q : Int → HV → Prop} {is : List Instr} {h : HV} {ls st : List AV} {a0 a1 a2 : AV}  : X fz d k Q (.invokeinterface 12544 3 :: is) ls (a2 :: a1 :: a0 :: st) h = ((True ∧ wds st ≤ 8) ∧ 0 < d ∧ Sp fz (d - 1) 49 [a0, a1, a2] h (fun x h => X fz d k Q is ls ((0, x) :: st) h)) := rfl
theorem x_call5 {fz : Int → Int → Option Int} {d k : Nat} {Q : Int → HV → Prop} {is : List Instr} {h : HV} {ls st : List AV} {o : Int}  : X fz d k Q (.invokeinterface 1324 1 :: is) ls ((3, o) :: st) h = (((o ≠ 0 ∧ o % 64 = 4) ∧ wds st ≤ 8) ∧ 0 < d ∧ Sp fz (d - 1) 5 [(3, o)] h (fun x h => X fz d k Q is ls st h)) := rfl
theorem x_call50 {fz : Int → Int → Option Int} {d k : Nat} {Q : Int → HV → Prop} {is : List Instr} {h : HV} {ls st : List AV} {o : Int}  : X fz d k Q (.invokeinterface 12828 1 :: is) ls ((3, o) :: st) h = (((o ≠ 0 ∧ o % 64 = 2) ∧ wds st ≤ 8) ∧ 0 < d ∧ Sp fz (d - 1) 50 [(3, o)] h (fun x h => X fz d k Q is ls st h)) := rfl
theorem x_call51 {fz : Int → Int → Option Int} {d k : Nat} {Q : Int → HV → Prop} {is : List Instr} {h : HV} {ls st : List AV} {o : Int} {a1 : AV}  : X fz d k Q (.invokeinterface 13080 2 :: is) ls (a1 :: (3, o) :: st) h = (((o ≠ 0 ∧ o % 64 = 2) ∧ wds st ≤ 8) ∧ 0 < d ∧ Sp fz (d - 1) 51 [(3, o), a1] h (fun x h => X fz d k Q is ls ((0, x) :: st) h)) := rfl
theorem x_call52 {fz : Int → Int → Option Int} {d k : Nat} {Q : Int → HV → Prop} {is : List Instr} {h : HV} {ls st : List AV} {o : Int}  : X fz d k Q (.invokeinterface 13336 1 :: is) ls ((3, o) :: st) h = (((o ≠ 0 ∧ o % 64 = 2) ∧ wds st ≤ 8) ∧ 0 < d ∧ Sp fz (d - 1) 52 [(3, o)] h (fun x h => X fz d k Q is ls ((0, x) :: st) h)) := rfl
theorem x_call53 {fz : Int → Int → Option Int} {d k : Nat} {Q : Int → HV → Prop} {is : List Instr} {h : HV} {ls st : List AV} {o : Int}  : X fz d k Q (.invokeinterface 13585 1 :: is) ls ((3, o) :: st) h = (((o ≠ 0 ∧ o % 64 = 1) ∧ wds st ≤ 8) ∧ 0 < d ∧ Sp fz (d - 1) 53 [(3, o)] h (fun x h => X fz d k Q is ls ((1, x) :: st) h)) := rfl
theorem x_call54 {fz : Int → Int → Option Int} {d k : Nat} {Q : Int → HV → Prop} {is : List Instr} {h : HV} {ls st : List AV} {o : Int} {a1 a2 : AV}  : X fz d k Q (.invokeinterface 13912 3 :: is) ls (a2 :: a1 :: (3, o) :: st) h = (((o ≠ 0 ∧ o % 64 = 10) ∧ wds st ≤ 8) ∧ 0 < d ∧ Sp fz (d - 1) 54 [(3, o), a1, a2] h (fun x h => X fz d k Q is ls ((0, x) :: st) h)) := rfl
theorem x_call55 {fz : Int → Int → Option Int} {d k : Nat} {Q : Int → HV → Prop} {is : List Instr} {h : HV} {ls st : List AV} {o : Int} {a1 : AV}  : X fz d k Q (.invokeinterface 14168 2 :: is) ls (a1 :: (3, o) :: st) h = (((o ≠ 0 ∧ o % 64 = 10) ∧ wds st ≤ 8) ∧ 0 < d ∧ Sp fz (d - 1) 55 [(3, o), a1] h (fun x h => X fz d k Q is ls ((0, x) :: st) h)) := rfl
theorem x_call56 {fz : Int → Int → Option Int} {d k : Nat} {Q : Int → HV → Prop} {is : List Instr} {h : HV} {ls st : List AV} {a0 : AV}  : X fz d k Q (.invokeinterface 14336 1 :: is) ls (a0 :: st) h = ((True ∧ wds st ≤ 8) ∧ 0 < d ∧ Sp fz (d - 1) 56 [a0] h (fun x h => X fz d k Q is ls ((0, x) :: st) h)) := rfl
theorem x_call57 {fz : Int → Int → Option Int} {d k : Nat} {Q : Int → HV → Prop} {is : List Instr} {h : HV} {ls st : List AV} {o : Int} {a1 a2 : AV}  : X fz d k Q (.invokeinterface 14680 3 :: is) ls (a2 :: a1 :: (3, o) :: st) h = (((o ≠ 0 ∧ o % 64 = 10) ∧ wds st ≤ 8) ∧ 0 < d ∧ Sp fz (d - 1) 57 [(3, o), a1, a2] h (fun x h => X fz d k Q is ls ((0, x) :: st) h)) := rfl
theorem x_call58 {fz : Int → Int → Option Int} {d k : Nat} {Q : Int → HV → Prop} {is : List Instr} {h : HV} {ls st : List AV} {o : Int} {a1 : AV}  : X fz d k Q (.invokeinterface 14876 2 :: is) ls (a1 :: (3, o) :: st) h = (((o ≠ 0 ∧ o % 64 = 2) ∧ wds st ≤ 8) ∧ 0 < d ∧ Sp fz (d - 1) 58 [(3, o), a1] h (fun x h => X fz d k Q is ls st h)) := rfl
theorem x_call59 {fz : Int → Int → Option Int} {d k : Nat} {Q : Int → HV → Prop} {is : List Instr} {h : HV} {ls st : List AV} {o : Int} {a1 : AV}  : X fz d k Q (.invokeinterface 15120 2 :: is) ls (a1 :: (3, o) :: st) h = (((o ≠ 0 ∧ o % 64 = 1) ∧ wds st ≤ 8) ∧ 0 < d ∧ Sp fz (d - 1) 59 [(3, o), a1] h (fun x h => X fz d k Q is ls ((0, x) :: st) h)) := rfl
theorem x_call6 {fz : Int → Int → Option Int} {d k : Nat} {Q : Int → HV → Prop} {is : List Instr} {h : HV} {ls st : List AV} {o : Int} {a1 a2 : AV}  : X fz d k Q (.invokeinterface 1588 3 :: is) ls (a2 :: a1 :: (3, o) :: st) h = (((o ≠ 0 ∧ o % 64 = 5) ∧ wds st ≤ 8) ∧ 0 < d ∧ Sp fz (d - 1) 6 [(3, o), a1, a2] h (fun x h => X fz d k Q is ls st h)) := rfl
theorem x_call60 {fz : Int → Int → Option Int} {d k : Nat} {Q : Int → HV → Prop} {is : List Instr} {h : HV} {ls st : List AV} {o : Int}  : X fz d k Q (.invokeinterface 15388 1 :: is) ls ((3, o) :: st) h = (((o ≠ 0 ∧ o % 64 = 2) ∧ wds st ≤ 8) ∧ 0 < d ∧ Sp fz (d - 1) 60 [(3, o)] h (fun x h => X fz d k Q is ls st h)) := rfl
theorem x_call61 {fz : Int → Int → Option Int} {d k : Nat} {Q : Int → HV → Prop} {is : List Instr} {h : HV} {ls st : List AV} {o : Int} {a1 : AV}  : X fz d k Q (.invokeinterface 15640 2 :: is) ls (a1 :: (3, o) :: st) h = (((o ≠ 0 ∧ o % 64 = 2) ∧ wds st ≤ 8) ∧ 0 < d ∧ Sp fz (d - 1) 61 [(3, o), a1] h (fun x h => X fz d k Q is ls ((0, x) :: st) h)) := rfl
theorem x_call62 {fz : Int → Int → Option Int} {d k : Nat} {Q : Int → HV → Prop} {is : List Instr} {h : HV} {ls st : List AV} {o : Int}  : X fz d k Q (.invokeinterface 15888 1 :: is) ls ((3, o) :: st) h = (((o ≠ 0 ∧ o % 64 = 1) ∧ wds st ≤ 8) ∧ 0 < d ∧ Sp fz (d - 1) 62 [(3, o)] h (fun x h => X fz d k Q is ls ((0, x) :: st) h)) := rfl
theorem x_call63 {fz : Int → Int → Option Int} {d k : Nat} {Q : Int → HV → Prop} {is : List Instr} {h : HV} {ls st : List AV} {o : Int}  : X fz d k Q (.invokeinterface 16156 1 :: is) ls ((3, o) :: st) h = (((o ≠ 0 ∧ o % 64 = 2) ∧ wds st ≤ 8) ∧ 0 < d ∧ Sp fz (d - 1) 63 [(3, o)] h (fun x h => X fz d k Q is ls st h)) := rfl
theorem x_call64 {fz : Int → Int → Option Int} {d k : Nat} {Q : Int → HV → Prop} {is : List Instr} {h : HV} {ls st : List AV} {o : Int} {a1 : AV}  : X fz d k Q (.invokeinterface 16408 2 :: is) ls (a1 :: (3, o) :: st) h = (((o ≠ 0 ∧ o % 64 = 2) ∧ wds st ≤ 8) ∧ 0 < d ∧ Sp fz (d - 1) 64 [(3, o), a1] h (fun x h => X fz d k Q is ls ((0, x) :: st) h)) := rfl
theorem x_call65 {fz : Int → Int → Option Int} {d k : Nat} {Q : Int → HV → Prop} {is : List Instr} {h : HV} {ls st : List AV} {o : Int} {a1 : AV}  : X fz d k Q (.invokeinterface 16664 2 :: is) ls (a1 :: (3, o) :: st) h = (((o ≠ 0 ∧ o % 64 = 2) ∧ wds st ≤ 8) ∧ 0 < d ∧ Sp fz (d - 1) 65 [(3, o), a1] h (fun x h => X fz d k Q is ls ((0, x) :: st) h)) := rfl
theorem x_call66 {fz : Int → Int → Option Int} {d k : Nat} {Q : Int → HV → Prop} {is : List Instr} {h : HV} {ls st : List AV} {o : Int}  : X fz d k Q (.invokeinterface 16924 1 :: is) ls ((3, o) :: st) h = (((o ≠ 0 ∧ o % 64 = 2) ∧ wds st ≤ 8) ∧ 0 < d ∧ Sp fz (d - 1) 66 [(3, o)] h (fun x h => X fz d k Q is ls st h)) := rfl
theorem x_call67 {fz : Int → Int → Option Int} {d k : Nat} {Q : Int → HV → Prop} {is : List Instr} {h : HV} {ls st : List AV} {o : Int}  : X fz d k Q (.invokeinterface 17180 1 :: is) ls ((3, o) :: st) h = (((o ≠ 0 ∧ o % 64 = 2) ∧ wds st ≤ 8) ∧ 0 < d ∧ Sp fz (d - 1) 67 [(3, o)] h (fun x h => X fz d k Q is ls st h)) := rfl
theorem x_call68 {fz : Int → Int → Option Int} {d k : Nat} {Q : Int → HV → Prop} {is : List Instr} {h : HV} {ls st : List AV} {o : Int} {a1 a2 : AV}  : X fz d k Q (.invokeinterface 17496 3 :: is) ls (a2 :: a1 :: (3, o) :: st) h = (((o ≠ 0 ∧ o % 64 = 10) ∧ wds st ≤ 8) ∧ 0 < d ∧ Sp fz (d - 1) 68 [(3, o), a1, a2] h (fun x h => X fz d k Q is ls ((0, x) :: st) h)) := rfl
theorem x_call69 {fz : Int → Int → Option Int} {d k : Nat} {Q : Int → HV → Prop} {is : List Instr} {h : HV} {ls st : List AV} {o : Int} {a1 a2 : AV}  : X fz d k Q (.invokeinterface 17752 3 :: is) ls (a2 :: a1 :: (3, o) :: st) h = (((o ≠ 0 ∧ o % 64 = 10) ∧ wds st ≤ 8) ∧ 0 < d ∧ Sp fz (d - 1) 69 [(3, o), a1, a2] h (fun x h => X fz d k Q is ls ((0, x) :: st) h)) := rfl
theorem x_call7 {fz : Int → Int → Option Int} {d k : Nat} {Q : Int → HV → Prop} {is : List Instr} {h : HV} {ls st : List AV} {o : Int}  : X fz d k Q (.invokeinterface 1852 1 :: is) ls ((3, o) :: st) h = (((o ≠ 0 ∧ o % 64 = 6) ∧ wds st ≤ 8) ∧ 0 < d ∧ Sp fz (d - 1) 7 [(3, o)] h (fun x h => X fz d k Q is ls st h)) := rfl
theorem x_call70 {fz : Int → Int → Option Int} {d k : Nat} {Q : Int → HV → Prop} {is : List Instr} {h : HV} {ls st : List AV} {o : Int} {a1 a2 : AV}  : X fz d k Q (.invokeinterface 18012 3 :: is) ls (a2 :: a1 :: (3, o) :: st) h = (((o ≠ 0 ∧ o % 64 = 10) ∧ wds st ≤ 8) ∧ 0 < d ∧ Sp fz (d - 1) 70 [(3, o), a1, a2] h (fun x h => X fz d k Q is ls st h)) := rfl
theorem x_call71 {fz : Int → Int → Option Int} {d k : Nat} {Q : Int → HV → Prop} {is : List Instr} {h : HV} {ls st : List AV} {o : Int}  : X fz d k Q (.invokeinterface 18204 1 :: is) ls ((3, o) :: st) h = (((o ≠ 0 ∧ o % 64 = 2) ∧ wds st ≤ 8) ∧ 0 < d ∧ Sp fz (d - 1) 71 [(3, o)] h (fun x h => X fz d k Q is ls st h)) := rfl
theorem x_call72 {fz : Int → Int → Option Int} {d k : Nat} {Q : Int → HV → Prop} {is : List Instr} {h : HV} {ls st : List AV} {o : Int}  : X fz d k Q (.invokeinterface 18460 1 :: is) ls ((3, o) :: st) h = (((o ≠ 0 ∧ o % 64 = 2) ∧ wds st ≤ 8) ∧ 0 < d ∧ Sp fz (d - 1) 72 [(3, o)] h (fun x h => X fz d k Q is ls st h)) := rfl
theorem x_call73 {fz : Int → Int → Option Int} {d k : Nat} {Q : Int → HV → Prop} {is : List Instr} {h : HV} {ls st : List AV} {o : Int}  : X fz d k Q (.invokeinterface 18716 1 :: is) ls ((3, o) :: st) h = (((o ≠ 0 ∧ o % 64 = 2) ∧ wds st ≤ 8) ∧ 0 < d ∧ Sp fz (d - 1) 73 [(3, o)] h (fun x h => X fz d k Q is ls st h)) := rfl
theorem x_call74 {fz : Int → Int → Option Int} {d k : Nat} {Q : Int → HV → Prop} {is : List Instr} {h : HV} {ls st : List AV} {o : Int} {a1 : AV}  : X fz d k Q (.invokeinterface 18968 2 :: is) ls (a1 :: (3, o) :: st) h = (((o ≠ 0 ∧ o % 64 = 2) ∧ wds st ≤ 8) ∧ 0 < d ∧ Sp fz (d - 1) 74 [(3, o), a1] h (fun x h => X fz d k Q is ls ((0, x) :: st) h)) := rfl
theorem x_call75 {fz : Int → Int → Option Int} {d k : Nat} {Q : Int → HV → Prop} {is : List Instr} {h : HV} {ls st : List AV} {o : Int} {a1 : AV}  : X fz d k Q (.invokeinterface 19224 2 :: is) ls (a1 :: (3, o) :: st) h = (((o ≠ 0 ∧ o % 64 = 2) ∧ wds st ≤ 8) ∧ 0 < d ∧ Sp fz (d - 1) 75 [(3, o), a1] h (fun x h => X fz d k Q is ls ((0, x) :: st) h)) := rfl
theorem x_call76 {fz : Int → Int → Option Int} {d k : Nat} {Q : Int → HV → Prop} {is : List Instr} {h : HV} {ls st : List AV} {o : Int} {a1 a2 : AV}  : X fz d k Q (.invokeinterface 19480 3 :: is) ls (a2 :: a1 :: (3, o) :: st) h = (((o ≠ 0 ∧ o % 64 = 2) ∧ wds st ≤ 8) ∧ 0 < d ∧ Sp fz (d - 1) 76 [(3, o), a1, a2] h (fun x h => X fz d k Q is ls ((0, x) :: st) h)) := rfl
theorem x_call77 {fz : Int → Int → Option Int} {d k : Nat} {Q : Int → HV → Prop} {is : List Instr} {h : HV} {ls st : List AV} {o : Int}  : X fz d k Q (.invokeinterface 19800 1 :: is) ls ((3, o) :: st) h = (((o ≠ 0 ∧ o % 64 = 10) ∧ wds st ≤ 8) ∧ 0 < d ∧ Sp fz (d - 1) 77 [(3, o)] h (fun x h => X fz d k Q is ls ((0, x) :: st) h)) := rfl
theorem x_call78 {fz : Int → Int → Option Int} {d k : Nat} {Q : Int → HV → Prop} {is : List Instr} {h : HV} {ls st : List AV} {o : Int} {a1 : AV}  : X fz d k Q (.invokeinterface 19996 2 :: is) ls (a1 :: (3, o) :: st) h = (((o ≠ 0 ∧ o % 64 = 2) ∧ wds st ≤ 8) ∧ 0 < d ∧ Sp fz (d - 1) 78 [(3, o), a1] h (fun x h => X fz d k Q is ls st h)) := rfl
theorem x_call79 {fz : Int → Int → Option Int} {d k : Nat} {Q : Int → HV → Prop} {is : List Instr} {h : HV} {ls st : List AV} {o : Int} {a1 a2 : AV}  : X fz d k Q (.invokeinterface 20252 3 :: is) ls (a2 :: a1 :: (3, o) :: st) h = (((o ≠ 0 ∧ o % 64 = 2) ∧ wds st ≤ 8) ∧ 0 < d ∧ Sp fz (d - 1) 79 [(3, o), a1, a2] h (fun x h => X fz d k Q is ls st h)) := rfl
theorem x_call8 {fz : Int → Int → Option Int} {d k : Nat} {Q : Int → HV → Prop} {is : List Instr} {h : HV} {ls st : List AV} {o : Int}  : X fz d k Q (.invokeinterface 2116 1 :: is) ls ((3, o) :: st) h = (((o ≠ 0 ∧ o % 64 = 7) ∧ wds st ≤ 8) ∧ 0 < d ∧ Sp fz (d - 1) 8 [(3, o)] h (fun x h => X fz d k Q is ls st h)) := rfl
theorem x_call80 {fz : Int → Int → Option Int} {d k : Nat} {Q : Int → HV → Prop} {is : List Instr} {h : HV} {ls st : List AV} {o : Int} {a1 : AV}  : X fz d k Q (.invokeinterface 20508 2 :: is) ls (a1 :: (3, o) :: st) h = (((o ≠ 0 ∧ o % 64 = 2) ∧ wds st ≤ 8) ∧ 0 < d ∧ Sp fz (d - 1) 80 [(3, o), a1] h (fun x h => X fz d k Q is ls st h)) := rfl
theorem x_call81 {fz : Int → Int → Option Int} {d k : Nat} {Q : Int → HV → Prop} {is : List Instr} {h : HV} {ls st : List AV} {o : Int}  : X fz d k Q (.invokeinterface 20764 1 :: is) ls ((3, o) :: st) h = (((o ≠ 0 ∧ o % 64 = 2) ∧ wds st ≤ 8) ∧ 0 < d ∧ Sp fz (d - 1) 81 [(3, o)] h (fun x h => X fz d k Q is ls st h)) := rfl
theorem x_call82 {fz : Int → Int → Option Int} {d k : Nat} {Q : Int → HV → Prop} {is : List Instr} {h : HV} {ls st : List AV} {o : Int} {a1 : AV}  : X fz d k Q (.invokeinterface 21084 2 :: is) ls (a1 :: (3, o) :: st) h = (((o ≠ 0 ∧ o % 64 = 10) ∧ wds st ≤ 8) ∧ 0 < d ∧ Sp fz (d - 1) 82 [(3, o), a1] h (fun x h => X fz d k Q is ls st h)) := rfl
theorem x_call83 {fz : Int → Int → Option Int} {d k : Nat} {Q : Int → HV → Prop} {is : List Instr} {h : HV} {ls st : List AV} {o : Int} {a1 : AV}  : X fz d k Q (.invokeinterface 21276 2 :: is) ls (a1 :: (3, o) :: st) h = (((o ≠ 0 ∧ o % 64 = 2) ∧ wds st ≤ 8) ∧ 0 < d ∧ Sp fz (d - 1) 83 [(3, o), a1] h (fun x h => X fz d k Q is ls st h)) := rfl
theorem x_call84 {fz : Int → Int → Option Int} {d k : Nat} {Q : Int → HV → Prop} {is : List Instr} {h : HV} {ls st : List AV} {o : Int}  : X fz d k Q (.invokeinterface 21520 1 :: is) ls ((3, o) :: st) h = (((o ≠ 0 ∧ o % 64 = 1) ∧ wds st ≤ 8) ∧ 0 < d ∧ Sp fz (d - 1) 84 [(3, o)] h (fun x h => X fz d k Q is ls ((0, x) :: st) h)) := rfl
theorem x_call85 {fz : Int → Int → Option Int} {d k : Nat} {Q : Int → HV → Prop} {is : List Instr} {h : HV} {ls st : List AV} {o : Int} {a1 : AV}  : X fz d k Q (.invokeinterface 21788 2 :: is) ls (a1 :: (3, o) :: st) h = (((o ≠ 0 ∧ o % 64 = 2) ∧ wds st ≤ 8) ∧ 0 < d ∧ Sp fz (d - 1) 85 [(3, o), a1] h (fun x h => X fz d k Q is ls st h)) := rfl
theorem x_call86 {fz : Int → Int → Option Int} {d k : Nat} {Q : Int → HV → Prop} {is : List Instr} {h : HV} {ls st : List AV} {o : Int} {a1 : AV}  : X fz d k Q (.invokeinterface 22044 2 :: is) ls (a1 :: (3, o) :: st) h = (((o ≠ 0 ∧ o % 64 = 2) ∧ wds st ≤ 8) ∧ 0 < d ∧ Sp fz (d - 1) 86 [(3, o), a1] h (fun x h => X fz d k Q is ls st h)) := rfl
theorem x_call87 {fz : Int → Int → Option Int} {d k : Nat} {Q : Int → HV → Prop} {is : List Instr} {h : HV} {ls st : List AV} {o : Int} {a1 : AV}  : X fz d k Q (.invokeinterface 22300 2 :: is) ls (a1 :: (3, o) :: st) h = (((o ≠ 0 ∧ o % 64 = 2) ∧ wds st ≤ 8) ∧ 0 < d ∧ Sp fz (d - 1) 87 [(3, o), a1] h (fun x h => X fz d k Q is ls st h)) := rfl
theorem x_call88 {fz : Int → Int → Option Int} {d k : Nat} {Q : Int → HV → Prop} {is : List Instr} {h : HV} {ls st : List AV} {o : Int} {a1 : AV}  : X fz d k Q (.invokeinterface 22556 2 :: is) ls (a1 :: (3, o) :: st) h = (((o ≠ 0 ∧ o % 64 = 2) ∧ wds st ≤ 8) ∧ 0 < d ∧ Sp fz (d - 1) 88 [(3, o), a1] h (fun x h => X fz d k Q is ls st h)) := rfl
theorem x_call89 {fz : Int → Int → Option Int} {d k : Nat} {Q : Int → HV → Prop} {is : List Instr} {h : HV} {ls st : List AV} {o : Int} {a1 : AV}  : X fz d k Q (.invokeinterface 22812 2 :: is) ls (a1 :: (3, o) :: st) h = (((o ≠ 0 ∧ o % 64 = 2) ∧ wds st ≤ 8) ∧ 0 < d ∧ Sp fz (d - 1) 89 [(3, o), a1] h (fun x h => X fz d k Q is ls st h)) := rfl
theorem x_call9 {fz : Int → Int → Option Int} {d k : Nat} {Q : Int → HV → Prop} {is : List Instr} {h : HV} {ls st : List AV} {o : Int} {a1 : AV}  : X fz d k Q (.invokeinterface 2380 2 :: is) ls (a1 :: (3, o) :: st) h = (((o ≠ 0 ∧ o % 64 = 8) ∧ wds st ≤ 8) ∧ 0 < d ∧ Sp fz (d - 1) 9 [(3, o), a1] h (fun x h => X fz d k Q is ls st h)) := rfl
theorem x_call90 {fz : Int → Int → Option Int} {d k : Nat} {Q : Int → HV → Prop} {is : List Instr} {h : HV} {ls st : List AV} {o : Int}  : X fz d k Q (.invokeinterface 23068 1 :: is) ls ((3, o) :: st) h = (((o ≠ 0 ∧ o % 64 = 2) ∧ wds st ≤ 8) ∧ 0 < d ∧ Sp fz (d - 1) 90 [(3, o)] h (fun x h => X fz d k Q is ls st h)) := rfl
theorem x_call91 {fz : Int → Int → Option Int} {d k : Nat} {Q : Int → HV → Prop} {is : List Instr} {h : HV} {ls st : List AV} {o : Int} {a1 : AV}  : X fz d k Q (.invokeinterface 23324 2 :: is) ls (a1 :: (3, o) :: st) h = (((o ≠ 0 ∧ o % 64 = 2) ∧ wds st ≤ 8) ∧ 0 < d ∧ Sp fz (d - 1) 91 [(3, o), a1] h (fun x h => X fz d k Q is ls st h)) := rfl
theorem x_call92 {fz : Int → Int → Option Int} {d k : Nat} {Q : Int → HV → Prop} {is : List Instr} {h : HV} {ls st : List AV} {o : Int} {a1 a2 a3 : AV}  : X fz d k Q (.invokeinterface 23580 4 :: is) ls (a3 :: a2 :: a1 :: (3, o) :: st) h = (((o ≠ 0 ∧ o % 64 = 2) ∧ wds st ≤ 8) ∧ 0 < d ∧ Sp fz (d - 1) 92 [(3, o), a1, a2, a3] h (fun x h => X fz d k Q is ls st h)) := rfl
theorem x_call93 {fz : Int → Int → Option Int} {d k : Nat} {Q : Int → HV → Prop} {is : List Instr} {h : HV} {ls st : List AV} {o : Int} {a1 a2 : AV}  : X fz d k Q (.invokeinterface 23836 3 :: is) ls (a2 :: a1 :: (3, o) :: st) h = (((o ≠ 0 ∧ o % 64 = 2) ∧ wds st ≤ 8) ∧ 0 < d ∧ Sp fz (d - 1) 93 [(3, o), a1, a2] h (fun x h => X fz d k Q is ls st h)) := rfl
theorem x_call94 {fz : Int → Int → Option Int} {d k : Nat} {Q : Int → HV → Prop} {is : List Instr} {h : HV} {ls st : List AV} {o : Int}  : X fz d k Q (.invokeinterface 24081 1 :: is) ls ((3, o) :: st) h = (((o ≠ 0 ∧ o % 64 = 1) ∧ wds st ≤ 8) ∧ 0 < d ∧ Sp fz (d - 1) 94 [(3, o)] h (fun x h => X fz d k Q is ls ((1, x) :: st) h)) := rfl
theorem x_call95 {fz : Int → Int → Option Int} {d k : Nat} {Q : Int → HV → Prop} {is : List Instr} {h : HV} {ls st : List AV} {o : Int}  : X fz d k Q (.invokeinterface 24336 1 :: is) ls ((3, o) :: st) h = (((o ≠ 0 ∧ o % 64 = 1) ∧ wds st ≤ 8) ∧ 0 < d ∧ Sp fz (d - 1) 95 [(3, o)] h (fun x h => X fz d k Q is ls ((0, x) :: st) h)) := rfl
theorem x_call96 {fz : Int → Int → Option Int} {d k : Nat} {Q : Int → HV → Prop} {is : List Instr} {h : HV} {ls st : List AV} {a0 a1 : AV}  : X fz d k Q (.invokeinterface 24577 2 :: is) ls (a1 :: a0 :: st) h = ((True ∧ wds st ≤ 8) ∧ 0 < d ∧ Sp fz (d - 1) 96 [a0, a1] h (fun x h => X fz d k Q is ls ((1, x) :: st) h)) := rfl
theorem x_call97 {fz : Int → Int → Option Int} {d k : Nat} {Q : Int → HV → Prop} {is : List Instr} {h : HV} {ls st : List AV} {a0 : AV}  : X fz d k Q (.invokeinterface 24833 1 :: is) ls (a0 :: st) h = ((True ∧ wds st ≤ 8) ∧ 0 < d ∧ Sp fz (d - 1) 97 [a0] h (fun x h => X fz d k Q is ls ((1, x) :: st) h)) := rfl
theorem x_call98 {fz : Int → Int → Option Int} {d k : Nat} {Q : Int → HV → Prop} {is : List Instr} {h : HV} {ls st : List AV} {a0 a1 a2 : AV}  : X fz d k Q (.invokeinterface 25089 3 :: is) ls (a2 :: a1 :: a0 :: st) h = ((True ∧ wds st ≤ 8) ∧ 0 < d ∧ Sp fz (d - 1) 98 [a0, a1, a2] h (fun x h => X fz d k Q is ls ((1, x) :: st) h)) := rfl
theorem x_call99 {fz : Int → Int → Option Int} {d k : Nat} {Q : Int → HV → Prop} {is : List Instr} {h : HV} {ls st : List AV} {a0 : AV}  : X fz d k Q (.invokeinterface 25344 1 :: is) ls (a0 :: st) h = ((True ∧ wds st ≤ 8) ∧ 0 < d ∧ Sp fz (d - 1) 99 [a0] h (fun x h => X fz d k Q is ls ((0, x) :: st) h)) := rfl
theorem x_d2i {fz : Int → Int → Option Int} {d k : Nat} {Q : Int → HV → Prop} {is : List Instr} {h : HV} {ls st : List AV} {x : Int} : X fz d k Q (.d2i :: is) ls ((2, x) :: st) h = X fz d k Q is ls ((0, (FP.d2i (d_U x)).toInt) :: st) h := rfl
theorem x_d2l {fz : Int → Int → Option Int} {d k : Nat} {Q : Int → HV → Prop} {is : List Instr} {h : HV} {ls st : List AV} {x : Int} : X fz d k Q (.d2l :: is) ls ((2, x) :: st) h = (wds st ≤ 8 ∧ X fz d k Q is ls ((1, x) :: st) h) := rfl
theorem x_dadd {fz : Int → Int → Option Int} {d k : Nat} {Q : Int → HV → Prop} {is : List Instr} {h : HV} {ls st : List AV} {x y : Int} : X fz d k Q (.dadd :: is) ls ((2, y) :: (2, x) :: st) h = (vf_n64 (FP.dadd (d_U x) (d_U y)) ∧ X fz d k Q is ls ((2, d_I (FP.dadd (d_U x) (d_U y))) :: st) h) := rfl
theorem x_daload {fz : Int → Int → Option Int} {d k : Nat} {Q : Int → HV → Prop} {is : List Instr} {h : HV} {ls st : List AV} {o i : Int} : X fz d k Q (.daload :: is) ls ((0, i) :: (3, o) :: st) h = ((o % 64 = 34 ∧ 0 ≤ i ∧ i < rd fz h o (-1)) ∧ X fz d k Q is ls ((2, h o i) :: st) h) := rfl
theorem x_dastore {fz : Int → Int → Option Int} {d k : Nat} {Q : Int → HV → Prop} {is : List Instr} {h : HV} {ls st : List AV} {o i x : Int} : X fz d k Q (.dastore :: is) ls ((2, x) :: (0, i) :: (3, o) :: st) h = ((o % 64 = 34 ∧ 0 ≤ i ∧ i < rd fz h o (-1)) ∧ X fz d k Q is ls st (hset h o i x)) := rfl
theorem x_dcmp {fz : Int → Int → Option Int} {d k : Nat} {Q : Int → HV → Prop} {is : List Instr} {h : HV} {ls st : List AV} {x y : Int} {op : CmpOp} : X fz d k Q (.dcmp op :: is) ls ((2, y) :: (2, x) :: st) h = X fz d k Q is ls ((0, d_cmp op x y) :: st) h := rfl
theorem x_ddiv {fz : Int → Int → Option Int} {d k : Nat} {Q : Int → HV → Prop} {is : List Instr} {h : HV} {ls st : List AV} {x y : Int} : X fz d k Q (.ddiv :: is) ls ((2, y) :: (2, x) :: st) h = (vf_n64 (FP.ddiv (d_U x) (d_U y)) ∧ X fz d k Q is ls ((2, d_I (FP.ddiv (d_U x) (d_U y))) :: st) h) := rfl
theorem x_dload0 {fz : Int → Int → Option Int} {d k : Nat} {Q : Int → HV → Prop} {is : List Instr} {h : HV} {r st : List AV} {x : Int} : X fz d k Q (.dload 0 :: is) ((2, x) :: r) st h = X fz d k Q is ((2, x) :: r) ((2, x) :: st) h := rfl
theorem x_dload1 {fz : Int → Int → Option Int} {d k : Nat} {Q : Int → HV → Prop} {is : List Instr} {h : HV} {a0 : AV} {r st : List AV} {x : Int} : X fz d k Q (.dload 1 :: is) (a0 :: (2, x) :: r) st h = X fz d k Q is (a0 :: (2, x) :: r) ((2, x) :: st) h := rfl
theorem x_dload3 {fz : Int → Int → Option Int} {d k : Nat} {Q : Int → HV → Prop} {is : List Instr} {h : HV} {a0 a1 a2 : AV} {r st : List AV} {x : Int} : X fz d k Q (.dload 3 :: is) (a0 :: a1 :: a2 :: (2, x) :: r) st h = X fz d k Q is (a0 :: a1 :: a2 :: (2, x) :: r) ((2, x) :: st) h := rfl
theorem x_dload4 {fz : Int → Int → Option Int} {d k : Nat} {Q : Int → HV → Prop} {is : List Instr} {h : HV} {a0 a1 a2 a3 : AV} {r st : List AV} {x : Int} : X fz d k Q (.dload 4 :: is) (a0 :: a1 :: a2 :: a3 :: (2, x) :: r) st h = X fz d k Q is (a0 :: a1 :: a2 :: a3 :: (2, x) :: r) ((2, x) :: st) h := rfl
theorem x_dload6 {fz : Int → Int → Option Int} {d k : Nat} {Q : Int → HV → Prop} {is : List Instr} {h : HV} {a0 a1 a2 a3 a4 a5 : AV} {r st : List AV} {x : Int} : X fz d k Q (.dload 6 :: is) (a0 :: a1 :: a2 :: a3 :: a4 :: a5 :: (2, x) :: r) st h = X fz d k Q is (a0 :: a1 :: a2 :: a3 :: a4 :: a5 :: (2, x) :: r) ((2, x) :: st) h := rfl
theorem x_dload9 {fz : Int → Int → Option Int} {d k : Nat} {Q : Int → HV → Prop} {is : List Instr} {h : HV} {a0 a1 a2 a3 a4 a5 a6 a7 a8 : AV} {r st : List AV} {x : Int} : X fz d k Q (.dload 9 :: is) (a0 :: a1 :: a2 :: a3 :: a4 :: a5 :: a6 :: a7 :: a8 :: (2, x) :: r) st h = X fz d k Q is (a0 :: a1 :: a2 :: a3 :: a4 :: a5 :: a6 :: a7 :: a8 :: (2, x) :: r) ((2, x) :: st) h := rfl
theorem x_dmul {fz : Int → Int → Option Int} {d k : Nat} {Q : Int → HV → Prop} {is : List Instr} {h : HV} {ls st : List AV} {x y : Int} : X fz d k Q (.dmul :: is) ls ((2, y) :: (2, x) :: st) h = (vf_n64 (FP.dmul (d_U x) (d_U y)) ∧ X fz d k Q is ls ((2, d_I (FP.dmul (d_U x) (d_U y))) :: st) h) := rfl
theorem x_dneg {fz : Int → Int → Option Int} {d k : Nat} {Q : Int → HV → Prop} {is : List Instr} {h : HV} {ls st : List AV} {x : Int} : X fz d k Q (.dneg :: is) ls ((2, x) :: st) h = X fz d k Q is ls ((2, d_I (FP.dneg (d_U x))) :: st) h := rfl
theorem x_drem {fz : Int → Int → Option Int} {d k : Nat} {Q : Int → HV → Prop} {is : List Instr} {h : HV} {ls st : List AV} {x y : Int} : X fz d k Q (.drem :: is) ls ((2, y) :: (2, x) :: st) h = (vf_n64 (FP.drem (d_U x) (d_U y)) ∧ X fz d k Q is ls ((2, d_I (FP.drem (d_U x) (d_U y))) :: st) h) := rfl
theorem x_dreturn {fz : Int → Int → Option Int} {d k : Nat} {Q : Int → HV → Prop} {is : List Instr} {h : HV} {ls : List AV} {x : Int} : X fz d k Q (.dreturn :: is) ls [(2, x)] h = Q x h := rfl
theorem x_dstore4 {fz : Int → Int → Option Int} {d k : Nat} {Q : Int → HV → Prop} {is : List Instr} {h : HV} {a0 a1 a2 a3 : AV} {b c : AV} {r st : List AV} {x : Int} : X fz d k Q (.dstore 4 :: is) (a0 :: a1 :: a2 :: a3 :: b :: c :: r) ((2, x) :: st) h = X fz d k Q is (a0 :: a1 :: a2 :: klp 0 a3 :: (2, x) :: (9, 0) :: r) st h := rfl
theorem x_dstore6 {fz : Int → Int → Option Int} {d k : Nat} {Q : Int → HV → Prop} {is : List Instr} {h : HV} {a0 a1 a2 a3 a4 a5 : AV} {b c : AV} {r st : List AV} {x : Int} : X fz d k Q (.dstore 6 :: is) (a0 :: a1 :: a2 :: a3 :: a4 :: a5 :: b :: c :: r) ((2, x) :: st) h = X fz d k Q is (a0 :: a1 :: a2 :: a3 :: a4 :: klp 0 a5 :: (2, x) :: (9, 0) :: r) st h := rfl
theorem x_dstore9 {fz : Int → Int → Option Int} {d k : Nat} {Q : Int → HV → Prop} {is : List Instr} {h : HV} {a0 a1 a2 a3 a4 a5 a6 a7 a8 : AV} {b c : AV} {r st : List AV} {x : Int} : X fz d k Q (.dstore 9 :: is) (a0 :: a1 :: a2 :: a3 :: a4 :: a5 :: a6 :: a7 :: a8 :: b :: c :: r) ((2, x) :: st) h = X fz d k Q is (a0 :: a1 :: a2 :: a3 :: a4 :: a5 :: a6 :: a7 :: klp 0 a8 :: (2, x) :: (9, 0) :: r) st h := rfl
theorem x_dsub {fz : Int → Int → Option Int} {d k : Nat} {Q : Int → HV → Prop} {is : List Instr} {h : HV} {ls st : List AV} {x y : Int} : X fz d k Q (.dsub :: is) ls ((2, y) :: (2, x) :: st) h = (vf_n64 (FP.dsub (d_U x) (d_U y)) ∧ X fz d k Q is ls ((2, d_I (FP.dsub (d_U x) (d_U y))) :: st) h) := rfl
theorem x_dup0 {fz : Int → Int → Option Int} {d k : Nat} {Q : Int → HV → Prop} {is : List Instr} {h : HV} {ls st : List AV} {x : Int} : X fz d k Q (.dup :: is) ls ((0, x) :: st) h = X fz d k Q is ls ((0, x) :: (0, x) :: st) h := rfl
theorem x_dup203 {fz : Int → Int → Option Int} {d k : Nat} {Q : Int → HV → Prop} {is : List Instr} {h : HV} {ls st : List AV} {x y : Int} : X fz d k Q (.dup2 :: is) ls ((0, x) :: (3, y) :: st) h = X fz d k Q is ls ((0, x) :: (3, y) :: (0, x) :: (3, y) :: st) h := rfl
theorem x_dup21 {fz : Int → Int → Option Int} {d k : Nat} {Q : Int → HV → Prop} {is : List Instr} {h : HV} {ls st : List AV} {x : Int} : X fz d k Q (.dup2 :: is) ls ((1, x) :: st) h = X fz d k Q is ls ((1, x) :: (1, x) :: st) h := rfl
theorem x_dup3 {fz : Int → Int → Option Int} {d k : Nat} {Q : Int → HV → Prop} {is : List Instr} {h : HV} {ls st : List AV} {x : Int} : X fz d k Q (.dup :: is) ls ((3, x) :: st) h = X fz d k Q is ls ((3, x) :: (3, x) :: st) h := rfl
theorem x_f2d {fz : Int → Int → Option Int} {d k : Nat} {Q : Int → HV → Prop} {is : List Instr} {h : HV} {ls st : List AV} {x : Int} : X fz d k Q (.f2d :: is) ls ((1, x) :: st) h = ((vn_snl2d (Int64.ofInt x) = false ∧ wds st ≤ 8) ∧ X fz d k Q is ls ((2, x) :: st) h) := rfl
theorem x_fadd {fz : Int → Int → Option Int} {d k : Nat} {Q : Int → HV → Prop} {is : List Instr} {h : HV} {ls : List AV} {x : Int} : X fz d k Q (.fadd :: is) ls [(0, x)] h = Q (w8 x) h := rfl
theorem x_fneg {fz : Int → Int → Option Int} {d k : Nat} {Q : Int → HV → Prop} {is : List Instr} {h : HV} {ls : List AV} {x : Int} : X fz d k Q (.fneg :: is) ls [(0, x)] h = Q (x % 65536) h := rfl
theorem x_freturn {fz : Int → Int → Option Int} {d k : Nat} {Q : Int → HV → Prop} {is : List Instr} {h : HV} {ls : List AV} {x : Int} : X fz d k Q (.freturn :: is) ls [(0, x)] h = Q (x % 2) h := rfl
theorem x_gc_10243 {fz : Int → Int → Option Int} {d k : Nat} {Q : Int → HV → Prop} {is : List Instr} {h : HV} {ls st : List AV} {o : Int} : X fz d k Q (.ifnonnull 10243 :: is) ls ((3, o) :: st) h = ((o ≠ 0 ∧ o % 64 = 10) ∧ X fz d k Q is ls ((3, rd fz h o 0) :: st) h) := rfl
theorem x_gc_10251 {fz : Int → Int → Option Int} {d k : Nat} {Q : Int → HV → Prop} {is : List Instr} {h : HV} {ls st : List AV} {o : Int} : X fz d k Q (.ifnonnull 10251 :: is) ls ((3, o) :: st) h = ((o ≠ 0 ∧ o % 64 = 10) ∧ X fz d k Q is ls ((3, rd fz h o 1) :: st) h) := rfl
theorem x_gc_10259 {fz : Int → Int → Option Int} {d k : Nat} {Q : Int → HV → Prop} {is : List Instr} {h : HV} {ls st : List AV} {o : Int} : X fz d k Q (.ifnonnull 10259 :: is) ls ((3, o) :: st) h = ((o ≠ 0 ∧ o % 64 = 10) ∧ X fz d k Q is ls ((3, rd fz h o 2) :: st) h) := rfl
theorem x_gc_10267 {fz : Int → Int → Option Int} {d k : Nat} {Q : Int → HV → Prop} {is : List Instr} {h : HV} {ls st : List AV} {o : Int} : X fz d k Q (.ifnonnull 10267 :: is) ls ((3, o) :: st) h = ((o ≠ 0 ∧ o % 64 = 10) ∧ X fz d k Q is ls ((3, rd fz h o 3) :: st) h) := rfl
theorem x_gc_1027 {fz : Int → Int → Option Int} {d k : Nat} {Q : Int → HV → Prop} {is : List Instr} {h : HV} {ls st : List AV} {o : Int} : X fz d k Q (.ifnonnull 1027 :: is) ls ((3, o) :: st) h = ((o ≠ 0 ∧ o % 64 = 1) ∧ X fz d k Q is ls ((3, rd fz h o 0) :: st) h) := rfl
theorem x_gc_10275 {fz : Int → Int → Option Int} {d k : Nat} {Q : Int → HV → Prop} {is : List Instr} {h : HV} {ls st : List AV} {o : Int} : X fz d k Q (.ifnonnull 10275 :: is) ls ((3, o) :: st) h = ((o ≠ 0 ∧ o % 64 = 10) ∧ X fz d k Q is ls ((3, rd fz h o 4) :: st) h) := rfl
theorem x_gc_10283 {fz : Int → Int → Option Int} {d k : Nat} {Q : Int → HV → Prop} {is : List Instr} {h : HV} {ls st : List AV} {o : Int} : X fz d k Q (.ifnonnull 10283 :: is) ls ((3, o) :: st) h = ((o ≠ 0 ∧ o % 64 = 10) ∧ X fz d k Q is ls ((3, rd fz h o 5) :: st) h) := rfl
theorem x_gc_10291 {fz : Int → Int → Option Int} {d k : Nat} {Q : Int → HV → Prop} {is : List Instr} {h : HV} {ls st : List AV} {o : Int} : X fz d k Q (.ifnonnull 10291 :: is) ls ((3, o) :: st) h = ((o ≠ 0 ∧ o % 64 = 10) ∧ X fz d k Q is ls ((3, rd fz h o 6) :: st) h) := rfl
theorem x_gc_10299 {fz : Int → Int → Option Int} {d k : Nat} {Q : Int → HV → Prop} {is : List Instr} {h : HV} {ls st : List AV} {o : Int} : X fz d k Q (.ifnonnull 10299 :: is) ls ((3, o) :: st) h = ((o ≠ 0 ∧ o % 64 = 10) ∧ X fz d k Q is ls ((3, rd fz h o 7) :: st) h) := rfl
theorem x_gc_10307 {fz : Int → Int → Option Int} {d k : Nat} {Q : Int → HV → Prop} {is : List Instr} {h : HV} {ls st : List AV} {o : Int} : X fz d k Q (.ifnonnull 10307 :: is) ls ((3, o) :: st) h = ((o ≠ 0 ∧ o % 64 = 10) ∧ X fz d k Q is ls ((3, rd fz h o 8) :: st) h) := rfl
theorem x_gc_10315 {fz : Int → Int → Option Int} {d k : Nat} {Q : Int → HV → Prop} {is : List Instr} {h : HV} {ls st : List AV} {o : Int} : X fz d k Q (.ifnonnull 10315 :: is) ls ((3, o) :: st) h = ((o ≠ 0 ∧ o % 64 = 10) ∧ X fz d k Q is ls ((3, rd fz h o 9) :: st) h) := rfl
theorem x_gc_10323 {fz : Int → Int → Option Int} {d k : Nat} {Q : Int → HV → Prop} {is : List Instr} {h : HV} {ls st : List AV} {o : Int} : X fz d k Q (.ifnonnull 10323 :: is) ls ((3, o) :: st) h = ((o ≠ 0 ∧ o % 64 = 10) ∧ X fz d k Q is ls ((3, rd fz h o 10) :: st) h) := rfl
theorem x_gc_10339 {fz : Int → Int → Option Int} {d k : Nat} {Q : Int → HV → Prop} {is : List Instr} {h : HV} {ls st : List AV} {o : Int} : X fz d k Q (.ifnonnull 10339 :: is) ls ((3, o) :: st) h = ((o ≠ 0 ∧ o % 64 = 10) ∧ X fz d k Q is ls ((3, rd fz h o 12) :: st) h) := rfl
theorem x_gc_10347 {fz : Int → Int → Option Int} {d k : Nat} {Q : Int → HV → Prop} {is : List Instr} {h : HV} {ls st : List AV} {o : Int} : X fz d k Q (.ifnonnull 10347 :: is) ls ((3, o) :: st) h = ((o ≠ 0 ∧ o % 64 = 10) ∧ X fz d k Q is ls ((3, rd fz h o 13) :: st) h) := rfl
theorem x_gc_10355 {fz : Int → Int → Option Int} {d k : Nat} {Q : Int → HV → Prop} {is : List Instr} {h : HV} {ls st : List AV} {o : Int} : X fz d k Q (.ifnonnull 10355 :: is) ls ((3, o) :: st) h = ((o ≠ 0 ∧ o % 64 = 10) ∧ X fz d k Q is ls ((3, rd fz h o 14) :: st) h) := rfl
theorem x_gc_10371 {fz : Int → Int → Option Int} {d k : Nat} {Q : Int → HV → Prop} {is : List Instr} {h : HV} {ls st : List AV} {o : Int} : X fz d k Q (.ifnonnull 10371 :: is) ls ((3, o) :: st) h = ((o ≠ 0 ∧ o % 64 = 10) ∧ X fz d k Q is ls ((3, rd fz h o 16) :: st) h) := rfl
theorem x_gc_107 {fz : Int → Int → Option Int} {d k : Nat} {Q : Int → HV → Prop} {is : List Instr} {h : HV} {ls st : List AV} {o : Int} : X fz d k Q (.ifnonnull 107 :: is) ls ((3, o) :: st) h = ((o ≠ 0 ∧ o % 64 = 0) ∧ X fz d k Q is ls ((3, rd fz h o 13) :: st) h) := rfl
theorem x_gc_11 {fz : Int → Int → Option Int} {d k : Nat} {Q : Int → HV → Prop} {is : List Instr} {h : HV} {ls st : List AV} {o : Int} : X fz d k Q (.ifnonnull 11 :: is) ls ((3, o) :: st) h = ((o ≠ 0 ∧ o % 64 = 0) ∧ X fz d k Q is ls ((3, rd fz h o 1) :: st) h) := rfl
theorem x_gc_11267 {fz : Int → Int → Option Int} {d k : Nat} {Q : Int → HV → Prop} {is : List Instr} {h : HV} {ls st : List AV} {o : Int} : X fz d k Q (.ifnonnull 11267 :: is) ls ((3, o) :: st) h = ((o ≠ 0 ∧ o % 64 = 11) ∧ X fz d k Q is ls ((3, rd fz h o 0) :: st) h) := rfl
theorem x_gc_11355 {fz : Int → Int → Option Int} {d k : Nat} {Q : Int → HV → Prop} {is : List Instr} {h : HV} {ls st : List AV} {o : Int} : X fz d k Q (.ifnonnull 11355 :: is) ls ((3, o) :: st) h = ((o ≠ 0 ∧ o % 64 = 11) ∧ X fz d k Q is ls ((3, rd fz h o 11) :: st) h) := rfl
theorem x_gc_11379 {fz : Int → Int → Option Int} {d k : Nat} {Q : Int → HV → Prop} {is : List Instr} {h : HV} {ls st : List AV} {o : Int} : X fz d k Q (.ifnonnull 11379 :: is) ls ((3, o) :: st) h = ((o ≠ 0 ∧ o % 64 = 11) ∧ X fz d k Q is ls ((3, rd fz h o 14) :: st) h) := rfl
theorem x_gc_11395 {fz : Int → Int → Option Int} {d k : Nat} {Q : Int → HV → Prop} {is : List Instr} {h : HV} {ls st : List AV} {o : Int} : X fz d k Q (.ifnonnull 11395 :: is) ls ((3, o) :: st) h = ((o ≠ 0 ∧ o % 64 = 11) ∧ X fz d k Q is ls ((3, rd fz h o 16) :: st) h) := rfl
theorem x_gc_11403 {fz : Int → Int → Option Int} {d k : Nat} {Q : Int → HV → Prop} {is : List Instr} {h : HV} {ls st : List AV} {o : Int} : X fz d k Q (.ifnonnull 11403 :: is) ls ((3, o) :: st) h = ((o ≠ 0 ∧ o % 64 = 11) ∧ X fz d k Q is ls ((3, rd fz h o 17) :: st) h) := rfl
theorem x_gc_11411 {fz : Int → Int → Option Int} {d k : Nat} {Q : Int → HV → Prop} {is : List Instr} {h : HV} {ls st : List AV} {o : Int} : X fz d k Q (.ifnonnull 11411 :: is) ls ((3, o) :: st) h = ((o ≠ 0 ∧ o % 64 = 11) ∧ X fz d k Q is ls ((3, rd fz h o 18) :: st) h) := rfl
theorem x_gc_11427 {fz : Int → Int → Option Int} {d k : Nat} {Q : Int → HV → Prop} {is : List Instr} {h : HV} {ls st : List AV} {o : Int} : X fz d k Q (.ifnonnull 11427 :: is) ls ((3, o) :: st) h = ((o ≠ 0 ∧ o % 64 = 11) ∧ X fz d k Q is ls ((3, rd fz h o 20) :: st) h) := rfl
theorem x_gc_11435 {fz : Int → Int → Option Int} {d k : Nat} {Q : Int → HV → Prop} {is : List Instr} {h : HV} {ls st : List AV} {o : Int} : X fz d k Q (.ifnonnull 11435 :: is) ls ((3, o) :: st) h = ((o ≠ 0 ∧ o % 64 = 11) ∧ X fz d k Q is ls ((3, rd fz h o 21) :: st) h) := rfl
theorem x_gc_11443 {fz : Int → Int → Option Int} {d k : Nat} {Q : Int → HV → Prop} {is : List Instr} {h : HV} {ls st : List AV} {o : Int} : X fz d k Q (.ifnonnull 11443 :: is) ls ((3, o) :: st) h = ((o ≠ 0 ∧ o % 64 = 11) ∧ X fz d k Q is ls ((3, rd fz h o 22) :: st) h) := rfl
theorem x_gc_11451 {fz : Int → Int → Option Int} {d k : Nat} {Q : Int → HV → Prop} {is : List Instr} {h : HV} {ls st : List AV} {o : Int} : X fz d k Q (.ifnonnull 11451 :: is) ls ((3, o) :: st) h = ((o ≠ 0 ∧ o % 64 = 11) ∧ X fz d k Q is ls ((3, rd fz h o 23) :: st) h) := rfl
theorem x_gc_11475 {fz : Int → Int → Option Int} {d k : Nat} {Q : Int → HV → Prop} {is : List Instr} {h : HV} {ls st : List AV} {o : Int} : X fz d k Q (.ifnonnull 11475 :: is) ls ((3, o) :: st) h = ((o ≠ 0 ∧ o % 64 = 11) ∧ X fz d k Q is ls ((3, rd fz h o 26) :: st) h) := rfl
theorem x_gc_11483 {fz : Int → Int → Option Int} {d k : Nat} {Q : Int → HV → Prop} {is : List Instr} {h : HV} {ls st : List AV} {o : Int} : X fz d k Q (.ifnonnull 11483 :: is) ls ((3, o) :: st) h = ((o ≠ 0 ∧ o % 64 = 11) ∧ X fz d k Q is ls ((3, rd fz h o 27) :: st) h) := rfl
theorem x_gc_11491 {fz : Int → Int → Option Int} {d k : Nat} {Q : Int → HV → Prop} {is : List Instr} {h : HV} {ls st : List AV} {o : Int} : X fz d k Q (.ifnonnull 11491 :: is) ls ((3, o) :: st) h = ((o ≠ 0 ∧ o % 64 = 11) ∧ X fz d k Q is ls ((3, rd fz h o 28) :: st) h) := rfl
theorem x_gc_11499 {fz : Int → Int → Option Int} {d k : Nat} {Q : Int → HV → Prop} {is : List Instr} {h : HV} {ls st : List AV} {o : Int} : X fz d k Q (.ifnonnull 11499 :: is) ls ((3, o) :: st) h = ((o ≠ 0 ∧ o % 64 = 11) ∧ X fz d k Q is ls ((3, rd fz h o 29) :: st) h) := rfl
theorem x_gc_115 {fz : Int → Int → Option Int} {d k : Nat} {Q : Int → HV → Prop} {is : List Instr} {h : HV} {ls st : List AV} {o : Int} : X fz d k Q (.ifnonnull 115 :: is) ls ((3, o) :: st) h = ((o ≠ 0 ∧ o % 64 = 0) ∧ X fz d k Q is ls ((3, rd fz h o 14) :: st) h) := rfl
theorem x_gc_11515 {fz : Int → Int → Option Int} {d k : Nat} {Q : Int → HV → Prop} {is : List Instr} {h : HV} {ls st : List AV} {o : Int} : X fz d k Q (.ifnonnull 11515 :: is) ls ((3, o) :: st) h = ((o ≠ 0 ∧ o % 64 = 11) ∧ X fz d k Q is ls ((3, rd fz h o 31) :: st) h) := rfl
theorem x_gc_11523 {fz : Int → Int → Option Int} {d k : Nat} {Q : Int → HV → Prop} {is : List Instr} {h : HV} {ls st : List AV} {o : Int} : X fz d k Q (.ifnonnull 11523 :: is) ls ((3, o) :: st) h = ((o ≠ 0 ∧ o % 64 = 11) ∧ X fz d k Q is ls ((3, rd fz h o 32) :: st) h) := rfl
theorem x_gc_11531 {fz : Int → Int → Option Int} {d k : Nat} {Q : Int → HV → Prop} {is : List Instr} {h : HV} {ls st : List AV} {o : Int} : X fz d k Q (.ifnonnull 11531 :: is) ls ((3, o) :: st) h = ((o ≠ 0 ∧ o % 64 = 11) ∧ X fz d k Q is ls ((3, rd fz h o 33) :: st) h) := rfl
theorem x_gc_11539 {fz : Int → Int → Option Int} {d k : Nat} {Q : Int → HV → Prop} {is : List Instr} {h : HV} {ls st : List AV} {o : Int} : X fz d k Q (.ifnonnull 11539 :: is) ls ((3, o) :: st) h = ((o ≠ 0 ∧ o % 64 = 11) ∧ X fz d k Q is ls ((3, rd fz h o 34) :: st) h) := rfl
theorem x_gc_11547 {fz : Int → Int → Option Int} {d k : Nat} {Q : Int → HV → Prop} {is : List Instr} {h : HV} {ls st : List AV} {o : Int} : X fz d k Q (.ifnonnull 11547 :: is) ls ((3, o) :: st) h = ((o ≠ 0 ∧ o % 64 = 11) ∧ X fz d k Q is ls ((3, rd fz h o 35) :: st) h) := rfl
theorem x_gc_11563 {fz : Int → Int → Option Int} {d k : Nat} {Q : Int → HV → Prop} {is : List Instr} {h : HV} {ls st : List AV} {o : Int} : X fz d k Q (.ifnonnull 11563 :: is) ls ((3, o) :: st) h = ((o ≠ 0 ∧ o % 64 = 11) ∧ X fz d k Q is ls ((3, rd fz h o 37) :: st) h) := rfl
theorem x_gc_11571 {fz : Int → Int → Option Int} {d k : Nat} {Q : Int → HV → Prop} {is : List Instr} {h : HV} {ls st : List AV} {o : Int} : X fz d k Q (.ifnonnull 11571 :: is) ls ((3, o) :: st) h = ((o ≠ 0 ∧ o % 64 = 11) ∧ X fz d k Q is ls ((3, rd fz h o 38) :: st) h) := rfl
theorem x_gc_11579 {fz : Int → Int → Option Int} {d k : Nat} {Q : Int → HV → Prop} {is : List Instr} {h : HV} {ls st : List AV} {o : Int} : X fz d k Q (.ifnonnull 11579 :: is) ls ((3, o) :: st) h = ((o ≠ 0 ∧ o % 64 = 11) ∧ X fz d k Q is ls ((3, rd fz h o 39) :: st) h) := rfl
theorem x_gc_11587 {fz : Int → Int → Option Int} {d k : Nat} {Q : Int → HV → Prop} {is : List Instr} {h : HV} {ls st : List AV} {o : Int} : X fz d k Q (.ifnonnull 11587 :: is) ls ((3, o) :: st) h = ((o ≠ 0 ∧ o % 64 = 11) ∧ X fz d k Q is ls ((3, rd fz h o 40) :: st) h) := rfl
theorem x_gc_11603 {fz : Int → Int → Option Int} {d k : Nat} {Q : Int → HV → Prop} {is : List Instr} {h : HV} {ls st : List AV} {o : Int} : X fz d k Q (.ifnonnull 11603 :: is) ls ((3, o) :: st) h = ((o ≠ 0 ∧ o % 64 = 11) ∧ X fz d k Q is ls ((3, rd fz h o 42) :: st) h) := rfl
theorem x_gc_11611 {fz : Int → Int → Option Int} {d k : Nat} {Q : Int → HV → Prop} {is : List Instr} {h : HV} {ls st : List AV} {o : Int} : X fz d k Q (.ifnonnull 11611 :: is) ls ((3, o) :: st) h = ((o ≠ 0 ∧ o % 64 = 11) ∧ X fz d k Q is ls ((3, rd fz h o 43) :: st) h) := rfl
theorem x_gc_11627 {fz : Int → Int → Option Int} {d k : Nat} {Q : Int → HV → Prop} {is : List Instr} {h : HV} {ls st : List AV} {o : Int} : X fz d k Q (.ifnonnull 11627 :: is) ls ((3, o) :: st) h = ((o ≠ 0 ∧ o % 64 = 11) ∧ X fz d k Q is ls ((3, rd fz h o 45) :: st) h) := rfl
theorem x_gc_11635 {fz : Int → Int → Option Int} {d k : Nat} {Q : Int → HV → Prop} {is : List Instr} {h : HV} {ls st : List AV} {o : Int} : X fz d k Q (.ifnonnull 11635 :: is) ls ((3, o) :: st) h = ((o ≠ 0 ∧ o % 64 = 11) ∧ X fz d k Q is ls ((3, rd fz h o 46) :: st) h) := rfl
theorem x_gc_11643 {fz : Int → Int → Option Int} {d k : Nat} {Q : Int → HV → Prop} {is : List Instr} {h : HV} {ls st : List AV} {o : Int} : X fz d k Q (.ifnonnull 11643 :: is) ls ((3, o) :: st) h = ((o ≠ 0 ∧ o % 64 = 11) ∧ X fz d k Q is ls ((3, rd fz h o 47) :: st) h) := rfl
theorem x_gc_11651 {fz : Int → Int → Option Int} {d k : Nat} {Q : Int → HV → Prop} {is : List Instr} {h : HV} {ls st : List AV} {o : Int} : X fz d k Q (.ifnonnull 11651 :: is) ls ((3, o) :: st) h = ((o ≠ 0 ∧ o % 64 = 11) ∧ X fz d k Q is ls ((3, rd fz h o 48) :: st) h) := rfl
theorem x_gc_11659 {fz : Int → Int → Option Int} {d k : Nat} {Q : Int → HV → Prop} {is : List Instr} {h : HV} {ls st : List AV} {o : Int} : X fz d k Q (.ifnonnull 11659 :: is) ls ((3, o) :: st) h = ((o ≠ 0 ∧ o % 64 = 11) ∧ X fz d k Q is ls ((3, rd fz h o 49) :: st) h) := rfl
theorem x_gc_11667 {fz : Int → Int → Option Int} {d k : Nat} {Q : Int → HV → Prop} {is : List Instr} {h : HV} {ls st : List AV} {o : Int} : X fz d k Q (.ifnonnull 11667 :: is) ls ((3, o) :: st) h = ((o ≠ 0 ∧ o % 64 = 11) ∧ X fz d k Q is ls ((3, rd fz h o 50) :: st) h) := rfl
theorem x_gc_11675 {fz : Int → Int → Option Int} {d k : Nat} {Q : Int → HV → Prop} {is : List Instr} {h : HV} {ls st : List AV} {o : Int} : X fz d k Q (.ifnonnull 11675 :: is) ls ((3, o) :: st) h = ((o ≠ 0 ∧ o % 64 = 11) ∧ X fz d k Q is ls ((3, rd fz h o 51) :: st) h) := rfl
theorem x_gc_11747 {fz : Int → Int → Option Int} {d k : Nat} {Q : Int → HV → Prop} {is : List Instr} {h : HV} {ls st : List AV} {o : Int} : X fz d k Q (.ifnonnull 11747 :: is) ls ((3, o) :: st) h = ((o ≠ 0 ∧ o % 64 = 11) ∧ X fz d k Q is ls ((3, rd fz h o 60) :: st) h) := rfl
theorem x_gc_11763 {fz : Int → Int → Option Int} {d k : Nat} {Q : Int → HV → Prop} {is : List Instr} {h : HV} {ls st : List AV} {o : Int} : X fz d k Q (.ifnonnull 11763 :: is) ls ((3, o) :: st) h = ((o ≠ 0 ∧ o % 64 = 11) ∧ X fz d k Q is ls ((3, rd fz h o 62) :: st) h) := rfl
theorem x_gc_11771 {fz : Int → Int → Option Int} {d k : Nat} {Q : Int → HV → Prop} {is : List Instr} {h : HV} {ls st : List AV} {o : Int} : X fz d k Q (.ifnonnull 11771 :: is) ls ((3, o) :: st) h = ((o ≠ 0 ∧ o % 64 = 11) ∧ X fz d k Q is ls ((3, rd fz h o 63) :: st) h) := rfl
theorem x_gc_11779 {fz : Int → Int → Option Int} {d k : Nat} {Q : Int → HV → Prop} {is : List Instr} {h : HV} {ls st : List AV} {o : Int} : X fz d k Q (.ifnonnull 11779 :: is) ls ((3, o) :: st) h = ((o ≠ 0 ∧ o % 64 = 11) ∧ X fz d k Q is ls ((3, rd fz h o 64) :: st) h) := rfl
theorem x_gc_11795 {fz : Int → Int → Option Int} {d k : Nat} {Q : Int → HV → Prop} {is : List Instr} {h : HV} {ls st : List AV} {o : Int} : X fz d k Q (.ifnonnull 11795 :: is) ls ((3, o) :: st) h = ((o ≠ 0 ∧ o % 64 = 11) ∧ X fz d k Q is ls ((3, rd fz h o 66) :: st) h) := rfl
theorem x_gc_11803 {fz : Int → Int → Option Int} {d k : Nat} {Q : Int → HV → Prop} {is : List Instr} {h : HV} {ls st : List AV} {o : Int} : X fz d k Q (.ifnonnull 11803 :: is) ls ((3, o) :: st) h = ((o ≠ 0 ∧ o % 64 = 11) ∧ X fz d k Q is ls ((3, rd fz h o 67) :: st) h) := rfl
theorem x_gc_11811 {fz : Int → Int → Option Int} {d k : Nat} {Q : Int → HV → Prop} {is : List Instr} {h : HV} {ls st : List AV} {o : Int} : X fz d k Q (.ifnonnull 11811 :: is) ls ((3, o) :: st) h = ((o ≠ 0 ∧ o % 64 = 11) ∧ X fz d k Q is ls ((3, rd fz h o 68) :: st) h) := rfl
theorem x_gc_11859 {fz : Int → Int → Option Int} {d k : Nat} {Q : Int → HV → Prop} {is : List Instr} {h : HV} {ls st : List AV} {o : Int} : X fz d k Q (.ifnonnull 11859 :: is) ls ((3, o) :: st) h = ((o ≠ 0 ∧ o % 64 = 11) ∧ X fz d k Q is ls ((3, rd fz h o 74) :: st) h) := rfl
theorem x_gc_11867 {fz : Int → Int → Option Int} {d k : Nat} {Q : Int → HV → Prop} {is : List Instr} {h : HV} {ls st : List AV} {o : Int} : X fz d k Q (.ifnonnull 11867 :: is) ls ((3, o) :: st) h = ((o ≠ 0 ∧ o % 64 = 11) ∧ X fz d k Q is ls ((3, rd fz h o 75) :: st) h) := rfl
theorem x_gc_11875 {fz : Int → Int → Option Int} {d k : Nat} {Q : Int → HV → Prop} {is : List Instr} {h : HV} {ls st : List AV} {o : Int} : X fz d k Q (.ifnonnull 11875 :: is) ls ((3, o) :: st) h = ((o ≠ 0 ∧ o % 64 = 11) ∧ X fz d k Q is ls ((3, rd fz h o 76) :: st) h) := rfl
theorem x_gc_11883 {fz : Int → Int → Option Int} {d k : Nat} {Q : Int → HV → Prop} {is : List Instr} {h : HV} {ls st : List AV} {o : Int} : X fz d k Q (.ifnonnull 11883 :: is) ls ((3, o) :: st) h = ((o ≠ 0 ∧ o % 64 = 11) ∧ X fz d k Q is ls ((3, rd fz h o 77) :: st) h) := rfl
theorem x_gc_11891 {fz : Int → Int → Option Int} {d k : Nat} {Q : Int → HV → Prop} {is : List Instr} {h : HV} {ls st : List AV} {o : Int} : X fz d k Q (.ifnonnull 11891 :: is) ls ((3, o) :: st) h = ((o ≠ 0 ∧ o % 64 = 11) ∧ X fz d k Q is ls ((3, rd fz h o 78) :: st) h) := rfl
theorem x_gc_11899 {fz : Int → Int → Option Int} {d k : Nat} {Q : Int → HV → Prop} {is : List Instr} {h : HV} {ls st : List AV} {o : Int} : X fz d k Q (.ifnonnull 11899 :: is) ls ((3, o) :: st) h = ((o ≠ 0 ∧ o % 64 = 11) ∧ X fz d k Q is ls ((3, rd fz h o 79) :: st) h) := rfl
theorem x_gc_11907 {fz : Int → Int → Option Int} {d k : Nat} {Q : Int → HV → Prop} {is : List Instr} {h : HV} {ls st : List AV} {o : Int} : X fz d k Q (.ifnonnull 11907 :: is) ls ((3, o) :: st) h = ((o ≠ 0 ∧ o % 64 = 11) ∧ X fz d k Q is ls ((3, rd fz h o 80) :: st) h) := rfl
theorem x_gc_11915 {fz : Int → Int → Option Int} {d k : Nat} {Q : Int → HV → Prop} {is : List Instr} {h : HV} {ls st : List AV} {o : Int} : X fz d k Q (.ifnonnull 11915 :: is) ls ((3, o) :: st) h = ((o ≠ 0 ∧ o % 64 = 11) ∧ X fz d k Q is ls ((3, rd fz h o 81) :: st) h) := rfl
theorem x_gc_11923 {fz : Int → Int → Option Int} {d k : Nat} {Q : Int → HV → Prop} {is : List Instr} {h : HV} {ls st : List AV} {o : Int} : X fz d k Q (.ifnonnull 11923 :: is) ls ((3, o) :: st) h = ((o ≠ 0 ∧ o % 64 = 11) ∧ X fz d k Q is ls ((3, rd fz h o 82) :: st) h) := rfl
theorem x_gc_11931 {fz : Int → Int → Option Int} {d k : Nat} {Q : Int → HV → Prop} {is : List Instr} {h : HV} {ls st : List AV} {o : Int} : X fz d k Q (.ifnonnull 11931 :: is) ls ((3, o) :: st) h = ((o ≠ 0 ∧ o % 64 = 11) ∧ X fz d k Q is ls ((3, rd fz h o 83) :: st) h) := rfl
theorem x_gc_11939 {fz : Int → Int → Option Int} {d k : Nat} {Q : Int → HV → Prop} {is : List Instr} {h : HV} {ls st : List AV} {o : Int} : X fz d k Q (.ifnonnull 11939 :: is) ls ((3, o) :: st) h = ((o ≠ 0 ∧ o % 64 = 11) ∧ X fz d k Q is ls ((3, rd fz h o 84) :: st) h) := rfl
theorem x_gc_11947 {fz : Int → Int → Option Int} {d k : Nat} {Q : Int → HV → Prop} {is : List Instr} {h : HV} {ls st : List AV} {o : Int} : X fz d k Q (.ifnonnull 11947 :: is) ls ((3, o) :: st) h = ((o ≠ 0 ∧ o % 64 = 11) ∧ X fz d k Q is ls ((3, rd fz h o 85) :: st) h) := rfl
theorem x_gc_11963 {fz : Int → Int → Option Int} {d k : Nat} {Q : Int → HV → Prop} {is : List Instr} {h : HV} {ls st : List AV} {o : Int} : X fz d k Q (.ifnonnull 11963 :: is) ls ((3, o) :: st) h = ((o ≠ 0 ∧ o % 64 = 11) ∧ X fz d k Q is ls ((3, rd fz h o 87) :: st) h) := rfl
theorem x_gc_11971 {fz : Int → Int → Option Int} {d k : Nat} {Q : Int → HV → Prop} {is : List Instr} {h : HV} {ls st : List AV} {o : Int} : X fz d k Q (.ifnonnull 11971 :: is) ls ((3, o) :: st) h = ((o ≠ 0 ∧ o % 64 = 11) ∧ X fz d k Q is ls ((3, rd fz h o 88) :: st) h) := rfl
theorem x_gc_11979 {fz : Int → Int → Option Int} {d k : Nat} {Q : Int → HV → Prop} {is : List Instr} {h : HV} {ls st : List AV} {o : Int} : X fz d k Q (.ifnonnull 11979 :: is) ls ((3, o) :: st) h = ((o ≠ 0 ∧ o % 64 = 11) ∧ X fz d k Q is ls ((3, rd fz h o 89) :: st) h) := rfl
theorem x_gc_11987 {fz : Int → Int → Option Int} {d k : Nat} {Q : Int → HV → Prop} {is : List Instr} {h : HV} {ls st : List AV} {o : Int} : X fz d k Q (.ifnonnull 11987 :: is) ls ((3, o) :: st) h = ((o ≠ 0 ∧ o % 64 = 11) ∧ X fz d k Q is ls ((3, rd fz h o 90) :: st) h) := rfl
theorem x_gc_11995 {fz : Int → Int → Option Int} {d k : Nat} {Q : Int → HV → Prop} {is : List Instr} {h : HV} {ls st : List AV} {o : Int} : X fz d k Q (.ifnonnull 11995 :: is) ls ((3, o) :: st) h = ((o ≠ 0 ∧ o % 64 = 11) ∧ X fz d k Q is ls ((3, rd fz h o 91) :: st) h) := rfl
theorem x_gc_12003 {fz : Int → Int → Option Int} {d k : Nat} {Q : Int → HV → Prop} {is : List Instr} {h : HV} {ls st : List AV} {o : Int} : X fz d k Q (.ifnonnull 12003 :: is) ls ((3, o) :: st) h = ((o ≠ 0 ∧ o % 64 = 11) ∧ X fz d k Q is ls ((3, rd fz h o 92) :: st) h) := rfl
theorem x_gc_12019 {fz : Int → Int → Option Int} {d k : Nat} {Q : Int → HV → Prop} {is : List Instr} {h : HV} {ls st : List AV} {o : Int} : X fz d k Q (.ifnonnull 12019 :: is) ls ((3, o) :: st) h = ((o ≠ 0 ∧ o % 64 = 11) ∧ X fz d k Q is ls ((3, rd fz h o 94) :: st) h) := rfl
theorem x_gc_12291 {fz : Int → Int → Option Int} {d k : Nat} {Q : Int → HV → Prop} {is : List Instr} {h : HV} {ls st : List AV} {o : Int} : X fz d k Q (.ifnonnull 12291 :: is) ls ((3, o) :: st) h = ((o ≠ 0 ∧ o % 64 = 12) ∧ X fz d k Q is ls ((3, rd fz h o 0) :: st) h) := rfl
theorem x_gc_12299 {fz : Int → Int → Option Int} {d k : Nat} {Q : Int → HV → Prop} {is : List Instr} {h : HV} {ls st : List AV} {o : Int} : X fz d k Q (.ifnonnull 12299 :: is) ls ((3, o) :: st) h = ((o ≠ 0 ∧ o % 64 = 12) ∧ X fz d k Q is ls ((3, rd fz h o 1) :: st) h) := rfl
theorem x_gc_123 {fz : Int → Int → Option Int} {d k : Nat} {Q : Int → HV → Prop} {is : List Instr} {h : HV} {ls st : List AV} {o : Int} : X fz d k Q (.ifnonnull 123 :: is) ls ((3, o) :: st) h = ((o ≠ 0 ∧ o % 64 = 0) ∧ X fz d k Q is ls ((3, rd fz h o 15) :: st) h) := rfl
theorem x_gc_12307 {fz : Int → Int → Option Int} {d k : Nat} {Q : Int → HV → Prop} {is : List Instr} {h : HV} {ls st : List AV} {o : Int} : X fz d k Q (.ifnonnull 12307 :: is) ls ((3, o) :: st) h = ((o ≠ 0 ∧ o % 64 = 12) ∧ X fz d k Q is ls ((3, rd fz h o 2) :: st) h) := rfl
theorem x_gc_12315 {fz : Int → Int → Option Int} {d k : Nat} {Q : Int → HV → Prop} {is : List Instr} {h : HV} {ls st : List AV} {o : Int} : X fz d k Q (.ifnonnull 12315 :: is) ls ((3, o) :: st) h = ((o ≠ 0 ∧ o % 64 = 12) ∧ X fz d k Q is ls ((3, rd fz h o 3) :: st) h) := rfl
theorem x_gc_12323 {fz : Int → Int → Option Int} {d k : Nat} {Q : Int → HV → Prop} {is : List Instr} {h : HV} {ls st : List AV} {o : Int} : X fz d k Q (.ifnonnull 12323 :: is) ls ((3, o) :: st) h = ((o ≠ 0 ∧ o % 64 = 12) ∧ X fz d k Q is ls ((3, rd fz h o 4) :: st) h) := rfl
theorem x_gc_12331 {fz : Int → Int → Option Int} {d k : Nat} {Q : Int → HV → Prop} {is : List Instr} {h : HV} {ls st : List AV} {o : Int} : X fz d k Q (.ifnonnull 12331 :: is) ls ((3, o) :: st) h = ((o ≠ 0 ∧ o % 64 = 12) ∧ X fz d k Q is ls ((3, rd fz h o 5) :: st) h) := rfl
theorem x_gc_12339 {fz : Int → Int → Option Int} {d k : Nat} {Q : Int → HV → Prop} {is : List Instr} {h : HV} {ls st : List AV} {o : Int} : X fz d k Q (.ifnonnull 12339 :: is) ls ((3, o) :: st) h = ((o ≠ 0 ∧ o % 64 = 12) ∧ X fz d k Q is ls ((3, rd fz h o 6) :: st) h) := rfl
theorem x_gc_12347 {fz : Int → Int → Option Int} {d k : Nat} {Q : Int → HV → Prop} {is : List Instr} {h : HV} {ls st : List AV} {o : Int} : X fz d k Q (.ifnonnull 12347 :: is) ls ((3, o) :: st) h = ((o ≠ 0 ∧ o % 64 = 12) ∧ X fz d k Q is ls ((3, rd fz h o 7) :: st) h) := rfl
theorem x_gc_12355 {fz : Int → Int → Option Int} {d k : Nat} {Q : Int → HV → Prop} {is : List Instr} {h : HV} {ls st : List AV} {o : Int} : X fz d k Q (.ifnonnull 12355 :: is) ls ((3, o) :: st) h = ((o ≠ 0 ∧ o % 64 = 12) ∧ X fz d k Q is ls ((3, rd fz h o 8) :: st) h) := rfl
theorem x_gc_12363 {fz : Int → Int → Option Int} {d k : Nat} {Q : Int → HV → Prop} {is : List Instr} {h : HV} {ls st : List AV} {o : Int} : X fz d k Q (.ifnonnull 12363 :: is) ls ((3, o) :: st) h = ((o ≠ 0 ∧ o % 64 = 12) ∧ X fz d k Q is ls ((3, rd fz h o 9) :: st) h) := rfl
theorem x_gc_12371 {fz : Int → Int → Option Int} {d k : Nat} {Q : Int → HV → Prop} {is : List Instr} {h : HV} {ls st : List AV} {o : Int} : X fz d k Q (.ifnonnull 12371 :: is) ls ((3, o) :: st) h = ((o ≠ 0 ∧ o % 64 = 12) ∧ X fz d k Q is ls ((3, rd fz h o 10) :: st) h) := rfl
theorem x_gc_12379 {fz : Int → Int → Option Int} {d k : Nat} {Q : Int → HV → Prop} {is : List Instr} {h : HV} {ls st : List AV} {o : Int} : X fz d k Q (.ifnonnull 12379 :: is) ls ((3, o) :: st) h = ((o ≠ 0 ∧ o % 64 = 12) ∧ X fz d k Q is ls ((3, rd fz h o 11) :: st) h) := rfl
theorem x_gc_12387 {fz : Int → Int → Option Int} {d k : Nat} {Q : Int → HV → Prop} {is : List Instr} {h : HV} {ls st : List AV} {o : Int} : X fz d k Q (.ifnonnull 12387 :: is) ls ((3, o) :: st) h = ((o ≠ 0 ∧ o % 64 = 12) ∧ X fz d k Q is ls ((3, rd fz h o 12) :: st) h) := rfl
theorem x_gc_12395 {fz : Int → Int → Option Int} {d k : Nat} {Q : Int → HV → Prop} {is : List Instr} {h : HV} {ls st : List AV} {o : Int} : X fz d k Q (.ifnonnull 12395 :: is) ls ((3, o) :: st) h = ((o ≠ 0 ∧ o % 64 = 12) ∧ X fz d k Q is ls ((3, rd fz h o 13) :: st) h) := rfl
theorem x_gc_12419 {fz : Int → Int → Option Int} {d k : Nat} {Q : Int → HV → Prop} {is : List Instr} {h : HV} {ls st : List AV} {o : Int} : X fz d k Q (.ifnonnull 12419 :: is) ls ((3, o) :: st) h = ((o ≠ 0 ∧ o % 64 = 12) ∧ X fz d k Q is ls ((3, rd fz h o 16) :: st) h) := rfl
theorem x_gc_12427 {fz : Int → Int → Option Int} {d k : Nat} {Q : Int → HV → Prop} {is : List Instr} {h : HV} {ls st : List AV} {o : Int} : X fz d k Q (.ifnonnull 12427 :: is) ls ((3, o) :: st) h = ((o ≠ 0 ∧ o % 64 = 12) ∧ X fz d k Q is ls ((3, rd fz h o 17) :: st) h) := rfl
theorem x_gc_12435 {fz : Int → Int → Option Int} {d k : Nat} {Q : Int → HV → Prop} {is : List Instr} {h : HV} {ls st : List AV} {o : Int} : X fz d k Q (.ifnonnull 12435 :: is) ls ((3, o) :: st) h = ((o ≠ 0 ∧ o % 64 = 12) ∧ X fz d k Q is ls ((3, rd fz h o 18) :: st) h) := rfl
theorem x_gc_12443 {fz : Int → Int → Option Int} {d k : Nat} {Q : Int → HV → Prop} {is : List Instr} {h : HV} {ls st : List AV} {o : Int} : X fz d k Q (.ifnonnull 12443 :: is) ls ((3, o) :: st) h = ((o ≠ 0 ∧ o % 64 = 12) ∧ X fz d k Q is ls ((3, rd fz h o 19) :: st) h) := rfl
theorem x_gc_12475 {fz : Int → Int → Option Int} {d k : Nat} {Q : Int → HV → Prop} {is : List Instr} {h : HV} {ls st : List AV} {o : Int} : X fz d k Q (.ifnonnull 12475 :: is) ls ((3, o) :: st) h = ((o ≠ 0 ∧ o % 64 = 12) ∧ X fz d k Q is ls ((3, rd fz h o 23) :: st) h) := rfl
theorem x_gc_12483 {fz : Int → Int → Option Int} {d k : Nat} {Q : Int → HV → Prop} {is : List Instr} {h : HV} {ls st : List AV} {o : Int} : X fz d k Q (.ifnonnull 12483 :: is) ls ((3, o) :: st) h = ((o ≠ 0 ∧ o % 64 = 12) ∧ X fz d k Q is ls ((3, rd fz h o 24) :: st) h) := rfl
theorem x_gc_13315 {fz : Int → Int → Option Int} {d k : Nat} {Q : Int → HV → Prop} {is : List Instr} {h : HV} {ls st : List AV} {o : Int} : X fz d k Q (.ifnonnull 13315 :: is) ls ((3, o) :: st) h = ((o ≠ 0 ∧ o % 64 = 13) ∧ X fz d k Q is ls ((3, rd fz h o 0) :: st) h) := rfl
theorem x_gc_13326 {fz : Int → Int → Option Int} {d k : Nat} {Q : Int → HV → Prop} {is : List Instr} {h : HV} {ls st : List AV} {o : Int} : X fz d k Q (.ifnonnull 13326 :: is) ls ((3, o) :: st) h = ((o ≠ 0 ∧ o % 64 = 13) ∧ X fz d k Q is ls ((0, rd fz h o 1) :: st) h) := rfl
theorem x_gc_19 {fz : Int → Int → Option Int} {d k : Nat} {Q : Int → HV → Prop} {is : List Instr} {h : HV} {ls st : List AV} {o : Int} : X fz d k Q (.ifnonnull 19 :: is) ls ((3, o) :: st) h = ((o ≠ 0 ∧ o % 64 = 0) ∧ X fz d k Q is ls ((3, rd fz h o 2) :: st) h) := rfl
theorem x_gc_2051 {fz : Int → Int → Option Int} {d k : Nat} {Q : Int → HV → Prop} {is : List Instr} {h : HV} {ls st : List AV} {o : Int} : X fz d k Q (.ifnonnull 2051 :: is) ls ((3, o) :: st) h = ((o ≠ 0 ∧ o % 64 = 2) ∧ X fz d k Q is ls ((3, rd fz h o 0) :: st) h) := rfl
theorem x_gc_2083 {fz : Int → Int → Option Int} {d k : Nat} {Q : Int → HV → Prop} {is : List Instr} {h : HV} {ls st : List AV} {o : Int} : X fz d k Q (.ifnonnull 2083 :: is) ls ((3, o) :: st) h = ((o ≠ 0 ∧ o % 64 = 2) ∧ X fz d k Q is ls ((3, rd fz h o 4) :: st) h) := rfl
theorem x_gc_2091 {fz : Int → Int → Option Int} {d k : Nat} {Q : Int → HV → Prop} {is : List Instr} {h : HV} {ls st : List AV} {o : Int} : X fz d k Q (.ifnonnull 2091 :: is) ls ((3, o) :: st) h = ((o ≠ 0 ∧ o % 64 = 2) ∧ X fz d k Q is ls ((3, rd fz h o 5) :: st) h) := rfl
theorem x_gc_2107 {fz : Int → Int → Option Int} {d k : Nat} {Q : Int → HV → Prop} {is : List Instr} {h : HV} {ls st : List AV} {o : Int} : X fz d k Q (.ifnonnull 2107 :: is) ls ((3, o) :: st) h = ((o ≠ 0 ∧ o % 64 = 2) ∧ X fz d k Q is ls ((3, rd fz h o 7) :: st) h) := rfl
theorem x_gc_2115 {fz : Int → Int → Option Int} {d k : Nat} {Q : Int → HV → Prop} {is : List Instr} {h : HV} {ls st : List AV} {o : Int} : X fz d k Q (.ifnonnull 2115 :: is) ls ((3, o) :: st) h = ((o ≠ 0 ∧ o % 64 = 2) ∧ X fz d k Q is ls ((3, rd fz h o 8) :: st) h) := rfl
theorem x_gc_2123 {fz : Int → Int → Option Int} {d k : Nat} {Q : Int → HV → Prop} {is : List Instr} {h : HV} {ls st : List AV} {o : Int} : X fz d k Q (.ifnonnull 2123 :: is) ls ((3, o) :: st) h = ((o ≠ 0 ∧ o % 64 = 2) ∧ X fz d k Q is ls ((3, rd fz h o 9) :: st) h) := rfl
theorem x_gc_27 {fz : Int → Int → Option Int} {d k : Nat} {Q : Int → HV → Prop} {is : List Instr} {h : HV} {ls st : List AV} {o : Int} : X fz d k Q (.ifnonnull 27 :: is) ls ((3, o) :: st) h = ((o ≠ 0 ∧ o % 64 = 0) ∧ X fz d k Q is ls ((3, rd fz h o 3) :: st) h) := rfl
theorem x_gc_3 {fz : Int → Int → Option Int} {d k : Nat} {Q : Int → HV → Prop} {is : List Instr} {h : HV} {ls st : List AV} {o : Int} : X fz d k Q (.ifnonnull 3 :: is) ls ((3, o) :: st) h = ((o ≠ 0 ∧ o % 64 = 0) ∧ X fz d k Q is ls ((3, rd fz h o 0) :: st) h) := rfl
theorem x_gc_35 {fz : Int → Int → Option Int} {d k : Nat} {Q : Int → HV → Prop} {is : List Instr} {h : HV} {ls st : List AV} {o : Int} : X fz d k Q (.ifnonnull 35 :: is) ls ((3, o) :: st) h = ((o ≠ 0 ∧ o % 64 = 0) ∧ X fz d k Q is ls ((3, rd fz h o 4) :: st) h) := rfl
theorem x_gc_4099 {fz : Int → Int → Option Int} {d k : Nat} {Q : Int → HV → Prop} {is : List Instr} {h : HV} {ls st : List AV} {o : Int} : X fz d k Q (.ifnonnull 4099 :: is) ls ((3, o) :: st) h = ((o ≠ 0 ∧ o % 64 = 4) ∧ X fz d k Q is ls ((3, rd fz h o 0) :: st) h) := rfl
theorem x_gc_4107 {fz : Int → Int → Option Int} {d k : Nat} {Q : Int → HV → Prop} {is : List Instr} {h : HV} {ls st : List AV} {o : Int} : X fz d k Q (.ifnonnull 4107 :: is) ls ((3, o) :: st) h = ((o ≠ 0 ∧ o % 64 = 4) ∧ X fz d k Q is ls ((3, rd fz h o 1) :: st) h) := rfl
theorem x_gc_4115 {fz : Int → Int → Option Int} {d k : Nat} {Q : Int → HV → Prop} {is : List Instr} {h : HV} {ls st : List AV} {o : Int} : X fz d k Q (.ifnonnull 4115 :: is) ls ((3, o) :: st) h = ((o ≠ 0 ∧ o % 64 = 4) ∧ X fz d k Q is ls ((3, rd fz h o 2) :: st) h) := rfl
theorem x_gc_4123 {fz : Int → Int → Option Int} {d k : Nat} {Q : Int → HV → Prop} {is : List Instr} {h : HV} {ls st : List AV} {o : Int} : X fz d k Q (.ifnonnull 4123 :: is) ls ((3, o) :: st) h = ((o ≠ 0 ∧ o % 64 = 4) ∧ X fz d k Q is ls ((3, rd fz h o 3) :: st) h) := rfl
theorem x_gc_43 {fz : Int → Int → Option Int} {d k : Nat} {Q : Int → HV → Prop} {is : List Instr} {h : HV} {ls st : List AV} {o : Int} : X fz d k Q (.ifnonnull 43 :: is) ls ((3, o) :: st) h = ((o ≠ 0 ∧ o % 64 = 0) ∧ X fz d k Q is ls ((3, rd fz h o 5) :: st) h) := rfl
theorem x_gc_51 {fz : Int → Int → Option Int} {d k : Nat} {Q : Int → HV → Prop} {is : List Instr} {h : HV} {ls st : List AV} {o : Int} : X fz d k Q (.ifnonnull 51 :: is) ls ((3, o) :: st) h = ((o ≠ 0 ∧ o % 64 = 0) ∧ X fz d k Q is ls ((3, rd fz h o 6) :: st) h) := rfl
theorem x_gc_5123 {fz : Int → Int → Option Int} {d k : Nat} {Q : Int → HV → Prop} {is : List Instr} {h : HV} {ls st : List AV} {o : Int} : X fz d k Q (.ifnonnull 5123 :: is) ls ((3, o) :: st) h = ((o ≠ 0 ∧ o % 64 = 5) ∧ X fz d k Q is ls ((3, rd fz h o 0) :: st) h) := rfl
theorem x_gc_5131 {fz : Int → Int → Option Int} {d k : Nat} {Q : Int → HV → Prop} {is : List Instr} {h : HV} {ls st : List AV} {o : Int} : X fz d k Q (.ifnonnull 5131 :: is) ls ((3, o) :: st) h = ((o ≠ 0 ∧ o % 64 = 5) ∧ X fz d k Q is ls ((3, rd fz h o 1) :: st) h) := rfl
theorem x_gc_5139 {fz : Int → Int → Option Int} {d k : Nat} {Q : Int → HV → Prop} {is : List Instr} {h : HV} {ls st : List AV} {o : Int} : X fz d k Q (.ifnonnull 5139 :: is) ls ((3, o) :: st) h = ((o ≠ 0 ∧ o % 64 = 5) ∧ X fz d k Q is ls ((3, rd fz h o 2) :: st) h) := rfl
theorem x_gc_5171 {fz : Int → Int → Option Int} {d k : Nat} {Q : Int → HV → Prop} {is : List Instr} {h : HV} {ls st : List AV} {o : Int} : X fz d k Q (.ifnonnull 5171 :: is) ls ((3, o) :: st) h = ((o ≠ 0 ∧ o % 64 = 5) ∧ X fz d k Q is ls ((3, rd fz h o 6) :: st) h) := rfl
theorem x_gc_5179 {fz : Int → Int → Option Int} {d k : Nat} {Q : Int → HV → Prop} {is : List Instr} {h : HV} {ls st : List AV} {o : Int} : X fz d k Q (.ifnonnull 5179 :: is) ls ((3, o) :: st) h = ((o ≠ 0 ∧ o % 64 = 5) ∧ X fz d k Q is ls ((3, rd fz h o 7) :: st) h) := rfl
theorem x_gc_5195 {fz : Int → Int → Option Int} {d k : Nat} {Q : Int → HV → Prop} {is : List Instr} {h : HV} {ls st : List AV} {o : Int} : X fz d k Q (.ifnonnull 5195 :: is) ls ((3, o) :: st) h = ((o ≠ 0 ∧ o % 64 = 5) ∧ X fz d k Q is ls ((3, rd fz h o 9) :: st) h) := rfl
theorem x_gc_5203 {fz : Int → Int → Option Int} {d k : Nat} {Q : Int → HV → Prop} {is : List Instr} {h : HV} {ls st : List AV} {o : Int} : X fz d k Q (.ifnonnull 5203 :: is) ls ((3, o) :: st) h = ((o ≠ 0 ∧ o % 64 = 5) ∧ X fz d k Q is ls ((3, rd fz h o 10) :: st) h) := rfl
theorem x_gc_5211 {fz : Int → Int → Option Int} {d k : Nat} {Q : Int → HV → Prop} {is : List Instr} {h : HV} {ls st : List AV} {o : Int} : X fz d k Q (.ifnonnull 5211 :: is) ls ((3, o) :: st) h = ((o ≠ 0 ∧ o % 64 = 5) ∧ X fz d k Q is ls ((3, rd fz h o 11) :: st) h) := rfl
theorem x_gc_5219 {fz : Int → Int → Option Int} {d k : Nat} {Q : Int → HV → Prop} {is : List Instr} {h : HV} {ls st : List AV} {o : Int} : X fz d k Q (.ifnonnull 5219 :: is) ls ((3, o) :: st) h = ((o ≠ 0 ∧ o % 64 = 5) ∧ X fz d k Q is ls ((3, rd fz h o 12) :: st) h) := rfl
theorem x_gc_5227 {fz : Int → Int → Option Int} {d k : Nat} {Q : Int → HV → Prop} {is : List Instr} {h : HV} {ls st : List AV} {o : Int} : X fz d k Q (.ifnonnull 5227 :: is) ls ((3, o) :: st) h = ((o ≠ 0 ∧ o % 64 = 5) ∧ X fz d k Q is ls ((3, rd fz h o 13) :: st) h) := rfl
theorem x_gc_5235 {fz : Int → Int → Option Int} {d k : Nat} {Q : Int → HV → Prop} {is : List Instr} {h : HV} {ls st : List AV} {o : Int} : X fz d k Q (.ifnonnull 5235 :: is) ls ((3, o) :: st) h = ((o ≠ 0 ∧ o % 64 = 5) ∧ X fz d k Q is ls ((3, rd fz h o 14) :: st) h) := rfl
theorem x_gc_59 {fz : Int → Int → Option Int} {d k : Nat} {Q : Int → HV → Prop} {is : List Instr} {h : HV} {ls st : List AV} {o : Int} : X fz d k Q (.ifnonnull 59 :: is) ls ((3, o) :: st) h = ((o ≠ 0 ∧ o % 64 = 0) ∧ X fz d k Q is ls ((3, rd fz h o 7) :: st) h) := rfl
theorem x_gc_7187 {fz : Int → Int → Option Int} {d k : Nat} {Q : Int → HV → Prop} {is : List Instr} {h : HV} {ls st : List AV} {o : Int} : X fz d k Q (.ifnonnull 7187 :: is) ls ((3, o) :: st) h = ((o ≠ 0 ∧ o % 64 = 7) ∧ X fz d k Q is ls ((3, rd fz h o 2) :: st) h) := rfl
theorem x_gc_7195 {fz : Int → Int → Option Int} {d k : Nat} {Q : Int → HV → Prop} {is : List Instr} {h : HV} {ls st : List AV} {o : Int} : X fz d k Q (.ifnonnull 7195 :: is) ls ((3, o) :: st) h = ((o ≠ 0 ∧ o % 64 = 7) ∧ X fz d k Q is ls ((3, rd fz h o 3) :: st) h) := rfl
theorem x_gc_7203 {fz : Int → Int → Option Int} {d k : Nat} {Q : Int → HV → Prop} {is : List Instr} {h : HV} {ls st : List AV} {o : Int} : X fz d k Q (.ifnonnull 7203 :: is) ls ((3, o) :: st) h = ((o ≠ 0 ∧ o % 64 = 7) ∧ X fz d k Q is ls ((3, rd fz h o 4) :: st) h) := rfl
theorem x_gc_7211 {fz : Int → Int → Option Int} {d k : Nat} {Q : Int → HV → Prop} {is : List Instr} {h : HV} {ls st : List AV} {o : Int} : X fz d k Q (.ifnonnull 7211 :: is) ls ((3, o) :: st) h = ((o ≠ 0 ∧ o % 64 = 7) ∧ X fz d k Q is ls ((3, rd fz h o 5) :: st) h) := rfl
theorem x_gc_7219 {fz : Int → Int → Option Int} {d k : Nat} {Q : Int → HV → Prop} {is : List Instr} {h : HV} {ls st : List AV} {o : Int} : X fz d k Q (.ifnonnull 7219 :: is) ls ((3, o) :: st) h = ((o ≠ 0 ∧ o % 64 = 7) ∧ X fz d k Q is ls ((3, rd fz h o 6) :: st) h) := rfl
theorem x_gc_7227 {fz : Int → Int → Option Int} {d k : Nat} {Q : Int → HV → Prop} {is : List Instr} {h : HV} {ls st : List AV} {o : Int} : X fz d k Q (.ifnonnull 7227 :: is) ls ((3, o) :: st) h = ((o ≠ 0 ∧ o % 64 = 7) ∧ X fz d k Q is ls ((3, rd fz h o 7) :: st) h) := rfl
theorem x_gc_7235 {fz : Int → Int → Option Int} {d k : Nat} {Q : Int → HV → Prop} {is : List Instr} {h : HV} {ls st : List AV} {o : Int} : X fz d k Q (.ifnonnull 7235 :: is) ls ((3, o) :: st) h = ((o ≠ 0 ∧ o % 64 = 7) ∧ X fz d k Q is ls ((3, rd fz h o 8) :: st) h) := rfl
theorem x_gc_7243 {fz : Int → Int → Option Int} {d k : Nat} {Q : Int → HV → Prop} {is : List Instr} {h : HV} {ls st : List AV} {o : Int} : X fz d k Q (.ifnonnull 7243 :: is) ls ((3, o) :: st) h = ((o ≠ 0 ∧ o % 64 = 7) ∧ X fz d k Q is ls ((3, rd fz h o 9) :: st) h) := rfl
theorem x_gc_7259 {fz : Int → Int → Option Int} {d k : Nat} {Q : Int → HV → Prop} {is : List Instr} {h : HV} {ls st : List AV} {o : Int} : X fz d k Q (.ifnonnull 7259 :: is) ls ((3, o) :: st) h = ((o ≠ 0 ∧ o % 64 = 7) ∧ X fz d k Q is ls ((3, rd fz h o 11) :: st) h) := rfl
theorem x_gc_8195 {fz : Int → Int → Option Int} {d k : Nat} {Q : Int → HV → Prop} {is : List Instr} {h : HV} {ls st : List AV} {o : Int} : X fz d k Q (.ifnonnull 8195 :: is) ls ((3, o) :: st) h = ((o ≠ 0 ∧ o % 64 = 8) ∧ X fz d k Q is ls ((3, rd fz h o 0) :: st) h) := rfl
theorem x_gc_8211 {fz : Int → Int → Option Int} {d k : Nat} {Q : Int → HV → Prop} {is : List Instr} {h : HV} {ls st : List AV} {o : Int} : X fz d k Q (.ifnonnull 8211 :: is) ls ((3, o) :: st) h = ((o ≠ 0 ∧ o % 64 = 8) ∧ X fz d k Q is ls ((3, rd fz h o 2) :: st) h) := rfl
theorem x_gc_8219 {fz : Int → Int → Option Int} {d k : Nat} {Q : Int → HV → Prop} {is : List Instr} {h : HV} {ls st : List AV} {o : Int} : X fz d k Q (.ifnonnull 8219 :: is) ls ((3, o) :: st) h = ((o ≠ 0 ∧ o % 64 = 8) ∧ X fz d k Q is ls ((3, rd fz h o 3) :: st) h) := rfl
theorem x_gc_8235 {fz : Int → Int → Option Int} {d k : Nat} {Q : Int → HV → Prop} {is : List Instr} {h : HV} {ls st : List AV} {o : Int} : X fz d k Q (.ifnonnull 8235 :: is) ls ((3, o) :: st) h = ((o ≠ 0 ∧ o % 64 = 8) ∧ X fz d k Q is ls ((3, rd fz h o 5) :: st) h) := rfl
theorem x_gc_8251 {fz : Int → Int → Option Int} {d k : Nat} {Q : Int → HV → Prop} {is : List Instr} {h : HV} {ls st : List AV} {o : Int} : X fz d k Q (.ifnonnull 8251 :: is) ls ((3, o) :: st) h = ((o ≠ 0 ∧ o % 64 = 8) ∧ X fz d k Q is ls ((3, rd fz h o 7) :: st) h) := rfl
theorem x_gc_8259 {fz : Int → Int → Option Int} {d k : Nat} {Q : Int → HV → Prop} {is : List Instr} {h : HV} {ls st : List AV} {o : Int} : X fz d k Q (.ifnonnull 8259 :: is) ls ((3, o) :: st) h = ((o ≠ 0 ∧ o % 64 = 8) ∧ X fz d k Q is ls ((3, rd fz h o 8) :: st) h) := rfl
theorem x_gc_9219 {fz : Int → Int → Option Int} {d k : Nat} {Q : Int → HV → Prop} {is : List Instr} {h : HV} {ls st : List AV} {o : Int} : X fz d k Q (.ifnonnull 9219 :: is) ls ((3, o) :: st) h = ((o ≠ 0 ∧ o % 64 = 9) ∧ X fz d k Q is ls ((3, rd fz h o 0) :: st) h) := rfl
theorem x_gc_9235 {fz : Int → Int → Option Int} {d k : Nat} {Q : Int → HV → Prop} {is : List Instr} {h : HV} {ls st : List AV} {o : Int} : X fz d k Q (.ifnonnull 9235 :: is) ls ((3, o) :: st) h = ((o ≠ 0 ∧ o % 64 = 9) ∧ X fz d k Q is ls ((3, rd fz h o 2) :: st) h) := rfl
theorem x_gc_9243 {fz : Int → Int → Option Int} {d k : Nat} {Q : Int → HV → Prop} {is : List Instr} {h : HV} {ls st : List AV} {o : Int} : X fz d k Q (.ifnonnull 9243 :: is) ls ((3, o) :: st) h = ((o ≠ 0 ∧ o % 64 = 9) ∧ X fz d k Q is ls ((3, rd fz h o 3) :: st) h) := rfl
theorem x_gc_9251 {fz : Int → Int → Option Int} {d k : Nat} {Q : Int → HV → Prop} {is : List Instr} {h : HV} {ls st : List AV} {o : Int} : X fz d k Q (.ifnonnull 9251 :: is) ls ((3, o) :: st) h = ((o ≠ 0 ∧ o % 64 = 9) ∧ X fz d k Q is ls ((3, rd fz h o 4) :: st) h) := rfl
theorem x_gc_9259 {fz : Int → Int → Option Int} {d k : Nat} {Q : Int → HV → Prop} {is : List Instr} {h : HV} {ls st : List AV} {o : Int} : X fz d k Q (.ifnonnull 9259 :: is) ls ((3, o) :: st) h = ((o ≠ 0 ∧ o % 64 = 9) ∧ X fz d k Q is ls ((3, rd fz h o 5) :: st) h) := rfl
theorem x_gc_9275 {fz : Int → Int → Option Int} {d k : Nat} {Q : Int → HV → Prop} {is : List Instr} {h : HV} {ls st : List AV} {o : Int} : X fz d k Q (.ifnonnull 9275 :: is) ls ((3, o) :: st) h = ((o ≠ 0 ∧ o % 64 = 9) ∧ X fz d k Q is ls ((3, rd fz h o 7) :: st) h) := rfl
theorem x_gc_9283 {fz : Int → Int → Option Int} {d k : Nat} {Q : Int → HV → Prop} {is : List Instr} {h : HV} {ls st : List AV} {o : Int} : X fz d k Q (.ifnonnull 9283 :: is) ls ((3, o) :: st) h = ((o ≠ 0 ∧ o % 64 = 9) ∧ X fz d k Q is ls ((3, rd fz h o 8) :: st) h) := rfl
theorem x_gc_9291 {fz : Int → Int → Option Int} {d k : Nat} {Q : Int → HV → Prop} {is : List Instr} {h : HV} {ls st : List AV} {o : Int} : X fz d k Q (.ifnonnull 9291 :: is) ls ((3, o) :: st) h = ((o ≠ 0 ∧ o % 64 = 9) ∧ X fz d k Q is ls ((3, rd fz h o 9) :: st) h) := rfl
theorem x_gf_1032 {fz : Int → Int → Option Int} {d k : Nat} {Q : Int → HV → Prop} {is : List Instr} {h : HV} {ls st : List AV} {o : Int} : X fz d k Q (.ifnull 1032 :: is) ls ((3, o) :: st) h = ((o ≠ 0 ∧ o % 64 = 1) ∧ X fz d k Q is ls ((0, h o 1) :: st) h) := rfl
theorem x_gf_10328 {fz : Int → Int → Option Int} {d k : Nat} {Q : Int → HV → Prop} {is : List Instr} {h : HV} {ls st : List AV} {o : Int} : X fz d k Q (.ifnull 10328 :: is) ls ((3, o) :: st) h = ((o ≠ 0 ∧ o % 64 = 10) ∧ X fz d k Q is ls ((0, h o 11) :: st) h) := rfl
theorem x_gf_10360 {fz : Int → Int → Option Int} {d k : Nat} {Q : Int → HV → Prop} {is : List Instr} {h : HV} {ls st : List AV} {o : Int} : X fz d k Q (.ifnull 10360 :: is) ls ((3, o) :: st) h = ((o ≠ 0 ∧ o % 64 = 10) ∧ X fz d k Q is ls ((0, h o 15) :: st) h) := rfl
theorem x_gf_10376 {fz : Int → Int → Option Int} {d k : Nat} {Q : Int → HV → Prop} {is : List Instr} {h : HV} {ls st : List AV} {o : Int} : X fz d k Q (.ifnull 10376 :: is) ls ((3, o) :: st) h = ((o ≠ 0 ∧ o % 64 = 10) ∧ X fz d k Q is ls ((0, h o 17) :: st) h) := rfl
theorem x_gf_1040 {fz : Int → Int → Option Int} {d k : Nat} {Q : Int → HV → Prop} {is : List Instr} {h : HV} {ls st : List AV} {o : Int} : X fz d k Q (.ifnull 1040 :: is) ls ((3, o) :: st) h = ((o ≠ 0 ∧ o % 64 = 1) ∧ X fz d k Q is ls ((0, h o 2) :: st) h) := rfl
theorem x_gf_1048 {fz : Int → Int → Option Int} {d k : Nat} {Q : Int → HV → Prop} {is : List Instr} {h : HV} {ls st : List AV} {o : Int} : X fz d k Q (.ifnull 1048 :: is) ls ((3, o) :: st) h = ((o ≠ 0 ∧ o % 64 = 1) ∧ X fz d k Q is ls ((0, h o 3) :: st) h) := rfl
theorem x_gf_1056 {fz : Int → Int → Option Int} {d k : Nat} {Q : Int → HV → Prop} {is : List Instr} {h : HV} {ls st : List AV} {o : Int} : X fz d k Q (.ifnull 1056 :: is) ls ((3, o) :: st) h = ((o ≠ 0 ∧ o % 64 = 1) ∧ X fz d k Q is ls ((0, h o 4) :: st) h) := rfl
theorem x_gf_1064 {fz : Int → Int → Option Int} {d k : Nat} {Q : Int → HV → Prop} {is : List Instr} {h : HV} {ls st : List AV} {o : Int} : X fz d k Q (.ifnull 1064 :: is) ls ((3, o) :: st) h = ((o ≠ 0 ∧ o % 64 = 1) ∧ X fz d k Q is ls ((0, h o 5) :: st) h) := rfl
theorem x_gf_1073 {fz : Int → Int → Option Int} {d k : Nat} {Q : Int → HV → Prop} {is : List Instr} {h : HV} {ls st : List AV} {o : Int} : X fz d k Q (.ifnull 1073 :: is) ls ((3, o) :: st) h = ((o ≠ 0 ∧ o % 64 = 1) ∧ X fz d k Q is ls ((1, h o 6) :: st) h) := rfl
theorem x_gf_1081 {fz : Int → Int → Option Int} {d k : Nat} {Q : Int → HV → Prop} {is : List Instr} {h : HV} {ls st : List AV} {o : Int} : X fz d k Q (.ifnull 1081 :: is) ls ((3, o) :: st) h = ((o ≠ 0 ∧ o % 64 = 1) ∧ X fz d k Q is ls ((1, h o 7) :: st) h) := rfl
theorem x_gf_1088 {fz : Int → Int → Option Int} {d k : Nat} {Q : Int → HV → Prop} {is : List Instr} {h : HV} {ls st : List AV} {o : Int} : X fz d k Q (.ifnull 1088 :: is) ls ((3, o) :: st) h = ((o ≠ 0 ∧ o % 64 = 1) ∧ X fz d k Q is ls ((0, h o 8) :: st) h) := rfl
theorem x_gf_1101 {fz : Int → Int → Option Int} {d k : Nat} {Q : Int → HV → Prop} {is : List Instr} {h : HV} {ls st : List AV} {o : Int} : X fz d k Q (.ifnull 1101 :: is) ls ((3, o) :: st) h = ((o ≠ 0 ∧ o % 64 = 1) ∧ X fz d k Q is ls ((0, h o 9) :: st) h) := rfl
theorem x_gf_11272 {fz : Int → Int → Option Int} {d k : Nat} {Q : Int → HV → Prop} {is : List Instr} {h : HV} {ls st : List AV} {o : Int} : X fz d k Q (.ifnull 11272 :: is) ls ((3, o) :: st) h = ((o ≠ 0 ∧ o % 64 = 11) ∧ X fz d k Q is ls ((0, h o 1) :: st) h) := rfl
theorem x_gf_11280 {fz : Int → Int → Option Int} {d k : Nat} {Q : Int → HV → Prop} {is : List Instr} {h : HV} {ls st : List AV} {o : Int} : X fz d k Q (.ifnull 11280 :: is) ls ((3, o) :: st) h = ((o ≠ 0 ∧ o % 64 = 11) ∧ X fz d k Q is ls ((0, h o 2) :: st) h) := rfl
theorem x_gf_11288 {fz : Int → Int → Option Int} {d k : Nat} {Q : Int → HV → Prop} {is : List Instr} {h : HV} {ls st : List AV} {o : Int} : X fz d k Q (.ifnull 11288 :: is) ls ((3, o) :: st) h = ((o ≠ 0 ∧ o % 64 = 11) ∧ X fz d k Q is ls ((0, h o 3) :: st) h) := rfl
theorem x_gf_11296 {fz : Int → Int → Option Int} {d k : Nat} {Q : Int → HV → Prop} {is : List Instr} {h : HV} {ls st : List AV} {o : Int} : X fz d k Q (.ifnull 11296 :: is) ls ((3, o) :: st) h = ((o ≠ 0 ∧ o % 64 = 11) ∧ X fz d k Q is ls ((0, h o 4) :: st) h) := rfl
theorem x_gf_11304 {fz : Int → Int → Option Int} {d k : Nat} {Q : Int → HV → Prop} {is : List Instr} {h : HV} {ls st : List AV} {o : Int} : X fz d k Q (.ifnull 11304 :: is) ls ((3, o) :: st) h = ((o ≠ 0 ∧ o % 64 = 11) ∧ X fz d k Q is ls ((0, h o 5) :: st) h) := rfl
theorem x_gf_11314 {fz : Int → Int → Option Int} {d k : Nat} {Q : Int → HV → Prop} {is : List Instr} {h : HV} {ls st : List AV} {o : Int} : X fz d k Q (.ifnull 11314 :: is) ls ((3, o) :: st) h = ((o ≠ 0 ∧ o % 64 = 11) ∧ X fz d k Q is ls ((2, h o 6) :: st) h) := rfl
theorem x_gf_11320 {fz : Int → Int → Option Int} {d k : Nat} {Q : Int → HV → Prop} {is : List Instr} {h : HV} {ls st : List AV} {o : Int} : X fz d k Q (.ifnull 11320 :: is) ls ((3, o) :: st) h = ((o ≠ 0 ∧ o % 64 = 11) ∧ X fz d k Q is ls ((0, h o 7) :: st) h) := rfl
theorem x_gf_11328 {fz : Int → Int → Option Int} {d k : Nat} {Q : Int → HV → Prop} {is : List Instr} {h : HV} {ls st : List AV} {o : Int} : X fz d k Q (.ifnull 11328 :: is) ls ((3, o) :: st) h = ((o ≠ 0 ∧ o % 64 = 11) ∧ X fz d k Q is ls ((0, h o 8) :: st) h) := rfl
theorem x_gf_11339 {fz : Int → Int → Option Int} {d k : Nat} {Q : Int → HV → Prop} {is : List Instr} {h : HV} {ls st : List AV} {o : Int} : X fz d k Q (.ifnull 11339 :: is) ls ((3, o) :: st) h = ((o ≠ 0 ∧ o % 64 = 11) ∧ X fz d k Q is ls ((3, h o 9) :: st) h) := rfl
theorem x_gf_11347 {fz : Int → Int → Option Int} {d k : Nat} {Q : Int → HV → Prop} {is : List Instr} {h : HV} {ls st : List AV} {o : Int} : X fz d k Q (.ifnull 11347 :: is) ls ((3, o) :: st) h = ((o ≠ 0 ∧ o % 64 = 11) ∧ X fz d k Q is ls ((3, h o 10) :: st) h) := rfl
theorem x_gf_11360 {fz : Int → Int → Option Int} {d k : Nat} {Q : Int → HV → Prop} {is : List Instr} {h : HV} {ls st : List AV} {o : Int} : X fz d k Q (.ifnull 11360 :: is) ls ((3, o) :: st) h = ((o ≠ 0 ∧ o % 64 = 11) ∧ X fz d k Q is ls ((0, h o 12) :: st) h) := rfl
theorem x_gf_11368 {fz : Int → Int → Option Int} {d k : Nat} {Q : Int → HV → Prop} {is : List Instr} {h : HV} {ls st : List AV} {o : Int} : X fz d k Q (.ifnull 11368 :: is) ls ((3, o) :: st) h = ((o ≠ 0 ∧ o % 64 = 11) ∧ X fz d k Q is ls ((0, h o 13) :: st) h) := rfl
theorem x_gf_11384 {fz : Int → Int → Option Int} {d k : Nat} {Q : Int → HV → Prop} {is : List Instr} {h : HV} {ls st : List AV} {o : Int} : X fz d k Q (.ifnull 11384 :: is) ls ((3, o) :: st) h = ((o ≠ 0 ∧ o % 64 = 11) ∧ X fz d k Q is ls ((0, h o 15) :: st) h) := rfl
theorem x_gf_11416 {fz : Int → Int → Option Int} {d k : Nat} {Q : Int → HV → Prop} {is : List Instr} {h : HV} {ls st : List AV} {o : Int} : X fz d k Q (.ifnull 11416 :: is) ls ((3, o) :: st) h = ((o ≠ 0 ∧ o % 64 = 11) ∧ X fz d k Q is ls ((0, h o 19) :: st) h) := rfl
theorem x_gf_11456 {fz : Int → Int → Option Int} {d k : Nat} {Q : Int → HV → Prop} {is : List Instr} {h : HV} {ls st : List AV} {o : Int} : X fz d k Q (.ifnull 11456 :: is) ls ((3, o) :: st) h = ((o ≠ 0 ∧ o % 64 = 11) ∧ X fz d k Q is ls ((0, h o 24) :: st) h) := rfl
theorem x_gf_11464 {fz : Int → Int → Option Int} {d k : Nat} {Q : Int → HV → Prop} {is : List Instr} {h : HV} {ls st : List AV} {o : Int} : X fz d k Q (.ifnull 11464 :: is) ls ((3, o) :: st) h = ((o ≠ 0 ∧ o % 64 = 11) ∧ X fz d k Q is ls ((0, h o 25) :: st) h) := rfl
theorem x_gf_11504 {fz : Int → Int → Option Int} {d k : Nat} {Q : Int → HV → Prop} {is : List Instr} {h : HV} {ls st : List AV} {o : Int} : X fz d k Q (.ifnull 11504 :: is) ls ((3, o) :: st) h = ((o ≠ 0 ∧ o % 64 = 11) ∧ X fz d k Q is ls ((0, h o 30) :: st) h) := rfl
theorem x_gf_11552 {fz : Int → Int → Option Int} {d k : Nat} {Q : Int → HV → Prop} {is : List Instr} {h : HV} {ls st : List AV} {o : Int} : X fz d k Q (.ifnull 11552 :: is) ls ((3, o) :: st) h = ((o ≠ 0 ∧ o % 64 = 11) ∧ X fz d k Q is ls ((0, h o 36) :: st) h) := rfl
theorem x_gf_11592 {fz : Int → Int → Option Int} {d k : Nat} {Q : Int → HV → Prop} {is : List Instr} {h : HV} {ls st : List AV} {o : Int} : X fz d k Q (.ifnull 11592 :: is) ls ((3, o) :: st) h = ((o ≠ 0 ∧ o % 64 = 11) ∧ X fz d k Q is ls ((0, h o 41) :: st) h) := rfl
theorem x_gf_11616 {fz : Int → Int → Option Int} {d k : Nat} {Q : Int → HV → Prop} {is : List Instr} {h : HV} {ls st : List AV} {o : Int} : X fz d k Q (.ifnull 11616 :: is) ls ((3, o) :: st) h = ((o ≠ 0 ∧ o % 64 = 11) ∧ X fz d k Q is ls ((0, h o 44) :: st) h) := rfl
theorem x_gf_11680 {fz : Int → Int → Option Int} {d k : Nat} {Q : Int → HV → Prop} {is : List Instr} {h : HV} {ls st : List AV} {o : Int} : X fz d k Q (.ifnull 11680 :: is) ls ((3, o) :: st) h = ((o ≠ 0 ∧ o % 64 = 11) ∧ X fz d k Q is ls ((0, h o 52) :: st) h) := rfl
theorem x_gf_11688 {fz : Int → Int → Option Int} {d k : Nat} {Q : Int → HV → Prop} {is : List Instr} {h : HV} {ls st : List AV} {o : Int} : X fz d k Q (.ifnull 11688 :: is) ls ((3, o) :: st) h = ((o ≠ 0 ∧ o % 64 = 11) ∧ X fz d k Q is ls ((0, h o 53) :: st) h) := rfl
theorem x_gf_11696 {fz : Int → Int → Option Int} {d k : Nat} {Q : Int → HV → Prop} {is : List Instr} {h : HV} {ls st : List AV} {o : Int} : X fz d k Q (.ifnull 11696 :: is) ls ((3, o) :: st) h = ((o ≠ 0 ∧ o % 64 = 11) ∧ X fz d k Q is ls ((0, h o 54) :: st) h) := rfl
theorem x_gf_11704 {fz : Int → Int → Option Int} {d k : Nat} {Q : Int → HV → Prop} {is : List Instr} {h : HV} {ls st : List AV} {o : Int} : X fz d k Q (.ifnull 11704 :: is) ls ((3, o) :: st) h = ((o ≠ 0 ∧ o % 64 = 11) ∧ X fz d k Q is ls ((0, h o 55) :: st) h) := rfl
theorem x_gf_11716 {fz : Int → Int → Option Int} {d k : Nat} {Q : Int → HV → Prop} {is : List Instr} {h : HV} {ls st : List AV} {o : Int} : X fz d k Q (.ifnull 11716 :: is) ls ((3, o) :: st) h = ((o ≠ 0 ∧ o % 64 = 11) ∧ X fz d k Q is ls ((0, h o 56) :: st) h) := rfl
theorem x_gf_11720 {fz : Int → Int → Option Int} {d k : Nat} {Q : Int → HV → Prop} {is : List Instr} {h : HV} {ls st : List AV} {o : Int} : X fz d k Q (.ifnull 11720 :: is) ls ((3, o) :: st) h = ((o ≠ 0 ∧ o % 64 = 11) ∧ X fz d k Q is ls ((0, h o 57) :: st) h) := rfl
theorem x_gf_11728 {fz : Int → Int → Option Int} {d k : Nat} {Q : Int → HV → Prop} {is : List Instr} {h : HV} {ls st : List AV} {o : Int} : X fz d k Q (.ifnull 11728 :: is) ls ((3, o) :: st) h = ((o ≠ 0 ∧ o % 64 = 11) ∧ X fz d k Q is ls ((0, h o 58) :: st) h) := rfl
theorem x_gf_11737 {fz : Int → Int → Option Int} {d k : Nat} {Q : Int → HV → Prop} {is : List Instr} {h : HV} {ls st : List AV} {o : Int} : X fz d k Q (.ifnull 11737 :: is) ls ((3, o) :: st) h = ((o ≠ 0 ∧ o % 64 = 11) ∧ X fz d k Q is ls ((1, h o 59) :: st) h) := rfl
theorem x_gf_11752 {fz : Int → Int → Option Int} {d k : Nat} {Q : Int → HV → Prop} {is : List Instr} {h : HV} {ls st : List AV} {o : Int} : X fz d k Q (.ifnull 11752 :: is) ls ((3, o) :: st) h = ((o ≠ 0 ∧ o % 64 = 11) ∧ X fz d k Q is ls ((0, h o 61) :: st) h) := rfl
theorem x_gf_11784 {fz : Int → Int → Option Int} {d k : Nat} {Q : Int → HV → Prop} {is : List Instr} {h : HV} {ls st : List AV} {o : Int} : X fz d k Q (.ifnull 11784 :: is) ls ((3, o) :: st) h = ((o ≠ 0 ∧ o % 64 = 11) ∧ X fz d k Q is ls ((0, h o 65) :: st) h) := rfl
theorem x_gf_11820 {fz : Int → Int → Option Int} {d k : Nat} {Q : Int → HV → Prop} {is : List Instr} {h : HV} {ls st : List AV} {o : Int} : X fz d k Q (.ifnull 11820 :: is) ls ((3, o) :: st) h = ((o ≠ 0 ∧ o % 64 = 11) ∧ X fz d k Q is ls ((0, h o 69) :: st) h) := rfl
theorem x_gf_11828 {fz : Int → Int → Option Int} {d k : Nat} {Q : Int → HV → Prop} {is : List Instr} {h : HV} {ls st : List AV} {o : Int} : X fz d k Q (.ifnull 11828 :: is) ls ((3, o) :: st) h = ((o ≠ 0 ∧ o % 64 = 11) ∧ X fz d k Q is ls ((0, h o 70) :: st) h) := rfl
theorem x_gf_11836 {fz : Int → Int → Option Int} {d k : Nat} {Q : Int → HV → Prop} {is : List Instr} {h : HV} {ls st : List AV} {o : Int} : X fz d k Q (.ifnull 11836 :: is) ls ((3, o) :: st) h = ((o ≠ 0 ∧ o % 64 = 11) ∧ X fz d k Q is ls ((0, h o 71) :: st) h) := rfl
theorem x_gf_11840 {fz : Int → Int → Option Int} {d k : Nat} {Q : Int → HV → Prop} {is : List Instr} {h : HV} {ls st : List AV} {o : Int} : X fz d k Q (.ifnull 11840 :: is) ls ((3, o) :: st) h = ((o ≠ 0 ∧ o % 64 = 11) ∧ X fz d k Q is ls ((0, h o 72) :: st) h) := rfl
theorem x_gf_11848 {fz : Int → Int → Option Int} {d k : Nat} {Q : Int → HV → Prop} {is : List Instr} {h : HV} {ls st : List AV} {o : Int} : X fz d k Q (.ifnull 11848 :: is) ls ((3, o) :: st) h = ((o ≠ 0 ∧ o % 64 = 11) ∧ X fz d k Q is ls ((0, h o 73) :: st) h) := rfl
theorem x_gf_11956 {fz : Int → Int → Option Int} {d k : Nat} {Q : Int → HV → Prop} {is : List Instr} {h : HV} {ls st : List AV} {o : Int} : X fz d k Q (.ifnull 11956 :: is) ls ((3, o) :: st) h = ((o ≠ 0 ∧ o % 64 = 11) ∧ X fz d k Q is ls ((0, h o 86) :: st) h) := rfl
theorem x_gf_12008 {fz : Int → Int → Option Int} {d k : Nat} {Q : Int → HV → Prop} {is : List Instr} {h : HV} {ls st : List AV} {o : Int} : X fz d k Q (.ifnull 12008 :: is) ls ((3, o) :: st) h = ((o ≠ 0 ∧ o % 64 = 11) ∧ X fz d k Q is ls ((0, h o 93) :: st) h) := rfl
theorem x_gf_12400 {fz : Int → Int → Option Int} {d k : Nat} {Q : Int → HV → Prop} {is : List Instr} {h : HV} {ls st : List AV} {o : Int} : X fz d k Q (.ifnull 12400 :: is) ls ((3, o) :: st) h = ((o ≠ 0 ∧ o % 64 = 12) ∧ X fz d k Q is ls ((0, h o 14) :: st) h) := rfl
theorem x_gf_12408 {fz : Int → Int → Option Int} {d k : Nat} {Q : Int → HV → Prop} {is : List Instr} {h : HV} {ls st : List AV} {o : Int} : X fz d k Q (.ifnull 12408 :: is) ls ((3, o) :: st) h = ((o ≠ 0 ∧ o % 64 = 12) ∧ X fz d k Q is ls ((0, h o 15) :: st) h) := rfl
theorem x_gf_12448 {fz : Int → Int → Option Int} {d k : Nat} {Q : Int → HV → Prop} {is : List Instr} {h : HV} {ls st : List AV} {o : Int} : X fz d k Q (.ifnull 12448 :: is) ls ((3, o) :: st) h = ((o ≠ 0 ∧ o % 64 = 12) ∧ X fz d k Q is ls ((0, h o 20) :: st) h) := rfl
theorem x_gf_12456 {fz : Int → Int → Option Int} {d k : Nat} {Q : Int → HV → Prop} {is : List Instr} {h : HV} {ls st : List AV} {o : Int} : X fz d k Q (.ifnull 12456 :: is) ls ((3, o) :: st) h = ((o ≠ 0 ∧ o % 64 = 12) ∧ X fz d k Q is ls ((0, h o 21) :: st) h) := rfl
theorem x_gf_12464 {fz : Int → Int → Option Int} {d k : Nat} {Q : Int → HV → Prop} {is : List Instr} {h : HV} {ls st : List AV} {o : Int} : X fz d k Q (.ifnull 12464 :: is) ls ((3, o) :: st) h = ((o ≠ 0 ∧ o % 64 = 12) ∧ X fz d k Q is ls ((0, h o 22) :: st) h) := rfl
theorem x_gf_128 {fz : Int → Int → Option Int} {d k : Nat} {Q : Int → HV → Prop} {is : List Instr} {h : HV} {ls st : List AV} {o : Int} : X fz d k Q (.ifnull 128 :: is) ls ((3, o) :: st) h = ((o ≠ 0 ∧ o % 64 = 0) ∧ X fz d k Q is ls ((0, h o 16) :: st) h) := rfl
theorem x_gf_2059 {fz : Int → Int → Option Int} {d k : Nat} {Q : Int → HV → Prop} {is : List Instr} {h : HV} {ls st : List AV} {o : Int} : X fz d k Q (.ifnull 2059 :: is) ls ((3, o) :: st) h = ((o ≠ 0 ∧ o % 64 = 2) ∧ X fz d k Q is ls ((3, h o 1) :: st) h) := rfl
theorem x_gf_2064 {fz : Int → Int → Option Int} {d k : Nat} {Q : Int → HV → Prop} {is : List Instr} {h : HV} {ls st : List AV} {o : Int} : X fz d k Q (.ifnull 2064 :: is) ls ((3, o) :: st) h = ((o ≠ 0 ∧ o % 64 = 2) ∧ X fz d k Q is ls ((0, h o 2) :: st) h) := rfl
theorem x_gf_2072 {fz : Int → Int → Option Int} {d k : Nat} {Q : Int → HV → Prop} {is : List Instr} {h : HV} {ls st : List AV} {o : Int} : X fz d k Q (.ifnull 2072 :: is) ls ((3, o) :: st) h = ((o ≠ 0 ∧ o % 64 = 2) ∧ X fz d k Q is ls ((0, h o 3) :: st) h) := rfl
theorem x_gf_2096 {fz : Int → Int → Option Int} {d k : Nat} {Q : Int → HV → Prop} {is : List Instr} {h : HV} {ls st : List AV} {o : Int} : X fz d k Q (.ifnull 2096 :: is) ls ((3, o) :: st) h = ((o ≠ 0 ∧ o % 64 = 2) ∧ X fz d k Q is ls ((0, h o 6) :: st) h) := rfl
theorem x_gf_2128 {fz : Int → Int → Option Int} {d k : Nat} {Q : Int → HV → Prop} {is : List Instr} {h : HV} {ls st : List AV} {o : Int} : X fz d k Q (.ifnull 2128 :: is) ls ((3, o) :: st) h = ((o ≠ 0 ∧ o % 64 = 2) ∧ X fz d k Q is ls ((0, h o 10) :: st) h) := rfl
theorem x_gf_3075 {fz : Int → Int → Option Int} {d k : Nat} {Q : Int → HV → Prop} {is : List Instr} {h : HV} {ls st : List AV} {o : Int} : X fz d k Q (.ifnull 3075 :: is) ls ((3, o) :: st) h = ((o ≠ 0 ∧ o % 64 = 3) ∧ X fz d k Q is ls ((3, h o 0) :: st) h) := rfl
theorem x_gf_3083 {fz : Int → Int → Option Int} {d k : Nat} {Q : Int → HV → Prop} {is : List Instr} {h : HV} {ls st : List AV} {o : Int} : X fz d k Q (.ifnull 3083 :: is) ls ((3, o) :: st) h = ((o ≠ 0 ∧ o % 64 = 3) ∧ X fz d k Q is ls ((3, h o 1) :: st) h) := rfl
theorem x_gf_3088 {fz : Int → Int → Option Int} {d k : Nat} {Q : Int → HV → Prop} {is : List Instr} {h : HV} {ls st : List AV} {o : Int} : X fz d k Q (.ifnull 3088 :: is) ls ((3, o) :: st) h = ((o ≠ 0 ∧ o % 64 = 3) ∧ X fz d k Q is ls ((0, h o 2) :: st) h) := rfl
theorem x_gf_3096 {fz : Int → Int → Option Int} {d k : Nat} {Q : Int → HV → Prop} {is : List Instr} {h : HV} {ls st : List AV} {o : Int} : X fz d k Q (.ifnull 3096 :: is) ls ((3, o) :: st) h = ((o ≠ 0 ∧ o % 64 = 3) ∧ X fz d k Q is ls ((0, h o 3) :: st) h) := rfl
theorem x_gf_4128 {fz : Int → Int → Option Int} {d k : Nat} {Q : Int → HV → Prop} {is : List Instr} {h : HV} {ls st : List AV} {o : Int} : X fz d k Q (.ifnull 4128 :: is) ls ((3, o) :: st) h = ((o ≠ 0 ∧ o % 64 = 4) ∧ X fz d k Q is ls ((0, h o 4) :: st) h) := rfl
theorem x_gf_5147 {fz : Int → Int → Option Int} {d k : Nat} {Q : Int → HV → Prop} {is : List Instr} {h : HV} {ls st : List AV} {o : Int} : X fz d k Q (.ifnull 5147 :: is) ls ((3, o) :: st) h = ((o ≠ 0 ∧ o % 64 = 5) ∧ X fz d k Q is ls ((3, h o 3) :: st) h) := rfl
theorem x_gf_5152 {fz : Int → Int → Option Int} {d k : Nat} {Q : Int → HV → Prop} {is : List Instr} {h : HV} {ls st : List AV} {o : Int} : X fz d k Q (.ifnull 5152 :: is) ls ((3, o) :: st) h = ((o ≠ 0 ∧ o % 64 = 5) ∧ X fz d k Q is ls ((0, h o 4) :: st) h) := rfl
theorem x_gf_5160 {fz : Int → Int → Option Int} {d k : Nat} {Q : Int → HV → Prop} {is : List Instr} {h : HV} {ls st : List AV} {o : Int} : X fz d k Q (.ifnull 5160 :: is) ls ((3, o) :: st) h = ((o ≠ 0 ∧ o % 64 = 5) ∧ X fz d k Q is ls ((0, h o 5) :: st) h) := rfl
theorem x_gf_5184 {fz : Int → Int → Option Int} {d k : Nat} {Q : Int → HV → Prop} {is : List Instr} {h : HV} {ls st : List AV} {o : Int} : X fz d k Q (.ifnull 5184 :: is) ls ((3, o) :: st) h = ((o ≠ 0 ∧ o % 64 = 5) ∧ X fz d k Q is ls ((0, h o 8) :: st) h) := rfl
theorem x_gf_5240 {fz : Int → Int → Option Int} {d k : Nat} {Q : Int → HV → Prop} {is : List Instr} {h : HV} {ls st : List AV} {o : Int} : X fz d k Q (.ifnull 5240 :: is) ls ((3, o) :: st) h = ((o ≠ 0 ∧ o % 64 = 5) ∧ X fz d k Q is ls ((0, h o 15) :: st) h) := rfl
theorem x_gf_5248 {fz : Int → Int → Option Int} {d k : Nat} {Q : Int → HV → Prop} {is : List Instr} {h : HV} {ls st : List AV} {o : Int} : X fz d k Q (.ifnull 5248 :: is) ls ((3, o) :: st) h = ((o ≠ 0 ∧ o % 64 = 5) ∧ X fz d k Q is ls ((0, h o 16) :: st) h) := rfl
theorem x_gf_5256 {fz : Int → Int → Option Int} {d k : Nat} {Q : Int → HV → Prop} {is : List Instr} {h : HV} {ls st : List AV} {o : Int} : X fz d k Q (.ifnull 5256 :: is) ls ((3, o) :: st) h = ((o ≠ 0 ∧ o % 64 = 5) ∧ X fz d k Q is ls ((0, h o 17) :: st) h) := rfl
theorem x_gf_5264 {fz : Int → Int → Option Int} {d k : Nat} {Q : Int → HV → Prop} {is : List Instr} {h : HV} {ls st : List AV} {o : Int} : X fz d k Q (.ifnull 5264 :: is) ls ((3, o) :: st) h = ((o ≠ 0 ∧ o % 64 = 5) ∧ X fz d k Q is ls ((0, h o 18) :: st) h) := rfl
theorem x_gf_5272 {fz : Int → Int → Option Int} {d k : Nat} {Q : Int → HV → Prop} {is : List Instr} {h : HV} {ls st : List AV} {o : Int} : X fz d k Q (.ifnull 5272 :: is) ls ((3, o) :: st) h = ((o ≠ 0 ∧ o % 64 = 5) ∧ X fz d k Q is ls ((0, h o 19) :: st) h) := rfl
theorem x_gf_5281 {fz : Int → Int → Option Int} {d k : Nat} {Q : Int → HV → Prop} {is : List Instr} {h : HV} {ls st : List AV} {o : Int} : X fz d k Q (.ifnull 5281 :: is) ls ((3, o) :: st) h = ((o ≠ 0 ∧ o % 64 = 5) ∧ X fz d k Q is ls ((1, h o 20) :: st) h) := rfl
theorem x_gf_6147 {fz : Int → Int → Option Int} {d k : Nat} {Q : Int → HV → Prop} {is : List Instr} {h : HV} {ls st : List AV} {o : Int} : X fz d k Q (.ifnull 6147 :: is) ls ((3, o) :: st) h = ((o ≠ 0 ∧ o % 64 = 6) ∧ X fz d k Q is ls ((3, h o 0) :: st) h) := rfl
theorem x_gf_6155 {fz : Int → Int → Option Int} {d k : Nat} {Q : Int → HV → Prop} {is : List Instr} {h : HV} {ls st : List AV} {o : Int} : X fz d k Q (.ifnull 6155 :: is) ls ((3, o) :: st) h = ((o ≠ 0 ∧ o % 64 = 6) ∧ X fz d k Q is ls ((3, h o 1) :: st) h) := rfl
theorem x_gf_6160 {fz : Int → Int → Option Int} {d k : Nat} {Q : Int → HV → Prop} {is : List Instr} {h : HV} {ls st : List AV} {o : Int} : X fz d k Q (.ifnull 6160 :: is) ls ((3, o) :: st) h = ((o ≠ 0 ∧ o % 64 = 6) ∧ X fz d k Q is ls ((0, h o 2) :: st) h) := rfl
theorem x_gf_67 {fz : Int → Int → Option Int} {d k : Nat} {Q : Int → HV → Prop} {is : List Instr} {h : HV} {ls st : List AV} {o : Int} : X fz d k Q (.ifnull 67 :: is) ls ((3, o) :: st) h = ((o ≠ 0 ∧ o % 64 = 0) ∧ X fz d k Q is ls ((3, h o 8) :: st) h) := rfl
theorem x_gf_7171 {fz : Int → Int → Option Int} {d k : Nat} {Q : Int → HV → Prop} {is : List Instr} {h : HV} {ls st : List AV} {o : Int} : X fz d k Q (.ifnull 7171 :: is) ls ((3, o) :: st) h = ((o ≠ 0 ∧ o % 64 = 7) ∧ X fz d k Q is ls ((3, h o 0) :: st) h) := rfl
theorem x_gf_7176 {fz : Int → Int → Option Int} {d k : Nat} {Q : Int → HV → Prop} {is : List Instr} {h : HV} {ls st : List AV} {o : Int} : X fz d k Q (.ifnull 7176 :: is) ls ((3, o) :: st) h = ((o ≠ 0 ∧ o % 64 = 7) ∧ X fz d k Q is ls ((0, h o 1) :: st) h) := rfl
theorem x_gf_7248 {fz : Int → Int → Option Int} {d k : Nat} {Q : Int → HV → Prop} {is : List Instr} {h : HV} {ls st : List AV} {o : Int} : X fz d k Q (.ifnull 7248 :: is) ls ((3, o) :: st) h = ((o ≠ 0 ∧ o % 64 = 7) ∧ X fz d k Q is ls ((0, h o 10) :: st) h) := rfl
theorem x_gf_7264 {fz : Int → Int → Option Int} {d k : Nat} {Q : Int → HV → Prop} {is : List Instr} {h : HV} {ls st : List AV} {o : Int} : X fz d k Q (.ifnull 7264 :: is) ls ((3, o) :: st) h = ((o ≠ 0 ∧ o % 64 = 7) ∧ X fz d k Q is ls ((0, h o 12) :: st) h) := rfl
theorem x_gf_7276 {fz : Int → Int → Option Int} {d k : Nat} {Q : Int → HV → Prop} {is : List Instr} {h : HV} {ls st : List AV} {o : Int} : X fz d k Q (.ifnull 7276 :: is) ls ((3, o) :: st) h = ((o ≠ 0 ∧ o % 64 = 7) ∧ X fz d k Q is ls ((0, h o 13) :: st) h) := rfl
theorem x_gf_7284 {fz : Int → Int → Option Int} {d k : Nat} {Q : Int → HV → Prop} {is : List Instr} {h : HV} {ls st : List AV} {o : Int} : X fz d k Q (.ifnull 7284 :: is) ls ((3, o) :: st) h = ((o ≠ 0 ∧ o % 64 = 7) ∧ X fz d k Q is ls ((0, h o 14) :: st) h) := rfl
theorem x_gf_7288 {fz : Int → Int → Option Int} {d k : Nat} {Q : Int → HV → Prop} {is : List Instr} {h : HV} {ls st : List AV} {o : Int} : X fz d k Q (.ifnull 7288 :: is) ls ((3, o) :: st) h = ((o ≠ 0 ∧ o % 64 = 7) ∧ X fz d k Q is ls ((0, h o 15) :: st) h) := rfl
theorem x_gf_75 {fz : Int → Int → Option Int} {d k : Nat} {Q : Int → HV → Prop} {is : List Instr} {h : HV} {ls st : List AV} {o : Int} : X fz d k Q (.ifnull 75 :: is) ls ((3, o) :: st) h = ((o ≠ 0 ∧ o % 64 = 0) ∧ X fz d k Q is ls ((3, h o 9) :: st) h) := rfl
theorem x_gf_80 {fz : Int → Int → Option Int} {d k : Nat} {Q : Int → HV → Prop} {is : List Instr} {h : HV} {ls st : List AV} {o : Int} : X fz d k Q (.ifnull 80 :: is) ls ((3, o) :: st) h = ((o ≠ 0 ∧ o % 64 = 0) ∧ X fz d k Q is ls ((0, h o 10) :: st) h) := rfl
theorem x_gf_8203 {fz : Int → Int → Option Int} {d k : Nat} {Q : Int → HV → Prop} {is : List Instr} {h : HV} {ls st : List AV} {o : Int} : X fz d k Q (.ifnull 8203 :: is) ls ((3, o) :: st) h = ((o ≠ 0 ∧ o % 64 = 8) ∧ X fz d k Q is ls ((3, h o 1) :: st) h) := rfl
theorem x_gf_8228 {fz : Int → Int → Option Int} {d k : Nat} {Q : Int → HV → Prop} {is : List Instr} {h : HV} {ls st : List AV} {o : Int} : X fz d k Q (.ifnull 8228 :: is) ls ((3, o) :: st) h = ((o ≠ 0 ∧ o % 64 = 8) ∧ X fz d k Q is ls ((0, h o 4) :: st) h) := rfl
theorem x_gf_8240 {fz : Int → Int → Option Int} {d k : Nat} {Q : Int → HV → Prop} {is : List Instr} {h : HV} {ls st : List AV} {o : Int} : X fz d k Q (.ifnull 8240 :: is) ls ((3, o) :: st) h = ((o ≠ 0 ∧ o % 64 = 8) ∧ X fz d k Q is ls ((0, h o 6) :: st) h) := rfl
theorem x_gf_8264 {fz : Int → Int → Option Int} {d k : Nat} {Q : Int → HV → Prop} {is : List Instr} {h : HV} {ls st : List AV} {o : Int} : X fz d k Q (.ifnull 8264 :: is) ls ((3, o) :: st) h = ((o ≠ 0 ∧ o % 64 = 8) ∧ X fz d k Q is ls ((0, h o 9) :: st) h) := rfl
theorem x_gf_8272 {fz : Int → Int → Option Int} {d k : Nat} {Q : Int → HV → Prop} {is : List Instr} {h : HV} {ls st : List AV} {o : Int} : X fz d k Q (.ifnull 8272 :: is) ls ((3, o) :: st) h = ((o ≠ 0 ∧ o % 64 = 8) ∧ X fz d k Q is ls ((0, h o 10) :: st) h) := rfl
theorem x_gf_89 {fz : Int → Int → Option Int} {d k : Nat} {Q : Int → HV → Prop} {is : List Instr} {h : HV} {ls st : List AV} {o : Int} : X fz d k Q (.ifnull 89 :: is) ls ((3, o) :: st) h = ((o ≠ 0 ∧ o % 64 = 0) ∧ X fz d k Q is ls ((1, h o 11) :: st) h) := rfl
theorem x_gf_9227 {fz : Int → Int → Option Int} {d k : Nat} {Q : Int → HV → Prop} {is : List Instr} {h : HV} {ls st : List AV} {o : Int} : X fz d k Q (.ifnull 9227 :: is) ls ((3, o) :: st) h = ((o ≠ 0 ∧ o % 64 = 9) ∧ X fz d k Q is ls ((3, h o 1) :: st) h) := rfl
theorem x_gf_9268 {fz : Int → Int → Option Int} {d k : Nat} {Q : Int → HV → Prop} {is : List Instr} {h : HV} {ls st : List AV} {o : Int} : X fz d k Q (.ifnull 9268 :: is) ls ((3, o) :: st) h = ((o ≠ 0 ∧ o % 64 = 9) ∧ X fz d k Q is ls ((0, h o 6) :: st) h) := rfl
theorem x_gf_96 {fz : Int → Int → Option Int} {d k : Nat} {Q : Int → HV → Prop} {is : List Instr} {h : HV} {ls st : List AV} {o : Int} : X fz d k Q (.ifnull 96 :: is) ls ((3, o) :: st) h = ((o ≠ 0 ∧ o % 64 = 0) ∧ X fz d k Q is ls ((0, h o 12) :: st) h) := rfl
theorem x_goto_0 {fz : Int → Int → Option Int} {d k : Nat} {Q : Int → HV → Prop} {is : List Instr} {h : HV} {ls st : List AV} : X fz d k Q (.goto 0 :: is) ls st h = G fz d k 0 ls st h Q := rfl
theorem x_goto_1 {fz : Int → Int → Option Int} {d k : Nat} {Q : Int → HV → Prop} {is : List Instr} {h : HV} {ls st : List AV} : X fz d k Q (.goto 1 :: is) ls st h = G fz d k 1 ls st h Q := rfl
theorem x_goto_10 {fz : Int → Int → Option Int} {d k : Nat} {Q : Int → HV → Prop} {is : List Instr} {h : HV} {ls st : List AV} : X fz d k Q (.goto 10 :: is) ls st h = G fz d k 10 ls st h Q := rfl
theorem x_goto_11 {fz : Int → Int → Option Int} {d k : Nat} {Q : Int → HV → Prop} {is : List Instr} {h : HV} {ls st : List AV} : X fz d k Q (.goto 11 :: is) ls st h = G fz d k 11 ls st h Q := rfl
theorem x_goto_12 {fz : Int → Int → Option Int} {d k : Nat} {Q : Int → HV → Prop} {is : List Instr} {h : HV} {ls st : List AV} : X fz d k Q (.goto 12 :: is) ls st h = G fz d k 12 ls st h Q := rfl
theorem x_goto_13 {fz : Int → Int → Option Int} {d k : Nat} {Q : Int → HV → Prop} {is : List Instr} {h : HV} {ls st : List AV} : X fz d k Q (.goto 13 :: is) ls st h = G fz d k 13 ls st h Q := rfl
theorem x_goto_14 {fz : Int → Int → Option Int} {d k : Nat} {Q : Int → HV → Prop} {is : List Instr} {h : HV} {ls st : List AV} : X fz d k Q (.goto 14 :: is) ls st h = G fz d k 14 ls st h Q := rfl
theorem x_goto_15 {fz : Int → Int → Option Int} {d k : Nat} {Q : Int → HV → Prop} {is : List Instr} {h : HV} {ls st : List AV} : X fz d k Q (.goto 15 :: is) ls st h = G fz d k 15 ls st h Q := rfl
theorem x_goto_16 {fz : Int → Int → Option Int} {d k : Nat} {Q : Int → HV → Prop} {is : List Instr} {h : HV} {ls st : List AV} : X fz d k Q (.goto 16 :: is) ls st h = G fz d k 16 ls st h Q := rfl
theorem x_goto_17 {fz : Int → Int → Option Int} {d k : Nat} {Q : Int → HV → Prop} {is : List Instr} {h : HV} {ls st : List AV} : X fz d k Q (.goto 17 :: is) ls st h = G fz d k 17 ls st h Q := rfl
theorem x_goto_18 {fz : Int → Int → Option Int} {d k : Nat} {Q : Int → HV → Prop} {is : List Instr} {h : HV} {ls st : List AV} : X fz d k Q (.goto 18 :: is) ls st h = G fz d k 18 ls st h Q := rfl
theorem x_goto_19 {fz : Int → Int → Option Int} {d k : Nat} {Q : Int → HV → Prop} {is : List Instr} {h : HV} {ls st : List AV} : X fz d k Q (.goto 19 :: is) ls st h = G fz d k 19 ls st h Q := rfl
theorem x_goto_2 {fz : Int → Int → Option Int} {d k : Nat} {Q : Int → HV → Prop} {is : List Instr} {h : HV} {ls st : List AV} : X fz d k Q (.goto 2 :: is) ls st h = G fz d k 2 ls st h Q := rfl
theorem x_goto_20 {fz : Int → Int → Option Int} {d k : Nat} {Q : Int → HV → Prop} {is : List Instr} {h : HV} {ls st : List AV} : X fz d k Q (.goto 20 :: is) ls st h = G fz d k 20 ls st h Q := rfl
theorem x_goto_21 {fz : Int → Int → Option Int} {d k : Nat} {Q : Int → HV → Prop} {is : List Instr} {h : HV} {ls st : List AV} : X fz d k Q (.goto 21 :: is) ls st h = G fz d k 21 ls st h Q := rfl
theorem x_goto_22 {fz : Int → Int → Option Int} {d k : Nat} {Q : Int → HV → Prop} {is : List Instr} {h : HV} {ls st : List AV} : X fz d k Q (.goto 22 :: is) ls st h = G fz d k 22 ls st h Q := rfl
theorem x_goto_23 {fz : Int → Int → Option Int} {d k : Nat} {Q : Int → HV → Prop} {is : List Instr} {h : HV} {ls st : List AV} : X fz d k Q (.goto 23 :: is) ls st h = G fz d k 23 ls st h Q := rfl
theorem x_goto_24 {fz : Int → Int → Option Int} {d k : Nat} {Q : Int → HV → Prop} {is : List Instr} {h : HV} {ls st : List AV} : X fz d k Q (.goto 24 :: is) ls st h = G fz d k 24 ls st h Q := rfl
theorem x_goto_25 {fz : Int → Int → Option Int} {d k : Nat} {Q : Int → HV → Prop} {is : List Instr} {h : HV} {ls st : List AV} : X fz d k Q (.goto 25 :: is) ls st h = G fz d k 25 ls st h Q := rfl
theorem x_goto_26 {fz : Int → Int → Option Int} {d k : Nat} {Q : Int → HV → Prop} {is : List Instr} {h : HV} {ls st : List AV} : X fz d k Q (.goto 26 :: is) ls st h = G fz d k 26 ls st h Q := rfl
theorem x_goto_27 {fz : Int → Int → Option Int} {d k : Nat} {Q : Int → HV → Prop} {is : List Instr} {h : HV} {ls st : List AV} : X fz d k Q (.goto 27 :: is) ls st h = G fz d k 27 ls st h Q := rfl
theorem x_goto_28 {fz : Int → Int → Option Int} {d k : Nat} {Q : Int → HV → Prop} {is : List Instr} {h : HV} {ls st : List AV} : X fz d k Q (.goto 28 :: is) ls st h = G fz d k 28 ls st h Q := rfl
theorem x_goto_29 {fz : Int → Int → Option Int} {d k : Nat} {Q : Int → HV → Prop} {is : List Instr} {h : HV} {ls st : List AV} : X fz d k Q (.goto 29 :: is) ls st h = G fz d k 29 ls st h Q := rfl
theorem x_goto_3 {fz : Int → Int → Option Int} {d k : Nat} {Q : Int → HV → Prop} {is : List Instr} {h : HV} {ls st : List AV} : X fz d k Q (.goto 3 :: is) ls st h = G fz d k 3 ls st h Q := rfl
theorem x_goto_30 {fz : Int → Int → Option Int} {d k : Nat} {Q : Int → HV → Prop} {is : List Instr} {h : HV} {ls st : List AV} : X fz d k Q (.goto 30 :: is) ls st h = G fz d k 30 ls st h Q := rfl
theorem x_goto_31 {fz : Int → Int → Option Int} {d k : Nat} {Q : Int → HV → Prop} {is : List Instr} {h : HV} {ls st : List AV} : X fz d k Q (.goto 31 :: is) ls st h = G fz d k 31 ls st h Q := rfl
theorem x_goto_32 {fz : Int → Int → Option Int} {d k : Nat} {Q : Int → HV → Prop} {is : List Instr} {h : HV} {ls st : List AV} : X fz d k Q (.goto 32 :: is) ls st h = G fz d k 32 ls st h Q := rfl
theorem x_goto_33 {fz : Int → Int → Option Int} {d k : Nat} {Q : Int → HV → Prop} {is : List Instr} {h : HV} {ls st : List AV} : X fz d k Q (.goto 33 :: is) ls st h = G fz d k 33 ls st h Q := rfl
theorem x_goto_34 {fz : Int → Int → Option Int} {d k : Nat} {Q : Int → HV → Prop} {is : List Instr} {h : HV} {ls st : List AV} : X fz d k Q (.goto 34 :: is) ls st h = G fz d k 34 ls st h Q := rfl
theorem x_goto_4 {fz : Int → Int → Option Int} {d k : Nat} {Q : Int → HV → Prop} {is : List Instr} {h : HV} {ls st : List AV} : X fz d k Q (.goto 4 :: is) ls st h = G fz d k 4 ls st h Q := rfl
theorem x_goto_5 {fz : Int → Int → Option Int} {d k : Nat} {Q : Int → HV → Prop} {is : List Instr} {h : HV} {ls st : List AV} : X fz d k Q (.goto 5 :: is) ls st h = G fz d k 5 ls st h Q := rfl
theorem x_goto_6 {fz : Int → Int → Option Int} {d k : Nat} {Q : Int → HV → Prop} {is : List Instr} {h : HV} {ls st : List AV} : X fz d k Q (.goto 6 :: is) ls st h = G fz d k 6 ls st h Q := rfl
theorem x_goto_7 {fz : Int → Int → Option Int} {d k : Nat} {Q : Int → HV → Prop} {is : List Instr} {h : HV} {ls st : List AV} : X fz d k Q (.goto 7 :: is) ls st h = G fz d k 7 ls st h Q := rfl
theorem x_goto_8 {fz : Int → Int → Option Int} {d k : Nat} {Q : Int → HV → Prop} {is : List Instr} {h : HV} {ls st : List AV} : X fz d k Q (.goto 8 :: is) ls st h = G fz d k 8 ls st h Q := rfl
theorem x_goto_9 {fz : Int → Int → Option Int} {d k : Nat} {Q : Int → HV → Prop} {is : List Instr} {h : HV} {ls st : List AV} : X fz d k Q (.goto 9 :: is) ls st h = G fz d k 9 ls st h Q := rfl
theorem x_i2b {fz : Int → Int → Option Int} {d k : Nat} {Q : Int → HV → Prop} {is : List Instr} {h : HV} {ls st : List AV} {x : Int} : X fz d k Q (.i2b :: is) ls ((0, x) :: st) h = X fz d k Q is ls ((0, w8 x) :: st) h := rfl
theorem x_i2c {fz : Int → Int → Option Int} {d k : Nat} {Q : Int → HV → Prop} {is : List Instr} {h : HV} {ls st : List AV} {x : Int} : X fz d k Q (.i2c :: is) ls ((0, x) :: st) h = X fz d k Q is ls ((0, x % 65536) :: st) h := rfl
theorem x_i2l {fz : Int → Int → Option Int} {d k : Nat} {Q : Int → HV → Prop} {is : List Instr} {h : HV} {ls st : List AV} {x : Int} : X fz d k Q (.i2l :: is) ls ((0, x) :: st) h = X fz d k Q is ls ((1, x) :: st) h := rfl
theorem x_iadd {fz : Int → Int → Option Int} {d k : Nat} {Q : Int → HV → Prop} {is : List Instr} {h : HV} {ls st : List AV} {x y : Int} : X fz d k Q (.iadd :: is) ls ((0, y) :: (0, x) :: st) h = X fz d k Q is ls ((0, w32 (x + y)) :: st) h := rfl
theorem x_iaload {fz : Int → Int → Option Int} {d k : Nat} {Q : Int → HV → Prop} {is : List Instr} {h : HV} {ls st : List AV} {o i : Int} : X fz d k Q (.iaload :: is) ls ((0, i) :: (3, o) :: st) h = (((o % 64 = 32 ∨ o % 64 = 50) ∧ 0 ≤ i ∧ i < rd fz h o (-1)) ∧ X fz d k Q is ls ((0, h o i) :: st) h) := rfl
theorem x_iand {fz : Int → Int → Option Int} {d k : Nat} {Q : Int → HV → Prop} {is : List Instr} {h : HV} {ls st : List AV} {x y : Int} : X fz d k Q (.iand :: is) ls ((0, y) :: (0, x) :: st) h = X fz d k Q is ls ((0, i_and x y) :: st) h := rfl
theorem x_iastore {fz : Int → Int → Option Int} {d k : Nat} {Q : Int → HV → Prop} {is : List Instr} {h : HV} {ls st : List AV} {o i x : Int} : X fz d k Q (.iastore :: is) ls ((0, x) :: (0, i) :: (3, o) :: st) h = ((o % 64 = 32 ∧ 0 ≤ i ∧ i < rd fz h o (-1)) ∧ X fz d k Q is ls st (hset h o i x)) := rfl
theorem x_iconst {fz : Int → Int → Option Int} {d k : Nat} {Q : Int → HV → Prop} {is : List Instr} {h : HV} {ls st : List AV} {v : Int} : X fz d k Q (.iconst v :: is) ls st h = X fz d k Q is ls ((0, v) :: st) h := rfl
theorem x_idiv {fz : Int → Int → Option Int} {d k : Nat} {Q : Int → HV → Prop} {is : List Instr} {h : HV} {ls st : List AV} {x y : Int} : X fz d k Q (.idiv :: is) ls ((0, y) :: (0, x) :: st) h = (y ≠ 0 ∧ X fz d k Q is ls ((0, w32 (Int.tdiv x y)) :: st) h) := rfl
theorem x_ifCond_eq_1 {fz : Int → Int → Option Int} {d k : Nat} {Q : Int → HV → Prop} {is : List Instr} {h : HV} {ls st : List AV} {x : Int} : X fz d k Q (.ifCond .eq 1 :: is) ls ((0, x) :: st) h = ((x = 0 → G fz d k 1 ls st h Q) ∧ (¬ (x = 0) → X fz d k Q is ls st h)) := rfl
theorem x_ifCond_eq_10 {fz : Int → Int → Option Int} {d k : Nat} {Q : Int → HV → Prop} {is : List Instr} {h : HV} {ls st : List AV} {x : Int} : X fz d k Q (.ifCond .eq 10 :: is) ls ((0, x) :: st) h = ((x = 0 → G fz d k 10 ls st h Q) ∧ (¬ (x = 0) → X fz d k Q is ls st h)) := rfl
theorem x_ifCond_eq_11 {fz : Int → Int → Option Int} {d k : Nat} {Q : Int → HV → Prop} {is : List Instr} {h : HV} {ls st : List AV} {x : Int} : X fz d k Q (.ifCond .eq 11 :: is) ls ((0, x) :: st) h = ((x = 0 → G fz d k 11 ls st h Q) ∧ (¬ (x = 0) → X fz d k Q is ls st h)) := rfl
theorem x_ifCond_eq_12 {fz : Int → Int → Option Int} {d k : Nat} {Q : Int → HV → Prop} {is : List Instr} {h : HV} {ls st : List AV} {x : Int} : X fz d k Q (.ifCond .eq 12 :: is) ls ((0, x) :: st) h = ((x = 0 → G fz d k 12 ls st h Q) ∧ (¬ (x = 0) → X fz d k Q is ls st h)) := rfl
theorem x_ifCond_eq_13 {fz : Int → Int → Option Int} {d k : Nat} {Q : Int → HV → Prop} {is : List Instr} {h : HV} {ls st : List AV} {x : Int} : X fz d k Q (.ifCond .eq 13 :: is) ls ((0, x) :: st) h = ((x = 0 → G fz d k 13 ls st h Q) ∧ (¬ (x = 0) → X fz d k Q is ls st h)) := rfl
theorem x_ifCond_eq_14 {fz : Int → Int → Option Int} {d k : Nat} {Q : Int → HV → Prop} {is : List Instr} {h : HV} {ls st : List AV} {x : Int} : X fz d k Q (.ifCond .eq 14 :: is) ls ((0, x) :: st) h = ((x = 0 → G fz d k 14 ls st h Q) ∧ (¬ (x = 0) → X fz d k Q is ls st h)) := rfl
theorem x_ifCond_eq_15 {fz : Int → Int → Option Int} {d k : Nat} {Q : Int → HV → Prop} {is : List Instr} {h : HV} {ls st : List AV} {x : Int} : X fz d k Q (.ifCond .eq 15 :: is) ls ((0, x) :: st) h = ((x = 0 → G fz d k 15 ls st h Q) ∧ (¬ (x = 0) → X fz d k Q is ls st h)) := rfl
theorem x_ifCond_eq_16 {fz : Int → Int → Option Int} {d k : Nat} {Q : Int → HV → Prop} {is : List Instr} {h : HV} {ls st : List AV} {x : Int} : X fz d k Q (.ifCond .eq 16 :: is) ls ((0, x) :: st) h = ((x = 0 → G fz d k 16 ls st h Q) ∧ (¬ (x = 0) → X fz d k Q is ls st h)) := rfl
theorem x_ifCond_eq_19 {fz : Int → Int → Option Int} {d k : Nat} {Q : Int → HV → Prop} {is : List Instr} {h : HV} {ls st : List AV} {x : Int} : X fz d k Q (.ifCond .eq 19 :: is) ls ((0, x) :: st) h = ((x = 0 → G fz d k 19 ls st h Q) ∧ (¬ (x = 0) → X fz d k Q is ls st h)) := rfl
theorem x_ifCond_eq_2 {fz : Int → Int → Option Int} {d k : Nat} {Q : Int → HV → Prop} {is : List Instr} {h : HV} {ls st : List AV} {x : Int} : X fz d k Q (.ifCond .eq 2 :: is) ls ((0, x) :: st) h = ((x = 0 → G fz d k 2 ls st h Q) ∧ (¬ (x = 0) → X fz d k Q is ls st h)) := rfl
theorem x_ifCond_eq_20 {fz : Int → Int → Option Int} {d k : Nat} {Q : Int → HV → Prop} {is : List Instr} {h : HV} {ls st : List AV} {x : Int} : X fz d k Q (.ifCond .eq 20 :: is) ls ((0, x) :: st) h = ((x = 0 → G fz d k 20 ls st h Q) ∧ (¬ (x = 0) → X fz d k Q is ls st h)) := rfl
theorem x_ifCond_eq_21 {fz : Int → Int → Option Int} {d k : Nat} {Q : Int → HV → Prop} {is : List Instr} {h : HV} {ls st : List AV} {x : Int} : X fz d k Q (.ifCond .eq 21 :: is) ls ((0, x) :: st) h = ((x = 0 → G fz d k 21 ls st h Q) ∧ (¬ (x = 0) → X fz d k Q is ls st h)) := rfl
theorem x_ifCond_eq_22 {fz : Int → Int → Option Int} {d k : Nat} {Q : Int → HV → Prop} {is : List Instr} {h : HV} {ls st : List AV} {x : Int} : X fz d k Q (.ifCond .eq 22 :: is) ls ((0, x) :: st) h = ((x = 0 → G fz d k 22 ls st h Q) ∧ (¬ (x = 0) → X fz d k Q is ls st h)) := rfl
theorem x_ifCond_eq_26 {fz : Int → Int → Option Int} {d k : Nat} {Q : Int → HV → Prop} {is : List Instr} {h : HV} {ls st : List AV} {x : Int} : X fz d k Q (.ifCond .eq 26 :: is) ls ((0, x) :: st) h = ((x = 0 → G fz d k 26 ls st h Q) ∧ (¬ (x = 0) → X fz d k Q is ls st h)) := rfl
theorem x_ifCond_eq_27 {fz : Int → Int → Option Int} {d k : Nat} {Q : Int → HV → Prop} {is : List Instr} {h : HV} {ls st : List AV} {x : Int} : X fz d k Q (.ifCond .eq 27 :: is) ls ((0, x) :: st) h = ((x = 0 → G fz d k 27 ls st h Q) ∧ (¬ (x = 0) → X fz d k Q is ls st h)) := rfl
theorem x_ifCond_eq_29 {fz : Int → Int → Option Int} {d k : Nat} {Q : Int → HV → Prop} {is : List Instr} {h : HV} {ls st : List AV} {x : Int} : X fz d k Q (.ifCond .eq 29 :: is) ls ((0, x) :: st) h = ((x = 0 → G fz d k 29 ls st h Q) ∧ (¬ (x = 0) → X fz d k Q is ls st h)) := rfl
theorem x_ifCond_eq_3 {fz : Int → Int → Option Int} {d k : Nat} {Q : Int → HV → Prop} {is : List Instr} {h : HV} {ls st : List AV} {x : Int} : X fz d k Q (.ifCond .eq 3 :: is) ls ((0, x) :: st) h = ((x = 0 → G fz d k 3 ls st h Q) ∧ (¬ (x = 0) → X fz d k Q is ls st h)) := rfl
theorem x_ifCond_eq_32 {fz : Int → Int → Option Int} {d k : Nat} {Q : Int → HV → Prop} {is : List Instr} {h : HV} {ls st : List AV} {x : Int} : X fz d k Q (.ifCond .eq 32 :: is) ls ((0, x) :: st) h = ((x = 0 → G fz d k 32 ls st h Q) ∧ (¬ (x = 0) → X fz d k Q is ls st h)) := rfl
theorem x_ifCond_eq_33 {fz : Int → Int → Option Int} {d k : Nat} {Q : Int → HV → Prop} {is : List Instr} {h : HV} {ls st : List AV} {x : Int} : X fz d k Q (.ifCond .eq 33 :: is) ls ((0, x) :: st) h = ((x = 0 → G fz d k 33 ls st h Q) ∧ (¬ (x = 0) → X fz d k Q is ls st h)) := rfl
theorem x_ifCond_eq_34 {fz : Int → Int → Option Int} {d k : Nat} {Q : Int → HV → Prop} {is : List Instr} {h : HV} {ls st : List AV} {x : Int} : X fz d k Q (.ifCond .eq 34 :: is) ls ((0, x) :: st) h = ((x = 0 → G fz d k 34 ls st h Q) ∧ (¬ (x = 0) → X fz d k Q is ls st h)) := rfl
theorem x_ifCond_eq_35 {fz : Int → Int → Option Int} {d k : Nat} {Q : Int → HV → Prop} {is : List Instr} {h : HV} {ls st : List AV} {x : Int} : X fz d k Q (.ifCond .eq 35 :: is) ls ((0, x) :: st) h = ((x = 0 → G fz d k 35 ls st h Q) ∧ (¬ (x = 0) → X fz d k Q is ls st h)) := rfl
theorem x_ifCond_eq_4 {fz : Int → Int → Option Int} {d k : Nat} {Q : Int → HV → Prop} {is : List Instr} {h : HV} {ls st : List AV} {x : Int} : X fz d k Q (.ifCond .eq 4 :: is) ls ((0, x) :: st) h = ((x = 0 → G fz d k 4 ls st h Q) ∧ (¬ (x = 0) → X fz d k Q is ls st h)) := rfl
theorem x_ifCond_eq_5 {fz : Int → Int → Option Int} {d k : Nat} {Q : Int → HV → Prop} {is : List Instr} {h : HV} {ls st : List AV} {x : Int} : X fz d k Q (.ifCond .eq 5 :: is) ls ((0, x) :: st) h = ((x = 0 → G fz d k 5 ls st h Q) ∧ (¬ (x = 0) → X fz d k Q is ls st h)) := rfl
theorem x_ifCond_eq_6 {fz : Int → Int → Option Int} {d k : Nat} {Q : Int → HV → Prop} {is : List Instr} {h : HV} {ls st : List AV} {x : Int} : X fz d k Q (.ifCond .eq 6 :: is) ls ((0, x) :: st) h = ((x = 0 → G fz d k 6 ls st h Q) ∧ (¬ (x = 0) → X fz d k Q is ls st h)) := rfl
theorem x_ifCond_eq_7 {fz : Int → Int → Option Int} {d k : Nat} {Q : Int → HV → Prop} {is : List Instr} {h : HV} {ls st : List AV} {x : Int} : X fz d k Q (.ifCond .eq 7 :: is) ls ((0, x) :: st) h = ((x = 0 → G fz d k 7 ls st h Q) ∧ (¬ (x = 0) → X fz d k Q is ls st h)) := rfl
theorem x_ifCond_eq_8 {fz : Int → Int → Option Int} {d k : Nat} {Q : Int → HV → Prop} {is : List Instr} {h : HV} {ls st : List AV} {x : Int} : X fz d k Q (.ifCond .eq 8 :: is) ls ((0, x) :: st) h = ((x = 0 → G fz d k 8 ls st h Q) ∧ (¬ (x = 0) → X fz d k Q is ls st h)) := rfl
theorem x_ifCond_eq_9 {fz : Int → Int → Option Int} {d k : Nat} {Q : Int → HV → Prop} {is : List Instr} {h : HV} {ls st : List AV} {x : Int} : X fz d k Q (.ifCond .eq 9 :: is) ls ((0, x) :: st) h = ((x = 0 → G fz d k 9 ls st h Q) ∧ (¬ (x = 0) → X fz d k Q is ls st h)) := rfl
theorem x_ifCond_ge_1 {fz : Int → Int → Option Int} {d k : Nat} {Q : Int → HV → Prop} {is : List Instr} {h : HV} {ls st : List AV} {x : Int} : X fz d k Q (.ifCond .ge 1 :: is) ls ((0, x) :: st) h = ((0 ≤ x → G fz d k 1 ls st h Q) ∧ (¬ (0 ≤ x) → X fz d k Q is ls st h)) := rfl
theorem x_ifCond_ge_11 {fz : Int → Int → Option Int} {d k : Nat} {Q : Int → HV → Prop} {is : List Instr} {h : HV} {ls st : List AV} {x : Int} : X fz d k Q (.ifCond .ge 11 :: is) ls ((0, x) :: st) h = ((0 ≤ x → G fz d k 11 ls st h Q) ∧ (¬ (0 ≤ x) → X fz d k Q is ls st h)) := rfl
theorem x_ifCond_ge_14 {fz : Int → Int → Option Int} {d k : Nat} {Q : Int → HV → Prop} {is : List Instr} {h : HV} {ls st : List AV} {x : Int} : X fz d k Q (.ifCond .ge 14 :: is) ls ((0, x) :: st) h = ((0 ≤ x → G fz d k 14 ls st h Q) ∧ (¬ (0 ≤ x) → X fz d k Q is ls st h)) := rfl
theorem x_ifCond_ge_2 {fz : Int → Int → Option Int} {d k : Nat} {Q : Int → HV → Prop} {is : List Instr} {h : HV} {ls st : List AV} {x : Int} : X fz d k Q (.ifCond .ge 2 :: is) ls ((0, x) :: st) h = ((0 ≤ x → G fz d k 2 ls st h Q) ∧ (¬ (0 ≤ x) → X fz d k Q is ls st h)) := rfl
theorem x_ifCond_ge_21 {fz : Int → Int → Option Int} {d k : Nat} {Q : Int → HV → Prop} {is : List Instr} {h : HV} {ls st : List AV} {x : Int} : X fz d k Q (.ifCond .ge 21 :: is) ls ((0, x) :: st) h = ((0 ≤ x → G fz d k 21 ls st h Q) ∧ (¬ (0 ≤ x) → X fz d k Q is ls st h)) := rfl
theorem x_ifCond_ge_22 {fz : Int → Int → Option Int} {d k : Nat} {Q : Int → HV → Prop} {is : List Instr} {h : HV} {ls st : List AV} {x : Int} : X fz d k Q (.ifCond .ge 22 :: is) ls ((0, x) :: st) h = ((0 ≤ x → G fz d k 22 ls st h Q) ∧ (¬ (0 ≤ x) → X fz d k Q is ls st h)) := rfl
theorem x_ifCond_ge_24 {fz : Int → Int → Option Int} {d k : Nat} {Q : Int → HV → Prop} {is : List Instr} {h : HV} {ls st : List AV} {x : Int} : X fz d k Q (.ifCond .ge 24 :: is) ls ((0, x) :: st) h = ((0 ≤ x → G fz d k 24 ls st h Q) ∧ (¬ (0 ≤ x) → X fz d k Q is ls st h)) := rfl
theorem x_ifCond_ge_3 {fz : Int → Int → Option Int} {d k : Nat} {Q : Int → HV → Prop} {is : List Instr} {h : HV} {ls st : List AV} {x : Int} : X fz d k Q (.ifCond .ge 3 :: is) ls ((0, x) :: st) h = ((0 ≤ x → G fz d k 3 ls st h Q) ∧ (¬ (0 ≤ x) → X fz d k Q is ls st h)) := rfl
theorem x_ifCond_ge_4 {fz : Int → Int → Option Int} {d k : Nat} {Q : Int → HV → Prop} {is : List Instr} {h : HV} {ls st : List AV} {x : Int} : X fz d k Q (.ifCond .ge 4 :: is) ls ((0, x) :: st) h = ((0 ≤ x → G fz d k 4 ls st h Q) ∧ (¬ (0 ≤ x) → X fz d k Q is ls st h)) := rfl
theorem x_ifCond_ge_5 {fz : Int → Int → Option Int} {d k : Nat} {Q : Int → HV → Prop} {is : List Instr} {h : HV} {ls st : List AV} {x : Int} : X fz d k Q (.ifCond .ge 5 :: is) ls ((0, x) :: st) h = ((0 ≤ x → G fz d k 5 ls st h Q) ∧ (¬ (0 ≤ x) → X fz d k Q is ls st h)) := rfl
theorem x_ifCond_ge_6 {fz : Int → Int → Option Int} {d k : Nat} {Q : Int → HV → Prop} {is : List Instr} {h : HV} {ls st : List AV} {x : Int} : X fz d k Q (.ifCond .ge 6 :: is) ls ((0, x) :: st) h = ((0 ≤ x → G fz d k 6 ls st h Q) ∧ (¬ (0 ≤ x) → X fz d k Q is ls st h)) := rfl
theorem x_ifCond_ge_7 {fz : Int → Int → Option Int} {d k : Nat} {Q : Int → HV → Prop} {is : List Instr} {h : HV} {ls st : List AV} {x : Int} : X fz d k Q (.ifCond .ge 7 :: is) ls ((0, x) :: st) h = ((0 ≤ x → G fz d k 7 ls st h Q) ∧ (¬ (0 ≤ x) → X fz d k Q is ls st h)) := rfl
theorem x_ifCond_ge_9 {fz : Int → Int → Option Int} {d k : Nat} {Q : Int → HV → Prop} {is : List Instr} {h : HV} {ls st : List AV} {x : Int} : X fz d k Q (.ifCond .ge 9 :: is) ls ((0, x) :: st) h = ((0 ≤ x → G fz d k 9 ls st h Q) ∧ (¬ (0 ≤ x) → X fz d k Q is ls st h)) := rfl
theorem x_ifCond_gt_1 {fz : Int → Int → Option Int} {d k : Nat} {Q : Int → HV → Prop} {is : List Instr} {h : HV} {ls st : List AV} {x : Int} : X fz d k Q (.ifCond .gt 1 :: is) ls ((0, x) :: st) h = ((0 < x → G fz d k 1 ls st h Q) ∧ (¬ (0 < x) → X fz d k Q is ls st h)) := rfl
theorem x_ifCond_gt_4 {fz : Int → Int → Option Int} {d k : Nat} {Q : Int → HV → Prop} {is : List Instr} {h : HV} {ls st : List AV} {x : Int} : X fz d k Q (.ifCond .gt 4 :: is) ls ((0, x) :: st) h = ((0 < x → G fz d k 4 ls st h Q) ∧ (¬ (0 < x) → X fz d k Q is ls st h)) := rfl
theorem x_ifCond_gt_5 {fz : Int → Int → Option Int} {d k : Nat} {Q : Int → HV → Prop} {is : List Instr} {h : HV} {ls st : List AV} {x : Int} : X fz d k Q (.ifCond .gt 5 :: is) ls ((0, x) :: st) h = ((0 < x → G fz d k 5 ls st h Q) ∧ (¬ (0 < x) → X fz d k Q is ls st h)) := rfl
theorem x_ifCond_gt_6 {fz : Int → Int → Option Int} {d k : Nat} {Q : Int → HV → Prop} {is : List Instr} {h : HV} {ls st : List AV} {x : Int} : X fz d k Q (.ifCond .gt 6 :: is) ls ((0, x) :: st) h = ((0 < x → G fz d k 6 ls st h Q) ∧ (¬ (0 < x) → X fz d k Q is ls st h)) := rfl
theorem x_ifCond_gt_8 {fz : Int → Int → Option Int} {d k : Nat} {Q : Int → HV → Prop} {is : List Instr} {h : HV} {ls st : List AV} {x : Int} : X fz d k Q (.ifCond .gt 8 :: is) ls ((0, x) :: st) h = ((0 < x → G fz d k 8 ls st h Q) ∧ (¬ (0 < x) → X fz d k Q is ls st h)) := rfl
theorem x_ifCond_le_1 {fz : Int → Int → Option Int} {d k : Nat} {Q : Int → HV → Prop} {is : List Instr} {h : HV} {ls st : List AV} {x : Int} : X fz d k Q (.ifCond .le 1 :: is) ls ((0, x) :: st) h = ((x ≤ 0 → G fz d k 1 ls st h Q) ∧ (¬ (x ≤ 0) → X fz d k Q is ls st h)) := rfl
theorem x_ifCond_le_11 {fz : Int → Int → Option Int} {d k : Nat} {Q : Int → HV → Prop} {is : List Instr} {h : HV} {ls st : List AV} {x : Int} : X fz d k Q (.ifCond .le 11 :: is) ls ((0, x) :: st) h = ((x ≤ 0 → G fz d k 11 ls st h Q) ∧ (¬ (x ≤ 0) → X fz d k Q is ls st h)) := rfl
theorem x_ifCond_le_12 {fz : Int → Int → Option Int} {d k : Nat} {Q : Int → HV → Prop} {is : List Instr} {h : HV} {ls st : List AV} {x : Int} : X fz d k Q (.ifCond .le 12 :: is) ls ((0, x) :: st) h = ((x ≤ 0 → G fz d k 12 ls st h Q) ∧ (¬ (x ≤ 0) → X fz d k Q is ls st h)) := rfl
theorem x_ifCond_le_15 {fz : Int → Int → Option Int} {d k : Nat} {Q : Int → HV → Prop} {is : List Instr} {h : HV} {ls st : List AV} {x : Int} : X fz d k Q (.ifCond .le 15 :: is) ls ((0, x) :: st) h = ((x ≤ 0 → G fz d k 15 ls st h Q) ∧ (¬ (x ≤ 0) → X fz d k Q is ls st h)) := rfl
theorem x_ifCond_le_19 {fz : Int → Int → Option Int} {d k : Nat} {Q : Int → HV → Prop} {is : List Instr} {h : HV} {ls st : List AV} {x : Int} : X fz d k Q (.ifCond .le 19 :: is) ls ((0, x) :: st) h = ((x ≤ 0 → G fz d k 19 ls st h Q) ∧ (¬ (x ≤ 0) → X fz d k Q is ls st h)) := rfl
theorem x_ifCond_le_2 {fz : Int → Int → Option Int} {d k : Nat} {Q : Int → HV → Prop} {is : List Instr} {h : HV} {ls st : List AV} {x : Int} : X fz d k Q (.ifCond .le 2 :: is) ls ((0, x) :: st) h = ((x ≤ 0 → G fz d k 2 ls st h Q) ∧ (¬ (x ≤ 0) → X fz d k Q is ls st h)) := rfl
theorem x_ifCond_le_20 {fz : Int → Int → Option Int} {d k : Nat} {Q : Int → HV → Prop} {is : List Instr} {h : HV} {ls st : List AV} {x : Int} : X fz d k Q (.ifCond .le 20 :: is) ls ((0, x) :: st) h = ((x ≤ 0 → G fz d k 20 ls st h Q) ∧ (¬ (x ≤ 0) → X fz d k Q is ls st h)) := rfl
theorem x_ifCond_le_24 {fz : Int → Int → Option Int} {d k : Nat} {Q : Int → HV → Prop} {is : List Instr} {h : HV} {ls st : List AV} {x : Int} : X fz d k Q (.ifCond .le 24 :: is) ls ((0, x) :: st) h = ((x ≤ 0 → G fz d k 24 ls st h Q) ∧ (¬ (x ≤ 0) → X fz d k Q is ls st h)) := rfl
theorem x_ifCond_le_3 {fz : Int → Int → Option Int} {d k : Nat} {Q : Int → HV → Prop} {is : List Instr} {h : HV} {ls st : List AV} {x : Int} : X fz d k Q (.ifCond .le 3 :: is) ls ((0, x) :: st) h = ((x ≤ 0 → G fz d k 3 ls st h Q) ∧ (¬ (x ≤ 0) → X fz d k Q is ls st h)) := rfl
theorem x_ifCond_le_7 {fz : Int → Int → Option Int} {d k : Nat} {Q : Int → HV → Prop} {is : List Instr} {h : HV} {ls st : List AV} {x : Int} : X fz d k Q (.ifCond .le 7 :: is) ls ((0, x) :: st) h = ((x ≤ 0 → G fz d k 7 ls st h Q) ∧ (¬ (x ≤ 0) → X fz d k Q is ls st h)) := rfl
theorem x_ifCond_le_8 {fz : Int → Int → Option Int} {d k : Nat} {Q : Int → HV → Prop} {is : List Instr} {h : HV} {ls st : List AV} {x : Int} : X fz d k Q (.ifCond .le 8 :: is) ls ((0, x) :: st) h = ((x ≤ 0 → G fz d k 8 ls st h Q) ∧ (¬ (x ≤ 0) → X fz d k Q is ls st h)) := rfl
theorem x_ifCond_le_9 {fz : Int → Int → Option Int} {d k : Nat} {Q : Int → HV → Prop} {is : List Instr} {h : HV} {ls st : List AV} {x : Int} : X fz d k Q (.ifCond .le 9 :: is) ls ((0, x) :: st) h = ((x ≤ 0 → G fz d k 9 ls st h Q) ∧ (¬ (x ≤ 0) → X fz d k Q is ls st h)) := rfl
theorem x_ifCond_lt_1 {fz : Int → Int → Option Int} {d k : Nat} {Q : Int → HV → Prop} {is : List Instr} {h : HV} {ls st : List AV} {x : Int} : X fz d k Q (.ifCond .lt 1 :: is) ls ((0, x) :: st) h = ((x < 0 → G fz d k 1 ls st h Q) ∧ (¬ (x < 0) → X fz d k Q is ls st h)) := rfl
theorem x_ifCond_lt_11 {fz : Int → Int → Option Int} {d k : Nat} {Q : Int → HV → Prop} {is : List Instr} {h : HV} {ls st : List AV} {x : Int} : X fz d k Q (.ifCond .lt 11 :: is) ls ((0, x) :: st) h = ((x < 0 → G fz d k 11 ls st h Q) ∧ (¬ (x < 0) → X fz d k Q is ls st h)) := rfl
theorem x_ifCond_lt_12 {fz : Int → Int → Option Int} {d k : Nat} {Q : Int → HV → Prop} {is : List Instr} {h : HV} {ls st : List AV} {x : Int} : X fz d k Q (.ifCond .lt 12 :: is) ls ((0, x) :: st) h = ((x < 0 → G fz d k 12 ls st h Q) ∧ (¬ (x < 0) → X fz d k Q is ls st h)) := rfl
theorem x_ifCond_lt_16 {fz : Int → Int → Option Int} {d k : Nat} {Q : Int → HV → Prop} {is : List Instr} {h : HV} {ls st : List AV} {x : Int} : X fz d k Q (.ifCond .lt 16 :: is) ls ((0, x) :: st) h = ((x < 0 → G fz d k 16 ls st h Q) ∧ (¬ (x < 0) → X fz d k Q is ls st h)) := rfl
theorem x_ifCond_lt_18 {fz : Int → Int → Option Int} {d k : Nat} {Q : Int → HV → Prop} {is : List Instr} {h : HV} {ls st : List AV} {x : Int} : X fz d k Q (.ifCond .lt 18 :: is) ls ((0, x) :: st) h = ((x < 0 → G fz d k 18 ls st h Q) ∧ (¬ (x < 0) → X fz d k Q is ls st h)) := rfl
theorem x_ifCond_lt_2 {fz : Int → Int → Option Int} {d k : Nat} {Q : Int → HV → Prop} {is : List Instr} {h : HV} {ls st : List AV} {x : Int} : X fz d k Q (.ifCond .lt 2 :: is) ls ((0, x) :: st) h = ((x < 0 → G fz d k 2 ls st h Q) ∧ (¬ (x < 0) → X fz d k Q is ls st h)) := rfl
theorem x_ifCond_lt_20 {fz : Int → Int → Option Int} {d k : Nat} {Q : Int → HV → Prop} {is : List Instr} {h : HV} {ls st : List AV} {x : Int} : X fz d k Q (.ifCond .lt 20 :: is) ls ((0, x) :: st) h = ((x < 0 → G fz d k 20 ls st h Q) ∧ (¬ (x < 0) → X fz d k Q is ls st h)) := rfl
theorem x_ifCond_lt_22 {fz : Int → Int → Option Int} {d k : Nat} {Q : Int → HV → Prop} {is : List Instr} {h : HV} {ls st : List AV} {x : Int} : X fz d k Q (.ifCond .lt 22 :: is) ls ((0, x) :: st) h = ((x < 0 → G fz d k 22 ls st h Q) ∧ (¬ (x < 0) → X fz d k Q is ls st h)) := rfl
theorem x_ifCond_lt_23 {fz : Int → Int → Option Int} {d k : Nat} {Q : Int → HV → Prop} {is : List Instr} {h : HV} {ls st : List AV} {x : Int} : X fz d k Q (.ifCond .lt 23 :: is) ls ((0, x) :: st) h = ((x < 0 → G fz d k 23 ls st h Q) ∧ (¬ (x < 0) → X fz d k Q is ls st h)) := rfl
theorem x_ifCond_lt_3 {fz : Int → Int → Option Int} {d k : Nat} {Q : Int → HV → Prop} {is : List Instr} {h : HV} {ls st : List AV} {x : Int} : X fz d k Q (.ifCond .lt 3 :: is) ls ((0, x) :: st) h = ((x < 0 → G fz d k 3 ls st h Q) ∧ (¬ (x < 0) → X fz d k Q is ls st h)) := rfl
theorem x_ifCond_lt_4 {fz : Int → Int → Option Int} {d k : Nat} {Q : Int → HV → Prop} {is : List Instr} {h : HV} {ls st : List AV} {x : Int} : X fz d k Q (.ifCond .lt 4 :: is) ls ((0, x) :: st) h = ((x < 0 → G fz d k 4 ls st h Q) ∧ (¬ (x < 0) → X fz d k Q is ls st h)) := rfl
theorem x_ifCond_lt_5 {fz : Int → Int → Option Int} {d k : Nat} {Q : Int → HV → Prop} {is : List Instr} {h : HV} {ls st : List AV} {x : Int} : X fz d k Q (.ifCond .lt 5 :: is) ls ((0, x) :: st) h = ((x < 0 → G fz d k 5 ls st h Q) ∧ (¬ (x < 0) → X fz d k Q is ls st h)) := rfl
theorem x_ifCond_lt_6 {fz : Int → Int → Option Int} {d k : Nat} {Q : Int → HV → Prop} {is : List Instr} {h : HV} {ls st : List AV} {x : Int} : X fz d k Q (.ifCond .lt 6 :: is) ls ((0, x) :: st) h = ((x < 0 → G fz d k 6 ls st h Q) ∧ (¬ (x < 0) → X fz d k Q is ls st h)) := rfl
theorem x_ifCond_lt_8 {fz : Int → Int → Option Int} {d k : Nat} {Q : Int → HV → Prop} {is : List Instr} {h : HV} {ls st : List AV} {x : Int} : X fz d k Q (.ifCond .lt 8 :: is) ls ((0, x) :: st) h = ((x < 0 → G fz d k 8 ls st h Q) ∧ (¬ (x < 0) → X fz d k Q is ls st h)) := rfl
theorem x_ifCond_lt_9 {fz : Int → Int → Option Int} {d k : Nat} {Q : Int → HV → Prop} {is : List Instr} {h : HV} {ls st : List AV} {x : Int} : X fz d k Q (.ifCond .lt 9 :: is) ls ((0, x) :: st) h = ((x < 0 → G fz d k 9 ls st h Q) ∧ (¬ (x < 0) → X fz d k Q is ls st h)) := rfl
theorem x_ifCond_ne_1 {fz : Int → Int → Option Int} {d k : Nat} {Q : Int → HV → Prop} {is : List Instr} {h : HV} {ls st : List AV} {x : Int} : X fz d k Q (.ifCond .ne 1 :: is) ls ((0, x) :: st) h = ((x ≠ 0 → G fz d k 1 ls st h Q) ∧ (¬ (x ≠ 0) → X fz d k Q is ls st h)) := rfl
theorem x_ifCond_ne_10 {fz : Int → Int → Option Int} {d k : Nat} {Q : Int → HV → Prop} {is : List Instr} {h : HV} {ls st : List AV} {x : Int} : X fz d k Q (.ifCond .ne 10 :: is) ls ((0, x) :: st) h = ((x ≠ 0 → G fz d k 10 ls st h Q) ∧ (¬ (x ≠ 0) → X fz d k Q is ls st h)) := rfl
theorem x_ifCond_ne_11 {fz : Int → Int → Option Int} {d k : Nat} {Q : Int → HV → Prop} {is : List Instr} {h : HV} {ls st : List AV} {x : Int} : X fz d k Q (.ifCond .ne 11 :: is) ls ((0, x) :: st) h = ((x ≠ 0 → G fz d k 11 ls st h Q) ∧ (¬ (x ≠ 0) → X fz d k Q is ls st h)) := rfl
theorem x_ifCond_ne_12 {fz : Int → Int → Option Int} {d k : Nat} {Q : Int → HV → Prop} {is : List Instr} {h : HV} {ls st : List AV} {x : Int} : X fz d k Q (.ifCond .ne 12 :: is) ls ((0, x) :: st) h = ((x ≠ 0 → G fz d k 12 ls st h Q) ∧ (¬ (x ≠ 0) → X fz d k Q is ls st h)) := rfl
theorem x_ifCond_ne_13 {fz : Int → Int → Option Int} {d k : Nat} {Q : Int → HV → Prop} {is : List Instr} {h : HV} {ls st : List AV} {x : Int} : X fz d k Q (.ifCond .ne 13 :: is) ls ((0, x) :: st) h = ((x ≠ 0 → G fz d k 13 ls st h Q) ∧ (¬ (x ≠ 0) → X fz d k Q is ls st h)) := rfl
theorem x_ifCond_ne_14 {fz : Int → Int → Option Int} {d k : Nat} {Q : Int → HV → Prop} {is : List Instr} {h : HV} {ls st : List AV} {x : Int} : X fz d k Q (.ifCond .ne 14 :: is) ls ((0, x) :: st) h = ((x ≠ 0 → G fz d k 14 ls st h Q) ∧ (¬ (x ≠ 0) → X fz d k Q is ls st h)) := rfl
theorem x_ifCond_ne_15 {fz : Int → Int → Option Int} {d k : Nat} {Q : Int → HV → Prop} {is : List Instr} {h : HV} {ls st : List AV} {x : Int} : X fz d k Q (.ifCond .ne 15 :: is) ls ((0, x) :: st) h = ((x ≠ 0 → G fz d k 15 ls st h Q) ∧ (¬ (x ≠ 0) → X fz d k Q is ls st h)) := rfl
theorem x_ifCond_ne_17 {fz : Int → Int → Option Int} {d k : Nat} {Q : Int → HV → Prop} {is : List Instr} {h : HV} {ls st : List AV} {x : Int} : X fz d k Q (.ifCond .ne 17 :: is) ls ((0, x) :: st) h = ((x ≠ 0 → G fz d k 17 ls st h Q) ∧ (¬ (x ≠ 0) → X fz d k Q is ls st h)) := rfl
theorem x_ifCond_ne_18 {fz : Int → Int → Option Int} {d k : Nat} {Q : Int → HV → Prop} {is : List Instr} {h : HV} {ls st : List AV} {x : Int} : X fz d k Q (.ifCond .ne 18 :: is) ls ((0, x) :: st) h = ((x ≠ 0 → G fz d k 18 ls st h Q) ∧ (¬ (x ≠ 0) → X fz d k Q is ls st h)) := rfl
theorem x_ifCond_ne_19 {fz : Int → Int → Option Int} {d k : Nat} {Q : Int → HV → Prop} {is : List Instr} {h : HV} {ls st : List AV} {x : Int} : X fz d k Q (.ifCond .ne 19 :: is) ls ((0, x) :: st) h = ((x ≠ 0 → G fz d k 19 ls st h Q) ∧ (¬ (x ≠ 0) → X fz d k Q is ls st h)) := rfl
theorem x_ifCond_ne_2 {fz : Int → Int → Option Int} {d k : Nat} {Q : Int → HV → Prop} {is : List Instr} {h : HV} {ls st : List AV} {x : Int} : X fz d k Q (.ifCond .ne 2 :: is) ls ((0, x) :: st) h = ((x ≠ 0 → G fz d k 2 ls st h Q) ∧ (¬ (x ≠ 0) → X fz d k Q is ls st h)) := rfl
theorem x_ifCond_ne_21 {fz : Int → Int → Option Int} {d k : Nat} {Q : Int → HV → Prop} {is : List Instr} {h : HV} {ls st : List AV} {x : Int} : X fz d k Q (.ifCond .ne 21 :: is) ls ((0, x) :: st) h = ((x ≠ 0 → G fz d k 21 ls st h Q) ∧ (¬ (x ≠ 0) → X fz d k Q is ls st h)) := rfl
theorem x_ifCond_ne_22 {fz : Int → Int → Option Int} {d k : Nat} {Q : Int → HV → Prop} {is : List Instr} {h : HV} {ls st : List AV} {x : Int} : X fz d k Q (.ifCond .ne 22 :: is) ls ((0, x) :: st) h = ((x ≠ 0 → G fz d k 22 ls st h Q) ∧ (¬ (x ≠ 0) → X fz d k Q is ls st h)) := rfl
theorem x_ifCond_ne_23 {fz : Int → Int → Option Int} {d k : Nat} {Q : Int → HV → Prop} {is : List Instr} {h : HV} {ls st : List AV} {x : Int} : X fz d k Q (.ifCond .ne 23 :: is) ls ((0, x) :: st) h = ((x ≠ 0 → G fz d k 23 ls st h Q) ∧ (¬ (x ≠ 0) → X fz d k Q is ls st h)) := rfl
theorem x_ifCond_ne_24 {fz : Int → Int → Option Int} {d k : Nat} {Q : Int → HV → Prop} {is : List Instr} {h : HV} {ls st : List AV} {x : Int} : X fz d k Q (.ifCond .ne 24 :: is) ls ((0, x) :: st) h = ((x ≠ 0 → G fz d k 24 ls st h Q) ∧ (¬ (x ≠ 0) → X fz d k Q is ls st h)) := rfl
theorem x_ifCond_ne_28 {fz : Int → Int → Option Int} {d k : Nat} {Q : Int → HV → Prop} {is : List Instr} {h : HV} {ls st : List AV} {x : Int} : X fz d k Q (.ifCond .ne 28 :: is) ls ((0, x) :: st) h = ((x ≠ 0 → G fz d k 28 ls st h Q) ∧ (¬ (x ≠ 0) → X fz d k Q is ls st h)) := rfl
theorem x_ifCond_ne_3 {fz : Int → Int → Option Int} {d k : Nat} {Q : Int → HV → Prop} {is : List Instr} {h : HV} {ls st : List AV} {x : Int} : X fz d k Q (.ifCond .ne 3 :: is) ls ((0, x) :: st) h = ((x ≠ 0 → G fz d k 3 ls st h Q) ∧ (¬ (x ≠ 0) → X fz d k Q is ls st h)) := rfl
theorem x_ifCond_ne_4 {fz : Int → Int → Option Int} {d k : Nat} {Q : Int → HV → Prop} {is : List Instr} {h : HV} {ls st : List AV} {x : Int} : X fz d k Q (.ifCond .ne 4 :: is) ls ((0, x) :: st) h = ((x ≠ 0 → G fz d k 4 ls st h Q) ∧ (¬ (x ≠ 0) → X fz d k Q is ls st h)) := rfl
theorem x_ifCond_ne_5 {fz : Int → Int → Option Int} {d k : Nat} {Q : Int → HV → Prop} {is : List Instr} {h : HV} {ls st : List AV} {x : Int} : X fz d k Q (.ifCond .ne 5 :: is) ls ((0, x) :: st) h = ((x ≠ 0 → G fz d k 5 ls st h Q) ∧ (¬ (x ≠ 0) → X fz d k Q is ls st h)) := rfl
theorem x_ifCond_ne_6 {fz : Int → Int → Option Int} {d k : Nat} {Q : Int → HV → Prop} {is : List Instr} {h : HV} {ls st : List AV} {x : Int} : X fz d k Q (.ifCond .ne 6 :: is) ls ((0, x) :: st) h = ((x ≠ 0 → G fz d k 6 ls st h Q) ∧ (¬ (x ≠ 0) → X fz d k Q is ls st h)) := rfl
theorem x_ifCond_ne_7 {fz : Int → Int → Option Int} {d k : Nat} {Q : Int → HV → Prop} {is : List Instr} {h : HV} {ls st : List AV} {x : Int} : X fz d k Q (.ifCond .ne 7 :: is) ls ((0, x) :: st) h = ((x ≠ 0 → G fz d k 7 ls st h Q) ∧ (¬ (x ≠ 0) → X fz d k Q is ls st h)) := rfl
theorem x_ifCond_ne_8 {fz : Int → Int → Option Int} {d k : Nat} {Q : Int → HV → Prop} {is : List Instr} {h : HV} {ls st : List AV} {x : Int} : X fz d k Q (.ifCond .ne 8 :: is) ls ((0, x) :: st) h = ((x ≠ 0 → G fz d k 8 ls st h Q) ∧ (¬ (x ≠ 0) → X fz d k Q is ls st h)) := rfl
theorem x_ifCond_ne_9 {fz : Int → Int → Option Int} {d k : Nat} {Q : Int → HV → Prop} {is : List Instr} {h : HV} {ls st : List AV} {x : Int} : X fz d k Q (.ifCond .ne 9 :: is) ls ((0, x) :: st) h = ((x ≠ 0 → G fz d k 9 ls st h Q) ∧ (¬ (x ≠ 0) → X fz d k Q is ls st h)) := rfl
theorem x_if_icmp_eq_1 {fz : Int → Int → Option Int} {d k : Nat} {Q : Int → HV → Prop} {is : List Instr} {h : HV} {ls st : List AV} {x y : Int} : X fz d k Q (.if_icmp .eq 1 :: is) ls ((0, y) :: (0, x) :: st) h = ((x = y → G fz d k 1 ls st h Q) ∧ (¬ (x = y) → X fz d k Q is ls st h)) := rfl
theorem x_if_icmp_eq_10 {fz : Int → Int → Option Int} {d k : Nat} {Q : Int → HV → Prop} {is : List Instr} {h : HV} {ls st : List AV} {x y : Int} : X fz d k Q (.if_icmp .eq 10 :: is) ls ((0, y) :: (0, x) :: st) h = ((x = y → G fz d k 10 ls st h Q) ∧ (¬ (x = y) → X fz d k Q is ls st h)) := rfl
theorem x_if_icmp_eq_11 {fz : Int → Int → Option Int} {d k : Nat} {Q : Int → HV → Prop} {is : List Instr} {h : HV} {ls st : List AV} {x y : Int} : X fz d k Q (.if_icmp .eq 11 :: is) ls ((0, y) :: (0, x) :: st) h = ((x = y → G fz d k 11 ls st h Q) ∧ (¬ (x = y) → X fz d k Q is ls st h)) := rfl
theorem x_if_icmp_eq_13 {fz : Int → Int → Option Int} {d k : Nat} {Q : Int → HV → Prop} {is : List Instr} {h : HV} {ls st : List AV} {x y : Int} : X fz d k Q (.if_icmp .eq 13 :: is) ls ((0, y) :: (0, x) :: st) h = ((x = y → G fz d k 13 ls st h Q) ∧ (¬ (x = y) → X fz d k Q is ls st h)) := rfl
theorem x_if_icmp_eq_16 {fz : Int → Int → Option Int} {d k : Nat} {Q : Int → HV → Prop} {is : List Instr} {h : HV} {ls st : List AV} {x y : Int} : X fz d k Q (.if_icmp .eq 16 :: is) ls ((0, y) :: (0, x) :: st) h = ((x = y → G fz d k 16 ls st h Q) ∧ (¬ (x = y) → X fz d k Q is ls st h)) := rfl
theorem x_if_icmp_eq_19 {fz : Int → Int → Option Int} {d k : Nat} {Q : Int → HV → Prop} {is : List Instr} {h : HV} {ls st : List AV} {x y : Int} : X fz d k Q (.if_icmp .eq 19 :: is) ls ((0, y) :: (0, x) :: st) h = ((x = y → G fz d k 19 ls st h Q) ∧ (¬ (x = y) → X fz d k Q is ls st h)) := rfl
theorem x_if_icmp_eq_2 {fz : Int → Int → Option Int} {d k : Nat} {Q : Int → HV → Prop} {is : List Instr} {h : HV} {ls st : List AV} {x y : Int} : X fz d k Q (.if_icmp .eq 2 :: is) ls ((0, y) :: (0, x) :: st) h = ((x = y → G fz d k 2 ls st h Q) ∧ (¬ (x = y) → X fz d k Q is ls st h)) := rfl
theorem x_if_icmp_eq_27 {fz : Int → Int → Option Int} {d k : Nat} {Q : Int → HV → Prop} {is : List Instr} {h : HV} {ls st : List AV} {x y : Int} : X fz d k Q (.if_icmp .eq 27 :: is) ls ((0, y) :: (0, x) :: st) h = ((x = y → G fz d k 27 ls st h Q) ∧ (¬ (x = y) → X fz d k Q is ls st h)) := rfl
theorem x_if_icmp_eq_28 {fz : Int → Int → Option Int} {d k : Nat} {Q : Int → HV → Prop} {is : List Instr} {h : HV} {ls st : List AV} {x y : Int} : X fz d k Q (.if_icmp .eq 28 :: is) ls ((0, y) :: (0, x) :: st) h = ((x = y → G fz d k 28 ls st h Q) ∧ (¬ (x = y) → X fz d k Q is ls st h)) := rfl
theorem x_if_icmp_eq_29 {fz : Int → Int → Option Int} {d k : Nat} {Q : Int → HV → Prop} {is : List Instr} {h : HV} {ls st : List AV} {x y : Int} : X fz d k Q (.if_icmp .eq 29 :: is) ls ((0, y) :: (0, x) :: st) h = ((x = y → G fz d k 29 ls st h Q) ∧ (¬ (x = y) → X fz d k Q is ls st h)) := rfl
theorem x_if_icmp_eq_3 {fz : Int → Int → Option Int} {d k : Nat} {Q : Int → HV → Prop} {is : List Instr} {h : HV} {ls st : List AV} {x y : Int} : X fz d k Q (.if_icmp .eq 3 :: is) ls ((0, y) :: (0, x) :: st) h = ((x = y → G fz d k 3 ls st h Q) ∧ (¬ (x = y) → X fz d k Q is ls st h)) := rfl
theorem x_if_icmp_eq_32 {fz : Int → Int → Option Int} {d k : Nat} {Q : Int → HV → Prop} {is : List Instr} {h : HV} {ls st : List AV} {x y : Int} : X fz d k Q (.if_icmp .eq 32 :: is) ls ((0, y) :: (0, x) :: st) h = ((x = y → G fz d k 32 ls st h Q) ∧ (¬ (x = y) → X fz d k Q is ls st h)) := rfl
theorem x_if_icmp_eq_4 {fz : Int → Int → Option Int} {d k : Nat} {Q : Int → HV → Prop} {is : List Instr} {h : HV} {ls st : List AV} {x y : Int} : X fz d k Q (.if_icmp .eq 4 :: is) ls ((0, y) :: (0, x) :: st) h = ((x = y → G fz d k 4 ls st h Q) ∧ (¬ (x = y) → X fz d k Q is ls st h)) := rfl
theorem x_if_icmp_eq_5 {fz : Int → Int → Option Int} {d k : Nat} {Q : Int → HV → Prop} {is : List Instr} {h : HV} {ls st : List AV} {x y : Int} : X fz d k Q (.if_icmp .eq 5 :: is) ls ((0, y) :: (0, x) :: st) h = ((x = y → G fz d k 5 ls st h Q) ∧ (¬ (x = y) → X fz d k Q is ls st h)) := rfl
theorem x_if_icmp_eq_6 {fz : Int → Int → Option Int} {d k : Nat} {Q : Int → HV → Prop} {is : List Instr} {h : HV} {ls st : List AV} {x y : Int} : X fz d k Q (.if_icmp .eq 6 :: is) ls ((0, y) :: (0, x) :: st) h = ((x = y → G fz d k 6 ls st h Q) ∧ (¬ (x = y) → X fz d k Q is ls st h)) := rfl
theorem x_if_icmp_eq_7 {fz : Int → Int → Option Int} {d k : Nat} {Q : Int → HV → Prop} {is : List Instr} {h : HV} {ls st : List AV} {x y : Int} : X fz d k Q (.if_icmp .eq 7 :: is) ls ((0, y) :: (0, x) :: st) h = ((x = y → G fz d k 7 ls st h Q) ∧ (¬ (x = y) → X fz d k Q is ls st h)) := rfl
theorem x_if_icmp_eq_8 {fz : Int → Int → Option Int} {d k : Nat} {Q : Int → HV → Prop} {is : List Instr} {h : HV} {ls st : List AV} {x y : Int} : X fz d k Q (.if_icmp .eq 8 :: is) ls ((0, y) :: (0, x) :: st) h = ((x = y → G fz d k 8 ls st h Q) ∧ (¬ (x = y) → X fz d k Q is ls st h)) := rfl
theorem x_if_icmp_eq_9 {fz : Int → Int → Option Int} {d k : Nat} {Q : Int → HV → Prop} {is : List Instr} {h : HV} {ls st : List AV} {x y : Int} : X fz d k Q (.if_icmp .eq 9 :: is) ls ((0, y) :: (0, x) :: st) h = ((x = y → G fz d k 9 ls st h Q) ∧ (¬ (x = y) → X fz d k Q is ls st h)) := rfl
theorem x_if_icmp_ge_1 {fz : Int → Int → Option Int} {d k : Nat} {Q : Int → HV → Prop} {is : List Instr} {h : HV} {ls st : List AV} {x y : Int} : X fz d k Q (.if_icmp .ge 1 :: is) ls ((0, y) :: (0, x) :: st) h = ((y ≤ x → G fz d k 1 ls st h Q) ∧ (¬ (y ≤ x) → X fz d k Q is ls st h)) := rfl
theorem x_if_icmp_ge_10 {fz : Int → Int → Option Int} {d k : Nat} {Q : Int → HV → Prop} {is : List Instr} {h : HV} {ls st : List AV} {x y : Int} : X fz d k Q (.if_icmp .ge 10 :: is) ls ((0, y) :: (0, x) :: st) h = ((y ≤ x → G fz d k 10 ls st h Q) ∧ (¬ (y ≤ x) → X fz d k Q is ls st h)) := rfl
theorem x_if_icmp_ge_11 {fz : Int → Int → Option Int} {d k : Nat} {Q : Int → HV → Prop} {is : List Instr} {h : HV} {ls st : List AV} {x y : Int} : X fz d k Q (.if_icmp .ge 11 :: is) ls ((0, y) :: (0, x) :: st) h = ((y ≤ x → G fz d k 11 ls st h Q) ∧ (¬ (y ≤ x) → X fz d k Q is ls st h)) := rfl
theorem x_if_icmp_ge_12 {fz : Int → Int → Option Int} {d k : Nat} {Q : Int → HV → Prop} {is : List Instr} {h : HV} {ls st : List AV} {x y : Int} : X fz d k Q (.if_icmp .ge 12 :: is) ls ((0, y) :: (0, x) :: st) h = ((y ≤ x → G fz d k 12 ls st h Q) ∧ (¬ (y ≤ x) → X fz d k Q is ls st h)) := rfl
theorem x_if_icmp_ge_13 {fz : Int → Int → Option Int} {d k : Nat} {Q : Int → HV → Prop} {is : List Instr} {h : HV} {ls st : List AV} {x y : Int} : X fz d k Q (.if_icmp .ge 13 :: is) ls ((0, y) :: (0, x) :: st) h = ((y ≤ x → G fz d k 13 ls st h Q) ∧ (¬ (y ≤ x) → X fz d k Q is ls st h)) := rfl
theorem x_if_icmp_ge_14 {fz : Int → Int → Option Int} {d k : Nat} {Q : Int → HV → Prop} {is : List Instr} {h : HV} {ls st : List AV} {x y : Int} : X fz d k Q (.if_icmp .ge 14 :: is) ls ((0, y) :: (0, x) :: st) h = ((y ≤ x → G fz d k 14 ls st h Q) ∧ (¬ (y ≤ x) → X fz d k Q is ls st h)) := rfl
theorem x_if_icmp_ge_15 {fz : Int → Int → Option Int} {d k : Nat} {Q : Int → HV → Prop} {is : List Instr} {h : HV} {ls st : List AV} {x y : Int} : X fz d k Q (.if_icmp .ge 15 :: is) ls ((0, y) :: (0, x) :: st) h = ((y ≤ x → G fz d k 15 ls st h Q) ∧ (¬ (y ≤ x) → X fz d k Q is ls st h)) := rfl
theorem x_if_icmp_ge_16 {fz : Int → Int → Option Int} {d k : Nat} {Q : Int → HV → Prop} {is : List Instr} {h : HV} {ls st : List AV} {x y : Int} : X fz d k Q (.if_icmp .ge 16 :: is) ls ((0, y) :: (0, x) :: st) h = ((y ≤ x → G fz d k 16 ls st h Q) ∧ (¬ (y ≤ x) → X fz d k Q is ls st h)) := rfl
theorem x_if_icmp_ge_17 {fz : Int → Int → Option Int} {d k : Nat} {Q : Int → HV → Prop} {is : List Instr} {h : HV} {ls st : List AV} {x y : Int} : X fz d k Q (.if_icmp .ge 17 :: is) ls ((0, y) :: (0, x) :: st) h = ((y ≤ x → G fz d k 17 ls st h Q) ∧ (¬ (y ≤ x) → X fz d k Q is ls st h)) := rfl
theorem x_if_icmp_ge_18 {fz : Int → Int → Option Int} {d k : Nat} {Q : Int → HV → Prop} {is : List Instr} {h : HV} {ls st : List AV} {x y : Int} : X fz d k Q (.if_icmp .ge 18 :: is) ls ((0, y) :: (0, x) :: st) h = ((y ≤ x → G fz d k 18 ls st h Q) ∧ (¬ (y ≤ x) → X fz d k Q is ls st h)) := rfl
theorem x_if_icmp_ge_19 {fz : Int → Int → Option Int} {d k : Nat} {Q : Int → HV → Prop} {is : List Instr} {h : HV} {ls st : List AV} {x y : Int} : X fz d k Q (.if_icmp .ge 19 :: is) ls ((0, y) :: (0, x) :: st) h = ((y ≤ x → G fz d k 19 ls st h Q) ∧ (¬ (y ≤ x) → X fz d k Q is ls st h)) := rfl
theorem x_if_icmp_ge_2 {fz : Int → Int → Option Int} {d k : Nat} {Q : Int → HV → Prop} {is : List Instr} {h : HV} {ls st : List AV} {x y : Int} : X fz d k Q (.if_icmp .ge 2 :: is) ls ((0, y) :: (0, x) :: st) h = ((y ≤ x → G fz d k 2 ls st h Q) ∧ (¬ (y ≤ x) → X fz d k Q is ls st h)) := rfl
theorem x_if_icmp_ge_20 {fz : Int → Int → Option Int} {d k : Nat} {Q : Int → HV → Prop} {is : List Instr} {h : HV} {ls st : List AV} {x y : Int} : X fz d k Q (.if_icmp .ge 20 :: is) ls ((0, y) :: (0, x) :: st) h = ((y ≤ x → G fz d k 20 ls st h Q) ∧ (¬ (y ≤ x) → X fz d k Q is ls st h)) := rfl
theorem x_if_icmp_ge_21 {fz : Int → Int → Option Int} {d k : Nat} {Q : Int → HV → Prop} {is : List Instr} {h : HV} {ls st : List AV} {x y : Int} : X fz d k Q (.if_icmp .ge 21 :: is) ls ((0, y) :: (0, x) :: st) h = ((y ≤ x → G fz d k 21 ls st h Q) ∧ (¬ (y ≤ x) → X fz d k Q is ls st h)) := rfl
theorem x_if_icmp_ge_22 {fz : Int → Int → Option Int} {d k : Nat} {Q : Int → HV → Prop} {is : List Instr} {h : HV} {ls st : List AV} {x y : Int} : X fz d k Q (.if_icmp .ge 22 :: is) ls ((0, y) :: (0, x) :: st) h = ((y ≤ x → G fz d k 22 ls st h Q) ∧ (¬ (y ≤ x) → X fz d k Q is ls st h)) := rfl
theorem x_if_icmp_ge_23 {fz : Int → Int → Option Int} {d k : Nat} {Q : Int → HV → Prop} {is : List Instr} {h : HV} {ls st : List AV} {x y : Int} : X fz d k Q (.if_icmp .ge 23 :: is) ls ((0, y) :: (0, x) :: st) h = ((y ≤ x → G fz d k 23 ls st h Q) ∧ (¬ (y ≤ x) → X fz d k Q is ls st h)) := rfl
theorem x_if_icmp_ge_28 {fz : Int → Int → Option Int} {d k : Nat} {Q : Int → HV → Prop} {is : List Instr} {h : HV} {ls st : List AV} {x y : Int} : X fz d k Q (.if_icmp .ge 28 :: is) ls ((0, y) :: (0, x) :: st) h = ((y ≤ x → G fz d k 28 ls st h Q) ∧ (¬ (y ≤ x) → X fz d k Q is ls st h)) := rfl
theorem x_if_icmp_ge_3 {fz : Int → Int → Option Int} {d k : Nat} {Q : Int → HV → Prop} {is : List Instr} {h : HV} {ls st : List AV} {x y : Int} : X fz d k Q (.if_icmp .ge 3 :: is) ls ((0, y) :: (0, x) :: st) h = ((y ≤ x → G fz d k 3 ls st h Q) ∧ (¬ (y ≤ x) → X fz d k Q is ls st h)) := rfl
theorem x_if_icmp_ge_31 {fz : Int → Int → Option Int} {d k : Nat} {Q : Int → HV → Prop} {is : List Instr} {h : HV} {ls st : List AV} {x y : Int} : X fz d k Q (.if_icmp .ge 31 :: is) ls ((0, y) :: (0, x) :: st) h = ((y ≤ x → G fz d k 31 ls st h Q) ∧ (¬ (y ≤ x) → X fz d k Q is ls st h)) := rfl
theorem x_if_icmp_ge_34 {fz : Int → Int → Option Int} {d k : Nat} {Q : Int → HV → Prop} {is : List Instr} {h : HV} {ls st : List AV} {x y : Int} : X fz d k Q (.if_icmp .ge 34 :: is) ls ((0, y) :: (0, x) :: st) h = ((y ≤ x → G fz d k 34 ls st h Q) ∧ (¬ (y ≤ x) → X fz d k Q is ls st h)) := rfl
theorem x_if_icmp_ge_4 {fz : Int → Int → Option Int} {d k : Nat} {Q : Int → HV → Prop} {is : List Instr} {h : HV} {ls st : List AV} {x y : Int} : X fz d k Q (.if_icmp .ge 4 :: is) ls ((0, y) :: (0, x) :: st) h = ((y ≤ x → G fz d k 4 ls st h Q) ∧ (¬ (y ≤ x) → X fz d k Q is ls st h)) := rfl
theorem x_if_icmp_ge_5 {fz : Int → Int → Option Int} {d k : Nat} {Q : Int → HV → Prop} {is : List Instr} {h : HV} {ls st : List AV} {x y : Int} : X fz d k Q (.if_icmp .ge 5 :: is) ls ((0, y) :: (0, x) :: st) h = ((y ≤ x → G fz d k 5 ls st h Q) ∧ (¬ (y ≤ x) → X fz d k Q is ls st h)) := rfl
theorem x_if_icmp_ge_6 {fz : Int → Int → Option Int} {d k : Nat} {Q : Int → HV → Prop} {is : List Instr} {h : HV} {ls st : List AV} {x y : Int} : X fz d k Q (.if_icmp .ge 6 :: is) ls ((0, y) :: (0, x) :: st) h = ((y ≤ x → G fz d k 6 ls st h Q) ∧ (¬ (y ≤ x) → X fz d k Q is ls st h)) := rfl
theorem x_if_icmp_ge_7 {fz : Int → Int → Option Int} {d k : Nat} {Q : Int → HV → Prop} {is : List Instr} {h : HV} {ls st : List AV} {x y : Int} : X fz d k Q (.if_icmp .ge 7 :: is) ls ((0, y) :: (0, x) :: st) h = ((y ≤ x → G fz d k 7 ls st h Q) ∧ (¬ (y ≤ x) → X fz d k Q is ls st h)) := rfl
theorem x_if_icmp_ge_8 {fz : Int → Int → Option Int} {d k : Nat} {Q : Int → HV → Prop} {is : List Instr} {h : HV} {ls st : List AV} {x y : Int} : X fz d k Q (.if_icmp .ge 8 :: is) ls ((0, y) :: (0, x) :: st) h = ((y ≤ x → G fz d k 8 ls st h Q) ∧ (¬ (y ≤ x) → X fz d k Q is ls st h)) := rfl
theorem x_if_icmp_ge_9 {fz : Int → Int → Option Int} {d k : Nat} {Q : Int → HV → Prop} {is : List Instr} {h : HV} {ls st : List AV} {x y : Int} : X fz d k Q (.if_icmp .ge 9 :: is) ls ((0, y) :: (0, x) :: st) h = ((y ≤ x → G fz d k 9 ls st h Q) ∧ (¬ (y ≤ x) → X fz d k Q is ls st h)) := rfl
theorem x_if_icmp_gt_1 {fz : Int → Int → Option Int} {d k : Nat} {Q : Int → HV → Prop} {is : List Instr} {h : HV} {ls st : List AV} {x y : Int} : X fz d k Q (.if_icmp .gt 1 :: is) ls ((0, y) :: (0, x) :: st) h = ((y < x → G fz d k 1 ls st h Q) ∧ (¬ (y < x) → X fz d k Q is ls st h)) := rfl
theorem x_if_icmp_gt_12 {fz : Int → Int → Option Int} {d k : Nat} {Q : Int → HV → Prop} {is : List Instr} {h : HV} {ls st : List AV} {x y : Int} : X fz d k Q (.if_icmp .gt 12 :: is) ls ((0, y) :: (0, x) :: st) h = ((y < x → G fz d k 12 ls st h Q) ∧ (¬ (y < x) → X fz d k Q is ls st h)) := rfl
theorem x_if_icmp_gt_2 {fz : Int → Int → Option Int} {d k : Nat} {Q : Int → HV → Prop} {is : List Instr} {h : HV} {ls st : List AV} {x y : Int} : X fz d k Q (.if_icmp .gt 2 :: is) ls ((0, y) :: (0, x) :: st) h = ((y < x → G fz d k 2 ls st h Q) ∧ (¬ (y < x) → X fz d k Q is ls st h)) := rfl
theorem x_if_icmp_gt_23 {fz : Int → Int → Option Int} {d k : Nat} {Q : Int → HV → Prop} {is : List Instr} {h : HV} {ls st : List AV} {x y : Int} : X fz d k Q (.if_icmp .gt 23 :: is) ls ((0, y) :: (0, x) :: st) h = ((y < x → G fz d k 23 ls st h Q) ∧ (¬ (y < x) → X fz d k Q is ls st h)) := rfl
theorem x_if_icmp_gt_3 {fz : Int → Int → Option Int} {d k : Nat} {Q : Int → HV → Prop} {is : List Instr} {h : HV} {ls st : List AV} {x y : Int} : X fz d k Q (.if_icmp .gt 3 :: is) ls ((0, y) :: (0, x) :: st) h = ((y < x → G fz d k 3 ls st h Q) ∧ (¬ (y < x) → X fz d k Q is ls st h)) := rfl
theorem x_if_icmp_gt_33 {fz : Int → Int → Option Int} {d k : Nat} {Q : Int → HV → Prop} {is : List Instr} {h : HV} {ls st : List AV} {x y : Int} : X fz d k Q (.if_icmp .gt 33 :: is) ls ((0, y) :: (0, x) :: st) h = ((y < x → G fz d k 33 ls st h Q) ∧ (¬ (y < x) → X fz d k Q is ls st h)) := rfl
theorem x_if_icmp_gt_4 {fz : Int → Int → Option Int} {d k : Nat} {Q : Int → HV → Prop} {is : List Instr} {h : HV} {ls st : List AV} {x y : Int} : X fz d k Q (.if_icmp .gt 4 :: is) ls ((0, y) :: (0, x) :: st) h = ((y < x → G fz d k 4 ls st h Q) ∧ (¬ (y < x) → X fz d k Q is ls st h)) := rfl
theorem x_if_icmp_gt_9 {fz : Int → Int → Option Int} {d k : Nat} {Q : Int → HV → Prop} {is : List Instr} {h : HV} {ls st : List AV} {x y : Int} : X fz d k Q (.if_icmp .gt 9 :: is) ls ((0, y) :: (0, x) :: st) h = ((y < x → G fz d k 9 ls st h Q) ∧ (¬ (y < x) → X fz d k Q is ls st h)) := rfl
theorem x_if_icmp_le_10 {fz : Int → Int → Option Int} {d k : Nat} {Q : Int → HV → Prop} {is : List Instr} {h : HV} {ls st : List AV} {x y : Int} : X fz d k Q (.if_icmp .le 10 :: is) ls ((0, y) :: (0, x) :: st) h = ((x ≤ y → G fz d k 10 ls st h Q) ∧ (¬ (x ≤ y) → X fz d k Q is ls st h)) := rfl
theorem x_if_icmp_le_11 {fz : Int → Int → Option Int} {d k : Nat} {Q : Int → HV → Prop} {is : List Instr} {h : HV} {ls st : List AV} {x y : Int} : X fz d k Q (.if_icmp .le 11 :: is) ls ((0, y) :: (0, x) :: st) h = ((x ≤ y → G fz d k 11 ls st h Q) ∧ (¬ (x ≤ y) → X fz d k Q is ls st h)) := rfl
theorem x_if_icmp_le_13 {fz : Int → Int → Option Int} {d k : Nat} {Q : Int → HV → Prop} {is : List Instr} {h : HV} {ls st : List AV} {x y : Int} : X fz d k Q (.if_icmp .le 13 :: is) ls ((0, y) :: (0, x) :: st) h = ((x ≤ y → G fz d k 13 ls st h Q) ∧ (¬ (x ≤ y) → X fz d k Q is ls st h)) := rfl
theorem x_if_icmp_le_2 {fz : Int → Int → Option Int} {d k : Nat} {Q : Int → HV → Prop} {is : List Instr} {h : HV} {ls st : List AV} {x y : Int} : X fz d k Q (.if_icmp .le 2 :: is) ls ((0, y) :: (0, x) :: st) h = ((x ≤ y → G fz d k 2 ls st h Q) ∧ (¬ (x ≤ y) → X fz d k Q is ls st h)) := rfl
theorem x_if_icmp_le_24 {fz : Int → Int → Option Int} {d k : Nat} {Q : Int → HV → Prop} {is : List Instr} {h : HV} {ls st : List AV} {x y : Int} : X fz d k Q (.if_icmp .le 24 :: is) ls ((0, y) :: (0, x) :: st) h = ((x ≤ y → G fz d k 24 ls st h Q) ∧ (¬ (x ≤ y) → X fz d k Q is ls st h)) := rfl
theorem x_if_icmp_le_3 {fz : Int → Int → Option Int} {d k : Nat} {Q : Int → HV → Prop} {is : List Instr} {h : HV} {ls st : List AV} {x y : Int} : X fz d k Q (.if_icmp .le 3 :: is) ls ((0, y) :: (0, x) :: st) h = ((x ≤ y → G fz d k 3 ls st h Q) ∧ (¬ (x ≤ y) → X fz d k Q is ls st h)) := rfl
theorem x_if_icmp_le_4 {fz : Int → Int → Option Int} {d k : Nat} {Q : Int → HV → Prop} {is : List Instr} {h : HV} {ls st : List AV} {x y : Int} : X fz d k Q (.if_icmp .le 4 :: is) ls ((0, y) :: (0, x) :: st) h = ((x ≤ y → G fz d k 4 ls st h Q) ∧ (¬ (x ≤ y) → X fz d k Q is ls st h)) := rfl
theorem x_if_icmp_le_5 {fz : Int → Int → Option Int} {d k : Nat} {Q : Int → HV → Prop} {is : List Instr} {h : HV} {ls st : List AV} {x y : Int} : X fz d k Q (.if_icmp .le 5 :: is) ls ((0, y) :: (0, x) :: st) h = ((x ≤ y → G fz d k 5 ls st h Q) ∧ (¬ (x ≤ y) → X fz d k Q is ls st h)) := rfl
theorem x_if_icmp_le_7 {fz : Int → Int → Option Int} {d k : Nat} {Q : Int → HV → Prop} {is : List Instr} {h : HV} {ls st : List AV} {x y : Int} : X fz d k Q (.if_icmp .le 7 :: is) ls ((0, y) :: (0, x) :: st) h = ((x ≤ y → G fz d k 7 ls st h Q) ∧ (¬ (x ≤ y) → X fz d k Q is ls st h)) := rfl
theorem x_if_icmp_le_8 {fz : Int → Int → Option Int} {d k : Nat} {Q : Int → HV → Prop} {is : List Instr} {h : HV} {ls st : List AV} {x y : Int} : X fz d k Q (.if_icmp .le 8 :: is) ls ((0, y) :: (0, x) :: st) h = ((x ≤ y → G fz d k 8 ls st h Q) ∧ (¬ (x ≤ y) → X fz d k Q is ls st h)) := rfl
theorem x_if_icmp_lt_1 {fz : Int → Int → Option Int} {d k : Nat} {Q : Int → HV → Prop} {is : List Instr} {h : HV} {ls st : List AV} {x y : Int} : X fz d k Q (.if_icmp .lt 1 :: is) ls ((0, y) :: (0, x) :: st) h = ((x < y → G fz d k 1 ls st h Q) ∧ (¬ (x < y) → X fz d k Q is ls st h)) := rfl
theorem x_if_icmp_lt_11 {fz : Int → Int → Option Int} {d k : Nat} {Q : Int → HV → Prop} {is : List Instr} {h : HV} {ls st : List AV} {x y : Int} : X fz d k Q (.if_icmp .lt 11 :: is) ls ((0, y) :: (0, x) :: st) h = ((x < y → G fz d k 11 ls st h Q) ∧ (¬ (x < y) → X fz d k Q is ls st h)) := rfl
theorem x_if_icmp_lt_2 {fz : Int → Int → Option Int} {d k : Nat} {Q : Int → HV → Prop} {is : List Instr} {h : HV} {ls st : List AV} {x y : Int} : X fz d k Q (.if_icmp .lt 2 :: is) ls ((0, y) :: (0, x) :: st) h = ((x < y → G fz d k 2 ls st h Q) ∧ (¬ (x < y) → X fz d k Q is ls st h)) := rfl
theorem x_if_icmp_lt_3 {fz : Int → Int → Option Int} {d k : Nat} {Q : Int → HV → Prop} {is : List Instr} {h : HV} {ls st : List AV} {x y : Int} : X fz d k Q (.if_icmp .lt 3 :: is) ls ((0, y) :: (0, x) :: st) h = ((x < y → G fz d k 3 ls st h Q) ∧ (¬ (x < y) → X fz d k Q is ls st h)) := rfl
theorem x_if_icmp_lt_4 {fz : Int → Int → Option Int} {d k : Nat} {Q : Int → HV → Prop} {is : List Instr} {h : HV} {ls st : List AV} {x y : Int} : X fz d k Q (.if_icmp .lt 4 :: is) ls ((0, y) :: (0, x) :: st) h = ((x < y → G fz d k 4 ls st h Q) ∧ (¬ (x < y) → X fz d k Q is ls st h)) := rfl
theorem x_if_icmp_lt_5 {fz : Int → Int → Option Int} {d k : Nat} {Q : Int → HV → Prop} {is : List Instr} {h : HV} {ls st : List AV} {x y : Int} : X fz d k Q (.if_icmp .lt 5 :: is) ls ((0, y) :: (0, x) :: st) h = ((x < y → G fz d k 5 ls st h Q) ∧ (¬ (x < y) → X fz d k Q is ls st h)) := rfl
theorem x_if_icmp_lt_6 {fz : Int → Int → Option Int} {d k : Nat} {Q : Int → HV → Prop} {is : List Instr} {h : HV} {ls st : List AV} {x y : Int} : X fz d k Q (.if_icmp .lt 6 :: is) ls ((0, y) :: (0, x) :: st) h = ((x < y → G fz d k 6 ls st h Q) ∧ (¬ (x < y) → X fz d k Q is ls st h)) := rfl
theorem x_if_icmp_lt_7 {fz : Int → Int → Option Int} {d k : Nat} {Q : Int → HV → Prop} {is : List Instr} {h : HV} {ls st : List AV} {x y : Int} : X fz d k Q (.if_icmp .lt 7 :: is) ls ((0, y) :: (0, x) :: st) h = ((x < y → G fz d k 7 ls st h Q) ∧ (¬ (x < y) → X fz d k Q is ls st h)) := rfl
theorem x_if_icmp_ne_1 {fz : Int → Int → Option Int} {d k : Nat} {Q : Int → HV → Prop} {is : List Instr} {h : HV} {ls st : List AV} {x y : Int} : X fz d k Q (.if_icmp .ne 1 :: is) ls ((0, y) :: (0, x) :: st) h = ((x ≠ y → G fz d k 1 ls st h Q) ∧ (¬ (x ≠ y) → X fz d k Q is ls st h)) := rfl
theorem x_if_icmp_ne_10 {fz : Int → Int → Option Int} {d k : Nat} {Q : Int → HV → Prop} {is : List Instr} {h : HV} {ls st : List AV} {x y : Int} : X fz d k Q (.if_icmp .ne 10 :: is) ls ((0, y) :: (0, x) :: st) h = ((x ≠ y → G fz d k 10 ls st h Q) ∧ (¬ (x ≠ y) → X fz d k Q is ls st h)) := rfl
theorem x_if_icmp_ne_11 {fz : Int → Int → Option Int} {d k : Nat} {Q : Int → HV → Prop} {is : List Instr} {h : HV} {ls st : List AV} {x y : Int} : X fz d k Q (.if_icmp .ne 11 :: is) ls ((0, y) :: (0, x) :: st) h = ((x ≠ y → G fz d k 11 ls st h Q) ∧ (¬ (x ≠ y) → X fz d k Q is ls st h)) := rfl
theorem x_if_icmp_ne_12 {fz : Int → Int → Option Int} {d k : Nat} {Q : Int → HV → Prop} {is : List Instr} {h : HV} {ls st : List AV} {x y : Int} : X fz d k Q (.if_icmp .ne 12 :: is) ls ((0, y) :: (0, x) :: st) h = ((x ≠ y → G fz d k 12 ls st h Q) ∧ (¬ (x ≠ y) → X fz d k Q is ls st h)) := rfl
theorem x_if_icmp_ne_13 {fz : Int → Int → Option Int} {d k : Nat} {Q : Int → HV → Prop} {is : List Instr} {h : HV} {ls st : List AV} {x y : Int} : X fz d k Q (.if_icmp .ne 13 :: is) ls ((0, y) :: (0, x) :: st) h = ((x ≠ y → G fz d k 13 ls st h Q) ∧ (¬ (x ≠ y) → X fz d k Q is ls st h)) := rfl
theorem x_if_icmp_ne_14 {fz : Int → Int → Option Int} {d k : Nat} {Q : Int → HV → Prop} {is : List Instr} {h : HV} {ls st : List AV} {x y : Int} : X fz d k Q (.if_icmp .ne 14 :: is) ls ((0, y) :: (0, x) :: st) h = ((x ≠ y → G fz d k 14 ls st h Q) ∧ (¬ (x ≠ y) → X fz d k Q is ls st h)) := rfl
theorem x_if_icmp_ne_15 {fz : Int → Int → Option Int} {d k : Nat} {Q : Int → HV → Prop} {is : List Instr} {h : HV} {ls st : List AV} {x y : Int} : X fz d k Q (.if_icmp .ne 15 :: is) ls ((0, y) :: (0, x) :: st) h = ((x ≠ y → G fz d k 15 ls st h Q) ∧ (¬ (x ≠ y) → X fz d k Q is ls st h)) := rfl
theorem x_if_icmp_ne_16 {fz : Int → Int → Option Int} {d k : Nat} {Q : Int → HV → Prop} {is : List Instr} {h : HV} {ls st : List AV} {x y : Int} : X fz d k Q (.if_icmp .ne 16 :: is) ls ((0, y) :: (0, x) :: st) h = ((x ≠ y → G fz d k 16 ls st h Q) ∧ (¬ (x ≠ y) → X fz d k Q is ls st h)) := rfl
theorem x_if_icmp_ne_17 {fz : Int → Int → Option Int} {d k : Nat} {Q : Int → HV → Prop} {is : List Instr} {h : HV} {ls st : List AV} {x y : Int} : X fz d k Q (.if_icmp .ne 17 :: is) ls ((0, y) :: (0, x) :: st) h = ((x ≠ y → G fz d k 17 ls st h Q) ∧ (¬ (x ≠ y) → X fz d k Q is ls st h)) := rfl
theorem x_if_icmp_ne_18 {fz : Int → Int → Option Int} {d k : Nat} {Q : Int → HV → Prop} {is : List Instr} {h : HV} {ls st : List AV} {x y : Int} : X fz d k Q (.if_icmp .ne 18 :: is) ls ((0, y) :: (0, x) :: st) h = ((x ≠ y → G fz d k 18 ls st h Q) ∧ (¬ (x ≠ y) → X fz d k Q is ls st h)) := rfl
theorem x_if_icmp_ne_19 {fz : Int → Int → Option Int} {d k : Nat} {Q : Int → HV → Prop} {is : List Instr} {h : HV} {ls st : List AV} {x y : Int} : X fz d k Q (.if_icmp .ne 19 :: is) ls ((0, y) :: (0, x) :: st) h = ((x ≠ y → G fz d k 19 ls st h Q) ∧ (¬ (x ≠ y) → X fz d k Q is ls st h)) := rfl
theorem x_if_icmp_ne_2 {fz : Int → Int → Option Int} {d k : Nat} {Q : Int → HV → Prop} {is : List Instr} {h : HV} {ls st : List AV} {x y : Int} : X fz d k Q (.if_icmp .ne 2 :: is) ls ((0, y) :: (0, x) :: st) h = ((x ≠ y → G fz d k 2 ls st h Q) ∧ (¬ (x ≠ y) → X fz d k Q is ls st h)) := rfl
theorem x_if_icmp_ne_20 {fz : Int → Int → Option Int} {d k : Nat} {Q : Int → HV → Prop} {is : List Instr} {h : HV} {ls st : List AV} {x y : Int} : X fz d k Q (.if_icmp .ne 20 :: is) ls ((0, y) :: (0, x) :: st) h = ((x ≠ y → G fz d k 20 ls st h Q) ∧ (¬ (x ≠ y) → X fz d k Q is ls st h)) := rfl
theorem x_if_icmp_ne_21 {fz : Int → Int → Option Int} {d k : Nat} {Q : Int → HV → Prop} {is : List Instr} {h : HV} {ls st : List AV} {x y : Int} : X fz d k Q (.if_icmp .ne 21 :: is) ls ((0, y) :: (0, x) :: st) h = ((x ≠ y → G fz d k 21 ls st h Q) ∧ (¬ (x ≠ y) → X fz d k Q is ls st h)) := rfl
theorem x_if_icmp_ne_22 {fz : Int → Int → Option Int} {d k : Nat} {Q : Int → HV → Prop} {is : List Instr} {h : HV} {ls st : List AV} {x y : Int} : X fz d k Q (.if_icmp .ne 22 :: is) ls ((0, y) :: (0, x) :: st) h = ((x ≠ y → G fz d k 22 ls st h Q) ∧ (¬ (x ≠ y) → X fz d k Q is ls st h)) := rfl
theorem x_if_icmp_ne_24 {fz : Int → Int → Option Int} {d k : Nat} {Q : Int → HV → Prop} {is : List Instr} {h : HV} {ls st : List AV} {x y : Int} : X fz d k Q (.if_icmp .ne 24 :: is) ls ((0, y) :: (0, x) :: st) h = ((x ≠ y → G fz d k 24 ls st h Q) ∧ (¬ (x ≠ y) → X fz d k Q is ls st h)) := rfl
theorem x_if_icmp_ne_25 {fz : Int → Int → Option Int} {d k : Nat} {Q : Int → HV → Prop} {is : List Instr} {h : HV} {ls st : List AV} {x y : Int} : X fz d k Q (.if_icmp .ne 25 :: is) ls ((0, y) :: (0, x) :: st) h = ((x ≠ y → G fz d k 25 ls st h Q) ∧ (¬ (x ≠ y) → X fz d k Q is ls st h)) := rfl
theorem x_if_icmp_ne_26 {fz : Int → Int → Option Int} {d k : Nat} {Q : Int → HV → Prop} {is : List Instr} {h : HV} {ls st : List AV} {x y : Int} : X fz d k Q (.if_icmp .ne 26 :: is) ls ((0, y) :: (0, x) :: st) h = ((x ≠ y → G fz d k 26 ls st h Q) ∧ (¬ (x ≠ y) → X fz d k Q is ls st h)) := rfl
theorem x_if_icmp_ne_28 {fz : Int → Int → Option Int} {d k : Nat} {Q : Int → HV → Prop} {is : List Instr} {h : HV} {ls st : List AV} {x y : Int} : X fz d k Q (.if_icmp .ne 28 :: is) ls ((0, y) :: (0, x) :: st) h = ((x ≠ y → G fz d k 28 ls st h Q) ∧ (¬ (x ≠ y) → X fz d k Q is ls st h)) := rfl
theorem x_if_icmp_ne_29 {fz : Int → Int → Option Int} {d k : Nat} {Q : Int → HV → Prop} {is : List Instr} {h : HV} {ls st : List AV} {x y : Int} : X fz d k Q (.if_icmp .ne 29 :: is) ls ((0, y) :: (0, x) :: st) h = ((x ≠ y → G fz d k 29 ls st h Q) ∧ (¬ (x ≠ y) → X fz d k Q is ls st h)) := rfl
theorem x_if_icmp_ne_3 {fz : Int → Int → Option Int} {d k : Nat} {Q : Int → HV → Prop} {is : List Instr} {h : HV} {ls st : List AV} {x y : Int} : X fz d k Q (.if_icmp .ne 3 :: is) ls ((0, y) :: (0, x) :: st) h = ((x ≠ y → G fz d k 3 ls st h Q) ∧ (¬ (x ≠ y) → X fz d k Q is ls st h)) := rfl
theorem x_if_icmp_ne_30 {fz : Int → Int → Option Int} {d k : Nat} {Q : Int → HV → Prop} {is : List Instr} {h : HV} {ls st : List AV} {x y : Int} : X fz d k Q (.if_icmp .ne 30 :: is) ls ((0, y) :: (0, x) :: st) h = ((x ≠ y → G fz d k 30 ls st h Q) ∧ (¬ (x ≠ y) → X fz d k Q is ls st h)) := rfl
theorem x_if_icmp_ne_31 {fz : Int → Int → Option Int} {d k : Nat} {Q : Int → HV → Prop} {is : List Instr} {h : HV} {ls st : List AV} {x y : Int} : X fz d k Q (.if_icmp .ne 31 :: is) ls ((0, y) :: (0, x) :: st) h = ((x ≠ y → G fz d k 31 ls st h Q) ∧ (¬ (x ≠ y) → X fz d k Q is ls st h)) := rfl
theorem x_if_icmp_ne_32 {fz : Int → Int → Option Int} {d k : Nat} {Q : Int → HV → Prop} {is : List Instr} {h : HV} {ls st : List AV} {x y : Int} : X fz d k Q (.if_icmp .ne 32 :: is) ls ((0, y) :: (0, x) :: st) h = ((x ≠ y → G fz d k 32 ls st h Q) ∧ (¬ (x ≠ y) → X fz d k Q is ls st h)) := rfl
theorem x_if_icmp_ne_4 {fz : Int → Int → Option Int} {d k : Nat} {Q : Int → HV → Prop} {is : List Instr} {h : HV} {ls st : List AV} {x y : Int} : X fz d k Q (.if_icmp .ne 4 :: is) ls ((0, y) :: (0, x) :: st) h = ((x ≠ y → G fz d k 4 ls st h Q) ∧ (¬ (x ≠ y) → X fz d k Q is ls st h)) := rfl
theorem x_if_icmp_ne_5 {fz : Int → Int → Option Int} {d k : Nat} {Q : Int → HV → Prop} {is : List Instr} {h : HV} {ls st : List AV} {x y : Int} : X fz d k Q (.if_icmp .ne 5 :: is) ls ((0, y) :: (0, x) :: st) h = ((x ≠ y → G fz d k 5 ls st h Q) ∧ (¬ (x ≠ y) → X fz d k Q is ls st h)) := rfl
theorem x_if_icmp_ne_6 {fz : Int → Int → Option Int} {d k : Nat} {Q : Int → HV → Prop} {is : List Instr} {h : HV} {ls st : List AV} {x y : Int} : X fz d k Q (.if_icmp .ne 6 :: is) ls ((0, y) :: (0, x) :: st) h = ((x ≠ y → G fz d k 6 ls st h Q) ∧ (¬ (x ≠ y) → X fz d k Q is ls st h)) := rfl
theorem x_if_icmp_ne_7 {fz : Int → Int → Option Int} {d k : Nat} {Q : Int → HV → Prop} {is : List Instr} {h : HV} {ls st : List AV} {x y : Int} : X fz d k Q (.if_icmp .ne 7 :: is) ls ((0, y) :: (0, x) :: st) h = ((x ≠ y → G fz d k 7 ls st h Q) ∧ (¬ (x ≠ y) → X fz d k Q is ls st h)) := rfl
theorem x_if_icmp_ne_8 {fz : Int → Int → Option Int} {d k : Nat} {Q : Int → HV → Prop} {is : List Instr} {h : HV} {ls st : List AV} {x y : Int} : X fz d k Q (.if_icmp .ne 8 :: is) ls ((0, y) :: (0, x) :: st) h = ((x ≠ y → G fz d k 8 ls st h Q) ∧ (¬ (x ≠ y) → X fz d k Q is ls st h)) := rfl
theorem x_if_icmp_ne_9 {fz : Int → Int → Option Int} {d k : Nat} {Q : Int → HV → Prop} {is : List Instr} {h : HV} {ls st : List AV} {x y : Int} : X fz d k Q (.if_icmp .ne 9 :: is) ls ((0, y) :: (0, x) :: st) h = ((x ≠ y → G fz d k 9 ls st h Q) ∧ (¬ (x ≠ y) → X fz d k Q is ls st h)) := rfl
theorem x_iinc1 {fz : Int → Int → Option Int} {d k : Nat} {Q : Int → HV → Prop} {is : List Instr} {h : HV} {a0 : AV} {r st : List AV} {x v : Int} : X fz d k Q (.iinc 1 v :: is) (a0 :: (0, x) :: r) st h = X fz d k Q is (klp 0 a0 :: (0, w32 (x + v)) :: r) st h := rfl
theorem x_iinc10 {fz : Int → Int → Option Int} {d k : Nat} {Q : Int → HV → Prop} {is : List Instr} {h : HV} {a0 a1 a2 a3 a4 a5 a6 a7 a8 a9 : AV} {r st : List AV} {x v : Int} : X fz d k Q (.iinc 10 v :: is) (a0 :: a1 :: a2 :: a3 :: a4 :: a5 :: a6 :: a7 :: a8 :: a9 :: (0, x) :: r) st h = X fz d k Q is (a0 :: a1 :: a2 :: a3 :: a4 :: a5 :: a6 :: a7 :: a8 :: klp 0 a9 :: (0, w32 (x + v)) :: r) st h := rfl
theorem x_iinc11 {fz : Int → Int → Option Int} {d k : Nat} {Q : Int → HV → Prop} {is : List Instr} {h : HV} {a0 a1 a2 a3 a4 a5 a6 a7 a8 a9 a10 : AV} {r st : List AV} {x v : Int} : X fz d k Q (.iinc 11 v :: is) (a0 :: a1 :: a2 :: a3 :: a4 :: a5 :: a6 :: a7 :: a8 :: a9 :: a10 :: (0, x) :: r) st h = X fz d k Q is (a0 :: a1 :: a2 :: a3 :: a4 :: a5 :: a6 :: a7 :: a8 :: a9 :: klp 0 a10 :: (0, w32 (x + v)) :: r) st h := rfl
theorem x_iinc12 {fz : Int → Int → Option Int} {d k : Nat} {Q : Int → HV → Prop} {is : List Instr} {h : HV} {a0 a1 a2 a3 a4 a5 a6 a7 a8 a9 a10 a11 : AV} {r st : List AV} {x v : Int} : X fz d k Q (.iinc 12 v :: is) (a0 :: a1 :: a2 :: a3 :: a4 :: a5 :: a6 :: a7 :: a8 :: a9 :: a10 :: a11 :: (0, x) :: r) st h = X fz d k Q is (a0 :: a1 :: a2 :: a3 :: a4 :: a5 :: a6 :: a7 :: a8 :: a9 :: a10 :: klp 0 a11 :: (0, w32 (x + v)) :: r) st h := rfl
theorem x_iinc2 {fz : Int → Int → Option Int} {d k : Nat} {Q : Int → HV → Prop} {is : List Instr} {h : HV} {a0 a1 : AV} {r st : List AV} {x v : Int} : X fz d k Q (.iinc 2 v :: is) (a0 :: a1 :: (0, x) :: r) st h = X fz d k Q is (a0 :: klp 0 a1 :: (0, w32 (x + v)) :: r) st h := rfl
theorem x_iinc3 {fz : Int → Int → Option Int} {d k : Nat} {Q : Int → HV → Prop} {is : List Instr} {h : HV} {a0 a1 a2 : AV} {r st : List AV} {x v : Int} : X fz d k Q (.iinc 3 v :: is) (a0 :: a1 :: a2 :: (0, x) :: r) st h = X fz d k Q is (a0 :: a1 :: klp 0 a2 :: (0, w32 (x + v)) :: r) st h := rfl
theorem x_iinc4 {fz : Int → Int → Option Int} {d k : Nat} {Q : Int → HV → Prop} {is : List Instr} {h : HV} {a0 a1 a2 a3 : AV} {r st : List AV} {x v : Int} : X fz d k Q (.iinc 4 v :: is) (a0 :: a1 :: a2 :: a3 :: (0, x) :: r) st h = X fz d k Q is (a0 :: a1 :: a2 :: klp 0 a3 :: (0, w32 (x + v)) :: r) st h := rfl
theorem x_iinc5 {fz : Int → Int → Option Int} {d k : Nat} {Q : Int → HV → Prop} {is : List Instr} {h : HV} {a0 a1 a2 a3 a4 : AV} {r st : List AV} {x v : Int} : X fz d k Q (.iinc 5 v :: is) (a0 :: a1 :: a2 :: a3 :: a4 :: (0, x) :: r) st h = X fz d k Q is (a0 :: a1 :: a2 :: a3 :: klp 0 a4 :: (0, w32 (x + v)) :: r) st h := rfl
theorem x_iinc6 {fz : Int → Int → Option Int} {d k : Nat} {Q : Int → HV → Prop} {is : List Instr} {h : HV} {a0 a1 a2 a3 a4 a5 : AV} {r st : List AV} {x v : Int} : X fz d k Q (.iinc 6 v :: is) (a0 :: a1 :: a2 :: a3 :: a4 :: a5 :: (0, x) :: r) st h = X fz d k Q is (a0 :: a1 :: a2 :: a3 :: a4 :: klp 0 a5 :: (0, w32 (x + v)) :: r) st h := rfl
theorem x_iinc7 {fz : Int → Int → Option Int} {d k : Nat} {Q : Int → HV → Prop} {is : List Instr} {h : HV} {a0 a1 a2 a3 a4 a5 a6 : AV} {r st : List AV} {x v : Int} : X fz d k Q (.iinc 7 v :: is) (a0 :: a1 :: a2 :: a3 :: a4 :: a5 :: a6 :: (0, x) :: r) st h = X fz d k Q is (a0 :: a1 :: a2 :: a3 :: a4 :: a5 :: klp 0 a6 :: (0, w32 (x + v)) :: r) st h := rfl
theorem x_iinc8 {fz : Int → Int → Option Int} {d k : Nat} {Q : Int → HV → Prop} {is : List Instr} {h : HV} {a0 a1 a2 a3 a4 a5 a6 a7 : AV} {r st : List AV} {x v : Int} : X fz d k Q (.iinc 8 v :: is) (a0 :: a1 :: a2 :: a3 :: a4 :: a5 :: a6 :: a7 :: (0, x) :: r) st h = X fz d k Q is (a0 :: a1 :: a2 :: a3 :: a4 :: a5 :: a6 :: klp 0 a7 :: (0, w32 (x + v)) :: r) st h := rfl
theorem x_iinc9 {fz : Int → Int → Option Int} {d k : Nat} {Q : Int → HV → Prop} {is : List Instr} {h : HV} {a0 a1 a2 a3 a4 a5 a6 a7 a8 : AV} {r st : List AV} {x v : Int} : X fz d k Q (.iinc 9 v :: is) (a0 :: a1 :: a2 :: a3 :: a4 :: a5 :: a6 :: a7 :: a8 :: (0, x) :: r) st h = X fz d k Q is (a0 :: a1 :: a2 :: a3 :: a4 :: a5 :: a6 :: a7 :: klp 0 a8 :: (0, w32 (x + v)) :: r) st h := rfl
theorem x_iload0 {fz : Int → Int → Option Int} {d k : Nat} {Q : Int → HV → Prop} {is : List Instr} {h : HV} {r st : List AV} {x : Int} : X fz d k Q (.iload 0 :: is) ((0, x) :: r) st h = X fz d k Q is ((0, x) :: r) ((0, x) :: st) h := rfl
theorem x_iload1 {fz : Int → Int → Option Int} {d k : Nat} {Q : Int → HV → Prop} {is : List Instr} {h : HV} {a0 : AV} {r st : List AV} {x : Int} : X fz d k Q (.iload 1 :: is) (a0 :: (0, x) :: r) st h = X fz d k Q is (a0 :: (0, x) :: r) ((0, x) :: st) h := rfl
theorem x_iload10 {fz : Int → Int → Option Int} {d k : Nat} {Q : Int → HV → Prop} {is : List Instr} {h : HV} {a0 a1 a2 a3 a4 a5 a6 a7 a8 a9 : AV} {r st : List AV} {x : Int} : X fz d k Q (.iload 10 :: is) (a0 :: a1 :: a2 :: a3 :: a4 :: a5 :: a6 :: a7 :: a8 :: a9 :: (0, x) :: r) st h = X fz d k Q is (a0 :: a1 :: a2 :: a3 :: a4 :: a5 :: a6 :: a7 :: a8 :: a9 :: (0, x) :: r) ((0, x) :: st) h := rfl
theorem x_iload11 {fz : Int → Int → Option Int} {d k : Nat} {Q : Int → HV → Prop} {is : List Instr} {h : HV} {a0 a1 a2 a3 a4 a5 a6 a7 a8 a9 a10 : AV} {r st : List AV} {x : Int} : X fz d k Q (.iload 11 :: is) (a0 :: a1 :: a2 :: a3 :: a4 :: a5 :: a6 :: a7 :: a8 :: a9 :: a10 :: (0, x) :: r) st h = X fz d k Q is (a0 :: a1 :: a2 :: a3 :: a4 :: a5 :: a6 :: a7 :: a8 :: a9 :: a10 :: (0, x) :: r) ((0, x) :: st) h := rfl
theorem x_iload12 {fz : Int → Int → Option Int} {d k : Nat} {Q : Int → HV → Prop} {is : List Instr} {h : HV} {a0 a1 a2 a3 a4 a5 a6 a7 a8 a9 a10 a11 : AV} {r st : List AV} {x : Int} : X fz d k Q (.iload 12 :: is) (a0 :: a1 :: a2 :: a3 :: a4 :: a5 :: a6 :: a7 :: a8 :: a9 :: a10 :: a11 :: (0, x) :: r) st h = X fz d k Q is (a0 :: a1 :: a2 :: a3 :: a4 :: a5 :: a6 :: a7 :: a8 :: a9 :: a10 :: a11 :: (0, x) :: r) ((0, x) :: st) h := rfl
theorem x_iload16 {fz : Int → Int → Option Int} {d k : Nat} {Q : Int → HV → Prop} {is : List Instr} {h : HV} {a0 a1 a2 a3 a4 a5 a6 a7 a8 a9 a10 a11 a12 a13 a14 a15 : AV} {r st : List AV} {x : Int} : X fz d k Q (.iload 16 :: is) (a0 :: a1 :: a2 :: a3 :: a4 :: a5 :: a6 :: a7 :: a8 :: a9 :: a10 :: a11 :: a12 :: a13 :: a14 :: a15 :: (0, x) :: r) st h = X fz d k Q is (a0 :: a1 :: a2 :: a3 :: a4 :: a5 :: a6 :: a7 :: a8 :: a9 :: a10 :: a11 :: a12 :: a13 :: a14 :: a15 :: (0, x) :: r) ((0, x) :: st) h := rfl
theorem x_iload2 {fz : Int → Int → Option Int} {d k : Nat} {Q : Int → HV → Prop} {is : List Instr} {h : HV} {a0 a1 : AV} {r st : List AV} {x : Int} : X fz d k Q (.iload 2 :: is) (a0 :: a1 :: (0, x) :: r) st h = X fz d k Q is (a0 :: a1 :: (0, x) :: r) ((0, x) :: st) h := rfl
theorem x_iload3 {fz : Int → Int → Option Int} {d k : Nat} {Q : Int → HV → Prop} {is : List Instr} {h : HV} {a0 a1 a2 : AV} {r st : List AV} {x : Int} : X fz d k Q (.iload 3 :: is) (a0 :: a1 :: a2 :: (0, x) :: r) st h = X fz d k Q is (a0 :: a1 :: a2 :: (0, x) :: r) ((0, x) :: st) h := rfl
theorem x_iload4 {fz : Int → Int → Option Int} {d k : Nat} {Q : Int → HV → Prop} {is : List Instr} {h : HV} {a0 a1 a2 a3 : AV} {r st : List AV} {x : Int} : X fz d k Q (.iload 4 :: is) (a0 :: a1 :: a2 :: a3 :: (0, x) :: r) st h = X fz d k Q is (a0 :: a1 :: a2 :: a3 :: (0, x) :: r) ((0, x) :: st) h := rfl
theorem x_iload5 {fz : Int → Int → Option Int} {d k : Nat} {Q : Int → HV → Prop} {is : List Instr} {h : HV} {a0 a1 a2 a3 a4 : AV} {r st : List AV} {x : Int} : X fz d k Q (.iload 5 :: is) (a0 :: a1 :: a2 :: a3 :: a4 :: (0, x) :: r) st h = X fz d k Q is (a0 :: a1 :: a2 :: a3 :: a4 :: (0, x) :: r) ((0, x) :: st) h := rfl
theorem x_iload6 {fz : Int → Int → Option Int} {d k : Nat} {Q : Int → HV → Prop} {is : List Instr} {h : HV} {a0 a1 a2 a3 a4 a5 : AV} {r st : List AV} {x : Int} : X fz d k Q (.iload 6 :: is) (a0 :: a1 :: a2 :: a3 :: a4 :: a5 :: (0, x) :: r) st h = X fz d k Q is (a0 :: a1 :: a2 :: a3 :: a4 :: a5 :: (0, x) :: r) ((0, x) :: st) h := rfl
theorem x_iload7 {fz : Int → Int → Option Int} {d k : Nat} {Q : Int → HV → Prop} {is : List Instr} {h : HV} {a0 a1 a2 a3 a4 a5 a6 : AV} {r st : List AV} {x : Int} : X fz d k Q (.iload 7 :: is) (a0 :: a1 :: a2 :: a3 :: a4 :: a5 :: a6 :: (0, x) :: r) st h = X fz d k Q is (a0 :: a1 :: a2 :: a3 :: a4 :: a5 :: a6 :: (0, x) :: r) ((0, x) :: st) h := rfl
theorem x_iload8 {fz : Int → Int → Option Int} {d k : Nat} {Q : Int → HV → Prop} {is : List Instr} {h : HV} {a0 a1 a2 a3 a4 a5 a6 a7 : AV} {r st : List AV} {x : Int} : X fz d k Q (.iload 8 :: is) (a0 :: a1 :: a2 :: a3 :: a4 :: a5 :: a6 :: a7 :: (0, x) :: r) st h = X fz d k Q is (a0 :: a1 :: a2 :: a3 :: a4 :: a5 :: a6 :: a7 :: (0, x) :: r) ((0, x) :: st) h := rfl
theorem x_iload9 {fz : Int → Int → Option Int} {d k : Nat} {Q : Int → HV → Prop} {is : List Instr} {h : HV} {a0 a1 a2 a3 a4 a5 a6 a7 a8 : AV} {r st : List AV} {x : Int} : X fz d k Q (.iload 9 :: is) (a0 :: a1 :: a2 :: a3 :: a4 :: a5 :: a6 :: a7 :: a8 :: (0, x) :: r) st h = X fz d k Q is (a0 :: a1 :: a2 :: a3 :: a4 :: a5 :: a6 :: a7 :: a8 :: (0, x) :: r) ((0, x) :: st) h := rfl
theorem x_imax {fz : Int → Int → Option Int} {d k : Nat} {Q : Int → HV → Prop} {is : List Instr} {h : HV} {ls st : List AV} {x y : Int} : X fz d k Q (.dup_x1 :: is) ls ((0, y) :: (0, x) :: st) h = (wds st ≤ 8 ∧ X fz d k Q is ls ((0, max x y) :: st) h) := rfl
theorem x_imin {fz : Int → Int → Option Int} {d k : Nat} {Q : Int → HV → Prop} {is : List Instr} {h : HV} {ls st : List AV} {x y : Int} : X fz d k Q (.dup_x2 :: is) ls ((0, y) :: (0, x) :: st) h = (wds st ≤ 8 ∧ X fz d k Q is ls ((0, min x y) :: st) h) := rfl
theorem x_imul {fz : Int → Int → Option Int} {d k : Nat} {Q : Int → HV → Prop} {is : List Instr} {h : HV} {ls st : List AV} {x y : Int} : X fz d k Q (.imul :: is) ls ((0, y) :: (0, x) :: st) h = X fz d k Q is ls ((0, w32 (x * y)) :: st) h := rfl
theorem x_ineg {fz : Int → Int → Option Int} {d k : Nat} {Q : Int → HV → Prop} {is : List Instr} {h : HV} {ls st : List AV} {x : Int} : X fz d k Q (.ineg :: is) ls ((0, x) :: st) h = X fz d k Q is ls ((0, w32 (-x)) :: st) h := rfl
theorem x_ior {fz : Int → Int → Option Int} {d k : Nat} {Q : Int → HV → Prop} {is : List Instr} {h : HV} {ls st : List AV} {x y : Int} : X fz d k Q (.ior :: is) ls ((0, y) :: (0, x) :: st) h = X fz d k Q is ls ((0, i_or x y) :: st) h := rfl
theorem x_irem {fz : Int → Int → Option Int} {d k : Nat} {Q : Int → HV → Prop} {is : List Instr} {h : HV} {ls st : List AV} {x y : Int} : X fz d k Q (.irem :: is) ls ((0, y) :: (0, x) :: st) h = (y ≠ 0 ∧ X fz d k Q is ls ((0, Int.tmod x y) :: st) h) := rfl
theorem x_ireturn {fz : Int → Int → Option Int} {d k : Nat} {Q : Int → HV → Prop} {is : List Instr} {h : HV} {ls : List AV} {x : Int} : X fz d k Q (.ireturn :: is) ls [(0, x)] h = Q x h := rfl
theorem x_ishl {fz : Int → Int → Option Int} {d k : Nat} {Q : Int → HV → Prop} {is : List Instr} {h : HV} {ls st : List AV} {x y : Int} : X fz d k Q (.ishl :: is) ls ((0, y) :: (0, x) :: st) h = X fz d k Q is ls ((0, i_shl x y) :: st) h := rfl
theorem x_ishr {fz : Int → Int → Option Int} {d k : Nat} {Q : Int → HV → Prop} {is : List Instr} {h : HV} {ls st : List AV} {x y : Int} : X fz d k Q (.ishr :: is) ls ((0, y) :: (0, x) :: st) h = X fz d k Q is ls ((0, i_shr x y) :: st) h := rfl
theorem x_istore1 {fz : Int → Int → Option Int} {d k : Nat} {Q : Int → HV → Prop} {is : List Instr} {h : HV} {a0 : AV} {b : AV} {r st : List AV} {x : Int} : X fz d k Q (.istore 1 :: is) (a0 :: b :: r) ((0, x) :: st) h = X fz d k Q is (klp 0 a0 :: (0, x) :: r) st h := rfl
theorem x_istore10 {fz : Int → Int → Option Int} {d k : Nat} {Q : Int → HV → Prop} {is : List Instr} {h : HV} {a0 a1 a2 a3 a4 a5 a6 a7 a8 a9 : AV} {b : AV} {r st : List AV} {x : Int} : X fz d k Q (.istore 10 :: is) (a0 :: a1 :: a2 :: a3 :: a4 :: a5 :: a6 :: a7 :: a8 :: a9 :: b :: r) ((0, x) :: st) h = X fz d k Q is (a0 :: a1 :: a2 :: a3 :: a4 :: a5 :: a6 :: a7 :: a8 :: klp 0 a9 :: (0, x) :: r) st h := rfl
theorem x_istore11 {fz : Int → Int → Option Int} {d k : Nat} {Q : Int → HV → Prop} {is : List Instr} {h : HV} {a0 a1 a2 a3 a4 a5 a6 a7 a8 a9 a10 : AV} {b : AV} {r st : List AV} {x : Int} : X fz d k Q (.istore 11 :: is) (a0 :: a1 :: a2 :: a3 :: a4 :: a5 :: a6 :: a7 :: a8 :: a9 :: a10 :: b :: r) ((0, x) :: st) h = X fz d k Q is (a0 :: a1 :: a2 :: a3 :: a4 :: a5 :: a6 :: a7 :: a8 :: a9 :: klp 0 a10 :: (0, x) :: r) st h := rfl
theorem x_istore12 {fz : Int → Int → Option Int} {d k : Nat} {Q : Int → HV → Prop} {is : List Instr} {h : HV} {a0 a1 a2 a3 a4 a5 a6 a7 a8 a9 a10 a11 : AV} {b : AV} {r st : List AV} {x : Int} : X fz d k Q (.istore 12 :: is) (a0 :: a1 :: a2 :: a3 :: a4 :: a5 :: a6 :: a7 :: a8 :: a9 :: a10 :: a11 :: b :: r) ((0, x) :: st) h = X fz d k Q is (a0 :: a1 :: a2 :: a3 :: a4 :: a5 :: a6 :: a7 :: a8 :: a9 :: a10 :: klp 0 a11 :: (0, x) :: r) st h := rfl
theorem x_istore16 {fz : Int → Int → Option Int} {d k : Nat} {Q : Int → HV → Prop} {is : List Instr} {h : HV} {a0 a1 a2 a3 a4 a5 a6 a7 a8 a9 a10 a11 a12 a13 a14 a15 : AV} {b : AV} {r st : List AV} {x : Int} : X fz d k Q (.istore 16 :: is) (a0 :: a1 :: a2 :: a3 :: a4 :: a5 :: a6 :: a7 :: a8 :: a9 :: a10 :: a11 :: a12 :: a13 :: a14 :: a15 :: b :: r) ((0, x) :: st) h = X fz d k Q is (a0 :: a1 :: a2 :: a3 :: a4 :: a5 :: a6 :: a7 :: a8 :: a9 :: a10 :: a11 :: a12 :: a13 :: a14 :: klp 0 a15 :: (0, x) :: r) st h := rfl
theorem x_istore2 {fz : Int → Int → Option Int} {d k : Nat} {Q : Int → HV → Prop} {is : List Instr} {h : HV} {a0 a1 : AV} {b : AV} {r st : List AV} {x : Int} : X fz d k Q (.istore 2 :: is) (a0 :: a1 :: b :: r) ((0, x) :: st) h = X fz d k Q is (a0 :: klp 0 a1 :: (0, x) :: r) st h := rfl
theorem x_istore3 {fz : Int → Int → Option Int} {d k : Nat} {Q : Int → HV → Prop} {is : List Instr} {h : HV} {a0 a1 a2 : AV} {b : AV} {r st : List AV} {x : Int} : X fz d k Q (.istore 3 :: is) (a0 :: a1 :: a2 :: b :: r) ((0, x) :: st) h = X fz d k Q is (a0 :: a1 :: klp 0 a2 :: (0, x) :: r) st h := rfl
theorem x_istore4 {fz : Int → Int → Option Int} {d k : Nat} {Q : Int → HV → Prop} {is : List Instr} {h : HV} {a0 a1 a2 a3 : AV} {b : AV} {r st : List AV} {x : Int} : X fz d k Q (.istore 4 :: is) (a0 :: a1 :: a2 :: a3 :: b :: r) ((0, x) :: st) h = X fz d k Q is (a0 :: a1 :: a2 :: klp 0 a3 :: (0, x) :: r) st h := rfl
theorem x_istore5 {fz : Int → Int → Option Int} {d k : Nat} {Q : Int → HV → Prop} {is : List Instr} {h : HV} {a0 a1 a2 a3 a4 : AV} {b : AV} {r st : List AV} {x : Int} : X fz d k Q (.istore 5 :: is) (a0 :: a1 :: a2 :: a3 :: a4 :: b :: r) ((0, x) :: st) h = X fz d k Q is (a0 :: a1 :: a2 :: a3 :: klp 0 a4 :: (0, x) :: r) st h := rfl
theorem x_istore6 {fz : Int → Int → Option Int} {d k : Nat} {Q : Int → HV → Prop} {is : List Instr} {h : HV} {a0 a1 a2 a3 a4 a5 : AV} {b : AV} {r st : List AV} {x : Int} : X fz d k Q (.istore 6 :: is) (a0 :: a1 :: a2 :: a3 :: a4 :: a5 :: b :: r) ((0, x) :: st) h = X fz d k Q is (a0 :: a1 :: a2 :: a3 :: a4 :: klp 0 a5 :: (0, x) :: r) st h := rfl
theorem x_istore7 {fz : Int → Int → Option Int} {d k : Nat} {Q : Int → HV → Prop} {is : List Instr} {h : HV} {a0 a1 a2 a3 a4 a5 a6 : AV} {b : AV} {r st : List AV} {x : Int} : X fz d k Q (.istore 7 :: is) (a0 :: a1 :: a2 :: a3 :: a4 :: a5 :: a6 :: b :: r) ((0, x) :: st) h = X fz d k Q is (a0 :: a1 :: a2 :: a3 :: a4 :: a5 :: klp 0 a6 :: (0, x) :: r) st h := rfl
theorem x_istore8 {fz : Int → Int → Option Int} {d k : Nat} {Q : Int → HV → Prop} {is : List Instr} {h : HV} {a0 a1 a2 a3 a4 a5 a6 a7 : AV} {b : AV} {r st : List AV} {x : Int} : X fz d k Q (.istore 8 :: is) (a0 :: a1 :: a2 :: a3 :: a4 :: a5 :: a6 :: a7 :: b :: r) ((0, x) :: st) h = X fz d k Q is (a0 :: a1 :: a2 :: a3 :: a4 :: a5 :: a6 :: klp 0 a7 :: (0, x) :: r) st h := rfl
theorem x_istore9 {fz : Int → Int → Option Int} {d k : Nat} {Q : Int → HV → Prop} {is : List Instr} {h : HV} {a0 a1 a2 a3 a4 a5 a6 a7 a8 : AV} {b : AV} {r st : List AV} {x : Int} : X fz d k Q (.istore 9 :: is) (a0 :: a1 :: a2 :: a3 :: a4 :: a5 :: a6 :: a7 :: a8 :: b :: r) ((0, x) :: st) h = X fz d k Q is (a0 :: a1 :: a2 :: a3 :: a4 :: a5 :: a6 :: a7 :: klp 0 a8 :: (0, x) :: r) st h := rfl
theorem x_isub {fz : Int → Int → Option Int} {d k : Nat} {Q : Int → HV → Prop} {is : List Instr} {h : HV} {ls st : List AV} {x y : Int} : X fz d k Q (.isub :: is) ls ((0, y) :: (0, x) :: st) h = X fz d k Q is ls ((0, w32 (x - y)) :: st) h := rfl
theorem x_iushr {fz : Int → Int → Option Int} {d k : Nat} {Q : Int → HV → Prop} {is : List Instr} {h : HV} {ls st : List AV} {x y : Int} : X fz d k Q (.iushr :: is) ls ((0, y) :: (0, x) :: st) h = X fz d k Q is ls ((0, i_ushr x y) :: st) h := rfl
theorem x_ixor {fz : Int → Int → Option Int} {d k : Nat} {Q : Int → HV → Prop} {is : List Instr} {h : HV} {ls st : List AV} {x y : Int} : X fz d k Q (.ixor :: is) ls ((0, y) :: (0, x) :: st) h = X fz d k Q is ls ((0, i_xor x y) :: st) h := rfl
theorem x_jsr {fz : Int → Int → Option Int} {d k : Nat} {Q : Int → HV → Prop} {is : List Instr} {h : HV} {ls st : List AV} {v : Int} : X fz d k Q (.jsr v :: is) ls st h = X fz d k Q is ls ((3, v) :: st) h := rfl
theorem x_l2d {fz : Int → Int → Option Int} {d k : Nat} {Q : Int → HV → Prop} {is : List Instr} {h : HV} {ls st : List AV} {x : Int} : X fz d k Q (.l2d :: is) ls ((1, x) :: st) h = X fz d k Q is ls ((2, d_I (FP.l2d (Int64.ofInt x))) :: st) h := rfl
theorem x_l2i {fz : Int → Int → Option Int} {d k : Nat} {Q : Int → HV → Prop} {is : List Instr} {h : HV} {ls st : List AV} {x : Int} : X fz d k Q (.l2i :: is) ls ((1, x) :: st) h = X fz d k Q is ls ((0, w32 x) :: st) h := rfl
theorem x_labs {fz : Int → Int → Option Int} {d k : Nat} {Q : Int → HV → Prop} {is : List Instr} {h : HV} {ls st : List AV} {x : Int} : X fz d k Q (.swap :: is) ls ((1, x) :: st) h = (wds st ≤ 8 ∧ X fz d k Q is ls ((1, max x (w64 (-x))) :: st) h) := rfl
theorem x_ladd {fz : Int → Int → Option Int} {d k : Nat} {Q : Int → HV → Prop} {is : List Instr} {h : HV} {ls st : List AV} {x y : Int} : X fz d k Q (.ladd :: is) ls ((1, y) :: (1, x) :: st) h = X fz d k Q is ls ((1, w64 (x + y)) :: st) h := rfl
theorem x_laload {fz : Int → Int → Option Int} {d k : Nat} {Q : Int → HV → Prop} {is : List Instr} {h : HV} {ls st : List AV} {o i : Int} : X fz d k Q (.laload :: is) ls ((0, i) :: (3, o) :: st) h = ((o % 64 = 33 ∧ 0 ≤ i ∧ i < rd fz h o (-1)) ∧ X fz d k Q is ls ((1, h o i) :: st) h) := rfl
theorem x_land {fz : Int → Int → Option Int} {d k : Nat} {Q : Int → HV → Prop} {is : List Instr} {h : HV} {ls st : List AV} {x y : Int} : X fz d k Q (.land :: is) ls ((1, y) :: (1, x) :: st) h = X fz d k Q is ls ((1, l_and x y) :: st) h := rfl
theorem x_lastore {fz : Int → Int → Option Int} {d k : Nat} {Q : Int → HV → Prop} {is : List Instr} {h : HV} {ls st : List AV} {o i x : Int} : X fz d k Q (.lastore :: is) ls ((1, x) :: (0, i) :: (3, o) :: st) h = ((o % 64 = 33 ∧ 0 ≤ i ∧ i < rd fz h o (-1)) ∧ X fz d k Q is ls st (hset h o i x)) := rfl
theorem x_lcmp {fz : Int → Int → Option Int} {d k : Nat} {Q : Int → HV → Prop} {is : List Instr} {h : HV} {ls st : List AV} {x y : Int} : X fz d k Q (.lcmp :: is) ls ((1, y) :: (1, x) :: st) h = X fz d k Q is ls ((0, l_cmp x y) :: st) h := rfl
theorem x_ldiv {fz : Int → Int → Option Int} {d k : Nat} {Q : Int → HV → Prop} {is : List Instr} {h : HV} {ls st : List AV} {x y : Int} : X fz d k Q (.ldiv :: is) ls ((1, y) :: (1, x) :: st) h = (y ≠ 0 ∧ X fz d k Q is ls ((1, w64 (Int.tdiv x y)) :: st) h) := rfl
theorem x_lload0 {fz : Int → Int → Option Int} {d k : Nat} {Q : Int → HV → Prop} {is : List Instr} {h : HV} {r st : List AV} {x : Int} : X fz d k Q (.lload 0 :: is) ((1, x) :: r) st h = X fz d k Q is ((1, x) :: r) ((1, x) :: st) h := rfl
theorem x_lload1 {fz : Int → Int → Option Int} {d k : Nat} {Q : Int → HV → Prop} {is : List Instr} {h : HV} {a0 : AV} {r st : List AV} {x : Int} : X fz d k Q (.lload 1 :: is) (a0 :: (1, x) :: r) st h = X fz d k Q is (a0 :: (1, x) :: r) ((1, x) :: st) h := rfl
theorem x_lload10 {fz : Int → Int → Option Int} {d k : Nat} {Q : Int → HV → Prop} {is : List Instr} {h : HV} {a0 a1 a2 a3 a4 a5 a6 a7 a8 a9 : AV} {r st : List AV} {x : Int} : X fz d k Q (.lload 10 :: is) (a0 :: a1 :: a2 :: a3 :: a4 :: a5 :: a6 :: a7 :: a8 :: a9 :: (1, x) :: r) st h = X fz d k Q is (a0 :: a1 :: a2 :: a3 :: a4 :: a5 :: a6 :: a7 :: a8 :: a9 :: (1, x) :: r) ((1, x) :: st) h := rfl
theorem x_lload12 {fz : Int → Int → Option Int} {d k : Nat} {Q : Int → HV → Prop} {is : List Instr} {h : HV} {a0 a1 a2 a3 a4 a5 a6 a7 a8 a9 a10 a11 : AV} {r st : List AV} {x : Int} : X fz d k Q (.lload 12 :: is) (a0 :: a1 :: a2 :: a3 :: a4 :: a5 :: a6 :: a7 :: a8 :: a9 :: a10 :: a11 :: (1, x) :: r) st h = X fz d k Q is (a0 :: a1 :: a2 :: a3 :: a4 :: a5 :: a6 :: a7 :: a8 :: a9 :: a10 :: a11 :: (1, x) :: r) ((1, x) :: st) h := rfl
theorem x_lload14 {fz : Int → Int → Option Int} {d k : Nat} {Q : Int → HV → Prop} {is : List Instr} {h : HV} {a0 a1 a2 a3 a4 a5 a6 a7 a8 a9 a10 a11 a12 a13 : AV} {r st : List AV} {x : Int} : X fz d k Q (.lload 14 :: is) (a0 :: a1 :: a2 :: a3 :: a4 :: a5 :: a6 :: a7 :: a8 :: a9 :: a10 :: a11 :: a12 :: a13 :: (1, x) :: r) st h = X fz d k Q is (a0 :: a1 :: a2 :: a3 :: a4 :: a5 :: a6 :: a7 :: a8 :: a9 :: a10 :: a11 :: a12 :: a13 :: (1, x) :: r) ((1, x) :: st) h := rfl
theorem x_lload2 {fz : Int → Int → Option Int} {d k : Nat} {Q : Int → HV → Prop} {is : List Instr} {h : HV} {a0 a1 : AV} {r st : List AV} {x : Int} : X fz d k Q (.lload 2 :: is) (a0 :: a1 :: (1, x) :: r) st h = X fz d k Q is (a0 :: a1 :: (1, x) :: r) ((1, x) :: st) h := rfl
theorem x_lload3 {fz : Int → Int → Option Int} {d k : Nat} {Q : Int → HV → Prop} {is : List Instr} {h : HV} {a0 a1 a2 : AV} {r st : List AV} {x : Int} : X fz d k Q (.lload 3 :: is) (a0 :: a1 :: a2 :: (1, x) :: r) st h = X fz d k Q is (a0 :: a1 :: a2 :: (1, x) :: r) ((1, x) :: st) h := rfl
theorem x_lload4 {fz : Int → Int → Option Int} {d k : Nat} {Q : Int → HV → Prop} {is : List Instr} {h : HV} {a0 a1 a2 a3 : AV} {r st : List AV} {x : Int} : X fz d k Q (.lload 4 :: is) (a0 :: a1 :: a2 :: a3 :: (1, x) :: r) st h = X fz d k Q is (a0 :: a1 :: a2 :: a3 :: (1, x) :: r) ((1, x) :: st) h := rfl
theorem x_lload5 {fz : Int → Int → Option Int} {d k : Nat} {Q : Int → HV → Prop} {is : List Instr} {h : HV} {a0 a1 a2 a3 a4 : AV} {r st : List AV} {x : Int} : X fz d k Q (.lload 5 :: is) (a0 :: a1 :: a2 :: a3 :: a4 :: (1, x) :: r) st h = X fz d k Q is (a0 :: a1 :: a2 :: a3 :: a4 :: (1, x) :: r) ((1, x) :: st) h := rfl
theorem x_lload6 {fz : Int → Int → Option Int} {d k : Nat} {Q : Int → HV → Prop} {is : List Instr} {h : HV} {a0 a1 a2 a3 a4 a5 : AV} {r st : List AV} {x : Int} : X fz d k Q (.lload 6 :: is) (a0 :: a1 :: a2 :: a3 :: a4 :: a5 :: (1, x) :: r) st h = X fz d k Q is (a0 :: a1 :: a2 :: a3 :: a4 :: a5 :: (1, x) :: r) ((1, x) :: st) h := rfl
theorem x_lload7 {fz : Int → Int → Option Int} {d k : Nat} {Q : Int → HV → Prop} {is : List Instr} {h : HV} {a0 a1 a2 a3 a4 a5 a6 : AV} {r st : List AV} {x : Int} : X fz d k Q (.lload 7 :: is) (a0 :: a1 :: a2 :: a3 :: a4 :: a5 :: a6 :: (1, x) :: r) st h = X fz d k Q is (a0 :: a1 :: a2 :: a3 :: a4 :: a5 :: a6 :: (1, x) :: r) ((1, x) :: st) h := rfl
theorem x_lload8 {fz : Int → Int → Option Int} {d k : Nat} {Q : Int → HV → Prop} {is : List Instr} {h : HV} {a0 a1 a2 a3 a4 a5 a6 a7 : AV} {r st : List AV} {x : Int} : X fz d k Q (.lload 8 :: is) (a0 :: a1 :: a2 :: a3 :: a4 :: a5 :: a6 :: a7 :: (1, x) :: r) st h = X fz d k Q is (a0 :: a1 :: a2 :: a3 :: a4 :: a5 :: a6 :: a7 :: (1, x) :: r) ((1, x) :: st) h := rfl
theorem x_lload9 {fz : Int → Int → Option Int} {d k : Nat} {Q : Int → HV → Prop} {is : List Instr} {h : HV} {a0 a1 a2 a3 a4 a5 a6 a7 a8 : AV} {r st : List AV} {x : Int} : X fz d k Q (.lload 9 :: is) (a0 :: a1 :: a2 :: a3 :: a4 :: a5 :: a6 :: a7 :: a8 :: (1, x) :: r) st h = X fz d k Q is (a0 :: a1 :: a2 :: a3 :: a4 :: a5 :: a6 :: a7 :: a8 :: (1, x) :: r) ((1, x) :: st) h := rfl
theorem x_lmax {fz : Int → Int → Option Int} {d k : Nat} {Q : Int → HV → Prop} {is : List Instr} {h : HV} {ls st : List AV} {x y : Int} : X fz d k Q (.dup2_x1 :: is) ls ((1, y) :: (1, x) :: st) h = (wds st ≤ 8 ∧ X fz d k Q is ls ((1, max x y) :: st) h) := rfl
theorem x_lmin {fz : Int → Int → Option Int} {d k : Nat} {Q : Int → HV → Prop} {is : List Instr} {h : HV} {ls st : List AV} {x y : Int} : X fz d k Q (.dup2_x2 :: is) ls ((1, y) :: (1, x) :: st) h = (wds st ≤ 8 ∧ X fz d k Q is ls ((1, min x y) :: st) h) := rfl
theorem x_lmul {fz : Int → Int → Option Int} {d k : Nat} {Q : Int → HV → Prop} {is : List Instr} {h : HV} {ls st : List AV} {x y : Int} : X fz d k Q (.lmul :: is) ls ((1, y) :: (1, x) :: st) h = X fz d k Q is ls ((1, w64 (x * y)) :: st) h := rfl
theorem x_lneg {fz : Int → Int → Option Int} {d k : Nat} {Q : Int → HV → Prop} {is : List Instr} {h : HV} {ls st : List AV} {x : Int} : X fz d k Q (.lneg :: is) ls ((1, x) :: st) h = X fz d k Q is ls ((1, w64 (-x)) :: st) h := rfl
theorem x_lor {fz : Int → Int → Option Int} {d k : Nat} {Q : Int → HV → Prop} {is : List Instr} {h : HV} {ls st : List AV} {x y : Int} : X fz d k Q (.lor :: is) ls ((1, y) :: (1, x) :: st) h = X fz d k Q is ls ((1, l_or x y) :: st) h := rfl
theorem x_lrem {fz : Int → Int → Option Int} {d k : Nat} {Q : Int → HV → Prop} {is : List Instr} {h : HV} {ls st : List AV} {x y : Int} : X fz d k Q (.lrem :: is) ls ((1, y) :: (1, x) :: st) h = (y ≠ 0 ∧ X fz d k Q is ls ((1, Int.tmod x y) :: st) h) := rfl
theorem x_lreturn {fz : Int → Int → Option Int} {d k : Nat} {Q : Int → HV → Prop} {is : List Instr} {h : HV} {ls : List AV} {x : Int} : X fz d k Q (.lreturn :: is) ls [(1, x)] h = Q x h := rfl
theorem x_lshl {fz : Int → Int → Option Int} {d k : Nat} {Q : Int → HV → Prop} {is : List Instr} {h : HV} {ls st : List AV} {x y : Int} : X fz d k Q (.lshl :: is) ls ((0, y) :: (1, x) :: st) h = X fz d k Q is ls ((1, l_shl x y) :: st) h := rfl
theorem x_lshr {fz : Int → Int → Option Int} {d k : Nat} {Q : Int → HV → Prop} {is : List Instr} {h : HV} {ls st : List AV} {x y : Int} : X fz d k Q (.lshr :: is) ls ((0, y) :: (1, x) :: st) h = X fz d k Q is ls ((1, l_shr x y) :: st) h := rfl
theorem x_lstore1 {fz : Int → Int → Option Int} {d k : Nat} {Q : Int → HV → Prop} {is : List Instr} {h : HV} {a0 : AV} {b c : AV} {r st : List AV} {x : Int} : X fz d k Q (.lstore 1 :: is) (a0 :: b :: c :: r) ((1, x) :: st) h = X fz d k Q is (klp 0 a0 :: (1, x) :: (9, 0) :: r) st h := rfl
theorem x_lstore10 {fz : Int → Int → Option Int} {d k : Nat} {Q : Int → HV → Prop} {is : List Instr} {h : HV} {a0 a1 a2 a3 a4 a5 a6 a7 a8 a9 : AV} {b c : AV} {r st : List AV} {x : Int} : X fz d k Q (.lstore 10 :: is) (a0 :: a1 :: a2 :: a3 :: a4 :: a5 :: a6 :: a7 :: a8 :: a9 :: b :: c :: r) ((1, x) :: st) h = X fz d k Q is (a0 :: a1 :: a2 :: a3 :: a4 :: a5 :: a6 :: a7 :: a8 :: klp 0 a9 :: (1, x) :: (9, 0) :: r) st h := rfl
theorem x_lstore12 {fz : Int → Int → Option Int} {d k : Nat} {Q : Int → HV → Prop} {is : List Instr} {h : HV} {a0 a1 a2 a3 a4 a5 a6 a7 a8 a9 a10 a11 : AV} {b c : AV} {r st : List AV} {x : Int} : X fz d k Q (.lstore 12 :: is) (a0 :: a1 :: a2 :: a3 :: a4 :: a5 :: a6 :: a7 :: a8 :: a9 :: a10 :: a11 :: b :: c :: r) ((1, x) :: st) h = X fz d k Q is (a0 :: a1 :: a2 :: a3 :: a4 :: a5 :: a6 :: a7 :: a8 :: a9 :: a10 :: klp 0 a11 :: (1, x) :: (9, 0) :: r) st h := rfl
theorem x_lstore14 {fz : Int → Int → Option Int} {d k : Nat} {Q : Int → HV → Prop} {is : List Instr} {h : HV} {a0 a1 a2 a3 a4 a5 a6 a7 a8 a9 a10 a11 a12 a13 : AV} {b c : AV} {r st : List AV} {x : Int} : X fz d k Q (.lstore 14 :: is) (a0 :: a1 :: a2 :: a3 :: a4 :: a5 :: a6 :: a7 :: a8 :: a9 :: a10 :: a11 :: a12 :: a13 :: b :: c :: r) ((1, x) :: st) h = X fz d k Q is (a0 :: a1 :: a2 :: a3 :: a4 :: a5 :: a6 :: a7 :: a8 :: a9 :: a10 :: a11 :: a12 :: klp 0 a13 :: (1, x) :: (9, 0) :: r) st h := rfl
theorem x_lstore2 {fz : Int → Int → Option Int} {d k : Nat} {Q : Int → HV → Prop} {is : List Instr} {h : HV} {a0 a1 : AV} {b c : AV} {r st : List AV} {x : Int} : X fz d k Q (.lstore 2 :: is) (a0 :: a1 :: b :: c :: r) ((1, x) :: st) h = X fz d k Q is (a0 :: klp 0 a1 :: (1, x) :: (9, 0) :: r) st h := rfl
theorem x_lstore3 {fz : Int → Int → Option Int} {d k : Nat} {Q : Int → HV → Prop} {is : List Instr} {h : HV} {a0 a1 a2 : AV} {b c : AV} {r st : List AV} {x : Int} : X fz d k Q (.lstore 3 :: is) (a0 :: a1 :: a2 :: b :: c :: r) ((1, x) :: st) h = X fz d k Q is (a0 :: a1 :: klp 0 a2 :: (1, x) :: (9, 0) :: r) st h := rfl
theorem x_lstore4 {fz : Int → Int → Option Int} {d k : Nat} {Q : Int → HV → Prop} {is : List Instr} {h : HV} {a0 a1 a2 a3 : AV} {b c : AV} {r st : List AV} {x : Int} : X fz d k Q (.lstore 4 :: is) (a0 :: a1 :: a2 :: a3 :: b :: c :: r) ((1, x) :: st) h = X fz d k Q is (a0 :: a1 :: a2 :: klp 0 a3 :: (1, x) :: (9, 0) :: r) st h := rfl
theorem x_lstore5 {fz : Int → Int → Option Int} {d k : Nat} {Q : Int → HV → Prop} {is : List Instr} {h : HV} {a0 a1 a2 a3 a4 : AV} {b c : AV} {r st : List AV} {x : Int} : X fz d k Q (.lstore 5 :: is) (a0 :: a1 :: a2 :: a3 :: a4 :: b :: c :: r) ((1, x) :: st) h = X fz d k Q is (a0 :: a1 :: a2 :: a3 :: klp 0 a4 :: (1, x) :: (9, 0) :: r) st h := rfl
theorem x_lstore6 {fz : Int → Int → Option Int} {d k : Nat} {Q : Int → HV → Prop} {is : List Instr} {h : HV} {a0 a1 a2 a3 a4 a5 : AV} {b c : AV} {r st : List AV} {x : Int} : X fz d k Q (.lstore 6 :: is) (a0 :: a1 :: a2 :: a3 :: a4 :: a5 :: b :: c :: r) ((1, x) :: st) h = X fz d k Q is (a0 :: a1 :: a2 :: a3 :: a4 :: klp 0 a5 :: (1, x) :: (9, 0) :: r) st h := rfl
theorem x_lstore7 {fz : Int → Int → Option Int} {d k : Nat} {Q : Int → HV → Prop} {is : List Instr} {h : HV} {a0 a1 a2 a3 a4 a5 a6 : AV} {b c : AV} {r st : List AV} {x : Int} : X fz d k Q (.lstore 7 :: is) (a0 :: a1 :: a2 :: a3 :: a4 :: a5 :: a6 :: b :: c :: r) ((1, x) :: st) h = X fz d k Q is (a0 :: a1 :: a2 :: a3 :: a4 :: a5 :: klp 0 a6 :: (1, x) :: (9, 0) :: r) st h := rfl
theorem x_lstore8 {fz : Int → Int → Option Int} {d k : Nat} {Q : Int → HV → Prop} {is : List Instr} {h : HV} {a0 a1 a2 a3 a4 a5 a6 a7 : AV} {b c : AV} {r st : List AV} {x : Int} : X fz d k Q (.lstore 8 :: is) (a0 :: a1 :: a2 :: a3 :: a4 :: a5 :: a6 :: a7 :: b :: c :: r) ((1, x) :: st) h = X fz d k Q is (a0 :: a1 :: a2 :: a3 :: a4 :: a5 :: a6 :: klp 0 a7 :: (1, x) :: (9, 0) :: r) st h := rfl
theorem x_lstore9 {fz : Int → Int → Option Int} {d k : Nat} {Q : Int → HV → Prop} {is : List Instr} {h : HV} {a0 a1 a2 a3 a4 a5 a6 a7 a8 : AV} {b c : AV} {r st : List AV} {x : Int} : X fz d k Q (.lstore 9 :: is) (a0 :: a1 :: a2 :: a3 :: a4 :: a5 :: a6 :: a7 :: a8 :: b :: c :: r) ((1, x) :: st) h = X fz d k Q is (a0 :: a1 :: a2 :: a3 :: a4 :: a5 :: a6 :: a7 :: klp 0 a8 :: (1, x) :: (9, 0) :: r) st h := rfl
theorem x_lsub {fz : Int → Int → Option Int} {d k : Nat} {Q : Int → HV → Prop} {is : List Instr} {h : HV} {ls st : List AV} {x y : Int} : X fz d k Q (.lsub :: is) ls ((1, y) :: (1, x) :: st) h = X fz d k Q is ls ((1, w64 (x - y)) :: st) h := rfl
theorem x_lushr {fz : Int → Int → Option Int} {d k : Nat} {Q : Int → HV → Prop} {is : List Instr} {h : HV} {ls st : List AV} {x y : Int} : X fz d k Q (.lushr :: is) ls ((0, y) :: (1, x) :: st) h = X fz d k Q is ls ((1, l_ushr x y) :: st) h := rfl
theorem x_lxor {fz : Int → Int → Option Int} {d k : Nat} {Q : Int → HV → Prop} {is : List Instr} {h : HV} {ls st : List AV} {x y : Int} : X fz d k Q (.lxor :: is) ls ((1, y) :: (1, x) :: st) h = X fz d k Q is ls ((1, l_xor x y) :: st) h := rfl
theorem x_mna {fz : Int → Int → Option Int} {d k : Nat} {Q : Int → HV → Prop} {is : List Instr} {h : HV} {ls st : List AV} {n k0 : Int} : X fz d k Q (.multianewarray 37 2 :: is) ls ((0, k0) :: (0, n) :: st) h = ((0 ≤ n ∧ n ≤ 1000 ∧ 0 ≤ k0 ∧ k0 ≤ 1000 ∧ ∀ o i, h 0 0 ≤ o / 64 → fz o i = none) ∧ X fz d k Q is ls ((3, 64 * h 0 0 + 37) :: st) (alc2 h n k0)) := rfl
theorem x_new_0 {fz : Int → Int → Option Int} {d k : Nat} {Q : Int → HV → Prop} {is : List Instr} {h : HV} {ls st : List AV} : X fz d k Q (.goto_w 17 :: is) ls st h = ((∀ i, fz (64 * h 0 0 + 0) i = none) ∧ X fz d k Q is ls ((3, 64 * h 0 0 + 0) :: st) (alc h 0 0 17)) := rfl
theorem x_new_1 {fz : Int → Int → Option Int} {d k : Nat} {Q : Int → HV → Prop} {is : List Instr} {h : HV} {ls st : List AV} : X fz d k Q (.goto_w 138 :: is) ls st h = ((∀ i, fz (64 * h 0 0 + 1) i = none) ∧ X fz d k Q is ls ((3, 64 * h 0 0 + 1) :: st) (alc h 1 0 10)) := rfl
theorem x_new_10 {fz : Int → Int → Option Int} {d k : Nat} {Q : Int → HV → Prop} {is : List Instr} {h : HV} {ls st : List AV} : X fz d k Q (.goto_w 1298 :: is) ls st h = ((∀ i, fz (64 * h 0 0 + 10) i = none) ∧ X fz d k Q is ls ((3, 64 * h 0 0 + 10) :: st) (alc h 10 0 18)) := rfl
theorem x_new_11 {fz : Int → Int → Option Int} {d k : Nat} {Q : Int → HV → Prop} {is : List Instr} {h : HV} {ls st : List AV} : X fz d k Q (.goto_w 1503 :: is) ls st h = ((∀ i, fz (64 * h 0 0 + 11) i = none) ∧ X fz d k Q is ls ((3, 64 * h 0 0 + 11) :: st) (alc h 11 0 95)) := rfl
theorem x_new_12 {fz : Int → Int → Option Int} {d k : Nat} {Q : Int → HV → Prop} {is : List Instr} {h : HV} {ls st : List AV} : X fz d k Q (.goto_w 1561 :: is) ls st h = ((∀ i, fz (64 * h 0 0 + 12) i = none) ∧ X fz d k Q is ls ((3, 64 * h 0 0 + 12) :: st) (alc h 12 0 25)) := rfl
theorem x_new_2 {fz : Int → Int → Option Int} {d k : Nat} {Q : Int → HV → Prop} {is : List Instr} {h : HV} {ls st : List AV} : X fz d k Q (.goto_w 267 :: is) ls st h = ((∀ i, fz (64 * h 0 0 + 2) i = none) ∧ X fz d k Q is ls ((3, 64 * h 0 0 + 2) :: st) (alc h 2 0 11)) := rfl
theorem x_new_3 {fz : Int → Int → Option Int} {d k : Nat} {Q : Int → HV → Prop} {is : List Instr} {h : HV} {ls st : List AV} : X fz d k Q (.goto_w 388 :: is) ls st h = ((∀ i, fz (64 * h 0 0 + 3) i = none) ∧ X fz d k Q is ls ((3, 64 * h 0 0 + 3) :: st) (alc h 3 0 4)) := rfl
theorem x_new_32 {fz : Int → Int → Option Int} {d k : Nat} {Q : Int → HV → Prop} {is : List Instr} {h : HV} {ls st : List AV} {n : Int} : X fz d k Q (.newarray .int :: is) ls ((0, n) :: st) h = ((0 ≤ n ∧ n ≤ 67000000 ∧ ∀ i, fz (64 * h 0 0 + 32) i = none) ∧ X fz d k Q is ls ((3, 64 * h 0 0 + 32) :: st) (alc h 32 n n)) := rfl
theorem x_new_33 {fz : Int → Int → Option Int} {d k : Nat} {Q : Int → HV → Prop} {is : List Instr} {h : HV} {ls st : List AV} {n : Int} : X fz d k Q (.newarray .long :: is) ls ((0, n) :: st) h = ((0 ≤ n ∧ n ≤ 67000000 ∧ ∀ i, fz (64 * h 0 0 + 33) i = none) ∧ X fz d k Q is ls ((3, 64 * h 0 0 + 33) :: st) (alc h 33 n n)) := rfl
theorem x_new_34 {fz : Int → Int → Option Int} {d k : Nat} {Q : Int → HV → Prop} {is : List Instr} {h : HV} {ls st : List AV} {n : Int} : X fz d k Q (.newarray .double :: is) ls ((0, n) :: st) h = ((0 ≤ n ∧ n ≤ 67000000 ∧ ∀ i, fz (64 * h 0 0 + 34) i = none) ∧ X fz d k Q is ls ((3, 64 * h 0 0 + 34) :: st) (alc h 34 n n)) := rfl
theorem x_new_35 {fz : Int → Int → Option Int} {d k : Nat} {Q : Int → HV → Prop} {is : List Instr} {h : HV} {ls st : List AV} {n : Int} : X fz d k Q (.newarray .byte :: is) ls ((0, n) :: st) h = ((0 ≤ n ∧ n ≤ 67000000 ∧ ∀ i, fz (64 * h 0 0 + 35) i = none) ∧ X fz d k Q is ls ((3, 64 * h 0 0 + 35) :: st) (alc h 35 n n)) := rfl
theorem x_new_36 {fz : Int → Int → Option Int} {d k : Nat} {Q : Int → HV → Prop} {is : List Instr} {h : HV} {ls st : List AV} {n : Int} : X fz d k Q (.newarray .boolean :: is) ls ((0, n) :: st) h = ((0 ≤ n ∧ n ≤ 67000000 ∧ ∀ i, fz (64 * h 0 0 + 36) i = none) ∧ X fz d k Q is ls ((3, 64 * h 0 0 + 36) :: st) (alc h 36 n n)) := rfl
theorem x_new_38 {fz : Int → Int → Option Int} {d k : Nat} {Q : Int → HV → Prop} {is : List Instr} {h : HV} {ls st : List AV} {n : Int} : X fz d k Q (.anewarray 38 :: is) ls ((0, n) :: st) h = ((0 ≤ n ∧ n ≤ 67000000 ∧ ∀ i, fz (64 * h 0 0 + 38) i = none) ∧ X fz d k Q is ls ((3, 64 * h 0 0 + 38) :: st) (alc h 38 n n)) := rfl
theorem x_new_4 {fz : Int → Int → Option Int} {d k : Nat} {Q : Int → HV → Prop} {is : List Instr} {h : HV} {ls st : List AV} : X fz d k Q (.goto_w 517 :: is) ls st h = ((∀ i, fz (64 * h 0 0 + 4) i = none) ∧ X fz d k Q is ls ((3, 64 * h 0 0 + 4) :: st) (alc h 4 0 5)) := rfl
theorem x_new_5 {fz : Int → Int → Option Int} {d k : Nat} {Q : Int → HV → Prop} {is : List Instr} {h : HV} {ls st : List AV} : X fz d k Q (.goto_w 661 :: is) ls st h = ((∀ i, fz (64 * h 0 0 + 5) i = none) ∧ X fz d k Q is ls ((3, 64 * h 0 0 + 5) :: st) (alc h 5 0 21)) := rfl
theorem x_new_6 {fz : Int → Int → Option Int} {d k : Nat} {Q : Int → HV → Prop} {is : List Instr} {h : HV} {ls st : List AV} : X fz d k Q (.goto_w 771 :: is) ls st h = ((∀ i, fz (64 * h 0 0 + 6) i = none) ∧ X fz d k Q is ls ((3, 64 * h 0 0 + 6) :: st) (alc h 6 0 3)) := rfl
theorem x_new_7 {fz : Int → Int → Option Int} {d k : Nat} {Q : Int → HV → Prop} {is : List Instr} {h : HV} {ls st : List AV} : X fz d k Q (.goto_w 912 :: is) ls st h = ((∀ i, fz (64 * h 0 0 + 7) i = none) ∧ X fz d k Q is ls ((3, 64 * h 0 0 + 7) :: st) (alc h 7 0 16)) := rfl
theorem x_new_8 {fz : Int → Int → Option Int} {d k : Nat} {Q : Int → HV → Prop} {is : List Instr} {h : HV} {ls st : List AV} : X fz d k Q (.goto_w 1035 :: is) ls st h = ((∀ i, fz (64 * h 0 0 + 8) i = none) ∧ X fz d k Q is ls ((3, 64 * h 0 0 + 8) :: st) (alc h 8 0 11)) := rfl
theorem x_new_9 {fz : Int → Int → Option Int} {d k : Nat} {Q : Int → HV → Prop} {is : List Instr} {h : HV} {ls st : List AV} : X fz d k Q (.goto_w 1162 :: is) ls st h = ((∀ i, fz (64 * h 0 0 + 9) i = none) ∧ X fz d k Q is ls ((3, 64 * h 0 0 + 9) :: st) (alc h 9 0 10)) := rfl
theorem x_obj {fz : Int → Int → Option Int} {d k : Nat} {Q : Int → HV → Prop} {is : List Instr} {h : HV} {ls st : List AV} {o : Int} : X fz d k Q (.monitorexit :: is) ls ((3, o) :: st) h = ((o ≠ 0 ∧ o ≠ 62 ∧ wds st ≤ 8) ∧ X fz d k Q is ls st h) := rfl
theorem x_pc_10243 {fz : Int → Int → Option Int} {d k : Nat} {Q : Int → HV → Prop} {is : List Instr} {h : HV} {ls st : List AV} {o v : Int} : X fz d k Q (.if_acmp .eq 10243 :: is) ls ((3, v) :: (3, o) :: st) h = ((o ≠ 0 ∧ o % 64 = 10 ∧ 3 = 3 ∧ (True) ∧ fz o 0 = none) ∧ X fz d k Q is ls st (hset h o 0 v)) := rfl
theorem x_pc_10251 {fz : Int → Int → Option Int} {d k : Nat} {Q : Int → HV → Prop} {is : List Instr} {h : HV} {ls st : List AV} {o v : Int} : X fz d k Q (.if_acmp .eq 10251 :: is) ls ((3, v) :: (3, o) :: st) h = ((o ≠ 0 ∧ o % 64 = 10 ∧ 3 = 3 ∧ (True) ∧ fz o 1 = none) ∧ X fz d k Q is ls st (hset h o 1 v)) := rfl
theorem x_pc_10259 {fz : Int → Int → Option Int} {d k : Nat} {Q : Int → HV → Prop} {is : List Instr} {h : HV} {ls st : List AV} {o v : Int} : X fz d k Q (.if_acmp .eq 10259 :: is) ls ((3, v) :: (3, o) :: st) h = ((o ≠ 0 ∧ o % 64 = 10 ∧ 3 = 3 ∧ (True) ∧ fz o 2 = none) ∧ X fz d k Q is ls st (hset h o 2 v)) := rfl
theorem x_pc_10267 {fz : Int → Int → Option Int} {d k : Nat} {Q : Int → HV → Prop} {is : List Instr} {h : HV} {ls st : List AV} {o v : Int} : X fz d k Q (.if_acmp .eq 10267 :: is) ls ((3, v) :: (3, o) :: st) h = ((o ≠ 0 ∧ o % 64 = 10 ∧ 3 = 3 ∧ (True) ∧ fz o 3 = none) ∧ X fz d k Q is ls st (hset h o 3 v)) := rfl
theorem x_pc_1027 {fz : Int → Int → Option Int} {d k : Nat} {Q : Int → HV → Prop} {is : List Instr} {h : HV} {ls st : List AV} {o v : Int} : X fz d k Q (.if_acmp .eq 1027 :: is) ls ((3, v) :: (3, o) :: st) h = ((o ≠ 0 ∧ o % 64 = 1 ∧ 3 = 3 ∧ (True) ∧ fz o 0 = none) ∧ X fz d k Q is ls st (hset h o 0 v)) := rfl
theorem x_pc_10275 {fz : Int → Int → Option Int} {d k : Nat} {Q : Int → HV → Prop} {is : List Instr} {h : HV} {ls st : List AV} {o v : Int} : X fz d k Q (.if_acmp .eq 10275 :: is) ls ((3, v) :: (3, o) :: st) h = ((o ≠ 0 ∧ o % 64 = 10 ∧ 3 = 3 ∧ (True) ∧ fz o 4 = none) ∧ X fz d k Q is ls st (hset h o 4 v)) := rfl
theorem x_pc_10283 {fz : Int → Int → Option Int} {d k : Nat} {Q : Int → HV → Prop} {is : List Instr} {h : HV} {ls st : List AV} {o v : Int} : X fz d k Q (.if_acmp .eq 10283 :: is) ls ((3, v) :: (3, o) :: st) h = ((o ≠ 0 ∧ o % 64 = 10 ∧ 3 = 3 ∧ (True) ∧ fz o 5 = none) ∧ X fz d k Q is ls st (hset h o 5 v)) := rfl
theorem x_pc_10291 {fz : Int → Int → Option Int} {d k : Nat} {Q : Int → HV → Prop} {is : List Instr} {h : HV} {ls st : List AV} {o v : Int} : X fz d k Q (.if_acmp .eq 10291 :: is) ls ((3, v) :: (3, o) :: st) h = ((o ≠ 0 ∧ o % 64 = 10 ∧ 3 = 3 ∧ (True) ∧ fz o 6 = none) ∧ X fz d k Q is ls st (hset h o 6 v)) := rfl
theorem x_pc_10299 {fz : Int → Int → Option Int} {d k : Nat} {Q : Int → HV → Prop} {is : List Instr} {h : HV} {ls st : List AV} {o v : Int} : X fz d k Q (.if_acmp .eq 10299 :: is) ls ((3, v) :: (3, o) :: st) h = ((o ≠ 0 ∧ o % 64 = 10 ∧ 3 = 3 ∧ (True) ∧ fz o 7 = none) ∧ X fz d k Q is ls st (hset h o 7 v)) := rfl
theorem x_pc_10307 {fz : Int → Int → Option Int} {d k : Nat} {Q : Int → HV → Prop} {is : List Instr} {h : HV} {ls st : List AV} {o v : Int} : X fz d k Q (.if_acmp .eq 10307 :: is) ls ((3, v) :: (3, o) :: st) h = ((o ≠ 0 ∧ o % 64 = 10 ∧ 3 = 3 ∧ (True) ∧ fz o 8 = none) ∧ X fz d k Q is ls st (hset h o 8 v)) := rfl
theorem x_pc_10315 {fz : Int → Int → Option Int} {d k : Nat} {Q : Int → HV → Prop} {is : List Instr} {h : HV} {ls st : List AV} {o v : Int} : X fz d k Q (.if_acmp .eq 10315 :: is) ls ((3, v) :: (3, o) :: st) h = ((o ≠ 0 ∧ o % 64 = 10 ∧ 3 = 3 ∧ (True) ∧ fz o 9 = none) ∧ X fz d k Q is ls st (hset h o 9 v)) := rfl
theorem x_pc_10323 {fz : Int → Int → Option Int} {d k : Nat} {Q : Int → HV → Prop} {is : List Instr} {h : HV} {ls st : List AV} {o v : Int} : X fz d k Q (.if_acmp .eq 10323 :: is) ls ((3, v) :: (3, o) :: st) h = ((o ≠ 0 ∧ o % 64 = 10 ∧ 3 = 3 ∧ (True) ∧ fz o 10 = none) ∧ X fz d k Q is ls st (hset h o 10 v)) := rfl
theorem x_pc_10339 {fz : Int → Int → Option Int} {d k : Nat} {Q : Int → HV → Prop} {is : List Instr} {h : HV} {ls st : List AV} {o v : Int} : X fz d k Q (.if_acmp .eq 10339 :: is) ls ((3, v) :: (3, o) :: st) h = ((o ≠ 0 ∧ o % 64 = 10 ∧ 3 = 3 ∧ (True) ∧ fz o 12 = none) ∧ X fz d k Q is ls st (hset h o 12 v)) := rfl
theorem x_pc_10347 {fz : Int → Int → Option Int} {d k : Nat} {Q : Int → HV → Prop} {is : List Instr} {h : HV} {ls st : List AV} {o v : Int} : X fz d k Q (.if_acmp .eq 10347 :: is) ls ((3, v) :: (3, o) :: st) h = ((o ≠ 0 ∧ o % 64 = 10 ∧ 3 = 3 ∧ (True) ∧ fz o 13 = none) ∧ X fz d k Q is ls st (hset h o 13 v)) := rfl
theorem x_pc_10355 {fz : Int → Int → Option Int} {d k : Nat} {Q : Int → HV → Prop} {is : List Instr} {h : HV} {ls st : List AV} {o v : Int} : X fz d k Q (.if_acmp .eq 10355 :: is) ls ((3, v) :: (3, o) :: st) h = ((o ≠ 0 ∧ o % 64 = 10 ∧ 3 = 3 ∧ (True) ∧ fz o 14 = none) ∧ X fz d k Q is ls st (hset h o 14 v)) := rfl
theorem x_pc_10371 {fz : Int → Int → Option Int} {d k : Nat} {Q : Int → HV → Prop} {is : List Instr} {h : HV} {ls st : List AV} {o v : Int} : X fz d k Q (.if_acmp .eq 10371 :: is) ls ((3, v) :: (3, o) :: st) h = ((o ≠ 0 ∧ o % 64 = 10 ∧ 3 = 3 ∧ (True) ∧ fz o 16 = none) ∧ X fz d k Q is ls st (hset h o 16 v)) := rfl
theorem x_pc_107 {fz : Int → Int → Option Int} {d k : Nat} {Q : Int → HV → Prop} {is : List Instr} {h : HV} {ls st : List AV} {o v : Int} : X fz d k Q (.if_acmp .eq 107 :: is) ls ((3, v) :: (3, o) :: st) h = ((o ≠ 0 ∧ o % 64 = 0 ∧ 3 = 3 ∧ (True) ∧ fz o 13 = none) ∧ X fz d k Q is ls st (hset h o 13 v)) := rfl
theorem x_pc_11 {fz : Int → Int → Option Int} {d k : Nat} {Q : Int → HV → Prop} {is : List Instr} {h : HV} {ls st : List AV} {o v : Int} : X fz d k Q (.if_acmp .eq 11 :: is) ls ((3, v) :: (3, o) :: st) h = ((o ≠ 0 ∧ o % 64 = 0 ∧ 3 = 3 ∧ (True) ∧ fz o 1 = none) ∧ X fz d k Q is ls st (hset h o 1 v)) := rfl
theorem x_pc_11267 {fz : Int → Int → Option Int} {d k : Nat} {Q : Int → HV → Prop} {is : List Instr} {h : HV} {ls st : List AV} {o v : Int} : X fz d k Q (.if_acmp .eq 11267 :: is) ls ((3, v) :: (3, o) :: st) h = ((o ≠ 0 ∧ o % 64 = 11 ∧ 3 = 3 ∧ (True) ∧ fz o 0 = none) ∧ X fz d k Q is ls st (hset h o 0 v)) := rfl
theorem x_pc_11355 {fz : Int → Int → Option Int} {d k : Nat} {Q : Int → HV → Prop} {is : List Instr} {h : HV} {ls st : List AV} {o v : Int} : X fz d k Q (.if_acmp .eq 11355 :: is) ls ((3, v) :: (3, o) :: st) h = ((o ≠ 0 ∧ o % 64 = 11 ∧ 3 = 3 ∧ (True) ∧ fz o 11 = none) ∧ X fz d k Q is ls st (hset h o 11 v)) := rfl
theorem x_pc_11379 {fz : Int → Int → Option Int} {d k : Nat} {Q : Int → HV → Prop} {is : List Instr} {h : HV} {ls st : List AV} {o v : Int} : X fz d k Q (.if_acmp .eq 11379 :: is) ls ((3, v) :: (3, o) :: st) h = ((o ≠ 0 ∧ o % 64 = 11 ∧ 3 = 3 ∧ (True) ∧ fz o 14 = none) ∧ X fz d k Q is ls st (hset h o 14 v)) := rfl
theorem x_pc_11395 {fz : Int → Int → Option Int} {d k : Nat} {Q : Int → HV → Prop} {is : List Instr} {h : HV} {ls st : List AV} {o v : Int} : X fz d k Q (.if_acmp .eq 11395 :: is) ls ((3, v) :: (3, o) :: st) h = ((o ≠ 0 ∧ o % 64 = 11 ∧ 3 = 3 ∧ (True) ∧ fz o 16 = none) ∧ X fz d k Q is ls st (hset h o 16 v)) := rfl
theorem x_pc_11403 {fz : Int → Int → Option Int} {d k : Nat} {Q : Int → HV → Prop} {is : List Instr} {h : HV} {ls st : List AV} {o v : Int} : X fz d k Q (.if_acmp .eq 11403 :: is) ls ((3, v) :: (3, o) :: st) h = ((o ≠ 0 ∧ o % 64 = 11 ∧ 3 = 3 ∧ (True) ∧ fz o 17 = none) ∧ X fz d k Q is ls st (hset h o 17 v)) := rfl
theorem x_pc_11411 {fz : Int → Int → Option Int} {d k : Nat} {Q : Int → HV → Prop} {is : List Instr} {h : HV} {ls st : List AV} {o v : Int} : X fz d k Q (.if_acmp .eq 11411 :: is) ls ((3, v) :: (3, o) :: st) h = ((o ≠ 0 ∧ o % 64 = 11 ∧ 3 = 3 ∧ (True) ∧ fz o 18 = none) ∧ X fz d k Q is ls st (hset h o 18 v)) := rfl
theorem x_pc_11427 {fz : Int → Int → Option Int} {d k : Nat} {Q : Int → HV → Prop} {is : List Instr} {h : HV} {ls st : List AV} {o v : Int} : X fz d k Q (.if_acmp .eq 11427 :: is) ls ((3, v) :: (3, o) :: st) h = ((o ≠ 0 ∧ o % 64 = 11 ∧ 3 = 3 ∧ (True) ∧ fz o 20 = none) ∧ X fz d k Q is ls st (hset h o 20 v)) := rfl
theorem x_pc_11435 {fz : Int → Int → Option Int} {d k : Nat} {Q : Int → HV → Prop} {is : List Instr} {h : HV} {ls st : List AV} {o v : Int} : X fz d k Q (.if_acmp .eq 11435 :: is) ls ((3, v) :: (3, o) :: st) h = ((o ≠ 0 ∧ o % 64 = 11 ∧ 3 = 3 ∧ (True) ∧ fz o 21 = none) ∧ X fz d k Q is ls st (hset h o 21 v)) := rfl
theorem x_pc_11443 {fz : Int → Int → Option Int} {d k : Nat} {Q : Int → HV → Prop} {is : List Instr} {h : HV} {ls st : List AV} {o v : Int} : X fz d k Q (.if_acmp .eq 11443 :: is) ls ((3, v) :: (3, o) :: st) h = ((o ≠ 0 ∧ o % 64 = 11 ∧ 3 = 3 ∧ (True) ∧ fz o 22 = none) ∧ X fz d k Q is ls st (hset h o 22 v)) := rfl
theorem x_pc_11451 {fz : Int → Int → Option Int} {d k : Nat} {Q : Int → HV → Prop} {is : List Instr} {h : HV} {ls st : List AV} {o v : Int} : X fz d k Q (.if_acmp .eq 11451 :: is) ls ((3, v) :: (3, o) :: st) h = ((o ≠ 0 ∧ o % 64 = 11 ∧ 3 = 3 ∧ (True) ∧ fz o 23 = none) ∧ X fz d k Q is ls st (hset h o 23 v)) := rfl
theorem x_pc_11475 {fz : Int → Int → Option Int} {d k : Nat} {Q : Int → HV → Prop} {is : List Instr} {h : HV} {ls st : List AV} {o v : Int} : X fz d k Q (.if_acmp .eq 11475 :: is) ls ((3, v) :: (3, o) :: st) h = ((o ≠ 0 ∧ o % 64 = 11 ∧ 3 = 3 ∧ (True) ∧ fz o 26 = none) ∧ X fz d k Q is ls st (hset h o 26 v)) := rfl
theorem x_pc_11483 {fz : Int → Int → Option Int} {d k : Nat} {Q : Int → HV → Prop} {is : List Instr} {h : HV} {ls st : List AV} {o v : Int} : X fz d k Q (.if_acmp .eq 11483 :: is) ls ((3, v) :: (3, o) :: st) h = ((o ≠ 0 ∧ o % 64 = 11 ∧ 3 = 3 ∧ (True) ∧ fz o 27 = none) ∧ X fz d k Q is ls st (hset h o 27 v)) := rfl
theorem x_pc_11491 {fz : Int → Int → Option Int} {d k : Nat} {Q : Int → HV → Prop} {is : List Instr} {h : HV} {ls st : List AV} {o v : Int} : X fz d k Q (.if_acmp .eq 11491 :: is) ls ((3, v) :: (3, o) :: st) h = ((o ≠ 0 ∧ o % 64 = 11 ∧ 3 = 3 ∧ (True) ∧ fz o 28 = none) ∧ X fz d k Q is ls st (hset h o 28 v)) := rfl
theorem x_pc_11499 {fz : Int → Int → Option Int} {d k : Nat} {Q : Int → HV → Prop} {is : List Instr} {h : HV} {ls st : List AV} {o v : Int} : X fz d k Q (.if_acmp .eq 11499 :: is) ls ((3, v) :: (3, o) :: st) h = ((o ≠ 0 ∧ o % 64 = 11 ∧ 3 = 3 ∧ (True) ∧ fz o 29 = none) ∧ X fz d k Q is ls st (hset h o 29 v)) := rfl
theorem x_pc_115 {fz : Int → Int → Option Int} {d k : Nat} {Q : Int → HV → Prop} {is : List Instr} {h : HV} {ls st : List AV} {o v : Int} : X fz d k Q (.if_acmp .eq 115 :: is) ls ((3, v) :: (3, o) :: st) h = ((o ≠ 0 ∧ o % 64 = 0 ∧ 3 = 3 ∧ (True) ∧ fz o 14 = none) ∧ X fz d k Q is ls st (hset h o 14 v)) := rfl
theorem x_pc_11515 {fz : Int → Int → Option Int} {d k : Nat} {Q : Int → HV → Prop} {is : List Instr} {h : HV} {ls st : List AV} {o v : Int} : X fz d k Q (.if_acmp .eq 11515 :: is) ls ((3, v) :: (3, o) :: st) h = ((o ≠ 0 ∧ o % 64 = 11 ∧ 3 = 3 ∧ (True) ∧ fz o 31 = none) ∧ X fz d k Q is ls st (hset h o 31 v)) := rfl
theorem x_pc_11523 {fz : Int → Int → Option Int} {d k : Nat} {Q : Int → HV → Prop} {is : List Instr} {h : HV} {ls st : List AV} {o v : Int} : X fz d k Q (.if_acmp .eq 11523 :: is) ls ((3, v) :: (3, o) :: st) h = ((o ≠ 0 ∧ o % 64 = 11 ∧ 3 = 3 ∧ (True) ∧ fz o 32 = none) ∧ X fz d k Q is ls st (hset h o 32 v)) := rfl
theorem x_pc_11531 {fz : Int → Int → Option Int} {d k : Nat} {Q : Int → HV → Prop} {is : List Instr} {h : HV} {ls st : List AV} {o v : Int} : X fz d k Q (.if_acmp .eq 11531 :: is) ls ((3, v) :: (3, o) :: st) h = ((o ≠ 0 ∧ o % 64 = 11 ∧ 3 = 3 ∧ (True) ∧ fz o 33 = none) ∧ X fz d k Q is ls st (hset h o 33 v)) := rfl
theorem x_pc_11539 {fz : Int → Int → Option Int} {d k : Nat} {Q : Int → HV → Prop} {is : List Instr} {h : HV} {ls st : List AV} {o v : Int} : X fz d k Q (.if_acmp .eq 11539 :: is) ls ((3, v) :: (3, o) :: st) h = ((o ≠ 0 ∧ o % 64 = 11 ∧ 3 = 3 ∧ (True) ∧ fz o 34 = none) ∧ X fz d k Q is ls st (hset h o 34 v)) := rfl
theorem x_pc_11547 {fz : Int → Int → Option Int} {d k : Nat} {Q : Int → HV → Prop} {is : List Instr} {h : HV} {ls st : List AV} {o v : Int} : X fz d k Q (.if_acmp .eq 11547 :: is) ls ((3, v) :: (3, o) :: st) h = ((o ≠ 0 ∧ o % 64 = 11 ∧ 3 = 3 ∧ (True) ∧ fz o 35 = none) ∧ X fz d k Q is ls st (hset h o 35 v)) := rfl
theorem x_pc_11563 {fz : Int → Int → Option Int} {d k : Nat} {Q : Int → HV → Prop} {is : List Instr} {h : HV} {ls st : List AV} {o v : Int} : X fz d k Q (.if_acmp .eq 11563 :: is) ls ((3, v) :: (3, o) :: st) h = ((o ≠ 0 ∧ o % 64 = 11 ∧ 3 = 3 ∧ (True) ∧ fz o 37 = none) ∧ X fz d k Q is ls st (hset h o 37 v)) := rfl
theorem x_pc_11571 {fz : Int → Int → Option Int} {d k : Nat} {Q : Int → HV → Prop} {is : List Instr} {h : HV} {ls st : List AV} {o v : Int} : X fz d k Q (.if_acmp .eq 11571 :: is) ls ((3, v) :: (3, o) :: st) h = ((o ≠ 0 ∧ o % 64 = 11 ∧ 3 = 3 ∧ (True) ∧ fz o 38 = none) ∧ X fz d k Q is ls st (hset h o 38 v)) := rfl
theorem x_pc_11579 {fz : Int → Int → Option Int} {d k : Nat} {Q : Int → HV → Prop} {is : List Instr} {h : HV} {ls st : List AV} {o v : Int} : X fz d k Q (.if_acmp .eq 11579 :: is) ls ((3, v) :: (3, o) :: st) h = ((o ≠ 0 ∧ o % 64 = 11 ∧ 3 = 3 ∧ (True) ∧ fz o 39 = none) ∧ X fz d k Q is ls st (hset h o 39 v)) := rfl
theorem x_pc_11587 {fz : Int → Int → Option Int} {d k : Nat} {Q : Int → HV → Prop} {is : List Instr} {h : HV} {ls st : List AV} {o v : Int} : X fz d k Q (.if_acmp .eq 11587 :: is) ls ((3, v) :: (3, o) :: st) h = ((o ≠ 0 ∧ o % 64 = 11 ∧ 3 = 3 ∧ (True) ∧ fz o 40 = none) ∧ X fz d k Q is ls st (hset h o 40 v)) := rfl
theorem x_pc_11603 {fz : Int → Int → Option Int} {d k : Nat} {Q : Int → HV → Prop} {is : List Instr} {h : HV} {ls st : List AV} {o v : Int} : X fz d k Q (.if_acmp .eq 11603 :: is) ls ((3, v) :: (3, o) :: st) h = ((o ≠ 0 ∧ o % 64 = 11 ∧ 3 = 3 ∧ (True) ∧ fz o 42 = none) ∧ X fz d k Q is ls st (hset h o 42 v)) := rfl
theorem x_pc_11611 {fz : Int → Int → Option Int} {d k : Nat} {Q : Int → HV → Prop} {is : List Instr} {h : HV} {ls st : List AV} {o v : Int} : X fz d k Q (.if_acmp .eq 11611 :: is) ls ((3, v) :: (3, o) :: st) h = ((o ≠ 0 ∧ o % 64 = 11 ∧ 3 = 3 ∧ (True) ∧ fz o 43 = none) ∧ X fz d k Q is ls st (hset h o 43 v)) := rfl
theorem x_pc_11627 {fz : Int → Int → Option Int} {d k : Nat} {Q : Int → HV → Prop} {is : List Instr} {h : HV} {ls st : List AV} {o v : Int} : X fz d k Q (.if_acmp .eq 11627 :: is) ls ((3, v) :: (3, o) :: st) h = ((o ≠ 0 ∧ o % 64 = 11 ∧ 3 = 3 ∧ (True) ∧ fz o 45 = none) ∧ X fz d k Q is ls st (hset h o 45 v)) := rfl
theorem x_pc_11635 {fz : Int → Int → Option Int} {d k : Nat} {Q : Int → HV → Prop} {is : List Instr} {h : HV} {ls st : List AV} {o v : Int} : X fz d k Q (.if_acmp .eq 11635 :: is) ls ((3, v) :: (3, o) :: st) h = ((o ≠ 0 ∧ o % 64 = 11 ∧ 3 = 3 ∧ (True) ∧ fz o 46 = none) ∧ X fz d k Q is ls st (hset h o 46 v)) := rfl
theorem x_pc_11643 {fz : Int → Int → Option Int} {d k : Nat} {Q : Int → HV → Prop} {is : List Instr} {h : HV} {ls st : List AV} {o v : Int} : X fz d k Q (.if_acmp .eq 11643 :: is) ls ((3, v) :: (3, o) :: st) h = ((o ≠ 0 ∧ o % 64 = 11 ∧ 3 = 3 ∧ (True) ∧ fz o 47 = none) ∧ X fz d k Q is ls st (hset h o 47 v)) := rfl
theorem x_pc_11651 {fz : Int → Int → Option Int} {d k : Nat} {Q : Int → HV → Prop} {is : List Instr} {h : HV} {ls st : List AV} {o v : Int} : X fz d k Q (.if_acmp .eq 11651 :: is) ls ((3, v) :: (3, o) :: st) h = ((o ≠ 0 ∧ o % 64 = 11 ∧ 3 = 3 ∧ (True) ∧ fz o 48 = none) ∧ X fz d k Q is ls st (hset h o 48 v)) := rfl
theorem x_pc_11659 {fz : Int → Int → Option Int} {d k : Nat} {Q : Int → HV → Prop} {is : List Instr} {h : HV} {ls st : List AV} {o v : Int} : X fz d k Q (.if_acmp .eq 11659 :: is) ls ((3, v) :: (3, o) :: st) h = ((o ≠ 0 ∧ o % 64 = 11 ∧ 3 = 3 ∧ (True) ∧ fz o 49 = none) ∧ X fz d k Q is ls st (hset h o 49 v)) := rfl
theorem x_pc_11667 {fz : Int → Int → Option Int} {d k : Nat} {Q : Int → HV → Prop} {is : List Instr} {h : HV} {ls st : List AV} {o v : Int} : X fz d k Q (.if_acmp .eq 11667 :: is) ls ((3, v) :: (3, o) :: st) h = ((o ≠ 0 ∧ o % 64 = 11 ∧ 3 = 3 ∧ (True) ∧ fz o 50 = none) ∧ X fz d k Q is ls st (hset h o 50 v)) := rfl
theorem x_pc_11675 {fz : Int → Int → Option Int} {d k : Nat} {Q : Int → HV → Prop} {is : List Instr} {h : HV} {ls st : List AV} {o v : Int} : X fz d k Q (.if_acmp .eq 11675 :: is) ls ((3, v) :: (3, o) :: st) h = ((o ≠ 0 ∧ o % 64 = 11 ∧ 3 = 3 ∧ (True) ∧ fz o 51 = none) ∧ X fz d k Q is ls st (hset h o 51 v)) := rfl
theorem x_pc_11747 {fz : Int → Int → Option Int} {d k : Nat} {Q : Int → HV → Prop} {is : List Instr} {h : HV} {ls st : List AV} {o v : Int} : X fz d k Q (.if_acmp .eq 11747 :: is) ls ((3, v) :: (3, o) :: st) h = ((o ≠ 0 ∧ o % 64 = 11 ∧ 3 = 3 ∧ (True) ∧ fz o 60 = none) ∧ X fz d k Q is ls st (hset h o 60 v)) := rfl
theorem x_pc_11763 {fz : Int → Int → Option Int} {d k : Nat} {Q : Int → HV → Prop} {is : List Instr} {h : HV} {ls st : List AV} {o v : Int} : X fz d k Q (.if_acmp .eq 11763 :: is) ls ((3, v) :: (3, o) :: st) h = ((o ≠ 0 ∧ o % 64 = 11 ∧ 3 = 3 ∧ (True) ∧ fz o 62 = none) ∧ X fz d k Q is ls st (hset h o 62 v)) := rfl
theorem x_pc_11771 {fz : Int → Int → Option Int} {d k : Nat} {Q : Int → HV → Prop} {is : List Instr} {h : HV} {ls st : List AV} {o v : Int} : X fz d k Q (.if_acmp .eq 11771 :: is) ls ((3, v) :: (3, o) :: st) h = ((o ≠ 0 ∧ o % 64 = 11 ∧ 3 = 3 ∧ (True) ∧ fz o 63 = none) ∧ X fz d k Q is ls st (hset h o 63 v)) := rfl
theorem x_pc_11779 {fz : Int → Int → Option Int} {d k : Nat} {Q : Int → HV → Prop} {is : List Instr} {h : HV} {ls st : List AV} {o v : Int} : X fz d k Q (.if_acmp .eq 11779 :: is) ls ((3, v) :: (3, o) :: st) h = ((o ≠ 0 ∧ o % 64 = 11 ∧ 3 = 3 ∧ (True) ∧ fz o 64 = none) ∧ X fz d k Q is ls st (hset h o 64 v)) := rfl
theorem x_pc_11795 {fz : Int → Int → Option Int} {d k : Nat} {Q : Int → HV → Prop} {is : List Instr} {h : HV} {ls st : List AV} {o v : Int} : X fz d k Q (.if_acmp .eq 11795 :: is) ls ((3, v) :: (3, o) :: st) h = ((o ≠ 0 ∧ o % 64 = 11 ∧ 3 = 3 ∧ (True) ∧ fz o 66 = none) ∧ X fz d k Q is ls st (hset h o 66 v)) := rfl
theorem x_pc_11803 {fz : Int → Int → Option Int} {d k : Nat} {Q : Int → HV → Prop} {is : List Instr} {h : HV} {ls st : List AV} {o v : Int} : X fz d k Q (.if_acmp .eq 11803 :: is) ls ((3, v) :: (3, o) :: st) h = ((o ≠ 0 ∧ o % 64 = 11 ∧ 3 = 3 ∧ (True) ∧ fz o 67 = none) ∧ X fz d k Q is ls st (hset h o 67 v)) := rfl
theorem x_pc_11811 {fz : Int → Int → Option Int} {d k : Nat} {Q : Int → HV → Prop} {is : List Instr} {h : HV} {ls st : List AV} {o v : Int} : X fz d k Q (.if_acmp .eq 11811 :: is) ls ((3, v) :: (3, o) :: st) h = ((o ≠ 0 ∧ o % 64 = 11 ∧ 3 = 3 ∧ (True) ∧ fz o 68 = none) ∧ X fz d k Q is ls st (hset h o 68 v)) := rfl
theorem x_pc_11859 {fz : Int → Int → Option Int} {d k : Nat} {Q : Int → HV → Prop} {is : List Instr} {h : HV} {ls st : List AV} {o v : Int} : X fz d k Q (.if_acmp .eq 11859 :: is) ls ((3, v) :: (3, o) :: st) h = ((o ≠ 0 ∧ o % 64 = 11 ∧ 3 = 3 ∧ (True) ∧ fz o 74 = none) ∧ X fz d k Q is ls st (hset h o 74 v)) := rfl
theorem x_pc_11867 {fz : Int → Int → Option Int} {d k : Nat} {Q : Int → HV → Prop} {is : List Instr} {h : HV} {ls st : List AV} {o v : Int} : X fz d k Q (.if_acmp .eq 11867 :: is) ls ((3, v) :: (3, o) :: st) h = ((o ≠ 0 ∧ o % 64 = 11 ∧ 3 = 3 ∧ (True) ∧ fz o 75 = none) ∧ X fz d k Q is ls st (hset h o 75 v)) := rfl
theorem x_pc_11875 {fz : Int → Int → Option Int} {d k : Nat} {Q : Int → HV → Prop} {is : List Instr} {h : HV} {ls st : List AV} {o v : Int} : X fz d k Q (.if_acmp .eq 11875 :: is) ls ((3, v) :: (3, o) :: st) h = ((o ≠ 0 ∧ o % 64 = 11 ∧ 3 = 3 ∧ (True) ∧ fz o 76 = none) ∧ X fz d k Q is ls st (hset h o 76 v)) := rfl
theorem x_pc_11883 {fz : Int → Int → Option Int} {d k : Nat} {Q : Int → HV → Prop} {is : List Instr} {h : HV} {ls st : List AV} {o v : Int} : X fz d k Q (.if_acmp .eq 11883 :: is) ls ((3, v) :: (3, o) :: st) h = ((o ≠ 0 ∧ o % 64 = 11 ∧ 3 = 3 ∧ (True) ∧ fz o 77 = none) ∧ X fz d k Q is ls st (hset h o 77 v)) := rfl
theorem x_pc_11891 {fz : Int → Int → Option Int} {d k : Nat} {Q : Int → HV → Prop} {is : List Instr} {h : HV} {ls st : List AV} {o v : Int} : X fz d k Q (.if_acmp .eq 11891 :: is) ls ((3, v) :: (3, o) :: st) h = ((o ≠ 0 ∧ o % 64 = 11 ∧ 3 = 3 ∧ (True) ∧ fz o 78 = none) ∧ X fz d k Q is ls st (hset h o 78 v)) := rfl
theorem x_pc_11899 {fz : Int → Int → Option Int} {d k : Nat} {Q : Int → HV → Prop} {is : List Instr} {h : HV} {ls st : List AV} {o v : Int} : X fz d k Q (.if_acmp .eq 11899 :: is) ls ((3, v) :: (3, o) :: st) h = ((o ≠ 0 ∧ o % 64 = 11 ∧ 3 = 3 ∧ (True) ∧ fz o 79 = none) ∧ X fz d k Q is ls st (hset h o 79 v)) := rfl
theorem x_pc_11907 {fz : Int → Int → Option Int} {d k : Nat} {Q : Int → HV → Prop} {is : List Instr} {h : HV} {ls st : List AV} {o v : Int} : X fz d k Q (.if_acmp .eq 11907 :: is) ls ((3, v) :: (3, o) :: st) h = ((o ≠ 0 ∧ o % 64 = 11 ∧ 3 = 3 ∧ (True) ∧ fz o 80 = none) ∧ X fz d k Q is ls st (hset h o 80 v)) := rfl
theorem x_pc_11915 {fz : Int → Int → Option Int} {d k : Nat} {Q : Int → HV → Prop} {is : List Instr} {h : HV} {ls st : List AV} {o v : Int} : X fz d k Q (.if_acmp .eq 11915 :: is) ls ((3, v) :: (3, o) :: st) h = ((o ≠ 0 ∧ o % 64 = 11 ∧ 3 = 3 ∧ (True) ∧ fz o 81 = none) ∧ X fz d k Q is ls st (hset h o 81 v)) := rfl
theorem x_pc_11923 {fz : Int → Int → Option Int} {d k : Nat} {Q : Int → HV → Prop} {is : List Instr} {h : HV} {ls st : List AV} {o v : Int} : X fz d k Q (.if_acmp .eq 11923 :: is) ls ((3, v) :: (3, o) :: st) h = ((o ≠ 0 ∧ o % 64 = 11 ∧ 3 = 3 ∧ (True) ∧ fz o 82 = none) ∧ X fz d k Q is ls st (hset h o 82 v)) := rfl
theorem x_pc_11931 {fz : Int → Int → Option Int} {d k : Nat} {Q : Int → HV → Prop} {is : List Instr} {h : HV} {ls st : List AV} {o v : Int} : X fz d k Q (.if_acmp .eq 11931 :: is) ls ((3, v) :: (3, o) :: st) h = ((o ≠ 0 ∧ o % 64 = 11 ∧ 3 = 3 ∧ (True) ∧ fz o 83 = none) ∧ X fz d k Q is ls st (hset h o 83 v)) := rfl
theorem x_pc_11939 {fz : Int → Int → Option Int} {d k : Nat} {Q : Int → HV → Prop} {is : List Instr} {h : HV} {ls st : List AV} {o v : Int} : X fz d k Q (.if_acmp .eq 11939 :: is) ls ((3, v) :: (3, o) :: st) h = ((o ≠ 0 ∧ o % 64 = 11 ∧ 3 = 3 ∧ (True) ∧ fz o 84 = none) ∧ X fz d k Q is ls st (hset h o 84 v)) := rfl
theorem x_pc_11947 {fz : Int → Int → Option Int} {d k : Nat} {Q : Int → HV → Prop} {is : List Instr} {h : HV} {ls st : List AV} {o v : Int} : X fz d k Q (.if_acmp .eq 11947 :: is) ls ((3, v) :: (3, o) :: st) h = ((o ≠ 0 ∧ o % 64 = 11 ∧ 3 = 3 ∧ (True) ∧ fz o 85 = none) ∧ X fz d k Q is ls st (hset h o 85 v)) := rfl
theorem x_pc_11963 {fz : Int → Int → Option Int} {d k : Nat} {Q : Int → HV → Prop} {is : List Instr} {h : HV} {ls st : List AV} {o v : Int} : X fz d k Q (.if_acmp .eq 11963 :: is) ls ((3, v) :: (3, o) :: st) h = ((o ≠ 0 ∧ o % 64 = 11 ∧ 3 = 3 ∧ (True) ∧ fz o 87 = none) ∧ X fz d k Q is ls st (hset h o 87 v)) := rfl
theorem x_pc_11971 {fz : Int → Int → Option Int} {d k : Nat} {Q : Int → HV → Prop} {is : List Instr} {h : HV} {ls st : List AV} {o v : Int} : X fz d k Q (.if_acmp .eq 11971 :: is) ls ((3, v) :: (3, o) :: st) h = ((o ≠ 0 ∧ o % 64 = 11 ∧ 3 = 3 ∧ (True) ∧ fz o 88 = none) ∧ X fz d k Q is ls st (hset h o 88 v)) := rfl
theorem x_pc_11979 {fz : Int → Int → Option Int} {d k : Nat} {Q : Int → HV → Prop} {is : List Instr} {h : HV} {ls st : List AV} {o v : Int} : X fz d k Q (.if_acmp .eq 11979 :: is) ls ((3, v) :: (3, o) :: st) h = ((o ≠ 0 ∧ o % 64 = 11 ∧ 3 = 3 ∧ (True) ∧ fz o 89 = none) ∧ X fz d k Q is ls st (hset h o 89 v)) := rfl
theorem x_pc_11987 {fz : Int → Int → Option Int} {d k : Nat} {Q : Int → HV → Prop} {is : List Instr} {h : HV} {ls st : List AV} {o v : Int} : X fz d k Q (.if_acmp .eq 11987 :: is) ls ((3, v) :: (3, o) :: st) h = ((o ≠ 0 ∧ o % 64 = 11 ∧ 3 = 3 ∧ (True) ∧ fz o 90 = none) ∧ X fz d k Q is ls st (hset h o 90 v)) := rfl
theorem x_pc_11995 {fz : Int → Int → Option Int} {d k : Nat} {Q : Int → HV → Prop} {is : List Instr} {h : HV} {ls st : List AV} {o v : Int} : X fz d k Q (.if_acmp .eq 11995 :: is) ls ((3, v) :: (3, o) :: st) h = ((o ≠ 0 ∧ o % 64 = 11 ∧ 3 = 3 ∧ (True) ∧ fz o 91 = none) ∧ X fz d k Q is ls st (hset h o 91 v)) := rfl
theorem x_pc_12003 {fz : Int → Int → Option Int} {d k : Nat} {Q : Int → HV → Prop} {is : List Instr} {h : HV} {ls st : List AV} {o v : Int} : X fz d k Q (.if_acmp .eq 12003 :: is) ls ((3, v) :: (3, o) :: st) h = ((o ≠ 0 ∧ o % 64 = 11 ∧ 3 = 3 ∧ (True) ∧ fz o 92 = none) ∧ X fz d k Q is ls st (hset h o 92 v)) := rfl
theorem x_pc_12019 {fz : Int → Int → Option Int} {d k : Nat} {Q : Int → HV → Prop} {is : List Instr} {h : HV} {ls st : List AV} {o v : Int} : X fz d k Q (.if_acmp .eq 12019 :: is) ls ((3, v) :: (3, o) :: st) h = ((o ≠ 0 ∧ o % 64 = 11 ∧ 3 = 3 ∧ (True) ∧ fz o 94 = none) ∧ X fz d k Q is ls st (hset h o 94 v)) := rfl
theorem x_pc_12291 {fz : Int → Int → Option Int} {d k : Nat} {Q : Int → HV → Prop} {is : List Instr} {h : HV} {ls st : List AV} {o v : Int} : X fz d k Q (.if_acmp .eq 12291 :: is) ls ((3, v) :: (3, o) :: st) h = ((o ≠ 0 ∧ o % 64 = 12 ∧ 3 = 3 ∧ (True) ∧ fz o 0 = none) ∧ X fz d k Q is ls st (hset h o 0 v)) := rfl
theorem x_pc_12299 {fz : Int → Int → Option Int} {d k : Nat} {Q : Int → HV → Prop} {is : List Instr} {h : HV} {ls st : List AV} {o v : Int} : X fz d k Q (.if_acmp .eq 12299 :: is) ls ((3, v) :: (3, o) :: st) h = ((o ≠ 0 ∧ o % 64 = 12 ∧ 3 = 3 ∧ (True) ∧ fz o 1 = none) ∧ X fz d k Q is ls st (hset h o 1 v)) := rfl
theorem x_pc_123 {fz : Int → Int → Option Int} {d k : Nat} {Q : Int → HV → Prop} {is : List Instr} {h : HV} {ls st : List AV} {o v : Int} : X fz d k Q (.if_acmp .eq 123 :: is) ls ((3, v) :: (3, o) :: st) h = ((o ≠ 0 ∧ o % 64 = 0 ∧ 3 = 3 ∧ (True) ∧ fz o 15 = none) ∧ X fz d k Q is ls st (hset h o 15 v)) := rfl
theorem x_pc_12307 {fz : Int → Int → Option Int} {d k : Nat} {Q : Int → HV → Prop} {is : List Instr} {h : HV} {ls st : List AV} {o v : Int} : X fz d k Q (.if_acmp .eq 12307 :: is) ls ((3, v) :: (3, o) :: st) h = ((o ≠ 0 ∧ o % 64 = 12 ∧ 3 = 3 ∧ (True) ∧ fz o 2 = none) ∧ X fz d k Q is ls st (hset h o 2 v)) := rfl
theorem x_pc_12315 {fz : Int → Int → Option Int} {d k : Nat} {Q : Int → HV → Prop} {is : List Instr} {h : HV} {ls st : List AV} {o v : Int} : X fz d k Q (.if_acmp .eq 12315 :: is) ls ((3, v) :: (3, o) :: st) h = ((o ≠ 0 ∧ o % 64 = 12 ∧ 3 = 3 ∧ (True) ∧ fz o 3 = none) ∧ X fz d k Q is ls st (hset h o 3 v)) := rfl
theorem x_pc_12323 {fz : Int → Int → Option Int} {d k : Nat} {Q : Int → HV → Prop} {is : List Instr} {h : HV} {ls st : List AV} {o v : Int} : X fz d k Q (.if_acmp .eq 12323 :: is) ls ((3, v) :: (3, o) :: st) h = ((o ≠ 0 ∧ o % 64 = 12 ∧ 3 = 3 ∧ (True) ∧ fz o 4 = none) ∧ X fz d k Q is ls st (hset h o 4 v)) := rfl
theorem x_pc_12331 {fz : Int → Int → Option Int} {d k : Nat} {Q : Int → HV → Prop} {is : List Instr} {h : HV} {ls st : List AV} {o v : Int} : X fz d k Q (.if_acmp .eq 12331 :: is) ls ((3, v) :: (3, o) :: st) h = ((o ≠ 0 ∧ o % 64 = 12 ∧ 3 = 3 ∧ (True) ∧ fz o 5 = none) ∧ X fz d k Q is ls st (hset h o 5 v)) := rfl
theorem x_pc_12339 {fz : Int → Int → Option Int} {d k : Nat} {Q : Int → HV → Prop} {is : List Instr} {h : HV} {ls st : List AV} {o v : Int} : X fz d k Q (.if_acmp .eq 12339 :: is) ls ((3, v) :: (3, o) :: st) h = ((o ≠ 0 ∧ o % 64 = 12 ∧ 3 = 3 ∧ (True) ∧ fz o 6 = none) ∧ X fz d k Q is ls st (hset h o 6 v)) := rfl
theorem x_pc_12347 {fz : Int → Int → Option Int} {d k : Nat} {Q : Int → HV → Prop} {is : List Instr} {h : HV} {ls st : List AV} {o v : Int} : X fz d k Q (.if_acmp .eq 12347 :: is) ls ((3, v) :: (3, o) :: st) h = ((o ≠ 0 ∧ o % 64 = 12 ∧ 3 = 3 ∧ (True) ∧ fz o 7 = none) ∧ X fz d k Q is ls st (hset h o 7 v)) := rfl
theorem x_pc_12355 {fz : Int → Int → Option Int} {d k : Nat} {Q : Int → HV → Prop} {is : List Instr} {h : HV} {ls st : List AV} {o v : Int} : X fz d k Q (.if_acmp .eq 12355 :: is) ls ((3, v) :: (3, o) :: st) h = ((o ≠ 0 ∧ o % 64 = 12 ∧ 3 = 3 ∧ (True) ∧ fz o 8 = none) ∧ X fz d k Q is ls st (hset h o 8 v)) := rfl
theorem x_pc_12363 {fz : Int → Int → Option Int} {d k : Nat} {Q : Int → HV → Prop} {is : List Instr} {h : HV} {ls st : List AV} {o v : Int} : X fz d k Q (.if_acmp .eq 12363 :: is) ls ((3, v) :: (3, o) :: st) h = ((o ≠ 0 ∧ o % 64 = 12 ∧ 3 = 3 ∧ (True) ∧ fz o 9 = none) ∧ X fz d k Q is ls st (hset h o 9 v)) := rfl
theorem x_pc_12371 {fz : Int → Int → Option Int} {d k : Nat} {Q : Int → HV → Prop} {is : List Instr} {h : HV} {ls st : List AV} {o v : Int} : X fz d k Q (.if_acmp .eq 12371 :: is) ls ((3, v) :: (3, o) :: st) h = ((o ≠ 0 ∧ o % 64 = 12 ∧ 3 = 3 ∧ (True) ∧ fz o 10 = none) ∧ X fz d k Q is ls st (hset h o 10 v)) := rfl
theorem x_pc_12379 {fz : Int → Int → Option Int} {d k : Nat} {Q : Int → HV → Prop} {is : List Instr} {h : HV} {ls st : List AV} {o v : Int} : X fz d k Q (.if_acmp .eq 12379 :: is) ls ((3, v) :: (3, o) :: st) h = ((o ≠ 0 ∧ o % 64 = 12 ∧ 3 = 3 ∧ (True) ∧ fz o 11 = none) ∧ X fz d k Q is ls st (hset h o 11 v)) := rfl
theorem x_pc_12387 {fz : Int → Int → Option Int} {d k : Nat} {Q : Int → HV → Prop} {is : List Instr} {h : HV} {ls st : List AV} {o v : Int} : X fz d k Q (.if_acmp .eq 12387 :: is) ls ((3, v) :: (3, o) :: st) h = ((o ≠ 0 ∧ o % 64 = 12 ∧ 3 = 3 ∧ (True) ∧ fz o 12 = none) ∧ X fz d k Q is ls st (hset h o 12 v)) := rfl
theorem x_pc_12395 {fz : Int → Int → Option Int} {d k : Nat} {Q : Int → HV → Prop} {is : List Instr} {h : HV} {ls st : List AV} {o v : Int} : X fz d k Q (.if_acmp .eq 12395 :: is) ls ((3, v) :: (3, o) :: st) h = ((o ≠ 0 ∧ o % 64 = 12 ∧ 3 = 3 ∧ (True) ∧ fz o 13 = none) ∧ X fz d k Q is ls st (hset h o 13 v)) := rfl
theorem x_pc_12419 {fz : Int → Int → Option Int} {d k : Nat} {Q : Int → HV → Prop} {is : List Instr} {h : HV} {ls st : List AV} {o v : Int} : X fz d k Q (.if_acmp .eq 12419 :: is) ls ((3, v) :: (3, o) :: st) h = ((o ≠ 0 ∧ o % 64 = 12 ∧ 3 = 3 ∧ (True) ∧ fz o 16 = none) ∧ X fz d k Q is ls st (hset h o 16 v)) := rfl
theorem x_pc_12427 {fz : Int → Int → Option Int} {d k : Nat} {Q : Int → HV → Prop} {is : List Instr} {h : HV} {ls st : List AV} {o v : Int} : X fz d k Q (.if_acmp .eq 12427 :: is) ls ((3, v) :: (3, o) :: st) h = ((o ≠ 0 ∧ o % 64 = 12 ∧ 3 = 3 ∧ (True) ∧ fz o 17 = none) ∧ X fz d k Q is ls st (hset h o 17 v)) := rfl
theorem x_pc_12435 {fz : Int → Int → Option Int} {d k : Nat} {Q : Int → HV → Prop} {is : List Instr} {h : HV} {ls st : List AV} {o v : Int} : X fz d k Q (.if_acmp .eq 12435 :: is) ls ((3, v) :: (3, o) :: st) h = ((o ≠ 0 ∧ o % 64 = 12 ∧ 3 = 3 ∧ (True) ∧ fz o 18 = none) ∧ X fz d k Q is ls st (hset h o 18 v)) := rfl
theorem x_pc_12443 {fz : Int → Int → Option Int} {d k : Nat} {Q : Int → HV → Prop} {is : List Instr} {h : HV} {ls st : List AV} {o v : Int} : X fz d k Q (.if_acmp .eq 12443 :: is) ls ((3, v) :: (3, o) :: st) h = ((o ≠ 0 ∧ o % 64 = 12 ∧ 3 = 3 ∧ (True) ∧ fz o 19 = none) ∧ X fz d k Q is ls st (hset h o 19 v)) := rfl
theorem x_pc_12475 {fz : Int → Int → Option Int} {d k : Nat} {Q : Int → HV → Prop} {is : List Instr} {h : HV} {ls st : List AV} {o v : Int} : X fz d k Q (.if_acmp .eq 12475 :: is) ls ((3, v) :: (3, o) :: st) h = ((o ≠ 0 ∧ o % 64 = 12 ∧ 3 = 3 ∧ (True) ∧ fz o 23 = none) ∧ X fz d k Q is ls st (hset h o 23 v)) := rfl
theorem x_pc_12483 {fz : Int → Int → Option Int} {d k : Nat} {Q : Int → HV → Prop} {is : List Instr} {h : HV} {ls st : List AV} {o v : Int} : X fz d k Q (.if_acmp .eq 12483 :: is) ls ((3, v) :: (3, o) :: st) h = ((o ≠ 0 ∧ o % 64 = 12 ∧ 3 = 3 ∧ (True) ∧ fz o 24 = none) ∧ X fz d k Q is ls st (hset h o 24 v)) := rfl
theorem x_pc_19 {fz : Int → Int → Option Int} {d k : Nat} {Q : Int → HV → Prop} {is : List Instr} {h : HV} {ls st : List AV} {o v : Int} : X fz d k Q (.if_acmp .eq 19 :: is) ls ((3, v) :: (3, o) :: st) h = ((o ≠ 0 ∧ o % 64 = 0 ∧ 3 = 3 ∧ (True) ∧ fz o 2 = none) ∧ X fz d k Q is ls st (hset h o 2 v)) := rfl
theorem x_pc_2051 {fz : Int → Int → Option Int} {d k : Nat} {Q : Int → HV → Prop} {is : List Instr} {h : HV} {ls st : List AV} {o v : Int} : X fz d k Q (.if_acmp .eq 2051 :: is) ls ((3, v) :: (3, o) :: st) h = ((o ≠ 0 ∧ o % 64 = 2 ∧ 3 = 3 ∧ (True) ∧ fz o 0 = none) ∧ X fz d k Q is ls st (hset h o 0 v)) := rfl
theorem x_pc_2083 {fz : Int → Int → Option Int} {d k : Nat} {Q : Int → HV → Prop} {is : List Instr} {h : HV} {ls st : List AV} {o v : Int} : X fz d k Q (.if_acmp .eq 2083 :: is) ls ((3, v) :: (3, o) :: st) h = ((o ≠ 0 ∧ o % 64 = 2 ∧ 3 = 3 ∧ (True) ∧ fz o 4 = none) ∧ X fz d k Q is ls st (hset h o 4 v)) := rfl
theorem x_pc_2091 {fz : Int → Int → Option Int} {d k : Nat} {Q : Int → HV → Prop} {is : List Instr} {h : HV} {ls st : List AV} {o v : Int} : X fz d k Q (.if_acmp .eq 2091 :: is) ls ((3, v) :: (3, o) :: st) h = ((o ≠ 0 ∧ o % 64 = 2 ∧ 3 = 3 ∧ (True) ∧ fz o 5 = none) ∧ X fz d k Q is ls st (hset h o 5 v)) := rfl
theorem x_pc_2107 {fz : Int → Int → Option Int} {d k : Nat} {Q : Int → HV → Prop} {is : List Instr} {h : HV} {ls st : List AV} {o v : Int} : X fz d k Q (.if_acmp .eq 2107 :: is) ls ((3, v) :: (3, o) :: st) h = ((o ≠ 0 ∧ o % 64 = 2 ∧ 3 = 3 ∧ (True) ∧ fz o 7 = none) ∧ X fz d k Q is ls st (hset h o 7 v)) := rfl
theorem x_pc_2115 {fz : Int → Int → Option Int} {d k : Nat} {Q : Int → HV → Prop} {is : List Instr} {h : HV} {ls st : List AV} {o v : Int} : X fz d k Q (.if_acmp .eq 2115 :: is) ls ((3, v) :: (3, o) :: st) h = ((o ≠ 0 ∧ o % 64 = 2 ∧ 3 = 3 ∧ (True) ∧ fz o 8 = none) ∧ X fz d k Q is ls st (hset h o 8 v)) := rfl
theorem x_pc_2123 {fz : Int → Int → Option Int} {d k : Nat} {Q : Int → HV → Prop} {is : List Instr} {h : HV} {ls st : List AV} {o v : Int} : X fz d k Q (.if_acmp .eq 2123 :: is) ls ((3, v) :: (3, o) :: st) h = ((o ≠ 0 ∧ o % 64 = 2 ∧ 3 = 3 ∧ (True) ∧ fz o 9 = none) ∧ X fz d k Q is ls st (hset h o 9 v)) := rfl
theorem x_pc_27 {fz : Int → Int → Option Int} {d k : Nat} {Q : Int → HV → Prop} {is : List Instr} {h : HV} {ls st : List AV} {o v : Int} : X fz d k Q (.if_acmp .eq 27 :: is) ls ((3, v) :: (3, o) :: st) h = ((o ≠ 0 ∧ o % 64 = 0 ∧ 3 = 3 ∧ (True) ∧ fz o 3 = none) ∧ X fz d k Q is ls st (hset h o 3 v)) := rfl
theorem x_pc_3 {fz : Int → Int → Option Int} {d k : Nat} {Q : Int → HV → Prop} {is : List Instr} {h : HV} {ls st : List AV} {o v : Int} : X fz d k Q (.if_acmp .eq 3 :: is) ls ((3, v) :: (3, o) :: st) h = ((o ≠ 0 ∧ o % 64 = 0 ∧ 3 = 3 ∧ (True) ∧ fz o 0 = none) ∧ X fz d k Q is ls st (hset h o 0 v)) := rfl
theorem x_pc_35 {fz : Int → Int → Option Int} {d k : Nat} {Q : Int → HV → Prop} {is : List Instr} {h : HV} {ls st : List AV} {o v : Int} : X fz d k Q (.if_acmp .eq 35 :: is) ls ((3, v) :: (3, o) :: st) h = ((o ≠ 0 ∧ o % 64 = 0 ∧ 3 = 3 ∧ (True) ∧ fz o 4 = none) ∧ X fz d k Q is ls st (hset h o 4 v)) := rfl
theorem x_pc_4099 {fz : Int → Int → Option Int} {d k : Nat} {Q : Int → HV → Prop} {is : List Instr} {h : HV} {ls st : List AV} {o v : Int} : X fz d k Q (.if_acmp .eq 4099 :: is) ls ((3, v) :: (3, o) :: st) h = ((o ≠ 0 ∧ o % 64 = 4 ∧ 3 = 3 ∧ (True) ∧ fz o 0 = none) ∧ X fz d k Q is ls st (hset h o 0 v)) := rfl
theorem x_pc_4107 {fz : Int → Int → Option Int} {d k : Nat} {Q : Int → HV → Prop} {is : List Instr} {h : HV} {ls st : List AV} {o v : Int} : X fz d k Q (.if_acmp .eq 4107 :: is) ls ((3, v) :: (3, o) :: st) h = ((o ≠ 0 ∧ o % 64 = 4 ∧ 3 = 3 ∧ (True) ∧ fz o 1 = none) ∧ X fz d k Q is ls st (hset h o 1 v)) := rfl
theorem x_pc_4115 {fz : Int → Int → Option Int} {d k : Nat} {Q : Int → HV → Prop} {is : List Instr} {h : HV} {ls st : List AV} {o v : Int} : X fz d k Q (.if_acmp .eq 4115 :: is) ls ((3, v) :: (3, o) :: st) h = ((o ≠ 0 ∧ o % 64 = 4 ∧ 3 = 3 ∧ (True) ∧ fz o 2 = none) ∧ X fz d k Q is ls st (hset h o 2 v)) := rfl
theorem x_pc_4123 {fz : Int → Int → Option Int} {d k : Nat} {Q : Int → HV → Prop} {is : List Instr} {h : HV} {ls st : List AV} {o v : Int} : X fz d k Q (.if_acmp .eq 4123 :: is) ls ((3, v) :: (3, o) :: st) h = ((o ≠ 0 ∧ o % 64 = 4 ∧ 3 = 3 ∧ (True) ∧ fz o 3 = none) ∧ X fz d k Q is ls st (hset h o 3 v)) := rfl
theorem x_pc_43 {fz : Int → Int → Option Int} {d k : Nat} {Q : Int → HV → Prop} {is : List Instr} {h : HV} {ls st : List AV} {o v : Int} : X fz d k Q (.if_acmp .eq 43 :: is) ls ((3, v) :: (3, o) :: st) h = ((o ≠ 0 ∧ o % 64 = 0 ∧ 3 = 3 ∧ (True) ∧ fz o 5 = none) ∧ X fz d k Q is ls st (hset h o 5 v)) := rfl
theorem x_pc_51 {fz : Int → Int → Option Int} {d k : Nat} {Q : Int → HV → Prop} {is : List Instr} {h : HV} {ls st : List AV} {o v : Int} : X fz d k Q (.if_acmp .eq 51 :: is) ls ((3, v) :: (3, o) :: st) h = ((o ≠ 0 ∧ o % 64 = 0 ∧ 3 = 3 ∧ (True) ∧ fz o 6 = none) ∧ X fz d k Q is ls st (hset h o 6 v)) := rfl
theorem x_pc_5123 {fz : Int → Int → Option Int} {d k : Nat} {Q : Int → HV → Prop} {is : List Instr} {h : HV} {ls st : List AV} {o v : Int} : X fz d k Q (.if_acmp .eq 5123 :: is) ls ((3, v) :: (3, o) :: st) h = ((o ≠ 0 ∧ o % 64 = 5 ∧ 3 = 3 ∧ (True) ∧ fz o 0 = none) ∧ X fz d k Q is ls st (hset h o 0 v)) := rfl
theorem x_pc_5131 {fz : Int → Int → Option Int} {d k : Nat} {Q : Int → HV → Prop} {is : List Instr} {h : HV} {ls st : List AV} {o v : Int} : X fz d k Q (.if_acmp .eq 5131 :: is) ls ((3, v) :: (3, o) :: st) h = ((o ≠ 0 ∧ o % 64 = 5 ∧ 3 = 3 ∧ (True) ∧ fz o 1 = none) ∧ X fz d k Q is ls st (hset h o 1 v)) := rfl
theorem x_pc_5139 {fz : Int → Int → Option Int} {d k : Nat} {Q : Int → HV → Prop} {is : List Instr} {h : HV} {ls st : List AV} {o v : Int} : X fz d k Q (.if_acmp .eq 5139 :: is) ls ((3, v) :: (3, o) :: st) h = ((o ≠ 0 ∧ o % 64 = 5 ∧ 3 = 3 ∧ (True) ∧ fz o 2 = none) ∧ X fz d k Q is ls st (hset h o 2 v)) := rfl
theorem x_pc_5171 {fz : Int → Int → Option Int} {d k : Nat} {Q : Int → HV → Prop} {is : List Instr} {h : HV} {ls st : List AV} {o v : Int} : X fz d k Q (.if_acmp .eq 5171 :: is) ls ((3, v) :: (3, o) :: st) h = ((o ≠ 0 ∧ o % 64 = 5 ∧ 3 = 3 ∧ (True) ∧ fz o 6 = none) ∧ X fz d k Q is ls st (hset h o 6 v)) := rfl
theorem x_pc_5179 {fz : Int → Int → Option Int} {d k : Nat} {Q : Int → HV → Prop} {is : List Instr} {h : HV} {ls st : List AV} {o v : Int} : X fz d k Q (.if_acmp .eq 5179 :: is) ls ((3, v) :: (3, o) :: st) h = ((o ≠ 0 ∧ o % 64 = 5 ∧ 3 = 3 ∧ (True) ∧ fz o 7 = none) ∧ X fz d k Q is ls st (hset h o 7 v)) := rfl
theorem x_pc_5195 {fz : Int → Int → Option Int} {d k : Nat} {Q : Int → HV → Prop} {is : List Instr} {h : HV} {ls st : List AV} {o v : Int} : X fz d k Q (.if_acmp .eq 5195 :: is) ls ((3, v) :: (3, o) :: st) h = ((o ≠ 0 ∧ o % 64 = 5 ∧ 3 = 3 ∧ (True) ∧ fz o 9 = none) ∧ X fz d k Q is ls st (hset h o 9 v)) := rfl
theorem x_pc_5203 {fz : Int → Int → Option Int} {d k : Nat} {Q : Int → HV → Prop} {is : List Instr} {h : HV} {ls st : List AV} {o v : Int} : X fz d k Q (.if_acmp .eq 5203 :: is) ls ((3, v) :: (3, o) :: st) h = ((o ≠ 0 ∧ o % 64 = 5 ∧ 3 = 3 ∧ (True) ∧ fz o 10 = none) ∧ X fz d k Q is ls st (hset h o 10 v)) := rfl
theorem x_pc_5211 {fz : Int → Int → Option Int} {d k : Nat} {Q : Int → HV → Prop} {is : List Instr} {h : HV} {ls st : List AV} {o v : Int} : X fz d k Q (.if_acmp .eq 5211 :: is) ls ((3, v) :: (3, o) :: st) h = ((o ≠ 0 ∧ o % 64 = 5 ∧ 3 = 3 ∧ (True) ∧ fz o 11 = none) ∧ X fz d k Q is ls st (hset h o 11 v)) := rfl
theorem x_pc_5219 {fz : Int → Int → Option Int} {d k : Nat} {Q : Int → HV → Prop} {is : List Instr} {h : HV} {ls st : List AV} {o v : Int} : X fz d k Q (.if_acmp .eq 5219 :: is) ls ((3, v) :: (3, o) :: st) h = ((o ≠ 0 ∧ o % 64 = 5 ∧ 3 = 3 ∧ (True) ∧ fz o 12 = none) ∧ X fz d k Q is ls st (hset h o 12 v)) := rfl
theorem x_pc_5227 {fz : Int → Int → Option Int} {d k : Nat} {Q : Int → HV → Prop} {is : List Instr} {h : HV} {ls st : List AV} {o v : Int} : X fz d k Q (.if_acmp .eq 5227 :: is) ls ((3, v) :: (3, o) :: st) h = ((o ≠ 0 ∧ o % 64 = 5 ∧ 3 = 3 ∧ (True) ∧ fz o 13 = none) ∧ X fz d k Q is ls st (hset h o 13 v)) := rfl
theorem x_pc_5235 {fz : Int → Int → Option Int} {d k : Nat} {Q : Int → HV → Prop} {is : List Instr} {h : HV} {ls st : List AV} {o v : Int} : X fz d k Q (.if_acmp .eq 5235 :: is) ls ((3, v) :: (3, o) :: st) h = ((o ≠ 0 ∧ o % 64 = 5 ∧ 3 = 3 ∧ (True) ∧ fz o 14 = none) ∧ X fz d k Q is ls st (hset h o 14 v)) := rfl
theorem x_pc_59 {fz : Int → Int → Option Int} {d k : Nat} {Q : Int → HV → Prop} {is : List Instr} {h : HV} {ls st : List AV} {o v : Int} : X fz d k Q (.if_acmp .eq 59 :: is) ls ((3, v) :: (3, o) :: st) h = ((o ≠ 0 ∧ o % 64 = 0 ∧ 3 = 3 ∧ (True) ∧ fz o 7 = none) ∧ X fz d k Q is ls st (hset h o 7 v)) := rfl
theorem x_pc_7187 {fz : Int → Int → Option Int} {d k : Nat} {Q : Int → HV → Prop} {is : List Instr} {h : HV} {ls st : List AV} {o v : Int} : X fz d k Q (.if_acmp .eq 7187 :: is) ls ((3, v) :: (3, o) :: st) h = ((o ≠ 0 ∧ o % 64 = 7 ∧ 3 = 3 ∧ (True) ∧ fz o 2 = none) ∧ X fz d k Q is ls st (hset h o 2 v)) := rfl
theorem x_pc_7195 {fz : Int → Int → Option Int} {d k : Nat} {Q : Int → HV → Prop} {is : List Instr} {h : HV} {ls st : List AV} {o v : Int} : X fz d k Q (.if_acmp .eq 7195 :: is) ls ((3, v) :: (3, o) :: st) h = ((o ≠ 0 ∧ o % 64 = 7 ∧ 3 = 3 ∧ (True) ∧ fz o 3 = none) ∧ X fz d k Q is ls st (hset h o 3 v)) := rfl
theorem x_pc_7203 {fz : Int → Int → Option Int} {d k : Nat} {Q : Int → HV → Prop} {is : List Instr} {h : HV} {ls st : List AV} {o v : Int} : X fz d k Q (.if_acmp .eq 7203 :: is) ls ((3, v) :: (3, o) :: st) h = ((o ≠ 0 ∧ o % 64 = 7 ∧ 3 = 3 ∧ (True) ∧ fz o 4 = none) ∧ X fz d k Q is ls st (hset h o 4 v)) := rfl
theorem x_pc_7211 {fz : Int → Int → Option Int} {d k : Nat} {Q : Int → HV → Prop} {is : List Instr} {h : HV} {ls st : List AV} {o v : Int} : X fz d k Q (.if_acmp .eq 7211 :: is) ls ((3, v) :: (3, o) :: st) h = ((o ≠ 0 ∧ o % 64 = 7 ∧ 3 = 3 ∧ (True) ∧ fz o 5 = none) ∧ X fz d k Q is ls st (hset h o 5 v)) := rfl
theorem x_pc_7219 {fz : Int → Int → Option Int} {d k : Nat} {Q : Int → HV → Prop} {is : List Instr} {h : HV} {ls st : List AV} {o v : Int} : X fz d k Q (.if_acmp .eq 7219 :: is) ls ((3, v) :: (3, o) :: st) h = ((o ≠ 0 ∧ o % 64 = 7 ∧ 3 = 3 ∧ (True) ∧ fz o 6 = none) ∧ X fz d k Q is ls st (hset h o 6 v)) := rfl
theorem x_pc_7227 {fz : Int → Int → Option Int} {d k : Nat} {Q : Int → HV → Prop} {is : List Instr} {h : HV} {ls st : List AV} {o v : Int} : X fz d k Q (.if_acmp .eq 7227 :: is) ls ((3, v) :: (3, o) :: st) h = ((o ≠ 0 ∧ o % 64 = 7 ∧ 3 = 3 ∧ (True) ∧ fz o 7 = none) ∧ X fz d k Q is ls st (hset h o 7 v)) := rfl
theorem x_pc_7235 {fz : Int → Int → Option Int} {d k : Nat} {Q : Int → HV → Prop} {is : List Instr} {h : HV} {ls st : List AV} {o v : Int} : X fz d k Q (.if_acmp .eq 7235 :: is) ls ((3, v) :: (3, o) :: st) h = ((o ≠ 0 ∧ o % 64 = 7 ∧ 3 = 3 ∧ (True) ∧ fz o 8 = none) ∧ X fz d k Q is ls st (hset h o 8 v)) := rfl
theorem x_pc_7243 {fz : Int → Int → Option Int} {d k : Nat} {Q : Int → HV → Prop} {is : List Instr} {h : HV} {ls st : List AV} {o v : Int} : X fz d k Q (.if_acmp .eq 7243 :: is) ls ((3, v) :: (3, o) :: st) h = ((o ≠ 0 ∧ o % 64 = 7 ∧ 3 = 3 ∧ (True) ∧ fz o 9 = none) ∧ X fz d k Q is ls st (hset h o 9 v)) := rfl
theorem x_pc_7259 {fz : Int → Int → Option Int} {d k : Nat} {Q : Int → HV → Prop} {is : List Instr} {h : HV} {ls st : List AV} {o v : Int} : X fz d k Q (.if_acmp .eq 7259 :: is) ls ((3, v) :: (3, o) :: st) h = ((o ≠ 0 ∧ o % 64 = 7 ∧ 3 = 3 ∧ (True) ∧ fz o 11 = none) ∧ X fz d k Q is ls st (hset h o 11 v)) := rfl
theorem x_pc_8195 {fz : Int → Int → Option Int} {d k : Nat} {Q : Int → HV → Prop} {is : List Instr} {h : HV} {ls st : List AV} {o v : Int} : X fz d k Q (.if_acmp .eq 8195 :: is) ls ((3, v) :: (3, o) :: st) h = ((o ≠ 0 ∧ o % 64 = 8 ∧ 3 = 3 ∧ (True) ∧ fz o 0 = none) ∧ X fz d k Q is ls st (hset h o 0 v)) := rfl
theorem x_pc_8211 {fz : Int → Int → Option Int} {d k : Nat} {Q : Int → HV → Prop} {is : List Instr} {h : HV} {ls st : List AV} {o v : Int} : X fz d k Q (.if_acmp .eq 8211 :: is) ls ((3, v) :: (3, o) :: st) h = ((o ≠ 0 ∧ o % 64 = 8 ∧ 3 = 3 ∧ (True) ∧ fz o 2 = none) ∧ X fz d k Q is ls st (hset h o 2 v)) := rfl
theorem x_pc_8219 {fz : Int → Int → Option Int} {d k : Nat} {Q : Int → HV → Prop} {is : List Instr} {h : HV} {ls st : List AV} {o v : Int} : X fz d k Q (.if_acmp .eq 8219 :: is) ls ((3, v) :: (3, o) :: st) h = ((o ≠ 0 ∧ o % 64 = 8 ∧ 3 = 3 ∧ (True) ∧ fz o 3 = none) ∧ X fz d k Q is ls st (hset h o 3 v)) := rfl
theorem x_pc_8235 {fz : Int → Int → Option Int} {d k : Nat} {Q : Int → HV → Prop} {is : List Instr} {h : HV} {ls st : List AV} {o v : Int} : X fz d k Q (.if_acmp .eq 8235 :: is) ls ((3, v) :: (3, o) :: st) h = ((o ≠ 0 ∧ o % 64 = 8 ∧ 3 = 3 ∧ (True) ∧ fz o 5 = none) ∧ X fz d k Q is ls st (hset h o 5 v)) := rfl
theorem x_pc_8251 {fz : Int → Int → Option Int} {d k : Nat} {Q : Int → HV → Prop} {is : List Instr} {h : HV} {ls st : List AV} {o v : Int} : X fz d k Q (.if_acmp .eq 8251 :: is) ls ((3, v) :: (3, o) :: st) h = ((o ≠ 0 ∧ o % 64 = 8 ∧ 3 = 3 ∧ (True) ∧ fz o 7 = none) ∧ X fz d k Q is ls st (hset h o 7 v)) := rfl
theorem x_pc_8259 {fz : Int → Int → Option Int} {d k : Nat} {Q : Int → HV → Prop} {is : List Instr} {h : HV} {ls st : List AV} {o v : Int} : X fz d k Q (.if_acmp .eq 8259 :: is) ls ((3, v) :: (3, o) :: st) h = ((o ≠ 0 ∧ o % 64 = 8 ∧ 3 = 3 ∧ (True) ∧ fz o 8 = none) ∧ X fz d k Q is ls st (hset h o 8 v)) := rfl
theorem x_pc_9219 {fz : Int → Int → Option Int} {d k : Nat} {Q : Int → HV → Prop} {is : List Instr} {h : HV} {ls st : List AV} {o v : Int} : X fz d k Q (.if_acmp .eq 9219 :: is) ls ((3, v) :: (3, o) :: st) h = ((o ≠ 0 ∧ o % 64 = 9 ∧ 3 = 3 ∧ (True) ∧ fz o 0 = none) ∧ X fz d k Q is ls st (hset h o 0 v)) := rfl
theorem x_pc_9235 {fz : Int → Int → Option Int} {d k : Nat} {Q : Int → HV → Prop} {is : List Instr} {h : HV} {ls st : List AV} {o v : Int} : X fz d k Q (.if_acmp .eq 9235 :: is) ls ((3, v) :: (3, o) :: st) h = ((o ≠ 0 ∧ o % 64 = 9 ∧ 3 = 3 ∧ (True) ∧ fz o 2 = none) ∧ X fz d k Q is ls st (hset h o 2 v)) := rfl
theorem x_pc_9243 {fz : Int → Int → Option Int} {d k : Nat} {Q : Int → HV → Prop} {is : List Instr} {h : HV} {ls st : List AV} {o v : Int} : X fz d k Q (.if_acmp .eq 9243 :: is) ls ((3, v) :: (3, o) :: st) h = ((o ≠ 0 ∧ o % 64 = 9 ∧ 3 = 3 ∧ (True) ∧ fz o 3 = none) ∧ X fz d k Q is ls st (hset h o 3 v)) := rfl
theorem x_pc_9251 {fz : Int → Int → Option Int} {d k : Nat} {Q : Int → HV → Prop} {is : List Instr} {h : HV} {ls st : List AV} {o v : Int} : X fz d k Q (.if_acmp .eq 9251 :: is) ls ((3, v) :: (3, o) :: st) h = ((o ≠ 0 ∧ o % 64 = 9 ∧ 3 = 3 ∧ (True) ∧ fz o 4 = none) ∧ X fz d k Q is ls st (hset h o 4 v)) := rfl
theorem x_pc_9259 {fz : Int → Int → Option Int} {d k : Nat} {Q : Int → HV → Prop} {is : List Instr} {h : HV} {ls st : List AV} {o v : Int} : X fz d k Q (.if_acmp .eq 9259 :: is) ls ((3, v) :: (3, o) :: st) h = ((o ≠ 0 ∧ o % 64 = 9 ∧ 3 = 3 ∧ (True) ∧ fz o 5 = none) ∧ X fz d k Q is ls st (hset h o 5 v)) := rfl
theorem x_pc_9275 {fz : Int → Int → Option Int} {d k : Nat} {Q : Int → HV → Prop} {is : List Instr} {h : HV} {ls st : List AV} {o v : Int} : X fz d k Q (.if_acmp .eq 9275 :: is) ls ((3, v) :: (3, o) :: st) h = ((o ≠ 0 ∧ o % 64 = 9 ∧ 3 = 3 ∧ (True) ∧ fz o 7 = none) ∧ X fz d k Q is ls st (hset h o 7 v)) := rfl
theorem x_pc_9283 {fz : Int → Int → Option Int} {d k : Nat} {Q : Int → HV → Prop} {is : List Instr} {h : HV} {ls st : List AV} {o v : Int} : X fz d k Q (.if_acmp .eq 9283 :: is) ls ((3, v) :: (3, o) :: st) h = ((o ≠ 0 ∧ o % 64 = 9 ∧ 3 = 3 ∧ (True) ∧ fz o 8 = none) ∧ X fz d k Q is ls st (hset h o 8 v)) := rfl
theorem x_pc_9291 {fz : Int → Int → Option Int} {d k : Nat} {Q : Int → HV → Prop} {is : List Instr} {h : HV} {ls st : List AV} {o v : Int} : X fz d k Q (.if_acmp .eq 9291 :: is) ls ((3, v) :: (3, o) :: st) h = ((o ≠ 0 ∧ o % 64 = 9 ∧ 3 = 3 ∧ (True) ∧ fz o 9 = none) ∧ X fz d k Q is ls st (hset h o 9 v)) := rfl
theorem x_pf_1032 {fz : Int → Int → Option Int} {d k : Nat} {Q : Int → HV → Prop} {is : List Instr} {h : HV} {ls st : List AV} {o v : Int} : X fz d k Q (.jsr_w 1032 :: is) ls ((0, v) :: (3, o) :: st) h = ((o ≠ 0 ∧ o % 64 = 1 ∧ 0 = 0 ∧ True) ∧ X fz d k Q is ls st (hset h o 1 v)) := rfl
theorem x_pf_10328 {fz : Int → Int → Option Int} {d k : Nat} {Q : Int → HV → Prop} {is : List Instr} {h : HV} {ls st : List AV} {o v : Int} : X fz d k Q (.jsr_w 10328 :: is) ls ((0, v) :: (3, o) :: st) h = ((o ≠ 0 ∧ o % 64 = 10 ∧ 0 = 0 ∧ True) ∧ X fz d k Q is ls st (hset h o 11 v)) := rfl
theorem x_pf_10360 {fz : Int → Int → Option Int} {d k : Nat} {Q : Int → HV → Prop} {is : List Instr} {h : HV} {ls st : List AV} {o v : Int} : X fz d k Q (.jsr_w 10360 :: is) ls ((0, v) :: (3, o) :: st) h = ((o ≠ 0 ∧ o % 64 = 10 ∧ 0 = 0 ∧ True) ∧ X fz d k Q is ls st (hset h o 15 v)) := rfl
theorem x_pf_10376 {fz : Int → Int → Option Int} {d k : Nat} {Q : Int → HV → Prop} {is : List Instr} {h : HV} {ls st : List AV} {o v : Int} : X fz d k Q (.jsr_w 10376 :: is) ls ((0, v) :: (3, o) :: st) h = ((o ≠ 0 ∧ o % 64 = 10 ∧ 0 = 0 ∧ True) ∧ X fz d k Q is ls st (hset h o 17 v)) := rfl
theorem x_pf_1040 {fz : Int → Int → Option Int} {d k : Nat} {Q : Int → HV → Prop} {is : List Instr} {h : HV} {ls st : List AV} {o v : Int} : X fz d k Q (.jsr_w 1040 :: is) ls ((0, v) :: (3, o) :: st) h = ((o ≠ 0 ∧ o % 64 = 1 ∧ 0 = 0 ∧ True) ∧ X fz d k Q is ls st (hset h o 2 v)) := rfl
theorem x_pf_1048 {fz : Int → Int → Option Int} {d k : Nat} {Q : Int → HV → Prop} {is : List Instr} {h : HV} {ls st : List AV} {o v : Int} : X fz d k Q (.jsr_w 1048 :: is) ls ((0, v) :: (3, o) :: st) h = ((o ≠ 0 ∧ o % 64 = 1 ∧ 0 = 0 ∧ True) ∧ X fz d k Q is ls st (hset h o 3 v)) := rfl
theorem x_pf_1056 {fz : Int → Int → Option Int} {d k : Nat} {Q : Int → HV → Prop} {is : List Instr} {h : HV} {ls st : List AV} {o v : Int} : X fz d k Q (.jsr_w 1056 :: is) ls ((0, v) :: (3, o) :: st) h = ((o ≠ 0 ∧ o % 64 = 1 ∧ 0 = 0 ∧ True) ∧ X fz d k Q is ls st (hset h o 4 v)) := rfl
theorem x_pf_1064 {fz : Int → Int → Option Int} {d k : Nat} {Q : Int → HV → Prop} {is : List Instr} {h : HV} {ls st : List AV} {o v : Int} : X fz d k Q (.jsr_w 1064 :: is) ls ((0, v) :: (3, o) :: st) h = ((o ≠ 0 ∧ o % 64 = 1 ∧ 0 = 0 ∧ True) ∧ X fz d k Q is ls st (hset h o 5 v)) := rfl
theorem x_pf_1073 {fz : Int → Int → Option Int} {d k : Nat} {Q : Int → HV → Prop} {is : List Instr} {h : HV} {ls st : List AV} {o v : Int} : X fz d k Q (.jsr_w 1073 :: is) ls ((1, v) :: (3, o) :: st) h = ((o ≠ 0 ∧ o % 64 = 1 ∧ 1 = 1 ∧ True) ∧ X fz d k Q is ls st (hset h o 6 v)) := rfl
theorem x_pf_1081 {fz : Int → Int → Option Int} {d k : Nat} {Q : Int → HV → Prop} {is : List Instr} {h : HV} {ls st : List AV} {o v : Int} : X fz d k Q (.jsr_w 1081 :: is) ls ((1, v) :: (3, o) :: st) h = ((o ≠ 0 ∧ o % 64 = 1 ∧ 1 = 1 ∧ True) ∧ X fz d k Q is ls st (hset h o 7 v)) := rfl
theorem x_pf_1088 {fz : Int → Int → Option Int} {d k : Nat} {Q : Int → HV → Prop} {is : List Instr} {h : HV} {ls st : List AV} {o v : Int} : X fz d k Q (.jsr_w 1088 :: is) ls ((0, v) :: (3, o) :: st) h = ((o ≠ 0 ∧ o % 64 = 1 ∧ 0 = 0 ∧ True) ∧ X fz d k Q is ls st (hset h o 8 v)) := rfl
theorem x_pf_1101 {fz : Int → Int → Option Int} {d k : Nat} {Q : Int → HV → Prop} {is : List Instr} {h : HV} {ls st : List AV} {o v : Int} : X fz d k Q (.jsr_w 1101 :: is) ls ((0, v) :: (3, o) :: st) h = ((o ≠ 0 ∧ o % 64 = 1 ∧ 0 = 0 ∧ 0 ≤ v ∧ v ≤ 65535) ∧ X fz d k Q is ls st (hset h o 9 v)) := rfl
theorem x_pf_11272 {fz : Int → Int → Option Int} {d k : Nat} {Q : Int → HV → Prop} {is : List Instr} {h : HV} {ls st : List AV} {o v : Int} : X fz d k Q (.jsr_w 11272 :: is) ls ((0, v) :: (3, o) :: st) h = ((o ≠ 0 ∧ o % 64 = 11 ∧ 0 = 0 ∧ True) ∧ X fz d k Q is ls st (hset h o 1 v)) := rfl
theorem x_pf_11280 {fz : Int → Int → Option Int} {d k : Nat} {Q : Int → HV → Prop} {is : List Instr} {h : HV} {ls st : List AV} {o v : Int} : X fz d k Q (.jsr_w 11280 :: is) ls ((0, v) :: (3, o) :: st) h = ((o ≠ 0 ∧ o % 64 = 11 ∧ 0 = 0 ∧ True) ∧ X fz d k Q is ls st (hset h o 2 v)) := rfl
theorem x_pf_11288 {fz : Int → Int → Option Int} {d k : Nat} {Q : Int → HV → Prop} {is : List Instr} {h : HV} {ls st : List AV} {o v : Int} : X fz d k Q (.jsr_w 11288 :: is) ls ((0, v) :: (3, o) :: st) h = ((o ≠ 0 ∧ o % 64 = 11 ∧ 0 = 0 ∧ True) ∧ X fz d k Q is ls st (hset h o 3 v)) := rfl
theorem x_pf_11296 {fz : Int → Int → Option Int} {d k : Nat} {Q : Int → HV → Prop} {is : List Instr} {h : HV} {ls st : List AV} {o v : Int} : X fz d k Q (.jsr_w 11296 :: is) ls ((0, v) :: (3, o) :: st) h = ((o ≠ 0 ∧ o % 64 = 11 ∧ 0 = 0 ∧ True) ∧ X fz d k Q is ls st (hset h o 4 v)) := rfl
theorem x_pf_11304 {fz : Int → Int → Option Int} {d k : Nat} {Q : Int → HV → Prop} {is : List Instr} {h : HV} {ls st : List AV} {o v : Int} : X fz d k Q (.jsr_w 11304 :: is) ls ((0, v) :: (3, o) :: st) h = ((o ≠ 0 ∧ o % 64 = 11 ∧ 0 = 0 ∧ True) ∧ X fz d k Q is ls st (hset h o 5 v)) := rfl
theorem x_pf_11314 {fz : Int → Int → Option Int} {d k : Nat} {Q : Int → HV → Prop} {is : List Instr} {h : HV} {ls st : List AV} {o v : Int} : X fz d k Q (.jsr_w 11314 :: is) ls ((2, v) :: (3, o) :: st) h = ((o ≠ 0 ∧ o % 64 = 11 ∧ 2 = 2 ∧ True) ∧ X fz d k Q is ls st (hset h o 6 v)) := rfl
theorem x_pf_11320 {fz : Int → Int → Option Int} {d k : Nat} {Q : Int → HV → Prop} {is : List Instr} {h : HV} {ls st : List AV} {o v : Int} : X fz d k Q (.jsr_w 11320 :: is) ls ((0, v) :: (3, o) :: st) h = ((o ≠ 0 ∧ o % 64 = 11 ∧ 0 = 0 ∧ True) ∧ X fz d k Q is ls st (hset h o 7 v)) := rfl
theorem x_pf_11328 {fz : Int → Int → Option Int} {d k : Nat} {Q : Int → HV → Prop} {is : List Instr} {h : HV} {ls st : List AV} {o v : Int} : X fz d k Q (.jsr_w 11328 :: is) ls ((0, v) :: (3, o) :: st) h = ((o ≠ 0 ∧ o % 64 = 11 ∧ 0 = 0 ∧ True) ∧ X fz d k Q is ls st (hset h o 8 v)) := rfl
theorem x_pf_11339 {fz : Int → Int → Option Int} {d k : Nat} {Q : Int → HV → Prop} {is : List Instr} {h : HV} {ls st : List AV} {o v : Int} : X fz d k Q (.jsr_w 11339 :: is) ls ((3, v) :: (3, o) :: st) h = ((o ≠ 0 ∧ o % 64 = 11 ∧ 3 = 3 ∧ True) ∧ X fz d k Q is ls st (hset h o 9 v)) := rfl
theorem x_pf_11347 {fz : Int → Int → Option Int} {d k : Nat} {Q : Int → HV → Prop} {is : List Instr} {h : HV} {ls st : List AV} {o v : Int} : X fz d k Q (.jsr_w 11347 :: is) ls ((3, v) :: (3, o) :: st) h = ((o ≠ 0 ∧ o % 64 = 11 ∧ 3 = 3 ∧ True) ∧ X fz d k Q is ls st (hset h o 10 v)) := rfl
theorem x_pf_11360 {fz : Int → Int → Option Int} {d k : Nat} {Q : Int → HV → Prop} {is : List Instr} {h : HV} {ls st : List AV} {o v : Int} : X fz d k Q (.jsr_w 11360 :: is) ls ((0, v) :: (3, o) :: st) h = ((o ≠ 0 ∧ o % 64 = 11 ∧ 0 = 0 ∧ True) ∧ X fz d k Q is ls st (hset h o 12 v)) := rfl
theorem x_pf_11368 {fz : Int → Int → Option Int} {d k : Nat} {Q : Int → HV → Prop} {is : List Instr} {h : HV} {ls st : List AV} {o v : Int} : X fz d k Q (.jsr_w 11368 :: is) ls ((0, v) :: (3, o) :: st) h = ((o ≠ 0 ∧ o % 64 = 11 ∧ 0 = 0 ∧ True) ∧ X fz d k Q is ls st (hset h o 13 v)) := rfl
theorem x_pf_11384 {fz : Int → Int → Option Int} {d k : Nat} {Q : Int → HV → Prop} {is : List Instr} {h : HV} {ls st : List AV} {o v : Int} : X fz d k Q (.jsr_w 11384 :: is) ls ((0, v) :: (3, o) :: st) h = ((o ≠ 0 ∧ o % 64 = 11 ∧ 0 = 0 ∧ True) ∧ X fz d k Q is ls st (hset h o 15 v)) := rfl
theorem x_pf_11416 {fz : Int → Int → Option Int} {d k : Nat} {Q : Int → HV → Prop} {is : List Instr} {h : HV} {ls st : List AV} {o v : Int} : X fz d k Q (.jsr_w 11416 :: is) ls ((0, v) :: (3, o) :: st) h = ((o ≠ 0 ∧ o % 64 = 11 ∧ 0 = 0 ∧ True) ∧ X fz d k Q is ls st (hset h o 19 v)) := rfl
theorem x_pf_11456 {fz : Int → Int → Option Int} {d k : Nat} {Q : Int → HV → Prop} {is : List Instr} {h : HV} {ls st : List AV} {o v : Int} : X fz d k Q (.jsr_w 11456 :: is) ls ((0, v) :: (3, o) :: st) h = ((o ≠ 0 ∧ o % 64 = 11 ∧ 0 = 0 ∧ True) ∧ X fz d k Q is ls st (hset h o 24 v)) := rfl
theorem x_pf_11464 {fz : Int → Int → Option Int} {d k : Nat} {Q : Int → HV → Prop} {is : List Instr} {h : HV} {ls st : List AV} {o v : Int} : X fz d k Q (.jsr_w 11464 :: is) ls ((0, v) :: (3, o) :: st) h = ((o ≠ 0 ∧ o % 64 = 11 ∧ 0 = 0 ∧ True) ∧ X fz d k Q is ls st (hset h o 25 v)) := rfl
theorem x_pf_11504 {fz : Int → Int → Option Int} {d k : Nat} {Q : Int → HV → Prop} {is : List Instr} {h : HV} {ls st : List AV} {o v : Int} : X fz d k Q (.jsr_w 11504 :: is) ls ((0, v) :: (3, o) :: st) h = ((o ≠ 0 ∧ o % 64 = 11 ∧ 0 = 0 ∧ True) ∧ X fz d k Q is ls st (hset h o 30 v)) := rfl
theorem x_pf_11552 {fz : Int → Int → Option Int} {d k : Nat} {Q : Int → HV → Prop} {is : List Instr} {h : HV} {ls st : List AV} {o v : Int} : X fz d k Q (.jsr_w 11552 :: is) ls ((0, v) :: (3, o) :: st) h = ((o ≠ 0 ∧ o % 64 = 11 ∧ 0 = 0 ∧ True) ∧ X fz d k Q is ls st (hset h o 36 v)) := rfl
theorem x_pf_11592 {fz : Int → Int → Option Int} {d k : Nat} {Q : Int → HV → Prop} {is : List Instr} {h : HV} {ls st : List AV} {o v : Int} : X fz d k Q (.jsr_w 11592 :: is) ls ((0, v) :: (3, o) :: st) h = ((o ≠ 0 ∧ o % 64 = 11 ∧ 0 = 0 ∧ True) ∧ X fz d k Q is ls st (hset h o 41 v)) := rfl
theorem x_pf_11616 {fz : Int → Int → Option Int} {d k : Nat} {Q : Int → HV → Prop} {is : List Instr} {h : HV} {ls st : List AV} {o v : Int} : X fz d k Q (.jsr_w 11616 :: is) ls ((0, v) :: (3, o) :: st) h = ((o ≠ 0 ∧ o % 64 = 11 ∧ 0 = 0 ∧ True) ∧ X fz d k Q is ls st (hset h o 44 v)) := rfl
theorem x_pf_11680 {fz : Int → Int → Option Int} {d k : Nat} {Q : Int → HV → Prop} {is : List Instr} {h : HV} {ls st : List AV} {o v : Int} : X fz d k Q (.jsr_w 11680 :: is) ls ((0, v) :: (3, o) :: st) h = ((o ≠ 0 ∧ o % 64 = 11 ∧ 0 = 0 ∧ True) ∧ X fz d k Q is ls st (hset h o 52 v)) := rfl
theorem x_pf_11688 {fz : Int → Int → Option Int} {d k : Nat} {Q : Int → HV → Prop} {is : List Instr} {h : HV} {ls st : List AV} {o v : Int} : X fz d k Q (.jsr_w 11688 :: is) ls ((0, v) :: (3, o) :: st) h = ((o ≠ 0 ∧ o % 64 = 11 ∧ 0 = 0 ∧ True) ∧ X fz d k Q is ls st (hset h o 53 v)) := rfl
theorem x_pf_11696 {fz : Int → Int → Option Int} {d k : Nat} {Q : Int → HV → Prop} {is : List Instr} {h : HV} {ls st : List AV} {o v : Int} : X fz d k Q (.jsr_w 11696 :: is) ls ((0, v) :: (3, o) :: st) h = ((o ≠ 0 ∧ o % 64 = 11 ∧ 0 = 0 ∧ True) ∧ X fz d k Q is ls st (hset h o 54 v)) := rfl
theorem x_pf_11704 {fz : Int → Int → Option Int} {d k : Nat} {Q : Int → HV → Prop} {is : List Instr} {h : HV} {ls st : List AV} {o v : Int} : X fz d k Q (.jsr_w 11704 :: is) ls ((0, v) :: (3, o) :: st) h = ((o ≠ 0 ∧ o % 64 = 11 ∧ 0 = 0 ∧ True) ∧ X fz d k Q is ls st (hset h o 55 v)) := rfl
theorem x_pf_11716 {fz : Int → Int → Option Int} {d k : Nat} {Q : Int → HV → Prop} {is : List Instr} {h : HV} {ls st : List AV} {o v : Int} : X fz d k Q (.jsr_w 11716 :: is) ls ((0, v) :: (3, o) :: st) h = ((o ≠ 0 ∧ o % 64 = 11 ∧ 0 = 0 ∧ 0 ≤ v ∧ v ≤ 1) ∧ X fz d k Q is ls st (hset h o 56 v)) := rfl
theorem x_pf_11720 {fz : Int → Int → Option Int} {d k : Nat} {Q : Int → HV → Prop} {is : List Instr} {h : HV} {ls st : List AV} {o v : Int} : X fz d k Q (.jsr_w 11720 :: is) ls ((0, v) :: (3, o) :: st) h = ((o ≠ 0 ∧ o % 64 = 11 ∧ 0 = 0 ∧ True) ∧ X fz d k Q is ls st (hset h o 57 v)) := rfl
theorem x_pf_11728 {fz : Int → Int → Option Int} {d k : Nat} {Q : Int → HV → Prop} {is : List Instr} {h : HV} {ls st : List AV} {o v : Int} : X fz d k Q (.jsr_w 11728 :: is) ls ((0, v) :: (3, o) :: st) h = ((o ≠ 0 ∧ o % 64 = 11 ∧ 0 = 0 ∧ True) ∧ X fz d k Q is ls st (hset h o 58 v)) := rfl
theorem x_pf_11737 {fz : Int → Int → Option Int} {d k : Nat} {Q : Int → HV → Prop} {is : List Instr} {h : HV} {ls st : List AV} {o v : Int} : X fz d k Q (.jsr_w 11737 :: is) ls ((1, v) :: (3, o) :: st) h = ((o ≠ 0 ∧ o % 64 = 11 ∧ 1 = 1 ∧ True) ∧ X fz d k Q is ls st (hset h o 59 v)) := rfl
theorem x_pf_11752 {fz : Int → Int → Option Int} {d k : Nat} {Q : Int → HV → Prop} {is : List Instr} {h : HV} {ls st : List AV} {o v : Int} : X fz d k Q (.jsr_w 11752 :: is) ls ((0, v) :: (3, o) :: st) h = ((o ≠ 0 ∧ o % 64 = 11 ∧ 0 = 0 ∧ True) ∧ X fz d k Q is ls st (hset h o 61 v)) := rfl
theorem x_pf_11784 {fz : Int → Int → Option Int} {d k : Nat} {Q : Int → HV → Prop} {is : List Instr} {h : HV} {ls st : List AV} {o v : Int} : X fz d k Q (.jsr_w 11784 :: is) ls ((0, v) :: (3, o) :: st) h = ((o ≠ 0 ∧ o % 64 = 11 ∧ 0 = 0 ∧ True) ∧ X fz d k Q is ls st (hset h o 65 v)) := rfl
theorem x_pf_11820 {fz : Int → Int → Option Int} {d k : Nat} {Q : Int → HV → Prop} {is : List Instr} {h : HV} {ls st : List AV} {o v : Int} : X fz d k Q (.jsr_w 11820 :: is) ls ((0, v) :: (3, o) :: st) h = ((o ≠ 0 ∧ o % 64 = 11 ∧ 0 = 0 ∧ 0 ≤ v ∧ v ≤ 1) ∧ X fz d k Q is ls st (hset h o 69 v)) := rfl
theorem x_pf_11828 {fz : Int → Int → Option Int} {d k : Nat} {Q : Int → HV → Prop} {is : List Instr} {h : HV} {ls st : List AV} {o v : Int} : X fz d k Q (.jsr_w 11828 :: is) ls ((0, v) :: (3, o) :: st) h = ((o ≠ 0 ∧ o % 64 = 11 ∧ 0 = 0 ∧ 0 ≤ v ∧ v ≤ 1) ∧ X fz d k Q is ls st (hset h o 70 v)) := rfl
theorem x_pf_11836 {fz : Int → Int → Option Int} {d k : Nat} {Q : Int → HV → Prop} {is : List Instr} {h : HV} {ls st : List AV} {o v : Int} : X fz d k Q (.jsr_w 11836 :: is) ls ((0, v) :: (3, o) :: st) h = ((o ≠ 0 ∧ o % 64 = 11 ∧ 0 = 0 ∧ 0 ≤ v ∧ v ≤ 1) ∧ X fz d k Q is ls st (hset h o 71 v)) := rfl
theorem x_pf_11840 {fz : Int → Int → Option Int} {d k : Nat} {Q : Int → HV → Prop} {is : List Instr} {h : HV} {ls st : List AV} {o v : Int} : X fz d k Q (.jsr_w 11840 :: is) ls ((0, v) :: (3, o) :: st) h = ((o ≠ 0 ∧ o % 64 = 11 ∧ 0 = 0 ∧ True) ∧ X fz d k Q is ls st (hset h o 72 v)) := rfl
theorem x_pf_11848 {fz : Int → Int → Option Int} {d k : Nat} {Q : Int → HV → Prop} {is : List Instr} {h : HV} {ls st : List AV} {o v : Int} : X fz d k Q (.jsr_w 11848 :: is) ls ((0, v) :: (3, o) :: st) h = ((o ≠ 0 ∧ o % 64 = 11 ∧ 0 = 0 ∧ True) ∧ X fz d k Q is ls st (hset h o 73 v)) := rfl
theorem x_pf_11956 {fz : Int → Int → Option Int} {d k : Nat} {Q : Int → HV → Prop} {is : List Instr} {h : HV} {ls st : List AV} {o v : Int} : X fz d k Q (.jsr_w 11956 :: is) ls ((0, v) :: (3, o) :: st) h = ((o ≠ 0 ∧ o % 64 = 11 ∧ 0 = 0 ∧ 0 ≤ v ∧ v ≤ 1) ∧ X fz d k Q is ls st (hset h o 86 v)) := rfl
theorem x_pf_12008 {fz : Int → Int → Option Int} {d k : Nat} {Q : Int → HV → Prop} {is : List Instr} {h : HV} {ls st : List AV} {o v : Int} : X fz d k Q (.jsr_w 12008 :: is) ls ((0, v) :: (3, o) :: st) h = ((o ≠ 0 ∧ o % 64 = 11 ∧ 0 = 0 ∧ True) ∧ X fz d k Q is ls st (hset h o 93 v)) := rfl
theorem x_pf_12400 {fz : Int → Int → Option Int} {d k : Nat} {Q : Int → HV → Prop} {is : List Instr} {h : HV} {ls st : List AV} {o v : Int} : X fz d k Q (.jsr_w 12400 :: is) ls ((0, v) :: (3, o) :: st) h = ((o ≠ 0 ∧ o % 64 = 12 ∧ 0 = 0 ∧ True) ∧ X fz d k Q is ls st (hset h o 14 v)) := rfl
theorem x_pf_12408 {fz : Int → Int → Option Int} {d k : Nat} {Q : Int → HV → Prop} {is : List Instr} {h : HV} {ls st : List AV} {o v : Int} : X fz d k Q (.jsr_w 12408 :: is) ls ((0, v) :: (3, o) :: st) h = ((o ≠ 0 ∧ o % 64 = 12 ∧ 0 = 0 ∧ True) ∧ X fz d k Q is ls st (hset h o 15 v)) := rfl
theorem x_pf_12448 {fz : Int → Int → Option Int} {d k : Nat} {Q : Int → HV → Prop} {is : List Instr} {h : HV} {ls st : List AV} {o v : Int} : X fz d k Q (.jsr_w 12448 :: is) ls ((0, v) :: (3, o) :: st) h = ((o ≠ 0 ∧ o % 64 = 12 ∧ 0 = 0 ∧ True) ∧ X fz d k Q is ls st (hset h o 20 v)) := rfl
theorem x_pf_12456 {fz : Int → Int → Option Int} {d k : Nat} {Q : Int → HV → Prop} {is : List Instr} {h : HV} {ls st : List AV} {o v : Int} : X fz d k Q (.jsr_w 12456 :: is) ls ((0, v) :: (3, o) :: st) h = ((o ≠ 0 ∧ o % 64 = 12 ∧ 0 = 0 ∧ True) ∧ X fz d k Q is ls st (hset h o 21 v)) := rfl
theorem x_pf_12464 {fz : Int → Int → Option Int} {d k : Nat} {Q : Int → HV → Prop} {is : List Instr} {h : HV} {ls st : List AV} {o v : Int} : X fz d k Q (.jsr_w 12464 :: is) ls ((0, v) :: (3, o) :: st) h = ((o ≠ 0 ∧ o % 64 = 12 ∧ 0 = 0 ∧ True) ∧ X fz d k Q is ls st (hset h o 22 v)) := rfl
theorem x_pf_128 {fz : Int → Int → Option Int} {d k : Nat} {Q : Int → HV → Prop} {is : List Instr} {h : HV} {ls st : List AV} {o v : Int} : X fz d k Q (.jsr_w 128 :: is) ls ((0, v) :: (3, o) :: st) h = ((o ≠ 0 ∧ o % 64 = 0 ∧ 0 = 0 ∧ True) ∧ X fz d k Q is ls st (hset h o 16 v)) := rfl
theorem x_pf_2059 {fz : Int → Int → Option Int} {d k : Nat} {Q : Int → HV → Prop} {is : List Instr} {h : HV} {ls st : List AV} {o v : Int} : X fz d k Q (.jsr_w 2059 :: is) ls ((3, v) :: (3, o) :: st) h = ((o ≠ 0 ∧ o % 64 = 2 ∧ 3 = 3 ∧ True) ∧ X fz d k Q is ls st (hset h o 1 v)) := rfl
theorem x_pf_2064 {fz : Int → Int → Option Int} {d k : Nat} {Q : Int → HV → Prop} {is : List Instr} {h : HV} {ls st : List AV} {o v : Int} : X fz d k Q (.jsr_w 2064 :: is) ls ((0, v) :: (3, o) :: st) h = ((o ≠ 0 ∧ o % 64 = 2 ∧ 0 = 0 ∧ True) ∧ X fz d k Q is ls st (hset h o 2 v)) := rfl
theorem x_pf_2072 {fz : Int → Int → Option Int} {d k : Nat} {Q : Int → HV → Prop} {is : List Instr} {h : HV} {ls st : List AV} {o v : Int} : X fz d k Q (.jsr_w 2072 :: is) ls ((0, v) :: (3, o) :: st) h = ((o ≠ 0 ∧ o % 64 = 2 ∧ 0 = 0 ∧ True) ∧ X fz d k Q is ls st (hset h o 3 v)) := rfl
theorem x_pf_2096 {fz : Int → Int → Option Int} {d k : Nat} {Q : Int → HV → Prop} {is : List Instr} {h : HV} {ls st : List AV} {o v : Int} : X fz d k Q (.jsr_w 2096 :: is) ls ((0, v) :: (3, o) :: st) h = ((o ≠ 0 ∧ o % 64 = 2 ∧ 0 = 0 ∧ True) ∧ X fz d k Q is ls st (hset h o 6 v)) := rfl
theorem x_pf_2128 {fz : Int → Int → Option Int} {d k : Nat} {Q : Int → HV → Prop} {is : List Instr} {h : HV} {ls st : List AV} {o v : Int} : X fz d k Q (.jsr_w 2128 :: is) ls ((0, v) :: (3, o) :: st) h = ((o ≠ 0 ∧ o % 64 = 2 ∧ 0 = 0 ∧ True) ∧ X fz d k Q is ls st (hset h o 10 v)) := rfl
theorem x_pf_3075 {fz : Int → Int → Option Int} {d k : Nat} {Q : Int → HV → Prop} {is : List Instr} {h : HV} {ls st : List AV} {o v : Int} : X fz d k Q (.jsr_w 3075 :: is) ls ((3, v) :: (3, o) :: st) h = ((o ≠ 0 ∧ o % 64 = 3 ∧ 3 = 3 ∧ True) ∧ X fz d k Q is ls st (hset h o 0 v)) := rfl
theorem x_pf_3083 {fz : Int → Int → Option Int} {d k : Nat} {Q : Int → HV → Prop} {is : List Instr} {h : HV} {ls st : List AV} {o v : Int} : X fz d k Q (.jsr_w 3083 :: is) ls ((3, v) :: (3, o) :: st) h = ((o ≠ 0 ∧ o % 64 = 3 ∧ 3 = 3 ∧ True) ∧ X fz d k Q is ls st (hset h o 1 v)) := rfl
theorem x_pf_3088 {fz : Int → Int → Option Int} {d k : Nat} {Q : Int → HV → Prop} {is : List Instr} {h : HV} {ls st : List AV} {o v : Int} : X fz d k Q (.jsr_w 3088 :: is) ls ((0, v) :: (3, o) :: st) h = ((o ≠ 0 ∧ o % 64 = 3 ∧ 0 = 0 ∧ True) ∧ X fz d k Q is ls st (hset h o 2 v)) := rfl
theorem x_pf_3096 {fz : Int → Int → Option Int} {d k : Nat} {Q : Int → HV → Prop} {is : List Instr} {h : HV} {ls st : List AV} {o v : Int} : X fz d k Q (.jsr_w 3096 :: is) ls ((0, v) :: (3, o) :: st) h = ((o ≠ 0 ∧ o % 64 = 3 ∧ 0 = 0 ∧ True) ∧ X fz d k Q is ls st (hset h o 3 v)) := rfl
theorem x_pf_4128 {fz : Int → Int → Option Int} {d k : Nat} {Q : Int → HV → Prop} {is : List Instr} {h : HV} {ls st : List AV} {o v : Int} : X fz d k Q (.jsr_w 4128 :: is) ls ((0, v) :: (3, o) :: st) h = ((o ≠ 0 ∧ o % 64 = 4 ∧ 0 = 0 ∧ True) ∧ X fz d k Q is ls st (hset h o 4 v)) := rfl
theorem x_pf_5147 {fz : Int → Int → Option Int} {d k : Nat} {Q : Int → HV → Prop} {is : List Instr} {h : HV} {ls st : List AV} {o v : Int} : X fz d k Q (.jsr_w 5147 :: is) ls ((3, v) :: (3, o) :: st) h = ((o ≠ 0 ∧ o % 64 = 5 ∧ 3 = 3 ∧ True) ∧ X fz d k Q is ls st (hset h o 3 v)) := rfl
theorem x_pf_5152 {fz : Int → Int → Option Int} {d k : Nat} {Q : Int → HV → Prop} {is : List Instr} {h : HV} {ls st : List AV} {o v : Int} : X fz d k Q (.jsr_w 5152 :: is) ls ((0, v) :: (3, o) :: st) h = ((o ≠ 0 ∧ o % 64 = 5 ∧ 0 = 0 ∧ True) ∧ X fz d k Q is ls st (hset h o 4 v)) := rfl
theorem x_pf_5160 {fz : Int → Int → Option Int} {d k : Nat} {Q : Int → HV → Prop} {is : List Instr} {h : HV} {ls st : List AV} {o v : Int} : X fz d k Q (.jsr_w 5160 :: is) ls ((0, v) :: (3, o) :: st) h = ((o ≠ 0 ∧ o % 64 = 5 ∧ 0 = 0 ∧ True) ∧ X fz d k Q is ls st (hset h o 5 v)) := rfl
theorem x_pf_5184 {fz : Int → Int → Option Int} {d k : Nat} {Q : Int → HV → Prop} {is : List Instr} {h : HV} {ls st : List AV} {o v : Int} : X fz d k Q (.jsr_w 5184 :: is) ls ((0, v) :: (3, o) :: st) h = ((o ≠ 0 ∧ o % 64 = 5 ∧ 0 = 0 ∧ True) ∧ X fz d k Q is ls st (hset h o 8 v)) := rfl
theorem x_pf_5240 {fz : Int → Int → Option Int} {d k : Nat} {Q : Int → HV → Prop} {is : List Instr} {h : HV} {ls st : List AV} {o v : Int} : X fz d k Q (.jsr_w 5240 :: is) ls ((0, v) :: (3, o) :: st) h = ((o ≠ 0 ∧ o % 64 = 5 ∧ 0 = 0 ∧ True) ∧ X fz d k Q is ls st (hset h o 15 v)) := rfl
theorem x_pf_5248 {fz : Int → Int → Option Int} {d k : Nat} {Q : Int → HV → Prop} {is : List Instr} {h : HV} {ls st : List AV} {o v : Int} : X fz d k Q (.jsr_w 5248 :: is) ls ((0, v) :: (3, o) :: st) h = ((o ≠ 0 ∧ o % 64 = 5 ∧ 0 = 0 ∧ True) ∧ X fz d k Q is ls st (hset h o 16 v)) := rfl
theorem x_pf_5256 {fz : Int → Int → Option Int} {d k : Nat} {Q : Int → HV → Prop} {is : List Instr} {h : HV} {ls st : List AV} {o v : Int} : X fz d k Q (.jsr_w 5256 :: is) ls ((0, v) :: (3, o) :: st) h = ((o ≠ 0 ∧ o % 64 = 5 ∧ 0 = 0 ∧ True) ∧ X fz d k Q is ls st (hset h o 17 v)) := rfl
theorem x_pf_5264 {fz : Int → Int → Option Int} {d k : Nat} {Q : Int → HV → Prop} {is : List Instr} {h : HV} {ls st : List AV} {o v : Int} : X fz d k Q (.jsr_w 5264 :: is) ls ((0, v) :: (3, o) :: st) h = ((o ≠ 0 ∧ o % 64 = 5 ∧ 0 = 0 ∧ True) ∧ X fz d k Q is ls st (hset h o 18 v)) := rfl
theorem x_pf_5272 {fz : Int → Int → Option Int} {d k : Nat} {Q : Int → HV → Prop} {is : List Instr} {h : HV} {ls st : List AV} {o v : Int} : X fz d k Q (.jsr_w 5272 :: is) ls ((0, v) :: (3, o) :: st) h = ((o ≠ 0 ∧ o % 64 = 5 ∧ 0 = 0 ∧ True) ∧ X fz d k Q is ls st (hset h o 19 v)) := rfl
theorem x_pf_5281 {fz : Int → Int → Option Int} {d k : Nat} {Q : Int → HV → Prop} {is : List Instr} {h : HV} {ls st : List AV} {o v : Int} : X fz d k Q (.jsr_w 5281 :: is) ls ((1, v) :: (3, o) :: st) h = ((o ≠ 0 ∧ o % 64 = 5 ∧ 1 = 1 ∧ True) ∧ X fz d k Q is ls st (hset h o 20 v)) := rfl
theorem x_pf_6147 {fz : Int → Int → Option Int} {d k : Nat} {Q : Int → HV → Prop} {is : List Instr} {h : HV} {ls st : List AV} {o v : Int} : X fz d k Q (.jsr_w 6147 :: is) ls ((3, v) :: (3, o) :: st) h = ((o ≠ 0 ∧ o % 64 = 6 ∧ 3 = 3 ∧ True) ∧ X fz d k Q is ls st (hset h o 0 v)) := rfl
theorem x_pf_6155 {fz : Int → Int → Option Int} {d k : Nat} {Q : Int → HV → Prop} {is : List Instr} {h : HV} {ls st : List AV} {o v : Int} : X fz d k Q (.jsr_w 6155 :: is) ls ((3, v) :: (3, o) :: st) h = ((o ≠ 0 ∧ o % 64 = 6 ∧ 3 = 3 ∧ True) ∧ X fz d k Q is ls st (hset h o 1 v)) := rfl
theorem x_pf_6160 {fz : Int → Int → Option Int} {d k : Nat} {Q : Int → HV → Prop} {is : List Instr} {h : HV} {ls st : List AV} {o v : Int} : X fz d k Q (.jsr_w 6160 :: is) ls ((0, v) :: (3, o) :: st) h = ((o ≠ 0 ∧ o % 64 = 6 ∧ 0 = 0 ∧ True) ∧ X fz d k Q is ls st (hset h o 2 v)) := rfl
theorem x_pf_67 {fz : Int → Int → Option Int} {d k : Nat} {Q : Int → HV → Prop} {is : List Instr} {h : HV} {ls st : List AV} {o v : Int} : X fz d k Q (.jsr_w 67 :: is) ls ((3, v) :: (3, o) :: st) h = ((o ≠ 0 ∧ o % 64 = 0 ∧ 3 = 3 ∧ True) ∧ X fz d k Q is ls st (hset h o 8 v)) := rfl
theorem x_pf_7171 {fz : Int → Int → Option Int} {d k : Nat} {Q : Int → HV → Prop} {is : List Instr} {h : HV} {ls st : List AV} {o v : Int} : X fz d k Q (.jsr_w 7171 :: is) ls ((3, v) :: (3, o) :: st) h = ((o ≠ 0 ∧ o % 64 = 7 ∧ 3 = 3 ∧ True) ∧ X fz d k Q is ls st (hset h o 0 v)) := rfl
theorem x_pf_7176 {fz : Int → Int → Option Int} {d k : Nat} {Q : Int → HV → Prop} {is : List Instr} {h : HV} {ls st : List AV} {o v : Int} : X fz d k Q (.jsr_w 7176 :: is) ls ((0, v) :: (3, o) :: st) h = ((o ≠ 0 ∧ o % 64 = 7 ∧ 0 = 0 ∧ True) ∧ X fz d k Q is ls st (hset h o 1 v)) := rfl
theorem x_pf_7248 {fz : Int → Int → Option Int} {d k : Nat} {Q : Int → HV → Prop} {is : List Instr} {h : HV} {ls st : List AV} {o v : Int} : X fz d k Q (.jsr_w 7248 :: is) ls ((0, v) :: (3, o) :: st) h = ((o ≠ 0 ∧ o % 64 = 7 ∧ 0 = 0 ∧ True) ∧ X fz d k Q is ls st (hset h o 10 v)) := rfl
theorem x_pf_7264 {fz : Int → Int → Option Int} {d k : Nat} {Q : Int → HV → Prop} {is : List Instr} {h : HV} {ls st : List AV} {o v : Int} : X fz d k Q (.jsr_w 7264 :: is) ls ((0, v) :: (3, o) :: st) h = ((o ≠ 0 ∧ o % 64 = 7 ∧ 0 = 0 ∧ True) ∧ X fz d k Q is ls st (hset h o 12 v)) := rfl
theorem x_pf_7276 {fz : Int → Int → Option Int} {d k : Nat} {Q : Int → HV → Prop} {is : List Instr} {h : HV} {ls st : List AV} {o v : Int} : X fz d k Q (.jsr_w 7276 :: is) ls ((0, v) :: (3, o) :: st) h = ((o ≠ 0 ∧ o % 64 = 7 ∧ 0 = 0 ∧ 0 ≤ v ∧ v ≤ 1) ∧ X fz d k Q is ls st (hset h o 13 v)) := rfl
theorem x_pf_7284 {fz : Int → Int → Option Int} {d k : Nat} {Q : Int → HV → Prop} {is : List Instr} {h : HV} {ls st : List AV} {o v : Int} : X fz d k Q (.jsr_w 7284 :: is) ls ((0, v) :: (3, o) :: st) h = ((o ≠ 0 ∧ o % 64 = 7 ∧ 0 = 0 ∧ 0 ≤ v ∧ v ≤ 1) ∧ X fz d k Q is ls st (hset h o 14 v)) := rfl
theorem x_pf_7288 {fz : Int → Int → Option Int} {d k : Nat} {Q : Int → HV → Prop} {is : List Instr} {h : HV} {ls st : List AV} {o v : Int} : X fz d k Q (.jsr_w 7288 :: is) ls ((0, v) :: (3, o) :: st) h = ((o ≠ 0 ∧ o % 64 = 7 ∧ 0 = 0 ∧ True) ∧ X fz d k Q is ls st (hset h o 15 v)) := rfl
theorem x_pf_75 {fz : Int → Int → Option Int} {d k : Nat} {Q : Int → HV → Prop} {is : List Instr} {h : HV} {ls st : List AV} {o v : Int} : X fz d k Q (.jsr_w 75 :: is) ls ((3, v) :: (3, o) :: st) h = ((o ≠ 0 ∧ o % 64 = 0 ∧ 3 = 3 ∧ True) ∧ X fz d k Q is ls st (hset h o 9 v)) := rfl
theorem x_pf_80 {fz : Int → Int → Option Int} {d k : Nat} {Q : Int → HV → Prop} {is : List Instr} {h : HV} {ls st : List AV} {o v : Int} : X fz d k Q (.jsr_w 80 :: is) ls ((0, v) :: (3, o) :: st) h = ((o ≠ 0 ∧ o % 64 = 0 ∧ 0 = 0 ∧ True) ∧ X fz d k Q is ls st (hset h o 10 v)) := rfl
theorem x_pf_8203 {fz : Int → Int → Option Int} {d k : Nat} {Q : Int → HV → Prop} {is : List Instr} {h : HV} {ls st : List AV} {o v : Int} : X fz d k Q (.jsr_w 8203 :: is) ls ((3, v) :: (3, o) :: st) h = ((o ≠ 0 ∧ o % 64 = 8 ∧ 3 = 3 ∧ True) ∧ X fz d k Q is ls st (hset h o 1 v)) := rfl
theorem x_pf_8228 {fz : Int → Int → Option Int} {d k : Nat} {Q : Int → HV → Prop} {is : List Instr} {h : HV} {ls st : List AV} {o v : Int} : X fz d k Q (.jsr_w 8228 :: is) ls ((0, v) :: (3, o) :: st) h = ((o ≠ 0 ∧ o % 64 = 8 ∧ 0 = 0 ∧ 0 ≤ v ∧ v ≤ 1) ∧ X fz d k Q is ls st (hset h o 4 v)) := rfl
theorem x_pf_8240 {fz : Int → Int → Option Int} {d k : Nat} {Q : Int → HV → Prop} {is : List Instr} {h : HV} {ls st : List AV} {o v : Int} : X fz d k Q (.jsr_w 8240 :: is) ls ((0, v) :: (3, o) :: st) h = ((o ≠ 0 ∧ o % 64 = 8 ∧ 0 = 0 ∧ True) ∧ X fz d k Q is ls st (hset h o 6 v)) := rfl
theorem x_pf_8264 {fz : Int → Int → Option Int} {d k : Nat} {Q : Int → HV → Prop} {is : List Instr} {h : HV} {ls st : List AV} {o v : Int} : X fz d k Q (.jsr_w 8264 :: is) ls ((0, v) :: (3, o) :: st) h = ((o ≠ 0 ∧ o % 64 = 8 ∧ 0 = 0 ∧ True) ∧ X fz d k Q is ls st (hset h o 9 v)) := rfl
theorem x_pf_8272 {fz : Int → Int → Option Int} {d k : Nat} {Q : Int → HV → Prop} {is : List Instr} {h : HV} {ls st : List AV} {o v : Int} : X fz d k Q (.jsr_w 8272 :: is) ls ((0, v) :: (3, o) :: st) h = ((o ≠ 0 ∧ o % 64 = 8 ∧ 0 = 0 ∧ True) ∧ X fz d k Q is ls st (hset h o 10 v)) := rfl
theorem x_pf_89 {fz : Int → Int → Option Int} {d k : Nat} {Q : Int → HV → Prop} {is : List Instr} {h : HV} {ls st : List AV} {o v : Int} : X fz d k Q (.jsr_w 89 :: is) ls ((1, v) :: (3, o) :: st) h = ((o ≠ 0 ∧ o % 64 = 0 ∧ 1 = 1 ∧ True) ∧ X fz d k Q is ls st (hset h o 11 v)) := rfl
theorem x_pf_9227 {fz : Int → Int → Option Int} {d k : Nat} {Q : Int → HV → Prop} {is : List Instr} {h : HV} {ls st : List AV} {o v : Int} : X fz d k Q (.jsr_w 9227 :: is) ls ((3, v) :: (3, o) :: st) h = ((o ≠ 0 ∧ o % 64 = 9 ∧ 3 = 3 ∧ True) ∧ X fz d k Q is ls st (hset h o 1 v)) := rfl
theorem x_pf_9268 {fz : Int → Int → Option Int} {d k : Nat} {Q : Int → HV → Prop} {is : List Instr} {h : HV} {ls st : List AV} {o v : Int} : X fz d k Q (.jsr_w 9268 :: is) ls ((0, v) :: (3, o) :: st) h = ((o ≠ 0 ∧ o % 64 = 9 ∧ 0 = 0 ∧ 0 ≤ v ∧ v ≤ 1) ∧ X fz d k Q is ls st (hset h o 6 v)) := rfl
theorem x_pf_96 {fz : Int → Int → Option Int} {d k : Nat} {Q : Int → HV → Prop} {is : List Instr} {h : HV} {ls st : List AV} {o v : Int} : X fz d k Q (.jsr_w 96 :: is) ls ((0, v) :: (3, o) :: st) h = ((o ≠ 0 ∧ o % 64 = 0 ∧ 0 = 0 ∧ True) ∧ X fz d k Q is ls st (hset h o 12 v)) := rfl
theorem x_pop0 {fz : Int → Int → Option Int} {d k : Nat} {Q : Int → HV → Prop} {is : List Instr} {h : HV} {ls st : List AV} {x : Int} : X fz d k Q (.pop :: is) ls ((0, x) :: st) h = X fz d k Q is ls st h := rfl
theorem x_pop3 {fz : Int → Int → Option Int} {d k : Nat} {Q : Int → HV → Prop} {is : List Instr} {h : HV} {ls st : List AV} {x : Int} : X fz d k Q (.pop :: is) ls ((3, x) :: st) h = X fz d k Q is ls st h := rfl
theorem x_return {fz : Int → Int → Option Int} {d k : Nat} {Q : Int → HV → Prop} {is : List Instr} {h : HV} {ls : List AV} : X fz d k Q (.return_ :: is) ls [] h = Q 0 h := rfl
theorem x_sipush {fz : Int → Int → Option Int} {d k : Nat} {Q : Int → HV → Prop} {is : List Instr} {h : HV} {ls st : List AV} {v : Int} : X fz d k Q (.sipush v :: is) ls st h = X fz d k Q is ls ((2, v) :: st) h := rfl
theorem x_tsw_10_0_3_4_5_6_7_8_9 {fz : Int → Int → Option Int} {d k : Nat} {Q : Int → HV → Prop} {is : List Instr} {h : HV} {ls st : List AV} {x : Int} : X fz d k Q (.tableswitch 10 0 6 #[3, 4, 5, 6, 7, 8, 9] :: is) ls ((0, x) :: st) h = ((x = 0 → G fz d k 3 ls st h Q) ∧ (¬ x = 0 → ((x = 1 → G fz d k 4 ls st h Q) ∧ (¬ x = 1 → ((x = 2 → G fz d k 5 ls st h Q) ∧ (¬ x = 2 → ((x = 3 → G fz d k 6 ls st h Q) ∧ (¬ x = 3 → ((x = 4 → G fz d k 7 ls st h Q) ∧ (¬ x = 4 → ((x = 5 → G fz d k 8 ls st h Q) ∧ (¬ x = 5 → ((x = 6 → G fz d k 9 ls st h Q) ∧ (¬ x = 6 → G fz d k 10 ls st h Q)))))))))))))) := rfl
theorem x_tsw_13_0_1_2_3_4_5_6_7_8_9_10_11_12 {fz : Int → Int → Option Int} {d k : Nat} {Q : Int → HV → Prop} {is : List Instr} {h : HV} {ls st : List AV} {x : Int} : X fz d k Q (.tableswitch 13 0 11 #[1, 2, 3, 4, 5, 6, 7, 8, 9, 10, 11, 12] :: is) ls ((0, x) :: st) h = ((x = 0 → G fz d k 1 ls st h Q) ∧ (¬ x = 0 → ((x = 1 → G fz d k 2 ls st h Q) ∧ (¬ x = 1 → ((x = 2 → G fz d k 3 ls st h Q) ∧ (¬ x = 2 → ((x = 3 → G fz d k 4 ls st h Q) ∧ (¬ x = 3 → ((x = 4 → G fz d k 5 ls st h Q) ∧ (¬ x = 4 → ((x = 5 → G fz d k 6 ls st h Q) ∧ (¬ x = 5 → ((x = 6 → G fz d k 7 ls st h Q) ∧ (¬ x = 6 → ((x = 7 → G fz d k 8 ls st h Q) ∧ (¬ x = 7 → ((x = 8 → G fz d k 9 ls st h Q) ∧ (¬ x = 8 → ((x = 9 → G fz d k 10 ls st h Q) ∧ (¬ x = 9 → ((x = 10 → G fz d k 11 ls st h Q) ∧ (¬ x = 10 → ((x = 11 → G fz d k 12 ls st h Q) ∧ (¬ x = 11 → G fz d k 13 ls st h Q)))))))))))))))))))))))) := rfl
theorem x_tsw_20_19_1_5_6_8_9_10_14_16_17_19_18 {fz : Int → Int → Option Int} {d k : Nat} {Q : Int → HV → Prop} {is : List Instr} {h : HV} {ls st : List AV} {x : Int} : X fz d k Q (.tableswitch 20 19 29 #[1, 5, 6, 8, 9, 10, 14, 16, 17, 19, 18] :: is) ls ((0, x) :: st) h = ((x = 19 → G fz d k 1 ls st h Q) ∧ (¬ x = 19 → ((x = 20 → G fz d k 5 ls st h Q) ∧ (¬ x = 20 → ((x = 21 → G fz d k 6 ls st h Q) ∧ (¬ x = 21 → ((x = 22 → G fz d k 8 ls st h Q) ∧ (¬ x = 22 → ((x = 23 → G fz d k 9 ls st h Q) ∧ (¬ x = 23 → ((x = 24 → G fz d k 10 ls st h Q) ∧ (¬ x = 24 → ((x = 25 → G fz d k 14 ls st h Q) ∧ (¬ x = 25 → ((x = 26 → G fz d k 16 ls st h Q) ∧ (¬ x = 26 → ((x = 27 → G fz d k 17 ls st h Q) ∧ (¬ x = 27 → ((x = 28 → G fz d k 19 ls st h Q) ∧ (¬ x = 28 → ((x = 29 → G fz d k 18 ls st h Q) ∧ (¬ x = 29 → G fz d k 20 ls st h Q)))))))))))))))))))))) := rfl
theorem x_tsw_20_42_11_5_20_8_20_16 {fz : Int → Int → Option Int} {d k : Nat} {Q : Int → HV → Prop} {is : List Instr} {h : HV} {ls st : List AV} {x : Int} : X fz d k Q (.tableswitch 20 42 47 #[11, 5, 20, 8, 20, 16] :: is) ls ((0, x) :: st) h = ((x = 42 → G fz d k 11 ls st h Q) ∧ (¬ x = 42 → ((x = 43 → G fz d k 5 ls st h Q) ∧ (¬ x = 43 → ((x = 44 → G fz d k 20 ls st h Q) ∧ (¬ x = 44 → ((x = 45 → G fz d k 8 ls st h Q) ∧ (¬ x = 45 → ((x = 46 → G fz d k 20 ls st h Q) ∧ (¬ x = 46 → ((x = 47 → G fz d k 16 ls st h Q) ∧ (¬ x = 47 → G fz d k 20 ls st h Q)))))))))))) := rfl
theorem x_tsw_21_12_1_5_6_7_10_14 {fz : Int → Int → Option Int} {d k : Nat} {Q : Int → HV → Prop} {is : List Instr} {h : HV} {ls st : List AV} {x : Int} : X fz d k Q (.tableswitch 21 12 17 #[1, 5, 6, 7, 10, 14] :: is) ls ((0, x) :: st) h = ((x = 12 → G fz d k 1 ls st h Q) ∧ (¬ x = 12 → ((x = 13 → G fz d k 5 ls st h Q) ∧ (¬ x = 13 → ((x = 14 → G fz d k 6 ls st h Q) ∧ (¬ x = 14 → ((x = 15 → G fz d k 7 ls st h Q) ∧ (¬ x = 15 → ((x = 16 → G fz d k 10 ls st h Q) ∧ (¬ x = 16 → ((x = 17 → G fz d k 14 ls st h Q) ∧ (¬ x = 17 → G fz d k 21 ls st h Q)))))))))))) := rfl
theorem x_tsw_32_0_2_3_4_5_6_7_8_9_10_11_12_13_14_15_16_17_18_19_20_21_22_23_24_25_26_27_28_29_30_31 {fz : Int → Int → Option Int} {d k : Nat} {Q : Int → HV → Prop} {is : List Instr} {h : HV} {ls st : List AV} {x : Int} : X fz d k Q (.tableswitch 32 0 29 #[2, 3, 4, 5, 6, 7, 8, 9, 10, 11, 12, 13, 14, 15, 16, 17, 18, 19, 20, 21, 22, 23, 24, 25, 26, 27, 28, 29, 30, 31] :: is) ls ((0, x) :: st) h = ((x = 0 → G fz d k 2 ls st h Q) ∧ (¬ x = 0 → ((x = 1 → G fz d k 3 ls st h Q) ∧ (¬ x = 1 → ((x = 2 → G fz d k 4 ls st h Q) ∧ (¬ x = 2 → ((x = 3 → G fz d k 5 ls st h Q) ∧ (¬ x = 3 → ((x = 4 → G fz d k 6 ls st h Q) ∧ (¬ x = 4 → ((x = 5 → G fz d k 7 ls st h Q) ∧ (¬ x = 5 → ((x = 6 → G fz d k 8 ls st h Q) ∧ (¬ x = 6 → ((x = 7 → G fz d k 9 ls st h Q) ∧ (¬ x = 7 → ((x = 8 → G fz d k 10 ls st h Q) ∧ (¬ x = 8 → ((x = 9 → G fz d k 11 ls st h Q) ∧ (¬ x = 9 → ((x = 10 → G fz d k 12 ls st h Q) ∧ (¬ x = 10 → ((x = 11 → G fz d k 13 ls st h Q) ∧ (¬ x = 11 → ((x = 12 → G fz d k 14 ls st h Q) ∧ (¬ x = 12 → ((x = 13 → G fz d k 15 ls st h Q) ∧ (¬ x = 13 → ((x = 14 → G fz d k 16 ls st h Q) ∧ (¬ x = 14 → ((x = 15 → G fz d k 17 ls st h Q) ∧ (¬ x = 15 → ((x = 16 → G fz d k 18 ls st h Q) ∧ (¬ x = 16 → ((x = 17 → G fz d k 19 ls st h Q) ∧ (¬ x = 17 → ((x = 18 → G fz d k 20 ls st h Q) ∧ (¬ x = 18 → ((x = 19 → G fz d k 21 ls st h Q) ∧ (¬ x = 19 → ((x = 20 → G fz d k 22 ls st h Q) ∧ (¬ x = 20 → ((x = 21 → G fz d k 23 ls st h Q) ∧ (¬ x = 21 → ((x = 22 → G fz d k 24 ls st h Q) ∧ (¬ x = 22 → ((x = 23 → G fz d k 25 ls st h Q) ∧ (¬ x = 23 → ((x = 24 → G fz d k 26 ls st h Q) ∧ (¬ x = 24 → ((x = 25 → G fz d k 27 ls st h Q) ∧ (¬ x = 25 → ((x = 26 → G fz d k 28 ls st h Q) ∧ (¬ x = 26 → ((x = 27 → G fz d k 29 ls st h Q) ∧ (¬ x = 27 → ((x = 28 → G fz d k 30 ls st h Q) ∧ (¬ x = 28 → ((x = 29 → G fz d k 31 ls st h Q) ∧ (¬ x = 29 → G fz d k 32 ls st h Q)))))))))))))))))))))))))))))))))))))))))))))))))))))))))))) := rfl
theorem x_tsw_33_1_1_2_3_4_5_6_7_8_9_10_11_12_13_14_15_16_17_18_19_20_21_33_22_23_24_25_26_27_30_31_32 {fz : Int → Int → Option Int} {d k : Nat} {Q : Int → HV → Prop} {is : List Instr} {h : HV} {ls st : List AV} {x : Int} : X fz d k Q (.tableswitch 33 1 31 #[1, 2, 3, 4, 5, 6, 7, 8, 9, 10, 11, 12, 13, 14, 15, 16, 17, 18, 19, 20, 21, 33, 22, 23, 24, 25, 26, 27, 30, 31, 32] :: is) ls ((0, x) :: st) h = ((x = 1 → G fz d k 1 ls st h Q) ∧ (¬ x = 1 → ((x = 2 → G fz d k 2 ls st h Q) ∧ (¬ x = 2 → ((x = 3 → G fz d k 3 ls st h Q) ∧ (¬ x = 3 → ((x = 4 → G fz d k 4 ls st h Q) ∧ (¬ x = 4 → ((x = 5 → G fz d k 5 ls st h Q) ∧ (¬ x = 5 → ((x = 6 → G fz d k 6 ls st h Q) ∧ (¬ x = 6 → ((x = 7 → G fz d k 7 ls st h Q) ∧ (¬ x = 7 → ((x = 8 → G fz d k 8 ls st h Q) ∧ (¬ x = 8 → ((x = 9 → G fz d k 9 ls st h Q) ∧ (¬ x = 9 → ((x = 10 → G fz d k 10 ls st h Q) ∧ (¬ x = 10 → ((x = 11 → G fz d k 11 ls st h Q) ∧ (¬ x = 11 → ((x = 12 → G fz d k 12 ls st h Q) ∧ (¬ x = 12 → ((x = 13 → G fz d k 13 ls st h Q) ∧ (¬ x = 13 → ((x = 14 → G fz d k 14 ls st h Q) ∧ (¬ x = 14 → ((x = 15 → G fz d k 15 ls st h Q) ∧ (¬ x = 15 → ((x = 16 → G fz d k 16 ls st h Q) ∧ (¬ x = 16 → ((x = 17 → G fz d k 17 ls st h Q) ∧ (¬ x = 17 → ((x = 18 → G fz d k 18 ls st h Q) ∧ (¬ x = 18 → ((x = 19 → G fz d k 19 ls st h Q) ∧ (¬ x = 19 → ((x = 20 → G fz d k 20 ls st h Q) ∧ (¬ x = 20 → ((x = 21 → G fz d k 21 ls st h Q) ∧ (¬ x = 21 → ((x = 22 → G fz d k 33 ls st h Q) ∧ (¬ x = 22 → ((x = 23 → G fz d k 22 ls st h Q) ∧ (¬ x = 23 → ((x = 24 → G fz d k 23 ls st h Q) ∧ (¬ x = 24 → ((x = 25 → G fz d k 24 ls st h Q) ∧ (¬ x = 25 → ((x = 26 → G fz d k 25 ls st h Q) ∧ (¬ x = 26 → ((x = 27 → G fz d k 26 ls st h Q) ∧ (¬ x = 27 → ((x = 28 → G fz d k 27 ls st h Q) ∧ (¬ x = 28 → ((x = 29 → G fz d k 30 ls st h Q) ∧ (¬ x = 29 → ((x = 30 → G fz d k 31 ls st h Q) ∧ (¬ x = 30 → ((x = 31 → G fz d k 32 ls st h Q) ∧ (¬ x = 31 → G fz d k 33 ls st h Q)))))))))))))))))))))))))))))))))))))))))))))))))))))))))))))) := rfl
theorem x_tsw_7_0_2_3_4_5_6 {fz : Int → Int → Option Int} {d k : Nat} {Q : Int → HV → Prop} {is : List Instr} {h : HV} {ls st : List AV} {x : Int} : X fz d k Q (.tableswitch 7 0 4 #[2, 3, 4, 5, 6] :: is) ls ((0, x) :: st) h = ((x = 0 → G fz d k 2 ls st h Q) ∧ (¬ x = 0 → ((x = 1 → G fz d k 3 ls st h Q) ∧ (¬ x = 1 → ((x = 2 → G fz d k 4 ls st h Q) ∧ (¬ x = 2 → ((x = 3 → G fz d k 5 ls st h Q) ∧ (¬ x = 3 → ((x = 4 → G fz d k 6 ls st h Q) ∧ (¬ x = 4 → G fz d k 7 ls st h Q)))))))))) := rfl
theorem x_tsw_7_1_1_2_3_4 {fz : Int → Int → Option Int} {d k : Nat} {Q : Int → HV → Prop} {is : List Instr} {h : HV} {ls st : List AV} {x : Int} : X fz d k Q (.tableswitch 7 1 4 #[1, 2, 3, 4] :: is) ls ((0, x) :: st) h = ((x = 1 → G fz d k 1 ls st h Q) ∧ (¬ x = 1 → ((x = 2 → G fz d k 2 ls st h Q) ∧ (¬ x = 2 → ((x = 3 → G fz d k 3 ls st h Q) ∧ (¬ x = 3 → ((x = 4 → G fz d k 4 ls st h Q) ∧ (¬ x = 4 → G fz d k 7 ls st h Q)))))))) := rfl
theorem x_tsw_8_0_1_2_3_4_5_6_7 {fz : Int → Int → Option Int} {d k : Nat} {Q : Int → HV → Prop} {is : List Instr} {h : HV} {ls st : List AV} {x : Int} : X fz d k Q (.tableswitch 8 0 6 #[1, 2, 3, 4, 5, 6, 7] :: is) ls ((0, x) :: st) h = ((x = 0 → G fz d k 1 ls st h Q) ∧ (¬ x = 0 → ((x = 1 → G fz d k 2 ls st h Q) ∧ (¬ x = 1 → ((x = 2 → G fz d k 3 ls st h Q) ∧ (¬ x = 2 → ((x = 3 → G fz d k 4 ls st h Q) ∧ (¬ x = 3 → ((x = 4 → G fz d k 5 ls st h Q) ∧ (¬ x = 4 → ((x = 5 → G fz d k 6 ls st h Q) ∧ (¬ x = 5 → ((x = 6 → G fz d k 7 ls st h Q) ∧ (¬ x = 6 → G fz d k 8 ls st h Q)))))))))))))) := rfl
theorem x_tsw_9_7_3_4_5_6_7_8 {fz : Int → Int → Option Int} {d k : Nat} {Q : Int → HV → Prop} {is : List Instr} {h : HV} {ls st : List AV} {x : Int} : X fz d k Q (.tableswitch 9 7 12 #[3, 4, 5, 6, 7, 8] :: is) ls ((0, x) :: st) h = ((x = 7 → G fz d k 3 ls st h Q) ∧ (¬ x = 7 → ((x = 8 → G fz d k 4 ls st h Q) ∧ (¬ x = 8 → ((x = 9 → G fz d k 5 ls st h Q) ∧ (¬ x = 9 → ((x = 10 → G fz d k 6 ls st h Q) ∧ (¬ x = 10 → ((x = 11 → G fz d k 7 ls st h Q) ∧ (¬ x = 11 → ((x = 12 → G fz d k 8 ls st h Q) ∧ (¬ x = 12 → G fz d k 9 ls st h Q)))))))))))) := rfl
theorem b0_0 : blk 0 0 = [.goto_w 17, .dup, .invokeinterface 268 1, .astore 1, .goto_w 1503, .dup, .invokeinterface 81252 1, .astore 2, .iconst 0, .istore 3, .goto 1] := rfl
theorem b0_1 : blk 0 1 = [.iload 3, .aload 0, .arraylength, .iconst 7, .isub, .if_icmp .gt 33, .aload 0, .iload 3, .iaload, .iconst 31, .iand, .tableswitch 32 0 29 #[2, 3, 4, 5, 6, 7, 8, 9, 10, 11, 12, 13, 14, 15, 16, 17, 18, 19, 20, 21, 22, 23, 24, 25, 26, 27, 28, 29, 30, 31]] := rfl
theorem b0_2 : blk 0 2 = [.aload 1, .aload 0, .iload 3, .iconst 1, .iadd, .iaload, .aload 0, .iload 3, .iconst 2, .iadd, .iaload, .i2l, .iconst 32, .lshl, .aload 0, .iload 3, .iconst 3, .iadd, .iaload, .i2l, .bipush 4294967295, .land, .lor, .invokeinterface 5384 3, .aload 2, .aload 0, .iload 3, .iconst 1, .iadd, .iaload, .aload 0, .iload 3, .iconst 2, .iadd, .iaload, .i2l, .iconst 32, .lshl, .aload 0, .iload 3, .iconst 3, .iadd, .iaload, .i2l, .bipush 4294967295, .land, .lor, .invokeinterface 81760 3, .if_icmp .eq 32, .iconst 0, .freturn] := rfl
theorem b0_3 : blk 0 3 = [.aload 1, .invokeinterface 6152 1, .aload 2, .invokeinterface 82016 1, .if_icmp .eq 32, .iconst 0, .freturn] := rfl
theorem b0_4 : blk 0 4 = [.aload 1, .aload 0, .iload 3, .iconst 1, .iadd, .iaload, .invokeinterface 33544 2, .aload 2, .aload 0, .iload 3, .iconst 1, .iadd, .iaload, .invokeinterface 113760 2, .if_icmp .eq 32, .iconst 0, .freturn] := rfl
theorem b0_5 : blk 0 5 = [.aload 1, .aload 0, .iload 3, .iconst 1, .iadd, .iaload, .aload 0, .iload 3, .iconst 2, .iadd, .iaload, .invokeinterface 34568 3, .aload 2, .aload 0, .iload 3, .iconst 1, .iadd, .iaload, .aload 0, .iload 3, .iconst 2, .iadd, .iaload, .invokeinterface 94304 3, .if_icmp .eq 32, .iconst 0, .freturn] := rfl
theorem b0_6 : blk 0 6 = [.aload 1, .aload 0, .iload 3, .iconst 1, .iadd, .iaload, .invokeinterface 36104 2, .aload 2, .aload 0, .iload 3, .iconst 1, .iadd, .iaload, .invokeinterface 94816 2, .if_icmp .eq 32, .iconst 0, .freturn] := rfl
theorem b0_7 : blk 0 7 = [.aload 1, .aload 0, .iload 3, .iconst 1, .iadd, .iaload, .aload 0, .iload 3, .iconst 2, .iadd, .iaload, .invokeinterface 36360 3, .aload 2, .aload 0, .iload 3, .iconst 1, .iadd, .iaload, .aload 0, .iload 3, .iconst 2, .iadd, .iaload, .invokeinterface 95072 3, .if_icmp .eq 32, .iconst 0, .freturn] := rfl
theorem b0_8 : blk 0 8 = [.aload 1, .aload 0, .iload 3, .iconst 1, .iadd, .iaload, .aload 0, .iload 3, .iconst 2, .iadd, .iaload, .invokeinterface 37128 3, .aload 2, .aload 0, .iload 3, .iconst 1, .iadd, .iaload, .aload 0, .iload 3, .iconst 2, .iadd, .iaload, .invokeinterface 95584 3, .if_icmp .eq 32, .iconst 0, .freturn] := rfl
theorem b0_9 : blk 0 9 = [.aload 1, .aload 0, .iload 3, .iconst 1, .iadd, .iaload, .aload 0, .iload 3, .iconst 2, .iadd, .iaload, .aload 0, .iload 3, .iconst 3, .iadd, .iaload, .invokeinterface 38664 4, .aload 2, .aload 0, .iload 3, .iconst 1, .iadd, .iaload, .aload 0, .iload 3, .iconst 2, .iadd, .iaload, .aload 0, .iload 3, .iconst 3, .iadd, .iaload, .invokeinterface 96096 4, .if_icmp .eq 32, .iconst 0, .freturn] := rfl
theorem b0_10 : blk 0 10 = [.aload 1, .aload 0, .iload 3, .iconst 1, .iadd, .iaload, .aload 0, .iload 3, .iconst 2, .iadd, .iaload, .aload 0, .iload 3, .iconst 3, .iadd, .iaload, .aload 0, .iload 3, .iconst 4, .iadd, .iaload, .invokeinterface 40200 5, .aload 2, .aload 0, .iload 3, .iconst 1, .iadd, .iaload, .aload 0, .iload 3, .iconst 2, .iadd, .iaload, .aload 0, .iload 3, .iconst 3, .iadd, .iaload, .aload 0, .iload 3, .iconst 4, .iadd, .iaload, .invokeinterface 96864 5, .if_icmp .eq 32, .iconst 0, .freturn] := rfl
theorem b0_11 : blk 0 11 = [.aload 1, .aload 0, .iload 3, .iconst 1, .iadd, .iaload, .aload 0, .iload 3, .iconst 2, .iadd, .iaload, .aload 0, .iload 3, .iconst 3, .iadd, .iaload, .invokeinterface 41736 4, .aload 2, .aload 0, .iload 3, .iconst 1, .iadd, .iaload, .aload 0, .iload 3, .iconst 2, .iadd, .iaload, .aload 0, .iload 3, .iconst 3, .iadd, .iaload, .invokeinterface 97120 4, .if_icmp .eq 32, .iconst 0, .freturn] := rfl
theorem b0_12 : blk 0 12 = [.aload 1, .aload 0, .iload 3, .iconst 1, .iadd, .iaload, .aload 0, .iload 3, .iconst 2, .iadd, .iaload, .aload 0, .iload 3, .iconst 3, .iadd, .iaload, .aload 0, .iload 3, .iconst 4, .iadd, .iaload, .aload 0, .iload 3, .iconst 5, .iadd, .iaload, .aload 0, .iload 3, .iconst 6, .iadd, .iaload, .invokeinterface 41992 7, .aload 2, .aload 0, .iload 3, .iconst 1, .iadd, .iaload, .aload 0, .iload 3, .iconst 2, .iadd, .iaload, .aload 0, .iload 3, .iconst 3, .iadd, .iaload, .aload 0, .iload 3, .iconst 4, .iadd, .iaload, .aload 0, .iload 3, .iconst 5, .iadd, .iaload, .aload 0, .iload 3, .iconst 6, .iadd, .iaload, .invokeinterface 97376 7, .if_icmp .eq 32, .iconst 0, .freturn] := rfl
theorem b0_13 : blk 0 13 = [.aload 1, .aload 0, .iload 3, .iconst 1, .iadd, .iaload, .invokeinterface 60169 2, .aload 2, .aload 0, .iload 3, .iconst 1, .iadd, .iaload, .invokeinterface 105313 2, .lcmp, .ifCond .eq 32, .iconst 0, .freturn] := rfl
theorem b0_14 : blk 0 14 = [.aload 1, .invokeinterface 60424 1, .aload 2, .invokeinterface 105568 1, .if_icmp .eq 32, .iconst 0, .freturn] := rfl
theorem b0_15 : blk 0 15 = [.aload 1, .aload 0, .iload 3, .iconst 1, .iadd, .iaload, .aload 0, .iload 3, .iconst 2, .iadd, .iaload, .invokeinterface 60680 3, .aload 2, .aload 0, .iload 3, .iconst 1, .iadd, .iaload, .aload 0, .iload 3, .iconst 2, .iadd, .iaload, .invokeinterface 105824 3, .if_icmp .eq 32, .iconst 0, .freturn] := rfl
theorem b0_16 : blk 0 16 = [.aload 1, .aload 0, .iload 3, .iconst 1, .iadd, .iaload, .invokeinterface 61448 2, .aload 2, .aload 0, .iload 3, .iconst 1, .iadd, .iaload, .invokeinterface 106336 2, .if_icmp .eq 32, .iconst 0, .freturn] := rfl
theorem b0_17 : blk 0 17 = [.aload 1, .aload 0, .iload 3, .iconst 1, .iadd, .iaload, .invokeinterface 61704 2, .aload 2, .aload 0, .iload 3, .iconst 1, .iadd, .iaload, .invokeinterface 106592 2, .if_icmp .eq 32, .iconst 0, .freturn] := rfl
theorem b0_18 : blk 0 18 = [.aload 1, .aload 0, .iload 3, .iconst 1, .iadd, .iaload, .aload 0, .iload 3, .iconst 2, .iadd, .iaload, .aload 0, .iload 3, .iconst 3, .iadd, .iaload, .invokeinterface 62472 4, .aload 2, .aload 0, .iload 3, .iconst 1, .iadd, .iaload, .aload 0, .iload 3, .iconst 2, .iadd, .iaload, .aload 0, .iload 3, .iconst 3, .iadd, .iaload, .invokeinterface 107104 4, .if_icmp .eq 32, .iconst 0, .freturn] := rfl
theorem b0_19 : blk 0 19 = [.aload 1, .aload 0, .iload 3, .iconst 1, .iadd, .iaload, .aload 0, .iload 3, .iconst 2, .iadd, .iaload, .aload 0, .iload 3, .iconst 3, .iadd, .iaload, .invokeinterface 63752 4, .aload 2, .aload 0, .iload 3, .iconst 1, .iadd, .iaload, .aload 0, .iload 3, .iconst 2, .iadd, .iaload, .aload 0, .iload 3, .iconst 3, .iadd, .iaload, .invokeinterface 107616 4, .if_icmp .eq 32, .iconst 0, .freturn] := rfl
theorem b0_20 : blk 0 20 = [.aload 1, .aload 0, .iload 3, .iconst 1, .iadd, .iaload, .invokeinterface 64520 2, .aload 2, .aload 0, .iload 3, .iconst 1, .iadd, .iaload, .invokeinterface 107872 2, .if_icmp .eq 32, .iconst 0, .freturn] := rfl
theorem b0_21 : blk 0 21 = [.aload 1, .aload 0, .iload 3, .iconst 1, .iadd, .iaload, .invokeinterface 67592 2, .aload 2, .aload 0, .iload 3, .iconst 1, .iadd, .iaload, .invokeinterface 108640 2, .if_icmp .eq 32, .iconst 0, .freturn] := rfl
theorem b0_22 : blk 0 22 = [.aload 1, .aload 0, .iload 3, .iconst 1, .iadd, .iaload, .aload 0, .iload 3, .iconst 2, .iadd, .iaload, .invokeinterface 68872 3, .aload 2, .aload 0, .iload 3, .iconst 1, .iadd, .iaload, .aload 0, .iload 3, .iconst 2, .iadd, .iaload, .invokeinterface 108896 3, .if_icmp .eq 32, .iconst 0, .freturn] := rfl
theorem b0_23 : blk 0 23 = [.aload 1, .aload 0, .iload 3, .iconst 1, .iadd, .iaload, .aload 0, .iload 3, .iconst 2, .iadd, .iaload, .invokeinterface 69640 3, .aload 2, .aload 0, .iload 3, .iconst 1, .iadd, .iaload, .aload 0, .iload 3, .iconst 2, .iadd, .iaload, .invokeinterface 109152 3, .if_icmp .eq 32, .iconst 0, .freturn] := rfl
theorem b0_24 : blk 0 24 = [.aload 1, .aload 0, .iload 3, .iconst 1, .iadd, .iaload, .invokeinterface 70664 2, .aload 2, .aload 0, .iload 3, .iconst 1, .iadd, .iaload, .invokeinterface 109664 2, .if_icmp .eq 32, .iconst 0, .freturn] := rfl
theorem b0_25 : blk 0 25 = [.aload 1, .aload 0, .iload 3, .iconst 1, .iadd, .iaload, .aload 0, .iload 3, .iconst 2, .iadd, .iaload, .invokeinterface 71432 3, .aload 2, .aload 0, .iload 3, .iconst 1, .iadd, .iaload, .aload 0, .iload 3, .iconst 2, .iadd, .iaload, .invokeinterface 109920 3, .if_icmp .eq 32, .iconst 0, .freturn] := rfl
theorem b0_26 : blk 0 26 = [.aload 1, .aload 0, .iload 3, .iconst 1, .iadd, .iaload, .invokeinterface 72200 2, .aload 2, .aload 0, .iload 3, .iconst 1, .iadd, .iaload, .invokeinterface 110432 2, .if_icmp .eq 32, .iconst 0, .freturn] := rfl
theorem b0_27 : blk 0 27 = [.aload 1, .aload 0, .iload 3, .iconst 1, .iadd, .iaload, .invokeinterface 76552 2, .aload 2, .aload 0, .iload 3, .iconst 1, .iadd, .iaload, .invokeinterface 111968 2, .if_icmp .eq 32, .iconst 0, .freturn] := rfl
theorem b0_28 : blk 0 28 = [.aload 1, .invokeinterface 77064 1, .aload 2, .invokeinterface 112224 1, .if_icmp .eq 32, .iconst 0, .freturn] := rfl
theorem b0_29 : blk 0 29 = [.aload 1, .aload 0, .iload 3, .iconst 1, .iadd, .iaload, .aload 0, .iload 3, .iconst 2, .iadd, .iaload, .aload 0, .iload 3, .iconst 3, .iadd, .iaload, .invokeinterface 78344 4, .aload 2, .aload 0, .iload 3, .iconst 1, .iadd, .iaload, .aload 0, .iload 3, .iconst 2, .iadd, .iaload, .aload 0, .iload 3, .iconst 3, .iadd, .iaload, .invokeinterface 112480 4, .if_icmp .eq 32, .iconst 0, .freturn] := rfl
theorem b0_30 : blk 0 30 = [.aload 1, .aload 0, .iload 3, .iconst 1, .iadd, .iaload, .invokeinterface 78856 2, .aload 2, .aload 0, .iload 3, .iconst 1, .iadd, .iaload, .invokeinterface 112736 2, .if_icmp .eq 32, .iconst 0, .freturn] := rfl
theorem b0_31 : blk 0 31 = [.aload 1, .aload 0, .iload 3, .iconst 1, .iadd, .iaload, .invokeinterface 80392 2, .aload 2, .aload 0, .iload 3, .iconst 1, .iadd, .iaload, .invokeinterface 113504 2, .if_icmp .eq 32, .iconst 0, .freturn] := rfl
theorem b0_32 : blk 0 32 = [.iinc 3 7, .goto 1] := rfl
theorem b0_33 : blk 0 33 = [.iconst 1, .freturn] := rfl
theorem en0 {a0 : Int} : ent 0 [(3, a0)] = [(3, a0), (9, 0), (9, 0), (9, 0)] := rfl
theorem b1_0 : blk 1 0 = [.aload 0, .monitorexit, .aload 0, .goto_w 138, .dup, .invokeinterface 532 1, .if_acmp .eq 3, .aload 0, .goto_w 267, .dup, .aload 0, .ifnonnull 3, .invokeinterface 796 2, .if_acmp .eq 11, .aload 0, .goto_w 388, .dup, .invokeinterface 1060 1, .if_acmp .eq 19, .aload 0, .goto_w 517, .dup, .invokeinterface 1324 1, .if_acmp .eq 27, .aload 0, .goto_w 661, .dup, .aload 0, .ifnonnull 27, .aload 0, .ifnonnull 19, .invokeinterface 1588 3, .if_acmp .eq 35, .aload 0, .goto_w 912, .dup, .invokeinterface 2116 1, .if_acmp .eq 43, .aload 0, .goto_w 1035, .dup, .aload 0, .ifnonnull 43, .invokeinterface 2380 2, .if_acmp .eq 51, .aload 0, .goto_w 1162, .dup, .aload 0, .ifnonnull 27, .invokeinterface 2644 2, .if_acmp .eq 59, .aload 0, .goto_w 1298, .dup, .invokeinterface 2908 1, .jsr_w 67, .aload 0, .goto_w 1298, .dup, .invokeinterface 2908 1, .jsr_w 75, .aload 0, .iconst 24, .newarray .int, .if_acmp .eq 107, .aload 0, .iconst 24, .newarray .int, .if_acmp .eq 115, .aload 0, .iconst 24, .newarray .long, .if_acmp .eq 123, .aload 0, .ifnonnull 43, .aload 0, .ifnull 67, .invokeinterface 3140 2, .aload 0, .ifnonnull 35, .aload 0, .ifnull 67, .invokeinterface 4148 2, .aload 0, .ifnonnull 51, .aload 0, .ifnull 67, .invokeinterface 4428 2, .aload 0, .ifnonnull 59, .aload 0, .ifnull 67, .invokeinterface 5204 2, .return_] := rfl
theorem en1 {a0 : Int} : ent 1 [(3, a0)] = [(3, a0)] := rfl
theorem b2_0 : blk 2 0 = [.aload 0, .monitorexit, .aload 0, .iconst 2400, .newarray .byte, .if_acmp .eq 1027, .return_] := rfl
theorem en2 {a0 : Int} : ent 2 [(3, a0)] = [(3, a0)] := rfl
theorem b3_0 : blk 3 0 = [.aload 0, .monitorexit, .aload 0, .iconst 404, .newarray .long, .if_acmp .eq 2083, .aload 0, .iconst 404, .newarray .int, .if_acmp .eq 2091, .aload 0, .iconst 400, .newarray .long, .if_acmp .eq 2107, .aload 0, .iconst 400, .newarray .int, .if_acmp .eq 2115, .aload 0, .iconst 400, .newarray .int, .if_acmp .eq 2123, .aload 0, .aload 1, .if_acmp .eq 2051, .return_] := rfl
theorem en3 {a0 a1 : Int} : ent 3 [(3, a0), (3, a1)] = [(3, a0), (3, a1)] := rfl
theorem b4_0 : blk 4 0 = [.aload 0, .monitorexit, .aload 0, .iconst 64, .newarray .int, .jsr_w 3075, .aload 0, .iconst 256, .newarray .long, .jsr_w 3083, .return_] := rfl
theorem en4 {a0 : Int} : ent 4 [(3, a0)] = [(3, a0)] := rfl
theorem b5_0 : blk 5 0 = [.aload 0, .monitorexit, .aload 0, .iconst 24, .newarray .int, .if_acmp .eq 4099, .aload 0, .iconst 24, .newarray .int, .if_acmp .eq 4107, .aload 0, .iconst 24, .newarray .int, .if_acmp .eq 4115, .aload 0, .iconst 192, .newarray .int, .if_acmp .eq 4123, .return_] := rfl
theorem en5 {a0 : Int} : ent 5 [(3, a0)] = [(3, a0)] := rfl
theorem b6_0 : blk 6 0 = [.aload 0, .monitorexit, .aload 0, .goto_w 771, .dup, .invokeinterface 1852 1, .if_acmp .eq 5139, .aload 0, .iconst 8, .newarray .int, .if_acmp .eq 5171, .aload 0, .iconst 8, .newarray .int, .if_acmp .eq 5179, .aload 0, .iconst 96, .newarray .int, .if_acmp .eq 5195, .aload 0, .iconst 96, .newarray .int, .if_acmp .eq 5203, .aload 0, .iconst 96, .newarray .int, .if_acmp .eq 5211, .aload 0, .iconst 96, .newarray .int, .if_acmp .eq 5219, .aload 0, .iconst 96, .newarray .int, .if_acmp .eq 5227, .aload 0, .iconst 96, .newarray .long, .if_acmp .eq 5235, .aload 0, .aload 1, .if_acmp .eq 5123, .aload 0, .aload 2, .if_acmp .eq 5131, .return_] := rfl
theorem en6 {a0 a1 a2 : Int} : ent 6 [(3, a0), (3, a1), (3, a2)] = [(3, a0), (3, a1), (3, a2)] := rfl
theorem b7_0 : blk 7 0 = [.aload 0, .monitorexit, .aload 0, .iconst 256, .newarray .int, .jsr_w 6147, .aload 0, .iconst 256, .newarray .long, .jsr_w 6155, .return_] := rfl
theorem en7 {a0 : Int} : ent 7 [(3, a0)] = [(3, a0)] := rfl
theorem b8_0 : blk 8 0 = [.aload 0, .monitorexit, .aload 0, .iconst 4, .jsr_w 7176, .aload 0, .iconst 10, .newarray .int, .if_acmp .eq 7187, .aload 0, .iconst 240, .newarray .int, .if_acmp .eq 7195, .aload 0, .iconst 37, .newarray .int, .if_acmp .eq 7203, .aload 0, .iconst 36, .newarray .int, .if_acmp .eq 7211, .aload 0, .iconst 6, .newarray .int, .if_acmp .eq 7219, .aload 0, .iconst 8, .newarray .int, .if_acmp .eq 7227, .aload 0, .iconst 10, .newarray .int, .if_acmp .eq 7235, .aload 0, .iconst 12, .newarray .int, .if_acmp .eq 7243, .aload 0, .iconst 36, .newarray .int, .if_acmp .eq 7259, .return_] := rfl
theorem en8 {a0 : Int} : ent 8 [(3, a0)] = [(3, a0)] := rfl
theorem b9_0 : blk 9 0 = [.aload 0, .monitorexit, .aload 0, .iconst 10, .newarray .int, .if_acmp .eq 8211, .aload 0, .iconst 36, .newarray .int, .if_acmp .eq 8219, .aload 0, .iconst 6, .newarray .int, .if_acmp .eq 8235, .aload 0, .iconst 6, .newarray .int, .if_acmp .eq 8251, .aload 0, .iconst 6, .newarray .int, .if_acmp .eq 8259, .aload 0, .aload 1, .if_acmp .eq 8195, .return_] := rfl
theorem en9 {a0 a1 : Int} : ent 9 [(3, a0), (3, a1)] = [(3, a0), (3, a1)] := rfl
theorem b10_0 : blk 10 0 = [.aload 0, .monitorexit, .aload 0, .iconst 192, .newarray .int, .if_acmp .eq 9235, .aload 0, .iconst 24, .newarray .int, .if_acmp .eq 9243, .aload 0, .iconst 192, .newarray .int, .if_acmp .eq 9251, .aload 0, .iconst 24, .newarray .int, .if_acmp .eq 9259, .aload 0, .iconst 24, .newarray .int, .if_acmp .eq 9275, .aload 0, .iconst 8, .newarray .int, .if_acmp .eq 9283, .aload 0, .iconst 24, .newarray .boolean, .if_acmp .eq 9291, .aload 0, .aload 1, .if_acmp .eq 9219, .return_] := rfl
theorem en10 {a0 a1 : Int} : ent 10 [(3, a0), (3, a1)] = [(3, a0), (3, a1)] := rfl
theorem b11_0 : blk 11 0 = [.aload 0, .monitorexit, .aload 0, .iconst 7, .iconst 12, .multianewarray 37 2, .if_acmp .eq 10243, .aload 0, .iconst 7, .newarray .int, .if_acmp .eq 10251, .aload 0, .iconst 6, .newarray .int, .if_acmp .eq 10259, .aload 0, .iconst 10, .newarray .int, .if_acmp .eq 10267, .aload 0, .iconst 10, .newarray .int, .if_acmp .eq 10275, .aload 0, .iconst 8, .newarray .int, .if_acmp .eq 10283, .aload 0, .iconst 12, .newarray .int, .if_acmp .eq 10291, .aload 0, .iconst 12, .newarray .int, .if_acmp .eq 10299, .aload 0, .iconst 12, .newarray .int, .if_acmp .eq 10307, .aload 0, .iconst 8, .newarray .int, .if_acmp .eq 10315, .aload 0, .iconst 36, .newarray .int, .if_acmp .eq 10323, .aload 0, .iconst 12, .newarray .int, .if_acmp .eq 10339, .aload 0, .iconst 12, .newarray .int, .if_acmp .eq 10347, .aload 0, .iconst 12, .newarray .int, .if_acmp .eq 10355, .aload 0, .iconst 2400, .newarray .int, .if_acmp .eq 10371, .return_] := rfl
theorem en11 {a0 : Int} : ent 11 [(3, a0)] = [(3, a0)] := rfl
theorem b12_0 : blk 12 0 = [.aload 0, .aload 1, .jsr_w 7171, .aload 0, .invokeinterface 3396 1, .return_] := rfl
theorem en12 {a0 a1 : Int} : ent 12 [(3, a0), (3, a1)] = [(3, a0), (3, a1)] := rfl
theorem b13_0 : blk 13 0 = [.aload 0, .ifnonnull 7187, .iconst 0, .invokeinterface 3588 2, .aload 0, .ifnonnull 7195, .iconst 0, .invokeinterface 3588 2, .aload 0, .invokeinterface 3908 1, .return_] := rfl
theorem en13 {a0 : Int} : ent 13 [(3, a0)] = [(3, a0)] := rfl
theorem b14_0 : blk 14 0 = [.iconst 0, .istore 2, .aload 0, .arraylength, .istore 3, .goto 1] := rfl
theorem b14_1 : blk 14 1 = [.iload 2, .iload 3, .if_icmp .ge 2, .aload 0, .iload 2, .iload 1, .iastore, .iinc 2 1, .goto 1] := rfl
theorem b14_2 : blk 14 2 = [.return_] := rfl
theorem en14 {a0 a1 : Int} : ent 14 [(3, a0), (0, a1)] = [(3, a0), (0, a1), (9, 0), (9, 0)] := rfl
theorem b15_0 : blk 15 0 = [.aload 0, .iconst 0, .jsr_w 7276, .aload 0, .iconst 0, .jsr_w 7284, .return_] := rfl
theorem en15 {a0 : Int} : ent 15 [(3, a0)] = [(3, a0)] := rfl
theorem b16_0 : blk 16 0 = [.aload 0, .aload 1, .jsr_w 5147, .return_] := rfl
theorem en16 {a0 a1 : Int} : ent 16 [(3, a0), (3, a1)] = [(3, a0), (3, a1)] := rfl
theorem b17_0 : blk 17 0 = [.aload 0, .aload 1, .jsr_w 8203, .aload 0, .invokeinterface 4684 1, .return_] := rfl
theorem en17 {a0 a1 : Int} : ent 17 [(3, a0), (3, a1)] = [(3, a0), (3, a1)] := rfl
theorem b18_0 : blk 18 0 = [.aload 0, .ifnonnull 8211, .iconst 0, .invokeinterface 3588 2, .aload 0, .invokeinterface 4940 1, .return_] := rfl
theorem en18 {a0 : Int} : ent 18 [(3, a0)] = [(3, a0)] := rfl
theorem b19_0 : blk 19 0 = [.aload 0, .iconst 0, .jsr_w 8228, .return_] := rfl
theorem en19 {a0 : Int} : ent 19 [(3, a0)] = [(3, a0)] := rfl
theorem b20_0 : blk 20 0 = [.aload 0, .aload 1, .jsr_w 9227, .aload 0, .ifnonnull 9243, .iconst 0, .invokeinterface 3588 2, .aload 0, .ifnonnull 9251, .iconst 0, .invokeinterface 3588 2, .aload 0, .ifnonnull 9259, .iconst (-9), .invokeinterface 3588 2, .aload 0, .iconst 0, .jsr_w 9268, .return_] := rfl
theorem en20 {a0 a1 : Int} : ent 20 [(3, a0), (3, a1)] = [(3, a0), (3, a1)] := rfl
theorem b21_0 : blk 21 0 = [.iload 1, .iconst 1, .if_icmp .lt 1, .iload 1, .iconst 8, .if_icmp .le 2, .goto 1] := rfl
theorem b21_1 : blk 21 1 = [.iconst (-1), .ireturn] := rfl
theorem b21_2 : blk 21 2 = [.aload 0, .ifnonnull 3, .iload 1, .lload 2, .invokeinterface 5648 3, .ifCond .eq 3, .aload 0, .ifnonnull 3, .invokeinterface 5904 1, .goto 4] := rfl
theorem b21_3 : blk 21 3 = [.iconst (-3), .goto 4] := rfl
theorem b21_4 : blk 21 4 = [.ireturn] := rfl
theorem en21 {a0 a1 a2 : Int} : ent 21 [(3, a0), (0, a1), (1, a2)] = [(3, a0), (0, a1), (1, a2), (9, 0)] := rfl
theorem b22_0 : blk 22 0 = [.iload 1, .ifCond .lt 1, .aload 0, .ifnull 1032, .iload 1, .iadd, .iconst 2400, .if_icmp .le 2, .goto 1] := rfl
theorem b22_1 : blk 22 1 = [.iconst 0, .freturn] := rfl
theorem b22_2 : blk 22 2 = [.iconst 0, .istore 4, .goto 3] := rfl
theorem b22_3 : blk 22 3 = [.iload 4, .iload 1, .if_icmp .ge 4, .aload 0, .ifnonnull 1027, .aload 0, .ifnull 1032, .iload 4, .iadd, .lload 2, .iconst 8, .iload 4, .imul, .lshr, .l2i, .i2b, .bastore, .iinc 4 1, .goto 3] := rfl
theorem b22_4 : blk 22 4 = [.aload 0, .dup, .ifnull 1032, .iload 1, .iadd, .jsr_w 1032, .iconst 1, .freturn] := rfl
theorem en22 {a0 a1 a2 : Int} : ent 22 [(3, a0), (0, a1), (1, a2)] = [(3, a0), (0, a1), (1, a2), (9, 0), (9, 0)] := rfl
theorem b23_0 : blk 23 0 = [.aload 0, .ifnull 1032, .ireturn] := rfl
theorem en23 {a0 : Int} : ent 23 [(3, a0)] = [(3, a0)] := rfl
theorem b24_0 : blk 24 0 = [.aload 0, .ifnonnull 11, .aload 0, .ifnull 75, .invokeinterface 6424 2, .istore 1, .aload 0, .ifnonnull 3, .invokeinterface 32276 1, .iload 1, .ifCond .lt 1, .iconst (-10), .iload 1, .isub, .ireturn] := rfl
theorem b24_1 : blk 24 1 = [.aload 0, .ifnull 67, .astore 2, .aload 0, .aload 0, .ifnull 75, .jsr_w 67, .aload 0, .aload 2, .jsr_w 75, .aload 0, .invokeinterface 32524 1, .aload 0, .ifnull 67, .iconst 6, .invokeinterface 14168 2, .ireturn] := rfl
theorem en24 {a0 : Int} : ent 24 [(3, a0)] = [(3, a0), (9, 0), (9, 0)] := rfl
theorem b25_0 : blk 25 0 = [.aload 0, .aload 1, .jsr_w 2059, .aload 0, .ifnull 2059, .invokeinterface 6748 1, .aload 0, .iconst (-1), .jsr_w 2064, .aload 0, .iconst 0, .jsr_w 2128, .aload 0, .ifnonnull 2051, .invokeinterface 6932 1, .iconst 0, .istore 2, .goto 1] := rfl
theorem b25_1 : blk 25 1 = [.iload 2, .iconst 2400, .if_icmp .ge 2, .aload 0, .invokeinterface 10520 1, .ifCond .eq 2, .aload 0, .ifnonnull 2051, .invokeinterface 11024 1, .ifCond .eq 2, .aload 0, .invokeinterface 11292 1, .iinc 2 1, .goto 1] := rfl
theorem b25_2 : blk 25 2 = [.aload 0, .invokeinterface 31772 1, .aload 0, .invokeinterface 10520 1, .ifCond .eq 3, .aload 0, .ifnull 2064, .goto 4] := rfl
theorem b25_3 : blk 25 3 = [.aload 0, .ifnonnull 2051, .invokeinterface 10768 1, .goto 4] := rfl
theorem b25_4 : blk 25 4 = [.ireturn] := rfl
theorem en25 {a0 a1 : Int} : ent 25 [(3, a0), (3, a1)] = [(3, a0), (3, a1), (9, 0)] := rfl
theorem b26_0 : blk 26 0 = [.aload 0, .ifnonnull 10251, .iconst 0, .invokeinterface 3588 2, .aload 0, .iconst 0, .jsr_w 10328, .aload 0, .iconst 0, .jsr_w 10360, .aload 0, .iconst 0, .jsr_w 10376, .return_] := rfl
theorem en26 {a0 : Int} : ent 26 [(3, a0)] = [(3, a0)] := rfl
theorem b27_0 : blk 27 0 = [.aload 0, .iconst 0, .jsr_w 1040, .aload 0, .iconst (-1), .jsr_w 1048, .aload 0, .iconst 1, .invokeinterface 7188 2, .return_] := rfl
theorem en27 {a0 : Int} : ent 27 [(3, a0)] = [(3, a0)] := rfl
theorem b28_0 : blk 28 0 = [.iload 1, .ifCond .eq 1, .aload 0, .ifnull 1048, .ifCond .lt 3, .goto 1] := rfl
theorem b28_1 : blk 28 1 = [.aload 0, .ifnull 1048, .ifCond .ge 2, .aload 0, .aload 0, .ifnull 1064, .jsr_w 1048, .goto 2] := rfl
theorem b28_2 : blk 28 2 = [.aload 0, .iconst 5, .jsr_w 1056, .return_] := rfl
theorem b28_3 : blk 28 3 = [.aload 0, .ifnull 1040, .aload 0, .ifnull 1032, .if_icmp .ge 5, .aload 0, .ifnonnull 1027, .aload 0, .ifnull 1040, .baload, .iconst 32, .if_icmp .eq 4, .aload 0, .ifnonnull 1027, .aload 0, .ifnull 1040, .baload, .iconst 10, .if_icmp .ne 5, .goto 4] := rfl
theorem b28_4 : blk 28 4 = [.aload 0, .dup, .ifnull 1040, .iconst 1, .iadd, .jsr_w 1040, .goto 3] := rfl
theorem b28_5 : blk 28 5 = [.aload 0, .aload 0, .ifnull 1040, .jsr_w 1064, .aload 0, .ifnull 1040, .aload 0, .ifnull 1032, .if_icmp .lt 6, .aload 0, .iconst 0, .jsr_w 1056, .goto 11] := rfl
theorem b28_6 : blk 28 6 = [.aload 0, .aload 0, .ifnull 1040, .invokeinterface 7440 2, .ifCond .eq 7, .aload 0, .invokeinterface 7700 1, .goto 11] := rfl
theorem b28_7 : blk 28 7 = [.aload 0, .aload 0, .ifnull 1040, .invokeinterface 7952 2, .ifCond .eq 8, .aload 0, .invokeinterface 8212 1, .goto 11] := rfl
theorem b28_8 : blk 28 8 = [.aload 0, .aload 0, .ifnonnull 1027, .aload 0, .ifnull 1040, .baload, .iconst 255, .iand, .i2c, .jsr_w 1101, .aload 0, .jsr (-51), .aload 0, .ifnull 1101, .invokeinterface 8560 2, .ifCond .lt 9, .iconst 4, .goto 10] := rfl
theorem b28_9 : blk 28 9 = [.iconst 5, .goto 10] := rfl
theorem b28_10 : blk 28 10 = [.jsr_w 1056, .aload 0, .dup, .ifnull 1040, .iconst 1, .iadd, .jsr_w 1040, .goto 11] := rfl
theorem b28_11 : blk 28 11 = [.return_] := rfl
theorem en28 {a0 a1 : Int} : ent 28 [(3, a0), (0, a1)] = [(3, a0), (0, a1)] := rfl
theorem b29_0 : blk 29 0 = [.iload 1, .aload 0, .ifnull 1032, .if_icmp .ge 1, .aload 0, .ifnonnull 1027, .iload 1, .baload, .iconst 97, .if_icmp .lt 1, .aload 0, .ifnonnull 1027, .iload 1, .baload, .iconst 122, .if_icmp .gt 1, .iconst 1, .goto 2] := rfl
theorem b29_1 : blk 29 1 = [.iconst 0, .goto 2] := rfl
theorem b29_2 : blk 29 2 = [.freturn] := rfl
theorem en29 {a0 a1 : Int} : ent 29 [(3, a0), (0, a1)] = [(3, a0), (0, a1)] := rfl
theorem b30_0 : blk 30 0 = [.aload 0, .bipush 0, .jsr_w 1073, .goto 1] := rfl
theorem b30_1 : blk 30 1 = [.aload 0, .ifnull 1040, .aload 0, .ifnull 1032, .if_icmp .ge 3, .aload 0, .aload 0, .ifnull 1040, .invokeinterface 7440 2, .ifCond .ne 2, .aload 0, .aload 0, .ifnull 1040, .invokeinterface 7952 2, .ifCond .eq 3, .goto 2] := rfl
theorem b30_2 : blk 30 2 = [.aload 0, .aload 0, .ifnull 1073, .iconst 8, .lshl, .aload 0, .ifnonnull 1027, .aload 0, .ifnull 1040, .baload, .i2l, .lor, .jsr_w 1073, .aload 0, .dup, .ifnull 1040, .iconst 1, .iadd, .jsr_w 1040, .goto 1] := rfl
theorem b30_3 : blk 30 3 = [.aload 0, .aload 0, .ifnull 1040, .aload 0, .ifnull 1064, .isub, .iconst 8, .if_icmp .gt 4, .iconst 1, .goto 5] := rfl
theorem b30_4 : blk 30 4 = [.iconst 5, .goto 5] := rfl
theorem b30_5 : blk 30 5 = [.jsr_w 1056, .return_] := rfl
theorem en30 {a0 : Int} : ent 30 [(3, a0)] = [(3, a0)] := rfl
theorem b31_0 : blk 31 0 = [.iload 1, .aload 0, .ifnull 1032, .if_icmp .ge 1, .aload 0, .ifnonnull 1027, .iload 1, .baload, .iconst 48, .if_icmp .lt 1, .aload 0, .ifnonnull 1027, .iload 1, .baload, .iconst 57, .if_icmp .gt 1, .iconst 1, .goto 2] := rfl
theorem b31_1 : blk 31 1 = [.iconst 0, .goto 2] := rfl
theorem b31_2 : blk 31 2 = [.freturn] := rfl
theorem en31 {a0 a1 : Int} : ent 31 [(3, a0), (0, a1)] = [(3, a0), (0, a1)] := rfl
theorem b32_0 : blk 32 0 = [.aload 0, .bipush 0, .jsr_w 1081, .goto 1] := rfl
theorem b32_1 : blk 32 1 = [.aload 0, .ifnull 1040, .aload 0, .ifnull 1032, .if_icmp .ge 2, .aload 0, .aload 0, .ifnull 1040, .invokeinterface 7952 2, .ifCond .eq 2, .aload 0, .aload 0, .ifnull 1081, .bipush 10, .lmul, .aload 0, .ifnonnull 1027, .aload 0, .ifnull 1040, .baload, .iconst 48, .isub, .i2l, .ladd, .jsr_w 1081, .aload 0, .dup, .ifnull 1040, .iconst 1, .iadd, .jsr_w 1040, .goto 1] := rfl
theorem b32_2 : blk 32 2 = [.aload 0, .aload 0, .ifnull 1040, .aload 0, .ifnull 1064, .isub, .iconst 6, .if_icmp .gt 3, .iconst 2, .goto 4] := rfl
theorem b32_3 : blk 32 3 = [.iconst 5, .goto 4] := rfl
theorem b32_4 : blk 32 4 = [.jsr_w 1056, .aload 0, .ifnull 1040, .aload 0, .ifnull 1032, .if_icmp .ge 5, .aload 0, .ifnonnull 1027, .aload 0, .ifnull 1040, .baload, .iconst 46, .if_icmp .ne 5, .aload 0, .aload 0, .ifnull 1040, .iconst 1, .iadd, .invokeinterface 7952 2, .ifCond .ne 6, .goto 5] := rfl
theorem b32_5 : blk 32 5 = [.return_] := rfl
theorem b32_6 : blk 32 6 = [.aload 0, .dup, .ifnull 1040, .iconst 1, .iadd, .jsr_w 1040, .aload 0, .ifnull 1040, .istore 1, .goto 7] := rfl
theorem b32_7 : blk 32 7 = [.aload 0, .ifnull 1040, .aload 0, .ifnull 1032, .if_icmp .ge 8, .aload 0, .aload 0, .ifnull 1040, .invokeinterface 7952 2, .ifCond .eq 8, .aload 0, .aload 0, .ifnull 1081, .bipush 10, .lmul, .aload 0, .ifnonnull 1027, .aload 0, .ifnull 1040, .baload, .iconst 48, .isub, .i2l, .ladd, .jsr_w 1081, .aload 0, .dup, .ifnull 1040, .iconst 1, .iadd, .jsr_w 1040, .goto 7] := rfl
theorem b32_8 : blk 32 8 = [.aload 0, .aload 0, .ifnull 1040, .iload 1, .isub, .jsr_w 1088, .aload 0, .aload 0, .ifnull 1056, .iconst 2, .if_icmp .ne 9, .aload 0, .ifnull 1088, .iconst 4, .if_icmp .gt 9, .iconst 3, .goto 10] := rfl
theorem b32_9 : blk 32 9 = [.iconst 5, .goto 10] := rfl
theorem b32_10 : blk 32 10 = [.jsr_w 1056, .return_] := rfl
theorem en32 {a0 : Int} : ent 32 [(3, a0)] = [(3, a0), (9, 0)] := rfl
theorem b33_0 : blk 33 0 = [.aload 0, .iload 1, .iconst 0, .invokeinterface 8816 3, .ireturn] := rfl
theorem en33 {a0 a1 : Int} : ent 33 [(3, a0), (0, a1)] = [(3, a0), (0, a1)] := rfl
theorem b34_0 : blk 34 0 = [.aload 0, .invokeinterface 9072 1, .ifCond .eq 1, .aload 0, .ifnonnull 13315, .iload 1, .iload 2, .aload 0, .invokeinterface 9328 1, .invokeinterface 9728 4, .goto 2] := rfl
theorem b34_1 : blk 34 1 = [.aload 0, .ifnonnull 13315, .iload 1, .iload 2, .aload 0, .invokeinterface 9328 1, .athrow] := rfl
theorem b34_2 : blk 34 2 = [.ireturn] := rfl
theorem en34 {a0 a1 a2 : Int} : ent 34 [(3, a0), (0, a1), (0, a2)] = [(3, a0), (0, a1), (0, a2)] := rfl
theorem b35_0 : blk 35 0 = [.iconst 1, .ifCond .eq 1, .aload 0, .ifnonnull 13326, .ifCond .ne 1, .iconst 1, .goto 2] := rfl
theorem b35_1 : blk 35 1 = [.iconst 0, .goto 2] := rfl
theorem b35_2 : blk 35 2 = [.freturn] := rfl
theorem en35 {a0 : Int} : ent 35 [(3, a0)] = [(3, a0)] := rfl
theorem b36_0 : blk 36 0 = [.aload 0, .ifnonnull 13315, .arraylength, .aload 0, .invokeinterface 9584 1, .ishr, .ireturn] := rfl
theorem en36 {a0 : Int} : ent 36 [(3, a0)] = [(3, a0)] := rfl
theorem b37_0 : blk 37 0 = [.iconst 1, .ifCond .eq 1, .aload 0, .ifnonnull 13326, .goto 2] := rfl
theorem b37_1 : blk 37 1 = [.iconst 1, .goto 2] := rfl
theorem b37_2 : blk 37 2 = [.fadd] := rfl
theorem en37 {a0 : Int} : ent 37 [(3, a0)] = [(3, a0)] := rfl
theorem b38_0 : blk 38 0 = [.iload 1, .invokeinterface 9984 1, .ifCond .ne 1, .iconst (-1), .ireturn] := rfl
theorem b38_1 : blk 38 1 = [.iload 2, .iconst 0, .dup_x1, .istore 2, .iload 3, .aload 0, .arraylength, .dup_x2, .istore 3, .iload 2, .iload 3, .if_icmp .lt 2, .iconst (-1), .ireturn] := rfl
theorem b38_2 : blk 38 2 = [.aload 0, .iload 1, .iload 2, .iload 3, .invokeinterface 10240 4, .ireturn] := rfl
theorem en38 {a0 a1 a2 a3 : Int} : ent 38 [(3, a0), (0, a1), (0, a2), (0, a3)] = [(3, a0), (0, a1), (0, a2), (0, a3)] := rfl
theorem b39_0 : blk 39 0 = [.iload 0, .ifCond .lt 1, .iload 0, .iconst 255, .if_icmp .gt 1, .iconst 1, .goto 2] := rfl
theorem b39_1 : blk 39 1 = [.iconst 0, .goto 2] := rfl
theorem b39_2 : blk 39 2 = [.freturn] := rfl
theorem en39 {a0 : Int} : ent 39 [(0, a0)] = [(0, a0)] := rfl
theorem b40_0 : blk 40 0 = [.iload 1, .i2b, .istore 4, .iload 2, .istore 5, .goto 1] := rfl
theorem b40_1 : blk 40 1 = [.iload 5, .iload 3, .if_icmp .ge 3, .aload 0, .iload 5, .baload, .iload 4, .if_icmp .ne 2, .iload 5, .ireturn] := rfl
theorem b40_2 : blk 40 2 = [.iinc 5 1, .goto 1] := rfl
theorem b40_3 : blk 40 3 = [.iconst (-1), .ireturn] := rfl
theorem en40 {a0 a1 a2 a3 : Int} : ent 40 [(3, a0), (0, a1), (0, a2), (0, a3)] = [(3, a0), (0, a1), (0, a2), (0, a3), (9, 0), (9, 0)] := rfl
theorem b41_0 : blk 41 0 = [.aload 0, .ifnonnull 2051, .invokeinterface 10768 1, .ifCond .ge 1, .iconst 1, .goto 2] := rfl
theorem b41_1 : blk 41 1 = [.iconst 0, .goto 2] := rfl
theorem b41_2 : blk 41 2 = [.freturn] := rfl
theorem en41 {a0 : Int} : ent 41 [(3, a0)] = [(3, a0)] := rfl
theorem b42_0 : blk 42 0 = [.aload 0, .ifnull 1048, .ireturn] := rfl
theorem en42 {a0 : Int} : ent 42 [(3, a0)] = [(3, a0)] := rfl
theorem b43_0 : blk 43 0 = [.aload 0, .ifnull 1056, .ireturn] := rfl
theorem en43 {a0 : Int} : ent 43 [(3, a0)] = [(3, a0)] := rfl
theorem b44_0 : blk 44 0 = [.aload 0, .ifnonnull 2051, .jsr (-179), .invokeinterface 11536 2, .istore 1, .aload 0, .ifnonnull 2051, .iload 1, .ifCond .lt 1, .iconst 1, .goto 2] := rfl
theorem b44_1 : blk 44 1 = [.iconst 0, .goto 2] := rfl
theorem b44_2 : blk 44 2 = [.invokeinterface 7188 2, .iload 1, .tableswitch 10 0 6 #[3, 4, 5, 6, 7, 8, 9]] := rfl
theorem b44_3 : blk 44 3 = [.aload 0, .invokeinterface 12828 1, .goto 10] := rfl
theorem b44_4 : blk 44 4 = [.aload 0, .invokeinterface 15388 1, .goto 10] := rfl
theorem b44_5 : blk 44 5 = [.aload 0, .invokeinterface 16156 1, .goto 10] := rfl
theorem b44_6 : blk 44 6 = [.aload 0, .invokeinterface 16924 1, .goto 10] := rfl
theorem b44_7 : blk 44 7 = [.aload 0, .invokeinterface 17180 1, .goto 10] := rfl
theorem b44_8 : blk 44 8 = [.aload 0, .invokeinterface 18204 1, .goto 10] := rfl
theorem b44_9 : blk 44 9 = [.aload 0, .invokeinterface 18460 1, .goto 10] := rfl
theorem b44_10 : blk 44 10 = [.return_] := rfl
theorem en44 {a0 : Int} : ent 44 [(3, a0)] = [(3, a0), (9, 0)] := rfl
theorem b45_0 : blk 45 0 = [.aload 0, .ifnull 1056, .iconst 1, .if_icmp .eq 1, .iconst (-1), .ireturn] := rfl
theorem b45_1 : blk 45 1 = [.iconst 0, .istore 2, .bipush 0, .lstore 3, .iconst 0, .istore 5, .goto 2] := rfl
theorem b45_2 : blk 45 2 = [.iload 5, .aload 1, .invokeinterface 9328 1, .if_icmp .ge 6, .aload 1, .iload 5, .invokeinterface 11888 2, .iconst 32, .if_icmp .eq 3, .lload 3, .iconst 8, .lshl, .aload 1, .iload 5, .invokeinterface 11888 2, .i2l, .lor, .lstore 3, .goto 5] := rfl
theorem b45_3 : blk 45 3 = [.lload 3, .aload 0, .ifnull 1073, .lcmp, .ifCond .ne 4, .iload 2, .ireturn] := rfl
theorem b45_4 : blk 45 4 = [.bipush 0, .lstore 3, .iinc 2 1, .goto 5] := rfl
theorem b45_5 : blk 45 5 = [.iinc 5 1, .goto 2] := rfl
theorem b45_6 : blk 45 6 = [.lload 3, .aload 0, .ifnull 1073, .lcmp, .ifCond .ne 7, .iload 2, .goto 8] := rfl
theorem b45_7 : blk 45 7 = [.iconst (-1), .goto 8] := rfl
theorem b45_8 : blk 45 8 = [.ireturn] := rfl
theorem en45 {a0 a1 : Int} : ent 45 [(3, a0), (3, a1)] = [(3, a0), (3, a1), (9, 0), (9, 0), (9, 0), (9, 0)] := rfl
theorem b46_0 : blk 46 0 = [.aload 0, .invokeinterface 9072 1, .ifCond .eq 1, .aload 0, .ifnonnull 13315, .iload 1, .invokeinterface 12032 2, .fneg] := rfl
theorem b46_1 : blk 46 1 = [.aload 0, .ifnonnull 13315, .iload 1, .athrow] := rfl
theorem en46 {a0 a1 : Int} : ent 46 [(3, a0), (0, a1)] = [(3, a0), (0, a1)] := rfl
theorem b47_0 : blk 47 0 = [.iload 1, .aload 0, .arraylength, .invokeinterface 12292 2, .aload 0, .iload 1, .baload, .iconst 255, .iand, .i2c, .fneg] := rfl
theorem en47 {a0 a1 : Int} : ent 47 [(3, a0), (0, a1)] = [(3, a0), (0, a1)] := rfl
theorem b48_0 : blk 48 0 = [.iload 0, .iload 1, .jsr 62, .invokeinterface 12544 3, .pop, .return_] := rfl
theorem en48 {a0 a1 : Int} : ent 48 [(0, a0), (0, a1)] = [(0, a0), (0, a1)] := rfl
theorem b49_0 : blk 49 0 = [.iload 0, .ifCond .lt 1, .iload 0, .iload 1, .if_icmp .lt 2, .goto 1] := rfl
theorem b49_1 : blk 49 1 = [.aload 2, .iload 0, .iload 1, .athrow] := rfl
theorem b49_2 : blk 49 2 = [.iload 0, .ireturn] := rfl
theorem en49 {a0 a1 a2 : Int} : ent 49 [(0, a0), (0, a1), (3, a2)] = [(0, a0), (0, a1), (3, a2)] := rfl
theorem b50_0 : blk 50 0 = [.aload 0, .iconst 0, .invokeinterface 13080 2, .pop, .aload 0, .iconst 59, .invokeinterface 14876 2, .return_] := rfl
theorem en50 {a0 : Int} : ent 50 [(3, a0)] = [(3, a0)] := rfl
theorem b51_0 : blk 51 0 = [.aload 0, .invokeinterface 13336 1, .ifCond .eq 1, .aload 0, .ifnull 2059, .iload 1, .aload 0, .ifnonnull 2051, .invokeinterface 13585 1, .invokeinterface 13912 3, .goto 2] := rfl
theorem b51_1 : blk 51 1 = [.iconst (-1), .goto 2] := rfl
theorem b51_2 : blk 51 2 = [.istore 2, .aload 0, .ifnonnull 2051, .iload 2, .ifCond .lt 3, .iconst 1, .goto 4] := rfl
theorem b51_3 : blk 51 3 = [.iconst 0, .goto 4] := rfl
theorem b51_4 : blk 51 4 = [.invokeinterface 7188 2, .iload 2, .ireturn] := rfl
theorem en51 {a0 a1 : Int} : ent 51 [(3, a0), (0, a1)] = [(3, a0), (0, a1), (9, 0)] := rfl
theorem b52_0 : blk 52 0 = [.aload 0, .ifnonnull 2051, .invokeinterface 11024 1, .iconst 1, .if_icmp .ne 1, .aload 0, .ifnonnull 2051, .jsr (-179), .invokeinterface 11536 2, .ifCond .ge 1, .aload 0, .ifnonnull 2051, .jsr (-307), .invokeinterface 11536 2, .ifCond .ge 1, .aload 0, .ifnonnull 2051, .jsr (-435), .invokeinterface 11536 2, .ifCond .ge 1, .aload 0, .ifnonnull 2051, .jsr (-563), .invokeinterface 11536 2, .ifCond .ge 1, .aload 0, .ifnonnull 2051, .jsr (-691), .invokeinterface 11536 2, .ifCond .ge 1, .aload 0, .ifnonnull 2051, .jsr (-819), .invokeinterface 11536 2, .ifCond .ge 1, .iconst 1, .goto 2] := rfl
theorem b52_1 : blk 52 1 = [.iconst 0, .goto 2] := rfl
theorem b52_2 : blk 52 2 = [.freturn] := rfl
theorem en52 {a0 : Int} : ent 52 [(3, a0)] = [(3, a0)] := rfl
theorem b53_0 : blk 53 0 = [.aload 0, .ifnull 1073, .lreturn] := rfl
theorem en53 {a0 : Int} : ent 53 [(3, a0)] = [(3, a0)] := rfl
theorem b54_0 : blk 54 0 = [.aload 0, .iload 1, .invokeinterface 14168 2, .iload 1, .invokeinterface 14336 1, .if_icmp .ge 1, .aload 0, .iload 1, .lload 2, .invokeinterface 14680 3, .ifCond .lt 2, .goto 1] := rfl
theorem b54_1 : blk 54 1 = [.iconst (-1), .ireturn] := rfl
theorem b54_2 : blk 54 2 = [.aload 0, .ifnonnull 10243, .iload 1, .aaload, .aload 0, .ifnonnull 10251, .iload 1, .iaload, .lload 2, .lastore, .aload 0, .ifnonnull 10251, .iload 1, .dup2, .iaload, .iconst 1, .iadd, .iastore, .aload 0, .ifnonnull 10251, .iload 1, .iaload, .iconst 1, .isub, .ireturn] := rfl
theorem en54 {a0 a1 a2 : Int} : ent 54 [(3, a0), (0, a1), (1, a2)] = [(3, a0), (0, a1), (1, a2), (9, 0)] := rfl
theorem b55_0 : blk 55 0 = [.iload 1, .ifCond .lt 1, .iload 1, .aload 0, .ifnonnull 10251, .arraylength, .if_icmp .ge 1, .aload 0, .ifnonnull 10251, .iload 1, .iaload, .goto 2] := rfl
theorem b55_1 : blk 55 1 = [.iconst 0, .goto 2] := rfl
theorem b55_2 : blk 55 2 = [.ireturn] := rfl
theorem en55 {a0 a1 : Int} : ent 55 [(3, a0), (0, a1)] = [(3, a0), (0, a1)] := rfl
theorem b56_0 : blk 56 0 = [.iload 0, .tableswitch 8 0 6 #[1, 2, 3, 4, 5, 6, 7]] := rfl
theorem b56_1 : blk 56 1 = [.iconst 12, .ireturn] := rfl
theorem b56_2 : blk 56 2 = [.iconst 6, .ireturn] := rfl
theorem b56_3 : blk 56 3 = [.iconst 10, .ireturn] := rfl
theorem b56_4 : blk 56 4 = [.iconst 8, .ireturn] := rfl
theorem b56_5 : blk 56 5 = [.iconst 12, .ireturn] := rfl
theorem b56_6 : blk 56 6 = [.iconst 8, .ireturn] := rfl
theorem b56_7 : blk 56 7 = [.iconst 12, .ireturn] := rfl
theorem b56_8 : blk 56 8 = [.iconst 0, .ireturn] := rfl
theorem en56 {a0 : Int} : ent 56 [(0, a0)] = [(0, a0)] := rfl
theorem b57_0 : blk 57 0 = [.iconst 0, .istore 4, .goto 1] := rfl
theorem b57_1 : blk 57 1 = [.iload 4, .aload 0, .iload 1, .invokeinterface 14168 2, .if_icmp .ge 3, .aload 0, .ifnonnull 10243, .iload 1, .aaload, .iload 4, .laload, .lload 2, .lcmp, .ifCond .ne 2, .iload 4, .ireturn] := rfl
theorem b57_2 : blk 57 2 = [.iinc 4 1, .goto 1] := rfl
theorem b57_3 : blk 57 3 = [.iconst (-1), .ireturn] := rfl
theorem en57 {a0 a1 a2 : Int} : ent 57 [(3, a0), (0, a1), (1, a2)] = [(3, a0), (0, a1), (1, a2), (9, 0), (9, 0)] := rfl
theorem b58_0 : blk 58 0 = [.aload 0, .ifnonnull 2051, .aload 0, .ifnonnull 2051, .iload 1, .invokeinterface 15120 2, .invokeinterface 7188 2, .return_] := rfl
theorem en58 {a0 a1 : Int} : ent 58 [(3, a0), (0, a1)] = [(3, a0), (0, a1)] := rfl
theorem b59_0 : blk 59 0 = [.aload 0, .ifnull 1056, .iconst 4, .if_icmp .ne 1, .aload 0, .ifnull 1101, .iload 1, .if_icmp .ne 1, .iconst 1, .goto 2] := rfl
theorem b59_1 : blk 59 1 = [.iconst 0, .goto 2] := rfl
theorem b59_2 : blk 59 2 = [.freturn] := rfl
theorem en59 {a0 a1 : Int} : ent 59 [(3, a0), (0, a1)] = [(3, a0), (0, a1)] := rfl
theorem b60_0 : blk 60 0 = [.aload 0, .iconst 1, .invokeinterface 13080 2, .istore 1, .aload 0, .iconst 99, .invokeinterface 15640 2, .istore 2, .aload 0, .iconst 59, .invokeinterface 14876 2, .aload 0, .invokeinterface 10520 1, .ifCond .eq 1, .aload 0, .ifnull 2059, .ifnonnull 10259, .iload 1, .iload 2, .iastore, .goto 1] := rfl
theorem b60_1 : blk 60 1 = [.return_] := rfl
theorem en60 {a0 : Int} : ent 60 [(3, a0)] = [(3, a0), (9, 0), (9, 0)] := rfl
theorem b61_0 : blk 61 0 = [.aload 0, .ifnonnull 2051, .invokeinterface 15888 1, .istore 2, .aload 0, .ifnonnull 2051, .aload 0, .ifnonnull 2051, .invokeinterface 11024 1, .iconst 2, .if_icmp .ne 1, .iload 2, .iconst 1, .if_icmp .lt 1, .iload 2, .iload 1, .if_icmp .gt 1, .iconst 1, .goto 2] := rfl
theorem b61_1 : blk 61 1 = [.iconst 0, .goto 2] := rfl
theorem b61_2 : blk 61 2 = [.invokeinterface 7188 2, .iload 2, .ireturn] := rfl
theorem en61 {a0 a1 : Int} : ent 61 [(3, a0), (0, a1)] = [(3, a0), (0, a1), (9, 0)] := rfl
theorem b62_0 : blk 62 0 = [.aload 0, .ifnull 1081, .l2i, .ireturn] := rfl
theorem en62 {a0 : Int} : ent 62 [(3, a0)] = [(3, a0)] := rfl
theorem b63_0 : blk 63 0 = [.aload 0, .iconst 2, .invokeinterface 13080 2, .istore 1, .aload 0, .ifnonnull 2051, .jsr (-307), .invokeinterface 11536 2, .istore 2, .aload 0, .ifnonnull 2051, .iload 2, .ifCond .lt 1, .iconst 1, .goto 2] := rfl
theorem b63_1 : blk 63 1 = [.iconst 0, .goto 2] := rfl
theorem b63_2 : blk 63 2 = [.invokeinterface 7188 2, .aload 0, .iconst 58, .invokeinterface 14876 2, .aload 0, .iconst 0, .invokeinterface 16408 2, .istore 3, .iconst 0, .istore 4, .goto 3] := rfl
theorem b63_3 : blk 63 3 = [.iload 4, .iconst 12, .if_icmp .ge 4, .aload 0, .ifnonnull 2051, .iconst 44, .invokeinterface 15120 2, .ifCond .eq 4, .aload 0, .ifnonnull 2051, .iconst 1, .invokeinterface 7188 2, .aload 0, .iload 3, .invokeinterface 16408 2, .istore 3, .iinc 4 1, .goto 3] := rfl
theorem b63_4 : blk 63 4 = [.aload 0, .iconst 59, .invokeinterface 14876 2, .aload 0, .invokeinterface 10520 1, .ifCond .eq 5, .aload 0, .ifnull 2059, .ifnonnull 10267, .iload 1, .iconst 2, .iload 2, .iadd, .iastore, .aload 0, .ifnull 2059, .ifnonnull 10275, .iload 1, .iload 3, .iastore, .goto 5] := rfl
theorem b63_5 : blk 63 5 = [.return_] := rfl
theorem en63 {a0 : Int} : ent 63 [(3, a0)] = [(3, a0), (9, 0), (9, 0), (9, 0), (9, 0)] := rfl
theorem b64_0 : blk 64 0 = [.aload 0, .iconst 0, .invokeinterface 16664 2, .istore 2, .iload 2, .ifCond .lt 1, .iload 1, .iload 2, .ishr, .iconst 1, .iand, .ifCond .ne 1, .iconst 1, .goto 2] := rfl
theorem b64_1 : blk 64 1 = [.iconst 0, .goto 2] := rfl
theorem b64_2 : blk 64 2 = [.istore 3, .aload 0, .ifnonnull 2051, .iload 3, .invokeinterface 7188 2, .iload 3, .ifCond .eq 3, .iload 1, .iconst 1, .iload 2, .ishl, .ior, .goto 4] := rfl
theorem b64_3 : blk 64 3 = [.iload 1, .goto 4] := rfl
theorem b64_4 : blk 64 4 = [.ireturn] := rfl
theorem en64 {a0 a1 : Int} : ent 64 [(3, a0), (0, a1)] = [(3, a0), (0, a1), (9, 0), (9, 0)] := rfl
theorem b65_0 : blk 65 0 = [.aload 0, .invokeinterface 13336 1, .ifCond .eq 1, .aload 0, .ifnull 2059, .iload 1, .aload 0, .ifnonnull 2051, .invokeinterface 13585 1, .invokeinterface 14680 3, .goto 2] := rfl
theorem b65_1 : blk 65 1 = [.iconst (-1), .goto 2] := rfl
theorem b65_2 : blk 65 2 = [.ireturn] := rfl
theorem en65 {a0 a1 : Int} : ent 65 [(3, a0), (0, a1)] = [(3, a0), (0, a1)] := rfl
theorem b66_0 : blk 66 0 = [.aload 0, .iconst 3, .invokeinterface 13080 2, .istore 1, .aload 0, .iconst 99, .invokeinterface 15640 2, .istore 2, .aload 0, .iconst 59, .invokeinterface 14876 2, .aload 0, .invokeinterface 10520 1, .ifCond .eq 1, .aload 0, .ifnull 2059, .ifnonnull 10283, .iload 1, .iload 2, .iastore, .goto 1] := rfl
theorem b66_1 : blk 66 1 = [.return_] := rfl
theorem en66 {a0 : Int} : ent 66 [(3, a0)] = [(3, a0), (9, 0), (9, 0)] := rfl
theorem b67_0 : blk 67 0 = [.aload 0, .iconst 4, .invokeinterface 13080 2, .istore 1, .aload 0, .iconst 58, .invokeinterface 14876 2, .aload 0, .iconst 0, .invokeinterface 16664 2, .istore 2, .aload 0, .ifnonnull 2051, .iload 2, .ifCond .lt 1, .iconst 1, .goto 2] := rfl
theorem b67_1 : blk 67 1 = [.iconst 0, .goto 2] := rfl
theorem b67_2 : blk 67 2 = [.invokeinterface 7188 2, .aload 0, .iconst 3, .invokeinterface 16664 2, .istore 3, .aload 0, .ifnonnull 2051, .iload 3, .ifCond .lt 3, .iconst 1, .goto 4] := rfl
theorem b67_3 : blk 67 3 = [.iconst 0, .goto 4] := rfl
theorem b67_4 : blk 67 4 = [.invokeinterface 7188 2, .aload 0, .iconst 2, .invokeinterface 16664 2, .istore 4, .aload 0, .ifnonnull 2051, .iload 4, .ifCond .lt 5, .aload 0, .ifnull 2059, .iload 4, .iload 2, .invokeinterface 17496 3, .ifCond .eq 5, .iconst 1, .goto 6] := rfl
theorem b67_5 : blk 67 5 = [.iconst 0, .goto 6] := rfl
theorem b67_6 : blk 67 6 = [.invokeinterface 7188 2, .aload 0, .iconst 3, .invokeinterface 15640 2, .istore 5, .aload 0, .iconst 59, .invokeinterface 14876 2, .aload 0, .invokeinterface 10520 1, .ifCond .eq 7, .aload 0, .ifnull 2059, .ifnonnull 10291, .iload 1, .iload 2, .iastore, .aload 0, .ifnull 2059, .ifnonnull 10299, .iload 1, .iload 3, .iastore, .aload 0, .ifnull 2059, .ifnonnull 10307, .iload 1, .iload 4, .iastore, .aload 0, .ifnull 2059, .iload 1, .iload 5, .invokeinterface 18012 3, .goto 7] := rfl
theorem b67_7 : blk 67 7 = [.return_] := rfl
theorem en67 {a0 : Int} : ent 67 [(3, a0)] = [(3, a0), (9, 0), (9, 0), (9, 0), (9, 0), (9, 0)] := rfl
theorem b68_0 : blk 68 0 = [.aload 0, .iconst 2, .iload 1, .invokeinterface 17752 3, .ifCond .eq 1, .iload 2, .ifCond .lt 1, .aload 0, .ifnonnull 10275, .iload 1, .iaload, .iload 2, .ishr, .iconst 1, .iand, .iconst 1, .if_icmp .ne 1, .iconst 1, .goto 2] := rfl
theorem b68_1 : blk 68 1 = [.iconst 0, .goto 2] := rfl
theorem b68_2 : blk 68 2 = [.freturn] := rfl
theorem en68 {a0 a1 a2 : Int} : ent 68 [(3, a0), (0, a1), (0, a2)] = [(3, a0), (0, a1), (0, a2)] := rfl
theorem b69_0 : blk 69 0 = [.iload 2, .ifCond .lt 1, .iload 2, .aload 0, .iload 1, .invokeinterface 14168 2, .if_icmp .ge 1, .iconst 1, .goto 2] := rfl
theorem b69_1 : blk 69 1 = [.iconst 0, .goto 2] := rfl
theorem b69_2 : blk 69 2 = [.freturn] := rfl
theorem en69 {a0 a1 a2 : Int} : ent 69 [(3, a0), (0, a1), (0, a2)] = [(3, a0), (0, a1), (0, a2)] := rfl
theorem b70_0 : blk 70 0 = [.iconst 0, .istore 3, .goto 1] := rfl
theorem b70_1 : blk 70 1 = [.iload 3, .iload 2, .if_icmp .ge 2, .aload 0, .ifnull 10328, .iconst 36, .if_icmp .ge 2, .aload 0, .ifnonnull 10323, .aload 0, .ifnull 10328, .iload 1, .iastore, .aload 0, .dup, .ifnull 10328, .iconst 1, .iadd, .jsr_w 10328, .iinc 3 1, .goto 1] := rfl
theorem b70_2 : blk 70 2 = [.return_] := rfl
theorem en70 {a0 a1 a2 : Int} : ent 70 [(3, a0), (0, a1), (0, a2)] = [(3, a0), (0, a1), (0, a2), (9, 0)] := rfl
theorem b71_0 : blk 71 0 = [.aload 0, .iconst 5, .invokeinterface 13080 2, .istore 1, .aload 0, .iconst 99, .invokeinterface 15640 2, .istore 2, .aload 0, .iconst 59, .invokeinterface 14876 2, .aload 0, .invokeinterface 10520 1, .ifCond .eq 1, .aload 0, .ifnull 2059, .ifnonnull 10315, .iload 1, .iload 2, .iastore, .goto 1] := rfl
theorem b71_1 : blk 71 1 = [.return_] := rfl
theorem en71 {a0 : Int} : ent 71 [(3, a0)] = [(3, a0), (9, 0), (9, 0)] := rfl
theorem b72_0 : blk 72 0 = [.aload 0, .iconst 6, .invokeinterface 13080 2, .istore 1, .aload 0, .iconst 0, .jsr_w 2096, .aload 0, .iconst 40, .invokeinterface 14876 2, .aload 0, .ifnonnull 2051, .iconst 41, .invokeinterface 15120 2, .ifCond .ne 2, .aload 0, .invokeinterface 18716 1, .iconst 0, .istore 2, .goto 1] := rfl
theorem b72_1 : blk 72 1 = [.iload 2, .iconst 4, .if_icmp .ge 2, .aload 0, .ifnonnull 2051, .iconst 44, .invokeinterface 15120 2, .ifCond .eq 2, .aload 0, .ifnonnull 2051, .iconst 1, .invokeinterface 7188 2, .aload 0, .invokeinterface 18716 1, .iinc 2 1, .goto 1] := rfl
theorem b72_2 : blk 72 2 = [.aload 0, .iconst 41, .invokeinterface 14876 2, .aload 0, .invokeinterface 10520 1, .ifCond .ne 3, .return_] := rfl
theorem b72_3 : blk 72 3 = [.aload 0, .ifnull 2059, .ifnonnull 10339, .iload 1, .aload 0, .ifnull 2059, .invokeinterface 19800 1, .iastore, .aload 0, .ifnull 2059, .ifnonnull 10347, .iload 1, .aload 0, .ifnull 2096, .iastore, .aload 0, .iconst 0, .invokeinterface 19996 2, .aload 0, .ifnull 2059, .iconst 0, .invokeinterface 21084 2, .aload 0, .ifnull 2059, .ifnonnull 10355, .iload 1, .aload 0, .ifnull 2096, .iastore, .iconst 0, .istore 2, .goto 4] := rfl
theorem b72_4 : blk 72 4 = [.iload 2, .aload 0, .ifnull 2096, .if_icmp .ge 6, .aload 0, .ifnonnull 2091, .iload 2, .iaload, .ifCond .lt 5, .aload 0, .aload 0, .ifnonnull 2091, .iload 2, .iaload, .invokeinterface 31516 2, .goto 5] := rfl
theorem b72_5 : blk 72 5 = [.iinc 2 1, .goto 4] := rfl
theorem b72_6 : blk 72 6 = [.return_] := rfl
theorem en72 {a0 : Int} : ent 72 [(3, a0)] = [(3, a0), (9, 0), (9, 0)] := rfl
theorem b73_0 : blk 73 0 = [.aload 0, .invokeinterface 13336 1, .ifCond .eq 1, .aload 0, .ifnull 2096, .iconst 4, .if_icmp .ge 1, .aload 0, .aload 0, .ifnonnull 2051, .invokeinterface 13585 1, .invokeinterface 18968 2, .ifCond .ge 1, .iconst 1, .goto 2] := rfl
theorem b73_1 : blk 73 1 = [.iconst 0, .goto 2] := rfl
theorem b73_2 : blk 73 2 = [.istore 1, .iload 1, .ifCond .eq 3, .aload 0, .aload 0, .ifnonnull 2051, .invokeinterface 13585 1, .invokeinterface 19224 2, .pop, .goto 3] := rfl
theorem b73_3 : blk 73 3 = [.aload 0, .ifnonnull 2051, .iload 1, .invokeinterface 7188 2, .return_] := rfl
theorem en73 {a0 : Int} : ent 73 [(3, a0)] = [(3, a0), (9, 0)] := rfl
theorem b74_0 : blk 74 0 = [.iconst 0, .istore 3, .goto 1] := rfl
theorem b74_1 : blk 74 1 = [.iload 3, .aload 0, .ifnull 2096, .if_icmp .ge 3, .aload 0, .ifnonnull 2083, .iload 3, .laload, .lload 1, .lcmp, .ifCond .ne 2, .iload 3, .ireturn] := rfl
theorem b74_2 : blk 74 2 = [.iinc 3 1, .goto 1] := rfl
theorem b74_3 : blk 74 3 = [.iconst (-1), .ireturn] := rfl
theorem en74 {a0 a1 : Int} : ent 74 [(3, a0), (1, a1)] = [(3, a0), (1, a1), (9, 0), (9, 0)] := rfl
theorem b75_0 : blk 75 0 = [.aload 0, .lload 1, .iconst (-1), .invokeinterface 19480 3, .istore 3, .iload 3, .ifCond .lt 1, .aload 0, .ifnonnull 2091, .iload 3, .iconst (-1), .iastore, .goto 1] := rfl
theorem b75_1 : blk 75 1 = [.iload 3, .ireturn] := rfl
theorem en75 {a0 a1 : Int} : ent 75 [(3, a0), (1, a1)] = [(3, a0), (1, a1), (9, 0), (9, 0)] := rfl
theorem b76_0 : blk 76 0 = [.aload 0, .lload 1, .invokeinterface 18968 2, .istore 4, .iload 4, .ifCond .ge 1, .aload 0, .ifnull 2096, .iconst 404, .if_icmp .lt 2, .goto 1] := rfl
theorem b76_1 : blk 76 1 = [.iload 4, .ireturn] := rfl
theorem b76_2 : blk 76 2 = [.aload 0, .ifnonnull 2083, .aload 0, .ifnull 2096, .lload 1, .lastore, .aload 0, .ifnonnull 2091, .aload 0, .ifnull 2096, .iload 3, .iastore, .aload 0, .dup, .ifnull 2096, .iconst 1, .iadd, .jsr_w 2096, .aload 0, .ifnull 2096, .iconst 1, .isub, .ireturn] := rfl
theorem en76 {a0 a1 a2 : Int} : ent 76 [(3, a0), (1, a1), (0, a2)] = [(3, a0), (1, a1), (9, 0), (0, a2), (9, 0)] := rfl
theorem b77_0 : blk 77 0 = [.aload 0, .ifnull 10376, .ireturn] := rfl
theorem en77 {a0 : Int} : ent 77 [(3, a0)] = [(3, a0)] := rfl
theorem b78_0 : blk 78 0 = [.aload 0, .iconst 123, .iload 1, .invokeinterface 20252 3, .iconst 0, .istore 2, .goto 1] := rfl
theorem b78_1 : blk 78 1 = [.iload 2, .iconst 400, .if_icmp .gt 2, .aload 0, .invokeinterface 10520 1, .ifCond .eq 2, .aload 0, .ifnonnull 2051, .iconst 125, .invokeinterface 15120 2, .ifCond .ne 2, .aload 0, .iload 1, .iconst 1, .iadd, .invokeinterface 20508 2, .iinc 2 1, .goto 1] := rfl
theorem b78_2 : blk 78 2 = [.aload 0, .iconst 125, .invokeinterface 14876 2, .return_] := rfl
theorem en78 {a0 a1 : Int} : ent 78 [(3, a0), (0, a1)] = [(3, a0), (0, a1), (9, 0)] := rfl
theorem b79_0 : blk 79 0 = [.aload 0, .ifnonnull 2051, .iload 2, .iconst 12, .if_icmp .ge 1, .aload 0, .ifnonnull 2051, .iload 1, .invokeinterface 15120 2, .ifCond .eq 1, .iconst 1, .goto 2] := rfl
theorem b79_1 : blk 79 1 = [.iconst 0, .goto 2] := rfl
theorem b79_2 : blk 79 2 = [.invokeinterface 7188 2, .return_] := rfl
theorem en79 {a0 a1 a2 : Int} : ent 79 [(3, a0), (0, a1), (0, a2)] = [(3, a0), (0, a1), (0, a2)] := rfl
theorem b80_0 : blk 80 0 = [.aload 0, .invokeinterface 20764 1, .aload 0, .ifnull 2059, .iconst 1, .invokeinterface 21084 2, .aload 0, .ifnonnull 2051, .jsr (-435), .invokeinterface 11536 2, .istore 2, .iload 2, .ifCond .ge 1, .aload 0, .iload 1, .invokeinterface 21276 2, .return_] := rfl
theorem b80_1 : blk 80 1 = [.aload 0, .ifnonnull 2051, .iconst 1, .invokeinterface 7188 2, .iload 2, .tableswitch 7 0 4 #[2, 3, 4, 5, 6]] := rfl
theorem b80_2 : blk 80 2 = [.aload 0, .iload 1, .invokeinterface 28700 2, .goto 8] := rfl
theorem b80_3 : blk 80 3 = [.aload 0, .iload 1, .invokeinterface 29980 2, .goto 8] := rfl
theorem b80_4 : blk 80 4 = [.aload 0, .iload 1, .invokeinterface 30236 2, .goto 8] := rfl
theorem b80_5 : blk 80 5 = [.aload 0, .invokeinterface 30748 1, .goto 8] := rfl
theorem b80_6 : blk 80 6 = [.aload 0, .iload 1, .invokeinterface 31004 2, .goto 8] := rfl
theorem b80_7 : blk 80 7 = [.aload 0, .iload 1, .invokeinterface 31260 2, .goto 8] := rfl
theorem b80_8 : blk 80 8 = [.return_] := rfl
theorem en80 {a0 a1 : Int} : ent 80 [(3, a0), (0, a1)] = [(3, a0), (0, a1), (9, 0)] := rfl
theorem b81_0 : blk 81 0 = [.aload 0, .ifnull 2059, .ifnull 10360, .iconst 400, .if_icmp .lt 1, .aload 0, .ifnonnull 2051, .iconst 0, .invokeinterface 7188 2, .goto 1] := rfl
theorem b81_1 : blk 81 1 = [.aload 0, .ifnull 2059, .dup, .ifnull 10360, .iconst 1, .iadd, .jsr_w 10360, .return_] := rfl
theorem en81 {a0 : Int} : ent 81 [(3, a0)] = [(3, a0)] := rfl
theorem b82_0 : blk 82 0 = [.aload 0, .ifnull 10376, .iconst 2400, .if_icmp .lt 1, .return_] := rfl
theorem b82_1 : blk 82 1 = [.aload 0, .ifnonnull 10371, .aload 0, .ifnull 10376, .iload 1, .iastore, .aload 0, .dup, .ifnull 10376, .iconst 1, .iadd, .jsr_w 10376, .return_] := rfl
theorem en82 {a0 a1 : Int} : ent 82 [(3, a0), (0, a1)] = [(3, a0), (0, a1)] := rfl
theorem b83_0 : blk 83 0 = [.aload 0, .ifnonnull 2051, .invokeinterface 13585 1, .lstore 2, .aload 0, .ifnonnull 2051, .invokeinterface 21520 1, .istore 4, .aload 0, .ifnonnull 2051, .aload 0, .invokeinterface 13336 1, .invokeinterface 7188 2, .aload 0, .ifnonnull 2051, .iconst 91, .invokeinterface 15120 2, .ifCond .eq 1, .aload 0, .lload 2, .iload 4, .invokeinterface 19480 3, .istore 5, .aload 0, .iconst 91, .iload 1, .invokeinterface 20252 3, .aload 0, .iload 1, .iconst 1, .iadd, .invokeinterface 21788 2, .aload 0, .iconst 93, .invokeinterface 14876 2, .aload 0, .iconst 61, .invokeinterface 14876 2, .aload 0, .iload 1, .invokeinterface 21788 2, .aload 0, .iconst 7, .iload 5, .invokeinterface 23836 3, .goto 2] := rfl
theorem b83_1 : blk 83 1 = [.aload 0, .iconst 61, .invokeinterface 14876 2, .aload 0, .lload 2, .invokeinterface 19224 2, .istore 5, .aload 0, .iload 1, .invokeinterface 21788 2, .aload 0, .iconst 6, .iload 5, .invokeinterface 23836 3, .goto 2] := rfl
theorem b83_2 : blk 83 2 = [.aload 0, .iconst 59, .invokeinterface 14876 2, .return_] := rfl
theorem en83 {a0 a1 : Int} : ent 83 [(3, a0), (0, a1)] = [(3, a0), (0, a1), (9, 0), (9, 0), (9, 0), (9, 0)] := rfl
theorem b84_0 : blk 84 0 = [.aload 0, .ifnull 1064, .ireturn] := rfl
theorem en84 {a0 : Int} : ent 84 [(3, a0)] = [(3, a0)] := rfl
theorem b85_0 : blk 85 0 = [.aload 0, .iconst 0, .jsr_w 2072, .aload 0, .iload 1, .invokeinterface 22044 2, .return_] := rfl
theorem en85 {a0 a1 : Int} : ent 85 [(3, a0), (0, a1)] = [(3, a0), (0, a1)] := rfl
theorem b86_0 : blk 86 0 = [.aload 0, .iload 1, .invokeinterface 22300 2, .aload 0, .ifnonnull 2051, .jsr (-947), .invokeinterface 28432 2, .istore 2, .iload 2, .ifCond .ge 1, .return_] := rfl
theorem b86_1 : blk 86 1 = [.aload 0, .invokeinterface 23068 1, .aload 0, .ifnonnull 2051, .iconst 1, .invokeinterface 7188 2, .aload 0, .iload 1, .invokeinterface 22300 2, .aload 0, .iconst 9, .iload 2, .invokeinterface 23836 3, .return_] := rfl
theorem en86 {a0 a1 : Int} : ent 86 [(3, a0), (0, a1)] = [(3, a0), (0, a1), (9, 0)] := rfl
theorem b87_0 : blk 87 0 = [.aload 0, .iload 1, .invokeinterface 22556 2, .iconst 0, .istore 2, .goto 1] := rfl
theorem b87_1 : blk 87 1 = [.iload 2, .iconst 30, .if_icmp .ge 2, .aload 0, .ifnonnull 2051, .jsr (-1075), .invokeinterface 28432 2, .ifCond .lt 2, .iconst 0, .aload 0, .ifnonnull 2051, .jsr (-1075), .invokeinterface 28432 2, .iadd, .istore 3, .aload 0, .invokeinterface 23068 1, .aload 0, .ifnonnull 2051, .iconst 1, .invokeinterface 7188 2, .aload 0, .iload 1, .invokeinterface 22556 2, .aload 0, .iconst 8, .iload 3, .invokeinterface 23836 3, .iinc 2 1, .goto 1] := rfl
theorem b87_2 : blk 87 2 = [.return_] := rfl
theorem en87 {a0 a1 : Int} : ent 87 [(3, a0), (0, a1)] = [(3, a0), (0, a1), (9, 0), (9, 0)] := rfl
theorem b88_0 : blk 88 0 = [.aload 0, .iload 1, .invokeinterface 22812 2, .iconst 0, .istore 2, .goto 1] := rfl
theorem b88_1 : blk 88 1 = [.iload 2, .iconst 30, .if_icmp .ge 2, .aload 0, .ifnonnull 2051, .jsr (-1203), .invokeinterface 28432 2, .ifCond .lt 2, .iconst 2, .aload 0, .ifnonnull 2051, .jsr (-1203), .invokeinterface 28432 2, .iadd, .istore 3, .aload 0, .invokeinterface 23068 1, .aload 0, .ifnonnull 2051, .iconst 1, .invokeinterface 7188 2, .aload 0, .iload 1, .invokeinterface 22812 2, .aload 0, .iconst 8, .iload 3, .invokeinterface 23836 3, .iinc 2 1, .goto 1] := rfl
theorem b88_2 : blk 88 2 = [.return_] := rfl
theorem en88 {a0 a1 : Int} : ent 88 [(3, a0), (0, a1)] = [(3, a0), (0, a1), (9, 0), (9, 0)] := rfl
theorem b89_0 : blk 89 0 = [.aload 0, .ifnonnull 2051, .iconst 45, .invokeinterface 15120 2, .ifCond .eq 2, .aload 0, .invokeinterface 23068 1, .aload 0, .iconst 45, .iload 1, .invokeinterface 20252 3, .aload 0, .invokeinterface 10520 1, .ifCond .eq 1, .aload 0, .iload 1, .iconst 1, .iadd, .invokeinterface 22812 2, .goto 1] := rfl
theorem b89_1 : blk 89 1 = [.aload 0, .ifnull 2059, .iconst 10, .invokeinterface 21084 2, .return_] := rfl
theorem b89_2 : blk 89 2 = [.aload 0, .iload 1, .invokeinterface 23324 2, .iconst 0, .istore 2, .goto 3] := rfl
theorem b89_3 : blk 89 3 = [.iload 2, .iconst 30, .if_icmp .ge 4, .aload 0, .ifnonnull 2051, .iconst 91, .invokeinterface 15120 2, .ifCond .eq 4, .aload 0, .invokeinterface 23068 1, .aload 0, .iconst 91, .iconst 93, .iload 1, .invokeinterface 23580 4, .aload 0, .ifnull 2059, .iconst 11, .invokeinterface 21084 2, .iinc 2 1, .goto 3] := rfl
theorem b89_4 : blk 89 4 = [.return_] := rfl
theorem en89 {a0 a1 : Int} : ent 89 [(3, a0), (0, a1)] = [(3, a0), (0, a1), (9, 0)] := rfl
theorem b90_0 : blk 90 0 = [.aload 0, .ifnull 2072, .iconst 30, .if_icmp .lt 1, .aload 0, .ifnonnull 2051, .iconst 0, .invokeinterface 7188 2, .goto 1] := rfl
theorem b90_1 : blk 90 1 = [.aload 0, .dup, .ifnull 2072, .iconst 1, .iadd, .jsr_w 2072, .aload 0, .invokeinterface 20764 1, .return_] := rfl
theorem en90 {a0 : Int} : ent 90 [(3, a0)] = [(3, a0)] := rfl
theorem b91_0 : blk 91 0 = [.aload 0, .ifnonnull 2051, .iconst 40, .invokeinterface 15120 2, .ifCond .eq 1, .aload 0, .iconst 40, .iconst 41, .iload 1, .invokeinterface 23580 4, .return_] := rfl
theorem b91_1 : blk 91 1 = [.aload 0, .invokeinterface 23068 1, .aload 0, .ifnonnull 2051, .invokeinterface 11024 1, .istore 2, .aload 0, .ifnonnull 2051, .jsr (-691), .invokeinterface 11536 2, .istore 3, .iload 2, .iconst 2, .if_icmp .ne 2, .aload 0, .iconst 3, .aload 0, .ifnonnull 2051, .invokeinterface 15888 1, .invokeinterface 23836 3, .goto 5] := rfl
theorem b91_2 : blk 91 2 = [.iload 2, .iconst 3, .if_icmp .ne 3, .aload 0, .aload 0, .ifnonnull 2051, .invokeinterface 24081 1, .aload 0, .ifnonnull 2051, .invokeinterface 24336 1, .invokeinterface 24577 2, .invokeinterface 27420 2, .goto 5] := rfl
theorem b91_3 : blk 91 3 = [.aload 0, .ifnonnull 2051, .jsr (-1331), .invokeinterface 11536 2, .ifCond .ne 4, .aload 0, .ifnull 2059, .iconst 2, .invokeinterface 21084 2, .goto 5] := rfl
theorem b91_4 : blk 91 4 = [.iload 3, .ifCond .ge 5, .aload 0, .iload 1, .invokeinterface 27676 2, .return_] := rfl
theorem b91_5 : blk 91 5 = [.aload 0, .ifnonnull 2051, .iconst 1, .invokeinterface 7188 2, .iload 3, .ifCond .lt 6, .aload 0, .iload 3, .iload 1, .invokeinterface 28188 3, .goto 6] := rfl
theorem b91_6 : blk 91 6 = [.return_] := rfl
theorem en91 {a0 a1 : Int} : ent 91 [(3, a0), (0, a1)] = [(3, a0), (0, a1), (9, 0), (9, 0)] := rfl
theorem b92_0 : blk 92 0 = [.aload 0, .iload 1, .iload 3, .invokeinterface 20252 3, .aload 0, .invokeinterface 10520 1, .ifCond .eq 1, .aload 0, .iload 3, .iconst 1, .iadd, .invokeinterface 22044 2, .goto 1] := rfl
theorem b92_1 : blk 92 1 = [.aload 0, .iload 2, .invokeinterface 14876 2, .return_] := rfl
theorem en92 {a0 a1 a2 a3 : Int} : ent 92 [(3, a0), (0, a1), (0, a2), (0, a3)] = [(3, a0), (0, a1), (0, a2), (0, a3)] := rfl
theorem b93_0 : blk 93 0 = [.aload 0, .ifnull 2059, .iload 1, .invokeinterface 21084 2, .aload 0, .ifnull 2059, .iload 2, .invokeinterface 21084 2, .return_] := rfl
theorem en93 {a0 a1 a2 : Int} : ent 93 [(3, a0), (0, a1), (0, a2)] = [(3, a0), (0, a1), (0, a2)] := rfl
theorem b94_0 : blk 94 0 = [.aload 0, .ifnull 1081, .lreturn] := rfl
theorem en94 {a0 : Int} : ent 94 [(3, a0)] = [(3, a0)] := rfl
theorem b95_0 : blk 95 0 = [.aload 0, .ifnull 1088, .ireturn] := rfl
theorem en95 {a0 : Int} : ent 95 [(3, a0)] = [(3, a0)] := rfl
theorem b96_0 : blk 96 0 = [.bipush 1, .lstore 3, .iconst 0, .istore 5, .goto 1] := rfl
theorem b96_1 : blk 96 1 = [.iload 5, .iload 2, .if_icmp .ge 2, .lload 3, .bipush 10, .lmul, .lstore 3, .iinc 5 1, .goto 1] := rfl
theorem b96_2 : blk 96 2 = [.lload 0, .invokeinterface 24833 1, .lload 3, .invokeinterface 24833 1, .invokeinterface 25601 2, .lreturn] := rfl
theorem en96 {a0 a1 : Int} : ent 96 [(1, a0), (0, a1)] = [(1, a0), (9, 0), (0, a1), (9, 0), (9, 0), (9, 0)] := rfl
theorem b97_0 : blk 97 0 = [.lload 0, .bipush (-9223372036854775808), .land, .lload 0, .swap, .iconst 0, .invokeinterface 25089 3, .lreturn] := rfl
theorem en97 {a0 : Int} : ent 97 [(1, a0)] = [(1, a0), (9, 0)] := rfl
theorem b98_0 : blk 98 0 = [.lload 2, .bipush 0, .lcmp, .ifCond .gt 1, .lload 0, .lreturn] := rfl
theorem b98_1 : blk 98 1 = [.lload 2, .invokeinterface 25344 1, .iconst 53, .isub, .iconst (-1074), .iload 4, .isub, .dup_x1, .istore 5, .iload 5, .iconst 63, .if_icmp .le 2, .lload 0, .lreturn] := rfl
theorem b98_2 : blk 98 2 = [.iload 4, .iload 5, .iadd, .iconst 971, .if_icmp .le 3, .lload 0, .bipush 9218868437227405312, .lor, .lreturn] := rfl
theorem b98_3 : blk 98 3 = [.iload 5, .ifCond .gt 4, .lload 2, .iload 5, .ineg, .lshl, .goto 5] := rfl
theorem b98_4 : blk 98 4 = [.lload 2, .iload 5, .lushr, .goto 5] := rfl
theorem b98_5 : blk 98 5 = [.lstore 6, .iload 5, .ifCond .le 7, .lload 2, .bipush 1, .iload 5, .lshl, .bipush 1, .lsub, .land, .lstore 8, .bipush 1, .iload 5, .iconst 1, .isub, .lshl, .lstore 10, .lload 8, .lload 10, .lcmp, .ifCond .gt 6, .lload 8, .lload 10, .lcmp, .ifCond .ne 7, .lload 6, .bipush 1, .land, .bipush 1, .lcmp, .ifCond .ne 7, .goto 6] := rfl
theorem b98_6 : blk 98 6 = [.lload 6, .bipush 1, .ladd, .lstore 6, .goto 7] := rfl
theorem b98_7 : blk 98 7 = [.iload 4, .iload 5, .iadd, .iconst (-1074), .isub, .i2l, .iconst 52, .lshl, .lload 6, .ladd, .lstore 8, .lload 0, .lload 8, .bipush 9218868437227405312, .dup2_x2, .lor, .lreturn] := rfl
theorem en98 {a0 a1 a2 : Int} : ent 98 [(1, a0), (1, a1), (0, a2)] = [(1, a0), (9, 0), (1, a1), (9, 0), (0, a2), (9, 0), (9, 0), (9, 0), (9, 0), (9, 0), (9, 0), (9, 0)] := rfl
theorem b99_0 : blk 99 0 = [.iconst 0, .istore 2, .lload 0, .lstore 3, .iconst 32, .istore 5, .goto 1] := rfl
theorem b99_1 : blk 99 1 = [.iload 5, .ifCond .le 3, .lload 3, .iload 5, .lushr, .bipush 0, .lcmp, .ifCond .eq 2, .lload 3, .iload 5, .lushr, .lstore 3, .iload 2, .iload 5, .iadd, .istore 2, .goto 2] := rfl
theorem b99_2 : blk 99 2 = [.iload 5, .iconst 1, .ishr, .istore 5, .goto 1] := rfl
theorem b99_3 : blk 99 3 = [.lload 3, .bipush 0, .lcmp, .ifCond .ne 4, .iconst 0, .goto 5] := rfl
theorem b99_4 : blk 99 4 = [.iload 2, .iconst 1, .iadd, .goto 5] := rfl
theorem b99_5 : blk 99 5 = [.ireturn] := rfl
theorem en99 {a0 : Int} : ent 99 [(1, a0)] = [(1, a0), (9, 0), (9, 0), (9, 0), (9, 0), (9, 0)] := rfl
theorem b100_0 : blk 100 0 = [.lload 0, .invokeinterface 25856 1, .ifCond .ne 1, .lload 2, .invokeinterface 25856 1, .ifCond .eq 2, .goto 1] := rfl
theorem b100_1 : blk 100 1 = [.bipush 9221120237041090560, .lreturn] := rfl
theorem b100_2 : blk 100 2 = [.lload 0, .lload 2, .lxor, .bipush (-9223372036854775808), .land, .lstore 4, .lload 0, .invokeinterface 26112 1, .ifCond .eq 5, .lload 2, .invokeinterface 26112 1, .ifCond .eq 3, .bipush 9221120237041090560, .goto 4] := rfl
theorem b100_3 : blk 100 3 = [.lload 4, .bipush 9218868437227405312, .lor, .goto 4] := rfl
theorem b100_4 : blk 100 4 = [.lreturn] := rfl
theorem b100_5 : blk 100 5 = [.lload 2, .invokeinterface 26112 1, .ifCond .eq 6, .lload 4, .lreturn] := rfl
theorem b100_6 : blk 100 6 = [.lload 2, .invokeinterface 26368 1, .ifCond .eq 9, .lload 0, .invokeinterface 26368 1, .ifCond .eq 7, .bipush 9221120237041090560, .goto 8] := rfl
theorem b100_7 : blk 100 7 = [.lload 4, .bipush 9218868437227405312, .lor, .goto 8] := rfl
theorem b100_8 : blk 100 8 = [.lreturn] := rfl
theorem b100_9 : blk 100 9 = [.lload 0, .invokeinterface 26368 1, .ifCond .eq 10, .lload 4, .lreturn] := rfl
theorem b100_10 : blk 100 10 = [.lload 2, .invokeinterface 26625 1, .lload 2, .invokeinterface 26880 1, .lshl, .lstore 6, .lload 0, .invokeinterface 26625 1, .lload 0, .invokeinterface 26880 1, .lshl, .lstore 8, .bipush 0, .lstore 10, .iconst 0, .istore 12, .goto 11] := rfl
theorem b100_11 : blk 100 11 = [.iload 12, .iconst 6, .if_icmp .gt 12, .lload 6, .bipush 0, .lcmp, .ifCond .le 12, .lload 10, .iconst 10, .lshl, .lload 8, .lload 6, .ldiv, .ladd, .lstore 10, .lload 8, .lload 6, .lrem, .iconst 10, .lshl, .lstore 8, .iinc 12 1, .goto 11] := rfl
theorem b100_12 : blk 100 12 = [.lload 4, .lload 10, .lload 8, .bipush 0, .lcmp, .ifCond .ne 13, .iconst 0, .goto 14] := rfl
theorem b100_13 : blk 100 13 = [.iconst 1, .goto 14] := rfl
theorem b100_14 : blk 100 14 = [.i2l, .lor, .lload 0, .invokeinterface 27136 1, .lload 0, .invokeinterface 26880 1, .isub, .lload 2, .invokeinterface 27136 1, .isub, .lload 2, .invokeinterface 26880 1, .iadd, .iconst 60, .isub, .invokeinterface 25089 3, .lreturn] := rfl
theorem en100 {a0 a1 : Int} : ent 100 [(1, a0), (1, a1)] = [(1, a0), (9, 0), (1, a1), (9, 0), (9, 0), (9, 0), (9, 0), (9, 0), (9, 0), (9, 0), (9, 0), (9, 0), (9, 0)] := rfl
theorem b101_0 : blk 101 0 = [.lload 0, .bipush 9223372036854775807, .land, .bipush 9218868437227405312, .lcmp, .ifCond .le 1, .iconst 1, .goto 2] := rfl
theorem b101_1 : blk 101 1 = [.iconst 0, .goto 2] := rfl
theorem b101_2 : blk 101 2 = [.freturn] := rfl
theorem en101 {a0 : Int} : ent 101 [(1, a0)] = [(1, a0), (9, 0)] := rfl
theorem b102_0 : blk 102 0 = [.lload 0, .bipush 9223372036854775807, .land, .bipush 9218868437227405312, .lcmp, .ifCond .ne 1, .iconst 1, .goto 2] := rfl
theorem b102_1 : blk 102 1 = [.iconst 0, .goto 2] := rfl
theorem b102_2 : blk 102 2 = [.freturn] := rfl
theorem en102 {a0 : Int} : ent 102 [(1, a0)] = [(1, a0), (9, 0)] := rfl
theorem b103_0 : blk 103 0 = [.lload 0, .bipush 9223372036854775807, .land, .bipush 0, .lcmp, .ifCond .ne 1, .iconst 1, .goto 2] := rfl
theorem b103_1 : blk 103 1 = [.iconst 0, .goto 2] := rfl
theorem b103_2 : blk 103 2 = [.freturn] := rfl
theorem en103 {a0 : Int} : ent 103 [(1, a0)] = [(1, a0), (9, 0)] := rfl
theorem b104_0 : blk 104 0 = [.lload 0, .bipush 4503599627370495, .land, .lstore 2, .lload 0, .bipush 9218868437227405312, .land, .bipush 0, .lcmp, .ifCond .ne 1, .lload 2, .goto 2] := rfl
theorem b104_1 : blk 104 1 = [.lload 2, .bipush 4503599627370496, .lor, .goto 2] := rfl
theorem b104_2 : blk 104 2 = [.lreturn] := rfl
theorem en104 {a0 : Int} : ent 104 [(1, a0)] = [(1, a0), (9, 0), (9, 0), (9, 0)] := rfl
theorem b105_0 : blk 105 0 = [.iconst 53, .lload 0, .invokeinterface 26625 1, .invokeinterface 25344 1, .isub, .ireturn] := rfl
theorem en105 {a0 : Int} : ent 105 [(1, a0)] = [(1, a0), (9, 0)] := rfl
theorem b106_0 : blk 106 0 = [.lload 0, .iconst 52, .lushr, .bipush 2047, .land, .l2i, .iconst 1, .dup_x1, .iconst 1, .isub, .iconst (-1074), .iadd, .ireturn] := rfl
theorem en106 {a0 : Int} : ent 106 [(1, a0)] = [(1, a0), (9, 0)] := rfl
theorem b107_0 : blk 107 0 = [.aload 0, .iconst 4, .lload 1, .iconst 32, .lshr, .l2i, .invokeinterface 23836 3, .aload 0, .ifnull 2059, .lload 1, .l2i, .invokeinterface 21084 2, .return_] := rfl
theorem en107 {a0 a1 : Int} : ent 107 [(3, a0), (1, a1)] = [(3, a0), (1, a1), (9, 0)] := rfl
theorem b108_0 : blk 108 0 = [.aload 0, .ifnonnull 2051, .invokeinterface 13585 1, .lstore 2, .aload 0, .ifnonnull 2051, .invokeinterface 21520 1, .istore 4, .aload 0, .ifnonnull 2051, .aload 0, .invokeinterface 13336 1, .invokeinterface 7188 2, .aload 0, .ifnonnull 2051, .iconst 40, .invokeinterface 15120 2, .ifCond .eq 1, .aload 0, .lload 2, .iload 4, .iload 1, .invokeinterface 27932 4, .goto 2] := rfl
theorem b108_1 : blk 108 1 = [.aload 0, .iconst 5, .aload 0, .lload 2, .iload 4, .invokeinterface 19480 3, .invokeinterface 23836 3, .goto 2] := rfl
theorem b108_2 : blk 108 2 = [.return_] := rfl
theorem en108 {a0 a1 : Int} : ent 108 [(3, a0), (0, a1)] = [(3, a0), (0, a1), (9, 0), (9, 0), (9, 0)] := rfl
theorem b109_0 : blk 109 0 = [.aload 0, .iconst 40, .iload 4, .invokeinterface 20252 3, .iconst 0, .istore 5, .aload 0, .invokeinterface 10520 1, .ifCond .eq 2, .aload 0, .ifnonnull 2051, .iconst 41, .invokeinterface 15120 2, .ifCond .ne 2, .aload 0, .iload 4, .iconst 1, .iadd, .invokeinterface 22044 2, .iinc 5 1, .iconst 0, .istore 6, .goto 1] := rfl
theorem b109_1 : blk 109 1 = [.iload 6, .iconst 30, .if_icmp .ge 2, .aload 0, .ifnonnull 2051, .iconst 44, .invokeinterface 15120 2, .ifCond .eq 2, .aload 0, .ifnonnull 2051, .iconst 1, .invokeinterface 7188 2, .aload 0, .iload 4, .iconst 1, .iadd, .invokeinterface 22044 2, .iinc 5 1, .iinc 6 1, .goto 1] := rfl
theorem b109_2 : blk 109 2 = [.aload 0, .iconst 41, .invokeinterface 14876 2, .aload 0, .ifnull 2059, .iconst 13, .invokeinterface 21084 2, .aload 0, .ifnull 2128, .iconst 400, .if_icmp .ge 3, .aload 0, .ifnonnull 2107, .aload 0, .ifnull 2128, .lload 1, .lastore, .aload 0, .ifnonnull 2115, .aload 0, .ifnull 2128, .iload 3, .iastore, .aload 0, .ifnonnull 2123, .aload 0, .ifnull 2128, .aload 0, .ifnull 2059, .invokeinterface 19800 1, .iastore, .aload 0, .dup, .ifnull 2128, .iconst 1, .iadd, .jsr_w 2128, .goto 3] := rfl
theorem b109_3 : blk 109 3 = [.aload 0, .iconst (-1), .iload 5, .invokeinterface 23836 3, .return_] := rfl
theorem en109 {a0 a1 a2 a3 : Int} : ent 109 [(3, a0), (1, a1), (0, a2), (0, a3)] = [(3, a0), (1, a1), (9, 0), (0, a2), (0, a3), (9, 0), (9, 0)] := rfl
theorem b110_0 : blk 110 0 = [.aload 0, .iconst 40, .iload 2, .invokeinterface 20252 3, .aload 0, .invokeinterface 10520 1, .ifCond .eq 1, .aload 0, .iload 2, .iconst 1, .iadd, .invokeinterface 22044 2, .goto 1] := rfl
theorem b110_1 : blk 110 1 = [.iload 1, .iconst 9, .if_icmp .lt 2, .aload 0, .iconst 44, .invokeinterface 14876 2, .aload 0, .invokeinterface 10520 1, .ifCond .eq 2, .aload 0, .iload 2, .iconst 1, .iadd, .invokeinterface 22044 2, .goto 2] := rfl
theorem b110_2 : blk 110 2 = [.aload 0, .iconst 41, .invokeinterface 14876 2, .iload 1, .iconst 3, .if_icmp .gt 3, .aload 0, .iconst 12, .iload 1, .invokeinterface 23836 3, .goto 4] := rfl
theorem b110_3 : blk 110 3 = [.aload 0, .ifnull 2059, .iconst 25, .iload 1, .iadd, .iconst 3, .isub, .iconst 1, .isub, .invokeinterface 21084 2, .goto 4] := rfl
theorem b110_4 : blk 110 4 = [.return_] := rfl
theorem en110 {a0 a1 a2 : Int} : ent 110 [(3, a0), (0, a1), (0, a2)] = [(3, a0), (0, a1), (0, a2)] := rfl
theorem b111_0 : blk 111 0 = [.aload 0, .ifnull 1056, .iconst 4, .if_icmp .ne 1, .aload 1, .aload 0, .ifnull 1101, .invokeinterface 8560 2, .goto 2] := rfl
theorem b111_1 : blk 111 1 = [.iconst (-1), .goto 2] := rfl
theorem b111_2 : blk 111 2 = [.ireturn] := rfl
theorem en111 {a0 a1 : Int} : ent 111 [(3, a0), (3, a1)] = [(3, a0), (3, a1)] := rfl
theorem b112_0 : blk 112 0 = [.aload 0, .iload 1, .invokeinterface 21788 2, .aload 0, .iconst 16, .invokeinterface 28952 2, .istore 2, .aload 0, .iload 1, .invokeinterface 19996 2, .aload 0, .ifnonnull 2051, .jsr (-1459), .invokeinterface 11536 2, .ifCond .ne 1, .aload 0, .ifnonnull 2051, .iconst 1, .invokeinterface 7188 2, .aload 0, .iconst 15, .invokeinterface 28952 2, .istore 3, .aload 0, .iload 2, .invokeinterface 29468 2, .aload 0, .iload 1, .invokeinterface 19996 2, .aload 0, .iload 3, .invokeinterface 29468 2, .goto 2] := rfl
theorem b112_1 : blk 112 1 = [.aload 0, .iload 2, .invokeinterface 29468 2, .goto 2] := rfl
theorem b112_2 : blk 112 2 = [.return_] := rfl
theorem en112 {a0 a1 : Int} : ent 112 [(3, a0), (0, a1)] = [(3, a0), (0, a1), (9, 0), (9, 0)] := rfl
theorem b113_0 : blk 113 0 = [.aload 0, .ifnull 2059, .iload 1, .invokeinterface 21084 2, .aload 0, .invokeinterface 29208 1, .ireturn] := rfl
theorem en113 {a0 a1 : Int} : ent 113 [(3, a0), (0, a1)] = [(3, a0), (0, a1)] := rfl
theorem b114_0 : blk 114 0 = [.aload 0, .ifnull 2059, .iconst 0, .invokeinterface 21084 2, .aload 0, .ifnull 2059, .invokeinterface 19800 1, .iconst 1, .isub, .ireturn] := rfl
theorem en114 {a0 : Int} : ent 114 [(3, a0)] = [(3, a0)] := rfl
theorem b115_0 : blk 115 0 = [.aload 0, .ifnull 2059, .iload 1, .aload 0, .ifnull 2059, .invokeinterface 19800 1, .invokeinterface 29788 3, .return_] := rfl
theorem en115 {a0 a1 : Int} : ent 115 [(3, a0), (0, a1)] = [(3, a0), (0, a1)] := rfl
theorem b116_0 : blk 116 0 = [.iload 1, .ifCond .lt 1, .iload 1, .aload 0, .ifnull 10376, .if_icmp .ge 1, .aload 0, .ifnonnull 10371, .iload 1, .iload 2, .iastore, .goto 1] := rfl
theorem b116_1 : blk 116 1 = [.return_] := rfl
theorem en116 {a0 a1 a2 : Int} : ent 116 [(3, a0), (0, a1), (0, a2)] = [(3, a0), (0, a1), (0, a2)] := rfl
theorem b117_0 : blk 117 0 = [.aload 0, .ifnonnull 2051, .invokeinterface 13585 1, .lstore 2, .aload 0, .ifnonnull 2051, .aload 0, .invokeinterface 13336 1, .invokeinterface 7188 2, .aload 0, .lload 2, .invokeinterface 19224 2, .istore 4, .aload 0, .ifnonnull 2051, .aload 0, .ifnonnull 2051, .jsr (-1587), .invokeinterface 11536 2, .ifCond .ne 1, .iconst 1, .goto 2] := rfl
theorem b117_1 : blk 117 1 = [.iconst 0, .goto 2] := rfl
theorem b117_2 : blk 117 2 = [.invokeinterface 7188 2, .aload 0, .iload 1, .invokeinterface 21788 2, .aload 0, .ifnull 2059, .iconst 17, .invokeinterface 21084 2, .aload 0, .ifnull 2059, .invokeinterface 19800 1, .istore 5, .aload 0, .iconst 18, .iload 4, .invokeinterface 23836 3, .aload 0, .invokeinterface 29208 1, .istore 6, .aload 0, .iload 1, .invokeinterface 19996 2, .aload 0, .iconst 15, .iload 5, .invokeinterface 23836 3, .aload 0, .iload 6, .invokeinterface 29468 2, .return_] := rfl
theorem en117 {a0 a1 : Int} : ent 117 [(3, a0), (0, a1)] = [(3, a0), (0, a1), (9, 0), (9, 0), (9, 0), (9, 0), (9, 0)] := rfl
theorem b118_0 : blk 118 0 = [.aload 0, .iconst 21, .invokeinterface 28952 2, .istore 2, .aload 0, .iload 1, .invokeinterface 19996 2, .aload 0, .ifnull 2059, .iconst 23, .invokeinterface 21084 2, .aload 0, .iload 2, .invokeinterface 29468 2, .iconst 0, .istore 3, .iconst 0, .istore 4, .goto 1] := rfl
theorem b118_1 : blk 118 1 = [.iload 4, .iconst 7, .if_icmp .gt 2, .aload 0, .ifnonnull 2051, .jsr (-1715), .invokeinterface 11536 2, .ifCond .ne 2, .aload 0, .ifnonnull 2051, .iconst 1, .invokeinterface 7188 2, .aload 0, .iload 3, .invokeinterface 30488 2, .istore 5, .iload 3, .iconst 1, .iload 5, .ishl, .ior, .istore 3, .aload 0, .iconst 22, .iload 5, .invokeinterface 23836 3, .aload 0, .invokeinterface 29208 1, .istore 6, .aload 0, .iload 1, .invokeinterface 19996 2, .aload 0, .ifnull 2059, .iconst 23, .invokeinterface 21084 2, .aload 0, .iload 6, .invokeinterface 29468 2, .iinc 4 1, .goto 1] := rfl
theorem b118_2 : blk 118 2 = [.aload 0, .ifnonnull 2051, .jsr (-1843), .invokeinterface 11536 2, .ifCond .ne 3, .aload 0, .ifnonnull 2051, .iconst 1, .invokeinterface 7188 2, .aload 0, .iload 1, .invokeinterface 19996 2, .goto 3] := rfl
theorem b118_3 : blk 118 3 = [.aload 0, .ifnull 2059, .iconst 24, .invokeinterface 21084 2, .return_] := rfl
theorem en118 {a0 a1 : Int} : ent 118 [(3, a0), (0, a1)] = [(3, a0), (0, a1), (9, 0), (9, 0), (9, 0), (9, 0), (9, 0)] := rfl
theorem b119_0 : blk 119 0 = [.aload 0, .ifnonnull 2051, .jsr (-563), .invokeinterface 11536 2, .iconst 1, .iadd, .istore 2, .aload 0, .ifnonnull 2051, .iload 2, .ifCond .le 1, .iload 1, .iload 2, .ishr, .iconst 1, .iand, .ifCond .ne 1, .iconst 1, .goto 2] := rfl
theorem b119_1 : blk 119 1 = [.iconst 0, .goto 2] := rfl
theorem b119_2 : blk 119 2 = [.invokeinterface 7188 2, .iload 2, .ireturn] := rfl
theorem en119 {a0 a1 : Int} : ent 119 [(3, a0), (0, a1)] = [(3, a0), (0, a1), (9, 0)] := rfl
theorem b120_0 : blk 120 0 = [.aload 0, .iconst 19, .aload 0, .iconst 0, .invokeinterface 30488 2, .invokeinterface 23836 3, .aload 0, .iconst 59, .invokeinterface 14876 2, .return_] := rfl
theorem en120 {a0 : Int} : ent 120 [(3, a0)] = [(3, a0)] := rfl
theorem b121_0 : blk 121 0 = [.aload 0, .iload 1, .invokeinterface 21788 2, .aload 0, .ifnull 2059, .iconst 14, .invokeinterface 21084 2, .aload 0, .iconst 59, .invokeinterface 14876 2, .return_] := rfl
theorem en121 {a0 a1 : Int} : ent 121 [(3, a0), (0, a1)] = [(3, a0), (0, a1)] := rfl
theorem b122_0 : blk 122 0 = [.aload 0, .iload 1, .invokeinterface 21788 2, .iconst 0, .istore 2, .goto 1] := rfl
theorem b122_1 : blk 122 1 = [.iload 2, .iconst 4, .if_icmp .ge 2, .aload 0, .iconst 44, .invokeinterface 14876 2, .aload 0, .iload 1, .invokeinterface 21788 2, .iinc 2 1, .goto 1] := rfl
theorem b122_2 : blk 122 2 = [.aload 0, .ifnull 2059, .iconst 20, .invokeinterface 21084 2, .aload 0, .iconst 59, .invokeinterface 14876 2, .return_] := rfl
theorem en122 {a0 a1 : Int} : ent 122 [(3, a0), (0, a1)] = [(3, a0), (0, a1), (9, 0)] := rfl
theorem b123_0 : blk 123 0 = [.aload 0, .ifnull 2064, .ifCond .lt 1, .iload 1, .aload 0, .ifnull 2064, .if_icmp .ge 2, .goto 1] := rfl
theorem b123_1 : blk 123 1 = [.aload 0, .iload 1, .jsr_w 2064, .goto 2] := rfl
theorem b123_2 : blk 123 2 = [.return_] := rfl
theorem en123 {a0 a1 : Int} : ent 123 [(3, a0), (0, a1)] = [(3, a0), (0, a1)] := rfl
theorem b124_0 : blk 124 0 = [.iconst 0, .istore 1, .goto 1] := rfl
theorem b124_1 : blk 124 1 = [.iload 1, .aload 0, .ifnull 2128, .if_icmp .ge 4, .aload 0, .ifnull 2059, .iconst 6, .aload 0, .ifnonnull 2107, .iload 1, .laload, .invokeinterface 14680 3, .istore 2, .aload 0, .ifnull 2059, .aload 0, .ifnonnull 2123, .iload 1, .iaload, .iconst 1, .iadd, .invokeinterface 32088 2, .istore 3, .iload 2, .ifCond .lt 2, .aload 0, .ifnull 2059, .ifnonnull 10347, .iload 2, .iaload, .iload 3, .if_icmp .eq 3, .goto 2] := rfl
theorem b124_2 : blk 124 2 = [.aload 0, .aload 0, .ifnonnull 2115, .iload 1, .iaload, .invokeinterface 31516 2, .goto 3] := rfl
theorem b124_3 : blk 124 3 = [.aload 0, .ifnull 2059, .aload 0, .ifnonnull 2123, .iload 1, .iaload, .iload 2, .invokeinterface 29788 3, .iinc 1 1, .goto 1] := rfl
theorem b124_4 : blk 124 4 = [.return_] := rfl
theorem en124 {a0 : Int} : ent 124 [(3, a0)] = [(3, a0), (9, 0), (9, 0), (9, 0)] := rfl
theorem b125_0 : blk 125 0 = [.iload 1, .ifCond .lt 1, .iload 1, .aload 0, .ifnull 10376, .if_icmp .ge 1, .aload 0, .ifnonnull 10371, .iload 1, .iaload, .goto 2] := rfl
theorem b125_1 : blk 125 1 = [.iconst 0, .goto 2] := rfl
theorem b125_2 : blk 125 2 = [.ireturn] := rfl
theorem en125 {a0 a1 : Int} : ent 125 [(3, a0), (0, a1)] = [(3, a0), (0, a1)] := rfl
theorem b126_0 : blk 126 0 = [.aload 0, .iconst 0, .jsr_w 1032, .return_] := rfl
theorem en126 {a0 : Int} : ent 126 [(3, a0)] = [(3, a0)] := rfl
theorem b127_0 : blk 127 0 = [.aload 0, .ifnonnull 19, .invokeinterface 32804 1, .aload 0, .ifnonnull 27, .invokeinterface 33068 1, .iconst 0, .istore 1, .goto 1] := rfl
theorem b127_1 : blk 127 1 = [.iload 1, .aload 0, .ifnull 67, .iconst 2, .invokeinterface 14168 2, .if_icmp .ge 2, .aload 0, .ifnonnull 27, .aload 0, .ifnull 67, .ifnonnull 10267, .iload 1, .iaload, .iload 1, .iconst (-9), .invokeinterface 33320 4, .pop, .iinc 1 1, .goto 1] := rfl
theorem b127_2 : blk 127 2 = [.aload 0, .ifnonnull 35, .aload 0, .ifnull 67, .invokeinterface 4148 2, .aload 0, .ifnonnull 43, .aload 0, .ifnull 67, .invokeinterface 3140 2, .aload 0, .ifnonnull 51, .aload 0, .ifnull 67, .invokeinterface 4428 2, .aload 0, .ifnonnull 59, .aload 0, .ifnull 67, .invokeinterface 5204 2, .aload 0, .iconst 0, .jsr_w 80, .aload 0, .bipush 0, .jsr_w 89, .aload 0, .iconst 0, .jsr_w 96, .aload 0, .iconst 0, .jsr_w 128, .return_] := rfl
theorem en127 {a0 : Int} : ent 127 [(3, a0)] = [(3, a0), (9, 0)] := rfl
theorem b128_0 : blk 128 0 = [.aload 0, .iconst 0, .jsr_w 3088, .return_] := rfl
theorem en128 {a0 : Int} : ent 128 [(3, a0)] = [(3, a0)] := rfl
theorem b129_0 : blk 129 0 = [.aload 0, .iconst 0, .jsr_w 4128, .return_] := rfl
theorem en129 {a0 : Int} : ent 129 [(3, a0)] = [(3, a0)] := rfl
theorem b130_0 : blk 130 0 = [.aload 0, .ifnull 4128, .iconst 24, .if_icmp .lt 1, .iconst (-1), .ireturn] := rfl
theorem b130_1 : blk 130 1 = [.aload 0, .ifnonnull 4099, .aload 0, .ifnull 4128, .iload 1, .iastore, .aload 0, .ifnonnull 4107, .aload 0, .ifnull 4128, .iload 2, .iastore, .aload 0, .ifnonnull 4115, .aload 0, .ifnull 4128, .iload 3, .iastore, .iconst 0, .istore 4, .goto 2] := rfl
theorem b130_2 : blk 130 2 = [.iload 4, .iconst 8, .if_icmp .ge 3, .aload 0, .ifnonnull 4123, .aload 0, .ifnull 4128, .iconst 8, .imul, .iload 4, .iadd, .iconst (-1), .iastore, .iinc 4 1, .goto 2] := rfl
theorem b130_3 : blk 130 3 = [.aload 0, .dup, .ifnull 4128, .iconst 1, .iadd, .jsr_w 4128, .aload 0, .ifnull 4128, .iconst 1, .isub, .ireturn] := rfl
theorem en130 {a0 a1 a2 a3 : Int} : ent 130 [(3, a0), (0, a1), (0, a2), (0, a3)] = [(3, a0), (0, a1), (0, a2), (0, a3), (9, 0)] := rfl
theorem b131_0 : blk 131 0 = [.iload 1, .ifCond .lt 1, .iload 1, .iconst 12, .if_icmp .le 2, .goto 1] := rfl
theorem b131_1 : blk 131 1 = [.iconst (-1), .ireturn] := rfl
theorem b131_2 : blk 131 2 = [.iload 1, .tableswitch 9 7 12 #[3, 4, 5, 6, 7, 8]] := rfl
theorem b131_3 : blk 131 3 = [.aload 0, .ifnull 67, .ifnull 10360, .ireturn] := rfl
theorem b131_4 : blk 131 4 = [.aload 0, .ifnonnull 27, .invokeinterface 33832 1, .ireturn] := rfl
theorem b131_5 : blk 131 5 = [.aload 0, .ifnull 67, .ifnull 10328, .ireturn] := rfl
theorem b131_6 : blk 131 6 = [.aload 0, .ifnonnull 3, .invokeinterface 5904 1, .ireturn] := rfl
theorem b131_7 : blk 131 7 = [.aload 0, .ifnonnull 19, .invokeinterface 34080 1, .ireturn] := rfl
theorem b131_8 : blk 131 8 = [.aload 0, .ifnonnull 35, .invokeinterface 34352 1, .ireturn] := rfl
theorem b131_9 : blk 131 9 = [.aload 0, .ifnull 67, .iload 1, .invokeinterface 14168 2, .ireturn] := rfl
theorem en131 {a0 a1 : Int} : ent 131 [(3, a0), (0, a1)] = [(3, a0), (0, a1)] := rfl
theorem b132_0 : blk 132 0 = [.aload 0, .ifnull 4128, .ireturn] := rfl
theorem en132 {a0 : Int} : ent 132 [(3, a0)] = [(3, a0)] := rfl
theorem b133_0 : blk 133 0 = [.aload 0, .ifnull 3096, .ireturn] := rfl
theorem en133 {a0 : Int} : ent 133 [(3, a0)] = [(3, a0)] := rfl
theorem b134_0 : blk 134 0 = [.aload 0, .ifnull 5240, .ireturn] := rfl
theorem en134 {a0 : Int} : ent 134 [(3, a0)] = [(3, a0)] := rfl
theorem b135_0 : blk 135 0 = [.aload 0, .ifnull 67, .iconst 3, .iload 1, .invokeinterface 17752 3, .ifCond .eq 1, .iload 2, .invokeinterface 34816 1, .ifCond .ne 2, .goto 1] := rfl
theorem b135_1 : blk 135 1 = [.iconst (-1), .ireturn] := rfl
theorem b135_2 : blk 135 2 = [.aload 0, .ifnonnull 27, .iload 1, .invokeinterface 35112 2, .aload 0, .ifnull 67, .ifnonnull 10283, .iload 1, .iaload, .if_icmp .lt 3, .iconst (-2), .ireturn] := rfl
theorem b135_3 : blk 135 3 = [.aload 0, .ifnonnull 27, .invokeinterface 33832 1, .iconst 24, .if_icmp .lt 4, .iconst (-3), .ireturn] := rfl
theorem b135_4 : blk 135 4 = [.aload 0, .iconst 0, .jsr_w 128, .aload 0, .ifnonnull 27, .iconst 0, .iload 2, .iload 1, .invokeinterface 33320 4, .ireturn] := rfl
theorem en135 {a0 a1 a2 : Int} : ent 135 [(3, a0), (0, a1), (0, a2)] = [(3, a0), (0, a1), (0, a2)] := rfl
theorem b136_0 : blk 136 0 = [.iload 0, .iconst (-99), .if_icmp .lt 1, .iload 0, .iconst 99, .if_icmp .gt 1, .iconst 1, .goto 2] := rfl
theorem b136_1 : blk 136 1 = [.iconst 0, .goto 2] := rfl
theorem b136_2 : blk 136 2 = [.freturn] := rfl
theorem en136 {a0 : Int} : ent 136 [(0, a0)] = [(0, a0)] := rfl
theorem b137_0 : blk 137 0 = [.iconst 0, .istore 2, .iconst 0, .istore 3, .goto 1] := rfl
theorem b137_1 : blk 137 1 = [.iload 3, .aload 0, .ifnull 4128, .if_icmp .ge 3, .aload 0, .iload 3, .invokeinterface 35368 2, .ifCond .eq 2, .aload 0, .ifnonnull 4115, .iload 3, .iaload, .iload 1, .if_icmp .ne 2, .iinc 2 1, .goto 2] := rfl
theorem b137_2 : blk 137 2 = [.iinc 3 1, .goto 1] := rfl
theorem b137_3 : blk 137 3 = [.iload 2, .ireturn] := rfl
theorem en137 {a0 a1 : Int} : ent 137 [(3, a0), (0, a1)] = [(3, a0), (0, a1), (9, 0), (9, 0)] := rfl
theorem b138_0 : blk 138 0 = [.aload 0, .iload 1, .invokeinterface 35624 2, .ifCond .ne 1, .iconst 1, .goto 2] := rfl
theorem b138_1 : blk 138 1 = [.iconst 0, .goto 2] := rfl
theorem b138_2 : blk 138 2 = [.freturn] := rfl
theorem en138 {a0 a1 : Int} : ent 138 [(3, a0), (0, a1)] = [(3, a0), (0, a1)] := rfl
theorem b139_0 : blk 139 0 = [.aload 0, .iload 1, .i2l, .invokeinterface 35880 2, .ifCond .eq 1, .aload 0, .ifnonnull 4099, .iload 1, .iaload, .goto 2] := rfl
theorem b139_1 : blk 139 1 = [.iconst (-1), .goto 2] := rfl
theorem b139_2 : blk 139 2 = [.ireturn] := rfl
theorem en139 {a0 a1 : Int} : ent 139 [(3, a0), (0, a1)] = [(3, a0), (0, a1)] := rfl
theorem b140_0 : blk 140 0 = [.lload 1, .bipush 0, .lcmp, .ifCond .lt 1, .lload 1, .aload 0, .ifnull 4128, .i2l, .lcmp, .ifCond .ge 1, .iconst 1, .goto 2] := rfl
theorem b140_1 : blk 140 1 = [.iconst 0, .goto 2] := rfl
theorem b140_2 : blk 140 2 = [.freturn] := rfl
theorem en140 {a0 a1 : Int} : ent 140 [(3, a0), (1, a1)] = [(3, a0), (1, a1), (9, 0)] := rfl
theorem b141_0 : blk 141 0 = [.iload 1, .invokeinterface 34816 1, .ifCond .ne 1, .iconst (-1), .ireturn] := rfl
theorem b141_1 : blk 141 1 = [.aload 0, .ifnonnull 27, .invokeinterface 33832 1, .iconst 24, .if_icmp .lt 2, .iconst (-3), .ireturn] := rfl
theorem b141_2 : blk 141 2 = [.aload 0, .ifnonnull 27, .iconst 1, .iload 1, .iconst (-9), .invokeinterface 33320 4, .ireturn] := rfl
theorem en141 {a0 a1 : Int} : ent 141 [(3, a0), (0, a1)] = [(3, a0), (0, a1)] := rfl
theorem b142_0 : blk 142 0 = [.aload 0, .ifnonnull 27, .iload 1, .i2l, .invokeinterface 35880 2, .ifCond .eq 1, .iload 2, .ifCond .lt 1, .iload 2, .iconst 2, .if_icmp .le 2, .goto 1] := rfl
theorem b142_1 : blk 142 1 = [.iconst (-100), .ireturn] := rfl
theorem b142_2 : blk 142 2 = [.iload 2, .ifCond .ne 3, .aload 0, .ifnonnull 27, .iload 1, .invokeinterface 35624 2, .goto 5] := rfl
theorem b142_3 : blk 142 3 = [.iload 2, .iconst 1, .if_icmp .ne 4, .aload 0, .ifnonnull 27, .iload 1, .invokeinterface 36648 2, .goto 5] := rfl
theorem b142_4 : blk 142 4 = [.aload 0, .ifnonnull 27, .iload 1, .invokeinterface 36904 2, .goto 5] := rfl
theorem b142_5 : blk 142 5 = [.ireturn] := rfl
theorem en142 {a0 a1 a2 : Int} : ent 142 [(3, a0), (0, a1), (0, a2)] = [(3, a0), (0, a1), (0, a2)] := rfl
theorem b143_0 : blk 143 0 = [.aload 0, .iload 1, .i2l, .invokeinterface 35880 2, .ifCond .eq 1, .aload 0, .ifnonnull 4107, .iload 1, .iaload, .goto 2] := rfl
theorem b143_1 : blk 143 1 = [.iconst 0, .goto 2] := rfl
theorem b143_2 : blk 143 2 = [.ireturn] := rfl
theorem en143 {a0 a1 : Int} : ent 143 [(3, a0), (0, a1)] = [(3, a0), (0, a1)] := rfl
theorem b144_0 : blk 144 0 = [.aload 0, .iload 1, .i2l, .invokeinterface 35880 2, .ifCond .eq 1, .aload 0, .ifnonnull 4115, .iload 1, .iaload, .goto 2] := rfl
theorem b144_1 : blk 144 1 = [.iconst (-9), .goto 2] := rfl
theorem b144_2 : blk 144 2 = [.ireturn] := rfl
theorem en144 {a0 a1 : Int} : ent 144 [(3, a0), (0, a1)] = [(3, a0), (0, a1)] := rfl
theorem b145_0 : blk 145 0 = [.aload 0, .ifnonnull 27, .iload 1, .i2l, .invokeinterface 35880 2, .ifCond .eq 1, .iload 2, .invokeinterface 37376 1, .ifCond .ne 2, .goto 1] := rfl
theorem b145_1 : blk 145 1 = [.iconst (-1), .ireturn] := rfl
theorem b145_2 : blk 145 2 = [.aload 0, .ifnonnull 27, .iload 1, .iload 2, .invokeinterface 37672 3, .ireturn] := rfl
theorem en145 {a0 a1 a2 : Int} : ent 145 [(3, a0), (0, a1), (0, a2)] = [(3, a0), (0, a1), (0, a2)] := rfl
theorem b146_0 : blk 146 0 = [.iload 0, .ifCond .lt 1, .iload 0, .iconst 4, .if_icmp .ge 1, .iconst 1, .goto 2] := rfl
theorem b146_1 : blk 146 1 = [.iconst 0, .goto 2] := rfl
theorem b146_2 : blk 146 2 = [.freturn] := rfl
theorem en146 {a0 : Int} : ent 146 [(0, a0)] = [(0, a0)] := rfl
theorem b147_0 : blk 147 0 = [.iload 2, .invokeinterface 37888 1, .iload 2, .invokeinterface 38400 1, .iadd, .istore 3, .aload 0, .iload 1, .invokeinterface 35624 2, .tableswitch 7 1 4 #[1, 2, 3, 4]] := rfl
theorem b147_1 : blk 147 1 = [.iload 2, .invokeinterface 38400 1, .ireturn] := rfl
theorem b147_2 : blk 147 2 = [.iload 2, .invokeinterface 37888 1, .ireturn] := rfl
theorem b147_3 : blk 147 3 = [.iload 3, .ireturn] := rfl
theorem b147_4 : blk 147 4 = [.iconst 3, .iload 2, .invokeinterface 37888 1, .imul, .iload 3, .iadd, .aload 0, .iload 1, .invokeinterface 36648 2, .iconst 5, .if_icmp .le 5, .iconst 1, .goto 6] := rfl
theorem b147_5 : blk 147 5 = [.iconst 0, .goto 6] := rfl
theorem b147_6 : blk 147 6 = [.iadd, .ireturn] := rfl
theorem b147_7 : blk 147 7 = [.iload 2, .invokeinterface 38144 1, .ireturn] := rfl
theorem en147 {a0 a1 a2 : Int} : ent 147 [(3, a0), (0, a1), (0, a2)] = [(3, a0), (0, a1), (0, a2), (9, 0)] := rfl
theorem b148_0 : blk 148 0 = [.iload 0, .invokeinterface 38144 1, .iload 0, .ifCond .eq 1, .iload 0, .iconst 2, .if_icmp .ne 2, .goto 1] := rfl
theorem b148_1 : blk 148 1 = [.iconst 2, .goto 3] := rfl
theorem b148_2 : blk 148 2 = [.iconst 0, .goto 3] := rfl
theorem b148_3 : blk 148 3 = [.iadd, .ireturn] := rfl
theorem en148 {a0 : Int} : ent 148 [(0, a0)] = [(0, a0)] := rfl
theorem b149_0 : blk 149 0 = [.iload 0, .iconst 1, .if_icmp .ne 1, .iconst 1, .goto 2] := rfl
theorem b149_1 : blk 149 1 = [.iconst 0, .goto 2] := rfl
theorem b149_2 : blk 149 2 = [.ireturn] := rfl
theorem en149 {a0 : Int} : ent 149 [(0, a0)] = [(0, a0)] := rfl
theorem b150_0 : blk 150 0 = [.iload 0, .invokeinterface 38144 1, .iload 0, .ifCond .eq 1, .iload 0, .iconst 3, .if_icmp .ne 2, .goto 1] := rfl
theorem b150_1 : blk 150 1 = [.iconst 1, .goto 3] := rfl
theorem b150_2 : blk 150 2 = [.iconst 0, .goto 3] := rfl
theorem b150_3 : blk 150 3 = [.iadd, .ireturn] := rfl
theorem en150 {a0 : Int} : ent 150 [(0, a0)] = [(0, a0)] := rfl
theorem b151_0 : blk 151 0 = [.aload 0, .iload 1, .iload 2, .invokeinterface 38920 3, .ifCond .eq 1, .iload 3, .iconst (-1), .if_icmp .lt 1, .iload 3, .iconst 64, .if_icmp .le 2, .goto 1] := rfl
theorem b151_1 : blk 151 1 = [.iconst (-1), .ireturn] := rfl
theorem b151_2 : blk 151 2 = [.aload 0, .ifnonnull 27, .iload 1, .invokeinterface 35368 2, .ifCond .ne 3, .iconst (-2), .ireturn] := rfl
theorem b151_3 : blk 151 3 = [.iconst (-1), .istore 4, .iload 3, .ifCond .lt 4, .aload 0, .ifnonnull 19, .iload 3, .bipush 0, .invokeinterface 39200 3, .istore 4, .iload 4, .ifCond .ge 4, .iconst (-3), .ireturn] := rfl
theorem b151_4 : blk 151 4 = [.aload 0, .ifnonnull 27, .iload 1, .iload 2, .iload 4, .invokeinterface 39980 4, .iconst 0, .ireturn] := rfl
theorem en151 {a0 a1 a2 a3 : Int} : ent 151 [(3, a0), (0, a1), (0, a2), (0, a3)] = [(3, a0), (0, a1), (0, a2), (0, a3), (9, 0)] := rfl
theorem b152_0 : blk 152 0 = [.aload 0, .ifnonnull 27, .iload 1, .i2l, .invokeinterface 35880 2, .ifCond .eq 1, .aload 0, .ifnull 67, .iconst 5, .iload 2, .invokeinterface 17752 3, .ifCond .eq 1, .iconst 1, .goto 2] := rfl
theorem b152_1 : blk 152 1 = [.iconst 0, .goto 2] := rfl
theorem b152_2 : blk 152 2 = [.freturn] := rfl
theorem en152 {a0 a1 a2 : Int} : ent 152 [(3, a0), (0, a1), (0, a2)] = [(3, a0), (0, a1), (0, a2)] := rfl
theorem b153_0 : blk 153 0 = [.aload 0, .ifnull 3096, .iconst 6000, .if_icmp .ge 1, .iload 1, .ifCond .lt 1, .iload 1, .iconst 64, .if_icmp .le 2, .goto 1] := rfl
theorem b153_1 : blk 153 1 = [.iconst (-1), .ireturn] := rfl
theorem b153_2 : blk 153 2 = [.aload 0, .ifnull 3088, .iconst 2, .iadd, .aload 0, .ifnull 3075, .arraylength, .if_icmp .le 3, .aload 0, .aload 0, .ifnull 3075, .aload 0, .ifnull 3075, .arraylength, .iconst 2, .imul, .invokeinterface 39427 2, .jsr_w 3075, .goto 3] := rfl
theorem b153_3 : blk 153 3 = [.aload 0, .ifnull 3075, .aload 0, .ifnull 3088, .iaload, .istore 4, .iload 4, .iload 1, .iadd, .aload 0, .ifnull 3083, .arraylength, .if_icmp .le 4, .aload 0, .aload 0, .ifnull 3083, .aload 0, .ifnull 3083, .arraylength, .iconst 2, .imul, .invokeinterface 39683 2, .jsr_w 3083, .goto 4] := rfl
theorem b153_4 : blk 153 4 = [.iload 4, .istore 5, .goto 5] := rfl
theorem b153_5 : blk 153 5 = [.iload 5, .iload 4, .iload 1, .iadd, .if_icmp .ge 6, .aload 0, .ifnull 3083, .iload 5, .lload 2, .lastore, .iinc 5 1, .goto 5] := rfl
theorem b153_6 : blk 153 6 = [.aload 0, .dup, .ifnull 3096, .iconst 1, .iadd, .jsr_w 3096, .aload 0, .dup, .ifnull 3088, .iconst 1, .iadd, .jsr_w 3088, .aload 0, .ifnull 3075, .aload 0, .ifnull 3088, .iload 4, .iload 1, .iadd, .iastore, .aload 0, .ifnull 3088, .iconst 1, .isub, .ireturn] := rfl
theorem en153 {a0 a1 a2 : Int} : ent 153 [(3, a0), (0, a1), (1, a2)] = [(3, a0), (0, a1), (1, a2), (9, 0), (9, 0), (9, 0)] := rfl
theorem b154_0 : blk 154 0 = [.iload 1, .aload 0, .arraylength, .if_icmp .ne 1, .aload 0, .athrow] := rfl
theorem b154_1 : blk 154 1 = [.iload 1, .newarray .int, .astore 2, .aload 0, .iconst 0, .aload 2, .iconst 0, .aload 0, .arraylength, .iload 1, .dup_x2, .monitorenter, .aload 2, .areturn] := rfl
theorem en154 {a0 a1 : Int} : ent 154 [(3, a0), (0, a1)] = [(3, a0), (0, a1), (9, 0)] := rfl
theorem b155_0 : blk 155 0 = [.iload 1, .aload 0, .arraylength, .if_icmp .ne 1, .aload 0, .athrow] := rfl
theorem b155_1 : blk 155 1 = [.iload 1, .newarray .long, .astore 2, .aload 0, .iconst 0, .aload 2, .iconst 0, .aload 0, .arraylength, .iload 1, .dup_x2, .monitorenter, .aload 2, .areturn] := rfl
theorem en155 {a0 a1 : Int} : ent 155 [(3, a0), (0, a1)] = [(3, a0), (0, a1), (9, 0)] := rfl
theorem b156_0 : blk 156 0 = [.aload 0, .iload 1, .i2l, .invokeinterface 35880 2, .ifCond .eq 1, .iload 2, .ifCond .lt 1, .iload 2, .iconst 8, .if_icmp .ge 1, .aload 0, .ifnonnull 4123, .iload 1, .iconst 8, .imul, .iload 2, .iadd, .iload 3, .iastore, .goto 1] := rfl
theorem b156_1 : blk 156 1 = [.return_] := rfl
theorem en156 {a0 a1 a2 a3 : Int} : ent 156 [(3, a0), (0, a1), (0, a2), (0, a3)] = [(3, a0), (0, a1), (0, a2), (0, a3)] := rfl
theorem b157_0 : blk 157 0 = [.aload 0, .iload 1, .iload 2, .invokeinterface 38920 3, .ifCond .ne 1, .iconst (-1), .ireturn] := rfl
theorem b157_1 : blk 157 1 = [.aload 0, .ifnonnull 27, .iload 1, .iload 2, .invokeinterface 40488 3, .istore 5, .aload 0, .ifnonnull 19, .iload 5, .iload 3, .i2l, .invokeinterface 40736 3, .ifCond .ne 2, .iconst (-2), .ireturn] := rfl
theorem b157_2 : blk 157 2 = [.aload 0, .ifnonnull 19, .iload 5, .iload 3, .invokeinterface 41249 3, .l2i, .istore 6, .aload 0, .ifnonnull 19, .iload 5, .iload 3, .iload 4, .i2l, .invokeinterface 41508 4, .iload 6, .ireturn] := rfl
theorem en157 {a0 a1 a2 a3 a4 : Int} : ent 157 [(3, a0), (0, a1), (0, a2), (0, a3), (0, a4)] = [(3, a0), (0, a1), (0, a2), (0, a3), (0, a4), (9, 0), (9, 0)] := rfl
theorem b158_0 : blk 158 0 = [.aload 0, .iload 1, .i2l, .invokeinterface 35880 2, .ifCond .eq 1, .iload 2, .ifCond .lt 1, .iload 2, .iconst 8, .if_icmp .ge 1, .aload 0, .ifnonnull 4123, .iload 1, .iconst 8, .imul, .iload 2, .iadd, .iaload, .goto 2] := rfl
theorem b158_1 : blk 158 1 = [.iconst (-1), .goto 2] := rfl
theorem b158_2 : blk 158 2 = [.ireturn] := rfl
theorem en158 {a0 a1 a2 : Int} : ent 158 [(3, a0), (0, a1), (0, a2)] = [(3, a0), (0, a1), (0, a2)] := rfl
theorem b159_0 : blk 159 0 = [.lload 2, .bipush 0, .lcmp, .ifCond .lt 1, .lload 2, .aload 0, .iload 1, .invokeinterface 40992 2, .i2l, .lcmp, .ifCond .ge 1, .iconst 1, .goto 2] := rfl
theorem b159_1 : blk 159 1 = [.iconst 0, .goto 2] := rfl
theorem b159_2 : blk 159 2 = [.freturn] := rfl
theorem en159 {a0 a1 a2 : Int} : ent 159 [(3, a0), (0, a1), (1, a2)] = [(3, a0), (0, a1), (1, a2), (9, 0)] := rfl
theorem b160_0 : blk 160 0 = [.iload 1, .ifCond .lt 1, .iload 1, .aload 0, .ifnull 3088, .if_icmp .ge 1, .aload 0, .ifnull 3075, .iload 1, .iconst 1, .iadd, .iaload, .aload 0, .ifnull 3075, .iload 1, .iaload, .isub, .goto 2] := rfl
theorem b160_1 : blk 160 1 = [.iconst 0, .goto 2] := rfl
theorem b160_2 : blk 160 2 = [.ireturn] := rfl
theorem en160 {a0 a1 : Int} : ent 160 [(3, a0), (0, a1)] = [(3, a0), (0, a1)] := rfl
theorem b161_0 : blk 161 0 = [.aload 0, .iload 1, .iload 2, .i2l, .invokeinterface 40736 3, .ifCond .eq 1, .aload 0, .ifnull 3083, .aload 0, .ifnull 3075, .iload 1, .iaload, .iload 2, .iadd, .laload, .goto 2] := rfl
theorem b161_1 : blk 161 1 = [.bipush 0, .goto 2] := rfl
theorem b161_2 : blk 161 2 = [.lreturn] := rfl
theorem en161 {a0 a1 a2 : Int} : ent 161 [(3, a0), (0, a1), (0, a2)] = [(3, a0), (0, a1), (0, a2)] := rfl
theorem b162_0 : blk 162 0 = [.aload 0, .iload 1, .iload 2, .i2l, .invokeinterface 40736 3, .ifCond .eq 1, .aload 0, .ifnull 3083, .aload 0, .ifnull 3075, .iload 1, .iaload, .iload 2, .iadd, .lload 3, .lastore, .goto 1] := rfl
theorem b162_1 : blk 162 1 = [.return_] := rfl
theorem en162 {a0 a1 a2 a3 : Int} : ent 162 [(3, a0), (0, a1), (0, a2), (1, a3)] = [(3, a0), (0, a1), (0, a2), (1, a3), (9, 0)] := rfl
theorem b163_0 : blk 163 0 = [.aload 0, .iload 1, .iload 2, .invokeinterface 38920 3, .ifCond .ne 1, .iconst (-2000000000), .ireturn] := rfl
theorem b163_1 : blk 163 1 = [.aload 0, .ifnonnull 27, .iload 1, .iload 2, .invokeinterface 40488 3, .istore 4, .iload 3, .iconst (-1), .if_icmp .ne 4, .iload 4, .ifCond .ge 2, .iconst (-2000000001), .goto 3] := rfl
theorem b163_2 : blk 163 2 = [.aload 0, .ifnonnull 19, .iload 4, .invokeinterface 40992 2, .goto 3] := rfl
theorem b163_3 : blk 163 3 = [.ireturn] := rfl
theorem b163_4 : blk 163 4 = [.aload 0, .ifnonnull 19, .iload 4, .iload 3, .i2l, .invokeinterface 40736 3, .ifCond .eq 5, .aload 0, .ifnonnull 19, .iload 4, .iload 3, .invokeinterface 41249 3, .l2i, .goto 6] := rfl
theorem b163_5 : blk 163 5 = [.iconst (-2000000001), .goto 6] := rfl
theorem b163_6 : blk 163 6 = [.ireturn] := rfl
theorem en163 {a0 a1 a2 a3 : Int} : ent 163 [(3, a0), (0, a1), (0, a2), (0, a3)] = [(3, a0), (0, a1), (0, a2), (0, a3), (9, 0)] := rfl
theorem b164_0 : blk 164 0 = [.aload 0, .ifnull 67, .iconst 6, .iload 1, .invokeinterface 17752 3, .ifCond .eq 1, .iload 2, .invokeinterface 42240 1, .ifCond .ne 2, .goto 1] := rfl
theorem b164_1 : blk 164 1 = [.iconst (-1), .ireturn] := rfl
theorem b164_2 : blk 164 2 = [.aload 0, .ifnonnull 35, .iload 1, .iload 2, .iload 3, .iload 4, .iload 5, .iload 6, .invokeinterface 42544 7, .istore 7, .aload 0, .iload 7, .ifCond .ge 3, .iconst 0, .goto 4] := rfl
theorem b164_3 : blk 164 3 = [.iload 7, .goto 4] := rfl
theorem b164_4 : blk 164 4 = [.jsr_w 80, .aload 0, .aload 0, .ifnonnull 35, .invokeinterface 59697 1, .jsr_w 89, .aload 0, .aload 0, .ifnonnull 35, .invokeinterface 59952 1, .jsr_w 96, .iload 7, .ireturn] := rfl
theorem en164 {a0 a1 a2 a3 a4 a5 a6 : Int} : ent 164 [(3, a0), (0, a1), (0, a2), (0, a3), (0, a4), (0, a5), (0, a6)] = [(3, a0), (0, a1), (0, a2), (0, a3), (0, a4), (0, a5), (0, a6), (9, 0)] := rfl
theorem b165_0 : blk 165 0 = [.iload 0, .iconst 1, .if_icmp .lt 1, .iload 0, .iconst 3000, .if_icmp .gt 1, .iconst 1, .goto 2] := rfl
theorem b165_1 : blk 165 1 = [.iconst 0, .goto 2] := rfl
theorem b165_2 : blk 165 2 = [.freturn] := rfl
theorem en165 {a0 : Int} : ent 165 [(0, a0)] = [(0, a0)] := rfl
theorem b166_0 : blk 166 0 = [.aload 0, .iconst 0, .jsr_w 5256, .aload 0, .iload 2, .jsr_w 5248, .aload 0, .bipush 0, .jsr_w 5281, .aload 0, .ifnull 5240, .iconst 10000, .if_icmp .lt 1, .iconst (-23), .ireturn] := rfl
theorem b166_1 : blk 166 1 = [.aload 0, .iconst 100, .jsr_w 5272, .aload 0, .iconst 0, .jsr_w 5264, .aload 0, .iconst 0, .jsr_w 5184, .aload 0, .iconst (-1), .jsr_w 5160, .aload 0, .ifnonnull 5139, .iconst 0, .invokeinterface 42812 2, .aload 0, .ifnull 5147, .iconst 6, .iload 1, .invokeinterface 17752 3, .ifCond .eq 2, .aload 0, .ifnull 5147, .ifnonnull 10347, .iload 1, .iaload, .goto 3] := rfl
theorem b166_2 : blk 166 2 = [.iconst 0, .goto 3] := rfl
theorem b166_3 : blk 166 3 = [.istore 7, .iconst 0, .istore 8, .goto 4] := rfl
theorem b166_4 : blk 166 4 = [.iload 8, .iload 7, .if_icmp .ge 9, .aload 0, .ifnonnull 5139, .iconst 1, .iload 8, .ifCond .ne 5, .iload 3, .i2l, .goto 8] := rfl
theorem b166_5 : blk 166 5 = [.iload 8, .iconst 1, .if_icmp .ne 6, .iload 4, .i2l, .goto 8] := rfl
theorem b166_6 : blk 166 6 = [.iload 8, .iconst 2, .if_icmp .ne 7, .iload 5, .i2l, .goto 8] := rfl
theorem b166_7 : blk 166 7 = [.iload 6, .i2l, .goto 8] := rfl
theorem b166_8 : blk 166 8 = [.invokeinterface 43068 3, .iinc 8 1, .goto 4] := rfl
theorem b166_9 : blk 166 9 = [.aload 0, .iload 1, .iload 7, .invokeinterface 43316 3, .iconst 0, .istore 8, .goto 10] := rfl
theorem b166_10 : blk 166 10 = [.iload 8, .iconst 4000000, .if_icmp .ge 13, .aload 0, .ifnull 5272, .iconst 100, .if_icmp .ne 13, .aload 0, .ifnull 5264, .ifCond .ne 11, .aload 0, .aload 0, .invokeinterface 44080 1, .invokeinterface 44340 2, .goto 12] := rfl
theorem b166_11 : blk 166 11 = [.aload 0, .invokeinterface 59188 1, .goto 12] := rfl
theorem b166_12 : blk 166 12 = [.iinc 8 1, .goto 10] := rfl
theorem b166_13 : blk 166 13 = [.aload 0, .ifnull 5272, .iconst 100, .if_icmp .ne 14, .aload 0, .iconst (-20), .bipush 0, .invokeinterface 44852 3, .goto 14] := rfl
theorem b166_14 : blk 166 14 = [.aload 0, .ifnull 5272, .ireturn] := rfl
theorem en166 {a0 a1 a2 a3 a4 a5 a6 : Int} : ent 166 [(3, a0), (0, a1), (0, a2), (0, a3), (0, a4), (0, a5), (0, a6)] = [(3, a0), (0, a1), (0, a2), (0, a3), (0, a4), (0, a5), (0, a6), (9, 0), (9, 0)] := rfl
theorem b167_0 : blk 167 0 = [.iload 1, .ifCond .lt 1, .iload 1, .aload 0, .ifnull 6160, .if_icmp .ge 1, .aload 0, .iload 1, .jsr_w 6160, .goto 1] := rfl
theorem b167_1 : blk 167 1 = [.return_] := rfl
theorem en167 {a0 a1 : Int} : ent 167 [(3, a0), (0, a1)] = [(3, a0), (0, a1)] := rfl
theorem b168_0 : blk 168 0 = [.aload 0, .ifnull 6160, .aload 0, .ifnull 6147, .arraylength, .if_icmp .lt 1, .return_] := rfl
theorem b168_1 : blk 168 1 = [.aload 0, .ifnull 6147, .aload 0, .ifnull 6160, .iload 1, .iastore, .aload 0, .ifnull 6155, .aload 0, .ifnull 6160, .lload 2, .lastore, .aload 0, .dup, .ifnull 6160, .iconst 1, .iadd, .jsr_w 6160, .return_] := rfl
theorem en168 {a0 a1 a2 : Int} : ent 168 [(3, a0), (0, a1), (1, a2)] = [(3, a0), (0, a1), (1, a2), (9, 0)] := rfl
theorem b169_0 : blk 169 0 = [.aload 0, .ifnull 5147, .iconst 6, .iload 1, .invokeinterface 17752 3, .ifCond .eq 1, .aload 0, .ifnull 5160, .iconst 1, .iadd, .iconst 8, .if_icmp .lt 2, .goto 1] := rfl
theorem b169_1 : blk 169 1 = [.return_] := rfl
theorem b169_2 : blk 169 2 = [.aload 0, .dup, .ifnull 5160, .iconst 1, .iadd, .jsr_w 5160, .aload 0, .ifnonnull 5171, .aload 0, .ifnull 5160, .aload 0, .ifnonnull 5139, .invokeinterface 43576 1, .iload 2, .isub, .iastore, .aload 0, .ifnonnull 5179, .aload 0, .ifnull 5160, .aload 0, .ifnull 5152, .iastore, .aload 0, .aload 0, .ifnull 5147, .ifnonnull 10339, .iload 1, .iaload, .jsr_w 5152, .aload 0, .ifnull 5147, .ifnonnull 10355, .iload 1, .iaload, .iload 2, .isub, .istore 3, .aload 0, .ifnonnull 5139, .iload 3, .iconst 64, .iadd, .invokeinterface 43836 2, .iconst 0, .istore 4, .goto 3] := rfl
theorem b169_3 : blk 169 3 = [.iload 4, .iload 3, .if_icmp .ge 4, .aload 0, .ifnonnull 5139, .iconst 0, .bipush 0, .invokeinterface 43068 3, .iinc 4 1, .goto 3] := rfl
theorem b169_4 : blk 169 4 = [.return_] := rfl
theorem en169 {a0 a1 a2 : Int} : ent 169 [(3, a0), (0, a1), (0, a2)] = [(3, a0), (0, a1), (0, a2), (9, 0), (9, 0)] := rfl
theorem b170_0 : blk 170 0 = [.aload 0, .ifnull 6160, .ireturn] := rfl
theorem en170 {a0 : Int} : ent 170 [(3, a0)] = [(3, a0)] := rfl
theorem b171_0 : blk 171 0 = [.iload 1, .ifCond .lt 1, .aload 0, .ifnull 6160, .iload 1, .iadd, .aload 0, .ifnull 6147, .arraylength, .if_icmp .gt 2, .goto 1] := rfl
theorem b171_1 : blk 171 1 = [.return_] := rfl
theorem b171_2 : blk 171 2 = [.aload 0, .ifnull 6160, .iload 1, .iadd, .aload 0, .ifnull 6147, .arraylength, .iconst 2, .imul, .dup_x1, .istore 2, .aload 0, .aload 0, .ifnull 6147, .iload 2, .invokeinterface 39427 2, .jsr_w 6147, .aload 0, .aload 0, .ifnull 6155, .iload 2, .invokeinterface 39683 2, .jsr_w 6155, .return_] := rfl
theorem en171 {a0 a1 : Int} : ent 171 [(3, a0), (0, a1)] = [(3, a0), (0, a1), (9, 0)] := rfl
theorem b172_0 : blk 172 0 = [.aload 0, .ifnull 5147, .aload 0, .ifnull 5152, .invokeinterface 32088 2, .istore 1, .aload 0, .dup, .ifnull 5152, .iconst 1, .iadd, .jsr_w 5152, .iload 1, .ireturn] := rfl
theorem en172 {a0 : Int} : ent 172 [(3, a0)] = [(3, a0), (9, 0)] := rfl
theorem b173_0 : blk 173 0 = [.iload 1, .tableswitch 33 1 31 #[1, 2, 3, 4, 5, 6, 7, 8, 9, 10, 11, 12, 13, 14, 15, 16, 17, 18, 19, 20, 21, 33, 22, 23, 24, 25, 26, 27, 30, 31, 32]] := rfl
theorem b173_1 : blk 173 1 = [.aload 0, .invokeinterface 44592 1, .pop, .goto 34] := rfl
theorem b173_2 : blk 173 2 = [.aload 0, .ifnonnull 5139, .iconst 0, .bipush 0, .invokeinterface 43068 3, .goto 34] := rfl
theorem b173_3 : blk 173 3 = [.aload 0, .ifnonnull 5139, .iconst 1, .aload 0, .invokeinterface 44080 1, .i2l, .invokeinterface 43068 3, .goto 34] := rfl
theorem b173_4 : blk 173 4 = [.aload 0, .invokeinterface 45108 1, .goto 34] := rfl
theorem b173_5 : blk 173 5 = [.aload 0, .aload 0, .invokeinterface 44080 1, .invokeinterface 45364 2, .goto 34] := rfl
theorem b173_6 : blk 173 6 = [.aload 0, .aload 0, .invokeinterface 44080 1, .invokeinterface 46388 2, .goto 34] := rfl
theorem b173_7 : blk 173 7 = [.aload 0, .aload 0, .aload 0, .invokeinterface 44080 1, .invokeinterface 45616 2, .invokeinterface 47412 2, .goto 34] := rfl
theorem b173_8 : blk 173 8 = [.aload 0, .aload 0, .invokeinterface 44080 1, .invokeinterface 49972 2, .goto 34] := rfl
theorem b173_9 : blk 173 9 = [.aload 0, .aload 0, .invokeinterface 44080 1, .invokeinterface 52788 2, .goto 34] := rfl
theorem b173_10 : blk 173 10 = [.aload 0, .invokeinterface 53812 1, .goto 34] := rfl
theorem b173_11 : blk 173 11 = [.aload 0, .invokeinterface 54068 1, .goto 34] := rfl
theorem b173_12 : blk 173 12 = [.aload 0, .aload 0, .invokeinterface 44080 1, .invokeinterface 54324 2, .goto 34] := rfl
theorem b173_13 : blk 173 13 = [.aload 0, .invokeinterface 54580 1, .goto 34] := rfl
theorem b173_14 : blk 173 14 = [.aload 0, .aload 0, .ifnonnull 5139, .iconst 0, .invokeinterface 46648 2, .aload 0, .ifnonnull 5139, .iconst 0, .invokeinterface 46905 2, .invokeinterface 54836 3, .goto 34] := rfl
theorem b173_15 : blk 173 15 = [.aload 0, .aload 0, .invokeinterface 44080 1, .jsr_w 5152, .goto 34] := rfl
theorem b173_16 : blk 173 16 = [.aload 0, .aload 0, .invokeinterface 44080 1, .invokeinterface 55348 2, .goto 34] := rfl
theorem b173_17 : blk 173 17 = [.aload 0, .invokeinterface 55604 1, .goto 34] := rfl
theorem b173_18 : blk 173 18 = [.aload 0, .invokeinterface 55860 1, .goto 34] := rfl
theorem b173_19 : blk 173 19 = [.aload 0, .aload 0, .invokeinterface 44080 1, .invokeinterface 48180 2, .goto 34] := rfl
theorem b173_20 : blk 173 20 = [.aload 0, .invokeinterface 56116 1, .goto 34] := rfl
theorem b173_21 : blk 173 21 = [.aload 0, .aload 0, .invokeinterface 44080 1, .invokeinterface 56628 2, .goto 34] := rfl
theorem b173_22 : blk 173 22 = [.aload 0, .invokeinterface 56884 1, .goto 34] := rfl
theorem b173_23 : blk 173 23 = [.aload 0, .invokeinterface 57140 1, .goto 34] := rfl
theorem b173_24 : blk 173 24 = [.aload 0, .invokeinterface 57396 1, .goto 34] := rfl
theorem b173_25 : blk 173 25 = [.aload 0, .invokeinterface 57652 1, .goto 34] := rfl
theorem b173_26 : blk 173 26 = [.aload 0, .invokeinterface 58164 1, .goto 34] := rfl
theorem b173_27 : blk 173 27 = [.aload 0, .ifnonnull 5139, .iconst 1, .iconst 1, .aload 0, .ifnonnull 5139, .iconst 0, .invokeinterface 46648 2, .ifCond .ne 28, .bipush 1, .goto 29] := rfl
theorem b173_28 : blk 173 28 = [.bipush 0, .goto 29] := rfl
theorem b173_29 : blk 173 29 = [.invokeinterface 51260 4, .goto 34] := rfl
theorem b173_30 : blk 173 30 = [.aload 0, .invokeinterface 58420 1, .goto 34] := rfl
theorem b173_31 : blk 173 31 = [.aload 0, .invokeinterface 58676 1, .goto 34] := rfl
theorem b173_32 : blk 173 32 = [.aload 0, .invokeinterface 58932 1, .goto 34] := rfl
theorem b173_33 : blk 173 33 = [.aload 0, .iconst 0, .bipush 0, .invokeinterface 54836 3, .goto 34] := rfl
theorem b173_34 : blk 173 34 = [.return_] := rfl
theorem en173 {a0 a1 : Int} : ent 173 [(3, a0), (0, a1)] = [(3, a0), (0, a1)] := rfl
theorem b174_0 : blk 174 0 = [.aload 0, .ifnull 5256, .aload 0, .ifnull 5248, .if_icmp .lt 1, .aload 0, .iconst (-20), .bipush 0, .invokeinterface 44852 3, .iconst 0, .freturn] := rfl
theorem b174_1 : blk 174 1 = [.aload 0, .dup, .ifnull 5256, .iconst 1, .iadd, .jsr_w 5256, .iconst 1, .freturn] := rfl
theorem en174 {a0 : Int} : ent 174 [(3, a0)] = [(3, a0)] := rfl
theorem b175_0 : blk 175 0 = [.aload 0, .iload 1, .jsr_w 5272, .aload 0, .lload 2, .jsr_w 5281, .return_] := rfl
theorem en175 {a0 a1 a2 : Int} : ent 175 [(3, a0), (0, a1), (1, a2)] = [(3, a0), (0, a1), (1, a2), (9, 0)] := rfl
theorem b176_0 : blk 176 0 = [.aload 0, .invokeinterface 44080 1, .i2l, .lstore 1, .aload 0, .ifnonnull 5139, .iconst 2, .lload 1, .iconst 32, .lshl, .aload 0, .invokeinterface 44080 1, .i2l, .bipush 4294967295, .land, .lor, .invokeinterface 43068 3, .return_] := rfl
theorem en176 {a0 : Int} : ent 176 [(3, a0)] = [(3, a0), (9, 0), (9, 0)] := rfl
theorem b177_0 : blk 177 0 = [.aload 0, .iload 1, .invokeinterface 45616 2, .istore 2, .aload 0, .ifnonnull 5139, .aload 0, .ifnonnull 5139, .iload 2, .invokeinterface 45880 2, .aload 0, .ifnonnull 5139, .iload 2, .invokeinterface 46137 2, .invokeinterface 43068 3, .return_] := rfl
theorem en177 {a0 a1 : Int} : ent 177 [(3, a0), (0, a1)] = [(3, a0), (0, a1), (9, 0)] := rfl
theorem b178_0 : blk 178 0 = [.aload 0, .ifnull 5160, .ifCond .lt 1, .aload 0, .ifnull 5160, .iconst 8, .if_icmp .ge 1, .aload 0, .ifnonnull 5171, .aload 0, .ifnull 5160, .iaload, .iload 1, .iadd, .goto 2] := rfl
theorem b178_1 : blk 178 1 = [.iconst (-1), .goto 2] := rfl
theorem b178_2 : blk 178 2 = [.ireturn] := rfl
theorem en178 {a0 a1 : Int} : ent 178 [(3, a0), (0, a1)] = [(3, a0), (0, a1)] := rfl
theorem b179_0 : blk 179 0 = [.iload 1, .ifCond .lt 1, .iload 1, .aload 0, .ifnull 6160, .if_icmp .ge 1, .aload 0, .ifnull 6147, .iload 1, .iaload, .goto 2] := rfl
theorem b179_1 : blk 179 1 = [.iconst 0, .goto 2] := rfl
theorem b179_2 : blk 179 2 = [.ireturn] := rfl
theorem en179 {a0 a1 : Int} : ent 179 [(3, a0), (0, a1)] = [(3, a0), (0, a1)] := rfl
theorem b180_0 : blk 180 0 = [.iload 1, .ifCond .lt 1, .iload 1, .aload 0, .ifnull 6160, .if_icmp .ge 1, .aload 0, .ifnull 6155, .iload 1, .laload, .goto 2] := rfl
theorem b180_1 : blk 180 1 = [.bipush 0, .goto 2] := rfl
theorem b180_2 : blk 180 2 = [.lreturn] := rfl
theorem en180 {a0 a1 : Int} : ent 180 [(3, a0), (0, a1)] = [(3, a0), (0, a1)] := rfl
theorem b181_0 : blk 181 0 = [.aload 0, .ifnonnull 5139, .aload 0, .iload 1, .invokeinterface 45616 2, .aload 0, .ifnonnull 5139, .iconst 0, .invokeinterface 46648 2, .aload 0, .ifnonnull 5139, .iconst 0, .invokeinterface 46905 2, .invokeinterface 47164 4, .aload 0, .ifnonnull 5139, .aload 0, .ifnonnull 5139, .invokeinterface 43576 1, .iconst 1, .isub, .invokeinterface 42812 2, .return_] := rfl
theorem en181 {a0 a1 : Int} : ent 181 [(3, a0), (0, a1)] = [(3, a0), (0, a1)] := rfl
theorem b182_0 : blk 182 0 = [.aload 0, .aload 0, .ifnull 6160, .iconst 1, .isub, .iload 1, .isub, .invokeinterface 45880 2, .ireturn] := rfl
theorem en182 {a0 a1 : Int} : ent 182 [(3, a0), (0, a1)] = [(3, a0), (0, a1)] := rfl
theorem b183_0 : blk 183 0 = [.aload 0, .aload 0, .ifnull 6160, .iconst 1, .isub, .iload 1, .isub, .invokeinterface 46137 2, .lreturn] := rfl
theorem en183 {a0 a1 : Int} : ent 183 [(3, a0), (0, a1)] = [(3, a0), (0, a1)] := rfl
theorem b184_0 : blk 184 0 = [.iload 1, .ifCond .lt 1, .iload 1, .aload 0, .ifnull 6160, .if_icmp .lt 2, .goto 1] := rfl
theorem b184_1 : blk 184 1 = [.return_] := rfl
theorem b184_2 : blk 184 2 = [.aload 0, .ifnull 6147, .iload 1, .iload 2, .iastore, .aload 0, .ifnull 6155, .iload 1, .lload 3, .lastore, .return_] := rfl
theorem en184 {a0 a1 a2 a3 : Int} : ent 184 [(3, a0), (0, a1), (0, a2), (1, a3)] = [(3, a0), (0, a1), (0, a2), (1, a3), (9, 0)] := rfl
theorem b185_0 : blk 185 0 = [.aload 0, .ifnonnull 5139, .iload 1, .invokeinterface 45880 2, .istore 2, .aload 0, .ifnonnull 5139, .iload 1, .invokeinterface 46137 2, .l2i, .istore 3, .aload 0, .aload 0, .iconst 1, .invokeinterface 47664 2, .invokeinterface 47920 2, .ifCond .ne 1, .aload 0, .iload 2, .invokeinterface 48384 1, .invokeinterface 47920 2, .ifCond .eq 2, .goto 1] := rfl
theorem b185_1 : blk 185 1 = [.return_] := rfl
theorem b185_2 : blk 185 2 = [.iload 2, .iconst 4, .isub, .istore 4, .iload 4, .ifCond .ne 3, .aload 0, .aload 0, .iconst 0, .invokeinterface 47664 2, .invokeinterface 47920 2, .ifCond .ne 4, .goto 3] := rfl
theorem b185_3 : blk 185 3 = [.iload 4, .iconst 1, .if_icmp .ne 5, .aload 0, .aload 0, .iconst 0, .invokeinterface 48688 2, .invokeinterface 47920 2, .ifCond .eq 5, .goto 4] := rfl
theorem b185_4 : blk 185 4 = [.return_] := rfl
theorem b185_5 : blk 185 5 = [.aload 0, .aload 0, .iload 3, .i2l, .aload 0, .ifnonnull 5139, .iconst 1, .invokeinterface 46905 2, .invokeinterface 48944 3, .invokeinterface 47920 2, .ifCond .ne 6, .iload 4, .iconst 2, .if_icmp .lt 7, .aload 0, .aload 0, .iload 4, .invokeinterface 49200 2, .invokeinterface 47920 2, .ifCond .eq 7, .goto 6] := rfl
theorem b185_6 : blk 185 6 = [.return_] := rfl
theorem b185_7 : blk 185 7 = [.iload 4, .iconst 1, .if_icmp .ne 8, .aload 0, .iconst 0, .invokeinterface 49713 2, .goto 10] := rfl
theorem b185_8 : blk 185 8 = [.aload 0, .ifnonnull 5139, .iconst 0, .invokeinterface 46648 2, .ifCond .ne 9, .bipush (-9), .goto 10] := rfl
theorem b185_9 : blk 185 9 = [.aload 0, .ifnonnull 5139, .iconst 0, .invokeinterface 46905 2, .goto 10] := rfl
theorem b185_10 : blk 185 10 = [.lstore 5, .aload 0, .ifnonnull 5131, .iload 3, .aload 0, .ifnonnull 5139, .iconst 1, .invokeinterface 46905 2, .l2i, .lload 5, .invokeinterface 41508 4, .aload 0, .ifnonnull 5139, .aload 0, .ifnonnull 5139, .invokeinterface 43576 1, .iconst 2, .isub, .invokeinterface 42812 2, .return_] := rfl
theorem en185 {a0 a1 : Int} : ent 185 [(3, a0), (0, a1)] = [(3, a0), (0, a1), (9, 0), (9, 0), (9, 0), (9, 0), (9, 0)] := rfl
theorem b186_0 : blk 186 0 = [.aload 0, .ifnonnull 5139, .iload 1, .invokeinterface 46648 2, .istore 2, .iload 2, .ifCond .ne 1, .iconst 3, .goto 3] := rfl
theorem b186_1 : blk 186 1 = [.iload 2, .iconst 1, .if_icmp .eq 2, .iconst 4, .goto 3] := rfl
theorem b186_2 : blk 186 2 = [.iconst 0, .goto 3] := rfl
theorem b186_3 : blk 186 3 = [.ireturn] := rfl
theorem en186 {a0 a1 : Int} : ent 186 [(3, a0), (0, a1)] = [(3, a0), (0, a1), (9, 0)] := rfl
theorem b187_0 : blk 187 0 = [.iload 1, .ifCond .ne 1, .iconst 0, .freturn] := rfl
theorem b187_1 : blk 187 1 = [.aload 0, .iload 1, .invokeinterface 48180 2, .iconst 1, .freturn] := rfl
theorem en187 {a0 a1 : Int} : ent 187 [(3, a0), (0, a1)] = [(3, a0), (0, a1)] := rfl
theorem b188_0 : blk 188 0 = [.aload 0, .ifnull 5240, .iconst 10000, .if_icmp .lt 1, .aload 0, .iconst (-23), .bipush 0, .invokeinterface 44852 3, .return_] := rfl
theorem b188_1 : blk 188 1 = [.aload 0, .dup, .ifnull 5240, .iconst 1, .iadd, .jsr_w 5240, .aload 0, .iload 1, .jsr_w 5264, .return_] := rfl
theorem en188 {a0 a1 : Int} : ent 188 [(3, a0), (0, a1)] = [(3, a0), (0, a1)] := rfl
theorem b189_0 : blk 189 0 = [.iload 0, .ifCond .ne 1, .iconst 3, .goto 3] := rfl
theorem b189_1 : blk 189 1 = [.iload 0, .iconst 4, .if_icmp .ge 2, .iconst 4, .goto 3] := rfl
theorem b189_2 : blk 189 2 = [.iconst 0, .goto 3] := rfl
theorem b189_3 : blk 189 3 = [.ireturn] := rfl
theorem en189 {a0 : Int} : ent 189 [(0, a0)] = [(0, a0)] := rfl
theorem b190_0 : blk 190 0 = [.aload 0, .ifnonnull 5139, .iload 1, .invokeinterface 46648 2, .istore 2, .iload 2, .ifCond .ne 1, .iconst 3, .goto 3] := rfl
theorem b190_1 : blk 190 1 = [.iload 2, .iconst 1, .if_icmp .eq 2, .iload 2, .iconst 2, .if_icmp .eq 2, .iconst 4, .goto 3] := rfl
theorem b190_2 : blk 190 2 = [.iconst 0, .goto 3] := rfl
theorem b190_3 : blk 190 3 = [.ireturn] := rfl
theorem en190 {a0 a1 : Int} : ent 190 [(3, a0), (0, a1)] = [(3, a0), (0, a1), (9, 0)] := rfl
theorem b191_0 : blk 191 0 = [.aload 0, .ifnonnull 5131, .lload 1, .l2i, .lload 3, .invokeinterface 40736 3, .ifCond .eq 1, .iconst 0, .goto 2] := rfl
theorem b191_1 : blk 191 1 = [.iconst 2, .goto 2] := rfl
theorem b191_2 : blk 191 2 = [.ireturn] := rfl
theorem en191 {a0 a1 a2 : Int} : ent 191 [(3, a0), (1, a1), (1, a2)] = [(3, a0), (1, a1), (9, 0), (1, a2), (9, 0)] := rfl
theorem b192_0 : blk 192 0 = [.aload 0, .ifnonnull 5139, .iconst 0, .invokeinterface 46648 2, .istore 2, .iload 2, .ifCond .ne 1, .iconst 0, .ireturn] := rfl
theorem b192_1 : blk 192 1 = [.iload 2, .iconst 3, .if_icmp .eq 2, .iconst 4, .ireturn] := rfl
theorem b192_2 : blk 192 2 = [.iload 1, .iconst 3, .if_icmp .ne 3, .aload 0, .ifnonnull 5123, .aload 0, .ifnonnull 5139, .iconst 0, .invokeinterface 46905 2, .l2i, .invokeinterface 49448 2, .ifCond .ne 3, .iconst 6, .goto 4] := rfl
theorem b192_3 : blk 192 3 = [.iconst 0, .goto 4] := rfl
theorem b192_4 : blk 192 4 = [.ireturn] := rfl
theorem en192 {a0 a1 : Int} : ent 192 [(3, a0), (0, a1)] = [(3, a0), (0, a1), (9, 0)] := rfl
theorem b193_0 : blk 193 0 = [.aload 0, .iload 1, .invokeinterface 35624 2, .iconst 2, .if_icmp .lt 1, .iconst 1, .goto 2] := rfl
theorem b193_1 : blk 193 1 = [.iconst 0, .goto 2] := rfl
theorem b193_2 : blk 193 2 = [.freturn] := rfl
theorem en193 {a0 a1 : Int} : ent 193 [(3, a0), (0, a1)] = [(3, a0), (0, a1)] := rfl
theorem b194_0 : blk 194 0 = [.aload 0, .ifnonnull 5139, .iload 1, .invokeinterface 46648 2, .iconst 2, .if_icmp .ne 1, .aload 0, .ifnonnull 5139, .iload 1, .invokeinterface 46905 2, .goto 2] := rfl
theorem b194_1 : blk 194 1 = [.aload 0, .ifnonnull 5139, .iload 1, .invokeinterface 46905 2, .invokeinterface 24833 1, .goto 2] := rfl
theorem b194_2 : blk 194 2 = [.lreturn] := rfl
theorem en194 {a0 a1 : Int} : ent 194 [(3, a0), (0, a1)] = [(3, a0), (0, a1)] := rfl
theorem b195_0 : blk 195 0 = [.aload 0, .invokeinterface 50224 1, .ifCond .eq 1, .return_] := rfl
theorem b195_1 : blk 195 1 = [.aload 0, .invokeinterface 50480 1, .ifCond .ne 2, .aload 0, .iload 1, .aload 0, .ifnonnull 5139, .iconst 1, .invokeinterface 46905 2, .aload 0, .ifnonnull 5139, .iconst 0, .invokeinterface 46905 2, .invokeinterface 50740 4, .return_] := rfl
theorem b195_2 : blk 195 2 = [.aload 0, .iconst 1, .invokeinterface 49713 2, .lstore 2, .aload 0, .iconst 0, .invokeinterface 49713 2, .lstore 4, .iload 1, .ifCond .ne 3, .lload 2, .lload 4, .invokeinterface 51457 2, .lstore 6, .goto 8] := rfl
theorem b195_3 : blk 195 3 = [.iload 1, .iconst 1, .if_icmp .ne 4, .lload 2, .lload 4, .invokeinterface 51969 1, .invokeinterface 51457 2, .lstore 6, .goto 8] := rfl
theorem b195_4 : blk 195 4 = [.iload 1, .iconst 2, .if_icmp .ne 5, .lload 2, .lload 4, .invokeinterface 52225 2, .lstore 6, .goto 8] := rfl
theorem b195_5 : blk 195 5 = [.iload 1, .iconst 3, .if_icmp .ne 6, .lload 2, .lload 4, .invokeinterface 25601 2, .goto 7] := rfl
theorem b195_6 : blk 195 6 = [.lload 2, .lload 4, .invokeinterface 52481 2, .goto 7] := rfl
theorem b195_7 : blk 195 7 = [.lstore 6, .goto 8] := rfl
theorem b195_8 : blk 195 8 = [.aload 0, .ifnonnull 5139, .iconst 2, .iconst 2, .lload 6, .invokeinterface 51260 4, .return_] := rfl
theorem en195 {a0 a1 : Int} : ent 195 [(3, a0), (0, a1)] = [(3, a0), (0, a1), (9, 0), (9, 0), (9, 0), (9, 0), (9, 0), (9, 0)] := rfl
theorem b196_0 : blk 196 0 = [.aload 0, .aload 0, .iconst 1, .invokeinterface 48688 2, .invokeinterface 47920 2, .ifCond .ne 1, .aload 0, .aload 0, .iconst 0, .invokeinterface 48688 2, .invokeinterface 47920 2, .ifCond .eq 2, .goto 1] := rfl
theorem b196_1 : blk 196 1 = [.iconst 1, .goto 3] := rfl
theorem b196_2 : blk 196 2 = [.iconst 0, .goto 3] := rfl
theorem b196_3 : blk 196 3 = [.freturn] := rfl
theorem en196 {a0 : Int} : ent 196 [(3, a0)] = [(3, a0)] := rfl
theorem b197_0 : blk 197 0 = [.aload 0, .ifnonnull 5139, .iconst 1, .invokeinterface 46648 2, .iconst 2, .if_icmp .eq 1, .aload 0, .ifnonnull 5139, .iconst 0, .invokeinterface 46648 2, .iconst 2, .if_icmp .ne 2, .goto 1] := rfl
theorem b197_1 : blk 197 1 = [.iconst 1, .goto 3] := rfl
theorem b197_2 : blk 197 2 = [.iconst 0, .goto 3] := rfl
theorem b197_3 : blk 197 3 = [.freturn] := rfl
theorem en197 {a0 : Int} : ent 197 [(3, a0)] = [(3, a0)] := rfl
theorem b198_0 : blk 198 0 = [.lload 4, .bipush 0, .lcmp, .ifCond .ne 2, .iload 1, .iconst 3, .if_icmp .eq 1, .iload 1, .iconst 4, .if_icmp .ne 2, .goto 1] := rfl
theorem b198_1 : blk 198 1 = [.aload 0, .iconst 1, .invokeinterface 48180 2, .return_] := rfl
theorem b198_2 : blk 198 2 = [.iload 1, .ifCond .ne 3, .lload 2, .lload 4, .ladd, .lstore 6, .goto 9] := rfl
theorem b198_3 : blk 198 3 = [.iload 1, .iconst 1, .if_icmp .ne 4, .lload 2, .lload 4, .lsub, .lstore 6, .goto 9] := rfl
theorem b198_4 : blk 198 4 = [.iload 1, .iconst 2, .if_icmp .ne 5, .lload 2, .lload 4, .lmul, .lstore 6, .goto 9] := rfl
theorem b198_5 : blk 198 5 = [.lload 4, .bipush 0, .lcmp, .ifCond .ne 6, .bipush 0, .lstore 6, .goto 9] := rfl
theorem b198_6 : blk 198 6 = [.iload 1, .iconst 3, .if_icmp .ne 7, .lload 2, .lload 4, .ldiv, .l2i, .i2l, .goto 8] := rfl
theorem b198_7 : blk 198 7 = [.lload 2, .lload 4, .lrem, .goto 8] := rfl
theorem b198_8 : blk 198 8 = [.lstore 6, .goto 9] := rfl
theorem b198_9 : blk 198 9 = [.aload 0, .iconst 2, .lload 6, .invokeinterface 50996 3, .return_] := rfl
theorem en198 {a0 a1 a2 a3 : Int} : ent 198 [(3, a0), (0, a1), (1, a2), (1, a3)] = [(3, a0), (0, a1), (1, a2), (9, 0), (1, a3), (9, 0), (9, 0), (9, 0)] := rfl
theorem b199_0 : blk 199 0 = [.lload 2, .lload 2, .l2i, .i2l, .lcmp, .ifCond .eq 1, .aload 0, .iconst 7, .invokeinterface 48180 2, .goto 2] := rfl
theorem b199_1 : blk 199 1 = [.aload 0, .ifnonnull 5139, .iload 1, .iconst 1, .lload 2, .invokeinterface 51260 4, .goto 2] := rfl
theorem b199_2 : blk 199 2 = [.return_] := rfl
theorem en199 {a0 a1 a2 : Int} : ent 199 [(3, a0), (0, a1), (1, a2)] = [(3, a0), (0, a1), (1, a2), (9, 0)] := rfl
theorem b200_0 : blk 200 0 = [.aload 0, .aload 0, .ifnull 6160, .iload 1, .isub, .invokeinterface 42812 2, .aload 0, .iload 2, .lload 3, .invokeinterface 43068 3, .return_] := rfl
theorem en200 {a0 a1 a2 a3 : Int} : ent 200 [(3, a0), (0, a1), (0, a2), (1, a3)] = [(3, a0), (0, a1), (0, a2), (1, a3), (9, 0)] := rfl
theorem b201_0 : blk 201 0 = [.lload 0, .invokeinterface 25856 1, .ifCond .ne 1, .lload 2, .invokeinterface 25856 1, .ifCond .eq 2, .goto 1] := rfl
theorem b201_1 : blk 201 1 = [.bipush 9221120237041090560, .lreturn] := rfl
theorem b201_2 : blk 201 2 = [.lload 0, .invokeinterface 26112 1, .ifCond .eq 5, .lload 2, .invokeinterface 26112 1, .ifCond .eq 3, .lload 0, .lload 2, .lcmp, .ifCond .eq 3, .bipush 9221120237041090560, .goto 4] := rfl
theorem b201_3 : blk 201 3 = [.lload 0, .goto 4] := rfl
theorem b201_4 : blk 201 4 = [.lreturn] := rfl
theorem b201_5 : blk 201 5 = [.lload 2, .invokeinterface 26112 1, .ifCond .eq 6, .lload 2, .lreturn] := rfl
theorem b201_6 : blk 201 6 = [.lload 0, .invokeinterface 27136 1, .lload 2, .invokeinterface 27136 1, .dup_x1, .istore 4, .lload 0, .invokeinterface 26625 1, .iconst 8, .lshl, .iload 4, .lload 0, .invokeinterface 27136 1, .isub, .invokeinterface 51713 2, .lstore 5, .lload 2, .invokeinterface 26625 1, .iconst 8, .lshl, .iload 4, .lload 2, .invokeinterface 27136 1, .isub, .invokeinterface 51713 2, .lstore 7, .lload 0, .bipush 0, .lcmp, .ifCond .ge 7, .lload 5, .lneg, .goto 8] := rfl
theorem b201_7 : blk 201 7 = [.lload 5, .goto 8] := rfl
theorem b201_8 : blk 201 8 = [.lload 2, .bipush 0, .lcmp, .ifCond .ge 9, .lload 7, .lneg, .goto 10] := rfl
theorem b201_9 : blk 201 9 = [.lload 7, .goto 10] := rfl
theorem b201_10 : blk 201 10 = [.ladd, .lstore 9, .lload 9, .bipush 0, .lcmp, .ifCond .ne 11, .lload 0, .lload 2, .land, .bipush (-9223372036854775808), .land, .lreturn] := rfl
theorem b201_11 : blk 201 11 = [.lload 9, .bipush (-9223372036854775808), .land, .lload 9, .swap, .iload 4, .iconst 8, .isub, .invokeinterface 25089 3, .lreturn] := rfl
theorem en201 {a0 a1 : Int} : ent 201 [(1, a0), (1, a1)] = [(1, a0), (9, 0), (1, a1), (9, 0), (9, 0), (9, 0), (9, 0), (9, 0), (9, 0), (9, 0), (9, 0)] := rfl
theorem b202_0 : blk 202 0 = [.iload 2, .ifCond .gt 1, .lload 0, .lreturn] := rfl
theorem b202_1 : blk 202 1 = [.iload 2, .iconst 62, .if_icmp .le 4, .lload 0, .bipush 0, .lcmp, .ifCond .ne 2, .bipush 0, .goto 3] := rfl
theorem b202_2 : blk 202 2 = [.bipush 1, .goto 3] := rfl
theorem b202_3 : blk 202 3 = [.lreturn] := rfl
theorem b202_4 : blk 202 4 = [.lload 0, .iload 2, .lushr, .lload 0, .bipush 1, .iload 2, .lshl, .bipush 1, .lsub, .land, .bipush 0, .lcmp, .ifCond .ne 5, .iconst 0, .goto 6] := rfl
theorem b202_5 : blk 202 5 = [.iconst 1, .goto 6] := rfl
theorem b202_6 : blk 202 6 = [.i2l, .lor, .lreturn] := rfl
theorem en202 {a0 a1 : Int} : ent 202 [(1, a0), (0, a1)] = [(1, a0), (9, 0), (0, a1)] := rfl
theorem b203_0 : blk 203 0 = [.lload 0, .invokeinterface 25856 1, .ifCond .eq 1, .bipush 9221120237041090560, .goto 2] := rfl
theorem b203_1 : blk 203 1 = [.lload 0, .bipush (-9223372036854775808), .lxor, .goto 2] := rfl
theorem b203_2 : blk 203 2 = [.lreturn] := rfl
theorem en203 {a0 : Int} : ent 203 [(1, a0)] = [(1, a0), (9, 0)] := rfl
theorem b204_0 : blk 204 0 = [.lload 0, .invokeinterface 25856 1, .ifCond .ne 1, .lload 2, .invokeinterface 25856 1, .ifCond .eq 2, .goto 1] := rfl
theorem b204_1 : blk 204 1 = [.bipush 9221120237041090560, .lreturn] := rfl
theorem b204_2 : blk 204 2 = [.lload 0, .lload 2, .lxor, .bipush (-9223372036854775808), .land, .lstore 4, .lload 0, .invokeinterface 26112 1, .ifCond .ne 3, .lload 2, .invokeinterface 26112 1, .ifCond .eq 7, .goto 3] := rfl
theorem b204_3 : blk 204 3 = [.lload 0, .invokeinterface 26368 1, .ifCond .ne 4, .lload 2, .invokeinterface 26368 1, .ifCond .eq 5, .goto 4] := rfl
theorem b204_4 : blk 204 4 = [.bipush 9221120237041090560, .goto 6] := rfl
theorem b204_5 : blk 204 5 = [.lload 4, .bipush 9218868437227405312, .lor, .goto 6] := rfl
theorem b204_6 : blk 204 6 = [.lreturn] := rfl
theorem b204_7 : blk 204 7 = [.lload 0, .invokeinterface 26368 1, .ifCond .ne 8, .lload 2, .invokeinterface 26368 1, .ifCond .eq 9, .goto 8] := rfl
theorem b204_8 : blk 204 8 = [.lload 4, .lreturn] := rfl
theorem b204_9 : blk 204 9 = [.lload 0, .invokeinterface 26625 1, .lload 0, .invokeinterface 26880 1, .lshl, .lstore 6, .lload 2, .invokeinterface 26625 1, .lload 2, .invokeinterface 26880 1, .lshl, .lstore 8, .lload 6, .bipush 134217727, .land, .lload 8, .bipush 134217727, .land, .lmul, .lstore 10, .lload 6, .iconst 27, .lshr, .lload 8, .bipush 134217727, .land, .lmul, .lload 6, .bipush 134217727, .land, .lload 8, .iconst 27, .lshr, .lmul, .ladd, .lload 10, .iconst 27, .lshr, .ladd, .lstore 12, .lload 6, .iconst 27, .lshr, .lload 8, .iconst 27, .lshr, .lmul, .iconst 10, .lshl, .lload 12, .iconst 17, .lshr, .ladd, .lstore 14, .lload 12, .bipush 131071, .land, .bipush 0, .lcmp, .ifCond .ne 10, .lload 10, .bipush 134217727, .land, .bipush 0, .lcmp, .ifCond .eq 11, .goto 10] := rfl
theorem b204_10 : blk 204 10 = [.iconst 1, .goto 12] := rfl
theorem b204_11 : blk 204 11 = [.iconst 0, .goto 12] := rfl
theorem b204_12 : blk 204 12 = [.istore 16, .lload 4, .lload 14, .iload 16, .ifCond .eq 13, .iconst 1, .goto 14] := rfl
theorem b204_13 : blk 204 13 = [.iconst 0, .goto 14] := rfl
theorem b204_14 : blk 204 14 = [.i2l, .lor, .lload 0, .invokeinterface 27136 1, .lload 0, .invokeinterface 26880 1, .isub, .lload 2, .invokeinterface 27136 1, .iadd, .lload 2, .invokeinterface 26880 1, .isub, .iconst 44, .iadd, .invokeinterface 25089 3, .lreturn] := rfl
theorem en204 {a0 a1 : Int} : ent 204 [(1, a0), (1, a1)] = [(1, a0), (9, 0), (1, a1), (9, 0), (9, 0), (9, 0), (9, 0), (9, 0), (9, 0), (9, 0), (9, 0), (9, 0), (9, 0), (9, 0), (9, 0), (9, 0), (9, 0)] := rfl
theorem b205_0 : blk 205 0 = [.lload 0, .invokeinterface 25856 1, .ifCond .ne 1, .lload 2, .invokeinterface 25856 1, .ifCond .ne 1, .lload 0, .invokeinterface 26112 1, .ifCond .ne 1, .lload 2, .invokeinterface 26368 1, .ifCond .eq 2, .goto 1] := rfl
theorem b205_1 : blk 205 1 = [.bipush 9221120237041090560, .lreturn] := rfl
theorem b205_2 : blk 205 2 = [.lload 2, .invokeinterface 26112 1, .ifCond .ne 3, .lload 0, .invokeinterface 26368 1, .ifCond .eq 4, .goto 3] := rfl
theorem b205_3 : blk 205 3 = [.lload 0, .lreturn] := rfl
theorem b205_4 : blk 205 4 = [.lload 0, .invokeinterface 27136 1, .lload 0, .invokeinterface 26880 1, .isub, .lload 2, .invokeinterface 27136 1, .isub, .lload 2, .invokeinterface 26880 1, .iadd, .istore 4, .lload 2, .invokeinterface 26625 1, .lload 2, .invokeinterface 26880 1, .lshl, .lstore 5, .lload 0, .invokeinterface 26625 1, .lload 0, .invokeinterface 26880 1, .lshl, .lstore 7, .iload 4, .ifCond .lt 5, .lload 5, .bipush 0, .lcmp, .ifCond .gt 6, .goto 5] := rfl
theorem b205_5 : blk 205 5 = [.lload 0, .lreturn] := rfl
theorem b205_6 : blk 205 6 = [.lload 7, .lload 5, .lrem, .lstore 7, .iload 4, .istore 9, .goto 7] := rfl
theorem b205_7 : blk 205 7 = [.iload 9, .ifCond .le 8, .lload 7, .iload 9, .iconst 10, .dup_x2, .lshl, .lload 5, .lrem, .lstore 7, .iinc 9 (-10), .goto 7] := rfl
theorem b205_8 : blk 205 8 = [.lload 0, .bipush (-9223372036854775808), .land, .lload 7, .lload 2, .invokeinterface 27136 1, .lload 2, .invokeinterface 26880 1, .isub, .invokeinterface 25089 3, .lreturn] := rfl
theorem en205 {a0 a1 : Int} : ent 205 [(1, a0), (1, a1)] = [(1, a0), (9, 0), (1, a1), (9, 0), (9, 0), (9, 0), (9, 0), (9, 0), (9, 0), (9, 0)] := rfl
theorem b206_0 : blk 206 0 = [.aload 0, .invokeinterface 50224 1, .ifCond .eq 1, .return_] := rfl
theorem b206_1 : blk 206 1 = [.aload 0, .ifnonnull 5139, .iconst 1, .invokeinterface 46905 2, .lstore 2, .aload 0, .ifnonnull 5139, .iconst 0, .invokeinterface 46905 2, .lstore 4, .aload 0, .invokeinterface 50480 1, .ifCond .eq 5, .iload 1, .ifCond .ne 2, .aload 0, .iconst 1, .invokeinterface 49713 2, .aload 0, .iconst 0, .invokeinterface 49713 2, .invokeinterface 52992 2, .goto 4] := rfl
theorem b206_2 : blk 206 2 = [.iload 1, .iconst 1, .if_icmp .ne 3, .aload 0, .iconst 0, .invokeinterface 49713 2, .aload 0, .iconst 1, .invokeinterface 49713 2, .invokeinterface 52992 2, .goto 4] := rfl
theorem b206_3 : blk 206 3 = [.aload 0, .iconst 1, .invokeinterface 49713 2, .aload 0, .iconst 0, .invokeinterface 49713 2, .invokeinterface 53504 2, .goto 4] := rfl
theorem b206_4 : blk 206 4 = [.istore 6, .goto 12] := rfl
theorem b206_5 : blk 206 5 = [.iload 1, .ifCond .ne 7, .lload 2, .lload 4, .lcmp, .ifCond .ge 6, .iconst 1, .goto 11] := rfl
theorem b206_6 : blk 206 6 = [.iconst 0, .goto 11] := rfl
theorem b206_7 : blk 206 7 = [.iload 1, .iconst 1, .if_icmp .ne 9, .lload 2, .lload 4, .lcmp, .ifCond .le 8, .iconst 1, .goto 11] := rfl
theorem b206_8 : blk 206 8 = [.iconst 0, .goto 11] := rfl
theorem b206_9 : blk 206 9 = [.lload 2, .lload 4, .lcmp, .ifCond .ne 10, .iconst 1, .goto 11] := rfl
theorem b206_10 : blk 206 10 = [.iconst 0, .goto 11] := rfl
theorem b206_11 : blk 206 11 = [.istore 6, .goto 12] := rfl
theorem b206_12 : blk 206 12 = [.aload 0, .ifnonnull 5139, .iconst 2, .iconst 1, .iload 6, .ifCond .eq 13, .bipush 1, .goto 14] := rfl
theorem b206_13 : blk 206 13 = [.bipush 0, .goto 14] := rfl
theorem b206_14 : blk 206 14 = [.invokeinterface 51260 4, .return_] := rfl
theorem en206 {a0 a1 : Int} : ent 206 [(3, a0), (0, a1)] = [(3, a0), (0, a1), (9, 0), (9, 0), (9, 0), (9, 0), (9, 0)] := rfl
theorem b207_0 : blk 207 0 = [.lload 0, .invokeinterface 25856 1, .ifCond .ne 1, .lload 2, .invokeinterface 25856 1, .ifCond .ne 1, .lload 0, .invokeinterface 53249 1, .lload 2, .invokeinterface 53249 1, .lcmp, .ifCond .ge 1, .iconst 1, .goto 2] := rfl
theorem b207_1 : blk 207 1 = [.iconst 0, .goto 2] := rfl
theorem b207_2 : blk 207 2 = [.freturn] := rfl
theorem en207 {a0 a1 : Int} : ent 207 [(1, a0), (1, a1)] = [(1, a0), (9, 0), (1, a1), (9, 0)] := rfl
theorem b208_0 : blk 208 0 = [.lload 0, .bipush 0, .lcmp, .ifCond .ge 1, .bipush (-9223372036854775808), .lload 0, .lsub, .goto 2] := rfl
theorem b208_1 : blk 208 1 = [.lload 0, .goto 2] := rfl
theorem b208_2 : blk 208 2 = [.lreturn] := rfl
theorem en208 {a0 : Int} : ent 208 [(1, a0)] = [(1, a0), (9, 0)] := rfl
theorem b209_0 : blk 209 0 = [.lload 0, .invokeinterface 25856 1, .ifCond .ne 1, .lload 2, .invokeinterface 25856 1, .ifCond .ne 1, .lload 0, .invokeinterface 53249 1, .lload 2, .invokeinterface 53249 1, .lcmp, .ifCond .ne 1, .iconst 1, .goto 2] := rfl
theorem b209_1 : blk 209 1 = [.iconst 0, .goto 2] := rfl
theorem b209_2 : blk 209 2 = [.freturn] := rfl
theorem en209 {a0 a1 : Int} : ent 209 [(1, a0), (1, a1)] = [(1, a0), (9, 0), (1, a1), (9, 0)] := rfl
theorem b210_0 : blk 210 0 = [.aload 0, .aload 0, .iconst 0, .invokeinterface 48688 2, .invokeinterface 47920 2, .ifCond .eq 1, .return_] := rfl
theorem b210_1 : blk 210 1 = [.aload 0, .ifnonnull 5139, .iconst 0, .invokeinterface 46648 2, .iconst 2, .if_icmp .ne 2, .aload 0, .ifnonnull 5139, .iconst 1, .iconst 2, .aload 0, .ifnonnull 5139, .iconst 0, .invokeinterface 46905 2, .invokeinterface 51969 1, .invokeinterface 51260 4, .goto 3] := rfl
theorem b210_2 : blk 210 2 = [.aload 0, .iconst 1, .aload 0, .ifnonnull 5139, .iconst 0, .invokeinterface 46905 2, .lneg, .invokeinterface 50996 3, .goto 3] := rfl
theorem b210_3 : blk 210 3 = [.return_] := rfl
theorem en210 {a0 : Int} : ent 210 [(3, a0)] = [(3, a0)] := rfl
theorem b211_0 : blk 211 0 = [.aload 0, .aload 0, .iconst 0, .invokeinterface 47664 2, .invokeinterface 47920 2, .ifCond .ne 1, .aload 0, .aload 0, .ifnonnull 5139, .iconst 1, .invokeinterface 46648 2, .invokeinterface 48384 1, .invokeinterface 47920 2, .ifCond .eq 2, .goto 1] := rfl
theorem b211_1 : blk 211 1 = [.return_] := rfl
theorem b211_2 : blk 211 2 = [.aload 0, .aload 0, .aload 0, .ifnonnull 5139, .iconst 1, .invokeinterface 46905 2, .aload 0, .ifnonnull 5139, .iconst 0, .invokeinterface 46905 2, .invokeinterface 48944 3, .invokeinterface 47920 2, .ifCond .eq 3, .return_] := rfl
theorem b211_3 : blk 211 3 = [.aload 0, .ifnonnull 5139, .iconst 1, .invokeinterface 46648 2, .iconst 4, .isub, .istore 1, .aload 0, .ifnonnull 5131, .aload 0, .ifnonnull 5139, .iconst 1, .invokeinterface 46905 2, .l2i, .aload 0, .ifnonnull 5139, .iconst 0, .invokeinterface 46905 2, .l2i, .invokeinterface 41249 3, .lstore 2, .iload 1, .ifCond .ne 4, .iconst 1, .goto 7] := rfl
theorem b211_4 : blk 211 4 = [.iload 1, .iconst 1, .if_icmp .ne 5, .iconst 2, .goto 7] := rfl
theorem b211_5 : blk 211 5 = [.lload 2, .bipush (-9), .lcmp, .ifCond .ne 6, .iconst 0, .goto 7] := rfl
theorem b211_6 : blk 211 6 = [.iconst 3, .goto 7] := rfl
theorem b211_7 : blk 211 7 = [.istore 4, .aload 0, .ifnonnull 5139, .iconst 2, .iload 4, .lload 2, .invokeinterface 51260 4, .return_] := rfl
theorem en211 {a0 : Int} : ent 211 [(3, a0)] = [(3, a0), (9, 0), (9, 0), (9, 0), (9, 0)] := rfl
theorem b212_0 : blk 212 0 = [.aload 0, .aload 0, .iconst 0, .invokeinterface 47664 2, .invokeinterface 47920 2, .ifCond .eq 1, .return_] := rfl
theorem b212_1 : blk 212 1 = [.aload 0, .ifnonnull 5139, .iconst 0, .invokeinterface 46905 2, .lstore 2, .lload 2, .bipush 0, .lcmp, .ifCond .lt 2, .lload 2, .bipush 64, .lcmp, .ifCond .le 3, .goto 2] := rfl
theorem b212_2 : blk 212 2 = [.aload 0, .iconst 5, .invokeinterface 48180 2, .return_] := rfl
theorem b212_3 : blk 212 3 = [.aload 0, .ifnonnull 5131, .lload 2, .l2i, .iload 1, .iconst 2, .if_icmp .lt 4, .bipush (-9), .goto 5] := rfl
theorem b212_4 : blk 212 4 = [.bipush 0, .goto 5] := rfl
theorem b212_5 : blk 212 5 = [.invokeinterface 39200 3, .istore 4, .iload 4, .ifCond .ge 6, .aload 0, .iconst (-22), .bipush 0, .invokeinterface 44852 3, .goto 7] := rfl
theorem b212_6 : blk 212 6 = [.aload 0, .ifnonnull 5139, .iconst 1, .iconst 4, .iload 1, .iadd, .iload 4, .i2l, .invokeinterface 51260 4, .goto 7] := rfl
theorem b212_7 : blk 212 7 = [.return_] := rfl
theorem en212 {a0 a1 : Int} : ent 212 [(3, a0), (0, a1)] = [(3, a0), (0, a1), (9, 0), (9, 0), (9, 0)] := rfl
theorem b213_0 : blk 213 0 = [.aload 0, .invokeinterface 44080 1, .istore 1, .aload 0, .invokeinterface 44080 1, .istore 2, .aload 0, .invokeinterface 44592 1, .ifCond .ne 1, .return_] := rfl
theorem b213_1 : blk 213 1 = [.aload 0, .ifnull 5160, .iconst 1, .iadd, .iconst 8, .if_icmp .lt 2, .aload 0, .iconst (-21), .bipush 0, .invokeinterface 44852 3, .goto 3] := rfl
theorem b213_2 : blk 213 2 = [.aload 0, .iload 1, .iload 2, .invokeinterface 43316 3, .goto 3] := rfl
theorem b213_3 : blk 213 3 = [.return_] := rfl
theorem en213 {a0 : Int} : ent 213 [(3, a0)] = [(3, a0), (9, 0), (9, 0)] := rfl
theorem b214_0 : blk 214 0 = [.aload 0, .ifnull 5184, .ifCond .le 3, .aload 0, .ifnonnull 5211, .aload 0, .ifnull 5184, .iconst 1, .isub, .iaload, .aload 0, .ifnull 5160, .if_icmp .ne 3, .aload 0, .ifnull 5184, .iconst 1, .isub, .istore 4, .aload 0, .ifnonnull 5203, .iload 4, .iaload, .iconst 2, .if_icmp .ne 1, .goto 2] := rfl
theorem b214_1 : blk 214 1 = [.aload 0, .ifnonnull 5139, .aload 0, .ifnonnull 5219, .iload 4, .iaload, .invokeinterface 42812 2, .aload 0, .iload 4, .iconst 8, .iload 1, .iadd, .lload 2, .invokeinterface 55092 4, .return_] := rfl
theorem b214_2 : blk 214 2 = [.aload 0, .dup, .ifnull 5184, .iconst 1, .isub, .jsr_w 5184, .goto 0] := rfl
theorem b214_3 : blk 214 3 = [.aload 0, .ifnull 5160, .ifCond .gt 4, .aload 0, .iload 1, .lload 2, .invokeinterface 44852 3, .return_] := rfl
theorem b214_4 : blk 214 4 = [.aload 0, .ifnonnull 5139, .aload 0, .ifnonnull 5171, .aload 0, .ifnull 5160, .iaload, .invokeinterface 42812 2, .aload 0, .ifnonnull 5139, .iload 1, .lload 2, .invokeinterface 43068 3, .aload 0, .aload 0, .ifnonnull 5179, .aload 0, .ifnull 5160, .iaload, .jsr_w 5152, .aload 0, .dup, .ifnull 5160, .iconst 1, .isub, .jsr_w 5160, .return_] := rfl
theorem en214 {a0 a1 a2 : Int} : ent 214 [(3, a0), (0, a1), (1, a2)] = [(3, a0), (0, a1), (1, a2), (9, 0), (9, 0)] := rfl
theorem b215_0 : blk 215 0 = [.aload 0, .ifnonnull 5195, .iload 1, .iaload, .istore 5, .iconst 0, .istore 6, .goto 1] := rfl
theorem b215_1 : blk 215 1 = [.iload 6, .iconst 7, .if_icmp .ge 2, .aload 0, .ifnull 5147, .iload 5, .invokeinterface 32088 2, .iconst 22, .if_icmp .ne 2, .aload 0, .ifnull 5147, .iload 5, .iconst 2, .iadd, .invokeinterface 32088 2, .istore 5, .iinc 6 1, .goto 1] := rfl
theorem b215_2 : blk 215 2 = [.aload 0, .ifnonnull 5203, .iload 1, .iconst 2, .iastore, .aload 0, .ifnonnull 5227, .iload 1, .iload 2, .iastore, .aload 0, .ifnonnull 5235, .iload 1, .lload 3, .lastore, .aload 0, .iload 5, .jsr_w 5152, .return_] := rfl
theorem en215 {a0 a1 a2 a3 : Int} : ent 215 [(3, a0), (0, a1), (0, a2), (1, a3)] = [(3, a0), (0, a1), (0, a2), (1, a3), (9, 0), (9, 0), (9, 0)] := rfl
theorem b216_0 : blk 216 0 = [.aload 0, .aload 0, .iconst 0, .invokeinterface 47664 2, .invokeinterface 47920 2, .ifCond .eq 1, .return_] := rfl
theorem b216_1 : blk 216 1 = [.aload 0, .ifnonnull 5139, .iconst 0, .invokeinterface 46905 2, .bipush 0, .lcmp, .ifCond .ne 2, .aload 0, .iload 1, .jsr_w 5152, .goto 2] := rfl
theorem b216_2 : blk 216 2 = [.aload 0, .ifnonnull 5139, .aload 0, .ifnonnull 5139, .invokeinterface 43576 1, .iconst 1, .isub, .invokeinterface 42812 2, .return_] := rfl
theorem en216 {a0 a1 : Int} : ent 216 [(3, a0), (0, a1)] = [(3, a0), (0, a1)] := rfl
theorem b217_0 : blk 217 0 = [.aload 0, .aload 0, .iconst 0, .invokeinterface 47664 2, .invokeinterface 47920 2, .ifCond .ne 1, .aload 0, .ifnonnull 5139, .iconst 1, .bipush 0, .invokeinterface 43068 3, .goto 1] := rfl
theorem b217_1 : blk 217 1 = [.return_] := rfl
theorem en217 {a0 : Int} : ent 217 [(3, a0)] = [(3, a0)] := rfl
theorem b218_0 : blk 218 0 = [.aload 0, .invokeinterface 44080 1, .istore 1, .aload 0, .invokeinterface 44080 1, .istore 2, .aload 0, .ifnonnull 5139, .iconst 0, .invokeinterface 46905 2, .lstore 3, .lload 3, .aload 0, .ifnonnull 5139, .iconst 1, .invokeinterface 46905 2, .lcmp, .ifCond .lt 1, .aload 0, .ifnonnull 5139, .aload 0, .ifnonnull 5139, .invokeinterface 43576 1, .iconst 2, .isub, .invokeinterface 42812 2, .aload 0, .iload 2, .jsr_w 5152, .goto 2] := rfl
theorem b218_1 : blk 218 1 = [.aload 0, .invokeinterface 44592 1, .ifCond .eq 2, .aload 0, .ifnonnull 5139, .aload 0, .iload 1, .invokeinterface 45616 2, .iconst 1, .lload 3, .invokeinterface 47164 4, .aload 0, .ifnonnull 5139, .iconst 1, .iconst 1, .lload 3, .bipush 1, .ladd, .invokeinterface 51260 4, .goto 2] := rfl
theorem b218_2 : blk 218 2 = [.return_] := rfl
theorem en218 {a0 : Int} : ent 218 [(3, a0)] = [(3, a0), (9, 0), (9, 0), (9, 0), (9, 0)] := rfl
theorem b219_0 : blk 219 0 = [.aload 0, .aload 0, .iconst 3, .invokeinterface 47664 2, .invokeinterface 47920 2, .ifCond .ne 1, .aload 0, .aload 0, .iconst 1, .invokeinterface 47664 2, .invokeinterface 47920 2, .ifCond .ne 1, .aload 0, .aload 0, .iconst 0, .invokeinterface 47664 2, .invokeinterface 47920 2, .ifCond .ne 1, .aload 0, .aload 0, .invokeinterface 56368 1, .invokeinterface 47920 2, .ifCond .eq 2, .goto 1] := rfl
theorem b219_1 : blk 219 1 = [.return_] := rfl
theorem b219_2 : blk 219 2 = [.aload 0, .ifnonnull 5139, .iconst 4, .invokeinterface 46905 2, .l2i, .istore 1, .aload 0, .ifnonnull 5139, .iconst 2, .invokeinterface 46905 2, .l2i, .istore 2, .aload 0, .ifnonnull 5139, .iconst 3, .invokeinterface 46905 2, .l2i, .istore 3, .aload 0, .ifnonnull 5139, .iconst 1, .invokeinterface 46905 2, .l2i, .istore 4, .aload 0, .ifnonnull 5139, .iconst 0, .invokeinterface 46905 2, .l2i, .istore 5, .aload 0, .ifnonnull 5139, .iconst 2, .invokeinterface 46648 2, .iconst 7, .if_icmp .ne 3, .aload 0, .ifnonnull 5139, .iconst 4, .invokeinterface 46648 2, .iconst 7, .if_icmp .eq 3, .iconst 1, .goto 4] := rfl
theorem b219_3 : blk 219 3 = [.iconst 0, .goto 4] := rfl
theorem b219_4 : blk 219 4 = [.istore 6, .iload 1, .iload 2, .if_icmp .ne 5, .iload 3, .iload 4, .if_icmp .ge 5, .iconst 1, .goto 6] := rfl
theorem b219_5 : blk 219 5 = [.iconst 0, .goto 6] := rfl
theorem b219_6 : blk 219 6 = [.istore 7, .iconst 0, .istore 8, .goto 7] := rfl
theorem b219_7 : blk 219 7 = [.iload 8, .iload 5, .if_icmp .ge 11, .iload 7, .ifCond .eq 8, .iload 5, .iconst 1, .isub, .iload 8, .isub, .goto 9] := rfl
theorem b219_8 : blk 219 8 = [.iload 8, .goto 9] := rfl
theorem b219_9 : blk 219 9 = [.istore 9, .aload 0, .ifnonnull 5131, .iload 1, .iload 3, .iload 9, .iadd, .invokeinterface 41249 3, .lstore 10, .iload 6, .ifCond .eq 10, .lload 10, .bipush (-9), .lcmp, .ifCond .eq 10, .aload 0, .ifnonnull 5123, .lload 10, .l2i, .invokeinterface 49448 2, .ifCond .ne 10, .aload 0, .iconst 6, .invokeinterface 48180 2, .return_] := rfl
theorem b219_10 : blk 219 10 = [.aload 0, .ifnonnull 5131, .iload 2, .iload 4, .iload 9, .iadd, .lload 10, .invokeinterface 41508 4, .iinc 8 1, .goto 7] := rfl
theorem b219_11 : blk 219 11 = [.aload 0, .ifnonnull 5139, .aload 0, .ifnonnull 5139, .invokeinterface 43576 1, .iconst 5, .isub, .invokeinterface 42812 2, .return_] := rfl
theorem en219 {a0 : Int} : ent 219 [(3, a0)] = [(3, a0), (9, 0), (9, 0), (9, 0), (9, 0), (9, 0), (9, 0), (9, 0), (9, 0), (9, 0), (9, 0), (9, 0)] := rfl
theorem b220_0 : blk 220 0 = [.aload 0, .ifnonnull 5139, .iconst 4, .invokeinterface 46648 2, .istore 1, .aload 0, .ifnonnull 5139, .iconst 2, .invokeinterface 46648 2, .istore 2, .iload 1, .ifCond .eq 1, .iload 2, .ifCond .ne 2, .goto 1] := rfl
theorem b220_1 : blk 220 1 = [.iconst 3, .ireturn] := rfl
theorem b220_2 : blk 220 2 = [.iload 1, .iconst 4, .if_icmp .lt 3, .iload 2, .iconst 4, .if_icmp .lt 3, .iload 1, .iconst 6, .dup_x2, .iload 2, .iconst 6, .dup_x2, .if_icmp .eq 4, .goto 3] := rfl
theorem b220_3 : blk 220 3 = [.iconst 6, .ireturn] := rfl
theorem b220_4 : blk 220 4 = [.aload 0, .ifnonnull 5139, .iconst 3, .invokeinterface 46905 2, .lstore 3, .aload 0, .ifnonnull 5139, .iconst 1, .invokeinterface 46905 2, .lstore 5, .aload 0, .ifnonnull 5139, .iconst 0, .invokeinterface 46905 2, .lstore 7, .lload 3, .bipush 0, .lcmp, .ifCond .lt 5, .lload 5, .bipush 0, .lcmp, .ifCond .lt 5, .lload 7, .bipush 0, .lcmp, .ifCond .lt 5, .lload 3, .lload 7, .ladd, .aload 0, .ifnonnull 5131, .aload 0, .ifnonnull 5139, .iconst 4, .invokeinterface 46905 2, .l2i, .invokeinterface 40992 2, .i2l, .lcmp, .ifCond .gt 5, .lload 5, .lload 7, .ladd, .aload 0, .ifnonnull 5131, .aload 0, .ifnonnull 5139, .iconst 2, .invokeinterface 46905 2, .l2i, .invokeinterface 40992 2, .i2l, .lcmp, .ifCond .gt 5, .iconst 1, .goto 6] := rfl
theorem b220_5 : blk 220 5 = [.iconst 0, .goto 6] := rfl
theorem b220_6 : blk 220 6 = [.istore 9, .iload 9, .ifCond .eq 7, .iconst 0, .goto 8] := rfl
theorem b220_7 : blk 220 7 = [.iconst 2, .goto 8] := rfl
theorem b220_8 : blk 220 8 = [.ireturn] := rfl
theorem en220 {a0 : Int} : ent 220 [(3, a0)] = [(3, a0), (9, 0), (9, 0), (9, 0), (9, 0), (9, 0), (9, 0), (9, 0), (9, 0), (9, 0)] := rfl
theorem b221_0 : blk 221 0 = [.aload 0, .ifnull 5184, .iconst 96, .if_icmp .lt 1, .return_] := rfl
theorem b221_1 : blk 221 1 = [.aload 0, .ifnonnull 5195, .aload 0, .ifnull 5184, .iload 1, .iastore, .aload 0, .ifnonnull 5203, .aload 0, .ifnull 5184, .iconst 0, .iastore, .aload 0, .ifnonnull 5211, .aload 0, .ifnull 5184, .aload 0, .ifnull 5160, .iastore, .aload 0, .ifnonnull 5219, .aload 0, .ifnull 5184, .aload 0, .ifnonnull 5139, .invokeinterface 43576 1, .iastore, .aload 0, .dup, .ifnull 5184, .iconst 1, .iadd, .jsr_w 5184, .return_] := rfl
theorem en221 {a0 a1 : Int} : ent 221 [(3, a0), (0, a1)] = [(3, a0), (0, a1)] := rfl
theorem b222_0 : blk 222 0 = [.aload 0, .ifnull 5184, .ifCond .le 1, .aload 0, .aload 0, .ifnull 5184, .iconst 1, .isub, .iconst 0, .bipush 0, .invokeinterface 55092 4, .goto 1] := rfl
theorem b222_1 : blk 222 1 = [.return_] := rfl
theorem en222 {a0 : Int} : ent 222 [(3, a0)] = [(3, a0)] := rfl
theorem b223_0 : blk 223 0 = [.aload 0, .ifnull 5184, .ifCond .gt 1, .return_] := rfl
theorem b223_1 : blk 223 1 = [.aload 0, .dup, .ifnull 5184, .iconst 1, .isub, .jsr_w 5184, .aload 0, .ifnonnull 5227, .aload 0, .ifnull 5184, .iaload, .istore 1, .iload 1, .iconst 8, .if_icmp .lt 2, .aload 0, .iload 1, .iconst 8, .isub, .aload 0, .ifnonnull 5235, .aload 0, .ifnull 5184, .laload, .invokeinterface 54836 3, .goto 3] := rfl
theorem b223_2 : blk 223 2 = [.aload 0, .iload 1, .jsr_w 5264, .goto 3] := rfl
theorem b223_3 : blk 223 3 = [.return_] := rfl
theorem en223 {a0 : Int} : ent 223 [(3, a0)] = [(3, a0), (9, 0)] := rfl
theorem b224_0 : blk 224 0 = [.aload 0, .aload 0, .ifnonnull 5139, .iconst 0, .invokeinterface 46648 2, .invokeinterface 48384 1, .invokeinterface 47920 2, .ifCond .eq 1, .return_] := rfl
theorem b224_1 : blk 224 1 = [.aload 0, .ifnonnull 5139, .iconst 1, .iconst 1, .aload 0, .ifnonnull 5131, .aload 0, .ifnonnull 5139, .iconst 0, .invokeinterface 46905 2, .l2i, .invokeinterface 40992 2, .i2l, .invokeinterface 51260 4, .return_] := rfl
theorem en224 {a0 : Int} : ent 224 [(3, a0)] = [(3, a0)] := rfl
theorem b225_0 : blk 225 0 = [.aload 0, .aload 0, .iconst 0, .invokeinterface 48688 2, .invokeinterface 47920 2, .ifCond .eq 1, .return_] := rfl
theorem b225_1 : blk 225 1 = [.aload 0, .ifnonnull 5139, .iconst 0, .invokeinterface 46648 2, .iconst 2, .if_icmp .ne 2, .aload 0, .ifnonnull 5139, .iconst 1, .iconst 1, .aload 0, .ifnonnull 5139, .iconst 0, .invokeinterface 46905 2, .invokeinterface 57856 1, .i2l, .invokeinterface 51260 4, .goto 2] := rfl
theorem b225_2 : blk 225 2 = [.return_] := rfl
theorem en225 {a0 : Int} : ent 225 [(3, a0)] = [(3, a0)] := rfl
theorem b226_0 : blk 226 0 = [.lload 0, .invokeinterface 25856 1, .ifCond .eq 1, .iconst 0, .ireturn] := rfl
theorem b226_1 : blk 226 1 = [.lload 0, .invokeinterface 27136 1, .istore 2, .iload 2, .ifCond .lt 2, .bipush 9223372036854775807, .goto 4] := rfl
theorem b226_2 : blk 226 2 = [.iload 2, .iconst (-63), .if_icmp .ge 3, .bipush 0, .goto 4] := rfl
theorem b226_3 : blk 226 3 = [.lload 0, .invokeinterface 26625 1, .iload 2, .ineg, .lushr, .goto 4] := rfl
theorem b226_4 : blk 226 4 = [.lstore 3, .lload 0, .bipush 0, .lcmp, .ifCond .ge 5, .lload 3, .lneg, .bipush (-2147483648), .dup2_x1, .goto 6] := rfl
theorem b226_5 : blk 226 5 = [.lload 3, .bipush 2147483647, .dup2_x2, .goto 6] := rfl
theorem b226_6 : blk 226 6 = [.l2i, .ireturn] := rfl
theorem en226 {a0 : Int} : ent 226 [(1, a0)] = [(1, a0), (9, 0), (9, 0), (9, 0), (9, 0)] := rfl
theorem b227_0 : blk 227 0 = [.aload 0, .aload 0, .iconst 0, .invokeinterface 48688 2, .invokeinterface 47920 2, .ifCond .eq 1, .return_] := rfl
theorem b227_1 : blk 227 1 = [.aload 0, .ifnonnull 5139, .iconst 1, .iconst 2, .aload 0, .iconst 0, .invokeinterface 49713 2, .invokeinterface 51260 4, .return_] := rfl
theorem en227 {a0 : Int} : ent 227 [(3, a0)] = [(3, a0)] := rfl
theorem b228_0 : blk 228 0 = [.aload 0, .aload 0, .iconst 0, .invokeinterface 47664 2, .invokeinterface 47920 2, .ifCond .eq 1, .return_] := rfl
theorem b228_1 : blk 228 1 = [.aload 0, .ifnonnull 5123, .aload 0, .ifnonnull 5139, .iconst 0, .invokeinterface 46905 2, .invokeinterface 35880 2, .ifCond .eq 2, .aload 0, .ifnonnull 5139, .iconst 1, .iconst 3, .aload 0, .ifnonnull 5139, .iconst 0, .invokeinterface 46905 2, .invokeinterface 51260 4, .goto 3] := rfl
theorem b228_2 : blk 228 2 = [.aload 0, .iconst 2, .invokeinterface 48180 2, .goto 3] := rfl
theorem b228_3 : blk 228 3 = [.return_] := rfl
theorem en228 {a0 : Int} : ent 228 [(3, a0)] = [(3, a0)] := rfl
theorem b229_0 : blk 229 0 = [.aload 0, .ifnonnull 5139, .iconst 1, .invokeinterface 46648 2, .istore 1, .aload 0, .aload 0, .iconst 0, .invokeinterface 47664 2, .invokeinterface 47920 2, .ifCond .ne 4, .aload 0, .iload 1, .ifCond .ne 1, .iconst 3, .goto 3] := rfl
theorem b229_1 : blk 229 1 = [.iload 1, .iconst 3, .if_icmp .eq 2, .iconst 4, .goto 3] := rfl
theorem b229_2 : blk 229 2 = [.iconst 0, .goto 3] := rfl
theorem b229_3 : blk 229 3 = [.invokeinterface 47920 2, .ifCond .eq 5, .goto 4] := rfl
theorem b229_4 : blk 229 4 = [.return_] := rfl
theorem b229_5 : blk 229 5 = [.aload 0, .ifnonnull 5139, .iconst 0, .invokeinterface 46905 2, .l2i, .istore 2, .iload 2, .invokeinterface 37376 1, .ifCond .eq 6, .aload 0, .ifnonnull 5139, .iconst 2, .iconst 1, .aload 0, .ifnonnull 5123, .aload 0, .ifnonnull 5139, .iconst 1, .invokeinterface 46905 2, .l2i, .iload 2, .invokeinterface 37672 3, .i2l, .invokeinterface 51260 4, .goto 7] := rfl
theorem b229_6 : blk 229 6 = [.aload 0, .iconst 2, .invokeinterface 48180 2, .goto 7] := rfl
theorem b229_7 : blk 229 7 = [.return_] := rfl
theorem en229 {a0 : Int} : ent 229 [(3, a0)] = [(3, a0), (9, 0), (9, 0)] := rfl
theorem b230_0 : blk 230 0 = [.aload 0, .aload 0, .iconst 1, .invokeinterface 47664 2, .invokeinterface 47920 2, .ifCond .ne 1, .aload 0, .aload 0, .iconst 0, .invokeinterface 47664 2, .invokeinterface 47920 2, .ifCond .eq 2, .goto 1] := rfl
theorem b230_1 : blk 230 1 = [.return_] := rfl
theorem b230_2 : blk 230 2 = [.aload 0, .ifnonnull 5139, .iconst 1, .invokeinterface 46905 2, .l2i, .istore 1, .aload 0, .ifnonnull 5139, .iconst 0, .invokeinterface 46905 2, .l2i, .istore 2, .aload 0, .ifnonnull 5123, .iload 1, .invokeinterface 35368 2, .ifCond .eq 3, .aload 0, .ifnull 5147, .iconst 5, .iload 2, .invokeinterface 17752 3, .ifCond .ne 4, .goto 3] := rfl
theorem b230_3 : blk 230 3 = [.aload 0, .iconst 2, .invokeinterface 48180 2, .return_] := rfl
theorem b230_4 : blk 230 4 = [.aload 0, .ifnonnull 5123, .iload 1, .iload 2, .invokeinterface 40488 3, .istore 3, .aload 0, .ifnonnull 5139, .iconst 2, .iload 3, .ifCond .ge 5, .iconst 0, .goto 6] := rfl
theorem b230_5 : blk 230 5 = [.iconst 4, .goto 6] := rfl
theorem b230_6 : blk 230 6 = [.iload 3, .iconst 0, .dup_x1, .i2l, .invokeinterface 51260 4, .return_] := rfl
theorem en230 {a0 : Int} : ent 230 [(3, a0)] = [(3, a0), (9, 0), (9, 0), (9, 0)] := rfl
theorem b231_0 : blk 231 0 = [.aload 0, .ifnull 5264, .istore 1, .aload 0, .iconst 0, .jsr_w 5264, .goto 1] := rfl
theorem b231_1 : blk 231 1 = [.aload 0, .ifnull 5184, .ifCond .le 8, .aload 0, .ifnull 5184, .iconst 1, .isub, .istore 2, .aload 0, .ifnonnull 5203, .iload 2, .iaload, .iconst 2, .if_icmp .ne 2, .goto 7] := rfl
theorem b231_2 : blk 231 2 = [.aload 0, .aload 0, .ifnonnull 5211, .iload 2, .iaload, .jsr_w 5160, .aload 0, .ifnonnull 5139, .aload 0, .ifnonnull 5219, .iload 2, .iaload, .invokeinterface 42812 2, .aload 0, .ifnonnull 5203, .iload 2, .iaload, .ifCond .ne 3, .aload 0, .iload 1, .iload 2, .invokeinterface 59440 3, .goto 4] := rfl
theorem b231_3 : blk 231 3 = [.iconst (-1), .goto 4] := rfl
theorem b231_4 : blk 231 4 = [.istore 3, .iload 3, .ifCond .lt 5, .aload 0, .ifnonnull 5203, .iload 2, .iconst 1, .iastore, .aload 0, .iload 3, .jsr_w 5152, .goto 6] := rfl
theorem b231_5 : blk 231 5 = [.aload 0, .iload 2, .iload 1, .bipush 0, .invokeinterface 55092 4, .goto 6] := rfl
theorem b231_6 : blk 231 6 = [.return_] := rfl
theorem b231_7 : blk 231 7 = [.aload 0, .dup, .ifnull 5184, .iconst 1, .isub, .jsr_w 5184, .goto 1] := rfl
theorem b231_8 : blk 231 8 = [.aload 0, .iconst (-10), .iload 1, .isub, .bipush 0, .invokeinterface 44852 3, .return_] := rfl
theorem en231 {a0 : Int} : ent 231 [(3, a0)] = [(3, a0), (9, 0), (9, 0), (9, 0)] := rfl
theorem b232_0 : blk 232 0 = [.aload 0, .ifnonnull 5195, .iload 2, .iaload, .istore 3, .iconst 0, .istore 4, .goto 1] := rfl
theorem b232_1 : blk 232 1 = [.iload 4, .iconst 7, .if_icmp .ge 3, .aload 0, .ifnull 5147, .iload 3, .invokeinterface 32088 2, .iconst 22, .if_icmp .ne 3, .aload 0, .ifnull 5147, .iload 3, .iconst 1, .iadd, .invokeinterface 32088 2, .iload 1, .if_icmp .ne 2, .iload 3, .iconst 3, .iadd, .ireturn] := rfl
theorem b232_2 : blk 232 2 = [.aload 0, .ifnull 5147, .iload 3, .iconst 2, .iadd, .invokeinterface 32088 2, .istore 3, .iinc 4 1, .goto 1] := rfl
theorem b232_3 : blk 232 3 = [.iconst (-1), .ireturn] := rfl
theorem en232 {a0 a1 a2 : Int} : ent 232 [(3, a0), (0, a1), (0, a2)] = [(3, a0), (0, a1), (0, a2), (9, 0), (9, 0)] := rfl
theorem b233_0 : blk 233 0 = [.aload 0, .ifnull 5281, .lreturn] := rfl
theorem en233 {a0 : Int} : ent 233 [(3, a0)] = [(3, a0)] := rfl
theorem b234_0 : blk 234 0 = [.aload 0, .ifnull 5256, .ireturn] := rfl
theorem en234 {a0 : Int} : ent 234 [(3, a0)] = [(3, a0)] := rfl
theorem b235_0 : blk 235 0 = [.iload 1, .iconst (-1), .if_icmp .ne 3, .aload 0, .ifnull 80, .iconst 1, .if_icmp .ne 1, .aload 0, .ifnull 89, .goto 2] := rfl
theorem b235_1 : blk 235 1 = [.bipush 0, .goto 2] := rfl
theorem b235_2 : blk 235 2 = [.lreturn] := rfl
theorem b235_3 : blk 235 3 = [.iload 1, .iconst (-2), .if_icmp .ne 6, .aload 0, .ifnull 80, .iconst 2, .if_icmp .ne 4, .aload 0, .ifnull 89, .goto 5] := rfl
theorem b235_4 : blk 235 4 = [.bipush 0, .goto 5] := rfl
theorem b235_5 : blk 235 5 = [.lreturn] := rfl
theorem b235_6 : blk 235 6 = [.iload 1, .iconst (-3), .if_icmp .ne 9, .aload 0, .ifnull 80, .iconst 3, .if_icmp .ne 7, .aload 0, .ifnull 89, .goto 8] := rfl
theorem b235_7 : blk 235 7 = [.bipush 0, .goto 8] := rfl
theorem b235_8 : blk 235 8 = [.lreturn] := rfl
theorem b235_9 : blk 235 9 = [.aload 0, .ifnull 80, .iconst 4, .if_icmp .ge 10, .bipush 0, .lreturn] := rfl
theorem b235_10 : blk 235 10 = [.aload 0, .ifnull 89, .l2i, .istore 2, .iload 1, .iconst (-4), .if_icmp .ne 11, .aload 0, .ifnonnull 19, .iload 2, .invokeinterface 40992 2, .i2l, .lreturn] := rfl
theorem b235_11 : blk 235 11 = [.aload 0, .ifnonnull 19, .iload 2, .iload 1, .invokeinterface 41249 3, .lreturn] := rfl
theorem en235 {a0 a1 : Int} : ent 235 [(3, a0), (0, a1)] = [(3, a0), (0, a1), (9, 0)] := rfl
theorem b236_0 : blk 236 0 = [.aload 0, .ifnull 96, .ireturn] := rfl
theorem en236 {a0 : Int} : ent 236 [(3, a0)] = [(3, a0)] := rfl
theorem b237_0 : blk 237 0 = [.aload 0, .ifnull 67, .iconst 6, .iload 1, .invokeinterface 17752 3, .ifCond .eq 1, .iload 2, .invokeinterface 42240 1, .ifCond .eq 1, .aload 0, .ifnull 67, .ifnonnull 10347, .iload 1, .iaload, .iconst 1, .if_icmp .eq 2, .goto 1] := rfl
theorem b237_1 : blk 237 1 = [.iconst (-1), .ireturn] := rfl
theorem b237_2 : blk 237 2 = [.aload 0, .iconst 0, .jsr_w 128, .iconst 0, .istore 3, .goto 3] := rfl
theorem b237_3 : blk 237 3 = [.iload 3, .aload 0, .ifnonnull 27, .invokeinterface 33832 1, .if_icmp .ge 5, .aload 0, .ifnonnull 27, .iload 3, .invokeinterface 35368 2, .ifCond .eq 4, .aload 0, .iload 3, .aload 0, .ifnonnull 35, .iload 1, .iload 2, .iload 3, .iconst 0, .iconst 0, .iconst 0, .invokeinterface 42544 7, .invokeinterface 60940 3, .goto 4] := rfl
theorem b237_4 : blk 237 4 = [.iinc 3 1, .goto 3] := rfl
theorem b237_5 : blk 237 5 = [.aload 0, .ifnull 128, .ireturn] := rfl
theorem en237 {a0 a1 a2 : Int} : ent 237 [(3, a0), (0, a1), (0, a2)] = [(3, a0), (0, a1), (0, a2), (9, 0)] := rfl
theorem b238_0 : blk 238 0 = [.iload 2, .iconst 1, .if_icmp .ne 1, .aload 0, .ifnonnull 35, .invokeinterface 59697 1, .invokeinterface 24833 1, .goto 2] := rfl
theorem b238_1 : blk 238 1 = [.aload 0, .ifnonnull 35, .invokeinterface 59697 1, .goto 2] := rfl
theorem b238_2 : blk 238 2 = [.lstore 3, .iload 2, .iconst 1, .if_icmp .eq 3, .iload 2, .iconst 2, .if_icmp .eq 3, .iconst 2, .goto 5] := rfl
theorem b238_3 : blk 238 3 = [.lload 3, .invokeinterface 25856 1, .ifCond .eq 4, .iconst 1, .goto 5] := rfl
theorem b238_4 : blk 238 4 = [.iconst 0, .goto 5] := rfl
theorem b238_5 : blk 238 5 = [.istore 5, .aload 0, .ifnull 128, .istore 6, .iload 6, .iconst 24, .if_icmp .lt 6, .return_] := rfl
theorem b238_6 : blk 238 6 = [.iload 6, .ifCond .le 7, .aload 0, .iload 5, .lload 3, .iload 6, .iconst 1, .isub, .invokeinterface 61192 4, .ifCond .eq 7, .aload 0, .ifnonnull 107, .iload 6, .aload 0, .ifnonnull 107, .iload 6, .iconst 1, .isub, .iaload, .iastore, .aload 0, .ifnonnull 115, .iload 6, .aload 0, .ifnonnull 115, .iload 6, .iconst 1, .isub, .iaload, .iastore, .aload 0, .ifnonnull 123, .iload 6, .aload 0, .ifnonnull 123, .iload 6, .iconst 1, .isub, .laload, .lastore, .iinc 6 (-1), .goto 6] := rfl
theorem b238_7 : blk 238 7 = [.aload 0, .ifnonnull 107, .iload 6, .iload 1, .iastore, .aload 0, .ifnonnull 115, .iload 6, .iload 5, .iastore, .aload 0, .ifnonnull 123, .iload 6, .lload 3, .lastore, .aload 0, .dup, .ifnull 128, .iconst 1, .iadd, .jsr_w 128, .return_] := rfl
theorem en238 {a0 a1 a2 : Int} : ent 238 [(3, a0), (0, a1), (0, a2)] = [(3, a0), (0, a1), (0, a2), (9, 0), (9, 0), (9, 0), (9, 0)] := rfl
theorem b239_0 : blk 239 0 = [.iload 1, .aload 0, .ifnonnull 115, .iload 4, .iaload, .if_icmp .eq 3, .iload 1, .aload 0, .ifnonnull 115, .iload 4, .iaload, .if_icmp .ge 1, .iconst 1, .goto 2] := rfl
theorem b239_1 : blk 239 1 = [.iconst 0, .goto 2] := rfl
theorem b239_2 : blk 239 2 = [.freturn] := rfl
theorem b239_3 : blk 239 3 = [.iload 1, .ifCond .ne 4, .lload 2, .aload 0, .ifnonnull 123, .iload 4, .laload, .invokeinterface 52992 2, .ifCond .eq 4, .iconst 1, .goto 5] := rfl
theorem b239_4 : blk 239 4 = [.iconst 0, .goto 5] := rfl
theorem b239_5 : blk 239 5 = [.freturn] := rfl
theorem en239 {a0 a1 a2 a3 : Int} : ent 239 [(3, a0), (0, a1), (1, a2), (0, a3)] = [(3, a0), (0, a1), (1, a2), (9, 0), (0, a3)] := rfl
theorem b240_0 : blk 240 0 = [.iload 1, .ifCond .lt 1, .iload 1, .aload 0, .ifnull 128, .if_icmp .ge 1, .aload 0, .ifnonnull 107, .iload 1, .iaload, .goto 2] := rfl
theorem b240_1 : blk 240 1 = [.iconst (-1), .goto 2] := rfl
theorem b240_2 : blk 240 2 = [.ireturn] := rfl
theorem en240 {a0 a1 : Int} : ent 240 [(3, a0), (0, a1)] = [(3, a0), (0, a1)] := rfl
theorem b241_0 : blk 241 0 = [.iload 1, .iconst 1, .if_icmp .lt 1, .iload 1, .iconst 4, .if_icmp .le 2, .goto 1] := rfl
theorem b241_1 : blk 241 1 = [.iconst (-1), .ireturn] := rfl
theorem b241_2 : blk 241 2 = [.aload 0, .ifnonnull 43, .invokeinterface 62016 1, .istore 2, .aload 0, .ifnonnull 43, .iload 1, .invokeinterface 62276 2, .aload 0, .ifnonnull 51, .invokeinterface 4684 1, .iload 2, .ireturn] := rfl
theorem en241 {a0 a1 : Int} : ent 241 [(3, a0), (0, a1)] = [(3, a0), (0, a1), (9, 0)] := rfl
theorem b242_0 : blk 242 0 = [.aload 0, .ifnull 7176, .ireturn] := rfl
theorem en242 {a0 : Int} : ent 242 [(3, a0)] = [(3, a0)] := rfl
theorem b243_0 : blk 243 0 = [.aload 0, .iload 1, .jsr_w 7176, .aload 0, .invokeinterface 3396 1, .return_] := rfl
theorem en243 {a0 a1 : Int} : ent 243 [(3, a0), (0, a1)] = [(3, a0), (0, a1)] := rfl
theorem b244_0 : blk 244 0 = [.aload 0, .iload 1, .iload 2, .iload 3, .invokeinterface 62728 4, .ifCond .ne 1, .iconst (-1), .ireturn] := rfl
theorem b244_1 : blk 244 1 = [.aload 0, .ifnonnull 43, .iload 1, .iload 2, .iload 3, .iconst 1, .if_icmp .ne 2, .iconst 1, .goto 3] := rfl
theorem b244_2 : blk 244 2 = [.iconst 0, .goto 3] := rfl
theorem b244_3 : blk 244 3 = [.invokeinterface 63556 4, .iconst 0, .ireturn] := rfl
theorem en244 {a0 a1 a2 a3 : Int} : ent 244 [(3, a0), (0, a1), (0, a2), (0, a3)] = [(3, a0), (0, a1), (0, a2), (0, a3)] := rfl
theorem b245_0 : blk 245 0 = [.aload 0, .ifnull 67, .iconst 2, .iload 1, .invokeinterface 17752 3, .ifCond .eq 2, .aload 0, .ifnonnull 43, .iload 2, .invokeinterface 63040 2, .ifCond .eq 2, .iload 3, .ifCond .eq 1, .iload 3, .iconst 1, .if_icmp .ne 2, .goto 1] := rfl
theorem b245_1 : blk 245 1 = [.iconst 1, .goto 3] := rfl
theorem b245_2 : blk 245 2 = [.iconst 0, .goto 3] := rfl
theorem b245_3 : blk 245 3 = [.freturn] := rfl
theorem en245 {a0 a1 a2 a3 : Int} : ent 245 [(3, a0), (0, a1), (0, a2), (0, a3)] = [(3, a0), (0, a1), (0, a2), (0, a3)] := rfl
theorem b246_0 : blk 246 0 = [.iload 1, .ifCond .lt 1, .iload 1, .aload 0, .invokeinterface 63296 1, .if_icmp .ge 1, .iconst 1, .goto 2] := rfl
theorem b246_1 : blk 246 1 = [.iconst 0, .goto 2] := rfl
theorem b246_2 : blk 246 2 = [.freturn] := rfl
theorem en246 {a0 a1 : Int} : ent 246 [(3, a0), (0, a1)] = [(3, a0), (0, a1)] := rfl
theorem b247_0 : blk 247 0 = [.iconst 5, .aload 0, .ifnull 7176, .imul, .ireturn] := rfl
theorem en247 {a0 : Int} : ent 247 [(3, a0)] = [(3, a0)] := rfl
theorem b248_0 : blk 248 0 = [.aload 0, .invokeinterface 3908 1, .iload 1, .ifCond .lt 1, .iload 1, .iconst 10, .if_icmp .lt 2, .goto 1] := rfl
theorem b248_1 : blk 248 1 = [.return_] := rfl
theorem b248_2 : blk 248 2 = [.aload 0, .ifnonnull 7187, .iload 1, .iload 3, .ifCond .eq 3, .aload 0, .ifnonnull 7187, .iload 1, .iaload, .iconst 1, .iload 2, .ishl, .ior, .goto 4] := rfl
theorem b248_3 : blk 248 3 = [.aload 0, .ifnonnull 7187, .iload 1, .iaload, .iconst 1, .iload 2, .ishl, .iconst (-1), .ixor, .iand, .goto 4] := rfl
theorem b248_4 : blk 248 4 = [.iastore, .return_] := rfl
theorem en248 {a0 a1 a2 a3 : Int} : ent 248 [(3, a0), (0, a1), (0, a2), (0, a3)] = [(3, a0), (0, a1), (0, a2), (0, a3)] := rfl
theorem b249_0 : blk 249 0 = [.aload 0, .ifnull 67, .iconst 4, .iload 1, .invokeinterface 17752 3, .ifCond .eq 1, .aload 0, .ifnonnull 43, .iload 2, .invokeinterface 63040 2, .ifCond .eq 1, .iload 3, .invokeinterface 34816 1, .ifCond .ne 2, .goto 1] := rfl
theorem b249_1 : blk 249 1 = [.iconst (-100), .ireturn] := rfl
theorem b249_2 : blk 249 2 = [.aload 0, .ifnonnull 43, .iload 1, .iload 2, .iload 3, .invokeinterface 64064 4, .ireturn] := rfl
theorem en249 {a0 a1 a2 a3 : Int} : ent 249 [(3, a0), (0, a1), (0, a2), (0, a3)] = [(3, a0), (0, a1), (0, a2), (0, a3)] := rfl
theorem b250_0 : blk 250 0 = [.aload 0, .iload 1, .iload 2, .invokeinterface 64320 3, .istore 4, .aload 0, .invokeinterface 3908 1, .iload 1, .iconst 20, .imul, .iload 2, .iadd, .istore 5, .iload 5, .ifCond .lt 1, .iload 5, .aload 0, .ifnonnull 7195, .arraylength, .if_icmp .ge 1, .aload 0, .ifnonnull 7195, .iload 5, .iload 3, .iastore, .goto 1] := rfl
theorem b250_1 : blk 250 1 = [.iload 4, .ireturn] := rfl
theorem en250 {a0 a1 a2 a3 : Int} : ent 250 [(3, a0), (0, a1), (0, a2), (0, a3)] = [(3, a0), (0, a1), (0, a2), (0, a3), (9, 0), (9, 0)] := rfl
theorem b251_0 : blk 251 0 = [.iload 1, .iconst 20, .imul, .iload 2, .iadd, .istore 3, .iload 3, .ifCond .lt 1, .iload 3, .aload 0, .ifnonnull 7195, .arraylength, .if_icmp .ge 1, .aload 0, .ifnonnull 7195, .iload 3, .iaload, .goto 2] := rfl
theorem b251_1 : blk 251 1 = [.iconst 0, .goto 2] := rfl
theorem b251_2 : blk 251 2 = [.ireturn] := rfl
theorem en251 {a0 a1 a2 : Int} : ent 251 [(3, a0), (0, a1), (0, a2)] = [(3, a0), (0, a1), (0, a2), (9, 0)] := rfl
theorem b252_0 : blk 252 0 = [.iload 1, .iconst 1, .if_icmp .lt 1, .iload 1, .iconst 10000, .if_icmp .le 2, .goto 1] := rfl
theorem b252_1 : blk 252 1 = [.iconst (-1), .ireturn] := rfl
theorem b252_2 : blk 252 2 = [.aload 0, .ifnonnull 51, .invokeinterface 4940 1, .aload 0, .ifnonnull 43, .iload 1, .invokeinterface 64832 2, .ireturn] := rfl
theorem en252 {a0 a1 : Int} : ent 252 [(3, a0), (0, a1)] = [(3, a0), (0, a1)] := rfl
theorem b253_0 : blk 253 0 = [.aload 0, .invokeinterface 65092 1, .aload 0, .invokeinterface 63296 1, .aload 0, .ifnull 7171, .iconst 1, .invokeinterface 14168 2, .imul, .istore 2, .iconst 0, .istore 3, .aload 0, .ifnull 7171, .ifnull 10328, .ifCond .ne 1, .aload 0, .invokeinterface 65604 1, .goto 1] := rfl
theorem b253_1 : blk 253 1 = [.iconst 0, .istore 4, .iconst 0, .istore 5, .goto 2] := rfl
theorem b253_2 : blk 253 2 = [.iload 5, .iconst 20037, .if_icmp .ge 6, .iload 3, .ifCond .lt 6, .iload 3, .aload 0, .ifnull 7171, .ifnull 10328, .if_icmp .ge 6, .iload 4, .ifCond .ne 6, .aload 0, .ifnonnull 7211, .iload 3, .iaload, .iload 2, .if_icmp .lt 3, .iinc 3 (-1), .iload 3, .ifCond .lt 5, .aload 0, .iload 3, .invokeinterface 65860 2, .goto 5] := rfl
theorem b253_3 : blk 253 3 = [.aload 0, .ifnull 7288, .iload 1, .if_icmp .lt 4, .iconst 1, .istore 4, .goto 5] := rfl
theorem b253_4 : blk 253 4 = [.aload 0, .iload 3, .invokeinterface 67136 2, .istore 3, .goto 5] := rfl
theorem b253_5 : blk 253 5 = [.iinc 5 1, .goto 2] := rfl
theorem b253_6 : blk 253 6 = [.iload 4, .ifCond .eq 7, .iconst 1, .goto 8] := rfl
theorem b253_7 : blk 253 7 = [.iconst 0, .goto 8] := rfl
theorem b253_8 : blk 253 8 = [.aload 0, .ifnull 7276, .ifCond .eq 9, .iconst 0, .goto 10] := rfl
theorem b253_9 : blk 253 9 = [.iconst 2, .goto 10] := rfl
theorem b253_10 : blk 253 10 = [.iadd, .ireturn] := rfl
theorem en253 {a0 a1 : Int} : ent 253 [(3, a0), (0, a1)] = [(3, a0), (0, a1), (9, 0), (9, 0), (9, 0), (9, 0)] := rfl
theorem b254_0 : blk 254 0 = [.aload 0, .invokeinterface 3908 1, .aload 0, .iconst 1, .jsr_w 7284, .aload 0, .iconst 0, .jsr_w 7288, .aload 0, .iconst 0, .jsr_w 7248, .aload 0, .ifnonnull 7211, .iconst 0, .iconst 0, .iastore, .aload 0, .ifnonnull 7219, .iconst 0, .invokeinterface 3588 2, .aload 0, .ifnonnull 7227, .iconst 0, .invokeinterface 3588 2, .aload 0, .ifnonnull 7235, .iconst 0, .invokeinterface 3588 2, .aload 0, .ifnonnull 7243, .iconst 0, .invokeinterface 3588 2, .aload 0, .ifnonnull 7203, .aload 0, .ifnull 7171, .ifnull 10328, .iconst 0, .iastore, .aload 0, .ifnull 7171, .ifnull 10328, .iconst 1, .isub, .istore 1, .goto 1] := rfl
theorem b254_1 : blk 254 1 = [.iload 1, .ifCond .lt 2, .aload 0, .ifnonnull 7203, .iload 1, .aload 0, .ifnonnull 7203, .iload 1, .iconst 1, .iadd, .iaload, .aload 0, .aload 0, .ifnull 7171, .ifnonnull 10323, .iload 1, .iaload, .invokeinterface 65344 2, .iadd, .iastore, .iinc 1 (-1), .goto 1] := rfl
theorem b254_2 : blk 254 2 = [.return_] := rfl
theorem en254 {a0 : Int} : ent 254 [(3, a0)] = [(3, a0), (9, 0)] := rfl
theorem b255_0 : blk 255 0 = [.aload 0, .iload 1, .iconst 0, .invokeinterface 64320 3, .istore 2, .iconst 1, .istore 3, .goto 1] := rfl
theorem b255_1 : blk 255 1 = [.iload 3, .aload 0, .invokeinterface 63296 1, .if_icmp .ge 2, .iload 2, .aload 0, .iload 1, .iload 3, .invokeinterface 64320 3, .dup_x2, .istore 2, .iinc 3 1, .goto 1] := rfl
theorem b255_2 : blk 255 2 = [.iload 2, .ireturn] := rfl
theorem en255 {a0 a1 : Int} : ent 255 [(3, a0), (0, a1)] = [(3, a0), (0, a1), (9, 0), (9, 0)] := rfl
theorem b256_0 : blk 256 0 = [.aload 0, .iconst 1, .jsr_w 7276, .aload 0, .aload 0, .ifnull 7248, .jsr_w 7264, .iconst 0, .istore 1, .goto 1] := rfl
theorem b256_1 : blk 256 1 = [.iload 1, .aload 0, .ifnull 7171, .ifnull 10328, .if_icmp .ge 2, .aload 0, .ifnonnull 7259, .iload 1, .aload 0, .ifnonnull 7211, .iload 1, .iaload, .iconst 1, .isub, .iastore, .iinc 1 1, .goto 1] := rfl
theorem b256_2 : blk 256 2 = [.return_] := rfl
theorem en256 {a0 : Int} : ent 256 [(3, a0)] = [(3, a0), (9, 0)] := rfl
theorem b257_0 : blk 257 0 = [.aload 0, .iload 1, .aload 0, .ifnonnull 7211, .iload 1, .iaload, .iconst 1, .isub, .iconst 0, .invokeinterface 66116 4, .return_] := rfl
theorem en257 {a0 a1 : Int} : ent 257 [(3, a0), (0, a1)] = [(3, a0), (0, a1)] := rfl
theorem b258_0 : blk 258 0 = [.aload 0, .ifnull 7171, .ifnonnull 10323, .iload 1, .iaload, .istore 4, .aload 0, .iload 2, .invokeinterface 66368 2, .istore 5, .iconst 1, .iload 5, .ishl, .istore 6, .aload 0, .iload 4, .iload 5, .invokeinterface 64320 3, .istore 7, .aload 0, .dup, .ifnull 7248, .iload 3, .ifCond .eq 1, .iload 7, .goto 2] := rfl
theorem b258_1 : blk 258 1 = [.iload 7, .ineg, .goto 2] := rfl
theorem b258_2 : blk 258 2 = [.iadd, .jsr_w 7248, .aload 0, .ifnonnull 7219, .aload 0, .iload 2, .invokeinterface 66624 2, .dup2, .iaload, .iload 6, .ixor, .iastore, .aload 0, .ifnonnull 7227, .aload 0, .ifnull 7171, .ifnonnull 10299, .iload 4, .iaload, .dup2, .iaload, .iload 6, .ixor, .iastore, .aload 0, .ifnonnull 7235, .aload 0, .ifnull 7171, .ifnonnull 10307, .iload 4, .iaload, .dup2, .iaload, .iload 6, .ixor, .iastore, .aload 0, .ifnonnull 7243, .iload 4, .dup2, .iaload, .iconst 1, .aload 0, .iload 5, .invokeinterface 66880 2, .ishl, .ixor, .iastore, .return_] := rfl
theorem en258 {a0 a1 a2 a3 : Int} : ent 258 [(3, a0), (0, a1), (0, a2), (0, a3)] = [(3, a0), (0, a1), (0, a2), (0, a3), (9, 0), (9, 0), (9, 0), (9, 0)] := rfl
theorem b259_0 : blk 259 0 = [.aload 0, .ifnull 7171, .iconst 1, .invokeinterface 14168 2, .istore 2, .iload 2, .ifCond .le 1, .iload 1, .iload 2, .idiv, .goto 2] := rfl
theorem b259_1 : blk 259 1 = [.iconst 0, .goto 2] := rfl
theorem b259_2 : blk 259 2 = [.ireturn] := rfl
theorem en259 {a0 a1 : Int} : ent 259 [(3, a0), (0, a1)] = [(3, a0), (0, a1), (9, 0)] := rfl
theorem b260_0 : blk 260 0 = [.aload 0, .ifnull 7171, .iconst 1, .invokeinterface 14168 2, .istore 2, .iload 2, .ifCond .le 1, .iload 1, .iload 2, .irem, .goto 2] := rfl
theorem b260_1 : blk 260 1 = [.iconst 0, .goto 2] := rfl
theorem b260_2 : blk 260 2 = [.ireturn] := rfl
theorem en260 {a0 a1 : Int} : ent 260 [(3, a0), (0, a1)] = [(3, a0), (0, a1), (9, 0)] := rfl
theorem b261_0 : blk 261 0 = [.aload 0, .ifnull 7176, .ifCond .le 1, .iload 1, .aload 0, .ifnull 7176, .idiv, .goto 2] := rfl
theorem b261_1 : blk 261 1 = [.iconst 0, .goto 2] := rfl
theorem b261_2 : blk 261 2 = [.ireturn] := rfl
theorem en261 {a0 a1 : Int} : ent 261 [(3, a0), (0, a1)] = [(3, a0), (0, a1)] := rfl
theorem b262_0 : blk 262 0 = [.aload 0, .ifnonnull 7211, .iload 1, .iaload, .istore 2, .aload 0, .ifnonnull 7211, .iload 1, .dup2, .iaload, .iconst 1, .iadd, .iastore, .aload 0, .dup, .ifnull 7288, .iconst 1, .iadd, .jsr_w 7288, .aload 0, .aload 0, .ifnull 7171, .ifnonnull 10323, .iload 1, .iaload, .aload 0, .iload 2, .invokeinterface 66368 2, .invokeinterface 64320 3, .istore 3, .aload 0, .iload 1, .iload 2, .invokeinterface 67392 3, .ifCond .eq 1, .aload 0, .ifnull 7276, .ifCond .eq 2, .aload 0, .ifnull 7248, .iload 3, .iadd, .aload 0, .ifnonnull 7203, .iload 1, .iconst 1, .iadd, .iaload, .iadd, .aload 0, .ifnull 7264, .if_icmp .lt 2, .goto 1] := rfl
theorem b262_1 : blk 262 1 = [.iload 1, .ireturn] := rfl
theorem b262_2 : blk 262 2 = [.aload 0, .iload 1, .iload 2, .iconst 1, .invokeinterface 66116 4, .iload 1, .iconst 1, .iadd, .aload 0, .ifnull 7171, .ifnull 10328, .if_icmp .ge 3, .aload 0, .ifnonnull 7211, .iload 1, .iconst 1, .iadd, .iconst 0, .iastore, .iload 1, .iconst 1, .iadd, .ireturn] := rfl
theorem b262_3 : blk 262 3 = [.aload 0, .invokeinterface 65604 1, .aload 0, .iload 1, .invokeinterface 65860 2, .iload 1, .ireturn] := rfl
theorem en262 {a0 a1 : Int} : ent 262 [(3, a0), (0, a1)] = [(3, a0), (0, a1), (9, 0), (9, 0)] := rfl
theorem b263_0 : blk 263 0 = [.aload 0, .ifnull 7171, .ifnonnull 10323, .iload 1, .iaload, .istore 3, .aload 0, .iload 2, .invokeinterface 66624 2, .istore 4, .aload 0, .iload 2, .invokeinterface 66368 2, .istore 5, .aload 0, .ifnull 7171, .ifnonnull 10299, .iload 3, .iaload, .istore 6, .aload 0, .ifnull 7171, .ifnonnull 10307, .iload 3, .iaload, .istore 7, .aload 0, .ifnonnull 7219, .iload 4, .iaload, .aload 0, .ifnonnull 7227, .iload 6, .iaload, .ior, .aload 0, .ifnonnull 7235, .iload 7, .iaload, .ior, .aload 0, .ifnonnull 7187, .iload 7, .iaload, .ior, .istore 8, .aload 0, .ifnull 7171, .ifnonnull 10259, .iload 4, .iaload, .aload 0, .ifnull 7171, .ifnonnull 10283, .iload 6, .iaload, .if_icmp .lt 1, .iload 8, .iload 5, .ishr, .iconst 1, .iand, .ifCond .ne 1, .aload 0, .ifnonnull 7243, .iload 3, .iaload, .aload 0, .iload 5, .invokeinterface 66880 2, .ishr, .iconst 1, .iand, .ifCond .ne 1, .iconst 1, .goto 2] := rfl
theorem b263_1 : blk 263 1 = [.iconst 0, .goto 2] := rfl
theorem b263_2 : blk 263 2 = [.freturn] := rfl
theorem en263 {a0 a1 a2 : Int} : ent 263 [(3, a0), (0, a1), (0, a2)] = [(3, a0), (0, a1), (0, a2), (9, 0), (9, 0), (9, 0), (9, 0), (9, 0), (9, 0)] := rfl
theorem b264_0 : blk 264 0 = [.iload 1, .ifCond .lt 1, .iload 1, .iconst 1, .if_icmp .le 2, .goto 1] := rfl
theorem b264_1 : blk 264 1 = [.iconst (-1), .ireturn] := rfl
theorem b264_2 : blk 264 2 = [.iload 1, .ifCond .ne 5, .aload 0, .ifnonnull 43, .invokeinterface 67904 1, .ifCond .eq 3, .aload 0, .ifnonnull 43, .invokeinterface 68160 1, .goto 4] := rfl
theorem b264_3 : blk 264 3 = [.iconst (-100000), .goto 4] := rfl
theorem b264_4 : blk 264 4 = [.ireturn] := rfl
theorem b264_5 : blk 264 5 = [.aload 0, .ifnonnull 43, .invokeinterface 68416 1, .ifCond .eq 6, .aload 0, .ifnonnull 43, .invokeinterface 68672 1, .goto 7] := rfl
theorem b264_6 : blk 264 6 = [.iconst (-100000), .goto 7] := rfl
theorem b264_7 : blk 264 7 = [.ireturn] := rfl
theorem en264 {a0 a1 : Int} : ent 264 [(3, a0), (0, a1)] = [(3, a0), (0, a1)] := rfl
theorem b265_0 : blk 265 0 = [.aload 0, .ifnull 7276, .freturn] := rfl
theorem en265 {a0 : Int} : ent 265 [(3, a0)] = [(3, a0)] := rfl
theorem b266_0 : blk 266 0 = [.aload 0, .ifnull 7264, .ireturn] := rfl
theorem en266 {a0 : Int} : ent 266 [(3, a0)] = [(3, a0)] := rfl
theorem b267_0 : blk 267 0 = [.aload 0, .ifnull 7284, .freturn] := rfl
theorem en267 {a0 : Int} : ent 267 [(3, a0)] = [(3, a0)] := rfl
theorem b268_0 : blk 268 0 = [.aload 0, .ifnull 7288, .ireturn] := rfl
theorem en268 {a0 : Int} : ent 268 [(3, a0)] = [(3, a0)] := rfl
theorem b269_0 : blk 269 0 = [.iload 1, .ifCond .lt 1, .iload 1, .aload 0, .ifnull 67, .ifnull 10328, .if_icmp .ge 1, .iload 2, .ifCond .lt 1, .iload 2, .iconst 2, .if_icmp .le 2, .goto 1] := rfl
theorem b269_1 : blk 269 1 = [.iconst (-1), .ireturn] := rfl
theorem b269_2 : blk 269 2 = [.aload 0, .ifnonnull 43, .invokeinterface 67904 1, .ifCond .ne 3, .iconst (-2), .ireturn] := rfl
theorem b269_3 : blk 269 3 = [.iload 2, .ifCond .ne 4, .aload 0, .ifnull 67, .ifnonnull 10323, .iload 1, .iaload, .goto 6] := rfl
theorem b269_4 : blk 269 4 = [.iload 2, .iconst 1, .if_icmp .ne 5, .aload 0, .ifnonnull 43, .iload 1, .invokeinterface 69184 2, .goto 6] := rfl
theorem b269_5 : blk 269 5 = [.aload 0, .ifnonnull 43, .iload 1, .invokeinterface 69440 2, .goto 6] := rfl
theorem b269_6 : blk 269 6 = [.ireturn] := rfl
theorem en269 {a0 a1 a2 : Int} : ent 269 [(3, a0), (0, a1), (0, a2)] = [(3, a0), (0, a1), (0, a2)] := rfl
theorem b270_0 : blk 270 0 = [.iload 1, .ifCond .lt 1, .iload 1, .aload 0, .ifnonnull 7259, .arraylength, .if_icmp .ge 1, .aload 0, .aload 0, .ifnonnull 7259, .iload 1, .iaload, .invokeinterface 66368 2, .goto 2] := rfl
theorem b270_1 : blk 270 1 = [.iconst (-1), .goto 2] := rfl
theorem b270_2 : blk 270 2 = [.ireturn] := rfl
theorem en270 {a0 a1 : Int} : ent 270 [(3, a0), (0, a1)] = [(3, a0), (0, a1)] := rfl
theorem b271_0 : blk 271 0 = [.iload 1, .ifCond .lt 1, .iload 1, .aload 0, .ifnonnull 7259, .arraylength, .if_icmp .ge 1, .aload 0, .aload 0, .ifnonnull 7259, .iload 1, .iaload, .invokeinterface 66624 2, .goto 2] := rfl
theorem b271_1 : blk 271 1 = [.iconst (-1), .goto 2] := rfl
theorem b271_2 : blk 271 2 = [.ireturn] := rfl
theorem en271 {a0 a1 : Int} : ent 271 [(3, a0), (0, a1)] = [(3, a0), (0, a1)] := rfl
theorem b272_0 : blk 272 0 = [.aload 0, .iload 1, .iload 2, .invokeinterface 38920 3, .ifCond .ne 1, .iconst (-1), .ireturn] := rfl
theorem b272_1 : blk 272 1 = [.aload 0, .ifnonnull 27, .iload 1, .invokeinterface 35368 2, .ifCond .eq 2, .aload 0, .ifnonnull 59, .iload 1, .iload 2, .invokeinterface 69968 3, .ifCond .lt 3, .goto 2] := rfl
theorem b272_2 : blk 272 2 = [.iconst (-2), .ireturn] := rfl
theorem b272_3 : blk 272 3 = [.aload 0, .ifnonnull 59, .iload 1, .iload 2, .invokeinterface 70480 3, .ireturn] := rfl
theorem en272 {a0 a1 a2 : Int} : ent 272 [(3, a0), (0, a1), (0, a2)] = [(3, a0), (0, a1), (0, a2)] := rfl
theorem b273_0 : blk 273 0 = [.aload 0, .ifnonnull 9219, .iload 1, .i2l, .invokeinterface 35880 2, .ifCond .ne 1, .iconst (-1), .ireturn] := rfl
theorem b273_1 : blk 273 1 = [.iconst 0, .istore 3, .goto 2] := rfl
theorem b273_2 : blk 273 2 = [.iload 3, .aload 0, .ifnonnull 9243, .iload 1, .iaload, .if_icmp .ge 4, .aload 0, .iload 1, .iload 3, .invokeinterface 70224 3, .iload 2, .if_icmp .ne 3, .iload 3, .ireturn] := rfl
theorem b273_3 : blk 273 3 = [.iinc 3 1, .goto 2] := rfl
theorem b273_4 : blk 273 4 = [.iconst (-1), .ireturn] := rfl
theorem en273 {a0 a1 a2 : Int} : ent 273 [(3, a0), (0, a1), (0, a2)] = [(3, a0), (0, a1), (0, a2), (9, 0)] := rfl
theorem b274_0 : blk 274 0 = [.iload 1, .ifCond .lt 1, .iload 1, .iconst 24, .if_icmp .ge 1, .iload 2, .ifCond .lt 1, .iload 2, .aload 0, .ifnonnull 9243, .iload 1, .iaload, .if_icmp .ge 1, .aload 0, .ifnonnull 9235, .iload 1, .iconst 8, .imul, .iload 2, .iadd, .iaload, .goto 2] := rfl
theorem b274_1 : blk 274 1 = [.iconst (-1), .goto 2] := rfl
theorem b274_2 : blk 274 2 = [.ireturn] := rfl
theorem en274 {a0 a1 a2 : Int} : ent 274 [(3, a0), (0, a1), (0, a2)] = [(3, a0), (0, a1), (0, a2)] := rfl
theorem b275_0 : blk 275 0 = [.aload 0, .ifnonnull 9219, .iload 1, .i2l, .invokeinterface 35880 2, .ifCond .eq 1, .aload 0, .ifnonnull 9243, .iload 1, .iaload, .iconst 8, .if_icmp .lt 2, .goto 1] := rfl
theorem b275_1 : blk 275 1 = [.iconst 0, .ireturn] := rfl
theorem b275_2 : blk 275 2 = [.aload 0, .ifnonnull 9235, .iload 1, .iconst 8, .imul, .aload 0, .ifnonnull 9243, .iload 1, .iaload, .iadd, .iload 2, .iastore, .aload 0, .ifnonnull 9243, .iload 1, .dup2, .iaload, .iconst 1, .iadd, .iastore, .aload 0, .ifnonnull 9243, .iload 1, .iaload, .ireturn] := rfl
theorem en275 {a0 a1 a2 : Int} : ent 275 [(3, a0), (0, a1), (0, a2)] = [(3, a0), (0, a1), (0, a2)] := rfl
theorem b276_0 : blk 276 0 = [.aload 0, .ifnonnull 59, .iload 1, .invokeinterface 70992 2, .ireturn] := rfl
theorem en276 {a0 a1 : Int} : ent 276 [(3, a0), (0, a1)] = [(3, a0), (0, a1)] := rfl
theorem b277_0 : blk 277 0 = [.iconst 0, .istore 2, .iconst 0, .istore 3, .goto 1] := rfl
theorem b277_1 : blk 277 1 = [.iload 3, .aload 0, .ifnonnull 9219, .invokeinterface 33832 1, .if_icmp .ge 5, .aload 0, .ifnonnull 9219, .iload 3, .invokeinterface 35368 2, .ifCond .ne 2, .goto 4] := rfl
theorem b277_2 : blk 277 2 = [.iinc 2 1, .iconst 0, .istore 4, .goto 3] := rfl
theorem b277_3 : blk 277 3 = [.iload 4, .iconst 8, .if_icmp .ge 4, .aload 0, .ifnonnull 9251, .iload 3, .iconst 8, .imul, .iload 4, .iadd, .iload 1, .iload 3, .iload 4, .invokeinterface 71168 3, .iastore, .iinc 4 1, .goto 3] := rfl
theorem b277_4 : blk 277 4 = [.iinc 3 1, .goto 1] := rfl
theorem b277_5 : blk 277 5 = [.iload 2, .ireturn] := rfl
theorem en277 {a0 a1 : Int} : ent 277 [(3, a0), (0, a1)] = [(3, a0), (0, a1), (9, 0), (9, 0), (9, 0)] := rfl
theorem b278_0 : blk 278 0 = [.iload 0, .iconst 16, .iload 1, .imul, .iload 2, .iadd, .iconst (-1640531535), .imul, .ixor, .istore 3, .iload 3, .iload 3, .iconst 15, .iushr, .ixor, .iconst (-2048144777), .imul, .istore 3, .iload 3, .iload 3, .iconst 13, .iushr, .ixor, .ireturn] := rfl
theorem en278 {a0 a1 a2 : Int} : ent 278 [(0, a0), (0, a1), (0, a2)] = [(0, a0), (0, a1), (0, a2), (9, 0)] := rfl
theorem b279_0 : blk 279 0 = [.aload 0, .iload 1, .iload 2, .invokeinterface 38920 3, .ifCond .eq 1, .aload 0, .ifnonnull 59, .iload 1, .iload 2, .invokeinterface 71760 3, .goto 2] := rfl
theorem b279_1 : blk 279 1 = [.iconst 0, .goto 2] := rfl
theorem b279_2 : blk 279 2 = [.ireturn] := rfl
theorem en279 {a0 a1 a2 : Int} : ent 279 [(3, a0), (0, a1), (0, a2)] = [(3, a0), (0, a1), (0, a2)] := rfl
theorem b280_0 : blk 280 0 = [.iload 1, .ifCond .lt 1, .iload 1, .iconst 24, .if_icmp .ge 1, .iload 2, .invokeinterface 71936 1, .ifCond .eq 1, .aload 0, .ifnonnull 9251, .iload 1, .iconst 8, .imul, .iload 2, .iadd, .iaload, .goto 2] := rfl
theorem b280_1 : blk 280 1 = [.iconst 0, .goto 2] := rfl
theorem b280_2 : blk 280 2 = [.ireturn] := rfl
theorem en280 {a0 a1 a2 : Int} : ent 280 [(3, a0), (0, a1), (0, a2)] = [(3, a0), (0, a1), (0, a2)] := rfl
theorem b281_0 : blk 281 0 = [.iload 0, .ifCond .lt 1, .iload 0, .iconst 8, .if_icmp .ge 1, .iconst 1, .goto 2] := rfl
theorem b281_1 : blk 281 1 = [.iconst 0, .goto 2] := rfl
theorem b281_2 : blk 281 2 = [.freturn] := rfl
theorem en281 {a0 : Int} : ent 281 [(0, a0)] = [(0, a0)] := rfl
theorem b282_0 : blk 282 0 = [.iload 1, .ifCond .lt 1, .iload 1, .iconst 1, .if_icmp .le 2, .goto 1] := rfl
theorem b282_1 : blk 282 1 = [.iconst (-1), .ireturn] := rfl
theorem b282_2 : blk 282 2 = [.iload 1, .ifCond .ne 3, .aload 0, .ifnonnull 59, .invokeinterface 72528 1, .goto 4] := rfl
theorem b282_3 : blk 282 3 = [.aload 0, .ifnonnull 59, .invokeinterface 75088 1, .goto 4] := rfl
theorem b282_4 : blk 282 4 = [.ireturn] := rfl
theorem en282 {a0 a1 : Int} : ent 282 [(3, a0), (0, a1)] = [(3, a0), (0, a1)] := rfl
theorem b283_0 : blk 283 0 = [.aload 0, .invokeinterface 72788 1, .iconst 0, .istore 1, .goto 1] := rfl
theorem b283_1 : blk 283 1 = [.iload 1, .iconst 192, .if_icmp .ge 3, .aload 0, .invokeinterface 73296 1, .istore 2, .iload 2, .ifCond .ge 2, .goto 3] := rfl
theorem b283_2 : blk 283 2 = [.aload 0, .iload 2, .aload 0, .iload 2, .aload 0, .ifnonnull 9275, .iload 2, .iaload, .invokeinterface 70224 3, .invokeinterface 73556 3, .aload 0, .ifnonnull 9275, .iload 2, .dup2, .iaload, .iconst 1, .iadd, .iastore, .iinc 1 1, .goto 1] := rfl
theorem b283_3 : blk 283 3 = [.aload 0, .invokeinterface 74832 1, .ireturn] := rfl
theorem en283 {a0 : Int} : ent 283 [(3, a0)] = [(3, a0), (9, 0), (9, 0)] := rfl
theorem b284_0 : blk 284 0 = [.aload 0, .iconst 1, .jsr_w 9268, .aload 0, .ifnonnull 9259, .iconst (-9), .invokeinterface 3588 2, .aload 0, .ifnonnull 9275, .iconst 0, .invokeinterface 3588 2, .aload 0, .invokeinterface 73044 1, .return_] := rfl
theorem en284 {a0 : Int} : ent 284 [(3, a0)] = [(3, a0)] := rfl
theorem b285_0 : blk 285 0 = [.iconst 0, .istore 1, .goto 1] := rfl
theorem b285_1 : blk 285 1 = [.iload 1, .aload 0, .ifnull 9227, .iconst 5, .invokeinterface 14168 2, .if_icmp .ge 2, .aload 0, .ifnonnull 9283, .iload 1, .aload 0, .ifnull 9227, .ifnonnull 10315, .iload 1, .iaload, .iastore, .iinc 1 1, .goto 1] := rfl
theorem b285_2 : blk 285 2 = [.iconst 0, .istore 1, .goto 3] := rfl
theorem b285_3 : blk 285 3 = [.iload 1, .aload 0, .ifnonnull 9219, .invokeinterface 33832 1, .if_icmp .ge 5, .aload 0, .ifnonnull 9259, .iload 1, .iaload, .invokeinterface 71936 1, .ifCond .eq 4, .aload 0, .ifnonnull 9283, .aload 0, .ifnonnull 9259, .iload 1, .iaload, .dup2, .iaload, .iconst 1, .isub, .iastore, .goto 4] := rfl
theorem b285_4 : blk 285 4 = [.iinc 1 1, .goto 3] := rfl
theorem b285_5 : blk 285 5 = [.return_] := rfl
theorem en285 {a0 : Int} : ent 285 [(3, a0)] = [(3, a0), (9, 0)] := rfl
theorem b286_0 : blk 286 0 = [.iconst 0, .istore 1, .goto 1] := rfl
theorem b286_1 : blk 286 1 = [.iload 1, .aload 0, .ifnonnull 9219, .invokeinterface 33832 1, .if_icmp .ge 3, .aload 0, .ifnonnull 9259, .iload 1, .iaload, .iconst (-9), .if_icmp .ne 2, .aload 0, .ifnonnull 9275, .iload 1, .iaload, .aload 0, .ifnonnull 9243, .iload 1, .iaload, .if_icmp .ge 2, .iload 1, .ireturn] := rfl
theorem b286_2 : blk 286 2 = [.iinc 1 1, .goto 1] := rfl
theorem b286_3 : blk 286 3 = [.iconst (-1), .ireturn] := rfl
theorem en286 {a0 : Int} : ent 286 [(3, a0)] = [(3, a0), (9, 0)] := rfl
theorem b287_0 : blk 287 0 = [.aload 0, .iload 2, .invokeinterface 73808 2, .ifCond .eq 1, .aload 0, .iload 1, .iload 2, .invokeinterface 74068 3, .return_] := rfl
theorem b287_1 : blk 287 1 = [.aload 0, .iload 2, .invokeinterface 74320 2, .istore 3, .iload 3, .ifCond .lt 2, .aload 0, .iload 1, .iload 3, .iload 2, .invokeinterface 74576 4, .ifCond .ne 3, .goto 2] := rfl
theorem b287_2 : blk 287 2 = [.return_] := rfl
theorem b287_3 : blk 287 3 = [.aload 0, .ifnonnull 9259, .iload 3, .iconst (-9), .iastore, .aload 0, .ifnonnull 9259, .iload 1, .iload 2, .iastore, .return_] := rfl
theorem en287 {a0 a1 a2 : Int} : ent 287 [(3, a0), (0, a1), (0, a2)] = [(3, a0), (0, a1), (0, a2), (9, 0)] := rfl
theorem b288_0 : blk 288 0 = [.iload 1, .invokeinterface 71936 1, .ifCond .eq 1, .aload 0, .ifnonnull 9283, .iload 1, .iaload, .ifCond .le 1, .iconst 1, .goto 2] := rfl
theorem b288_1 : blk 288 1 = [.iconst 0, .goto 2] := rfl
theorem b288_2 : blk 288 2 = [.freturn] := rfl
theorem en288 {a0 a1 : Int} : ent 288 [(3, a0), (0, a1)] = [(3, a0), (0, a1)] := rfl
theorem b289_0 : blk 289 0 = [.iload 2, .invokeinterface 71936 1, .ifCond .ne 1, .return_] := rfl
theorem b289_1 : blk 289 1 = [.aload 0, .ifnonnull 9259, .iload 1, .iload 2, .iastore, .aload 0, .ifnonnull 9283, .iload 2, .dup2, .iaload, .iconst 1, .isub, .iastore, .return_] := rfl
theorem en289 {a0 a1 a2 : Int} : ent 289 [(3, a0), (0, a1), (0, a2)] = [(3, a0), (0, a1), (0, a2)] := rfl
theorem b290_0 : blk 290 0 = [.iconst (-1), .istore 2, .iconst 0, .istore 3, .goto 1] := rfl
theorem b290_1 : blk 290 1 = [.iload 3, .aload 0, .ifnonnull 9219, .invokeinterface 33832 1, .if_icmp .ge 4, .aload 0, .ifnonnull 9259, .iload 3, .iaload, .iload 1, .if_icmp .ne 3, .iload 2, .ifCond .lt 2, .aload 0, .iload 2, .iload 3, .iload 1, .invokeinterface 74576 4, .ifCond .eq 3, .goto 2] := rfl
theorem b290_2 : blk 290 2 = [.iload 3, .istore 2, .goto 3] := rfl
theorem b290_3 : blk 290 3 = [.iinc 3 1, .goto 1] := rfl
theorem b290_4 : blk 290 4 = [.iload 2, .ireturn] := rfl
theorem en290 {a0 a1 : Int} : ent 290 [(3, a0), (0, a1)] = [(3, a0), (0, a1), (9, 0), (9, 0)] := rfl
theorem b291_0 : blk 291 0 = [.aload 0, .iload 1, .iload 3, .invokeinterface 71760 3, .istore 4, .aload 0, .iload 2, .iload 3, .invokeinterface 71760 3, .istore 5, .iload 4, .iload 5, .if_icmp .eq 2, .iload 4, .iload 5, .if_icmp .ge 1, .iconst 1, .goto 4] := rfl
theorem b291_1 : blk 291 1 = [.iconst 0, .goto 4] := rfl
theorem b291_2 : blk 291 2 = [.iload 1, .iload 2, .if_icmp .ge 3, .iconst 1, .goto 4] := rfl
theorem b291_3 : blk 291 3 = [.iconst 0, .goto 4] := rfl
theorem b291_4 : blk 291 4 = [.freturn] := rfl
theorem en291 {a0 a1 a2 a3 : Int} : ent 291 [(3, a0), (0, a1), (0, a2), (0, a3)] = [(3, a0), (0, a1), (0, a2), (0, a3), (9, 0), (9, 0)] := rfl
theorem b292_0 : blk 292 0 = [.iconst 0, .istore 1, .iconst 0, .istore 2, .goto 1] := rfl
theorem b292_1 : blk 292 1 = [.iload 2, .aload 0, .ifnonnull 9219, .invokeinterface 33832 1, .if_icmp .ge 3, .aload 0, .ifnonnull 9259, .iload 2, .iaload, .iconst (-9), .if_icmp .eq 2, .iinc 1 1, .goto 2] := rfl
theorem b292_2 : blk 292 2 = [.iinc 2 1, .goto 1] := rfl
theorem b292_3 : blk 292 3 = [.iload 1, .ireturn] := rfl
theorem en292 {a0 : Int} : ent 292 [(3, a0)] = [(3, a0), (9, 0), (9, 0)] := rfl
theorem b293_0 : blk 293 0 = [.aload 0, .invokeinterface 72788 1, .iconst 0, .istore 1, .goto 1] := rfl
theorem b293_1 : blk 293 1 = [.iload 1, .iconst 24, .if_icmp .gt 3, .aload 0, .invokeinterface 75348 1, .aload 0, .invokeinterface 75856 1, .ifCond .ne 2, .goto 3] := rfl
theorem b293_2 : blk 293 2 = [.iinc 1 1, .goto 1] := rfl
theorem b293_3 : blk 293 3 = [.aload 0, .invokeinterface 74832 1, .ireturn] := rfl
theorem en293 {a0 : Int} : ent 293 [(3, a0)] = [(3, a0), (9, 0)] := rfl
theorem b294_0 : blk 294 0 = [.iconst 0, .istore 1, .goto 1] := rfl
theorem b294_1 : blk 294 1 = [.iload 1, .aload 0, .ifnonnull 9219, .invokeinterface 33832 1, .if_icmp .ge 4, .iconst 0, .istore 2, .goto 2] := rfl
theorem b294_2 : blk 294 2 = [.iload 2, .iconst 8, .if_icmp .ge 3, .aload 0, .iload 1, .invokeinterface 75600 2, .ifCond .eq 3, .aload 0, .aload 0, .iload 1, .aload 0, .ifnonnull 9275, .iload 1, .iaload, .invokeinterface 70224 3, .invokeinterface 73808 2, .ifCond .ne 3, .aload 0, .ifnonnull 9275, .iload 1, .dup2, .iaload, .iconst 1, .iadd, .iastore, .iinc 2 1, .goto 2] := rfl
theorem b294_3 : blk 294 3 = [.iinc 1 1, .goto 1] := rfl
theorem b294_4 : blk 294 4 = [.return_] := rfl
theorem en294 {a0 : Int} : ent 294 [(3, a0)] = [(3, a0), (9, 0), (9, 0)] := rfl
theorem b295_0 : blk 295 0 = [.aload 0, .ifnonnull 9259, .iload 1, .iaload, .iconst (-9), .if_icmp .ne 1, .aload 0, .ifnonnull 9275, .iload 1, .iaload, .aload 0, .ifnonnull 9243, .iload 1, .iaload, .if_icmp .ge 1, .iconst 1, .goto 2] := rfl
theorem b295_1 : blk 295 1 = [.iconst 0, .goto 2] := rfl
theorem b295_2 : blk 295 2 = [.freturn] := rfl
theorem en295 {a0 a1 : Int} : ent 295 [(3, a0), (0, a1)] = [(3, a0), (0, a1)] := rfl
theorem b296_0 : blk 296 0 = [.iconst 0, .istore 1, .iconst 0, .istore 2, .goto 1] := rfl
theorem b296_1 : blk 296 1 = [.iload 2, .aload 0, .ifnonnull 9219, .invokeinterface 33832 1, .if_icmp .ge 7, .aload 0, .ifnonnull 9291, .iload 2, .aload 0, .iload 2, .invokeinterface 75600 2, .ifCond .eq 2, .aload 0, .iload 2, .invokeinterface 76112 2, .ifCond .eq 2, .iconst 1, .goto 3] := rfl
theorem b296_2 : blk 296 2 = [.iconst 0, .goto 3] := rfl
theorem b296_3 : blk 296 3 = [.bastore, .iload 1, .ifCond .ne 4, .aload 0, .ifnonnull 9291, .iload 2, .baload, .ifCond .eq 5, .goto 4] := rfl
theorem b296_4 : blk 296 4 = [.iconst 1, .goto 6] := rfl
theorem b296_5 : blk 296 5 = [.iconst 0, .goto 6] := rfl
theorem b296_6 : blk 296 6 = [.istore 1, .iinc 2 1, .goto 1] := rfl
theorem b296_7 : blk 296 7 = [.iconst 0, .istore 2, .goto 8] := rfl
theorem b296_8 : blk 296 8 = [.iload 2, .aload 0, .ifnonnull 9219, .invokeinterface 33832 1, .if_icmp .ge 10, .aload 0, .ifnonnull 9291, .iload 2, .baload, .ifCond .eq 9, .aload 0, .iload 2, .aload 0, .iload 2, .aload 0, .ifnonnull 9275, .iload 2, .iaload, .invokeinterface 70224 3, .invokeinterface 74068 3, .goto 9] := rfl
theorem b296_9 : blk 296 9 = [.iinc 2 1, .goto 8] := rfl
theorem b296_10 : blk 296 10 = [.iload 1, .freturn] := rfl
theorem en296 {a0 : Int} : ent 296 [(3, a0)] = [(3, a0), (9, 0), (9, 0)] := rfl
theorem b297_0 : blk 297 0 = [.iload 1, .istore 2, .iconst 0, .istore 3, .goto 1] := rfl
theorem b297_1 : blk 297 1 = [.iload 3, .iconst 24, .if_icmp .ge 3, .iload 2, .ifCond .lt 3, .aload 0, .aload 0, .iload 2, .aload 0, .ifnonnull 9275, .iload 2, .iaload, .invokeinterface 70224 3, .invokeinterface 76368 2, .istore 2, .iload 2, .iload 1, .if_icmp .ne 2, .iconst 1, .freturn] := rfl
theorem b297_2 : blk 297 2 = [.iinc 3 1, .goto 1] := rfl
theorem b297_3 : blk 297 3 = [.iconst 0, .freturn] := rfl
theorem en297 {a0 a1 : Int} : ent 297 [(3, a0), (0, a1)] = [(3, a0), (0, a1), (9, 0), (9, 0)] := rfl
theorem b298_0 : blk 298 0 = [.iconst (-1), .istore 2, .iconst 0, .istore 3, .goto 1] := rfl
theorem b298_1 : blk 298 1 = [.iload 3, .aload 0, .ifnonnull 9219, .invokeinterface 33832 1, .if_icmp .ge 4, .aload 0, .iload 3, .invokeinterface 75600 2, .ifCond .eq 3, .iload 2, .ifCond .lt 2, .aload 0, .iload 3, .iload 2, .iload 1, .invokeinterface 74576 4, .ifCond .eq 3, .goto 2] := rfl
theorem b298_2 : blk 298 2 = [.iload 3, .istore 2, .goto 3] := rfl
theorem b298_3 : blk 298 3 = [.iinc 3 1, .goto 1] := rfl
theorem b298_4 : blk 298 4 = [.iload 2, .ireturn] := rfl
theorem en298 {a0 a1 : Int} : ent 298 [(3, a0), (0, a1)] = [(3, a0), (0, a1), (9, 0), (9, 0)] := rfl
theorem b299_0 : blk 299 0 = [.aload 0, .ifnonnull 27, .iload 1, .i2l, .invokeinterface 35880 2, .ifCond .eq 1, .aload 0, .ifnonnull 59, .iload 1, .invokeinterface 76880 2, .goto 2] := rfl
theorem b299_1 : blk 299 1 = [.iconst (-1), .goto 2] := rfl
theorem b299_2 : blk 299 2 = [.ireturn] := rfl
theorem en299 {a0 a1 : Int} : ent 299 [(3, a0), (0, a1)] = [(3, a0), (0, a1)] := rfl
theorem b300_0 : blk 300 0 = [.aload 0, .ifnonnull 9219, .iload 1, .i2l, .invokeinterface 35880 2, .ifCond .eq 1, .aload 0, .ifnonnull 9259, .iload 1, .iaload, .goto 2] := rfl
theorem b300_1 : blk 300 1 = [.iconst (-9), .goto 2] := rfl
theorem b300_2 : blk 300 2 = [.ireturn] := rfl
theorem en300 {a0 a1 : Int} : ent 300 [(3, a0), (0, a1)] = [(3, a0), (0, a1)] := rfl
theorem b301_0 : blk 301 0 = [.aload 0, .ifnonnull 59, .invokeinterface 77392 1, .ifCond .eq 1, .aload 0, .ifnonnull 59, .invokeinterface 77648 1, .goto 2] := rfl
theorem b301_1 : blk 301 1 = [.iconst (-2), .goto 2] := rfl
theorem b301_2 : blk 301 2 = [.ireturn] := rfl
theorem en301 {a0 : Int} : ent 301 [(3, a0)] = [(3, a0)] := rfl
theorem b302_0 : blk 302 0 = [.aload 0, .ifnull 9268, .freturn] := rfl
theorem en302 {a0 : Int} : ent 302 [(3, a0)] = [(3, a0)] := rfl
theorem b303_0 : blk 303 0 = [.aload 0, .invokeinterface 73044 1, .iconst 0, .istore 1, .goto 1] := rfl
theorem b303_1 : blk 303 1 = [.iload 1, .aload 0, .ifnonnull 9219, .invokeinterface 33832 1, .if_icmp .ge 5, .iconst 0, .istore 2, .goto 2] := rfl
theorem b303_2 : blk 303 2 = [.iload 2, .aload 0, .ifnull 9227, .iconst 5, .invokeinterface 14168 2, .if_icmp .ge 4, .aload 0, .iload 1, .iload 2, .invokeinterface 77904 3, .ifCond .eq 3, .aload 0, .iload 1, .iload 2, .invokeinterface 78160 3, .ifCond .eq 3, .iconst 1, .iconst 100, .iload 1, .imul, .iadd, .iload 2, .iadd, .ireturn] := rfl
theorem b303_3 : blk 303 3 = [.iinc 2 1, .goto 2] := rfl
theorem b303_4 : blk 303 4 = [.iinc 1 1, .goto 1] := rfl
theorem b303_5 : blk 303 5 = [.iconst 0, .ireturn] := rfl
theorem en303 {a0 : Int} : ent 303 [(3, a0)] = [(3, a0), (9, 0), (9, 0)] := rfl
theorem b304_0 : blk 304 0 = [.aload 0, .iload 1, .iload 2, .invokeinterface 69968 3, .istore 3, .iload 3, .ifCond .lt 2, .aload 0, .ifnonnull 9259, .iload 1, .iaload, .iconst (-9), .if_icmp .eq 1, .iload 3, .aload 0, .iload 1, .aload 0, .ifnonnull 9259, .iload 1, .iaload, .invokeinterface 69968 3, .if_icmp .ge 2, .goto 1] := rfl
theorem b304_1 : blk 304 1 = [.iconst 1, .goto 3] := rfl
theorem b304_2 : blk 304 2 = [.iconst 0, .goto 3] := rfl
theorem b304_3 : blk 304 3 = [.freturn] := rfl
theorem en304 {a0 a1 a2 : Int} : ent 304 [(3, a0), (0, a1), (0, a2)] = [(3, a0), (0, a1), (0, a2), (9, 0)] := rfl
theorem b305_0 : blk 305 0 = [.aload 0, .iload 2, .invokeinterface 74320 2, .istore 3, .aload 0, .iload 2, .invokeinterface 73808 2, .ifCond .ne 1, .iload 3, .ifCond .lt 2, .aload 0, .iload 1, .iload 3, .iload 2, .invokeinterface 74576 4, .ifCond .eq 2, .goto 1] := rfl
theorem b305_1 : blk 305 1 = [.iconst 1, .goto 3] := rfl
theorem b305_2 : blk 305 2 = [.iconst 0, .goto 3] := rfl
theorem b305_3 : blk 305 3 = [.freturn] := rfl
theorem en305 {a0 a1 a2 : Int} : ent 305 [(3, a0), (0, a1), (0, a2)] = [(3, a0), (0, a1), (0, a2), (9, 0)] := rfl
theorem b306_0 : blk 306 0 = [.aload 0, .iload 1, .iload 2, .iload 3, .invokeinterface 62728 4, .ifCond .ne 1, .iconst (-1), .ireturn] := rfl
theorem b306_1 : blk 306 1 = [.aload 0, .ifnonnull 51, .iload 1, .iload 2, .iload 3, .iconst 1, .if_icmp .ne 2, .iconst 1, .goto 3] := rfl
theorem b306_2 : blk 306 2 = [.iconst 0, .goto 3] := rfl
theorem b306_3 : blk 306 3 = [.invokeinterface 78668 4, .iconst 0, .ireturn] := rfl
theorem en306 {a0 a1 a2 a3 : Int} : ent 306 [(3, a0), (0, a1), (0, a2), (0, a3)] = [(3, a0), (0, a1), (0, a2), (0, a3)] := rfl
theorem b307_0 : blk 307 0 = [.iload 1, .ifCond .lt 1, .iload 1, .aload 0, .ifnonnull 8211, .arraylength, .if_icmp .lt 2, .goto 1] := rfl
theorem b307_1 : blk 307 1 = [.return_] := rfl
theorem b307_2 : blk 307 2 = [.aload 0, .ifnonnull 8211, .iload 1, .iload 3, .ifCond .eq 3, .aload 0, .ifnonnull 8211, .iload 1, .iaload, .iconst 1, .iload 2, .ishl, .ior, .goto 4] := rfl
theorem b307_3 : blk 307 3 = [.aload 0, .ifnonnull 8211, .iload 1, .iaload, .iconst 1, .iload 2, .ishl, .iconst (-1), .ixor, .iand, .goto 4] := rfl
theorem b307_4 : blk 307 4 = [.iastore, .return_] := rfl
theorem en307 {a0 a1 a2 a3 : Int} : ent 307 [(3, a0), (0, a1), (0, a2), (0, a3)] = [(3, a0), (0, a1), (0, a2), (0, a3)] := rfl
theorem b308_0 : blk 308 0 = [.aload 0, .ifnonnull 43, .iload 1, .invokeinterface 63040 2, .ifCond .ne 1, .iconst (-1), .ireturn] := rfl
theorem b308_1 : blk 308 1 = [.aload 0, .ifnonnull 43, .invokeinterface 67904 1, .ifCond .ne 2, .iconst (-2), .ireturn] := rfl
theorem b308_2 : blk 308 2 = [.aload 0, .ifnonnull 51, .iload 1, .invokeinterface 79176 2, .ireturn] := rfl
theorem en308 {a0 a1 : Int} : ent 308 [(3, a0), (0, a1)] = [(3, a0), (0, a1)] := rfl
theorem b309_0 : blk 309 0 = [.aload 0, .iload 1, .jsr_w 8272, .aload 0, .iconst 1, .jsr_w 8228, .aload 0, .iconst 0, .jsr_w 8240, .iconst 0, .istore 2, .iconst 0, .istore 3, .goto 1] := rfl
theorem b309_1 : blk 309 1 = [.iload 3, .aload 0, .ifnull 8203, .ifnull 10328, .if_icmp .ge 4, .aload 0, .ifnonnull 8219, .iload 3, .iconst (-9), .iastore, .aload 0, .ifnonnull 8195, .iload 3, .invokeinterface 69184 2, .iload 1, .if_icmp .eq 2, .goto 3] := rfl
theorem b309_2 : blk 309 2 = [.iload 2, .iconst 1, .aload 0, .iload 3, .invokeinterface 79432 2, .ishl, .ior, .istore 2, .aload 0, .aload 0, .iload 3, .invokeinterface 79432 2, .invokeinterface 79688 2, .ifCond .eq 3, .aload 0, .ifnull 8240, .iconst 6, .if_icmp .ge 3, .aload 0, .ifnonnull 8235, .aload 0, .ifnull 8240, .iload 3, .iastore, .aload 0, .dup, .ifnull 8240, .iconst 1, .iadd, .jsr_w 8240, .goto 3] := rfl
theorem b309_3 : blk 309 3 = [.iinc 3 1, .goto 1] := rfl
theorem b309_4 : blk 309 4 = [.aload 0, .iconst (-1), .jsr_w 8264, .aload 0, .iconst 0, .iload 2, .iconst 0, .invokeinterface 79948 4, .iconst 0, .istore 3, .goto 5] := rfl
theorem b309_5 : blk 309 5 = [.iload 3, .aload 0, .ifnull 8240, .if_icmp .ge 6, .aload 0, .ifnonnull 8219, .aload 0, .ifnonnull 8235, .iload 3, .iaload, .aload 0, .ifnonnull 8259, .iload 3, .iaload, .iastore, .iinc 3 1, .goto 5] := rfl
theorem b309_6 : blk 309 6 = [.aload 0, .ifnull 8240, .aload 0, .ifnull 8264, .isub, .ireturn] := rfl
theorem en309 {a0 a1 : Int} : ent 309 [(3, a0), (0, a1)] = [(3, a0), (0, a1), (9, 0), (9, 0)] := rfl
theorem b310_0 : blk 310 0 = [.aload 0, .ifnull 8203, .ifnonnull 10307, .aload 0, .ifnull 8203, .ifnonnull 10323, .iload 1, .iaload, .iaload, .ireturn] := rfl
theorem en310 {a0 a1 : Int} : ent 310 [(3, a0), (0, a1)] = [(3, a0), (0, a1)] := rfl
theorem b311_0 : blk 311 0 = [.iload 1, .ifCond .lt 1, .iload 1, .aload 0, .ifnonnull 8211, .arraylength, .if_icmp .ge 1, .aload 0, .ifnonnull 8211, .iload 1, .iaload, .aload 0, .ifnull 8272, .ishr, .iconst 1, .iand, .iconst 1, .if_icmp .ne 1, .iconst 1, .goto 2] := rfl
theorem b311_1 : blk 311 1 = [.iconst 0, .goto 2] := rfl
theorem b311_2 : blk 311 2 = [.freturn] := rfl
theorem en311 {a0 a1 : Int} : ent 311 [(3, a0), (0, a1)] = [(3, a0), (0, a1)] := rfl
theorem b312_0 : blk 312 0 = [.iload 3, .aload 0, .ifnull 8240, .iadd, .iload 1, .isub, .aload 0, .ifnull 8264, .if_icmp .gt 1, .return_] := rfl
theorem b312_1 : blk 312 1 = [.iload 1, .aload 0, .ifnull 8240, .if_icmp .ge 2, .iload 1, .iconst 6, .if_icmp .lt 5, .goto 2] := rfl
theorem b312_2 : blk 312 2 = [.aload 0, .iload 3, .jsr_w 8264, .iconst 0, .istore 4, .goto 3] := rfl
theorem b312_3 : blk 312 3 = [.iload 4, .aload 0, .ifnull 8240, .if_icmp .ge 4, .aload 0, .ifnonnull 8259, .iload 4, .aload 0, .ifnonnull 8251, .iload 4, .iaload, .iastore, .iinc 4 1, .goto 3] := rfl
theorem b312_4 : blk 312 4 = [.return_] := rfl
theorem b312_5 : blk 312 5 = [.aload 0, .ifnull 8203, .ifnonnull 10291, .aload 0, .ifnull 8203, .ifnonnull 10323, .aload 0, .ifnonnull 8235, .iload 1, .iaload, .iaload, .iaload, .istore 4, .iconst 0, .istore 5, .goto 6] := rfl
theorem b312_6 : blk 312 6 = [.iload 5, .aload 0, .ifnull 8203, .iconst 2, .invokeinterface 14168 2, .if_icmp .ge 9, .iload 2, .iload 5, .ishr, .iconst 1, .iand, .iconst 1, .if_icmp .eq 8, .aload 0, .ifnull 8203, .iload 5, .iload 4, .invokeinterface 17496 3, .ifCond .eq 8, .aload 0, .iload 5, .invokeinterface 79688 2, .ifCond .ne 8, .aload 0, .ifnonnull 8195, .iload 5, .aload 0, .ifnull 8272, .invokeinterface 80192 3, .ifCond .eq 7, .goto 8] := rfl
theorem b312_7 : blk 312 7 = [.aload 0, .ifnonnull 8251, .iload 1, .iload 5, .iastore, .aload 0, .iload 1, .iconst 1, .iadd, .iload 2, .iconst 1, .iload 5, .ishl, .ior, .iload 3, .iconst 1, .iadd, .invokeinterface 79948 4, .goto 8] := rfl
theorem b312_8 : blk 312 8 = [.iinc 5 1, .goto 6] := rfl
theorem b312_9 : blk 312 9 = [.aload 0, .ifnonnull 8251, .iload 1, .iconst (-9), .iastore, .aload 0, .iload 1, .iconst 1, .iadd, .iload 2, .iload 3, .invokeinterface 79948 4, .return_] := rfl
theorem en312 {a0 a1 a2 a3 : Int} : ent 312 [(3, a0), (0, a1), (0, a2), (0, a3)] = [(3, a0), (0, a1), (0, a2), (0, a3), (9, 0), (9, 0)] := rfl
theorem b313_0 : blk 313 0 = [.iload 1, .ifCond .lt 1, .iload 1, .iconst 10, .if_icmp .ge 1, .aload 0, .ifnonnull 7187, .iload 1, .iaload, .iload 2, .ishr, .iconst 1, .iand, .iconst 1, .if_icmp .ne 1, .iconst 1, .goto 2] := rfl
theorem b313_1 : blk 313 1 = [.iconst 0, .goto 2] := rfl
theorem b313_2 : blk 313 2 = [.freturn] := rfl
theorem en313 {a0 a1 a2 : Int} : ent 313 [(3, a0), (0, a1), (0, a2)] = [(3, a0), (0, a1), (0, a2)] := rfl
theorem b314_0 : blk 314 0 = [.iload 1, .ifCond .lt 1, .iload 1, .aload 0, .ifnull 67, .ifnull 10328, .if_icmp .lt 2, .goto 1] := rfl
theorem b314_1 : blk 314 1 = [.iconst (-1), .ireturn] := rfl
theorem b314_2 : blk 314 2 = [.aload 0, .ifnonnull 43, .invokeinterface 67904 1, .ifCond .eq 3, .aload 0, .ifnonnull 51, .invokeinterface 80712 1, .ifCond .ne 4, .goto 3] := rfl
theorem b314_3 : blk 314 3 = [.iconst (-2), .ireturn] := rfl
theorem b314_4 : blk 314 4 = [.aload 0, .ifnonnull 51, .iload 1, .invokeinterface 80968 2, .ireturn] := rfl
theorem en314 {a0 a1 : Int} : ent 314 [(3, a0), (0, a1)] = [(3, a0), (0, a1)] := rfl
theorem b315_0 : blk 315 0 = [.aload 0, .ifnull 8228, .freturn] := rfl
theorem en315 {a0 : Int} : ent 315 [(3, a0)] = [(3, a0)] := rfl
theorem b316_0 : blk 316 0 = [.iload 1, .ifCond .lt 1, .iload 1, .aload 0, .ifnonnull 8219, .arraylength, .if_icmp .ge 1, .aload 0, .ifnonnull 8219, .iload 1, .iaload, .goto 2] := rfl
theorem b316_1 : blk 316 1 = [.iconst (-9), .goto 2] := rfl
theorem b316_2 : blk 316 2 = [.ireturn] := rfl
theorem en316 {a0 a1 : Int} : ent 316 [(3, a0), (0, a1)] = [(3, a0), (0, a1)] := rfl
theorem b317_0 : blk 317 0 = [.aload 0, .monitorexit, .aload 0, .iconst 2400, .newarray .byte, .if_acmp .eq 11267, .aload 0, .goto_w 1561, .dup, .invokeinterface 81516 1, .jsr_w 11339, .aload 0, .goto_w 1561, .dup, .invokeinterface 81516 1, .jsr_w 11347, .aload 0, .iconst 38, .anewarray 38, .dup, .iconst 0, .jsr (-1971), .aastore, .dup, .iconst 1, .jsr (-2099), .aastore, .dup, .iconst 2, .jsr (-2227), .aastore, .dup, .iconst 3, .jsr (-2355), .aastore, .dup, .iconst 4, .jsr (-2483), .aastore, .dup, .iconst 5, .jsr (-2611), .aastore, .dup, .iconst 6, .jsr (-2739), .aastore, .dup, .iconst 7, .jsr (-2867), .aastore, .dup, .iconst 8, .jsr (-2995), .aastore, .dup, .iconst 9, .jsr (-3123), .aastore, .dup, .iconst 10, .jsr (-3251), .aastore, .dup, .iconst 11, .jsr (-1459), .aastore, .dup, .iconst 12, .jsr (-3379), .aastore, .dup, .iconst 13, .jsr (-1587), .aastore, .dup, .iconst 14, .jsr (-3507), .aastore, .dup, .iconst 15, .jsr (-1715), .aastore, .dup, .iconst 16, .jsr (-1843), .aastore, .dup, .iconst 17, .jsr (-3635), .aastore, .dup, .iconst 18, .jsr (-3763), .aastore, .dup, .iconst 19, .jsr (-3891), .aastore, .dup, .iconst 20, .jsr (-4019), .aastore, .dup, .iconst 21, .jsr (-4147), .aastore, .dup, .iconst 22, .jsr (-4275), .aastore, .dup, .iconst 23, .jsr (-4403), .aastore, .dup, .iconst 24, .jsr (-4531), .aastore, .dup, .iconst 25, .jsr (-4659), .aastore, .dup, .iconst 26, .jsr (-4787), .aastore, .dup, .iconst 27, .jsr (-1331), .aastore, .dup, .iconst 28, .jsr (-4915), .aastore, .dup, .iconst 29, .jsr (-5043), .aastore, .dup, .iconst 30, .jsr (-5171), .aastore, .dup, .iconst 31, .jsr (-5299), .aastore, .dup, .iconst 32, .jsr (-5427), .aastore, .dup, .iconst 33, .jsr (-5555), .aastore, .dup, .iconst 34, .jsr (-5683), .aastore, .dup, .iconst 35, .jsr (-5811), .aastore, .dup, .iconst 36, .jsr (-5939), .aastore, .dup, .iconst 37, .jsr (-6067), .aastore, .if_acmp .eq 11355, .aload 0, .iconst 420, .newarray .long, .if_acmp .eq 11379, .aload 0, .iconst 402, .newarray .long, .if_acmp .eq 11395, .aload 0, .iconst 402, .newarray .int, .if_acmp .eq 11403, .aload 0, .iconst 402, .newarray .int, .if_acmp .eq 11411, .aload 0, .iconst 402, .newarray .long, .if_acmp .eq 11427, .aload 0, .iconst 402, .newarray .int, .if_acmp .eq 11435, .aload 0, .iconst 402, .newarray .int, .if_acmp .eq 11443, .aload 0, .iconst 402, .newarray .int, .if_acmp .eq 11451, .aload 0, .iconst 24, .newarray .int, .if_acmp .eq 11475, .aload 0, .iconst 24, .newarray .int, .if_acmp .eq 11483, .aload 0, .iconst 24, .newarray .int, .if_acmp .eq 11491, .aload 0, .iconst 192, .newarray .int, .if_acmp .eq 11499, .aload 0, .iconst 6000, .newarray .int, .if_acmp .eq 11515, .aload 0, .iconst 6000, .newarray .int, .if_acmp .eq 11523, .aload 0, .iconst 384000, .newarray .long, .if_acmp .eq 11531, .aload 0, .iconst 600, .newarray .int, .if_acmp .eq 11539, .aload 0, .iconst 600, .newarray .long, .if_acmp .eq 11547, .aload 0, .iconst 3360, .newarray .int, .if_acmp .eq 11563, .aload 0, .iconst 3360, .newarray .long, .if_acmp .eq 11571, .aload 0, .iconst 3216, .newarray .int, .if_acmp .eq 11579, .aload 0, .iconst 3216, .newarray .int, .if_acmp .eq 11587, .aload 0, .iconst 8, .newarray .int, .if_acmp .eq 11603, .aload 0, .iconst 8, .newarray .int, .if_acmp .eq 11611, .aload 0, .iconst 4000, .newarray .int, .if_acmp .eq 11627, .aload 0, .iconst 4000, .newarray .int, .if_acmp .eq 11635, .aload 0, .iconst 4000, .newarray .int, .if_acmp .eq 11643, .aload 0, .iconst 4000, .newarray .int, .if_acmp .eq 11651, .aload 0, .iconst 4000, .newarray .int, .if_acmp .eq 11659, .aload 0, .iconst 4000, .newarray .int, .if_acmp .eq 11667, .aload 0, .iconst 4000, .newarray .long, .if_acmp .eq 11675, .aload 0, .iconst 64, .newarray .long, .if_acmp .eq 11747, .aload 0, .iconst (-9), .jsr_w 11752, .aload 0, .iconst 24, .newarray .int, .if_acmp .eq 11763, .aload 0, .iconst 24, .newarray .int, .if_acmp .eq 11771, .aload 0, .iconst 24, .newarray .double, .if_acmp .eq 11779, .aload 0, .iconst 4, .jsr_w 11784, .aload 0, .iconst 10, .newarray .int, .if_acmp .eq 11795, .aload 0, .iconst 10, .newarray .int, .if_acmp .eq 11803, .aload 0, .iconst 240, .newarray .int, .if_acmp .eq 11811, .aload 0, .iconst 36, .newarray .int, .if_acmp .eq 11859, .aload 0, .iconst 36, .newarray .int, .if_acmp .eq 11867, .aload 0, .iconst 36, .newarray .int, .if_acmp .eq 11875, .aload 0, .iconst 36, .newarray .int, .if_acmp .eq 11883, .aload 0, .iconst 36, .newarray .int, .if_acmp .eq 11891, .aload 0, .iconst 36, .newarray .int, .if_acmp .eq 11899, .aload 0, .iconst 37, .newarray .int, .if_acmp .eq 11907, .aload 0, .iconst 37, .newarray .int, .if_acmp .eq 11915, .aload 0, .iconst 24, .newarray .int, .if_acmp .eq 11923, .aload 0, .iconst 192, .newarray .int, .if_acmp .eq 11931, .aload 0, .iconst 192, .newarray .int, .if_acmp .eq 11939, .aload 0, .iconst 24, .newarray .int, .if_acmp .eq 11947, .aload 0, .iconst 24, .newarray .int, .if_acmp .eq 11963, .aload 0, .iconst 24, .newarray .boolean, .if_acmp .eq 11971, .aload 0, .iconst 24, .newarray .boolean, .if_acmp .eq 11979, .aload 0, .iconst 8, .newarray .int, .if_acmp .eq 11987, .aload 0, .iconst 36, .newarray .int, .if_acmp .eq 11995, .aload 0, .iconst 36, .newarray .int, .if_acmp .eq 12003, .aload 0, .iconst 7168, .newarray .int, .if_acmp .eq 12019, .return_] := rfl
theorem en317 {a0 : Int} : ent 317 [(3, a0)] = [(3, a0)] := rfl
theorem b318_0 : blk 318 0 = [.aload 0, .monitorexit, .aload 0, .iconst 7, .newarray .int, .if_acmp .eq 12291, .aload 0, .iconst 112, .newarray .long, .if_acmp .eq 12299, .aload 0, .iconst 6, .newarray .int, .if_acmp .eq 12307, .aload 0, .iconst 10, .newarray .int, .if_acmp .eq 12315, .aload 0, .iconst 10, .newarray .int, .if_acmp .eq 12323, .aload 0, .iconst 8, .newarray .int, .if_acmp .eq 12331, .aload 0, .iconst 12, .newarray .int, .if_acmp .eq 12339, .aload 0, .iconst 12, .newarray .int, .if_acmp .eq 12347, .aload 0, .iconst 12, .newarray .int, .if_acmp .eq 12355, .aload 0, .iconst 12, .newarray .int, .if_acmp .eq 12363, .aload 0, .iconst 8, .newarray .int, .if_acmp .eq 12371, .aload 0, .iconst 12, .newarray .int, .if_acmp .eq 12379, .aload 0, .iconst 12, .newarray .int, .if_acmp .eq 12387, .aload 0, .iconst 12, .newarray .int, .if_acmp .eq 12395, .aload 0, .iconst 6000, .newarray .int, .if_acmp .eq 12419, .aload 0, .iconst 6000, .newarray .int, .if_acmp .eq 12427, .aload 0, .iconst 6000, .newarray .int, .if_acmp .eq 12435, .aload 0, .iconst 401, .newarray .double, .if_acmp .eq 12443, .aload 0, .iconst 3208, .newarray .int, .if_acmp .eq 12475, .aload 0, .iconst 401, .newarray .int, .if_acmp .eq 12483, .return_] := rfl
theorem en318 {a0 : Int} : ent 318 [(3, a0)] = [(3, a0)] := rfl
theorem b319_0 : blk 319 0 = [.iload 1, .iconst 1, .if_icmp .lt 1, .iload 1, .iconst 8, .if_icmp .le 2, .goto 1] := rfl
theorem b319_1 : blk 319 1 = [.iconst (-1), .ireturn] := rfl
theorem b319_2 : blk 319 2 = [.aload 0, .ifnull 11272, .iload 1, .iadd, .iconst 2400, .if_icmp .le 3, .iconst (-3), .ireturn] := rfl
theorem b319_3 : blk 319 3 = [.iconst 0, .istore 4, .goto 4] := rfl
theorem b319_4 : blk 319 4 = [.iload 4, .iload 1, .if_icmp .ge 5, .aload 0, .ifnonnull 11267, .aload 0, .ifnull 11272, .lload 2, .iconst 8, .iload 4, .imul, .lshr, .l2i, .i2b, .bastore, .aload 0, .dup, .ifnull 11272, .iconst 1, .iadd, .jsr_w 11272, .iinc 4 1, .goto 4] := rfl
theorem b319_5 : blk 319 5 = [.aload 0, .ifnull 11272, .ireturn] := rfl
theorem en319 {a0 a1 a2 : Int} : ent 319 [(3, a0), (0, a1), (1, a2)] = [(3, a0), (0, a1), (1, a2), (9, 0), (9, 0)] := rfl
theorem b320_0 : blk 320 0 = [.aload 0, .ifnull 11339, .astore 1, .aload 0, .aload 0, .ifnull 11347, .jsr_w 11339, .iconst 0, .istore 2, .goto 1] := rfl
theorem b320_1 : blk 320 1 = [.iload 2, .iconst 7, .if_icmp .ge 2, .aload 0, .ifnull 11339, .ifnonnull 12291, .iload 2, .iconst 0, .iastore, .iinc 2 1, .goto 1] := rfl
theorem b320_2 : blk 320 2 = [.aload 0, .ifnull 11339, .iconst 0, .jsr_w 12400, .aload 0, .ifnull 11339, .iconst 0, .jsr_w 12408, .aload 0, .ifnull 11339, .iconst 0, .jsr_w 12448, .aload 0, .ifnull 11339, .iconst 0, .jsr_w 12456, .aload 0, .ifnull 11339, .iconst 0, .jsr_w 12464, .aload 0, .iconst (-9), .jsr_w 11320, .aload 0, .iconst (-9), .jsr_w 11328, .aload 0, .iconst 0, .jsr_w 11360, .aload 0, .iconst 0, .jsr_w 11368, .aload 0, .iconst 0, .jsr_w 11456, .aload 0, .iconst 0, .jsr_w 11296, .aload 0, .invokeinterface 82276 1, .goto 3] := rfl
theorem b320_3 : blk 320 3 = [.aload 0, .invokeinterface 83296 1, .ifCond .eq 4, .aload 0, .ifnull 11280, .ifCond .eq 4, .aload 0, .invokeinterface 83556 1, .goto 3] := rfl
theorem b320_4 : blk 320 4 = [.iconst 0, .istore 2, .goto 5] := rfl
theorem b320_5 : blk 320 5 = [.iload 2, .aload 0, .ifnull 11456, .if_icmp .ge 8, .aload 0, .invokeinterface 83296 1, .ifCond .eq 8, .aload 0, .iconst 6, .aload 0, .ifnonnull 11427, .iload 2, .laload, .invokeinterface 84832 3, .istore 3, .iload 3, .iconst (-9), .if_icmp .eq 6, .aload 0, .ifnull 11339, .ifnonnull 12379, .iload 3, .iaload, .aload 0, .ifnonnull 11451, .iload 2, .iaload, .if_icmp .eq 7, .goto 6] := rfl
theorem b320_6 : blk 320 6 = [.aload 0, .aload 0, .ifnonnull 11435, .iload 2, .iaload, .invokeinterface 93540 2, .goto 7] := rfl
theorem b320_7 : blk 320 7 = [.aload 0, .ifnull 11339, .ifnonnull 12427, .aload 0, .ifnonnull 11443, .iload 2, .iaload, .iload 3, .iastore, .iinc 2 1, .goto 5] := rfl
theorem b320_8 : blk 320 8 = [.aload 0, .invokeinterface 83296 1, .ifCond .eq 9, .aload 0, .ifnull 11328, .ifCond .lt 9, .aload 0, .aload 0, .ifnull 11328, .jsr_w 11320, .goto 9] := rfl
theorem b320_9 : blk 320 9 = [.aload 0, .iconst 0, .jsr_w 11272, .aload 0, .invokeinterface 83296 1, .ifCond .ne 10, .aload 0, .aload 1, .jsr_w 11339, .iconst (-10), .aload 0, .ifnull 11320, .isub, .ireturn] := rfl
theorem b320_10 : blk 320 10 = [.aload 0, .aload 1, .jsr_w 11347, .aload 0, .invokeinterface 93796 1, .aload 0, .ifnull 11339, .ifnonnull 12291, .iconst 6, .iaload, .ireturn] := rfl
theorem en320 {a0 : Int} : ent 320 [(3, a0)] = [(3, a0), (9, 0), (9, 0), (9, 0)] := rfl
theorem b321_0 : blk 321 0 = [.aload 0, .ifnull 11296, .istore 1, .goto 1] := rfl
theorem b321_1 : blk 321 1 = [.iload 1, .aload 0, .ifnull 11272, .if_icmp .ge 3, .aload 0, .ifnonnull 11267, .iload 1, .baload, .iconst 32, .if_icmp .eq 2, .aload 0, .ifnonnull 11267, .iload 1, .baload, .iconst 10, .if_icmp .ne 3, .goto 2] := rfl
theorem b321_2 : blk 321 2 = [.iinc 1 1, .goto 1] := rfl
theorem b321_3 : blk 321 3 = [.aload 0, .iload 1, .jsr_w 11288, .aload 0, .iload 1, .jsr_w 11296, .aload 0, .iconst 0, .jsr_w 11280, .iload 1, .aload 0, .ifnull 11272, .if_icmp .ne 4, .return_] := rfl
theorem b321_4 : blk 321 4 = [.aload 0, .ifnonnull 11267, .iload 1, .baload, .istore 2, .aload 0, .dup, .ifnull 11296, .iconst 1, .iadd, .jsr_w 11296, .iload 2, .invokeinterface 82432 1, .ifCond .eq 10, .goto 5] := rfl
theorem b321_5 : blk 321 5 = [.aload 0, .aload 0, .ifnull 11296, .invokeinterface 82784 2, .invokeinterface 82432 1, .ifCond .ne 6, .aload 0, .aload 0, .ifnull 11296, .invokeinterface 82784 2, .invokeinterface 82944 1, .ifCond .eq 7, .goto 6] := rfl
theorem b321_6 : blk 321 6 = [.aload 0, .dup, .ifnull 11296, .iconst 1, .iadd, .jsr_w 11296, .goto 5] := rfl
theorem b321_7 : blk 321 7 = [.aload 0, .aload 0, .ifnull 11296, .aload 0, .ifnull 11288, .isub, .iconst 8, .if_icmp .le 8, .iconst 5, .goto 9] := rfl
theorem b321_8 : blk 321 8 = [.iconst 1, .goto 9] := rfl
theorem b321_9 : blk 321 9 = [.jsr_w 11280, .goto 31] := rfl
theorem b321_10 : blk 321 10 = [.iload 2, .invokeinterface 82944 1, .ifCond .eq 27, .goto 11] := rfl
theorem b321_11 : blk 321 11 = [.aload 0, .aload 0, .ifnull 11296, .invokeinterface 82784 2, .invokeinterface 82944 1, .ifCond .eq 12, .aload 0, .dup, .ifnull 11296, .iconst 1, .iadd, .jsr_w 11296, .goto 11] := rfl
theorem b321_12 : blk 321 12 = [.aload 0, .ifnull 11296, .aload 0, .ifnull 11288, .isub, .istore 3, .aload 0, .iload 3, .iconst 6, .if_icmp .le 13, .iconst 5, .goto 14] := rfl
theorem b321_13 : blk 321 13 = [.iconst 2, .goto 14] := rfl
theorem b321_14 : blk 321 14 = [.jsr_w 11280, .aload 0, .iconst 0, .jsr_w 11304, .aload 0, .ifnull 11288, .istore 4, .goto 15] := rfl
theorem b321_15 : blk 321 15 = [.iload 4, .aload 0, .ifnull 11296, .if_icmp .ge 16, .aload 0, .ifnull 11280, .iconst 2, .if_icmp .ne 16, .aload 0, .iconst 10, .aload 0, .ifnull 11304, .imul, .aload 0, .ifnonnull 11267, .iload 4, .baload, .iadd, .iconst 48, .isub, .jsr_w 11304, .iinc 4 1, .goto 15] := rfl
theorem b321_16 : blk 321 16 = [.aload 0, .aload 0, .ifnull 11296, .invokeinterface 82784 2, .iconst 46, .if_icmp .ne 26, .aload 0, .aload 0, .ifnull 11296, .iconst 1, .iadd, .invokeinterface 82784 2, .invokeinterface 82944 1, .ifCond .eq 26, .aload 0, .dup, .ifnull 11296, .iconst 1, .iadd, .jsr_w 11296, .aload 0, .ifnull 11296, .istore 4, .aload 0, .ifnull 11304, .i2l, .lstore 5, .bipush 1, .lstore 7, .goto 17] := rfl
theorem b321_17 : blk 321 17 = [.aload 0, .aload 0, .ifnull 11296, .invokeinterface 82784 2, .invokeinterface 82944 1, .ifCond .eq 22, .aload 0, .ifnull 11296, .iload 4, .isub, .iconst 4, .if_icmp .ge 18, .bipush 10, .lload 5, .lmul, .aload 0, .ifnonnull 11267, .aload 0, .ifnull 11296, .baload, .i2l, .ladd, .bipush 48, .lsub, .goto 19] := rfl
theorem b321_18 : blk 321 18 = [.lload 5, .goto 19] := rfl
theorem b321_19 : blk 321 19 = [.lstore 5, .aload 0, .ifnull 11296, .iload 4, .isub, .iconst 4, .if_icmp .ge 20, .bipush 10, .lload 7, .lmul, .goto 21] := rfl
theorem b321_20 : blk 321 20 = [.lload 7, .goto 21] := rfl
theorem b321_21 : blk 321 21 = [.lstore 7, .aload 0, .dup, .ifnull 11296, .iconst 1, .iadd, .jsr_w 11296, .goto 17] := rfl
theorem b321_22 : blk 321 22 = [.aload 0, .iload 3, .iconst 6, .if_icmp .gt 23, .aload 0, .ifnull 11296, .iload 4, .isub, .iconst 4, .if_icmp .le 24, .goto 23] := rfl
theorem b321_23 : blk 321 23 = [.iconst 5, .goto 25] := rfl
theorem b321_24 : blk 321 24 = [.iconst 3, .goto 25] := rfl
theorem b321_25 : blk 321 25 = [.jsr_w 11280, .aload 0, .lload 5, .l2d, .lload 7, .l2d, .ddiv, .jsr_w 11314, .goto 26] := rfl
theorem b321_26 : blk 321 26 = [.goto 31] := rfl
theorem b321_27 : blk 321 27 = [.aload 0, .iload 2, .iconst 59, .if_icmp .eq 28, .iload 2, .iconst 58, .if_icmp .eq 28, .iload 2, .iconst 44, .if_icmp .eq 28, .iload 2, .iconst 61, .if_icmp .eq 28, .iload 2, .iconst 43, .if_icmp .eq 28, .iload 2, .iconst 45, .if_icmp .eq 28, .iload 2, .iconst 42, .if_icmp .eq 28, .iload 2, .iconst 47, .if_icmp .eq 28, .iload 2, .iconst 37, .if_icmp .eq 28, .iload 2, .iconst 60, .if_icmp .eq 28, .iload 2, .iconst 62, .if_icmp .eq 28, .iload 2, .iconst 40, .if_icmp .eq 28, .iload 2, .iconst 41, .if_icmp .eq 28, .iload 2, .iconst 91, .if_icmp .eq 28, .iload 2, .iconst 93, .if_icmp .eq 28, .iload 2, .iconst 123, .if_icmp .eq 28, .iload 2, .iconst 125, .if_icmp .ne 29, .goto 28] := rfl
theorem b321_28 : blk 321 28 = [.iconst 4, .goto 30] := rfl
theorem b321_29 : blk 321 29 = [.iconst 5, .goto 30] := rfl
theorem b321_30 : blk 321 30 = [.jsr_w 11280, .goto 31] := rfl
theorem b321_31 : blk 321 31 = [.return_] := rfl
theorem en321 {a0 : Int} : ent 321 [(3, a0)] = [(3, a0), (9, 0), (9, 0), (9, 0), (9, 0), (9, 0), (9, 0), (9, 0), (9, 0)] := rfl
theorem b322_0 : blk 322 0 = [.iload 0, .iconst 97, .if_icmp .lt 1, .iload 0, .iconst 122, .if_icmp .gt 1, .iconst 1, .goto 2] := rfl
theorem b322_1 : blk 322 1 = [.iconst 0, .goto 2] := rfl
theorem b322_2 : blk 322 2 = [.freturn] := rfl
theorem en322 {a0 : Int} : ent 322 [(0, a0)] = [(0, a0)] := rfl
theorem b323_0 : blk 323 0 = [.iload 1, .aload 0, .ifnull 11272, .if_icmp .ge 1, .aload 0, .ifnonnull 11267, .iload 1, .baload, .goto 2] := rfl
theorem b323_1 : blk 323 1 = [.iconst 0, .goto 2] := rfl
theorem b323_2 : blk 323 2 = [.ireturn] := rfl
theorem en323 {a0 a1 : Int} : ent 323 [(3, a0), (0, a1)] = [(3, a0), (0, a1)] := rfl
theorem b324_0 : blk 324 0 = [.iload 0, .iconst 48, .if_icmp .lt 1, .iload 0, .iconst 57, .if_icmp .gt 1, .iconst 1, .goto 2] := rfl
theorem b324_1 : blk 324 1 = [.iconst 0, .goto 2] := rfl
theorem b324_2 : blk 324 2 = [.freturn] := rfl
theorem en324 {a0 : Int} : ent 324 [(0, a0)] = [(0, a0)] := rfl
theorem b325_0 : blk 325 0 = [.aload 0, .ifnull 11320, .ifCond .ge 1, .iconst 1, .goto 2] := rfl
theorem b325_1 : blk 325 1 = [.iconst 0, .goto 2] := rfl
theorem b325_2 : blk 325 2 = [.freturn] := rfl
theorem en325 {a0 : Int} : ent 325 [(3, a0)] = [(3, a0)] := rfl
theorem b326_0 : blk 326 0 = [.aload 0, .jsr (-1971), .invokeinterface 83808 2, .ifCond .eq 1, .aload 0, .invokeinterface 82276 1, .aload 0, .iconst 0, .iconst 12, .invokeinterface 84064 3, .pop, .aload 0, .iconst 59, .invokeinterface 85348 2, .goto 8] := rfl
theorem b326_1 : blk 326 1 = [.aload 0, .jsr (-2099), .invokeinterface 83808 2, .ifCond .eq 2, .aload 0, .invokeinterface 82276 1, .aload 0, .iconst 1, .iconst 6, .invokeinterface 84064 3, .istore 1, .aload 0, .ifnull 11339, .ifnonnull 12307, .iload 1, .aload 0, .iconst 1, .iconst 99, .invokeinterface 85856 3, .iastore, .aload 0, .iconst 59, .invokeinterface 85348 2, .goto 8] := rfl
theorem b326_2 : blk 326 2 = [.aload 0, .jsr (-2227), .invokeinterface 83808 2, .ifCond .eq 3, .aload 0, .invokeinterface 86116 1, .goto 8] := rfl
theorem b326_3 : blk 326 3 = [.aload 0, .jsr (-2355), .invokeinterface 83808 2, .ifCond .eq 4, .aload 0, .invokeinterface 82276 1, .aload 0, .iconst 3, .iconst 8, .invokeinterface 84064 3, .istore 1, .aload 0, .ifnull 11339, .ifnonnull 12331, .iload 1, .aload 0, .iconst 1, .iconst 99, .invokeinterface 85856 3, .iastore, .aload 0, .iconst 59, .invokeinterface 85348 2, .goto 8] := rfl
theorem b326_4 : blk 326 4 = [.aload 0, .jsr (-2483), .invokeinterface 83808 2, .ifCond .eq 5, .aload 0, .invokeinterface 86372 1, .goto 8] := rfl
theorem b326_5 : blk 326 5 = [.aload 0, .jsr (-2611), .invokeinterface 83808 2, .ifCond .eq 6, .aload 0, .invokeinterface 82276 1, .aload 0, .iconst 5, .iconst 8, .invokeinterface 84064 3, .istore 1, .aload 0, .ifnull 11339, .ifnonnull 12371, .iload 1, .aload 0, .iconst 1, .iconst 99, .invokeinterface 85856 3, .iastore, .aload 0, .iconst 59, .invokeinterface 85348 2, .goto 8] := rfl
theorem b326_6 : blk 326 6 = [.aload 0, .jsr (-2739), .invokeinterface 83808 2, .ifCond .eq 7, .aload 0, .invokeinterface 86884 1, .goto 8] := rfl
theorem b326_7 : blk 326 7 = [.aload 0, .invokeinterface 85092 1, .goto 8] := rfl
theorem b326_8 : blk 326 8 = [.return_] := rfl
theorem en326 {a0 : Int} : ent 326 [(3, a0)] = [(3, a0), (9, 0)] := rfl
theorem b327_0 : blk 327 0 = [.aload 0, .ifnull 11280, .iconst 1, .if_icmp .ne 1, .aload 0, .ifnull 11296, .aload 0, .ifnull 11288, .isub, .aload 1, .invokeinterface 9328 1, .if_icmp .eq 2, .goto 1] := rfl
theorem b327_1 : blk 327 1 = [.iconst 0, .freturn] := rfl
theorem b327_2 : blk 327 2 = [.iconst 0, .istore 2, .goto 3] := rfl
theorem b327_3 : blk 327 3 = [.iload 2, .aload 1, .invokeinterface 9328 1, .if_icmp .ge 5, .aload 0, .ifnonnull 11267, .aload 0, .ifnull 11288, .iload 2, .iadd, .baload, .aload 1, .iload 2, .invokeinterface 11888 2, .if_icmp .eq 4, .iconst 0, .freturn] := rfl
theorem b327_4 : blk 327 4 = [.iinc 2 1, .goto 3] := rfl
theorem b327_5 : blk 327 5 = [.iconst 1, .freturn] := rfl
theorem en327 {a0 a1 : Int} : ent 327 [(3, a0), (3, a1)] = [(3, a0), (3, a1), (9, 0)] := rfl
theorem b328_0 : blk 328 0 = [.aload 0, .invokeinterface 83296 1, .ifCond .eq 1, .aload 0, .invokeinterface 84320 1, .ifCond .eq 1, .aload 0, .ifnull 11339, .ifnonnull 12291, .iload 1, .iaload, .iload 2, .if_icmp .eq 1, .aload 0, .iload 1, .aload 0, .invokeinterface 84577 1, .invokeinterface 84832 3, .iconst (-9), .if_icmp .eq 2, .goto 1] := rfl
theorem b328_1 : blk 328 1 = [.aload 0, .invokeinterface 85092 1, .iconst 0, .ireturn] := rfl
theorem b328_2 : blk 328 2 = [.aload 0, .ifnull 11339, .ifnonnull 12299, .iconst 16, .iload 1, .imul, .aload 0, .ifnull 11339, .ifnonnull 12291, .iload 1, .iaload, .iadd, .aload 0, .invokeinterface 84577 1, .lastore, .aload 0, .ifnull 11339, .ifnonnull 12291, .iload 1, .dup2, .iaload, .iconst 1, .iadd, .iastore, .aload 0, .invokeinterface 82276 1, .aload 0, .ifnull 11339, .ifnonnull 12291, .iload 1, .iaload, .iconst 1, .isub, .ireturn] := rfl
theorem en328 {a0 a1 a2 : Int} : ent 328 [(3, a0), (0, a1), (0, a2)] = [(3, a0), (0, a1), (0, a2)] := rfl
theorem b329_0 : blk 329 0 = [.aload 0, .ifnull 11280, .iconst 1, .if_icmp .eq 1, .iconst 0, .freturn] := rfl
theorem b329_1 : blk 329 1 = [.iconst 0, .istore 1, .goto 2] := rfl
theorem b329_2 : blk 329 2 = [.iload 1, .aload 0, .ifnonnull 11355, .arraylength, .if_icmp .ge 4, .aload 0, .aload 0, .ifnonnull 11355, .iload 1, .aaload, .invokeinterface 83808 2, .ifCond .eq 3, .iconst 0, .freturn] := rfl
theorem b329_3 : blk 329 3 = [.iinc 1 1, .goto 2] := rfl
theorem b329_4 : blk 329 4 = [.iconst 1, .freturn] := rfl
theorem en329 {a0 : Int} : ent 329 [(3, a0)] = [(3, a0), (9, 0)] := rfl
theorem b330_0 : blk 330 0 = [.bipush 0, .lstore 1, .aload 0, .ifnull 11288, .istore 3, .goto 1] := rfl
theorem b330_1 : blk 330 1 = [.iload 3, .aload 0, .ifnull 11296, .if_icmp .ge 2, .lload 1, .iconst 8, .lshl, .aload 0, .ifnonnull 11267, .iload 3, .baload, .i2l, .lor, .lstore 1, .iinc 3 1, .goto 1] := rfl
theorem b330_2 : blk 330 2 = [.lload 1, .lreturn] := rfl
theorem en330 {a0 : Int} : ent 330 [(3, a0)] = [(3, a0), (9, 0), (9, 0), (9, 0)] := rfl
theorem b331_0 : blk 331 0 = [.iconst 0, .istore 4, .goto 1] := rfl
theorem b331_1 : blk 331 1 = [.iload 4, .aload 0, .ifnull 11339, .ifnonnull 12291, .iload 1, .iaload, .if_icmp .ge 3, .aload 0, .ifnull 11339, .ifnonnull 12299, .iconst 16, .iload 1, .imul, .iload 4, .iadd, .laload, .lload 2, .lcmp, .ifCond .ne 2, .iload 4, .ireturn] := rfl
theorem b331_2 : blk 331 2 = [.iinc 4 1, .goto 1] := rfl
theorem b331_3 : blk 331 3 = [.iconst (-9), .ireturn] := rfl
theorem en331 {a0 a1 a2 : Int} : ent 331 [(3, a0), (0, a1), (1, a2)] = [(3, a0), (0, a1), (1, a2), (9, 0), (9, 0)] := rfl
theorem b332_0 : blk 332 0 = [.aload 0, .ifnull 11320, .ifCond .ge 1, .aload 0, .aload 0, .ifnull 11288, .jsr_w 11320, .goto 1] := rfl
theorem b332_1 : blk 332 1 = [.return_] := rfl
theorem en332 {a0 : Int} : ent 332 [(3, a0)] = [(3, a0)] := rfl
theorem b333_0 : blk 333 0 = [.aload 0, .invokeinterface 83296 1, .ifCond .eq 1, .aload 0, .iload 1, .invokeinterface 85600 2, .ifCond .eq 1, .aload 0, .invokeinterface 82276 1, .goto 2] := rfl
theorem b333_1 : blk 333 1 = [.aload 0, .invokeinterface 85092 1, .goto 2] := rfl
theorem b333_2 : blk 333 2 = [.return_] := rfl
theorem en333 {a0 a1 : Int} : ent 333 [(3, a0), (0, a1)] = [(3, a0), (0, a1)] := rfl
theorem b334_0 : blk 334 0 = [.aload 0, .ifnull 11280, .iconst 4, .if_icmp .ne 1, .aload 0, .ifnonnull 11267, .aload 0, .ifnull 11288, .baload, .iload 1, .if_icmp .ne 1, .iconst 1, .goto 2] := rfl
theorem b334_1 : blk 334 1 = [.iconst 0, .goto 2] := rfl
theorem b334_2 : blk 334 2 = [.freturn] := rfl
theorem en334 {a0 a1 : Int} : ent 334 [(3, a0), (0, a1)] = [(3, a0), (0, a1)] := rfl
theorem b335_0 : blk 335 0 = [.aload 0, .invokeinterface 83296 1, .ifCond .eq 1, .aload 0, .ifnull 11280, .iconst 2, .if_icmp .ne 1, .aload 0, .ifnull 11304, .iload 1, .if_icmp .lt 1, .aload 0, .ifnull 11304, .iload 2, .if_icmp .gt 1, .aload 0, .ifnull 11304, .istore 3, .aload 0, .invokeinterface 82276 1, .iload 3, .ireturn] := rfl
theorem b335_1 : blk 335 1 = [.aload 0, .invokeinterface 85092 1, .iload 1, .ireturn] := rfl
theorem en335 {a0 a1 a2 : Int} : ent 335 [(3, a0), (0, a1), (0, a2)] = [(3, a0), (0, a1), (0, a2), (9, 0)] := rfl
theorem b336_0 : blk 336 0 = [.aload 0, .invokeinterface 82276 1, .aload 0, .iconst 2, .iconst 10, .invokeinterface 84064 3, .istore 1, .aload 0, .ifnull 11339, .ifnonnull 12315, .iload 1, .aload 0, .jsr (-2867), .invokeinterface 83808 2, .ifCond .eq 1, .iconst 2, .goto 3] := rfl
theorem b336_1 : blk 336 1 = [.aload 0, .jsr (-2995), .invokeinterface 83808 2, .ifCond .eq 2, .iconst 3, .goto 3] := rfl
theorem b336_2 : blk 336 2 = [.iconst 4, .goto 3] := rfl
theorem b336_3 : blk 336 3 = [.iastore, .aload 0, .invokeinterface 83296 1, .ifCond .eq 4, .aload 0, .ifnull 11339, .ifnonnull 12315, .iload 1, .iaload, .iconst 4, .if_icmp .ne 4, .aload 0, .jsr (-3123), .invokeinterface 83808 2, .ifCond .ne 4, .aload 0, .invokeinterface 85092 1, .goto 4] := rfl
theorem b336_4 : blk 336 4 = [.aload 0, .invokeinterface 83296 1, .ifCond .eq 5, .aload 0, .invokeinterface 82276 1, .goto 5] := rfl
theorem b336_5 : blk 336 5 = [.aload 0, .iconst 58, .invokeinterface 85348 2, .aload 0, .ifnull 11339, .ifnonnull 12323, .iload 1, .iconst 0, .iastore, .iconst 1, .istore 2, .goto 6] := rfl
theorem b336_6 : blk 336 6 = [.aload 0, .invokeinterface 83296 1, .ifCond .eq 15, .iload 2, .ifCond .eq 15, .aload 0, .invokeinterface 84320 1, .ifCond .eq 7, .aload 0, .iconst 0, .aload 0, .invokeinterface 84577 1, .invokeinterface 84832 3, .goto 8] := rfl
theorem b336_7 : blk 336 7 = [.iconst (-9), .goto 8] := rfl
theorem b336_8 : blk 336 8 = [.istore 3, .iload 3, .iconst (-9), .if_icmp .eq 9, .aload 0, .ifnull 11339, .ifnonnull 12323, .iload 1, .iaload, .iload 3, .ishr, .iconst 1, .iand, .iconst 1, .if_icmp .ne 10, .goto 9] := rfl
theorem b336_9 : blk 336 9 = [.aload 0, .invokeinterface 85092 1, .goto 11] := rfl
theorem b336_10 : blk 336 10 = [.aload 0, .ifnull 11339, .ifnonnull 12323, .iload 1, .dup2, .iaload, .iconst 1, .iload 3, .ishl, .ior, .iastore, .aload 0, .invokeinterface 82276 1, .goto 11] := rfl
theorem b336_11 : blk 336 11 = [.aload 0, .invokeinterface 83296 1, .ifCond .eq 12, .aload 0, .iconst 44, .invokeinterface 85600 2, .ifCond .eq 12, .iconst 1, .goto 13] := rfl
theorem b336_12 : blk 336 12 = [.iconst 0, .goto 13] := rfl
theorem b336_13 : blk 336 13 = [.istore 2, .iload 2, .ifCond .eq 14, .aload 0, .invokeinterface 82276 1, .goto 14] := rfl
theorem b336_14 : blk 336 14 = [.goto 6] := rfl
theorem b336_15 : blk 336 15 = [.aload 0, .iconst 59, .invokeinterface 85348 2, .return_] := rfl
theorem en336 {a0 : Int} : ent 336 [(3, a0)] = [(3, a0), (9, 0), (9, 0), (9, 0)] := rfl
theorem b337_0 : blk 337 0 = [.aload 0, .invokeinterface 82276 1, .aload 0, .iconst 4, .iconst 12, .invokeinterface 84064 3, .istore 1, .aload 0, .iconst 58, .invokeinterface 85348 2, .aload 0, .ifnull 11339, .ifnonnull 12339, .iload 1, .aload 0, .iconst 0, .invokeinterface 86624 2, .iastore, .aload 0, .ifnull 11339, .ifnonnull 12347, .iload 1, .aload 0, .iconst 3, .invokeinterface 86624 2, .iastore, .aload 0, .invokeinterface 83296 1, .ifCond .eq 1, .aload 0, .invokeinterface 84320 1, .ifCond .eq 1, .aload 0, .iconst 2, .aload 0, .invokeinterface 84577 1, .invokeinterface 84832 3, .goto 2] := rfl
theorem b337_1 : blk 337 1 = [.iconst (-9), .goto 2] := rfl
theorem b337_2 : blk 337 2 = [.istore 2, .iload 2, .iconst (-9), .if_icmp .eq 3, .aload 0, .ifnull 11339, .ifnonnull 12323, .iload 2, .iaload, .aload 0, .ifnull 11339, .ifnonnull 12339, .iload 1, .iaload, .ishr, .iconst 1, .iand, .ifCond .ne 4, .goto 3] := rfl
theorem b337_3 : blk 337 3 = [.aload 0, .invokeinterface 85092 1, .goto 5] := rfl
theorem b337_4 : blk 337 4 = [.aload 0, .ifnull 11339, .ifnonnull 12355, .iload 1, .iload 2, .iastore, .aload 0, .invokeinterface 82276 1, .goto 5] := rfl
theorem b337_5 : blk 337 5 = [.aload 0, .ifnull 11339, .ifnonnull 12363, .iload 1, .aload 0, .iconst 1, .iconst 3, .invokeinterface 85856 3, .iastore, .aload 0, .iconst 59, .invokeinterface 85348 2, .return_] := rfl
theorem en337 {a0 : Int} : ent 337 [(3, a0)] = [(3, a0), (9, 0), (9, 0)] := rfl
theorem b338_0 : blk 338 0 = [.aload 0, .invokeinterface 83296 1, .ifCond .eq 1, .aload 0, .invokeinterface 84320 1, .ifCond .eq 1, .aload 0, .iload 1, .aload 0, .invokeinterface 84577 1, .invokeinterface 84832 3, .goto 2] := rfl
theorem b338_1 : blk 338 1 = [.iconst (-9), .goto 2] := rfl
theorem b338_2 : blk 338 2 = [.istore 2, .iload 2, .iconst (-9), .if_icmp .ne 3, .aload 0, .invokeinterface 85092 1, .iconst 0, .ireturn] := rfl
theorem b338_3 : blk 338 3 = [.aload 0, .invokeinterface 82276 1, .iload 2, .ireturn] := rfl
theorem en338 {a0 a1 : Int} : ent 338 [(3, a0), (0, a1)] = [(3, a0), (0, a1), (9, 0)] := rfl
theorem b339_0 : blk 339 0 = [.aload 0, .invokeinterface 82276 1, .aload 0, .iconst 6, .iconst 12, .invokeinterface 84064 3, .istore 1, .aload 0, .iconst 0, .jsr_w 11384, .aload 0, .iconst 0, .jsr_w 11416, .aload 0, .ifnull 11339, .ifnonnull 12395, .iload 1, .aload 0, .ifnull 11339, .ifnull 12408, .iastore, .aload 0, .iconst 40, .invokeinterface 85348 2, .aload 0, .invokeinterface 83296 1, .ifCond .eq 2, .aload 0, .iconst 41, .invokeinterface 85600 2, .ifCond .ne 2, .aload 0, .invokeinterface 87140 1, .goto 1] := rfl
theorem b339_1 : blk 339 1 = [.aload 0, .invokeinterface 83296 1, .ifCond .eq 2, .aload 0, .iconst 44, .invokeinterface 85600 2, .ifCond .eq 2, .aload 0, .invokeinterface 82276 1, .aload 0, .invokeinterface 87140 1, .goto 1] := rfl
theorem b339_2 : blk 339 2 = [.aload 0, .ifnull 11339, .ifnonnull 12379, .iload 1, .aload 0, .ifnull 11384, .iastore, .aload 0, .iconst 41, .invokeinterface 85348 2, .aload 0, .invokeinterface 87908 1, .aload 0, .iconst 29, .iconst 0, .iconst 0, .invokeinterface 88928 4, .pop, .iconst 0, .istore 2, .goto 3] := rfl
theorem b339_3 : blk 339 3 = [.iload 2, .aload 0, .ifnull 11416, .if_icmp .ge 5, .aload 0, .invokeinterface 83296 1, .ifCond .eq 5, .aload 0, .aload 0, .ifnonnull 11395, .iload 2, .laload, .invokeinterface 87392 2, .istore 3, .iload 3, .iconst (-9), .if_icmp .ne 4, .aload 0, .aload 0, .ifnonnull 11403, .iload 2, .iaload, .invokeinterface 93540 2, .goto 4] := rfl
theorem b339_4 : blk 339 4 = [.aload 0, .ifnull 11339, .ifnonnull 12427, .aload 0, .ifnonnull 11411, .iload 2, .iaload, .iload 3, .iastore, .iinc 2 1, .goto 3] := rfl
theorem b339_5 : blk 339 5 = [.aload 0, .ifnull 11339, .ifnonnull 12387, .iload 1, .aload 0, .ifnull 11384, .iastore, .return_] := rfl
theorem en339 {a0 : Int} : ent 339 [(3, a0)] = [(3, a0), (9, 0), (9, 0), (9, 0)] := rfl
theorem b340_0 : blk 340 0 = [.aload 0, .invokeinterface 83296 1, .ifCond .eq 1, .aload 0, .invokeinterface 84320 1, .ifCond .eq 1, .aload 0, .ifnull 11384, .iconst 4, .if_icmp .eq 1, .aload 0, .aload 0, .invokeinterface 84577 1, .invokeinterface 87392 2, .iconst (-9), .if_icmp .eq 2, .goto 1] := rfl
theorem b340_1 : blk 340 1 = [.aload 0, .invokeinterface 85092 1, .return_] := rfl
theorem b340_2 : blk 340 2 = [.aload 0, .aload 0, .invokeinterface 84577 1, .invokeinterface 87648 2, .pop, .aload 0, .invokeinterface 82276 1, .return_] := rfl
theorem en340 {a0 : Int} : ent 340 [(3, a0)] = [(3, a0)] := rfl
theorem b341_0 : blk 341 0 = [.iconst 0, .istore 3, .goto 1] := rfl
theorem b341_1 : blk 341 1 = [.iload 3, .aload 0, .ifnull 11384, .if_icmp .ge 3, .aload 0, .ifnonnull 11379, .iload 3, .laload, .lload 1, .lcmp, .ifCond .ne 2, .iload 3, .ireturn] := rfl
theorem b341_2 : blk 341 2 = [.iinc 3 1, .goto 1] := rfl
theorem b341_3 : blk 341 3 = [.iconst (-9), .ireturn] := rfl
theorem en341 {a0 a1 : Int} : ent 341 [(3, a0), (1, a1)] = [(3, a0), (1, a1), (9, 0), (9, 0)] := rfl
theorem b342_0 : blk 342 0 = [.aload 0, .lload 1, .invokeinterface 87392 2, .istore 3, .iload 3, .iconst (-9), .if_icmp .ne 1, .aload 0, .ifnull 11384, .istore 3, .aload 0, .ifnonnull 11379, .aload 0, .ifnull 11384, .lload 1, .lastore, .aload 0, .dup, .ifnull 11384, .iconst 1, .iadd, .jsr_w 11384, .goto 1] := rfl
theorem b342_1 : blk 342 1 = [.iload 3, .ireturn] := rfl
theorem en342 {a0 a1 : Int} : ent 342 [(3, a0), (1, a1)] = [(3, a0), (1, a1), (9, 0), (9, 0)] := rfl
theorem b343_0 : blk 343 0 = [.aload 0, .invokeinterface 88164 1, .aload 0, .iconst 123, .invokeinterface 85348 2, .goto 1] := rfl
theorem b343_1 : blk 343 1 = [.aload 0, .invokeinterface 83296 1, .ifCond .eq 2, .aload 0, .iconst 125, .invokeinterface 85600 2, .ifCond .ne 2, .aload 0, .invokeinterface 88420 1, .goto 1] := rfl
theorem b343_2 : blk 343 2 = [.aload 0, .iconst 125, .invokeinterface 85348 2, .aload 0, .dup, .ifnull 11360, .iconst 1, .isub, .jsr_w 11360, .return_] := rfl
theorem en343 {a0 : Int} : ent 343 [(3, a0)] = [(3, a0)] := rfl
theorem b344_0 : blk 344 0 = [.aload 0, .invokeinterface 83296 1, .ifCond .eq 1, .aload 0, .ifnull 11360, .iconst 12, .if_icmp .ne 1, .aload 0, .invokeinterface 85092 1, .goto 1] := rfl
theorem b344_1 : blk 344 1 = [.aload 0, .dup, .ifnull 11360, .iconst 1, .iadd, .jsr_w 11360, .return_] := rfl
theorem en344 {a0 : Int} : ent 344 [(3, a0)] = [(3, a0)] := rfl
theorem b345_0 : blk 345 0 = [.aload 0, .invokeinterface 84320 1, .ifCond .ne 1, .aload 0, .jsr (-3251), .invokeinterface 83808 2, .ifCond .ne 1, .aload 0, .jsr (-3379), .invokeinterface 83808 2, .ifCond .ne 1, .aload 0, .jsr (-3507), .invokeinterface 83808 2, .ifCond .ne 1, .aload 0, .jsr (-3635), .invokeinterface 83808 2, .ifCond .ne 1, .aload 0, .jsr (-3763), .invokeinterface 83808 2, .ifCond .ne 1, .aload 0, .jsr (-3891), .invokeinterface 83808 2, .ifCond .ne 1, .aload 0, .invokeinterface 85092 1, .goto 1] := rfl
theorem b345_1 : blk 345 1 = [.aload 0, .iconst 0, .invokeinterface 88676 2, .aload 0, .invokeinterface 83296 1, .ifCond .ne 2, .return_] := rfl
theorem b345_2 : blk 345 2 = [.aload 0, .iconst 0, .iconst 0, .iconst 0, .invokeinterface 88928 4, .pop, .aload 0, .jsr (-3251), .invokeinterface 83808 2, .ifCond .eq 3, .aload 0, .invokeinterface 89188 1, .goto 13] := rfl
theorem b345_3 : blk 345 3 = [.aload 0, .jsr (-3379), .invokeinterface 83808 2, .ifCond .eq 4, .aload 0, .invokeinterface 92260 1, .goto 13] := rfl
theorem b345_4 : blk 345 4 = [.aload 0, .jsr (-3507), .invokeinterface 83808 2, .ifCond .eq 5, .aload 0, .invokeinterface 92772 1, .goto 13] := rfl
theorem b345_5 : blk 345 5 = [.aload 0, .jsr (-3635), .invokeinterface 83808 2, .ifCond .eq 8, .aload 0, .invokeinterface 82276 1, .aload 0, .invokeinterface 93024 1, .istore 1, .iload 1, .iconst (-9), .if_icmp .ne 6, .aload 0, .invokeinterface 85092 1, .goto 7] := rfl
theorem b345_6 : blk 345 6 = [.aload 0, .invokeinterface 82276 1, .goto 7] := rfl
theorem b345_7 : blk 345 7 = [.aload 0, .iconst 59, .invokeinterface 85348 2, .aload 0, .iconst 26, .iload 1, .iconst 0, .invokeinterface 88928 4, .pop, .goto 13] := rfl
theorem b345_8 : blk 345 8 = [.aload 0, .jsr (-3763), .invokeinterface 83808 2, .ifCond .eq 9, .aload 0, .invokeinterface 82276 1, .aload 0, .invokeinterface 89444 1, .aload 0, .iconst 59, .invokeinterface 85348 2, .aload 0, .iconst 27, .iconst 0, .iconst 0, .invokeinterface 88928 4, .pop, .goto 13] := rfl
theorem b345_9 : blk 345 9 = [.aload 0, .jsr (-3891), .invokeinterface 83808 2, .ifCond .eq 12, .aload 0, .invokeinterface 82276 1, .aload 0, .invokeinterface 89444 1, .iconst 0, .istore 1, .goto 10] := rfl
theorem b345_10 : blk 345 10 = [.iload 1, .iconst 4, .if_icmp .ge 11, .aload 0, .iconst 44, .invokeinterface 85348 2, .aload 0, .invokeinterface 89444 1, .iinc 1 1, .goto 10] := rfl
theorem b345_11 : blk 345 11 = [.aload 0, .iconst 59, .invokeinterface 85348 2, .aload 0, .iconst 28, .iconst 0, .iconst 0, .invokeinterface 88928 4, .pop, .goto 13] := rfl
theorem b345_12 : blk 345 12 = [.aload 0, .invokeinterface 93284 1, .goto 13] := rfl
theorem b345_13 : blk 345 13 = [.return_] := rfl
theorem en345 {a0 : Int} : ent 345 [(3, a0)] = [(3, a0), (9, 0)] := rfl
theorem b346_0 : blk 346 0 = [.aload 0, .invokeinterface 83296 1, .ifCond .eq 2, .aload 0, .ifnull 11339, .ifnull 12400, .iconst 400, .if_icmp .eq 1, .iload 1, .ifCond .eq 2, .aload 0, .ifnull 11368, .iconst 30, .if_icmp .ne 2, .goto 1] := rfl
theorem b346_1 : blk 346 1 = [.aload 0, .invokeinterface 85092 1, .goto 2] := rfl
theorem b346_2 : blk 346 2 = [.aload 0, .invokeinterface 83296 1, .ifCond .eq 5, .aload 0, .ifnull 11339, .dup, .ifnull 12400, .iconst 1, .iadd, .jsr_w 12400, .aload 0, .dup, .ifnull 11368, .iload 1, .ifCond .eq 3, .iconst 1, .goto 4] := rfl
theorem b346_3 : blk 346 3 = [.iconst 0, .goto 4] := rfl
theorem b346_4 : blk 346 4 = [.iadd, .jsr_w 11368, .goto 5] := rfl
theorem b346_5 : blk 346 5 = [.return_] := rfl
theorem en346 {a0 a1 : Int} : ent 346 [(3, a0), (0, a1)] = [(3, a0), (0, a1)] := rfl
theorem b347_0 : blk 347 0 = [.aload 0, .ifnull 11339, .ifnull 12408, .istore 4, .aload 0, .ifnull 11339, .dup, .ifnull 12408, .iconst 1, .iadd, .jsr_w 12408, .aload 0, .ifnull 11339, .ifnonnull 12419, .iload 4, .iload 1, .iastore, .aload 0, .ifnull 11339, .ifnonnull 12427, .iload 4, .iload 2, .iastore, .aload 0, .ifnull 11339, .ifnonnull 12435, .iload 4, .iload 3, .iastore, .iload 4, .ireturn] := rfl
theorem en347 {a0 a1 a2 a3 : Int} : ent 347 [(3, a0), (0, a1), (0, a2), (0, a3)] = [(3, a0), (0, a1), (0, a2), (0, a3), (9, 0)] := rfl
theorem b348_0 : blk 348 0 = [.aload 0, .invokeinterface 82276 1, .aload 0, .invokeinterface 89444 1, .aload 0, .iconst 19, .iconst 0, .iconst 0, .invokeinterface 88928 4, .istore 1, .aload 0, .invokeinterface 87908 1, .aload 0, .invokeinterface 83296 1, .ifCond .eq 1, .aload 0, .jsr (-1459), .invokeinterface 83808 2, .ifCond .eq 1, .aload 0, .invokeinterface 82276 1, .aload 0, .iconst 20, .iconst 0, .iconst 0, .invokeinterface 88928 4, .istore 2, .aload 0, .ifnull 11339, .ifnonnull 12427, .iload 1, .aload 0, .ifnull 11339, .ifnull 12408, .iastore, .aload 0, .invokeinterface 87908 1, .aload 0, .ifnull 11339, .ifnonnull 12427, .iload 2, .aload 0, .ifnull 11339, .ifnull 12408, .iastore, .goto 2] := rfl
theorem b348_1 : blk 348 1 = [.aload 0, .ifnull 11339, .ifnonnull 12427, .iload 1, .aload 0, .ifnull 11339, .ifnull 12408, .iastore, .goto 2] := rfl
theorem b348_2 : blk 348 2 = [.return_] := rfl
theorem en348 {a0 : Int} : ent 348 [(3, a0)] = [(3, a0), (9, 0), (9, 0)] := rfl
theorem b349_0 : blk 349 0 = [.aload 0, .iconst 0, .jsr_w 11368, .aload 0, .invokeinterface 89700 1, .return_] := rfl
theorem en349 {a0 : Int} : ent 349 [(3, a0)] = [(3, a0)] := rfl
theorem b350_0 : blk 350 0 = [.aload 0, .invokeinterface 89956 1, .aload 0, .invokeinterface 83296 1, .ifCond .eq 3, .aload 0, .iconst 60, .invokeinterface 85600 2, .ifCond .ne 1, .aload 0, .iconst 62, .invokeinterface 85600 2, .ifCond .ne 1, .aload 0, .iconst 61, .invokeinterface 85600 2, .ifCond .eq 3, .goto 1] := rfl
theorem b350_1 : blk 350 1 = [.aload 0, .ifnonnull 11267, .aload 0, .ifnull 11288, .baload, .istore 1, .aload 0, .iconst 1, .invokeinterface 88676 2, .aload 0, .invokeinterface 83296 1, .ifCond .eq 2, .aload 0, .invokeinterface 82276 1, .goto 2] := rfl
theorem b350_2 : blk 350 2 = [.aload 0, .invokeinterface 89956 1, .aload 0, .iconst 8, .iload 1, .iconst 0, .invokeinterface 88928 4, .pop, .goto 3] := rfl
theorem b350_3 : blk 350 3 = [.return_] := rfl
theorem en350 {a0 : Int} : ent 350 [(3, a0)] = [(3, a0), (9, 0)] := rfl
theorem b351_0 : blk 351 0 = [.aload 0, .invokeinterface 90212 1, .goto 1] := rfl
theorem b351_1 : blk 351 1 = [.aload 0, .invokeinterface 83296 1, .ifCond .eq 4, .aload 0, .iconst 43, .invokeinterface 85600 2, .ifCond .ne 2, .aload 0, .iconst 45, .invokeinterface 85600 2, .ifCond .eq 4, .goto 2] := rfl
theorem b351_2 : blk 351 2 = [.aload 0, .ifnonnull 11267, .aload 0, .ifnull 11288, .baload, .istore 1, .aload 0, .iconst 1, .invokeinterface 88676 2, .aload 0, .invokeinterface 83296 1, .ifCond .eq 3, .aload 0, .invokeinterface 82276 1, .goto 3] := rfl
theorem b351_3 : blk 351 3 = [.aload 0, .invokeinterface 90212 1, .aload 0, .iconst 8, .iload 1, .iconst 0, .invokeinterface 88928 4, .pop, .goto 1] := rfl
theorem b351_4 : blk 351 4 = [.return_] := rfl
theorem en351 {a0 : Int} : ent 351 [(3, a0)] = [(3, a0), (9, 0)] := rfl
theorem b352_0 : blk 352 0 = [.aload 0, .invokeinterface 90468 1, .goto 1] := rfl
theorem b352_1 : blk 352 1 = [.aload 0, .invokeinterface 83296 1, .ifCond .eq 4, .aload 0, .iconst 42, .invokeinterface 85600 2, .ifCond .ne 2, .aload 0, .iconst 47, .invokeinterface 85600 2, .ifCond .ne 2, .aload 0, .iconst 37, .invokeinterface 85600 2, .ifCond .eq 4, .goto 2] := rfl
theorem b352_2 : blk 352 2 = [.aload 0, .ifnonnull 11267, .aload 0, .ifnull 11288, .baload, .istore 1, .aload 0, .iconst 1, .invokeinterface 88676 2, .aload 0, .invokeinterface 83296 1, .ifCond .eq 3, .aload 0, .invokeinterface 82276 1, .goto 3] := rfl
theorem b352_3 : blk 352 3 = [.aload 0, .invokeinterface 90468 1, .aload 0, .iconst 8, .iload 1, .iconst 0, .invokeinterface 88928 4, .pop, .goto 1] := rfl
theorem b352_4 : blk 352 4 = [.return_] := rfl
theorem en352 {a0 : Int} : ent 352 [(3, a0)] = [(3, a0), (9, 0)] := rfl
theorem b353_0 : blk 353 0 = [.aload 0, .invokeinterface 83296 1, .ifCond .ne 1, .return_] := rfl
theorem b353_1 : blk 353 1 = [.aload 0, .iconst 45, .invokeinterface 85600 2, .ifCond .eq 3, .aload 0, .iconst 1, .invokeinterface 88676 2, .aload 0, .invokeinterface 88164 1, .aload 0, .invokeinterface 83296 1, .ifCond .eq 2, .aload 0, .invokeinterface 82276 1, .goto 2] := rfl
theorem b353_2 : blk 353 2 = [.aload 0, .invokeinterface 90468 1, .aload 0, .dup, .ifnull 11360, .iconst 1, .isub, .jsr_w 11360, .aload 0, .iconst 9, .iconst 0, .iconst 0, .invokeinterface 88928 4, .pop, .return_] := rfl
theorem b353_3 : blk 353 3 = [.aload 0, .invokeinterface 90724 1, .goto 4] := rfl
theorem b353_4 : blk 353 4 = [.aload 0, .invokeinterface 83296 1, .ifCond .eq 6, .aload 0, .iconst 91, .invokeinterface 85600 2, .ifCond .eq 6, .aload 0, .iconst 1, .invokeinterface 88676 2, .aload 0, .invokeinterface 88164 1, .aload 0, .invokeinterface 83296 1, .ifCond .eq 5, .aload 0, .invokeinterface 82276 1, .goto 5] := rfl
theorem b353_5 : blk 353 5 = [.aload 0, .invokeinterface 89700 1, .aload 0, .iconst 93, .invokeinterface 85348 2, .aload 0, .dup, .ifnull 11360, .iconst 1, .isub, .jsr_w 11360, .aload 0, .iconst 10, .iconst 0, .iconst 0, .invokeinterface 88928 4, .pop, .goto 4] := rfl
theorem b353_6 : blk 353 6 = [.return_] := rfl
theorem en353 {a0 : Int} : ent 353 [(3, a0)] = [(3, a0)] := rfl
theorem b354_0 : blk 354 0 = [.aload 0, .ifnull 11280, .iconst 2, .if_icmp .ne 1, .aload 0, .iconst 1, .invokeinterface 88676 2, .aload 0, .iconst 1, .aload 0, .ifnull 11304, .iconst 0, .invokeinterface 88928 4, .pop, .aload 0, .invokeinterface 90980 1, .goto 7] := rfl
theorem b354_1 : blk 354 1 = [.aload 0, .ifnull 11280, .iconst 3, .if_icmp .ne 3, .aload 0, .iconst 1, .invokeinterface 88676 2, .aload 0, .invokeinterface 83296 1, .ifCond .eq 2, .aload 0, .ifnull 11339, .ifnonnull 12443, .aload 0, .ifnull 11339, .ifnull 12448, .aload 0, .ifnull 11314, .dastore, .aload 0, .iconst 2, .aload 0, .ifnull 11339, .ifnull 12448, .iconst 0, .invokeinterface 88928 4, .pop, .aload 0, .ifnull 11339, .dup, .ifnull 12448, .iconst 1, .iadd, .jsr_w 12448, .goto 2] := rfl
theorem b354_2 : blk 354 2 = [.aload 0, .invokeinterface 90980 1, .goto 7] := rfl
theorem b354_3 : blk 354 3 = [.aload 0, .jsr (-1331), .invokeinterface 83808 2, .ifCond .eq 4, .aload 0, .iconst 1, .invokeinterface 88676 2, .aload 0, .iconst 3, .iconst 0, .iconst 0, .invokeinterface 88928 4, .pop, .aload 0, .invokeinterface 90980 1, .goto 7] := rfl
theorem b354_4 : blk 354 4 = [.aload 0, .iconst 40, .invokeinterface 85600 2, .ifCond .eq 5, .aload 0, .iconst 1, .invokeinterface 91236 2, .goto 7] := rfl
theorem b354_5 : blk 354 5 = [.aload 0, .invokeinterface 84320 1, .ifCond .eq 6, .aload 0, .invokeinterface 91492 1, .goto 7] := rfl
theorem b354_6 : blk 354 6 = [.aload 0, .invokeinterface 92004 1, .goto 7] := rfl
theorem b354_7 : blk 354 7 = [.return_] := rfl
theorem en354 {a0 : Int} : ent 354 [(3, a0)] = [(3, a0)] := rfl
theorem b355_0 : blk 355 0 = [.aload 0, .invokeinterface 83296 1, .ifCond .eq 1, .aload 0, .invokeinterface 82276 1, .goto 1] := rfl
theorem b355_1 : blk 355 1 = [.return_] := rfl
theorem en355 {a0 : Int} : ent 355 [(3, a0)] = [(3, a0)] := rfl
theorem b356_0 : blk 356 0 = [.aload 0, .invokeinterface 83296 1, .ifCond .eq 1, .aload 0, .iconst 40, .invokeinterface 85600 2, .ifCond .eq 1, .aload 0, .invokeinterface 88164 1, .goto 1] := rfl
theorem b356_1 : blk 356 1 = [.aload 0, .iconst 40, .invokeinterface 85348 2, .iconst 0, .istore 2, .goto 2] := rfl
theorem b356_2 : blk 356 2 = [.iload 2, .iload 1, .if_icmp .ge 4, .iload 2, .ifCond .le 3, .aload 0, .iconst 44, .invokeinterface 85348 2, .goto 3] := rfl
theorem b356_3 : blk 356 3 = [.aload 0, .invokeinterface 89700 1, .iinc 2 1, .goto 2] := rfl
theorem b356_4 : blk 356 4 = [.aload 0, .iconst 41, .invokeinterface 85348 2, .aload 0, .dup, .ifnull 11360, .iconst 1, .isub, .jsr_w 11360, .return_] := rfl
theorem en356 {a0 a1 : Int} : ent 356 [(3, a0), (0, a1)] = [(3, a0), (0, a1), (9, 0)] := rfl
theorem b357_0 : blk 357 0 = [.aload 0, .iconst 1, .invokeinterface 88676 2, .aload 0, .invokeinterface 84577 1, .lstore 1, .aload 0, .ifnull 11288, .istore 3, .aload 0, .invokeinterface 90980 1, .aload 0, .invokeinterface 83296 1, .ifCond .ne 1, .return_] := rfl
theorem b357_1 : blk 357 1 = [.aload 0, .iconst 40, .invokeinterface 85600 2, .ifCond .ne 2, .aload 0, .lload 1, .iload 3, .aload 0, .iconst 4, .iconst 0, .iconst 0, .invokeinterface 88928 4, .invokeinterface 91748 4, .return_] := rfl
theorem b357_2 : blk 357 2 = [.aload 0, .invokeinterface 88164 1, .aload 0, .iconst 40, .invokeinterface 85348 2, .iconst 0, .istore 4, .aload 0, .invokeinterface 83296 1, .ifCond .eq 4, .aload 0, .iconst 41, .invokeinterface 85600 2, .ifCond .ne 4, .aload 0, .invokeinterface 89700 1, .iconst 1, .istore 4, .goto 3] := rfl
theorem b357_3 : blk 357 3 = [.aload 0, .invokeinterface 83296 1, .ifCond .eq 4, .aload 0, .iconst 44, .invokeinterface 85600 2, .ifCond .eq 4, .aload 0, .invokeinterface 82276 1, .aload 0, .invokeinterface 89700 1, .iinc 4 1, .goto 3] := rfl
theorem b357_4 : blk 357 4 = [.aload 0, .iconst 41, .invokeinterface 85348 2, .aload 0, .dup, .ifnull 11360, .iconst 1, .isub, .jsr_w 11360, .aload 0, .invokeinterface 83296 1, .ifCond .eq 5, .aload 0, .ifnonnull 11427, .aload 0, .ifnull 11456, .lload 1, .lastore, .aload 0, .ifnonnull 11435, .aload 0, .ifnull 11456, .iload 3, .iastore, .aload 0, .ifnonnull 11451, .aload 0, .ifnull 11456, .iload 4, .iastore, .aload 0, .ifnonnull 11443, .aload 0, .ifnull 11456, .aload 0, .iconst 7, .iconst 0, .iconst 0, .invokeinterface 88928 4, .iastore, .aload 0, .dup, .ifnull 11456, .iconst 1, .iadd, .jsr_w 11456, .goto 5] := rfl
theorem b357_5 : blk 357 5 = [.return_] := rfl
theorem en357 {a0 : Int} : ent 357 [(3, a0)] = [(3, a0), (9, 0), (9, 0), (9, 0), (9, 0)] := rfl
theorem b358_0 : blk 358 0 = [.aload 0, .ifnonnull 11395, .aload 0, .ifnull 11416, .lload 1, .lastore, .aload 0, .ifnonnull 11403, .aload 0, .ifnull 11416, .iload 3, .iastore, .aload 0, .ifnonnull 11411, .aload 0, .ifnull 11416, .iload 4, .iastore, .aload 0, .dup, .ifnull 11416, .iconst 1, .iadd, .jsr_w 11416, .return_] := rfl
theorem en358 {a0 a1 a2 a3 : Int} : ent 358 [(3, a0), (1, a1), (0, a2), (0, a3)] = [(3, a0), (1, a1), (9, 0), (0, a2), (0, a3)] := rfl
theorem b359_0 : blk 359 0 = [.aload 0, .jsr (-4915), .invokeinterface 83808 2, .ifCond .ne 1, .aload 0, .jsr (-5043), .invokeinterface 83808 2, .ifCond .ne 1, .aload 0, .jsr (-5171), .invokeinterface 83808 2, .ifCond .ne 1, .aload 0, .jsr (-5299), .invokeinterface 83808 2, .ifCond .eq 2, .goto 1] := rfl
theorem b359_1 : blk 359 1 = [.iconst 11, .goto 10] := rfl
theorem b359_2 : blk 359 2 = [.aload 0, .jsr (-4531), .invokeinterface 83808 2, .ifCond .eq 3, .iconst 12, .goto 10] := rfl
theorem b359_3 : blk 359 3 = [.aload 0, .jsr (-5427), .invokeinterface 83808 2, .ifCond .eq 4, .iconst 13, .goto 10] := rfl
theorem b359_4 : blk 359 4 = [.aload 0, .jsr (-5555), .invokeinterface 83808 2, .ifCond .eq 5, .iconst 14, .goto 10] := rfl
theorem b359_5 : blk 359 5 = [.aload 0, .jsr (-5683), .invokeinterface 83808 2, .ifCond .eq 6, .iconst 15, .goto 10] := rfl
theorem b359_6 : blk 359 6 = [.aload 0, .jsr (-5811), .invokeinterface 83808 2, .ifCond .eq 7, .iconst 16, .goto 10] := rfl
theorem b359_7 : blk 359 7 = [.aload 0, .jsr (-5939), .invokeinterface 83808 2, .ifCond .eq 8, .iconst 17, .goto 10] := rfl
theorem b359_8 : blk 359 8 = [.aload 0, .jsr (-6067), .invokeinterface 83808 2, .ifCond .eq 9, .iconst 18, .goto 10] := rfl
theorem b359_9 : blk 359 9 = [.iconst (-9), .goto 10] := rfl
theorem b359_10 : blk 359 10 = [.istore 1, .iload 1, .iconst (-9), .if_icmp .ne 11, .aload 0, .invokeinterface 85092 1, .return_] := rfl
theorem b359_11 : blk 359 11 = [.aload 0, .jsr (-4915), .invokeinterface 83808 2, .ifCond .eq 12, .iconst 4, .goto 15] := rfl
theorem b359_12 : blk 359 12 = [.aload 0, .jsr (-5043), .invokeinterface 83808 2, .ifCond .eq 13, .iconst 5, .goto 15] := rfl
theorem b359_13 : blk 359 13 = [.aload 0, .jsr (-5171), .invokeinterface 83808 2, .ifCond .eq 14, .iconst 6, .goto 15] := rfl
theorem b359_14 : blk 359 14 = [.iconst 7, .goto 15] := rfl
theorem b359_15 : blk 359 15 = [.istore 2, .aload 0, .iconst 1, .invokeinterface 88676 2, .aload 0, .invokeinterface 90980 1, .aload 0, .iload 1, .iconst 17, .if_icmp .eq 16, .iload 1, .iconst 18, .if_icmp .ne 17, .goto 16] := rfl
theorem b359_16 : blk 359 16 = [.iconst 2, .goto 18] := rfl
theorem b359_17 : blk 359 17 = [.iconst 1, .goto 18] := rfl
theorem b359_18 : blk 359 18 = [.invokeinterface 91236 2, .aload 0, .iload 1, .iload 2, .iconst 0, .invokeinterface 88928 4, .pop, .return_] := rfl
theorem en359 {a0 : Int} : ent 359 [(3, a0)] = [(3, a0), (9, 0), (9, 0)] := rfl
theorem b360_0 : blk 360 0 = [.aload 0, .invokeinterface 82276 1, .aload 0, .invokeinterface 84320 1, .ifCond .ne 1, .aload 0, .invokeinterface 85092 1, .goto 1] := rfl
theorem b360_1 : blk 360 1 = [.aload 0, .invokeinterface 83296 1, .ifCond .eq 2, .aload 0, .aload 0, .invokeinterface 84577 1, .invokeinterface 87648 2, .goto 3] := rfl
theorem b360_2 : blk 360 2 = [.iconst 0, .goto 3] := rfl
theorem b360_3 : blk 360 3 = [.istore 1, .aload 0, .invokeinterface 83296 1, .ifCond .eq 4, .aload 0, .invokeinterface 82276 1, .goto 4] := rfl
theorem b360_4 : blk 360 4 = [.aload 0, .jsr (-1587), .invokeinterface 92516 2, .aload 0, .invokeinterface 89444 1, .aload 0, .ifnull 11339, .ifnull 12456, .istore 2, .aload 0, .ifnull 11339, .dup, .ifnull 12456, .iconst 1, .iadd, .jsr_w 12456, .aload 0, .iconst 21, .iload 2, .iconst 0, .invokeinterface 88928 4, .pop, .aload 0, .iconst 22, .iload 2, .iload 1, .invokeinterface 88928 4, .istore 3, .aload 0, .iconst 20, .iconst 0, .iconst 0, .invokeinterface 88928 4, .pop, .aload 0, .invokeinterface 87908 1, .aload 0, .iconst 20, .iload 3, .iconst 0, .invokeinterface 88928 4, .pop, .aload 0, .ifnull 11339, .ifnonnull 12427, .iload 3, .iconst 1, .iadd, .aload 0, .ifnull 11339, .ifnull 12408, .iastore, .return_] := rfl
theorem en360 {a0 : Int} : ent 360 [(3, a0)] = [(3, a0), (9, 0), (9, 0), (9, 0)] := rfl
theorem b361_0 : blk 361 0 = [.aload 0, .invokeinterface 83296 1, .ifCond .eq 1, .aload 0, .aload 1, .invokeinterface 83808 2, .ifCond .eq 1, .aload 0, .invokeinterface 82276 1, .goto 2] := rfl
theorem b361_1 : blk 361 1 = [.aload 0, .invokeinterface 85092 1, .goto 2] := rfl
theorem b361_2 : blk 361 2 = [.return_] := rfl
theorem en361 {a0 a1 : Int} : ent 361 [(3, a0), (3, a1)] = [(3, a0), (3, a1)] := rfl
theorem b362_0 : blk 362 0 = [.aload 0, .invokeinterface 82276 1, .aload 0, .ifnull 11339, .ifnull 12464, .istore 1, .aload 0, .ifnull 11339, .dup, .ifnull 12464, .iconst 1, .iadd, .jsr_w 12464, .iconst 0, .istore 2, .goto 1] := rfl
theorem b362_1 : blk 362 1 = [.iload 2, .iconst 8, .if_icmp .ge 2, .aload 0, .ifnull 11339, .ifnonnull 12475, .iconst 8, .iload 1, .imul, .iload 2, .iadd, .iconst (-9), .iastore, .iinc 2 1, .goto 1] := rfl
theorem b362_2 : blk 362 2 = [.aload 0, .ifnull 11339, .ifnonnull 12483, .iload 1, .iconst (-9), .iastore, .aload 0, .iconst 23, .iload 1, .iconst 0, .invokeinterface 88928 4, .pop, .aload 0, .invokeinterface 87908 1, .aload 0, .iconst 24, .iload 1, .iconst 0, .invokeinterface 88928 4, .pop, .goto 3] := rfl
theorem b362_3 : blk 362 3 = [.aload 0, .invokeinterface 83296 1, .ifCond .eq 7, .aload 0, .jsr (-1715), .invokeinterface 83808 2, .ifCond .eq 7, .aload 0, .invokeinterface 82276 1, .aload 0, .invokeinterface 93024 1, .istore 2, .iload 2, .iconst (-9), .if_icmp .eq 4, .aload 0, .ifnull 11339, .ifnonnull 12475, .iconst 8, .iload 1, .imul, .iload 2, .iadd, .iaload, .iconst (-9), .if_icmp .eq 5, .goto 4] := rfl
theorem b362_4 : blk 362 4 = [.aload 0, .invokeinterface 85092 1, .goto 6] := rfl
theorem b362_5 : blk 362 5 = [.aload 0, .invokeinterface 82276 1, .aload 0, .ifnull 11339, .ifnonnull 12475, .iconst 8, .iload 1, .imul, .iload 2, .iadd, .aload 0, .ifnull 11339, .ifnull 12408, .iastore, .goto 6] := rfl
theorem b362_6 : blk 362 6 = [.aload 0, .invokeinterface 87908 1, .aload 0, .iconst 24, .iload 1, .iconst 0, .invokeinterface 88928 4, .pop, .goto 3] := rfl
theorem b362_7 : blk 362 7 = [.aload 0, .invokeinterface 83296 1, .ifCond .eq 8, .aload 0, .jsr (-1843), .invokeinterface 83808 2, .ifCond .eq 8, .aload 0, .invokeinterface 82276 1, .aload 0, .ifnull 11339, .ifnonnull 12483, .iload 1, .aload 0, .ifnull 11339, .ifnull 12408, .iastore, .aload 0, .invokeinterface 87908 1, .aload 0, .iconst 25, .iload 1, .iconst 0, .invokeinterface 88928 4, .pop, .goto 8] := rfl
theorem b362_8 : blk 362 8 = [.iconst 0, .istore 2, .goto 9] := rfl
theorem b362_9 : blk 362 9 = [.iload 2, .aload 0, .ifnull 11339, .ifnull 12408, .if_icmp .ge 11, .aload 0, .ifnull 11339, .ifnonnull 12419, .iload 2, .iaload, .iconst 24, .if_icmp .ne 10, .aload 0, .ifnull 11339, .ifnonnull 12427, .iload 2, .iaload, .iload 1, .if_icmp .ne 10, .aload 0, .ifnull 11339, .ifnonnull 12435, .iload 2, .aload 0, .ifnull 11339, .ifnull 12408, .iastore, .goto 10] := rfl
theorem b362_10 : blk 362 10 = [.iinc 2 1, .goto 9] := rfl
theorem b362_11 : blk 362 11 = [.return_] := rfl
theorem en362 {a0 : Int} : ent 362 [(3, a0)] = [(3, a0), (9, 0), (9, 0)] := rfl
theorem b363_0 : blk 363 0 = [.aload 0, .jsr (-4019), .invokeinterface 83808 2, .ifCond .eq 1, .iconst 1, .goto 8] := rfl
theorem b363_1 : blk 363 1 = [.aload 0, .jsr (-4147), .invokeinterface 83808 2, .ifCond .eq 2, .iconst 2, .goto 8] := rfl
theorem b363_2 : blk 363 2 = [.aload 0, .jsr (-4275), .invokeinterface 83808 2, .ifCond .eq 3, .iconst 3, .goto 8] := rfl
theorem b363_3 : blk 363 3 = [.aload 0, .jsr (-4403), .invokeinterface 83808 2, .ifCond .eq 4, .iconst 4, .goto 8] := rfl
theorem b363_4 : blk 363 4 = [.aload 0, .jsr (-4531), .invokeinterface 83808 2, .ifCond .eq 5, .iconst 5, .goto 8] := rfl
theorem b363_5 : blk 363 5 = [.aload 0, .jsr (-4659), .invokeinterface 83808 2, .ifCond .eq 6, .iconst 6, .goto 8] := rfl
theorem b363_6 : blk 363 6 = [.aload 0, .jsr (-4787), .invokeinterface 83808 2, .ifCond .eq 7, .iconst 7, .goto 8] := rfl
theorem b363_7 : blk 363 7 = [.iconst (-9), .goto 8] := rfl
theorem b363_8 : blk 363 8 = [.ireturn] := rfl
theorem en363 {a0 : Int} : ent 363 [(3, a0)] = [(3, a0)] := rfl
theorem b364_0 : blk 364 0 = [.aload 0, .invokeinterface 84577 1, .lstore 1, .aload 0, .ifnull 11288, .istore 3, .aload 0, .invokeinterface 82276 1, .aload 0, .iconst 91, .invokeinterface 85600 2, .ifCond .eq 1, .aload 0, .invokeinterface 88164 1, .aload 0, .invokeinterface 82276 1, .aload 0, .invokeinterface 89444 1, .aload 0, .iconst 93, .invokeinterface 85348 2, .aload 0, .dup, .ifnull 11360, .iconst 1, .isub, .jsr_w 11360, .aload 0, .iconst 61, .invokeinterface 85348 2, .aload 0, .invokeinterface 89444 1, .aload 0, .iconst 59, .invokeinterface 85348 2, .aload 0, .lload 1, .iload 3, .aload 0, .iconst 6, .iconst 0, .iconst 0, .invokeinterface 88928 4, .invokeinterface 91748 4, .return_] := rfl
theorem b364_1 : blk 364 1 = [.aload 0, .iconst 61, .invokeinterface 85348 2, .aload 0, .invokeinterface 83296 1, .ifCond .eq 2, .aload 0, .lload 1, .invokeinterface 87648 2, .goto 3] := rfl
theorem b364_2 : blk 364 2 = [.iconst 0, .goto 3] := rfl
theorem b364_3 : blk 364 3 = [.istore 4, .aload 0, .invokeinterface 89444 1, .aload 0, .iconst 59, .invokeinterface 85348 2, .aload 0, .iconst 5, .iload 4, .iconst 0, .invokeinterface 88928 4, .pop, .return_] := rfl
theorem en364 {a0 : Int} : ent 364 [(3, a0)] = [(3, a0), (9, 0), (9, 0), (9, 0), (9, 0)] := rfl
theorem b365_0 : blk 365 0 = [.aload 0, .aload 0, .ifnull 11328, .ifCond .lt 1, .iload 1, .aload 0, .ifnull 11328, .if_icmp .ge 2, .goto 1] := rfl
theorem b365_1 : blk 365 1 = [.iload 1, .goto 3] := rfl
theorem b365_2 : blk 365 2 = [.aload 0, .ifnull 11328, .goto 3] := rfl
theorem b365_3 : blk 365 3 = [.jsr_w 11328, .return_] := rfl
theorem en365 {a0 a1 : Int} : ent 365 [(3, a0), (0, a1)] = [(3, a0), (0, a1)] := rfl
theorem b366_0 : blk 366 0 = [.aload 0, .iconst 0, .jsr_w 11464, .iconst 0, .istore 1, .goto 1] := rfl
theorem b366_1 : blk 366 1 = [.iload 1, .aload 0, .ifnull 11339, .ifnonnull 12291, .iconst 2, .iaload, .if_icmp .ge 2, .aload 0, .aload 0, .ifnull 11339, .ifnonnull 12315, .iload 1, .iaload, .iload 1, .iconst (-9), .invokeinterface 94048 4, .pop, .iinc 1 1, .goto 1] := rfl
theorem b366_2 : blk 366 2 = [.aload 0, .iconst 0, .jsr_w 11688, .aload 0, .iconst 0, .jsr_w 11728, .aload 0, .iconst (-9), .jsr_w 11752, .iconst 0, .istore 1, .goto 3] := rfl
theorem b366_3 : blk 366 3 = [.iload 1, .iconst 240, .if_icmp .ge 4, .aload 0, .ifnonnull 11811, .iload 1, .iconst 0, .iastore, .iinc 1 1, .goto 3] := rfl
theorem b366_4 : blk 366 4 = [.iconst 0, .istore 1, .goto 5] := rfl
theorem b366_5 : blk 366 5 = [.iload 1, .iconst 10, .if_icmp .ge 6, .aload 0, .ifnonnull 11795, .iload 1, .iconst 0, .iastore, .aload 0, .ifnonnull 11803, .iload 1, .iconst 0, .iastore, .iinc 1 1, .goto 5] := rfl
theorem b366_6 : blk 366 6 = [.aload 0, .iconst 0, .jsr_w 11820, .aload 0, .iconst 0, .jsr_w 11828, .aload 0, .iconst 0, .jsr_w 11836, .aload 0, .iconst 0, .jsr_w 11956, .return_] := rfl
theorem en366 {a0 : Int} : ent 366 [(3, a0)] = [(3, a0), (9, 0)] := rfl
theorem b367_0 : blk 367 0 = [.aload 0, .ifnull 11464, .istore 4, .aload 0, .dup, .ifnull 11464, .iconst 1, .iadd, .jsr_w 11464, .aload 0, .ifnonnull 11475, .iload 4, .iload 1, .iastore, .aload 0, .ifnonnull 11483, .iload 4, .iload 2, .iastore, .aload 0, .ifnonnull 11491, .iload 4, .iload 3, .iastore, .iconst 0, .istore 5, .goto 1] := rfl
theorem b367_1 : blk 367 1 = [.iload 5, .iconst 8, .if_icmp .ge 2, .aload 0, .ifnonnull 11499, .iconst 8, .iload 4, .imul, .iload 5, .iadd, .iconst (-9), .iastore, .iinc 5 1, .goto 1] := rfl
theorem b367_2 : blk 367 2 = [.aload 0, .ifnonnull 11923, .iload 4, .iconst 0, .iastore, .iconst 0, .istore 5, .goto 3] := rfl
theorem b367_3 : blk 367 3 = [.iload 5, .iconst 8, .if_icmp .ge 4, .aload 0, .ifnonnull 11939, .iconst 8, .iload 4, .imul, .iload 5, .iadd, .iconst 0, .iastore, .iinc 5 1, .goto 3] := rfl
theorem b367_4 : blk 367 4 = [.aload 0, .ifnonnull 11947, .iload 4, .iconst (-9), .iastore, .iload 4, .ireturn] := rfl
theorem en367 {a0 a1 a2 a3 : Int} : ent 367 [(3, a0), (0, a1), (0, a2), (0, a3)] = [(3, a0), (0, a1), (0, a2), (0, a3), (9, 0), (9, 0)] := rfl
theorem b368_0 : blk 368 0 = [.iload 1, .iconst 0, .aload 0, .ifnull 11339, .ifnonnull 12291, .iconst 3, .iaload, .iconst 1, .isub, .invokeinterface 94464 3, .ifCond .eq 1, .iload 2, .iconst (-99), .iconst 99, .invokeinterface 94464 3, .ifCond .ne 2, .goto 1] := rfl
theorem b368_1 : blk 368 1 = [.iconst (-1), .ireturn] := rfl
theorem b368_2 : blk 368 2 = [.iconst 0, .istore 3, .iconst 0, .istore 4, .goto 3] := rfl
theorem b368_3 : blk 368 3 = [.iload 4, .aload 0, .ifnull 11464, .if_icmp .ge 6, .iload 3, .aload 0, .ifnonnull 11475, .iload 4, .iaload, .ifCond .ne 4, .aload 0, .ifnonnull 11491, .iload 4, .iaload, .iload 1, .if_icmp .ne 4, .iconst 1, .goto 5] := rfl
theorem b368_4 : blk 368 4 = [.iconst 0, .goto 5] := rfl
theorem b368_5 : blk 368 5 = [.iadd, .istore 3, .iinc 4 1, .goto 3] := rfl
theorem b368_6 : blk 368 6 = [.iload 3, .aload 0, .ifnull 11339, .ifnonnull 12331, .iload 1, .iaload, .if_icmp .lt 7, .iconst (-2), .ireturn] := rfl
theorem b368_7 : blk 368 7 = [.aload 0, .ifnull 11464, .iconst 24, .if_icmp .ne 8, .iconst (-3), .ireturn] := rfl
theorem b368_8 : blk 368 8 = [.aload 0, .iconst (-9), .jsr_w 11752, .aload 0, .iconst 0, .iload 2, .iload 1, .invokeinterface 94048 4, .ireturn] := rfl
theorem en368 {a0 a1 a2 : Int} : ent 368 [(3, a0), (0, a1), (0, a2)] = [(3, a0), (0, a1), (0, a2), (9, 0), (9, 0)] := rfl
theorem b369_0 : blk 369 0 = [.iload 0, .iload 1, .if_icmp .lt 1, .iload 0, .iload 2, .if_icmp .gt 1, .iconst 1, .goto 2] := rfl
theorem b369_1 : blk 369 1 = [.iconst 0, .goto 2] := rfl
theorem b369_2 : blk 369 2 = [.freturn] := rfl
theorem en369 {a0 a1 a2 : Int} : ent 369 [(0, a0), (0, a1), (0, a2)] = [(0, a0), (0, a1), (0, a2)] := rfl
theorem b370_0 : blk 370 0 = [.iload 1, .iconst (-99), .iconst 99, .invokeinterface 94464 3, .ifCond .ne 1, .iconst (-1), .ireturn] := rfl
theorem b370_1 : blk 370 1 = [.aload 0, .ifnull 11464, .iconst 24, .if_icmp .ne 2, .iconst (-3), .goto 3] := rfl
theorem b370_2 : blk 370 2 = [.aload 0, .iconst 1, .iload 1, .iconst (-9), .invokeinterface 94048 4, .goto 3] := rfl
theorem b370_3 : blk 370 3 = [.ireturn] := rfl
theorem en370 {a0 a1 : Int} : ent 370 [(3, a0), (0, a1)] = [(3, a0), (0, a1)] := rfl
theorem b371_0 : blk 371 0 = [.aload 0, .iload 1, .invokeinterface 95328 2, .ifCond .eq 1, .iload 2, .iconst 0, .iconst 2, .invokeinterface 94464 3, .ifCond .ne 2, .goto 1] := rfl
theorem b371_1 : blk 371 1 = [.iconst (-100), .ireturn] := rfl
theorem b371_2 : blk 371 2 = [.iload 2, .ifCond .ne 3, .aload 0, .ifnonnull 11475, .iload 1, .iaload, .goto 5] := rfl
theorem b371_3 : blk 371 3 = [.iload 2, .iconst 1, .if_icmp .ne 4, .aload 0, .ifnonnull 11483, .iload 1, .iaload, .goto 5] := rfl
theorem b371_4 : blk 371 4 = [.aload 0, .ifnonnull 11491, .iload 1, .iaload, .goto 5] := rfl
theorem b371_5 : blk 371 5 = [.ireturn] := rfl
theorem en371 {a0 a1 a2 : Int} : ent 371 [(3, a0), (0, a1), (0, a2)] = [(3, a0), (0, a1), (0, a2)] := rfl
theorem b372_0 : blk 372 0 = [.iload 1, .iconst 0, .aload 0, .ifnull 11464, .iconst 1, .isub, .invokeinterface 94464 3, .freturn] := rfl
theorem en372 {a0 a1 : Int} : ent 372 [(3, a0), (0, a1)] = [(3, a0), (0, a1)] := rfl
theorem b373_0 : blk 373 0 = [.aload 0, .iload 1, .invokeinterface 95328 2, .ifCond .eq 1, .iload 2, .iconst 0, .iconst 3, .invokeinterface 94464 3, .ifCond .ne 2, .goto 1] := rfl
theorem b373_1 : blk 373 1 = [.iconst (-1), .goto 3] := rfl
theorem b373_2 : blk 373 2 = [.aload 0, .iload 1, .iload 2, .invokeinterface 95840 3, .goto 3] := rfl
theorem b373_3 : blk 373 3 = [.ireturn] := rfl
theorem en373 {a0 a1 a2 : Int} : ent 373 [(3, a0), (0, a1), (0, a2)] = [(3, a0), (0, a1), (0, a2)] := rfl
theorem b374_0 : blk 374 0 = [.iload 2, .iconst 1, .if_icmp .ne 1, .iconst 1, .goto 2] := rfl
theorem b374_1 : blk 374 1 = [.iconst 0, .goto 2] := rfl
theorem b374_2 : blk 374 2 = [.istore 3, .iload 3, .iload 2, .ifCond .eq 3, .iload 2, .iconst 3, .if_icmp .ne 4, .goto 3] := rfl
theorem b374_3 : blk 374 3 = [.iconst 1, .goto 5] := rfl
theorem b374_4 : blk 374 4 = [.iconst 0, .goto 5] := rfl
theorem b374_5 : blk 374 5 = [.iadd, .istore 4, .iload 3, .iload 2, .ifCond .eq 6, .iload 2, .iconst 2, .if_icmp .ne 7, .goto 6] := rfl
theorem b374_6 : blk 374 6 = [.iconst 2, .goto 8] := rfl
theorem b374_7 : blk 374 7 = [.iconst 0, .goto 8] := rfl
theorem b374_8 : blk 374 8 = [.iadd, .istore 5, .aload 0, .ifnonnull 11475, .iload 1, .iaload, .istore 6, .iload 6, .ifCond .ne 9, .iload 3, .goto 15] := rfl
theorem b374_9 : blk 374 9 = [.iload 6, .iconst 1, .if_icmp .ne 10, .iload 4, .goto 15] := rfl
theorem b374_10 : blk 374 10 = [.iload 6, .iconst 2, .if_icmp .ne 11, .iload 5, .goto 15] := rfl
theorem b374_11 : blk 374 11 = [.iload 6, .iconst 3, .if_icmp .ne 12, .iload 5, .iload 4, .iadd, .goto 15] := rfl
theorem b374_12 : blk 374 12 = [.iconst 3, .iload 5, .imul, .iload 5, .iadd, .iload 4, .iadd, .aload 0, .ifnonnull 11483, .iload 1, .iaload, .iconst 5, .if_icmp .le 13, .iconst 1, .goto 14] := rfl
theorem b374_13 : blk 374 13 = [.iconst 0, .goto 14] := rfl
theorem b374_14 : blk 374 14 = [.iadd, .goto 15] := rfl
theorem b374_15 : blk 374 15 = [.ireturn] := rfl
theorem en374 {a0 a1 a2 : Int} : ent 374 [(3, a0), (0, a1), (0, a2)] = [(3, a0), (0, a1), (0, a2), (9, 0), (9, 0), (9, 0), (9, 0)] := rfl
theorem b375_0 : blk 375 0 = [.aload 0, .iload 1, .invokeinterface 95328 2, .ifCond .eq 1, .aload 0, .iload 2, .invokeinterface 96352 2, .ifCond .eq 1, .iload 3, .iconst (-1), .iconst 64, .invokeinterface 94464 3, .ifCond .ne 2, .goto 1] := rfl
theorem b375_1 : blk 375 1 = [.iconst (-1), .ireturn] := rfl
theorem b375_2 : blk 375 2 = [.aload 0, .ifnonnull 11475, .iload 1, .iaload, .ifCond .eq 3, .iconst (-2), .ireturn] := rfl
theorem b375_3 : blk 375 3 = [.iload 3, .ifCond .lt 4, .aload 0, .ifnull 11504, .iconst 6000, .if_icmp .ne 4, .iconst (-3), .ireturn] := rfl
theorem b375_4 : blk 375 4 = [.aload 0, .ifnonnull 11499, .iconst 8, .iload 1, .imul, .iload 2, .iadd, .iload 3, .ifCond .ge 5, .iconst (-9), .goto 6] := rfl
theorem b375_5 : blk 375 5 = [.aload 0, .iconst 4, .iload 3, .invokeinterface 96608 3, .goto 6] := rfl
theorem b375_6 : blk 375 6 = [.iastore, .iconst 0, .ireturn] := rfl
theorem en375 {a0 a1 a2 a3 : Int} : ent 375 [(3, a0), (0, a1), (0, a2), (0, a3)] = [(3, a0), (0, a1), (0, a2), (0, a3)] := rfl
theorem b376_0 : blk 376 0 = [.iload 1, .iconst 0, .aload 0, .ifnull 11339, .ifnonnull 12291, .iconst 5, .iaload, .iconst 1, .isub, .invokeinterface 94464 3, .freturn] := rfl
theorem en376 {a0 a1 : Int} : ent 376 [(3, a0), (0, a1)] = [(3, a0), (0, a1)] := rfl
theorem b377_0 : blk 377 0 = [.aload 0, .ifnull 11504, .istore 3, .aload 0, .dup, .ifnull 11504, .iconst 1, .iadd, .jsr_w 11504, .aload 0, .ifnonnull 11515, .iload 3, .iload 1, .iastore, .aload 0, .ifnonnull 11523, .iload 3, .iload 2, .iastore, .iconst 0, .istore 4, .goto 1] := rfl
theorem b377_1 : blk 377 1 = [.iload 4, .iload 2, .if_icmp .ge 4, .aload 0, .ifnonnull 11531, .iconst 64, .iload 3, .imul, .iload 4, .iadd, .iload 1, .iconst 5, .if_icmp .le 2, .bipush (-9), .goto 3] := rfl
theorem b377_2 : blk 377 2 = [.bipush 0, .goto 3] := rfl
theorem b377_3 : blk 377 3 = [.lastore, .iinc 4 1, .goto 1] := rfl
theorem b377_4 : blk 377 4 = [.iload 3, .ireturn] := rfl
theorem en377 {a0 a1 a2 : Int} : ent 377 [(3, a0), (0, a1), (0, a2)] = [(3, a0), (0, a1), (0, a2), (9, 0), (9, 0)] := rfl
theorem b378_0 : blk 378 0 = [.aload 0, .iload 1, .invokeinterface 95328 2, .ifCond .eq 1, .aload 0, .iload 2, .invokeinterface 96352 2, .ifCond .ne 2, .goto 1] := rfl
theorem b378_1 : blk 378 1 = [.iconst (-1), .ireturn] := rfl
theorem b378_2 : blk 378 2 = [.aload 0, .ifnonnull 11499, .iconst 8, .iload 1, .imul, .iload 2, .iadd, .iaload, .istore 5, .aload 0, .ifnonnull 11475, .iload 1, .iaload, .ifCond .ne 3, .iload 5, .iconst (-9), .if_icmp .eq 3, .iload 3, .iconst 0, .aload 0, .ifnonnull 11523, .iload 5, .iaload, .iconst 1, .isub, .invokeinterface 94464 3, .ifCond .ne 4, .goto 3] := rfl
theorem b378_3 : blk 378 3 = [.iconst (-2), .ireturn] := rfl
theorem b378_4 : blk 378 4 = [.aload 0, .ifnonnull 11531, .iconst 64, .iload 5, .imul, .iload 3, .iadd, .laload, .l2i, .istore 6, .aload 0, .ifnonnull 11531, .iconst 64, .iload 5, .imul, .iload 3, .iadd, .iload 4, .i2l, .lastore, .iload 6, .ireturn] := rfl
theorem en378 {a0 a1 a2 a3 a4 : Int} : ent 378 [(3, a0), (0, a1), (0, a2), (0, a3), (0, a4)] = [(3, a0), (0, a1), (0, a2), (0, a3), (0, a4), (9, 0), (9, 0)] := rfl
theorem b379_0 : blk 379 0 = [.aload 0, .iload 1, .invokeinterface 95328 2, .ifCond .eq 1, .aload 0, .iload 2, .invokeinterface 96352 2, .ifCond .ne 2, .goto 1] := rfl
theorem b379_1 : blk 379 1 = [.iconst (-2000000000), .ireturn] := rfl
theorem b379_2 : blk 379 2 = [.aload 0, .ifnonnull 11499, .iconst 8, .iload 1, .imul, .iload 2, .iadd, .iaload, .istore 4, .aload 0, .ifnonnull 11475, .iload 1, .iaload, .ifCond .ne 3, .iload 4, .iconst (-9), .if_icmp .eq 3, .iload 3, .iconst (-1), .aload 0, .ifnonnull 11523, .iload 4, .iaload, .iconst 1, .isub, .invokeinterface 94464 3, .ifCond .ne 4, .goto 3] := rfl
theorem b379_3 : blk 379 3 = [.iconst (-2000000001), .ireturn] := rfl
theorem b379_4 : blk 379 4 = [.iload 3, .ifCond .ge 5, .aload 0, .ifnonnull 11523, .iload 4, .iaload, .goto 6] := rfl
theorem b379_5 : blk 379 5 = [.aload 0, .ifnonnull 11531, .iconst 64, .iload 4, .imul, .iload 3, .iadd, .laload, .l2i, .goto 6] := rfl
theorem b379_6 : blk 379 6 = [.ireturn] := rfl
theorem en379 {a0 a1 a2 a3 : Int} : ent 379 [(3, a0), (0, a1), (0, a2), (0, a3)] = [(3, a0), (0, a1), (0, a2), (0, a3), (9, 0)] := rfl
theorem b380_0 : blk 380 0 = [.aload 0, .iload 1, .invokeinterface 97632 2, .ifCond .eq 1, .iload 2, .iconst 1, .iconst 3000, .invokeinterface 94464 3, .ifCond .ne 2, .goto 1] := rfl
theorem b380_1 : blk 380 1 = [.iconst (-1), .goto 3] := rfl
theorem b380_2 : blk 380 2 = [.aload 0, .iload 1, .iload 2, .iload 3, .iload 4, .iload 5, .iload 6, .invokeinterface 97888 7, .goto 3] := rfl
theorem b380_3 : blk 380 3 = [.ireturn] := rfl
theorem en380 {a0 a1 a2 a3 a4 a5 a6 : Int} : ent 380 [(3, a0), (0, a1), (0, a2), (0, a3), (0, a4), (0, a5), (0, a6)] = [(3, a0), (0, a1), (0, a2), (0, a3), (0, a4), (0, a5), (0, a6)] := rfl
theorem b381_0 : blk 381 0 = [.iload 1, .iconst 0, .aload 0, .ifnull 11339, .ifnonnull 12291, .iconst 6, .iaload, .iconst 1, .isub, .invokeinterface 94464 3, .freturn] := rfl
theorem en381 {a0 a1 : Int} : ent 381 [(3, a0), (0, a1)] = [(3, a0), (0, a1)] := rfl
theorem b382_0 : blk 382 0 = [.aload 0, .iload 2, .jsr_w 11696, .aload 0, .iconst 0, .jsr_w 11688, .aload 0, .iconst 0, .jsr_w 11552, .aload 0, .iconst 0, .jsr_w 11616, .aload 0, .iconst 1, .jsr_w 11592, .aload 0, .ifnonnull 11611, .iconst 0, .iconst 0, .iastore, .aload 0, .ifnonnull 11603, .iconst 0, .iconst 0, .iastore, .aload 0, .iconst 0, .jsr_w 11728, .aload 0, .bipush 0, .jsr_w 11737, .aload 0, .ifnull 11704, .iconst 10000, .if_icmp .ne 1, .aload 0, .iconst (-23), .jsr_w 11720, .aload 0, .ifnull 11720, .ireturn] := rfl
theorem b382_1 : blk 382 1 = [.iconst 0, .istore 7, .goto 2] := rfl
theorem b382_2 : blk 382 2 = [.iload 7, .aload 0, .ifnull 11339, .ifnonnull 12387, .iload 1, .iaload, .if_icmp .ge 12, .iload 7, .aload 0, .ifnull 11339, .ifnonnull 12379, .iload 1, .iaload, .if_icmp .ge 3, .iconst 1, .goto 4] := rfl
theorem b382_3 : blk 382 3 = [.iconst 0, .goto 4] := rfl
theorem b382_4 : blk 382 4 = [.istore 8, .aload 0, .ifnonnull 11563, .iload 7, .iload 8, .ifCond .eq 5, .iconst 1, .goto 6] := rfl
theorem b382_5 : blk 382 5 = [.iconst 0, .goto 6] := rfl
theorem b382_6 : blk 382 6 = [.iastore, .aload 0, .ifnonnull 11571, .iload 7, .iload 8, .ifCond .ne 7, .bipush 0, .goto 11] := rfl
theorem b382_7 : blk 382 7 = [.iload 7, .ifCond .ne 8, .iload 3, .i2l, .goto 11] := rfl
theorem b382_8 : blk 382 8 = [.iload 7, .iconst 1, .if_icmp .ne 9, .iload 4, .i2l, .goto 11] := rfl
theorem b382_9 : blk 382 9 = [.iload 7, .iconst 2, .if_icmp .ne 10, .iload 5, .i2l, .goto 11] := rfl
theorem b382_10 : blk 382 10 = [.iload 6, .i2l, .goto 11] := rfl
theorem b382_11 : blk 382 11 = [.lastore, .iinc 7 1, .goto 2] := rfl
theorem b382_12 : blk 382 12 = [.aload 0, .aload 0, .ifnull 11339, .ifnonnull 12395, .iload 1, .iaload, .jsr_w 11680, .aload 0, .iconst 1, .jsr_w 11716, .goto 13] := rfl
theorem b382_13 : blk 382 13 = [.aload 0, .ifnull 11716, .ifCond .eq 14, .aload 0, .invokeinterface 98148 1, .goto 13] := rfl
theorem b382_14 : blk 382 14 = [.aload 0, .ifnull 11720, .ireturn] := rfl
theorem en382 {a0 a1 a2 a3 a4 a5 a6 : Int} : ent 382 [(3, a0), (0, a1), (0, a2), (0, a3), (0, a4), (0, a5), (0, a6)] = [(3, a0), (0, a1), (0, a2), (0, a3), (0, a4), (0, a5), (0, a6), (9, 0), (9, 0)] := rfl
theorem b383_0 : blk 383 0 = [.aload 0, .ifnull 11339, .ifnonnull 12419, .aload 0, .ifnull 11680, .iaload, .istore 1, .aload 0, .ifnull 11339, .ifnonnull 12427, .aload 0, .ifnull 11680, .iaload, .istore 2, .aload 0, .ifnull 11339, .ifnonnull 12435, .aload 0, .ifnull 11680, .iaload, .istore 3, .aload 0, .dup, .ifnull 11680, .iconst 1, .iadd, .jsr_w 11680, .iconst 420, .aload 0, .ifnull 11592, .iconst 1, .isub, .imul, .istore 4, .iconst 402, .aload 0, .ifnull 11592, .iconst 1, .isub, .imul, .iload 2, .iadd, .istore 5, .iload 1, .tableswitch 20 19 29 #[1, 5, 6, 8, 9, 10, 14, 16, 17, 19, 18]] := rfl
theorem b383_1 : blk 383 1 = [.aload 0, .iconst 1, .invokeinterface 98400 2, .istore 6, .iload 6, .ifCond .eq 2, .aload 0, .iload 6, .invokeinterface 98912 2, .pop, .goto 21] := rfl
theorem b383_2 : blk 383 2 = [.aload 0, .dup, .ifnull 11552, .iconst 1, .isub, .jsr_w 11552, .aload 0, .aload 0, .ifnonnull 11547, .aload 0, .ifnull 11552, .laload, .bipush 0, .lcmp, .ifCond .ne 3, .iload 2, .goto 4] := rfl
theorem b383_3 : blk 383 3 = [.aload 0, .ifnull 11680, .goto 4] := rfl
theorem b383_4 : blk 383 4 = [.jsr_w 11680, .goto 21] := rfl
theorem b383_5 : blk 383 5 = [.aload 0, .iload 2, .jsr_w 11680, .goto 21] := rfl
theorem b383_6 : blk 383 6 = [.aload 0, .iconst 1, .invokeinterface 98400 2, .istore 7, .iload 7, .ifCond .eq 7, .aload 0, .iload 7, .invokeinterface 98912 2, .pop, .goto 21] := rfl
theorem b383_7 : blk 383 7 = [.aload 0, .dup, .ifnull 11552, .iconst 1, .isub, .jsr_w 11552, .aload 0, .ifnonnull 11579, .iload 5, .aload 0, .ifnonnull 11547, .aload 0, .ifnull 11552, .laload, .l2i, .iastore, .aload 0, .ifnonnull 11587, .iload 5, .iconst 0, .iastore, .goto 21] := rfl
theorem b383_8 : blk 383 8 = [.aload 0, .ifnonnull 11587, .iload 5, .iaload, .aload 0, .ifnonnull 11579, .iload 5, .iaload, .if_icmp .ge 21, .aload 0, .invokeinterface 99936 1, .ifCond .eq 21, .aload 0, .ifnonnull 11563, .iload 4, .iload 3, .iadd, .iconst 1, .iastore, .aload 0, .ifnonnull 11571, .iload 4, .iload 3, .iadd, .aload 0, .ifnonnull 11587, .iload 5, .iaload, .i2l, .lastore, .aload 0, .ifnonnull 11587, .iload 5, .dup2, .iaload, .iconst 1, .iadd, .iastore, .aload 0, .dup, .ifnull 11680, .iconst 1, .iadd, .jsr_w 11680, .goto 21] := rfl
theorem b383_9 : blk 383 9 = [.aload 0, .ifnonnull 11627, .aload 0, .ifnull 11616, .iload 2, .iastore, .aload 0, .ifnonnull 11635, .aload 0, .ifnull 11616, .aload 0, .ifnull 11592, .iconst 1, .isub, .iastore, .aload 0, .ifnonnull 11643, .aload 0, .ifnull 11616, .aload 0, .ifnull 11552, .iastore, .aload 0, .ifnonnull 11651, .aload 0, .ifnull 11616, .iconst 0, .iastore, .aload 0, .dup, .ifnull 11616, .iconst 1, .iadd, .jsr_w 11616, .goto 21] := rfl
theorem b383_10 : blk 383 10 = [.aload 0, .ifnull 11339, .ifnonnull 12483, .iload 2, .iaload, .iconst (-9), .if_icmp .eq 11, .aload 0, .ifnonnull 11651, .aload 0, .ifnull 11616, .iconst 1, .isub, .iconst 2, .iastore, .aload 0, .ifnonnull 11659, .aload 0, .ifnull 11616, .iconst 1, .isub, .iconst 0, .iastore, .aload 0, .aload 0, .ifnull 11339, .ifnonnull 12483, .iload 2, .iaload, .jsr_w 11680, .goto 21] := rfl
theorem b383_11 : blk 383 11 = [.aload 0, .dup, .ifnull 11616, .aload 0, .ifnull 11616, .ifCond .le 12, .aload 0, .ifnonnull 11635, .aload 0, .ifnull 11616, .iconst 1, .isub, .iaload, .aload 0, .ifnull 11592, .iconst 1, .isub, .if_icmp .ne 12, .aload 0, .ifnonnull 11627, .aload 0, .ifnull 11616, .iconst 1, .isub, .iaload, .iload 2, .if_icmp .ne 12, .iconst 1, .goto 13] := rfl
theorem b383_12 : blk 383 12 = [.iconst 0, .goto 13] := rfl
theorem b383_13 : blk 383 13 = [.isub, .jsr_w 11616, .aload 0, .iload 3, .jsr_w 11680, .goto 21] := rfl
theorem b383_14 : blk 383 14 = [.aload 0, .dup, .ifnull 11616, .iconst 1, .isub, .jsr_w 11616, .aload 0, .ifnonnull 11659, .aload 0, .ifnull 11616, .iaload, .ifCond .le 15, .aload 0, .aload 0, .ifnonnull 11659, .aload 0, .ifnull 11616, .iaload, .iconst 1, .iconst 0, .bipush 0, .invokeinterface 99428 5, .goto 21] := rfl
theorem b383_15 : blk 383 15 = [.aload 0, .ifnonnull 11659, .aload 0, .ifnull 11616, .iaload, .ifCond .ge 21, .aload 0, .iconst 0, .iconst 0, .aload 0, .ifnonnull 11667, .aload 0, .ifnull 11616, .iaload, .aload 0, .ifnonnull 11675, .aload 0, .ifnull 11616, .laload, .invokeinterface 99428 5, .goto 21] := rfl
theorem b383_16 : blk 383 16 = [.aload 0, .iload 2, .invokeinterface 98912 2, .pop, .goto 21] := rfl
theorem b383_17 : blk 383 17 = [.aload 0, .dup, .ifnull 11552, .iconst 1, .isub, .jsr_w 11552, .aload 0, .iconst 0, .iconst 0, .aload 0, .ifnonnull 11539, .aload 0, .ifnull 11552, .iaload, .aload 0, .ifnonnull 11547, .aload 0, .ifnull 11552, .laload, .invokeinterface 99428 5, .goto 21] := rfl
theorem b383_18 : blk 383 18 = [.aload 0, .iconst 0, .iconst 0, .iconst 0, .bipush 0, .invokeinterface 99428 5, .goto 21] := rfl
theorem b383_19 : blk 383 19 = [.aload 0, .invokeinterface 100196 1, .goto 21] := rfl
theorem b383_20 : blk 383 20 = [.aload 0, .iload 1, .iload 2, .invokeinterface 101220 3, .goto 21] := rfl
theorem b383_21 : blk 383 21 = [.return_] := rfl
theorem en383 {a0 : Int} : ent 383 [(3, a0)] = [(3, a0), (9, 0), (9, 0), (9, 0), (9, 0), (9, 0), (9, 0), (9, 0)] := rfl
theorem b384_0 : blk 384 0 = [.aload 0, .iload 1, .invokeinterface 98656 2, .ifCond .ne 1, .iconst 3, .goto 3] := rfl
theorem b384_1 : blk 384 1 = [.aload 0, .iload 1, .invokeinterface 98656 2, .iconst 1, .if_icmp .eq 2, .iconst 4, .goto 3] := rfl
theorem b384_2 : blk 384 2 = [.iconst 0, .goto 3] := rfl
theorem b384_3 : blk 384 3 = [.ireturn] := rfl
theorem en384 {a0 a1 : Int} : ent 384 [(3, a0), (0, a1)] = [(3, a0), (0, a1)] := rfl
theorem b385_0 : blk 385 0 = [.aload 0, .ifnonnull 11539, .aload 0, .ifnull 11552, .iload 1, .isub, .iaload, .ireturn] := rfl
theorem en385 {a0 a1 : Int} : ent 385 [(3, a0), (0, a1)] = [(3, a0), (0, a1)] := rfl
theorem b386_0 : blk 386 0 = [.aload 0, .ifnull 11704, .iconst 10000, .if_icmp .ne 1, .aload 0, .iconst (-23), .invokeinterface 99172 2, .goto 2] := rfl
theorem b386_1 : blk 386 1 = [.aload 0, .dup, .ifnull 11704, .iconst 1, .iadd, .jsr_w 11704, .aload 0, .iload 1, .iconst 1, .iconst 0, .bipush 0, .invokeinterface 99428 5, .goto 2] := rfl
theorem b386_2 : blk 386 2 = [.iconst 1, .freturn] := rfl
theorem en386 {a0 a1 : Int} : ent 386 [(3, a0), (0, a1)] = [(3, a0), (0, a1)] := rfl
theorem b387_0 : blk 387 0 = [.aload 0, .iconst 0, .jsr_w 11716, .aload 0, .iload 1, .jsr_w 11720, .return_] := rfl
theorem en387 {a0 a1 : Int} : ent 387 [(3, a0), (0, a1)] = [(3, a0), (0, a1)] := rfl
theorem b388_0 : blk 388 0 = [.aload 0, .ifnull 11716, .ifCond .eq 16, .aload 0, .ifnull 11592, .iconst 1, .isub, .istore 6, .goto 1] := rfl
theorem b388_1 : blk 388 1 = [.aload 0, .ifnull 11616, .ifCond .le 8, .aload 0, .ifnonnull 11635, .aload 0, .ifnull 11616, .iconst 1, .isub, .iaload, .iload 6, .if_icmp .ne 8, .aload 0, .ifnull 11616, .iconst 1, .isub, .istore 7, .aload 0, .ifnonnull 11627, .iload 7, .iaload, .istore 8, .aload 0, .ifnonnull 11651, .iload 7, .iaload, .istore 9, .iload 2, .ifCond .eq 4, .iload 9, .ifCond .ne 4, .aload 0, .ifnull 11339, .ifnonnull 12475, .iconst 8, .iload 8, .imul, .iload 1, .iadd, .iaload, .iconst (-9), .if_icmp .eq 4, .aload 0, .aload 0, .ifnonnull 11643, .iload 7, .iaload, .jsr_w 11552, .aload 0, .aload 0, .ifnull 11339, .ifnonnull 12475, .iconst 8, .iload 8, .imul, .iload 1, .iadd, .iaload, .jsr_w 11680, .aload 0, .ifnonnull 11651, .iload 7, .iconst 1, .iastore, .aload 0, .dup, .ifnull 11616, .aload 0, .ifnull 11339, .ifnonnull 12483, .iload 8, .iaload, .iconst (-9), .if_icmp .ne 2, .iconst 1, .goto 3] := rfl
theorem b388_2 : blk 388 2 = [.iconst 0, .goto 3] := rfl
theorem b388_3 : blk 388 3 = [.isub, .jsr_w 11616, .return_] := rfl
theorem b388_4 : blk 388 4 = [.iload 9, .iconst 2, .if_icmp .ge 7, .aload 0, .ifnull 11339, .ifnonnull 12483, .iload 8, .iaload, .iconst (-9), .if_icmp .eq 7, .aload 0, .aload 0, .ifnonnull 11643, .iload 7, .iaload, .jsr_w 11552, .aload 0, .ifnonnull 11651, .iload 7, .iconst 2, .iastore, .aload 0, .ifnonnull 11659, .iload 7, .iload 2, .ifCond .eq 5, .iload 1, .goto 6] := rfl
theorem b388_5 : blk 388 5 = [.iconst (-1), .goto 6] := rfl
theorem b388_6 : blk 388 6 = [.iastore, .aload 0, .ifnonnull 11667, .iload 7, .iload 3, .iastore, .aload 0, .ifnonnull 11675, .iload 7, .lload 4, .lastore, .aload 0, .aload 0, .ifnull 11339, .ifnonnull 12483, .iload 8, .iaload, .jsr_w 11680, .return_] := rfl
theorem b388_7 : blk 388 7 = [.aload 0, .dup, .ifnull 11616, .iconst 1, .isub, .jsr_w 11616, .goto 1] := rfl
theorem b388_8 : blk 388 8 = [.aload 0, .dup, .ifnull 11592, .iconst 1, .isub, .jsr_w 11592, .aload 0, .ifnull 11592, .ifCond .ne 14, .aload 0, .iload 2, .ifCond .eq 9, .iconst (-10), .iload 1, .isub, .goto 11] := rfl
theorem b388_9 : blk 388 9 = [.iload 3, .iconst 4, .if_icmp .ge 10, .iload 3, .goto 11] := rfl
theorem b388_10 : blk 388 10 = [.aload 0, .ifnonnull 11515, .lload 4, .l2i, .iaload, .goto 11] := rfl
theorem b388_11 : blk 388 11 = [.invokeinterface 99172 2, .aload 0, .iload 2, .ifCond .eq 12, .iconst 0, .goto 13] := rfl
theorem b388_12 : blk 388 12 = [.iload 3, .goto 13] := rfl
theorem b388_13 : blk 388 13 = [.jsr_w 11728, .aload 0, .lload 4, .jsr_w 11737, .return_] := rfl
theorem b388_14 : blk 388 14 = [.aload 0, .aload 0, .ifnonnull 11611, .aload 0, .ifnull 11592, .iaload, .jsr_w 11552, .aload 0, .aload 0, .ifnonnull 11603, .aload 0, .ifnull 11592, .iaload, .jsr_w 11680, .iload 2, .ifCond .ne 15, .aload 0, .iload 3, .lload 4, .invokeinterface 99684 3, .return_] := rfl
theorem b388_15 : blk 388 15 = [.goto 0] := rfl
theorem b388_16 : blk 388 16 = [.return_] := rfl
theorem en388 {a0 a1 a2 a3 a4 : Int} : ent 388 [(3, a0), (0, a1), (0, a2), (0, a3), (1, a4)] = [(3, a0), (0, a1), (0, a2), (0, a3), (1, a4), (9, 0), (9, 0), (9, 0), (9, 0), (9, 0)] := rfl
theorem b389_0 : blk 389 0 = [.aload 0, .ifnonnull 11539, .aload 0, .ifnull 11552, .iload 1, .iastore, .aload 0, .ifnonnull 11547, .aload 0, .ifnull 11552, .lload 2, .lastore, .aload 0, .dup, .ifnull 11552, .iconst 1, .iadd, .jsr_w 11552, .return_] := rfl
theorem en389 {a0 a1 a2 : Int} : ent 389 [(3, a0), (0, a1), (1, a2)] = [(3, a0), (0, a1), (1, a2), (9, 0)] := rfl
theorem b390_0 : blk 390 0 = [.aload 0, .ifnull 11688, .aload 0, .ifnull 11696, .if_icmp .ne 1, .aload 0, .iconst (-20), .invokeinterface 99172 2, .iconst 0, .freturn] := rfl
theorem b390_1 : blk 390 1 = [.aload 0, .dup, .ifnull 11688, .iconst 1, .iadd, .jsr_w 11688, .iconst 1, .freturn] := rfl
theorem en390 {a0 : Int} : ent 390 [(3, a0)] = [(3, a0)] := rfl
theorem b391_0 : blk 391 0 = [.aload 0, .iconst 4, .invokeinterface 98400 2, .aload 0, .iconst 2, .invokeinterface 98400 2, .aload 0, .iconst 1, .invokeinterface 98400 2, .invokeinterface 100352 2, .invokeinterface 100352 2, .istore 1, .iload 1, .ifCond .ne 2, .aload 0, .iconst 5, .invokeinterface 98656 2, .ifCond .eq 1, .aload 0, .iconst 3, .invokeinterface 98656 2, .ifCond .ne 2, .goto 1] := rfl
theorem b391_1 : blk 391 1 = [.iconst 3, .istore 1, .goto 2] := rfl
theorem b391_2 : blk 391 2 = [.iload 1, .ifCond .ne 4, .aload 0, .iconst 5, .invokeinterface 98656 2, .iconst 4, .if_icmp .ne 3, .aload 0, .iconst 3, .invokeinterface 98656 2, .iconst 4, .if_icmp .eq 4, .goto 3] := rfl
theorem b391_3 : blk 391 3 = [.iconst 6, .istore 1, .goto 4] := rfl
theorem b391_4 : blk 391 4 = [.iload 1, .ifCond .eq 5, .aload 0, .iload 1, .invokeinterface 98912 2, .pop, .return_] := rfl
theorem b391_5 : blk 391 5 = [.aload 0, .iconst 5, .invokeinterface 100705 2, .l2i, .istore 2, .aload 0, .iconst 3, .invokeinterface 100705 2, .l2i, .istore 3, .aload 0, .iconst 4, .invokeinterface 100705 2, .lstore 4, .aload 0, .iconst 2, .invokeinterface 100705 2, .lstore 6, .aload 0, .iconst 1, .invokeinterface 100705 2, .lstore 8, .aload 0, .ifnonnull 11515, .iload 2, .iaload, .aload 0, .ifnonnull 11515, .iload 3, .iaload, .if_icmp .eq 7, .aload 0, .ifnonnull 11515, .iload 2, .iaload, .iconst 6, .if_icmp .lt 6, .aload 0, .ifnonnull 11515, .iload 3, .iaload, .iconst 6, .if_icmp .ge 7, .goto 6] := rfl
theorem b391_6 : blk 391 6 = [.aload 0, .iconst 6, .invokeinterface 98912 2, .pop, .return_] := rfl
theorem b391_7 : blk 391 7 = [.lload 4, .bipush 0, .lcmp, .ifCond .lt 8, .lload 6, .bipush 0, .lcmp, .ifCond .lt 8, .lload 8, .bipush 0, .lcmp, .ifCond .lt 8, .lload 4, .lload 8, .ladd, .aload 0, .ifnonnull 11523, .iload 2, .iaload, .i2l, .lcmp, .ifCond .gt 8, .lload 6, .lload 8, .ladd, .aload 0, .ifnonnull 11523, .iload 3, .iaload, .i2l, .lcmp, .ifCond .le 9, .goto 8] := rfl
theorem b391_8 : blk 391 8 = [.aload 0, .iconst 2, .invokeinterface 98912 2, .pop, .return_] := rfl
theorem b391_9 : blk 391 9 = [.iconst 0, .istore 10, .goto 10] := rfl
theorem b391_10 : blk 391 10 = [.iload 10, .i2l, .lload 8, .lcmp, .ifCond .ge 11, .aload 0, .ifnonnull 11747, .iload 10, .aload 0, .ifnonnull 11531, .iconst 64, .iload 2, .imul, .lload 4, .l2i, .iadd, .iload 10, .iadd, .laload, .lastore, .iinc 10 1, .goto 10] := rfl
theorem b391_11 : blk 391 11 = [.iconst 0, .istore 10, .goto 12] := rfl
theorem b391_12 : blk 391 12 = [.iload 10, .i2l, .lload 8, .lcmp, .ifCond .ge 14, .aload 0, .ifnonnull 11515, .iload 3, .iaload, .iconst 7, .if_icmp .ne 13, .aload 0, .ifnonnull 11747, .iload 10, .laload, .bipush (-9), .lcmp, .ifCond .eq 13, .aload 0, .aload 0, .ifnonnull 11747, .iload 10, .laload, .invokeinterface 100960 2, .ifCond .ne 13, .aload 0, .iconst 6, .invokeinterface 98912 2, .pop, .return_] := rfl
theorem b391_13 : blk 391 13 = [.aload 0, .ifnonnull 11531, .iconst 64, .iload 3, .imul, .lload 6, .l2i, .iadd, .iload 10, .iadd, .aload 0, .ifnonnull 11747, .iload 10, .laload, .lastore, .iinc 10 1, .goto 12] := rfl
theorem b391_14 : blk 391 14 = [.aload 0, .dup, .ifnull 11552, .iconst 5, .isub, .jsr_w 11552, .return_] := rfl
theorem en391 {a0 : Int} : ent 391 [(3, a0)] = [(3, a0), (9, 0), (9, 0), (9, 0), (9, 0), (9, 0), (9, 0), (9, 0), (9, 0), (9, 0), (9, 0)] := rfl
theorem b392_0 : blk 392 0 = [.iload 0, .ifCond .eq 1, .iload 0, .goto 2] := rfl
theorem b392_1 : blk 392 1 = [.iload 1, .goto 2] := rfl
theorem b392_2 : blk 392 2 = [.ireturn] := rfl
theorem en392 {a0 a1 : Int} : ent 392 [(0, a0), (0, a1)] = [(0, a0), (0, a1)] := rfl
theorem b393_0 : blk 393 0 = [.aload 0, .ifnonnull 11547, .aload 0, .ifnull 11552, .iload 1, .isub, .laload, .lreturn] := rfl
theorem en393 {a0 a1 : Int} : ent 393 [(3, a0), (0, a1)] = [(3, a0), (0, a1)] := rfl
theorem b394_0 : blk 394 0 = [.lload 1, .bipush 0, .lcmp, .ifCond .lt 1, .aload 0, .ifnonnull 11475, .lload 1, .l2i, .iaload, .iconst 2, .if_icmp .lt 1, .iconst 1, .goto 2] := rfl
theorem b394_1 : blk 394 1 = [.iconst 0, .goto 2] := rfl
theorem b394_2 : blk 394 2 = [.freturn] := rfl
theorem en394 {a0 a1 : Int} : ent 394 [(3, a0), (1, a1)] = [(3, a0), (1, a1), (9, 0)] := rfl
theorem b395_0 : blk 395 0 = [.iconst 420, .aload 0, .ifnull 11592, .iconst 1, .isub, .imul, .istore 3, .iload 1, .tableswitch 13 0 11 #[1, 2, 3, 4, 5, 6, 7, 8, 9, 10, 11, 12]] := rfl
theorem b395_1 : blk 395 1 = [.aload 0, .invokeinterface 99936 1, .pop, .goto 14] := rfl
theorem b395_2 : blk 395 2 = [.aload 0, .iconst 1, .iload 2, .i2l, .invokeinterface 99684 3, .goto 14] := rfl
theorem b395_3 : blk 395 3 = [.aload 0, .iconst 2, .aload 0, .ifnull 11339, .ifnonnull 12443, .iload 2, .daload, .invokeinterface 101377 1, .invokeinterface 99684 3, .goto 14] := rfl
theorem b395_4 : blk 395 4 = [.aload 0, .iconst 0, .bipush 0, .invokeinterface 99684 3, .goto 14] := rfl
theorem b395_5 : blk 395 5 = [.aload 0, .aload 0, .ifnonnull 11563, .iload 3, .iload 2, .iadd, .iaload, .aload 0, .ifnonnull 11571, .iload 3, .iload 2, .iadd, .laload, .invokeinterface 99684 3, .goto 14] := rfl
theorem b395_6 : blk 395 6 = [.aload 0, .dup, .ifnull 11552, .iconst 1, .isub, .jsr_w 11552, .aload 0, .ifnonnull 11563, .iload 3, .iload 2, .iadd, .aload 0, .ifnonnull 11539, .aload 0, .ifnull 11552, .iaload, .iastore, .aload 0, .ifnonnull 11571, .iload 3, .iload 2, .iadd, .aload 0, .ifnonnull 11547, .aload 0, .ifnull 11552, .laload, .lastore, .goto 14] := rfl
theorem b395_7 : blk 395 7 = [.aload 0, .iload 2, .invokeinterface 102244 2, .goto 14] := rfl
theorem b395_8 : blk 395 8 = [.aload 0, .iload 2, .invokeinterface 103012 2, .goto 14] := rfl
theorem b395_9 : blk 395 9 = [.aload 0, .iload 2, .invokeinterface 103268 2, .goto 14] := rfl
theorem b395_10 : blk 395 10 = [.aload 0, .invokeinterface 104036 1, .goto 14] := rfl
theorem b395_11 : blk 395 11 = [.aload 0, .invokeinterface 104292 1, .goto 14] := rfl
theorem b395_12 : blk 395 12 = [.aload 0, .iload 2, .invokeinterface 104804 2, .goto 14] := rfl
theorem b395_13 : blk 395 13 = [.aload 0, .iload 1, .invokeinterface 105060 2, .goto 14] := rfl
theorem b395_14 : blk 395 14 = [.return_] := rfl
theorem en395 {a0 a1 a2 : Int} : ent 395 [(3, a0), (0, a1), (0, a2)] = [(3, a0), (0, a1), (0, a2), (9, 0)] := rfl
theorem b396_0 : blk 396 0 = [.dload 0, .invokeinterface 101633 1, .lreturn] := rfl
theorem en396 {a0 : Int} : ent 396 [(2, a0)] = [(2, a0), (9, 0)] := rfl
theorem b397_0 : blk 397 0 = [.dload 0, .invokeinterface 101888 1, .ifCond .ne 1, .dload 0, .d2l, .lreturn] := rfl
theorem b397_1 : blk 397 1 = [.bipush 9221120237041090560, .lreturn] := rfl
theorem en397 {a0 : Int} : ent 397 [(2, a0)] = [(2, a0), (9, 0)] := rfl
theorem b398_0 : blk 398 0 = [.dload 0, .dload 0, .dcmp .l, .ifCond .eq 1, .iconst 1, .goto 2] := rfl
theorem b398_1 : blk 398 1 = [.iconst 0, .goto 2] := rfl
theorem b398_2 : blk 398 2 = [.freturn] := rfl
theorem en398 {a0 : Int} : ent 398 [(2, a0)] = [(2, a0), (9, 0)] := rfl
theorem b399_0 : blk 399 0 = [.iconst 420, .aload 0, .ifnull 11592, .iconst 1, .isub, .imul, .iload 1, .iadd, .istore 2, .aload 0, .iconst 2, .invokeinterface 98400 2, .istore 3, .iload 3, .aload 0, .ifnonnull 11563, .iload 2, .iaload, .ifCond .ne 1, .iconst 3, .goto 3] := rfl
theorem b399_1 : blk 399 1 = [.aload 0, .ifnonnull 11563, .iload 2, .iaload, .iconst 4, .if_icmp .eq 2, .iconst 4, .goto 3] := rfl
theorem b399_2 : blk 399 2 = [.iconst 0, .goto 3] := rfl
theorem b399_3 : blk 399 3 = [.invokeinterface 100352 2, .istore 3, .iload 3, .ifCond .eq 4, .aload 0, .iload 3, .invokeinterface 98912 2, .pop, .return_] := rfl
theorem b399_4 : blk 399 4 = [.aload 0, .ifnonnull 11571, .iload 2, .laload, .l2i, .istore 4, .aload 0, .ifnonnull 11515, .iload 4, .iaload, .istore 5, .iload 5, .iconst 4, .if_icmp .ne 5, .aload 0, .iconst 1, .invokeinterface 98400 2, .goto 7] := rfl
theorem b399_5 : blk 399 5 = [.iload 5, .iconst 5, .if_icmp .ne 6, .aload 0, .iconst 1, .invokeinterface 102496 2, .goto 7] := rfl
theorem b399_6 : blk 399 6 = [.iconst 0, .goto 7] := rfl
theorem b399_7 : blk 399 7 = [.istore 3, .iload 3, .ifCond .ne 9, .aload 0, .iconst 2, .invokeinterface 100705 2, .bipush 0, .lcmp, .ifCond .lt 8, .aload 0, .iconst 2, .invokeinterface 100705 2, .aload 0, .ifnonnull 11523, .iload 4, .iaload, .i2l, .lcmp, .ifCond .lt 9, .goto 8] := rfl
theorem b399_8 : blk 399 8 = [.iconst 2, .istore 3, .goto 9] := rfl
theorem b399_9 : blk 399 9 = [.iload 3, .ifCond .ne 10, .iload 5, .iconst 5, .if_icmp .le 10, .aload 0, .iconst 1, .invokeinterface 98656 2, .ifCond .eq 10, .aload 0, .iconst 1, .invokeinterface 98656 2, .iconst 3, .if_icmp .eq 10, .iconst 4, .istore 3, .goto 10] := rfl
theorem b399_10 : blk 399 10 = [.iload 3, .ifCond .ne 11, .iload 5, .iconst 7, .if_icmp .ne 11, .aload 0, .iconst 1, .invokeinterface 98656 2, .iconst 3, .if_icmp .ne 11, .aload 0, .aload 0, .iconst 1, .invokeinterface 100705 2, .invokeinterface 100960 2, .ifCond .ne 11, .iconst 6, .istore 3, .goto 11] := rfl
theorem b399_11 : blk 399 11 = [.iload 3, .ifCond .eq 12, .aload 0, .iload 3, .invokeinterface 98912 2, .pop, .return_] := rfl
theorem b399_12 : blk 399 12 = [.aload 0, .ifnonnull 11531, .iconst 64, .iload 4, .imul, .aload 0, .iconst 2, .invokeinterface 100705 2, .l2i, .iadd, .iload 5, .iconst 5, .if_icmp .ne 13, .aload 0, .iconst 1, .invokeinterface 102754 2, .invokeinterface 101377 1, .goto 15] := rfl
theorem b399_13 : blk 399 13 = [.aload 0, .iconst 1, .invokeinterface 98656 2, .ifCond .ne 14, .bipush (-9), .goto 15] := rfl
theorem b399_14 : blk 399 14 = [.aload 0, .iconst 1, .invokeinterface 100705 2, .goto 15] := rfl
theorem b399_15 : blk 399 15 = [.lastore, .aload 0, .dup, .ifnull 11552, .iconst 2, .isub, .jsr_w 11552, .return_] := rfl
theorem en399 {a0 a1 : Int} : ent 399 [(3, a0), (0, a1)] = [(3, a0), (0, a1), (9, 0), (9, 0), (9, 0), (9, 0)] := rfl
theorem b400_0 : blk 400 0 = [.aload 0, .iload 1, .invokeinterface 98656 2, .ifCond .ne 1, .iconst 3, .goto 3] := rfl
theorem b400_1 : blk 400 1 = [.aload 0, .iload 1, .invokeinterface 98656 2, .iconst 2, .if_icmp .le 2, .iconst 4, .goto 3] := rfl
theorem b400_2 : blk 400 2 = [.iconst 0, .goto 3] := rfl
theorem b400_3 : blk 400 3 = [.ireturn] := rfl
theorem en400 {a0 a1 : Int} : ent 400 [(3, a0), (0, a1)] = [(3, a0), (0, a1)] := rfl
theorem b401_0 : blk 401 0 = [.aload 0, .iload 1, .invokeinterface 98656 2, .iconst 1, .if_icmp .ne 1, .aload 0, .iload 1, .invokeinterface 100705 2, .l2d, .goto 2] := rfl
theorem b401_1 : blk 401 1 = [.aload 0, .iload 1, .invokeinterface 100705 2, .f2d, .goto 2] := rfl
theorem b401_2 : blk 401 2 = [.dreturn] := rfl
theorem en401 {a0 a1 : Int} : ent 401 [(3, a0), (0, a1)] = [(3, a0), (0, a1)] := rfl
theorem b402_0 : blk 402 0 = [.aload 0, .ifnull 11339, .ifnonnull 12379, .iload 1, .iaload, .istore 2, .aload 0, .invokeinterface 99936 1, .ifCond .ne 1, .return_] := rfl
theorem b402_1 : blk 402 1 = [.aload 0, .ifnull 11592, .iconst 8, .if_icmp .ne 2, .aload 0, .iconst (-21), .invokeinterface 99172 2, .return_] := rfl
theorem b402_2 : blk 402 2 = [.iconst 420, .aload 0, .ifnull 11592, .imul, .istore 3, .iconst 0, .istore 4, .goto 3] := rfl
theorem b402_3 : blk 402 3 = [.iload 4, .aload 0, .ifnull 11339, .ifnonnull 12387, .iload 1, .iaload, .if_icmp .ge 4, .aload 0, .ifnonnull 11563, .iload 3, .iload 4, .iadd, .iconst 0, .iastore, .aload 0, .ifnonnull 11571, .iload 3, .iload 4, .iadd, .bipush 0, .lastore, .iinc 4 1, .goto 3] := rfl
theorem b402_4 : blk 402 4 = [.iconst 0, .istore 4, .goto 5] := rfl
theorem b402_5 : blk 402 5 = [.iload 4, .iload 2, .if_icmp .ge 6, .aload 0, .ifnonnull 11563, .iload 3, .iload 4, .iadd, .aload 0, .ifnonnull 11539, .aload 0, .ifnull 11552, .iload 2, .isub, .iload 4, .iadd, .iaload, .iastore, .aload 0, .ifnonnull 11571, .iload 3, .iload 4, .iadd, .aload 0, .ifnonnull 11547, .aload 0, .ifnull 11552, .iload 2, .isub, .iload 4, .iadd, .laload, .lastore, .iinc 4 1, .goto 5] := rfl
theorem b402_6 : blk 402 6 = [.aload 0, .dup, .ifnull 11552, .iload 2, .isub, .jsr_w 11552, .aload 0, .ifnonnull 11611, .aload 0, .ifnull 11592, .aload 0, .ifnull 11552, .iastore, .aload 0, .ifnonnull 11603, .aload 0, .ifnull 11592, .aload 0, .ifnull 11680, .iastore, .aload 0, .dup, .ifnull 11592, .iconst 1, .iadd, .jsr_w 11592, .aload 0, .aload 0, .ifnull 11339, .ifnonnull 12395, .iload 1, .iaload, .jsr_w 11680, .return_] := rfl
theorem en402 {a0 a1 : Int} : ent 402 [(3, a0), (0, a1)] = [(3, a0), (0, a1), (9, 0), (9, 0), (9, 0)] := rfl
theorem b403_0 : blk 403 0 = [.aload 0, .iconst 2, .invokeinterface 102496 2, .aload 0, .iconst 1, .invokeinterface 102496 2, .invokeinterface 100352 2, .istore 2, .iload 2, .ifCond .eq 1, .aload 0, .iload 2, .invokeinterface 98912 2, .pop, .return_] := rfl
theorem b403_1 : blk 403 1 = [.iload 1, .iconst 60, .if_icmp .eq 2, .iload 1, .iconst 62, .if_icmp .eq 2, .iload 1, .iconst 61, .if_icmp .ne 3, .goto 2] := rfl
theorem b403_2 : blk 403 2 = [.iconst 1, .goto 4] := rfl
theorem b403_3 : blk 403 3 = [.iconst 0, .goto 4] := rfl
theorem b403_4 : blk 403 4 = [.istore 3, .aload 0, .iconst 2, .invokeinterface 98656 2, .iconst 2, .if_icmp .eq 5, .aload 0, .iconst 1, .invokeinterface 98656 2, .iconst 2, .if_icmp .ne 20, .goto 5] := rfl
theorem b403_5 : blk 403 5 = [.aload 0, .iconst 2, .invokeinterface 102754 2, .dstore 4, .aload 0, .iconst 1, .invokeinterface 102754 2, .dstore 6, .aload 0, .dup, .ifnull 11552, .iconst 2, .isub, .jsr_w 11552, .iload 3, .ifCond .eq 11, .aload 0, .iconst 1, .iload 1, .iconst 60, .if_icmp .ne 6, .dload 4, .dload 6, .dcmp .g, .ifCond .ge 9, .goto 8] := rfl
theorem b403_6 : blk 403 6 = [.iload 1, .iconst 62, .if_icmp .ne 7, .dload 4, .dload 6, .dcmp .l, .ifCond .le 9, .goto 8] := rfl
theorem b403_7 : blk 403 7 = [.dload 4, .dload 6, .dcmp .l, .ifCond .ne 9, .goto 8] := rfl
theorem b403_8 : blk 403 8 = [.bipush 1, .goto 10] := rfl
theorem b403_9 : blk 403 9 = [.bipush 0, .goto 10] := rfl
theorem b403_10 : blk 403 10 = [.invokeinterface 99684 3, .goto 19] := rfl
theorem b403_11 : blk 403 11 = [.aload 0, .iconst 2, .iload 1, .dload 4, .dload 6, .invokeinterface 103424 3, .ifCond .eq 12, .bipush 9221120237041090560, .goto 18] := rfl
theorem b403_12 : blk 403 12 = [.iload 1, .iconst 43, .if_icmp .ne 13, .dload 4, .dload 6, .dadd, .goto 17] := rfl
theorem b403_13 : blk 403 13 = [.iload 1, .iconst 45, .if_icmp .ne 14, .dload 4, .dload 6, .dsub, .goto 17] := rfl
theorem b403_14 : blk 403 14 = [.iload 1, .iconst 42, .if_icmp .ne 15, .dload 4, .dload 6, .dmul, .goto 17] := rfl
theorem b403_15 : blk 403 15 = [.iload 1, .iconst 47, .if_icmp .ne 16, .dload 4, .dload 6, .ddiv, .goto 17] := rfl
theorem b403_16 : blk 403 16 = [.dload 4, .dload 6, .drem, .goto 17] := rfl
theorem b403_17 : blk 403 17 = [.invokeinterface 101377 1, .goto 18] := rfl
theorem b403_18 : blk 403 18 = [.invokeinterface 99684 3, .goto 19] := rfl
theorem b403_19 : blk 403 19 = [.return_] := rfl
theorem b403_20 : blk 403 20 = [.aload 0, .iconst 2, .invokeinterface 100705 2, .lstore 4, .aload 0, .iconst 1, .invokeinterface 100705 2, .lstore 6, .iload 3, .ifCond .eq 26, .aload 0, .dup, .ifnull 11552, .iconst 2, .isub, .jsr_w 11552, .aload 0, .iconst 1, .iload 1, .iconst 60, .if_icmp .ne 21, .lload 4, .lload 6, .lcmp, .ifCond .ge 24, .goto 23] := rfl
theorem b403_21 : blk 403 21 = [.iload 1, .iconst 62, .if_icmp .ne 22, .lload 4, .lload 6, .lcmp, .ifCond .le 24, .goto 23] := rfl
theorem b403_22 : blk 403 22 = [.lload 4, .lload 6, .lcmp, .ifCond .ne 24, .goto 23] := rfl
theorem b403_23 : blk 403 23 = [.bipush 1, .goto 25] := rfl
theorem b403_24 : blk 403 24 = [.bipush 0, .goto 25] := rfl
theorem b403_25 : blk 403 25 = [.invokeinterface 99684 3, .return_] := rfl
theorem b403_26 : blk 403 26 = [.iload 1, .iconst 47, .if_icmp .eq 27, .iload 1, .iconst 37, .if_icmp .ne 28, .goto 27] := rfl
theorem b403_27 : blk 403 27 = [.lload 6, .bipush 0, .lcmp, .ifCond .ne 28, .aload 0, .iconst 1, .invokeinterface 98912 2, .pop, .return_] := rfl
theorem b403_28 : blk 403 28 = [.iload 1, .iconst 43, .if_icmp .ne 29, .lload 4, .lload 6, .ladd, .goto 33] := rfl
theorem b403_29 : blk 403 29 = [.iload 1, .iconst 45, .if_icmp .ne 30, .lload 4, .lload 6, .lsub, .goto 33] := rfl
theorem b403_30 : blk 403 30 = [.iload 1, .iconst 42, .if_icmp .ne 31, .lload 4, .lload 6, .lmul, .goto 33] := rfl
theorem b403_31 : blk 403 31 = [.iload 1, .iconst 47, .if_icmp .ne 32, .lload 4, .lload 6, .ldiv, .l2i, .i2l, .goto 33] := rfl
theorem b403_32 : blk 403 32 = [.lload 4, .lload 6, .lrem, .goto 33] := rfl
theorem b403_33 : blk 403 33 = [.lstore 8, .lload 8, .lload 8, .l2i, .i2l, .lcmp, .ifCond .eq 34, .aload 0, .iconst 7, .invokeinterface 98912 2, .pop, .return_] := rfl
theorem b403_34 : blk 403 34 = [.aload 0, .dup, .ifnull 11552, .iconst 2, .isub, .jsr_w 11552, .aload 0, .iconst 1, .lload 8, .invokeinterface 99684 3, .return_] := rfl
theorem en403 {a0 a1 : Int} : ent 403 [(3, a0), (0, a1)] = [(3, a0), (0, a1), (9, 0), (9, 0), (9, 0), (9, 0), (9, 0), (9, 0), (9, 0), (9, 0)] := rfl
theorem b404_0 : blk 404 0 = [.dload 1, .dload 1, .dcmp .l, .ifCond .ne 1, .dload 3, .dload 3, .dcmp .l, .ifCond .eq 2, .goto 1] := rfl
theorem b404_1 : blk 404 1 = [.iconst 1, .freturn] := rfl
theorem b404_2 : blk 404 2 = [.dload 1, .invokeinterface 103680 1, .ifCond .eq 3, .dload 3, .invokeinterface 103680 1, .ifCond .eq 3, .iconst 1, .goto 4] := rfl
theorem b404_3 : blk 404 3 = [.iconst 0, .goto 4] := rfl
theorem b404_4 : blk 404 4 = [.istore 5, .iload 0, .tableswitch 20 42 47 #[11, 5, 20, 8, 20, 16]] := rfl
theorem b404_5 : blk 404 5 = [.iload 5, .ifCond .eq 6, .dload 1, .dload 3, .dcmp .l, .ifCond .eq 6, .iconst 1, .goto 7] := rfl
theorem b404_6 : blk 404 6 = [.iconst 0, .goto 7] := rfl
theorem b404_7 : blk 404 7 = [.freturn] := rfl
theorem b404_8 : blk 404 8 = [.iload 5, .ifCond .eq 9, .dload 1, .dload 3, .dcmp .l, .ifCond .ne 9, .iconst 1, .goto 10] := rfl
theorem b404_9 : blk 404 9 = [.iconst 0, .goto 10] := rfl
theorem b404_10 : blk 404 10 = [.freturn] := rfl
theorem b404_11 : blk 404 11 = [.dload 1, .invokeinterface 103680 1, .ifCond .eq 12, .dload 3, .sipush 0, .dcmp .l, .ifCond .eq 13, .goto 12] := rfl
theorem b404_12 : blk 404 12 = [.dload 3, .invokeinterface 103680 1, .ifCond .eq 14, .dload 1, .sipush 0, .dcmp .l, .ifCond .ne 14, .goto 13] := rfl
theorem b404_13 : blk 404 13 = [.iconst 1, .goto 15] := rfl
theorem b404_14 : blk 404 14 = [.iconst 0, .goto 15] := rfl
theorem b404_15 : blk 404 15 = [.freturn] := rfl
theorem b404_16 : blk 404 16 = [.iload 5, .ifCond .ne 17, .dload 1, .sipush 0, .dcmp .l, .ifCond .ne 18, .dload 3, .sipush 0, .dcmp .l, .ifCond .ne 18, .goto 17] := rfl
theorem b404_17 : blk 404 17 = [.iconst 1, .goto 19] := rfl
theorem b404_18 : blk 404 18 = [.iconst 0, .goto 19] := rfl
theorem b404_19 : blk 404 19 = [.freturn] := rfl
theorem b404_20 : blk 404 20 = [.dload 1, .invokeinterface 103680 1, .ifCond .ne 21, .dload 3, .sipush 0, .dcmp .l, .ifCond .ne 22, .goto 21] := rfl
theorem b404_21 : blk 404 21 = [.iconst 1, .goto 23] := rfl
theorem b404_22 : blk 404 22 = [.iconst 0, .goto 23] := rfl
theorem b404_23 : blk 404 23 = [.freturn] := rfl
theorem en404 {a0 a1 a2 : Int} : ent 404 [(0, a0), (2, a1), (2, a2)] = [(0, a0), (2, a1), (9, 0), (2, a2), (9, 0), (9, 0)] := rfl
theorem b405_0 : blk 405 0 = [.dload 0, .sipush 9218868437227405311, .dcmp .l, .ifCond .gt 1, .dload 0, .sipush (-4503599627370497), .dcmp .g, .ifCond .ge 2, .goto 1] := rfl
theorem b405_1 : blk 405 1 = [.iconst 1, .goto 3] := rfl
theorem b405_2 : blk 405 2 = [.iconst 0, .goto 3] := rfl
theorem b405_3 : blk 405 3 = [.freturn] := rfl
theorem en405 {a0 : Int} : ent 405 [(2, a0)] = [(2, a0), (9, 0)] := rfl
theorem b406_0 : blk 406 0 = [.aload 0, .iconst 1, .invokeinterface 102496 2, .istore 1, .iload 1, .ifCond .ne 1, .aload 0, .iconst 1, .invokeinterface 98656 2, .iconst 1, .if_icmp .ne 1, .aload 0, .iconst 1, .invokeinterface 100705 2, .bipush (-2147483648), .lcmp, .ifCond .ne 1, .iconst 7, .istore 1, .goto 1] := rfl
theorem b406_1 : blk 406 1 = [.iload 1, .ifCond .eq 2, .aload 0, .iload 1, .invokeinterface 98912 2, .pop, .return_] := rfl
theorem b406_2 : blk 406 2 = [.aload 0, .iconst 1, .invokeinterface 98656 2, .iconst 2, .if_icmp .ne 3, .iconst 43, .aload 0, .iconst 1, .invokeinterface 102754 2, .sipush 0, .invokeinterface 103424 3, .ifCond .eq 3, .iconst 1, .goto 4] := rfl
theorem b406_3 : blk 406 3 = [.iconst 0, .goto 4] := rfl
theorem b406_4 : blk 406 4 = [.istore 2, .aload 0, .ifnonnull 11547, .aload 0, .ifnull 11552, .iconst 1, .isub, .aload 0, .iconst 1, .invokeinterface 98656 2, .iconst 1, .if_icmp .ne 5, .aload 0, .iconst 1, .invokeinterface 100705 2, .lneg, .goto 7] := rfl
theorem b406_5 : blk 406 5 = [.iload 2, .ifCond .eq 6, .aload 0, .iconst 1, .invokeinterface 100705 2, .goto 7] := rfl
theorem b406_6 : blk 406 6 = [.aload 0, .iconst 1, .invokeinterface 100705 2, .f2d, .dneg, .invokeinterface 101377 1, .goto 7] := rfl
theorem b406_7 : blk 406 7 = [.lastore, .return_] := rfl
theorem en406 {a0 : Int} : ent 406 [(3, a0)] = [(3, a0), (9, 0), (9, 0)] := rfl
theorem b407_0 : blk 407 0 = [.aload 0, .iconst 1, .invokeinterface 98400 2, .istore 1, .iload 1, .aload 0, .iconst 2, .invokeinterface 98656 2, .ifCond .ne 1, .iconst 3, .goto 3] := rfl
theorem b407_1 : blk 407 1 = [.aload 0, .iconst 2, .invokeinterface 98656 2, .iconst 4, .if_icmp .eq 2, .iconst 4, .goto 3] := rfl
theorem b407_2 : blk 407 2 = [.iconst 0, .goto 3] := rfl
theorem b407_3 : blk 407 3 = [.invokeinterface 100352 2, .istore 1, .iload 1, .ifCond .ne 5, .aload 0, .iconst 1, .invokeinterface 100705 2, .bipush 0, .lcmp, .ifCond .lt 4, .aload 0, .iconst 1, .invokeinterface 100705 2, .aload 0, .ifnonnull 11523, .aload 0, .iconst 2, .invokeinterface 100705 2, .l2i, .iaload, .i2l, .lcmp, .ifCond .lt 5, .goto 4] := rfl
theorem b407_4 : blk 407 4 = [.iconst 2, .istore 1, .goto 5] := rfl
theorem b407_5 : blk 407 5 = [.iload 1, .ifCond .eq 6, .aload 0, .iload 1, .invokeinterface 98912 2, .pop, .return_] := rfl
theorem b407_6 : blk 407 6 = [.aload 0, .iconst 1, .invokeinterface 100705 2, .l2i, .istore 2, .aload 0, .iconst 2, .invokeinterface 100705 2, .l2i, .istore 3, .aload 0, .dup, .ifnull 11552, .iconst 2, .isub, .jsr_w 11552, .aload 0, .iload 3, .iload 2, .invokeinterface 104548 3, .return_] := rfl
theorem en407 {a0 : Int} : ent 407 [(3, a0)] = [(3, a0), (9, 0), (9, 0), (9, 0)] := rfl
theorem b408_0 : blk 408 0 = [.aload 0, .ifnonnull 11531, .iconst 64, .iload 1, .imul, .iload 2, .iadd, .laload, .lstore 3, .aload 0, .ifnonnull 11515, .iload 1, .iaload, .istore 5, .aload 0, .iload 5, .iconst 4, .if_icmp .ne 1, .iconst 1, .goto 4] := rfl
theorem b408_1 : blk 408 1 = [.iload 5, .iconst 5, .if_icmp .ne 2, .iconst 2, .goto 4] := rfl
theorem b408_2 : blk 408 2 = [.lload 3, .bipush (-9), .lcmp, .ifCond .ne 3, .iconst 0, .goto 4] := rfl
theorem b408_3 : blk 408 3 = [.iconst 3, .goto 4] := rfl
theorem b408_4 : blk 408 4 = [.iload 5, .iconst 5, .if_icmp .le 5, .lload 3, .bipush (-9), .lcmp, .ifCond .ne 5, .bipush 0, .goto 6] := rfl
theorem b408_5 : blk 408 5 = [.lload 3, .goto 6] := rfl
theorem b408_6 : blk 408 6 = [.invokeinterface 99684 3, .return_] := rfl
theorem en408 {a0 a1 a2 : Int} : ent 408 [(3, a0), (0, a1), (0, a2)] = [(3, a0), (0, a1), (0, a2), (9, 0), (9, 0), (9, 0)] := rfl
theorem b409_0 : blk 409 0 = [.aload 0, .iconst 1, .invokeinterface 98400 2, .iconst 0, .invokeinterface 100352 2, .istore 2, .iload 2, .ifCond .ne 2, .aload 0, .iconst 1, .invokeinterface 100705 2, .bipush 0, .lcmp, .ifCond .lt 1, .aload 0, .iconst 1, .invokeinterface 100705 2, .bipush 64, .lcmp, .ifCond .le 2, .goto 1] := rfl
theorem b409_1 : blk 409 1 = [.iconst 5, .istore 2, .goto 2] := rfl
theorem b409_2 : blk 409 2 = [.iload 2, .ifCond .eq 3, .aload 0, .iload 2, .invokeinterface 98912 2, .pop, .goto 5] := rfl
theorem b409_3 : blk 409 3 = [.aload 0, .ifnull 11504, .iconst 6000, .if_icmp .ne 4, .aload 0, .iconst (-22), .invokeinterface 99172 2, .goto 5] := rfl
theorem b409_4 : blk 409 4 = [.aload 0, .iconst 1, .invokeinterface 100705 2, .l2i, .istore 3, .aload 0, .dup, .ifnull 11552, .iconst 1, .isub, .jsr_w 11552, .aload 0, .iconst 4, .aload 0, .iload 1, .iload 3, .invokeinterface 96608 3, .i2l, .invokeinterface 99684 3, .goto 5] := rfl
theorem b409_5 : blk 409 5 = [.return_] := rfl
theorem en409 {a0 a1 : Int} : ent 409 [(3, a0), (0, a1)] = [(3, a0), (0, a1), (9, 0), (9, 0)] := rfl
theorem b410_0 : blk 410 0 = [.iload 1, .tableswitch 21 12 17 #[1, 5, 6, 7, 10, 14]] := rfl
theorem b410_1 : blk 410 1 = [.aload 0, .iconst 1, .invokeinterface 98656 2, .ifCond .ne 2, .iconst 3, .goto 4] := rfl
theorem b410_2 : blk 410 2 = [.aload 0, .iconst 1, .invokeinterface 98656 2, .iconst 4, .if_icmp .eq 3, .iconst 4, .goto 4] := rfl
theorem b410_3 : blk 410 3 = [.iconst 0, .goto 4] := rfl
theorem b410_4 : blk 410 4 = [.istore 2, .iload 2, .ifCond .ne 28, .aload 0, .ifnonnull 11547, .aload 0, .ifnull 11552, .iconst 1, .isub, .aload 0, .ifnonnull 11523, .aload 0, .iconst 1, .invokeinterface 100705 2, .l2i, .iaload, .i2l, .lastore, .aload 0, .ifnonnull 11539, .aload 0, .ifnull 11552, .iconst 1, .isub, .iconst 1, .iastore, .goto 28] := rfl
theorem b410_5 : blk 410 5 = [.aload 0, .iconst 1, .invokeinterface 102496 2, .istore 2, .iload 2, .ifCond .ne 28, .aload 0, .iconst 1, .invokeinterface 98656 2, .iconst 2, .if_icmp .ne 28, .aload 0, .ifnonnull 11547, .aload 0, .ifnull 11552, .iconst 1, .isub, .aload 0, .iconst 1, .invokeinterface 100705 2, .f2d, .d2i, .i2l, .lastore, .aload 0, .ifnonnull 11539, .aload 0, .ifnull 11552, .iconst 1, .isub, .iconst 1, .iastore, .goto 28] := rfl
theorem b410_6 : blk 410 6 = [.aload 0, .iconst 1, .invokeinterface 102496 2, .istore 2, .iload 2, .ifCond .ne 28, .aload 0, .iconst 1, .invokeinterface 98656 2, .iconst 1, .if_icmp .ne 28, .aload 0, .ifnonnull 11547, .aload 0, .ifnull 11552, .iconst 1, .isub, .aload 0, .iconst 1, .invokeinterface 100705 2, .l2d, .invokeinterface 101377 1, .lastore, .aload 0, .ifnonnull 11539, .aload 0, .ifnull 11552, .iconst 1, .isub, .iconst 2, .iastore, .goto 28] := rfl
theorem b410_7 : blk 410 7 = [.iconst 0, .istore 2, .aload 0, .ifnonnull 11547, .aload 0, .ifnull 11552, .iconst 1, .isub, .aload 0, .iconst 1, .invokeinterface 98656 2, .ifCond .ne 8, .bipush 1, .goto 9] := rfl
theorem b410_8 : blk 410 8 = [.bipush 0, .goto 9] := rfl
theorem b410_9 : blk 410 9 = [.lastore, .aload 0, .ifnonnull 11539, .aload 0, .ifnull 11552, .iconst 1, .isub, .iconst 1, .iastore, .goto 28] := rfl
theorem b410_10 : blk 410 10 = [.aload 0, .iconst 1, .invokeinterface 98400 2, .istore 2, .iload 2, .ifCond .ne 12, .aload 0, .iconst 1, .invokeinterface 100705 2, .bipush 0, .lcmp, .ifCond .lt 11, .aload 0, .iconst 1, .invokeinterface 100705 2, .aload 0, .ifnull 11464, .i2l, .lcmp, .ifCond .lt 12, .goto 11] := rfl
theorem b410_11 : blk 410 11 = [.iconst 2, .goto 13] := rfl
theorem b410_12 : blk 410 12 = [.iload 2, .goto 13] := rfl
theorem b410_13 : blk 410 13 = [.istore 2, .iload 2, .ifCond .ne 28, .aload 0, .ifnonnull 11539, .aload 0, .ifnull 11552, .iconst 1, .isub, .iconst 3, .iastore, .goto 28] := rfl
theorem b410_14 : blk 410 14 = [.aload 0, .iconst 1, .invokeinterface 98400 2, .aload 0, .iconst 2, .invokeinterface 98656 2, .ifCond .ne 15, .iconst 3, .goto 17] := rfl
theorem b410_15 : blk 410 15 = [.aload 0, .iconst 2, .invokeinterface 98656 2, .iconst 3, .if_icmp .eq 16, .iconst 4, .goto 17] := rfl
theorem b410_16 : blk 410 16 = [.iconst 0, .goto 17] := rfl
theorem b410_17 : blk 410 17 = [.invokeinterface 100352 2, .istore 2, .iload 2, .ifCond .ne 19, .aload 0, .iconst 1, .invokeinterface 100705 2, .bipush 0, .lcmp, .ifCond .lt 18, .aload 0, .iconst 1, .invokeinterface 100705 2, .bipush 3, .lcmp, .ifCond .le 19, .goto 18] := rfl
theorem b410_18 : blk 410 18 = [.iconst 2, .goto 20] := rfl
theorem b410_19 : blk 410 19 = [.iload 2, .goto 20] := rfl
theorem b410_20 : blk 410 20 = [.istore 2, .iload 2, .ifCond .ne 28, .aload 0, .aload 0, .iconst 2, .invokeinterface 100705 2, .l2i, .aload 0, .iconst 1, .invokeinterface 100705 2, .l2i, .invokeinterface 95840 3, .istore 3, .aload 0, .dup, .ifnull 11552, .iconst 2, .isub, .jsr_w 11552, .aload 0, .iconst 1, .iload 3, .i2l, .invokeinterface 99684 3, .goto 28] := rfl
theorem b410_21 : blk 410 21 = [.aload 0, .iconst 2, .invokeinterface 98400 2, .aload 0, .iconst 1, .invokeinterface 98400 2, .invokeinterface 100352 2, .istore 2, .iload 2, .ifCond .ne 23, .aload 0, .iconst 2, .invokeinterface 100705 2, .bipush 0, .lcmp, .ifCond .lt 22, .aload 0, .iconst 2, .invokeinterface 100705 2, .aload 0, .ifnull 11464, .i2l, .lcmp, .ifCond .ge 22, .aload 0, .ifnonnull 11475, .aload 0, .iconst 2, .invokeinterface 100705 2, .l2i, .iaload, .ifCond .ne 22, .aload 0, .iconst 1, .invokeinterface 100705 2, .bipush 0, .lcmp, .ifCond .lt 22, .aload 0, .iconst 1, .invokeinterface 100705 2, .aload 0, .ifnull 11339, .ifnonnull 12291, .iconst 5, .iaload, .i2l, .lcmp, .ifCond .lt 23, .goto 22] := rfl
theorem b410_22 : blk 410 22 = [.iconst 2, .istore 2, .goto 23] := rfl
theorem b410_23 : blk 410 23 = [.iload 2, .ifCond .ne 28, .aload 0, .ifnonnull 11499, .iconst 8, .aload 0, .iconst 2, .invokeinterface 100705 2, .l2i, .imul, .aload 0, .iconst 1, .invokeinterface 100705 2, .l2i, .iadd, .iaload, .istore 3, .aload 0, .dup, .ifnull 11552, .iconst 2, .isub, .jsr_w 11552, .aload 0, .iload 3, .iconst (-9), .if_icmp .ne 24, .iconst 0, .goto 25] := rfl
theorem b410_24 : blk 410 24 = [.iconst 4, .goto 25] := rfl
theorem b410_25 : blk 410 25 = [.iload 3, .iconst (-9), .if_icmp .ne 26, .bipush 0, .goto 27] := rfl
theorem b410_26 : blk 410 26 = [.iload 3, .i2l, .goto 27] := rfl
theorem b410_27 : blk 410 27 = [.invokeinterface 99684 3, .goto 28] := rfl
theorem b410_28 : blk 410 28 = [.iload 2, .ifCond .eq 29, .aload 0, .iload 2, .invokeinterface 98912 2, .pop, .goto 29] := rfl
theorem b410_29 : blk 410 29 = [.return_] := rfl
theorem en410 {a0 a1 : Int} : ent 410 [(3, a0), (0, a1)] = [(3, a0), (0, a1), (9, 0), (9, 0)] := rfl
theorem b411_0 : blk 411 0 = [.iload 1, .iconst (-1), .if_icmp .ne 3, .aload 0, .ifnull 11728, .iconst 1, .if_icmp .ne 1, .aload 0, .ifnull 11737, .goto 2] := rfl
theorem b411_1 : blk 411 1 = [.bipush 0, .goto 2] := rfl
theorem b411_2 : blk 411 2 = [.lreturn] := rfl
theorem b411_3 : blk 411 3 = [.iload 1, .iconst (-2), .if_icmp .ne 6, .aload 0, .ifnull 11728, .iconst 2, .if_icmp .ne 4, .aload 0, .ifnull 11737, .goto 5] := rfl
theorem b411_4 : blk 411 4 = [.bipush 0, .goto 5] := rfl
theorem b411_5 : blk 411 5 = [.lreturn] := rfl
theorem b411_6 : blk 411 6 = [.iload 1, .iconst (-3), .if_icmp .ne 9, .aload 0, .ifnull 11728, .iconst 3, .if_icmp .ne 7, .aload 0, .ifnull 11737, .goto 8] := rfl
theorem b411_7 : blk 411 7 = [.bipush 0, .goto 8] := rfl
theorem b411_8 : blk 411 8 = [.lreturn] := rfl
theorem b411_9 : blk 411 9 = [.aload 0, .ifnull 11728, .iconst 4, .if_icmp .eq 10, .bipush 0, .lreturn] := rfl
theorem b411_10 : blk 411 10 = [.aload 0, .ifnull 11737, .l2i, .istore 2, .iload 1, .iconst (-4), .if_icmp .ne 11, .aload 0, .ifnonnull 11523, .iload 2, .iaload, .i2l, .goto 13] := rfl
theorem b411_11 : blk 411 11 = [.iload 1, .ifCond .lt 12, .iload 1, .aload 0, .ifnonnull 11523, .iload 2, .iaload, .if_icmp .ge 12, .aload 0, .ifnonnull 11531, .iconst 64, .iload 2, .imul, .iload 1, .iadd, .laload, .goto 13] := rfl
theorem b411_12 : blk 411 12 = [.bipush 0, .goto 13] := rfl
theorem b411_13 : blk 411 13 = [.lreturn] := rfl
theorem en411 {a0 a1 : Int} : ent 411 [(3, a0), (0, a1)] = [(3, a0), (0, a1), (9, 0)] := rfl
theorem b412_0 : blk 412 0 = [.aload 0, .ifnull 11688, .ireturn] := rfl
theorem en412 {a0 : Int} : ent 412 [(3, a0)] = [(3, a0)] := rfl
theorem b413_0 : blk 413 0 = [.aload 0, .iload 1, .invokeinterface 97632 2, .ifCond .eq 1, .iload 2, .iconst 1, .iconst 3000, .invokeinterface 94464 3, .ifCond .eq 1, .aload 0, .ifnull 11339, .ifnonnull 12379, .iload 1, .iaload, .iconst 1, .if_icmp .eq 2, .goto 1] := rfl
theorem b413_1 : blk 413 1 = [.iconst (-1), .ireturn] := rfl
theorem b413_2 : blk 413 2 = [.aload 0, .ifnull 11728, .istore 3, .aload 0, .ifnull 11737, .lstore 4, .aload 0, .ifnull 11688, .istore 6, .iconst 0, .istore 7, .iconst 0, .istore 8, .goto 3] := rfl
theorem b413_3 : blk 413 3 = [.iload 8, .aload 0, .ifnull 11464, .if_icmp .ge 13, .aload 0, .ifnonnull 11475, .iload 8, .iaload, .ifCond .ne 12, .aload 0, .iload 1, .iload 2, .iload 8, .iconst 0, .iconst 0, .iconst 0, .invokeinterface 97888 7, .pop, .aload 0, .ifnull 11728, .iconst 1, .if_icmp .ne 4, .aload 0, .ifnull 11737, .l2d, .goto 5] := rfl
theorem b413_4 : blk 413 4 = [.aload 0, .ifnull 11737, .f2d, .goto 5] := rfl
theorem b413_5 : blk 413 5 = [.dstore 9, .aload 0, .ifnonnull 11771, .iload 8, .aload 0, .ifnull 11720, .ifCond .lt 6, .aload 0, .ifnull 11728, .iconst 1, .if_icmp .eq 7, .aload 0, .ifnull 11728, .iconst 2, .if_icmp .eq 7, .goto 6] := rfl
theorem b413_6 : blk 413 6 = [.iconst 2, .goto 9] := rfl
theorem b413_7 : blk 413 7 = [.dload 9, .dload 9, .dcmp .l, .ifCond .eq 8, .iconst 1, .goto 9] := rfl
theorem b413_8 : blk 413 8 = [.iconst 0, .goto 9] := rfl
theorem b413_9 : blk 413 9 = [.iastore, .aload 0, .ifnonnull 11779, .iload 8, .dload 9, .dastore, .iload 7, .istore 11, .goto 10] := rfl
theorem b413_10 : blk 413 10 = [.iload 11, .ifCond .le 11, .aload 0, .iload 8, .aload 0, .ifnonnull 11763, .iload 11, .iconst 1, .isub, .iaload, .invokeinterface 106080 3, .ifCond .eq 11, .aload 0, .ifnonnull 11763, .iload 11, .aload 0, .ifnonnull 11763, .iload 11, .iconst 1, .isub, .iaload, .iastore, .iinc 11 (-1), .goto 10] := rfl
theorem b413_11 : blk 413 11 = [.aload 0, .ifnonnull 11763, .iload 11, .iload 8, .iastore, .iinc 7 1, .goto 12] := rfl
theorem b413_12 : blk 413 12 = [.iinc 8 1, .goto 3] := rfl
theorem b413_13 : blk 413 13 = [.aload 0, .iload 3, .jsr_w 11728, .aload 0, .lload 4, .jsr_w 11737, .aload 0, .iload 6, .jsr_w 11688, .aload 0, .iload 7, .jsr_w 11752, .iload 7, .ireturn] := rfl
theorem en413 {a0 a1 a2 : Int} : ent 413 [(3, a0), (0, a1), (0, a2)] = [(3, a0), (0, a1), (0, a2), (9, 0), (9, 0), (9, 0), (9, 0), (9, 0), (9, 0), (9, 0), (9, 0), (9, 0)] := rfl
theorem b414_0 : blk 414 0 = [.aload 0, .ifnonnull 11771, .iload 1, .iaload, .aload 0, .ifnonnull 11771, .iload 2, .iaload, .if_icmp .eq 3, .aload 0, .ifnonnull 11771, .iload 1, .iaload, .aload 0, .ifnonnull 11771, .iload 2, .iaload, .if_icmp .ge 1, .iconst 1, .goto 2] := rfl
theorem b414_1 : blk 414 1 = [.iconst 0, .goto 2] := rfl
theorem b414_2 : blk 414 2 = [.freturn] := rfl
theorem b414_3 : blk 414 3 = [.aload 0, .ifnonnull 11771, .iload 1, .iaload, .ifCond .ne 5, .aload 0, .ifnonnull 11779, .iload 1, .daload, .aload 0, .ifnonnull 11779, .iload 2, .daload, .dcmp .l, .ifCond .eq 5, .aload 0, .ifnonnull 11779, .iload 1, .daload, .aload 0, .ifnonnull 11779, .iload 2, .daload, .dcmp .g, .ifCond .ge 4, .iconst 1, .goto 7] := rfl
theorem b414_4 : blk 414 4 = [.iconst 0, .goto 7] := rfl
theorem b414_5 : blk 414 5 = [.iload 1, .iload 2, .if_icmp .ge 6, .iconst 1, .goto 7] := rfl
theorem b414_6 : blk 414 6 = [.iconst 0, .goto 7] := rfl
theorem b414_7 : blk 414 7 = [.freturn] := rfl
theorem en414 {a0 a1 a2 : Int} : ent 414 [(3, a0), (0, a1), (0, a2)] = [(3, a0), (0, a1), (0, a2)] := rfl
theorem b415_0 : blk 415 0 = [.iload 1, .iconst 0, .aload 0, .ifnull 11752, .iconst 1, .isub, .invokeinterface 94464 3, .ifCond .eq 1, .aload 0, .ifnonnull 11763, .iload 1, .iaload, .goto 2] := rfl
theorem b415_1 : blk 415 1 = [.iconst (-1), .goto 2] := rfl
theorem b415_2 : blk 415 2 = [.ireturn] := rfl
theorem en415 {a0 a1 : Int} : ent 415 [(3, a0), (0, a1)] = [(3, a0), (0, a1)] := rfl
theorem b416_0 : blk 416 0 = [.iload 1, .iconst 1, .iconst 4, .invokeinterface 94464 3, .ifCond .ne 1, .iconst (-1), .ireturn] := rfl
theorem b416_1 : blk 416 1 = [.aload 0, .ifnull 11784, .istore 2, .aload 0, .iload 1, .jsr_w 11784, .aload 0, .invokeinterface 106852 1, .iconst 0, .istore 3, .goto 2] := rfl
theorem b416_2 : blk 416 2 = [.iload 3, .iconst 10, .if_icmp .ge 3, .aload 0, .ifnonnull 11795, .iload 3, .iconst 0, .iastore, .aload 0, .ifnonnull 11803, .iload 3, .iconst 0, .iastore, .iinc 3 1, .goto 2] := rfl
theorem b416_3 : blk 416 3 = [.iconst 0, .istore 3, .goto 4] := rfl
theorem b416_4 : blk 416 4 = [.iload 3, .iconst 240, .if_icmp .ge 5, .aload 0, .ifnonnull 11811, .iload 3, .iconst 0, .iastore, .iinc 3 1, .goto 4] := rfl
theorem b416_5 : blk 416 5 = [.iload 2, .ireturn] := rfl
theorem en416 {a0 a1 : Int} : ent 416 [(3, a0), (0, a1)] = [(3, a0), (0, a1), (9, 0), (9, 0)] := rfl
theorem b417_0 : blk 417 0 = [.aload 0, .iconst 0, .jsr_w 11820, .aload 0, .iconst 0, .jsr_w 11828, .aload 0, .iconst 0, .jsr_w 11836, .return_] := rfl
theorem en417 {a0 : Int} : ent 417 [(3, a0)] = [(3, a0)] := rfl
theorem b418_0 : blk 418 0 = [.aload 0, .iload 1, .iload 2, .iload 3, .invokeinterface 107360 4, .ifCond .ne 1, .iconst (-1), .ireturn] := rfl
theorem b418_1 : blk 418 1 = [.aload 0, .ifnonnull 11795, .iload 1, .aload 0, .ifnonnull 11795, .iload 1, .iaload, .iconst 1, .iload 2, .ishl, .iconst (-1), .ixor, .iand, .iload 3, .iload 2, .ishl, .ior, .iastore, .aload 0, .invokeinterface 106852 1, .iconst 0, .ireturn] := rfl
theorem en418 {a0 a1 a2 a3 : Int} : ent 418 [(3, a0), (0, a1), (0, a2), (0, a3)] = [(3, a0), (0, a1), (0, a2), (0, a3)] := rfl
theorem b419_0 : blk 419 0 = [.iload 1, .iconst 0, .aload 0, .ifnull 11339, .ifnonnull 12291, .iconst 2, .iaload, .iconst 1, .isub, .invokeinterface 94464 3, .ifCond .eq 1, .iload 2, .iconst 0, .iconst 5, .aload 0, .ifnull 11784, .imul, .iconst 1, .isub, .invokeinterface 94464 3, .ifCond .eq 1, .iload 3, .iconst 0, .iconst 1, .invokeinterface 94464 3, .ifCond .eq 1, .iconst 1, .goto 2] := rfl
theorem b419_1 : blk 419 1 = [.iconst 0, .goto 2] := rfl
theorem b419_2 : blk 419 2 = [.freturn] := rfl
theorem en419 {a0 a1 a2 a3 : Int} : ent 419 [(3, a0), (0, a1), (0, a2), (0, a3)] = [(3, a0), (0, a1), (0, a2), (0, a3)] := rfl
theorem b420_0 : blk 420 0 = [.iload 1, .iconst 0, .aload 0, .ifnull 11339, .ifnonnull 12291, .iconst 4, .iaload, .iconst 1, .isub, .invokeinterface 94464 3, .ifCond .eq 1, .iload 2, .iconst 0, .iconst 5, .aload 0, .ifnull 11784, .imul, .iconst 1, .isub, .invokeinterface 94464 3, .ifCond .eq 1, .iload 3, .iconst (-99), .iconst 99, .invokeinterface 94464 3, .ifCond .ne 2, .goto 1] := rfl
theorem b420_1 : blk 420 1 = [.iconst (-100), .ireturn] := rfl
theorem b420_2 : blk 420 2 = [.aload 0, .ifnonnull 11811, .iconst 20, .iload 1, .imul, .iload 2, .iadd, .iaload, .istore 4, .aload 0, .ifnonnull 11811, .iconst 20, .iload 1, .imul, .iload 2, .iadd, .iload 3, .iastore, .aload 0, .invokeinterface 106852 1, .iload 4, .ireturn] := rfl
theorem en420 {a0 a1 a2 a3 : Int} : ent 420 [(3, a0), (0, a1), (0, a2), (0, a3)] = [(3, a0), (0, a1), (0, a2), (0, a3), (9, 0)] := rfl
theorem b421_0 : blk 421 0 = [.iload 1, .iconst 1, .iconst 10000, .invokeinterface 94464 3, .ifCond .ne 1, .iconst (-1), .ireturn] := rfl
theorem b421_1 : blk 421 1 = [.aload 0, .invokeinterface 108128 1, .istore 2, .aload 0, .ifnull 11339, .ifnonnull 12291, .iconst 1, .iaload, .istore 3, .iconst 5, .aload 0, .ifnull 11784, .imul, .iload 3, .imul, .istore 4, .aload 0, .iconst 0, .jsr_w 11840, .aload 0, .iload 2, .ifCond .ne 2, .iconst 1, .goto 3] := rfl
theorem b421_2 : blk 421 2 = [.iconst 0, .goto 3] := rfl
theorem b421_3 : blk 421 3 = [.jsr_w 11820, .aload 0, .iconst 1, .jsr_w 11828, .aload 0, .iconst 0, .jsr_w 11836, .aload 0, .iconst 0, .jsr_w 11848, .aload 0, .ifnonnull 11907, .iload 2, .iconst 0, .iastore, .iload 2, .iconst 1, .isub, .istore 5, .goto 4] := rfl
theorem b421_4 : blk 421 4 = [.iload 5, .ifCond .lt 9, .iconst 100, .istore 6, .iconst 0, .istore 7, .goto 5] := rfl
theorem b421_5 : blk 421 5 = [.iload 7, .iconst 5, .aload 0, .ifnull 11784, .imul, .if_icmp .ge 8, .aload 0, .ifnonnull 11811, .iconst 20, .aload 0, .ifnonnull 11875, .iload 5, .iaload, .imul, .iload 7, .iadd, .iaload, .istore 8, .iload 8, .iload 6, .if_icmp .ge 6, .iload 8, .goto 7] := rfl
theorem b421_6 : blk 421 6 = [.iload 6, .goto 7] := rfl
theorem b421_7 : blk 421 7 = [.istore 6, .iinc 7 1, .goto 5] := rfl
theorem b421_8 : blk 421 8 = [.aload 0, .ifnonnull 11907, .iload 5, .aload 0, .ifnonnull 11907, .iload 5, .iconst 1, .iadd, .iaload, .iload 6, .iadd, .iastore, .iinc 5 (-1), .goto 4] := rfl
theorem b421_9 : blk 421 9 = [.aload 0, .ifnonnull 11915, .iconst 0, .iconst 0, .iastore, .iconst 0, .istore 5, .aload 0, .ifnonnull 11899, .iconst 0, .iconst (-1), .iastore, .goto 10] := rfl
theorem b421_10 : blk 421 10 = [.iload 5, .ifCond .lt 20, .iload 2, .ifCond .le 20, .aload 0, .ifnonnull 11899, .iload 5, .dup2, .iaload, .iconst 1, .iadd, .iastore, .aload 0, .ifnonnull 11899, .iload 5, .iaload, .iload 4, .if_icmp .lt 11, .iinc 5 (-1), .goto 10] := rfl
theorem b421_11 : blk 421 11 = [.aload 0, .ifnull 11840, .iload 1, .if_icmp .ne 14, .aload 0, .ifnull 11820, .ifCond .eq 12, .iconst 1, .goto 13] := rfl
theorem b421_12 : blk 421 12 = [.iconst 3, .goto 13] := rfl
theorem b421_13 : blk 421 13 = [.ireturn] := rfl
theorem b421_14 : blk 421 14 = [.aload 0, .dup, .ifnull 11840, .iconst 1, .iadd, .jsr_w 11840, .aload 0, .ifnonnull 11899, .iload 5, .iaload, .iload 3, .idiv, .istore 6, .aload 0, .ifnonnull 11899, .iload 5, .iaload, .iload 3, .irem, .istore 7, .aload 0, .ifnonnull 11915, .iload 5, .iaload, .aload 0, .ifnonnull 11811, .iconst 20, .aload 0, .ifnonnull 11875, .iload 5, .iaload, .imul, .iload 6, .iadd, .iaload, .iadd, .istore 8, .aload 0, .iload 5, .iload 6, .iload 7, .invokeinterface 108384 4, .ifCond .eq 19, .aload 0, .ifnull 11820, .ifCond .eq 15, .iload 8, .aload 0, .ifnonnull 11907, .iload 5, .iconst 1, .iadd, .iaload, .iadd, .aload 0, .ifnull 11848, .if_icmp .ge 19, .goto 15] := rfl
theorem b421_15 : blk 421 15 = [.aload 0, .ifnonnull 11883, .iload 5, .iload 6, .iastore, .aload 0, .ifnonnull 11891, .iload 5, .iload 7, .iastore, .aload 0, .ifnonnull 11915, .iload 5, .iconst 1, .iadd, .iload 8, .iastore, .iload 5, .iload 2, .iconst 1, .isub, .if_icmp .ne 18, .aload 0, .iconst 1, .jsr_w 11820, .aload 0, .iload 8, .jsr_w 11848, .iconst 0, .istore 9, .goto 16] := rfl
theorem b421_16 : blk 421 16 = [.iload 9, .iload 2, .if_icmp .ge 17, .aload 0, .ifnonnull 11859, .iload 9, .aload 0, .ifnonnull 11883, .iload 9, .iaload, .iastore, .aload 0, .ifnonnull 11867, .iload 9, .aload 0, .ifnonnull 11891, .iload 9, .iaload, .iastore, .iinc 9 1, .goto 16] := rfl
theorem b421_17 : blk 421 17 = [.goto 19] := rfl
theorem b421_18 : blk 421 18 = [.iinc 5 1, .aload 0, .ifnonnull 11899, .iload 5, .iconst (-1), .iastore, .goto 19] := rfl
theorem b421_19 : blk 421 19 = [.goto 10] := rfl
theorem b421_20 : blk 421 20 = [.aload 0, .ifnull 11820, .ifCond .eq 21, .iconst 0, .goto 22] := rfl
theorem b421_21 : blk 421 21 = [.iconst 2, .goto 22] := rfl
theorem b421_22 : blk 421 22 = [.ireturn] := rfl
theorem en421 {a0 a1 : Int} : ent 421 [(3, a0), (0, a1)] = [(3, a0), (0, a1), (9, 0), (9, 0), (9, 0), (9, 0), (9, 0), (9, 0), (9, 0), (9, 0)] := rfl
theorem b422_0 : blk 422 0 = [.iconst 0, .istore 1, .iconst 0, .istore 2, .goto 1] := rfl
theorem b422_1 : blk 422 1 = [.iload 2, .aload 0, .ifnull 11339, .ifnonnull 12291, .iconst 4, .iaload, .if_icmp .ge 4, .iconst 0, .istore 3, .goto 2] := rfl
theorem b422_2 : blk 422 2 = [.iload 3, .aload 0, .ifnull 11339, .ifnonnull 12363, .iload 2, .iaload, .if_icmp .ge 3, .aload 0, .ifnonnull 11875, .iload 1, .iload 2, .iastore, .iinc 1 1, .iinc 3 1, .goto 2] := rfl
theorem b422_3 : blk 422 3 = [.iinc 2 1, .goto 1] := rfl
theorem b422_4 : blk 422 4 = [.iload 1, .ireturn] := rfl
theorem en422 {a0 : Int} : ent 422 [(3, a0)] = [(3, a0), (9, 0), (9, 0), (9, 0)] := rfl
theorem b423_0 : blk 423 0 = [.aload 0, .ifnonnull 11875, .iload 1, .iaload, .istore 4, .aload 0, .ifnull 11339, .ifnonnull 12355, .iload 4, .iaload, .istore 5, .aload 0, .ifnull 11339, .ifnonnull 12307, .iload 3, .iaload, .aload 0, .ifnull 11339, .ifnonnull 12331, .aload 0, .ifnull 11339, .ifnonnull 12347, .iload 4, .iaload, .iaload, .if_icmp .lt 1, .aload 0, .ifnonnull 11795, .iload 5, .iaload, .iload 2, .ishr, .iconst 1, .iand, .ifCond .ne 1, .iconst 1, .goto 2] := rfl
theorem b423_1 : blk 423 1 = [.iconst 0, .goto 2] := rfl
theorem b423_2 : blk 423 2 = [.istore 6, .iconst 0, .istore 7, .goto 3] := rfl
theorem b423_3 : blk 423 3 = [.iload 7, .iload 1, .if_icmp .ge 10, .iload 6, .ifCond .eq 10, .aload 0, .ifnonnull 11875, .iload 7, .iaload, .istore 8, .aload 0, .ifnonnull 11883, .iload 7, .iaload, .iload 2, .if_icmp .ne 4, .iconst 1, .goto 5] := rfl
theorem b423_4 : blk 423 4 = [.iconst 0, .goto 5] := rfl
theorem b423_5 : blk 423 5 = [.istore 9, .iload 9, .ifCond .eq 6, .aload 0, .ifnonnull 11891, .iload 7, .iaload, .iload 3, .if_icmp .eq 8, .aload 0, .ifnull 11339, .ifnonnull 12347, .iload 8, .iaload, .aload 0, .ifnull 11339, .ifnonnull 12347, .iload 4, .iaload, .if_icmp .eq 8, .aload 0, .ifnull 11339, .ifnonnull 12355, .iload 8, .iaload, .iload 5, .if_icmp .eq 8, .goto 6] := rfl
theorem b423_6 : blk 423 6 = [.iload 8, .iload 4, .if_icmp .ne 7, .aload 0, .ifnonnull 11883, .iload 7, .iaload, .aload 0, .ifnull 11784, .idiv, .iload 2, .aload 0, .ifnull 11784, .idiv, .if_icmp .eq 8, .goto 7] := rfl
theorem b423_7 : blk 423 7 = [.iconst 1, .goto 9] := rfl
theorem b423_8 : blk 423 8 = [.iconst 0, .goto 9] := rfl
theorem b423_9 : blk 423 9 = [.istore 6, .iinc 7 1, .goto 3] := rfl
theorem b423_10 : blk 423 10 = [.iload 6, .freturn] := rfl
theorem en423 {a0 a1 a2 a3 : Int} : ent 423 [(3, a0), (0, a1), (0, a2), (0, a3)] = [(3, a0), (0, a1), (0, a2), (0, a3), (9, 0), (9, 0), (9, 0), (9, 0), (9, 0), (9, 0)] := rfl
theorem b424_0 : blk 424 0 = [.iload 1, .iconst 0, .iconst 1, .invokeinterface 94464 3, .ifCond .ne 1, .iconst (-1), .ireturn] := rfl
theorem b424_1 : blk 424 1 = [.iload 1, .iconst 1, .if_icmp .ne 4, .aload 0, .ifnull 11828, .ifCond .eq 2, .aload 0, .ifnull 11840, .goto 3] := rfl
theorem b424_2 : blk 424 2 = [.iconst (-100000), .goto 3] := rfl
theorem b424_3 : blk 424 3 = [.ireturn] := rfl
theorem b424_4 : blk 424 4 = [.aload 0, .ifnull 11820, .ifCond .eq 5, .aload 0, .ifnull 11848, .goto 6] := rfl
theorem b424_5 : blk 424 5 = [.iconst (-100000), .goto 6] := rfl
theorem b424_6 : blk 424 6 = [.ireturn] := rfl
theorem en424 {a0 a1 : Int} : ent 424 [(3, a0), (0, a1)] = [(3, a0), (0, a1)] := rfl
theorem b425_0 : blk 425 0 = [.iload 1, .iconst 0, .aload 0, .invokeinterface 108128 1, .iconst 1, .isub, .invokeinterface 94464 3, .ifCond .eq 1, .iload 2, .iconst 0, .iconst 2, .invokeinterface 94464 3, .ifCond .ne 2, .goto 1] := rfl
theorem b425_1 : blk 425 1 = [.iconst (-1), .ireturn] := rfl
theorem b425_2 : blk 425 2 = [.aload 0, .ifnull 11820, .ifCond .ne 3, .iconst (-2), .ireturn] := rfl
theorem b425_3 : blk 425 3 = [.iload 2, .ifCond .ne 4, .aload 0, .ifnonnull 11875, .iload 1, .iaload, .goto 6] := rfl
theorem b425_4 : blk 425 4 = [.iload 2, .iconst 1, .if_icmp .ne 5, .aload 0, .ifnonnull 11859, .iload 1, .iaload, .goto 6] := rfl
theorem b425_5 : blk 425 5 = [.aload 0, .ifnonnull 11867, .iload 1, .iaload, .goto 6] := rfl
theorem b425_6 : blk 425 6 = [.ireturn] := rfl
theorem en425 {a0 a1 a2 : Int} : ent 425 [(3, a0), (0, a1), (0, a2)] = [(3, a0), (0, a1), (0, a2)] := rfl
theorem b426_0 : blk 426 0 = [.aload 0, .iload 1, .invokeinterface 95328 2, .ifCond .eq 1, .aload 0, .iload 2, .invokeinterface 96352 2, .ifCond .ne 2, .goto 1] := rfl
theorem b426_1 : blk 426 1 = [.iconst (-1), .ireturn] := rfl
theorem b426_2 : blk 426 2 = [.aload 0, .ifnonnull 11475, .iload 1, .iaload, .ifCond .ne 3, .aload 0, .iload 1, .iload 2, .invokeinterface 109408 3, .iconst (-9), .if_icmp .eq 4, .goto 3] := rfl
theorem b426_3 : blk 426 3 = [.iconst (-2), .ireturn] := rfl
theorem b426_4 : blk 426 4 = [.aload 0, .ifnonnull 11931, .iconst 8, .iload 1, .imul, .aload 0, .ifnonnull 11923, .iload 1, .iaload, .iadd, .iload 2, .iastore, .aload 0, .ifnonnull 11923, .iload 1, .dup2, .iaload, .iconst 1, .iadd, .iastore, .aload 0, .ifnonnull 11923, .iload 1, .iaload, .ireturn] := rfl
theorem en426 {a0 a1 a2 : Int} : ent 426 [(3, a0), (0, a1), (0, a2)] = [(3, a0), (0, a1), (0, a2)] := rfl
theorem b427_0 : blk 427 0 = [.iconst 0, .istore 3, .goto 1] := rfl
theorem b427_1 : blk 427 1 = [.iload 3, .aload 0, .ifnonnull 11923, .iload 1, .iaload, .if_icmp .ge 3, .aload 0, .ifnonnull 11931, .iconst 8, .iload 1, .imul, .iload 3, .iadd, .iaload, .iload 2, .if_icmp .ne 2, .iload 3, .ireturn] := rfl
theorem b427_2 : blk 427 2 = [.iinc 3 1, .goto 1] := rfl
theorem b427_3 : blk 427 3 = [.iconst (-9), .ireturn] := rfl
theorem en427 {a0 a1 a2 : Int} : ent 427 [(3, a0), (0, a1), (0, a2)] = [(3, a0), (0, a1), (0, a2), (9, 0)] := rfl
theorem b428_0 : blk 428 0 = [.iconst 0, .istore 2, .iconst 0, .istore 3, .goto 1] := rfl
theorem b428_1 : blk 428 1 = [.iload 3, .aload 0, .ifnull 11464, .if_icmp .ge 5, .aload 0, .ifnonnull 11475, .iload 3, .iaload, .ifCond .ne 4, .iconst 0, .istore 4, .goto 2] := rfl
theorem b428_2 : blk 428 2 = [.iload 4, .aload 0, .ifnull 11339, .ifnonnull 12291, .iconst 5, .iaload, .if_icmp .ge 3, .iload 1, .iconst 16, .iload 3, .imul, .iload 4, .iadd, .iconst (-1640531535), .imul, .ixor, .istore 5, .iload 5, .iload 5, .iconst 15, .iushr, .ixor, .iconst (-2048144777), .imul, .istore 5, .aload 0, .ifnonnull 11939, .iconst 8, .iload 3, .imul, .iload 4, .iadd, .iload 5, .iload 5, .iconst 13, .iushr, .ixor, .iastore, .iinc 4 1, .goto 2] := rfl
theorem b428_3 : blk 428 3 = [.iinc 2 1, .goto 4] := rfl
theorem b428_4 : blk 428 4 = [.iinc 3 1, .goto 1] := rfl
theorem b428_5 : blk 428 5 = [.iload 2, .ireturn] := rfl
theorem en428 {a0 a1 : Int} : ent 428 [(3, a0), (0, a1)] = [(3, a0), (0, a1), (9, 0), (9, 0), (9, 0), (9, 0)] := rfl
theorem b429_0 : blk 429 0 = [.aload 0, .iload 1, .invokeinterface 110176 2, .ifCond .eq 1, .aload 0, .iload 2, .invokeinterface 96352 2, .ifCond .eq 1, .aload 0, .ifnonnull 11939, .iconst 8, .iload 1, .imul, .iload 2, .iadd, .iaload, .goto 2] := rfl
theorem b429_1 : blk 429 1 = [.iconst 0, .goto 2] := rfl
theorem b429_2 : blk 429 2 = [.ireturn] := rfl
theorem en429 {a0 a1 a2 : Int} : ent 429 [(3, a0), (0, a1), (0, a2)] = [(3, a0), (0, a1), (0, a2)] := rfl
theorem b430_0 : blk 430 0 = [.aload 0, .iload 1, .invokeinterface 95328 2, .ifCond .eq 1, .aload 0, .ifnonnull 11475, .iload 1, .iaload, .ifCond .ne 1, .iconst 1, .goto 2] := rfl
theorem b430_1 : blk 430 1 = [.iconst 0, .goto 2] := rfl
theorem b430_2 : blk 430 2 = [.freturn] := rfl
theorem en430 {a0 a1 : Int} : ent 430 [(3, a0), (0, a1)] = [(3, a0), (0, a1)] := rfl
theorem b431_0 : blk 431 0 = [.iload 1, .iconst 0, .iconst 1, .invokeinterface 94464 3, .ifCond .ne 1, .iconst (-1), .ireturn] := rfl
theorem b431_1 : blk 431 1 = [.iconst 0, .istore 2, .goto 2] := rfl
theorem b431_2 : blk 431 2 = [.iload 2, .aload 0, .ifnull 11464, .if_icmp .ge 3, .aload 0, .ifnonnull 11947, .iload 2, .iconst (-9), .iastore, .aload 0, .ifnonnull 11963, .iload 2, .iconst 0, .iastore, .iinc 2 1, .goto 2] := rfl
theorem b431_3 : blk 431 3 = [.iload 1, .ifCond .ne 4, .aload 0, .invokeinterface 110692 1, .goto 5] := rfl
theorem b431_4 : blk 431 4 = [.aload 0, .invokeinterface 111460 1, .goto 5] := rfl
theorem b431_5 : blk 431 5 = [.aload 0, .iconst 1, .jsr_w 11956, .iconst 0, .istore 2, .iconst 0, .istore 3, .goto 6] := rfl
theorem b431_6 : blk 431 6 = [.iload 3, .aload 0, .ifnull 11464, .if_icmp .ge 9, .iload 2, .aload 0, .ifnonnull 11947, .iload 3, .iaload, .iconst (-9), .if_icmp .eq 7, .iconst 1, .goto 8] := rfl
theorem b431_7 : blk 431 7 = [.iconst 0, .goto 8] := rfl
theorem b431_8 : blk 431 8 = [.iadd, .istore 2, .iinc 3 1, .goto 6] := rfl
theorem b431_9 : blk 431 9 = [.iload 2, .ireturn] := rfl
theorem en431 {a0 a1 : Int} : ent 431 [(3, a0), (0, a1)] = [(3, a0), (0, a1), (9, 0), (9, 0)] := rfl
theorem b432_0 : blk 432 0 = [.iconst 1, .istore 1, .goto 1] := rfl
theorem b432_1 : blk 432 1 = [.iload 1, .ifCond .eq 9, .iconst 0, .istore 1, .iconst 0, .istore 2, .goto 2] := rfl
theorem b432_2 : blk 432 2 = [.iload 2, .aload 0, .ifnull 11464, .if_icmp .ge 8, .aload 0, .ifnonnull 11475, .iload 2, .iaload, .ifCond .ne 7, .aload 0, .ifnonnull 11947, .iload 2, .iaload, .iconst (-9), .if_icmp .ne 7, .aload 0, .ifnonnull 11963, .iload 2, .iaload, .aload 0, .ifnonnull 11923, .iload 2, .iaload, .if_icmp .ge 7, .aload 0, .ifnonnull 11931, .iconst 8, .iload 2, .imul, .aload 0, .ifnonnull 11963, .iload 2, .iaload, .iadd, .iaload, .istore 3, .aload 0, .ifnonnull 11963, .iload 2, .dup2, .iaload, .iconst 1, .iadd, .iastore, .aload 0, .ifnonnull 11947, .iload 2, .iload 3, .iastore, .iconst 1, .istore 1, .aload 0, .iload 3, .invokeinterface 110944 2, .aload 0, .ifnull 11339, .ifnonnull 12371, .iload 3, .iaload, .if_icmp .le 7, .iload 2, .istore 4, .iconst 0, .istore 5, .goto 3] := rfl
theorem b432_3 : blk 432 3 = [.iload 5, .aload 0, .ifnull 11464, .if_icmp .ge 6, .aload 0, .ifnonnull 11947, .iload 5, .iaload, .iload 3, .if_icmp .ne 4, .aload 0, .iload 4, .iload 5, .iload 3, .invokeinterface 111200 4, .ifCond .eq 4, .iload 5, .goto 5] := rfl
theorem b432_4 : blk 432 4 = [.iload 4, .goto 5] := rfl
theorem b432_5 : blk 432 5 = [.istore 4, .iinc 5 1, .goto 3] := rfl
theorem b432_6 : blk 432 6 = [.aload 0, .ifnonnull 11947, .iload 4, .iconst (-9), .iastore, .goto 7] := rfl
theorem b432_7 : blk 432 7 = [.iinc 2 1, .goto 2] := rfl
theorem b432_8 : blk 432 8 = [.goto 1] := rfl
theorem b432_9 : blk 432 9 = [.return_] := rfl
theorem en432 {a0 : Int} : ent 432 [(3, a0)] = [(3, a0), (9, 0), (9, 0), (9, 0), (9, 0), (9, 0)] := rfl
theorem b433_0 : blk 433 0 = [.iconst 0, .istore 2, .iconst 0, .istore 3, .goto 1] := rfl
theorem b433_1 : blk 433 1 = [.iload 3, .aload 0, .ifnull 11464, .if_icmp .ge 4, .iload 2, .aload 0, .ifnonnull 11947, .iload 3, .iaload, .iload 1, .if_icmp .ne 2, .iconst 1, .goto 3] := rfl
theorem b433_2 : blk 433 2 = [.iconst 0, .goto 3] := rfl
theorem b433_3 : blk 433 3 = [.iadd, .istore 2, .iinc 3 1, .goto 1] := rfl
theorem b433_4 : blk 433 4 = [.iload 2, .ireturn] := rfl
theorem en433 {a0 a1 : Int} : ent 433 [(3, a0), (0, a1)] = [(3, a0), (0, a1), (9, 0), (9, 0)] := rfl
theorem b434_0 : blk 434 0 = [.aload 0, .ifnonnull 11939, .iconst 8, .iload 1, .imul, .iload 3, .iadd, .iaload, .istore 4, .aload 0, .ifnonnull 11939, .iconst 8, .iload 2, .imul, .iload 3, .iadd, .iaload, .istore 5, .iload 4, .iload 5, .if_icmp .lt 1, .iload 4, .iload 5, .if_icmp .ne 2, .iload 1, .iload 2, .if_icmp .ge 2, .goto 1] := rfl
theorem b434_1 : blk 434 1 = [.iconst 1, .goto 3] := rfl
theorem b434_2 : blk 434 2 = [.iconst 0, .goto 3] := rfl
theorem b434_3 : blk 434 3 = [.freturn] := rfl
theorem en434 {a0 a1 a2 a3 : Int} : ent 434 [(3, a0), (0, a1), (0, a2), (0, a3)] = [(3, a0), (0, a1), (0, a2), (0, a3), (9, 0), (9, 0)] := rfl
theorem b435_0 : blk 435 0 = [.iconst 0, .istore 1, .goto 1] := rfl
theorem b435_1 : blk 435 1 = [.iload 1, .aload 0, .ifnull 11464, .if_icmp .ge 4, .aload 0, .ifnonnull 11971, .iload 1, .aload 0, .ifnonnull 11475, .iload 1, .iaload, .ifCond .eq 2, .iconst 1, .goto 3] := rfl
theorem b435_2 : blk 435 2 = [.iconst 0, .goto 3] := rfl
theorem b435_3 : blk 435 3 = [.bastore, .iinc 1 1, .goto 1] := rfl
theorem b435_4 : blk 435 4 = [.iconst 1, .istore 1, .goto 5] := rfl
theorem b435_5 : blk 435 5 = [.iload 1, .ifCond .eq 35, .iconst 0, .istore 1, .iconst 0, .istore 2, .goto 6] := rfl
theorem b435_6 : blk 435 6 = [.iload 2, .aload 0, .ifnull 11464, .if_icmp .ge 9, .aload 0, .ifnonnull 11963, .iload 2, .aload 0, .ifnonnull 11947, .iload 2, .iaload, .iconst (-9), .if_icmp .ne 7, .aload 0, .ifnonnull 11971, .iload 2, .baload, .ifCond .ne 7, .aload 0, .iload 2, .invokeinterface 111712 2, .goto 8] := rfl
theorem b435_7 : blk 435 7 = [.iconst (-9), .goto 8] := rfl
theorem b435_8 : blk 435 8 = [.iastore, .iinc 2 1, .goto 6] := rfl
theorem b435_9 : blk 435 9 = [.iconst 0, .istore 2, .goto 10] := rfl
theorem b435_10 : blk 435 10 = [.iload 2, .aload 0, .ifnull 11464, .if_icmp .ge 14, .aload 0, .ifnonnull 11971, .iload 2, .aload 0, .ifnonnull 11971, .iload 2, .baload, .ifCond .ne 11, .aload 0, .ifnonnull 11947, .iload 2, .iaload, .iconst (-9), .if_icmp .ne 12, .aload 0, .ifnonnull 11963, .iload 2, .iaload, .iconst (-9), .if_icmp .ne 12, .goto 11] := rfl
theorem b435_11 : blk 435 11 = [.iconst 1, .goto 13] := rfl
theorem b435_12 : blk 435 12 = [.iconst 0, .goto 13] := rfl
theorem b435_13 : blk 435 13 = [.bastore, .aload 0, .ifnonnull 11979, .iload 2, .iconst 0, .bastore, .iinc 2 1, .goto 10] := rfl
theorem b435_14 : blk 435 14 = [.iconst 0, .istore 2, .goto 15] := rfl
theorem b435_15 : blk 435 15 = [.iload 2, .aload 0, .ifnull 11339, .ifnonnull 12291, .iconst 5, .iaload, .if_icmp .ge 23, .aload 0, .ifnonnull 11987, .iload 2, .iconst (-9), .iastore, .iconst 0, .istore 3, .goto 16] := rfl
theorem b435_16 : blk 435 16 = [.iload 3, .aload 0, .ifnull 11464, .if_icmp .ge 22, .aload 0, .ifnonnull 11947, .iload 3, .iaload, .iconst (-9), .if_icmp .ne 17, .aload 0, .ifnonnull 11971, .iload 3, .baload, .ifCond .ne 17, .iconst 1, .goto 18] := rfl
theorem b435_17 : blk 435 17 = [.iconst 0, .goto 18] := rfl
theorem b435_18 : blk 435 18 = [.istore 4, .aload 0, .ifnonnull 11987, .iload 2, .iload 4, .ifCond .eq 20, .aload 0, .ifnonnull 11987, .iload 2, .iaload, .iconst (-9), .if_icmp .eq 19, .aload 0, .iload 3, .aload 0, .ifnonnull 11987, .iload 2, .iaload, .iload 2, .invokeinterface 111200 4, .ifCond .eq 20, .goto 19] := rfl
theorem b435_19 : blk 435 19 = [.iload 3, .goto 21] := rfl
theorem b435_20 : blk 435 20 = [.aload 0, .ifnonnull 11987, .iload 2, .iaload, .goto 21] := rfl
theorem b435_21 : blk 435 21 = [.iastore, .iinc 3 1, .goto 16] := rfl
theorem b435_22 : blk 435 22 = [.iinc 2 1, .goto 15] := rfl
theorem b435_23 : blk 435 23 = [.iconst 0, .istore 2, .goto 24] := rfl
theorem b435_24 : blk 435 24 = [.iload 2, .aload 0, .ifnull 11464, .if_icmp .ge 31, .aload 0, .ifnonnull 11963, .iload 2, .iaload, .iconst (-9), .if_icmp .ne 25, .iconst (-9), .goto 26] := rfl
theorem b435_25 : blk 435 25 = [.aload 0, .ifnonnull 11987, .aload 0, .ifnonnull 11963, .iload 2, .iaload, .iaload, .goto 26] := rfl
theorem b435_26 : blk 435 26 = [.istore 3, .iconst 0, .istore 4, .goto 27] := rfl
theorem b435_27 : blk 435 27 = [.iload 4, .iconst 24, .if_icmp .ge 28, .iload 3, .iconst (-9), .if_icmp .eq 28, .iload 3, .iload 2, .if_icmp .eq 28, .aload 0, .ifnonnull 11987, .aload 0, .ifnonnull 11963, .iload 3, .iaload, .iaload, .istore 3, .iinc 4 1, .goto 27] := rfl
theorem b435_28 : blk 435 28 = [.aload 0, .ifnonnull 11979, .iload 2, .iload 3, .iconst (-9), .if_icmp .eq 29, .iload 3, .iload 2, .if_icmp .ne 29, .iconst 1, .goto 30] := rfl
theorem b435_29 : blk 435 29 = [.iconst 0, .goto 30] := rfl
theorem b435_30 : blk 435 30 = [.bastore, .iinc 2 1, .goto 24] := rfl
theorem b435_31 : blk 435 31 = [.iconst 0, .istore 2, .goto 32] := rfl
theorem b435_32 : blk 435 32 = [.iload 2, .aload 0, .ifnull 11464, .if_icmp .ge 34, .aload 0, .ifnonnull 11979, .iload 2, .baload, .ifCond .eq 33, .aload 0, .ifnonnull 11947, .iload 2, .aload 0, .ifnonnull 11963, .iload 2, .iaload, .iastore, .iconst 1, .istore 1, .goto 33] := rfl
theorem b435_33 : blk 435 33 = [.iinc 2 1, .goto 32] := rfl
theorem b435_34 : blk 435 34 = [.goto 5] := rfl
theorem b435_35 : blk 435 35 = [.return_] := rfl
theorem en435 {a0 : Int} : ent 435 [(3, a0)] = [(3, a0), (9, 0), (9, 0), (9, 0), (9, 0)] := rfl
theorem b436_0 : blk 436 0 = [.iconst 0, .istore 2, .goto 1] := rfl
theorem b436_1 : blk 436 1 = [.iload 2, .aload 0, .ifnonnull 11923, .iload 1, .iaload, .if_icmp .ge 3, .aload 0, .ifnonnull 11931, .iconst 8, .iload 1, .imul, .iload 2, .iadd, .iaload, .istore 3, .aload 0, .iload 3, .invokeinterface 110944 2, .aload 0, .ifnull 11339, .ifnonnull 12371, .iload 3, .iaload, .if_icmp .ge 2, .iload 3, .ireturn] := rfl
theorem b436_2 : blk 436 2 = [.iinc 2 1, .goto 1] := rfl
theorem b436_3 : blk 436 3 = [.iconst (-9), .ireturn] := rfl
theorem en436 {a0 a1 : Int} : ent 436 [(3, a0), (0, a1)] = [(3, a0), (0, a1), (9, 0), (9, 0)] := rfl
theorem b437_0 : blk 437 0 = [.aload 0, .iload 1, .invokeinterface 95328 2, .ifCond .eq 1, .aload 0, .ifnonnull 11947, .iload 1, .iaload, .goto 2] := rfl
theorem b437_1 : blk 437 1 = [.iconst (-1), .goto 2] := rfl
theorem b437_2 : blk 437 2 = [.ireturn] := rfl
theorem en437 {a0 a1 : Int} : ent 437 [(3, a0), (0, a1)] = [(3, a0), (0, a1)] := rfl
theorem b438_0 : blk 438 0 = [.aload 0, .ifnull 11956, .ifCond .ne 1, .iconst (-2), .ireturn] := rfl
theorem b438_1 : blk 438 1 = [.iconst 0, .istore 1, .goto 2] := rfl
theorem b438_2 : blk 438 2 = [.iload 1, .aload 0, .ifnull 11464, .if_icmp .ge 15, .iconst 0, .istore 2, .goto 3] := rfl
theorem b438_3 : blk 438 3 = [.iload 2, .aload 0, .ifnull 11339, .ifnonnull 12291, .iconst 5, .iaload, .if_icmp .ge 14, .aload 0, .ifnonnull 11475, .iload 1, .iaload, .ifCond .ne 14, .aload 0, .iload 1, .iload 2, .invokeinterface 109408 3, .istore 3, .aload 0, .ifnonnull 11947, .iload 1, .iaload, .iconst (-9), .if_icmp .ne 4, .iconst 99, .goto 5] := rfl
theorem b438_4 : blk 438 4 = [.aload 0, .iload 1, .aload 0, .ifnonnull 11947, .iload 1, .iaload, .invokeinterface 109408 3, .goto 5] := rfl
theorem b438_5 : blk 438 5 = [.istore 4, .iload 3, .iconst (-9), .if_icmp .eq 13, .iload 3, .iload 4, .if_icmp .ge 13, .aload 0, .iload 2, .invokeinterface 110944 2, .aload 0, .ifnull 11339, .ifnonnull 12371, .iload 2, .iaload, .if_icmp .ge 6, .iconst 1, .goto 7] := rfl
theorem b438_6 : blk 438 6 = [.iconst 0, .goto 7] := rfl
theorem b438_7 : blk 438 7 = [.istore 5, .iconst 0, .istore 6, .goto 8] := rfl
theorem b438_8 : blk 438 8 = [.iload 6, .aload 0, .ifnull 11464, .if_icmp .ge 12, .iload 5, .ifCond .ne 9, .aload 0, .ifnonnull 11947, .iload 6, .iaload, .iload 2, .if_icmp .ne 10, .aload 0, .iload 1, .iload 6, .iload 2, .invokeinterface 111200 4, .ifCond .eq 10, .goto 9] := rfl
theorem b438_9 : blk 438 9 = [.iconst 1, .goto 11] := rfl
theorem b438_10 : blk 438 10 = [.iconst 0, .goto 11] := rfl
theorem b438_11 : blk 438 11 = [.istore 5, .iinc 6 1, .goto 8] := rfl
theorem b438_12 : blk 438 12 = [.iload 5, .ifCond .eq 13, .iconst 1, .iconst 100, .iload 1, .imul, .iadd, .iload 2, .iadd, .ireturn] := rfl
theorem b438_13 : blk 438 13 = [.iinc 2 1, .goto 3] := rfl
theorem b438_14 : blk 438 14 = [.iinc 1 1, .goto 2] := rfl
theorem b438_15 : blk 438 15 = [.iconst 0, .ireturn] := rfl
theorem en438 {a0 : Int} : ent 438 [(3, a0)] = [(3, a0), (9, 0), (9, 0), (9, 0), (9, 0), (9, 0), (9, 0)] := rfl
theorem b439_0 : blk 439 0 = [.aload 0, .iload 1, .iload 2, .iload 3, .invokeinterface 107360 4, .ifCond .ne 1, .iconst (-1), .ireturn] := rfl
theorem b439_1 : blk 439 1 = [.aload 0, .ifnonnull 11803, .iload 1, .aload 0, .ifnonnull 11803, .iload 1, .iaload, .iconst 1, .iload 2, .ishl, .iconst (-1), .ixor, .iand, .iload 3, .iload 2, .ishl, .ior, .iastore, .iconst 0, .ireturn] := rfl
theorem en439 {a0 a1 a2 a3 : Int} : ent 439 [(3, a0), (0, a1), (0, a2), (0, a3)] = [(3, a0), (0, a1), (0, a2), (0, a3)] := rfl
theorem b440_0 : blk 440 0 = [.iload 1, .iconst 0, .iconst 5, .aload 0, .ifnull 11784, .imul, .iconst 1, .isub, .invokeinterface 94464 3, .ifCond .ne 1, .iconst (-1), .ireturn] := rfl
theorem b440_1 : blk 440 1 = [.aload 0, .ifnull 11820, .ifCond .ne 2, .iconst (-2), .ireturn] := rfl
theorem b440_2 : blk 440 2 = [.aload 0, .iconst 0, .jsr_w 12008, .aload 0, .invokeinterface 108128 1, .istore 2, .iconst 0, .istore 3, .goto 3] := rfl
theorem b440_3 : blk 440 3 = [.iload 3, .iload 2, .if_icmp .ge 5, .aload 0, .ifnonnull 11995, .iload 3, .iconst (-9), .iastore, .aload 0, .ifnonnull 11859, .iload 3, .iaload, .iload 1, .if_icmp .ne 4, .aload 0, .ifnonnull 11803, .aload 0, .ifnull 11339, .ifnonnull 12355, .aload 0, .ifnonnull 11875, .iload 3, .iaload, .iaload, .iaload, .iload 1, .ishr, .iconst 1, .iand, .iconst 1, .if_icmp .ne 4, .aload 0, .ifnonnull 12003, .aload 0, .ifnull 12008, .iload 3, .iastore, .aload 0, .dup, .ifnull 12008, .iconst 1, .iadd, .jsr_w 12008, .goto 4] := rfl
theorem b440_4 : blk 440 4 = [.iinc 3 1, .goto 3] := rfl
theorem b440_5 : blk 440 5 = [.aload 0, .iload 1, .invokeinterface 112992 2, .istore 3, .aload 0, .ifnull 12008, .istore 4, .goto 6] := rfl
theorem b440_6 : blk 440 6 = [.iload 4, .ifCond .lt 16, .iconst 0, .istore 5, .goto 7] := rfl
theorem b440_7 : blk 440 7 = [.iload 5, .iconst 1024, .if_icmp .ge 15, .iload 4, .aload 0, .ifnull 12008, .if_icmp .ne 8, .iconst 0, .goto 9] := rfl
theorem b440_8 : blk 440 8 = [.aload 0, .ifnonnull 12019, .iconst 1024, .iload 4, .iconst 1, .iadd, .imul, .iload 5, .iadd, .iaload, .goto 9] := rfl
theorem b440_9 : blk 440 9 = [.istore 6, .iconst 0, .istore 7, .goto 10] := rfl
theorem b440_10 : blk 440 10 = [.iload 7, .iconst 10, .if_icmp .ge 14, .iload 4, .aload 0, .ifnull 12008, .if_icmp .ge 14, .iload 5, .iload 7, .ishr, .iconst 1, .iand, .iconst 1, .if_icmp .ne 13, .aload 0, .iload 7, .aload 0, .ifnonnull 12003, .iload 4, .iaload, .invokeinterface 113248 3, .ifCond .eq 13, .iconst 1, .aload 0, .ifnonnull 12019, .iconst 1024, .iload 4, .iconst 1, .iadd, .imul, .iload 5, .iconst 1, .iload 7, .ishl, .ixor, .iadd, .iaload, .iadd, .istore 8, .iload 8, .iload 6, .if_icmp .le 11, .iload 8, .goto 12] := rfl
theorem b440_11 : blk 440 11 = [.iload 6, .goto 12] := rfl
theorem b440_12 : blk 440 12 = [.istore 6, .goto 13] := rfl
theorem b440_13 : blk 440 13 = [.iinc 7 1, .goto 10] := rfl
theorem b440_14 : blk 440 14 = [.aload 0, .ifnonnull 12019, .iconst 1024, .iload 4, .imul, .iload 5, .iadd, .iload 6, .iastore, .iinc 5 1, .goto 7] := rfl
theorem b440_15 : blk 440 15 = [.iinc 4 (-1), .goto 6] := rfl
theorem b440_16 : blk 440 16 = [.aload 0, .ifnonnull 12019, .iload 3, .iaload, .istore 4, .iload 4, .istore 5, .iconst 0, .istore 6, .goto 17] := rfl
theorem b440_17 : blk 440 17 = [.iload 6, .aload 0, .ifnull 12008, .if_icmp .ge 21, .aload 0, .ifnonnull 12003, .iload 6, .iaload, .istore 7, .iconst 0, .istore 8, .goto 18] := rfl
theorem b440_18 : blk 440 18 = [.iload 8, .iconst 10, .if_icmp .ge 20, .aload 0, .ifnonnull 11995, .iload 7, .iaload, .iconst (-9), .if_icmp .ne 20, .iload 3, .iload 8, .ishr, .iconst 1, .iand, .iconst 1, .if_icmp .ne 19, .aload 0, .iload 8, .iload 7, .invokeinterface 113248 3, .ifCond .eq 19, .iconst 1, .aload 0, .ifnonnull 12019, .iconst 1024, .iload 6, .iconst 1, .iadd, .imul, .iload 3, .iconst 1, .iload 8, .ishl, .ixor, .iadd, .iaload, .iadd, .iload 5, .if_icmp .ne 19, .aload 0, .ifnonnull 11995, .iload 7, .iload 8, .iastore, .iload 3, .iconst 1, .iload 8, .ishl, .ixor, .istore 3, .iinc 5 (-1), .goto 19] := rfl
theorem b440_19 : blk 440 19 = [.iinc 8 1, .goto 18] := rfl
theorem b440_20 : blk 440 20 = [.iinc 6 1, .goto 17] := rfl
theorem b440_21 : blk 440 21 = [.aload 0, .iconst 1, .jsr_w 11836, .aload 0, .ifnull 12008, .iload 4, .isub, .ireturn] := rfl
theorem en440 {a0 a1 : Int} : ent 440 [(3, a0), (0, a1)] = [(3, a0), (0, a1), (9, 0), (9, 0), (9, 0), (9, 0), (9, 0), (9, 0), (9, 0)] := rfl
theorem b441_0 : blk 441 0 = [.iconst 0, .istore 2, .iconst 0, .istore 3, .goto 1] := rfl
theorem b441_1 : blk 441 1 = [.iload 3, .aload 0, .ifnull 11339, .ifnonnull 12291, .iconst 2, .iaload, .if_icmp .ge 11, .aload 0, .ifnonnull 11803, .iload 3, .iaload, .iload 1, .ishr, .iconst 1, .iand, .ifCond .ne 2, .aload 0, .ifnonnull 11795, .iload 3, .iaload, .iload 1, .ishr, .iconst 1, .iand, .ifCond .ne 2, .iconst 1, .goto 3] := rfl
theorem b441_2 : blk 441 2 = [.iconst 0, .goto 3] := rfl
theorem b441_3 : blk 441 3 = [.istore 4, .iconst 0, .istore 5, .goto 4] := rfl
theorem b441_4 : blk 441 4 = [.iload 5, .aload 0, .invokeinterface 108128 1, .if_icmp .ge 8, .iload 4, .ifCond .eq 6, .aload 0, .ifnonnull 11859, .iload 5, .iaload, .iload 1, .if_icmp .ne 5, .aload 0, .ifnull 11339, .ifnonnull 12355, .aload 0, .ifnonnull 11875, .iload 5, .iaload, .iaload, .iload 3, .if_icmp .eq 6, .goto 5] := rfl
theorem b441_5 : blk 441 5 = [.iconst 1, .goto 7] := rfl
theorem b441_6 : blk 441 6 = [.iconst 0, .goto 7] := rfl
theorem b441_7 : blk 441 7 = [.istore 4, .iinc 5 1, .goto 4] := rfl
theorem b441_8 : blk 441 8 = [.iload 2, .iload 4, .ifCond .eq 9, .iconst 1, .iload 3, .ishl, .goto 10] := rfl
theorem b441_9 : blk 441 9 = [.iconst 0, .goto 10] := rfl
theorem b441_10 : blk 441 10 = [.ior, .istore 2, .iinc 3 1, .goto 1] := rfl
theorem b441_11 : blk 441 11 = [.iload 2, .ireturn] := rfl
theorem en441 {a0 a1 : Int} : ent 441 [(3, a0), (0, a1)] = [(3, a0), (0, a1), (9, 0), (9, 0), (9, 0), (9, 0)] := rfl
theorem b442_0 : blk 442 0 = [.aload 0, .ifnull 11339, .ifnonnull 12323, .iload 1, .iaload, .aload 0, .ifnull 11339, .ifnonnull 12339, .aload 0, .ifnonnull 11875, .iload 2, .iaload, .iaload, .ishr, .iconst 1, .iand, .iconst 1, .if_icmp .ne 1, .iconst 1, .goto 2] := rfl
theorem b442_1 : blk 442 1 = [.iconst 0, .goto 2] := rfl
theorem b442_2 : blk 442 2 = [.freturn] := rfl
theorem en442 {a0 a1 a2 : Int} : ent 442 [(3, a0), (0, a1), (0, a2)] = [(3, a0), (0, a1), (0, a2)] := rfl
theorem b443_0 : blk 443 0 = [.iload 1, .iconst 0, .aload 0, .invokeinterface 108128 1, .iconst 1, .isub, .invokeinterface 94464 3, .ifCond .ne 1, .iconst (-1), .ireturn] := rfl
theorem b443_1 : blk 443 1 = [.aload 0, .ifnull 11836, .ifCond .eq 2, .aload 0, .ifnonnull 11995, .iload 1, .iaload, .goto 3] := rfl
theorem b443_2 : blk 443 2 = [.iconst (-2), .goto 3] := rfl
theorem b443_3 : blk 443 3 = [.ireturn] := rfl
theorem en443 {a0 a1 : Int} : ent 443 [(3, a0), (0, a1)] = [(3, a0), (0, a1)] := rfl
theorem b444_0 : blk 444 0 = [.iload 1, .ifCond .lt 1, .iload 1, .iconst 7, .if_icmp .ge 1, .aload 0, .ifnull 11339, .ifnonnull 12291, .iload 1, .iaload, .ireturn] := rfl
theorem b444_1 : blk 444 1 = [.iload 1, .iconst 7, .if_icmp .ne 2, .aload 0, .ifnull 11339, .ifnull 12400, .goto 8] := rfl
theorem b444_2 : blk 444 2 = [.iload 1, .iconst 8, .if_icmp .ne 3, .aload 0, .ifnull 11464, .goto 8] := rfl
theorem b444_3 : blk 444 3 = [.iload 1, .iconst 9, .if_icmp .ne 4, .aload 0, .invokeinterface 108128 1, .goto 8] := rfl
theorem b444_4 : blk 444 4 = [.iload 1, .iconst 10, .if_icmp .ne 5, .aload 0, .ifnull 11272, .goto 8] := rfl
theorem b444_5 : blk 444 5 = [.iload 1, .iconst 11, .if_icmp .ne 6, .aload 0, .ifnull 11504, .goto 8] := rfl
theorem b444_6 : blk 444 6 = [.iload 1, .iconst 12, .if_icmp .ne 7, .aload 0, .ifnull 11704, .goto 8] := rfl
theorem b444_7 : blk 444 7 = [.iconst (-1), .goto 8] := rfl
theorem b444_8 : blk 444 8 = [.ireturn] := rfl
theorem en444 {a0 a1 : Int} : ent 444 [(3, a0), (0, a1)] = [(3, a0), (0, a1)] := rfl
