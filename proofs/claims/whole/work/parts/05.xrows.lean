/-! THE ROWS OF X, one an instruction form; the blocks, the entries: printed by wip/tools/genx.py -/
theorem klp_0 {x : Int} : klp 0 (0, x) = (0, x) := rfl
theorem klp_3 {x : Int} : klp 0 (3, x) = (3, x) := rfl
theorem klp_9 {x : Int} : klp 0 (9, x) = (9, x) := rfl
theorem klp_1 {x : Int} : klp 0 (1, x) = (9, 0) := rfl
theorem klp_2 {x : Int} : klp 0 (2, x) = (9, 0) := rfl
theorem x_aaload {fz : Int → Int → Option Int} {d k : Nat} {Q : Int → HV → Prop} {is : List Instr} {h : HV} {ls st : List AV} {o i : Int} : X fz d k Q (.aaload :: is) ls ((0, i) :: (3, o) :: st) h = (((o % 64 = 37 ∨ o % 64 = 38) ∧ 0 ≤ i ∧ i < rd fz h o (-1)) ∧ X fz d k Q is ls ((3, rd fz h o i) :: st) h) := rfl
theorem x_aastore {fz : Int → Int → Option Int} {d k : Nat} {Q : Int → HV → Prop} {is : List Instr} {h : HV} {ls st : List AV} {o i x : Int} : X fz d k Q (.aastore :: is) ls ((3, x) :: (0, i) :: (3, o) :: st) h = ((o % 64 = 38 ∧ x % 64 = 13 ∧ 0 ≤ i ∧ i < rd fz h o (-1) ∧ fz o i = none) ∧ X fz d k Q is ls st (hset h o i x)) := rfl
theorem x_acp {fz : Int → Int → Option Int} {d k : Nat} {Q : Int → HV → Prop} {is : List Instr} {h : HV} {ls st : List AV} {s sp d0 dp n : Int} : X fz d k Q (.monitorenter :: is) ls ((0, n) :: (0, dp) :: (3, d0) :: (0, sp) :: (3, s) :: st) h = ((wds st ≤ 8 ∧ (s % 64 = 32 ∨ s % 64 = 33) ∧ d0 % 64 = s % 64 ∧ s ≠ d0 ∧ 0 ≤ sp ∧ 0 ≤ dp ∧ 0 ≤ n ∧ sp + n ≤ rd fz h s (-1) ∧ dp + n ≤ rd fz h d0 (-1)) ∧ X fz d k Q is ls st (acp h s sp d0 dp n)) := rfl
theorem x_alen {fz : Int → Int → Option Int} {d k : Nat} {Q : Int → HV → Prop} {is : List Instr} {h : HV} {ls st : List AV} {o : Int} : X fz d k Q (.arraylength :: is) ls ((3, o) :: st) h = ((32 ≤ o % 64 ∧ o % 64 ≤ 51) ∧ X fz d k Q is ls ((0, rd fz h o (-1)) :: st) h) := rfl
theorem x_aload0 {fz : Int → Int → Option Int} {d k : Nat} {Q : Int → HV → Prop} {is : List Instr} {h : HV} {r st : List AV} {x : Int} : X fz d k Q (.aload 0 :: is) ((3, x) :: r) st h = X fz d k Q is ((3, x) :: r) ((3, x) :: st) h := rfl
theorem x_aload1 {fz : Int → Int → Option Int} {d k : Nat} {Q : Int → HV → Prop} {is : List Instr} {h : HV} {a0 : AV} {r st : List AV} {x : Int} : X fz d k Q (.aload 1 :: is) (a0 :: (3, x) :: r) st h = X fz d k Q is (a0 :: (3, x) :: r) ((3, x) :: st) h := rfl
theorem x_aload2 {fz : Int → Int → Option Int} {d k : Nat} {Q : Int → HV → Prop} {is : List Instr} {h : HV} {a0 a1 : AV} {r st : List AV} {x : Int} : X fz d k Q (.aload 2 :: is) (a0 :: a1 :: (3, x) :: r) st h = X fz d k Q is (a0 :: a1 :: (3, x) :: r) ((3, x) :: st) h := rfl
theorem x_areturn {fz : Int → Int → Option Int} {d k : Nat} {Q : Int → HV → Prop} {is : List Instr} {h : HV} {ls : List AV} {x : Int} : X fz d k Q (.areturn :: is) ls [(3, x)] h = Q x h := rfl
theorem x_astore1 {fz : Int → Int → Option Int} {d k : Nat} {Q : Int → HV → Prop} {is : List Instr} {h : HV} {a0 : AV} {b : AV} {r st : List AV} {x : Int} : X fz d k Q (.astore 1 :: is) (a0 :: b :: r) ((3, x) :: st) h = X fz d k Q is (klp 0 a0 :: (3, x) :: r) st h := rfl
theorem x_astore2 {fz : Int → Int → Option Int} {d k : Nat} {Q : Int → HV → Prop} {is : List Instr} {h : HV} {a0 a1 : AV} {b : AV} {r st : List AV} {x : Int} : X fz d k Q (.astore 2 :: is) (a0 :: a1 :: b :: r) ((3, x) :: st) h = X fz d k Q is (a0 :: klp 0 a1 :: (3, x) :: r) st h := rfl
theorem x_baload {fz : Int → Int → Option Int} {d k : Nat} {Q : Int → HV → Prop} {is : List Instr} {h : HV} {ls st : List AV} {o i : Int} : X fz d k Q (.baload :: is) ls ((0, i) :: (3, o) :: st) h = (((o % 64 = 35 ∨ o % 64 = 36 ∨ o % 64 = 51) ∧ 0 ≤ i ∧ i < rd fz h o (-1)) ∧ X fz d k Q is ls ((0, h o i) :: st) h) := rfl
theorem x_bastore {fz : Int → Int → Option Int} {d k : Nat} {Q : Int → HV → Prop} {is : List Instr} {h : HV} {ls st : List AV} {o i x : Int} : X fz d k Q (.bastore :: is) ls ((0, x) :: (0, i) :: (3, o) :: st) h = (((o % 64 = 35 ∨ o % 64 = 36) ∧ 0 ≤ i ∧ i < rd fz h o (-1)) ∧ X fz d k Q is ls st (hset h o i (bst o x))) := rfl
theorem x_bipush {fz : Int → Int → Option Int} {d k : Nat} {Q : Int → HV → Prop} {is : List Instr} {h : HV} {ls st : List AV} {v : Int} : X fz d k Q (.bipush v :: is) ls st h = X fz d k Q is ls ((1, v) :: st) h := rfl
theorem x_call1 {fz : Int → Int → Option Int} {d k : Nat} {Q : Int → HV → Prop} {is : List Instr} {h : HV} {ls st : List AV} {o : Int}  : X fz d k Q (.invokeinterface 268 1 :: is) ls ((3, o) :: st) h = (((o ≠ 0 ∧ o % 64 = 0) ∧ wds st ≤ 8) ∧ 0 < d ∧ Sp fz (d - 1) 1 [(3, o)] h (fun x h => X fz d k Q is ls st h)) := rfl
theorem x_call10 {fz : Int → Int → Option Int} {d k : Nat} {Q : Int → HV → Prop} {is : List Instr} {h : HV} {ls st : List AV} {o : Int} {a1 : AV}  : X fz d k Q (.invokeinterface 2644 2 :: is) ls (a1 :: (3, o) :: st) h = (((o ≠ 0 ∧ o % 64 = 9) ∧ wds st ≤ 8) ∧ 0 < d ∧ Sp fz (d - 1) 10 [(3, o), a1] h (fun x h => X fz d k Q is ls st h)) := rfl
theorem x_call100 {fz : Int → Int → Option Int} {d k : Nat} {Q : Int → HV → Prop} {is : List Instr} {h : HV} {ls st : List AV} {a0 : AV}  : X fz d k Q (.invokeinterface 25601 1 :: is) ls (a0 :: st) h = ((True ∧ wds st ≤ 8) ∧ 0 < d ∧ Sp fz (d - 1) 100 [a0] h (fun x h => X fz d k Q is ls ((1, x) :: st) h)) := rfl
theorem x_call101 {fz : Int → Int → Option Int} {d k : Nat} {Q : Int → HV → Prop} {is : List Instr} {h : HV} {ls st : List AV} {a0 a1 a2 : AV}  : X fz d k Q (.invokeinterface 25857 3 :: is) ls (a2 :: a1 :: a0 :: st) h = ((True ∧ wds st ≤ 8) ∧ 0 < d ∧ Sp fz (d - 1) 101 [a0, a1, a2] h (fun x h => X fz d k Q is ls ((1, x) :: st) h)) := rfl
theorem x_call102 {fz : Int → Int → Option Int} {d k : Nat} {Q : Int → HV → Prop} {is : List Instr} {h : HV} {ls st : List AV} {a0 : AV}  : X fz d k Q (.invokeinterface 26112 1 :: is) ls (a0 :: st) h = ((True ∧ wds st ≤ 8) ∧ 0 < d ∧ Sp fz (d - 1) 102 [a0] h (fun x h => X fz d k Q is ls ((0, x) :: st) h)) := rfl
theorem x_call103 {fz : Int → Int → Option Int} {d k : Nat} {Q : Int → HV → Prop} {is : List Instr} {h : HV} {ls st : List AV} {a0 a1 : AV}  : X fz d k Q (.invokeinterface 26369 2 :: is) ls (a1 :: a0 :: st) h = ((True ∧ wds st ≤ 8) ∧ 0 < d ∧ Sp fz (d - 1) 103 [a0, a1] h (fun x h => X fz d k Q is ls ((1, x) :: st) h)) := rfl
theorem x_call104 {fz : Int → Int → Option Int} {d k : Nat} {Q : Int → HV → Prop} {is : List Instr} {h : HV} {ls st : List AV} {a0 a1 : AV}  : X fz d k Q (.invokeinterface 26625 2 :: is) ls (a1 :: a0 :: st) h = ((True ∧ wds st ≤ 8) ∧ 0 < d ∧ Sp fz (d - 1) 104 [a0, a1] h (fun x h => X fz d k Q is ls ((1, x) :: st) h)) := rfl
theorem x_call105 {fz : Int → Int → Option Int} {d k : Nat} {Q : Int → HV → Prop} {is : List Instr} {h : HV} {ls st : List AV} {a0 : AV}  : X fz d k Q (.invokeinterface 26880 1 :: is) ls (a0 :: st) h = ((True ∧ wds st ≤ 8) ∧ 0 < d ∧ Sp fz (d - 1) 105 [a0] h (fun x h => X fz d k Q is ls ((0, x) :: st) h)) := rfl
theorem x_call106 {fz : Int → Int → Option Int} {d k : Nat} {Q : Int → HV → Prop} {is : List Instr} {h : HV} {ls st : List AV} {a0 : AV}  : X fz d k Q (.invokeinterface 27136 1 :: is) ls (a0 :: st) h = ((True ∧ wds st ≤ 8) ∧ 0 < d ∧ Sp fz (d - 1) 106 [a0] h (fun x h => X fz d k Q is ls ((0, x) :: st) h)) := rfl
theorem x_call107 {fz : Int → Int → Option Int} {d k : Nat} {Q : Int → HV → Prop} {is : List Instr} {h : HV} {ls st : List AV} {a0 : AV}  : X fz d k Q (.invokeinterface 27392 1 :: is) ls (a0 :: st) h = ((True ∧ wds st ≤ 8) ∧ 0 < d ∧ Sp fz (d - 1) 107 [a0] h (fun x h => X fz d k Q is ls ((0, x) :: st) h)) := rfl
theorem x_call108 {fz : Int → Int → Option Int} {d k : Nat} {Q : Int → HV → Prop} {is : List Instr} {h : HV} {ls st : List AV} {a0 : AV}  : X fz d k Q (.invokeinterface 27649 1 :: is) ls (a0 :: st) h = ((True ∧ wds st ≤ 8) ∧ 0 < d ∧ Sp fz (d - 1) 108 [a0] h (fun x h => X fz d k Q is ls ((1, x) :: st) h)) := rfl
theorem x_call109 {fz : Int → Int → Option Int} {d k : Nat} {Q : Int → HV → Prop} {is : List Instr} {h : HV} {ls st : List AV} {a0 : AV}  : X fz d k Q (.invokeinterface 27904 1 :: is) ls (a0 :: st) h = ((True ∧ wds st ≤ 8) ∧ 0 < d ∧ Sp fz (d - 1) 109 [a0] h (fun x h => X fz d k Q is ls ((0, x) :: st) h)) := rfl
theorem x_call11 {fz : Int → Int → Option Int} {d k : Nat} {Q : Int → HV → Prop} {is : List Instr} {h : HV} {ls st : List AV} {o : Int}  : X fz d k Q (.invokeinterface 2908 1 :: is) ls ((3, o) :: st) h = (((o ≠ 0 ∧ o % 64 = 10) ∧ wds st ≤ 8) ∧ 0 < d ∧ Sp fz (d - 1) 11 [(3, o)] h (fun x h => X fz d k Q is ls st h)) := rfl
theorem x_call110 {fz : Int → Int → Option Int} {d k : Nat} {Q : Int → HV → Prop} {is : List Instr} {h : HV} {ls st : List AV} {a0 : AV}  : X fz d k Q (.invokeinterface 28160 1 :: is) ls (a0 :: st) h = ((True ∧ wds st ≤ 8) ∧ 0 < d ∧ Sp fz (d - 1) 110 [a0] h (fun x h => X fz d k Q is ls ((0, x) :: st) h)) := rfl
theorem x_call111 {fz : Int → Int → Option Int} {d k : Nat} {Q : Int → HV → Prop} {is : List Instr} {h : HV} {ls st : List AV} {o : Int} {a1 : AV}  : X fz d k Q (.invokeinterface 28444 2 :: is) ls (a1 :: (3, o) :: st) h = (((o ≠ 0 ∧ o % 64 = 2) ∧ wds st ≤ 8) ∧ 0 < d ∧ Sp fz (d - 1) 111 [(3, o), a1] h (fun x h => X fz d k Q is ls st h)) := rfl
theorem x_call112 {fz : Int → Int → Option Int} {d k : Nat} {Q : Int → HV → Prop} {is : List Instr} {h : HV} {ls st : List AV} {o : Int} {a1 : AV}  : X fz d k Q (.invokeinterface 28700 2 :: is) ls (a1 :: (3, o) :: st) h = (((o ≠ 0 ∧ o % 64 = 2) ∧ wds st ≤ 8) ∧ 0 < d ∧ Sp fz (d - 1) 112 [(3, o), a1] h (fun x h => X fz d k Q is ls st h)) := rfl
theorem x_call113 {fz : Int → Int → Option Int} {d k : Nat} {Q : Int → HV → Prop} {is : List Instr} {h : HV} {ls st : List AV} {o : Int} {a1 a2 a3 : AV}  : X fz d k Q (.invokeinterface 28956 4 :: is) ls (a3 :: a2 :: a1 :: (3, o) :: st) h = (((o ≠ 0 ∧ o % 64 = 2) ∧ wds st ≤ 8) ∧ 0 < d ∧ Sp fz (d - 1) 113 [(3, o), a1, a2, a3] h (fun x h => X fz d k Q is ls st h)) := rfl
theorem x_call114 {fz : Int → Int → Option Int} {d k : Nat} {Q : Int → HV → Prop} {is : List Instr} {h : HV} {ls st : List AV} {o : Int} {a1 a2 : AV}  : X fz d k Q (.invokeinterface 29212 3 :: is) ls (a2 :: a1 :: (3, o) :: st) h = (((o ≠ 0 ∧ o % 64 = 2) ∧ wds st ≤ 8) ∧ 0 < d ∧ Sp fz (d - 1) 114 [(3, o), a1, a2] h (fun x h => X fz d k Q is ls st h)) := rfl
theorem x_call115 {fz : Int → Int → Option Int} {d k : Nat} {Q : Int → HV → Prop} {is : List Instr} {h : HV} {ls st : List AV} {o : Int} {a1 : AV}  : X fz d k Q (.invokeinterface 29456 2 :: is) ls (a1 :: (3, o) :: st) h = (((o ≠ 0 ∧ o % 64 = 1) ∧ wds st ≤ 8) ∧ 0 < d ∧ Sp fz (d - 1) 115 [(3, o), a1] h (fun x h => X fz d k Q is ls ((0, x) :: st) h)) := rfl
theorem x_call116 {fz : Int → Int → Option Int} {d k : Nat} {Q : Int → HV → Prop} {is : List Instr} {h : HV} {ls st : List AV} {o : Int} {a1 : AV}  : X fz d k Q (.invokeinterface 29724 2 :: is) ls (a1 :: (3, o) :: st) h = (((o ≠ 0 ∧ o % 64 = 2) ∧ wds st ≤ 8) ∧ 0 < d ∧ Sp fz (d - 1) 116 [(3, o), a1] h (fun x h => X fz d k Q is ls st h)) := rfl
theorem x_call117 {fz : Int → Int → Option Int} {d k : Nat} {Q : Int → HV → Prop} {is : List Instr} {h : HV} {ls st : List AV} {o : Int} {a1 : AV}  : X fz d k Q (.invokeinterface 29976 2 :: is) ls (a1 :: (3, o) :: st) h = (((o ≠ 0 ∧ o % 64 = 2) ∧ wds st ≤ 8) ∧ 0 < d ∧ Sp fz (d - 1) 117 [(3, o), a1] h (fun x h => X fz d k Q is ls ((0, x) :: st) h)) := rfl
theorem x_call118 {fz : Int → Int → Option Int} {d k : Nat} {Q : Int → HV → Prop} {is : List Instr} {h : HV} {ls st : List AV} {o : Int}  : X fz d k Q (.invokeinterface 30232 1 :: is) ls ((3, o) :: st) h = (((o ≠ 0 ∧ o % 64 = 2) ∧ wds st ≤ 8) ∧ 0 < d ∧ Sp fz (d - 1) 118 [(3, o)] h (fun x h => X fz d k Q is ls ((0, x) :: st) h)) := rfl
theorem x_call119 {fz : Int → Int → Option Int} {d k : Nat} {Q : Int → HV → Prop} {is : List Instr} {h : HV} {ls st : List AV} {o : Int} {a1 : AV}  : X fz d k Q (.invokeinterface 30492 2 :: is) ls (a1 :: (3, o) :: st) h = (((o ≠ 0 ∧ o % 64 = 2) ∧ wds st ≤ 8) ∧ 0 < d ∧ Sp fz (d - 1) 119 [(3, o), a1] h (fun x h => X fz d k Q is ls st h)) := rfl
theorem x_call12 {fz : Int → Int → Option Int} {d k : Nat} {Q : Int → HV → Prop} {is : List Instr} {h : HV} {ls st : List AV} {o : Int} {a1 : AV}  : X fz d k Q (.invokeinterface 3140 2 :: is) ls (a1 :: (3, o) :: st) h = (((o ≠ 0 ∧ o % 64 = 7) ∧ wds st ≤ 8) ∧ 0 < d ∧ Sp fz (d - 1) 12 [(3, o), a1] h (fun x h => X fz d k Q is ls st h)) := rfl
theorem x_call120 {fz : Int → Int → Option Int} {d k : Nat} {Q : Int → HV → Prop} {is : List Instr} {h : HV} {ls st : List AV} {o : Int} {a1 a2 : AV}  : X fz d k Q (.invokeinterface 30812 3 :: is) ls (a2 :: a1 :: (3, o) :: st) h = (((o ≠ 0 ∧ o % 64 = 10) ∧ wds st ≤ 8) ∧ 0 < d ∧ Sp fz (d - 1) 120 [(3, o), a1, a2] h (fun x h => X fz d k Q is ls st h)) := rfl
theorem x_call121 {fz : Int → Int → Option Int} {d k : Nat} {Q : Int → HV → Prop} {is : List Instr} {h : HV} {ls st : List AV} {o : Int} {a1 : AV}  : X fz d k Q (.invokeinterface 31004 2 :: is) ls (a1 :: (3, o) :: st) h = (((o ≠ 0 ∧ o % 64 = 2) ∧ wds st ≤ 8) ∧ 0 < d ∧ Sp fz (d - 1) 121 [(3, o), a1] h (fun x h => X fz d k Q is ls st h)) := rfl
theorem x_call122 {fz : Int → Int → Option Int} {d k : Nat} {Q : Int → HV → Prop} {is : List Instr} {h : HV} {ls st : List AV} {o : Int} {a1 : AV}  : X fz d k Q (.invokeinterface 31260 2 :: is) ls (a1 :: (3, o) :: st) h = (((o ≠ 0 ∧ o % 64 = 2) ∧ wds st ≤ 8) ∧ 0 < d ∧ Sp fz (d - 1) 122 [(3, o), a1] h (fun x h => X fz d k Q is ls st h)) := rfl
theorem x_call123 {fz : Int → Int → Option Int} {d k : Nat} {Q : Int → HV → Prop} {is : List Instr} {h : HV} {ls st : List AV} {o : Int} {a1 : AV}  : X fz d k Q (.invokeinterface 31512 2 :: is) ls (a1 :: (3, o) :: st) h = (((o ≠ 0 ∧ o % 64 = 2) ∧ wds st ≤ 8) ∧ 0 < d ∧ Sp fz (d - 1) 123 [(3, o), a1] h (fun x h => X fz d k Q is ls ((0, x) :: st) h)) := rfl
theorem x_call124 {fz : Int → Int → Option Int} {d k : Nat} {Q : Int → HV → Prop} {is : List Instr} {h : HV} {ls st : List AV} {o : Int}  : X fz d k Q (.invokeinterface 31772 1 :: is) ls ((3, o) :: st) h = (((o ≠ 0 ∧ o % 64 = 2) ∧ wds st ≤ 8) ∧ 0 < d ∧ Sp fz (d - 1) 124 [(3, o)] h (fun x h => X fz d k Q is ls st h)) := rfl
theorem x_call125 {fz : Int → Int → Option Int} {d k : Nat} {Q : Int → HV → Prop} {is : List Instr} {h : HV} {ls st : List AV} {o : Int} {a1 : AV}  : X fz d k Q (.invokeinterface 32028 2 :: is) ls (a1 :: (3, o) :: st) h = (((o ≠ 0 ∧ o % 64 = 2) ∧ wds st ≤ 8) ∧ 0 < d ∧ Sp fz (d - 1) 125 [(3, o), a1] h (fun x h => X fz d k Q is ls st h)) := rfl
theorem x_call126 {fz : Int → Int → Option Int} {d k : Nat} {Q : Int → HV → Prop} {is : List Instr} {h : HV} {ls st : List AV} {o : Int} {a1 : AV}  : X fz d k Q (.invokeinterface 32284 2 :: is) ls (a1 :: (3, o) :: st) h = (((o ≠ 0 ∧ o % 64 = 2) ∧ wds st ≤ 8) ∧ 0 < d ∧ Sp fz (d - 1) 126 [(3, o), a1] h (fun x h => X fz d k Q is ls st h)) := rfl
theorem x_call127 {fz : Int → Int → Option Int} {d k : Nat} {Q : Int → HV → Prop} {is : List Instr} {h : HV} {ls st : List AV} {o : Int} {a1 : AV}  : X fz d k Q (.invokeinterface 32540 2 :: is) ls (a1 :: (3, o) :: st) h = (((o ≠ 0 ∧ o % 64 = 2) ∧ wds st ≤ 8) ∧ 0 < d ∧ Sp fz (d - 1) 127 [(3, o), a1] h (fun x h => X fz d k Q is ls st h)) := rfl
theorem x_call128 {fz : Int → Int → Option Int} {d k : Nat} {Q : Int → HV → Prop} {is : List Instr} {h : HV} {ls st : List AV} {o : Int}  : X fz d k Q (.invokeinterface 32796 1 :: is) ls ((3, o) :: st) h = (((o ≠ 0 ∧ o % 64 = 2) ∧ wds st ≤ 8) ∧ 0 < d ∧ Sp fz (d - 1) 128 [(3, o)] h (fun x h => X fz d k Q is ls st h)) := rfl
theorem x_call129 {fz : Int → Int → Option Int} {d k : Nat} {Q : Int → HV → Prop} {is : List Instr} {h : HV} {ls st : List AV} {o : Int} {a1 : AV}  : X fz d k Q (.invokeinterface 33112 2 :: is) ls (a1 :: (3, o) :: st) h = (((o ≠ 0 ∧ o % 64 = 10) ∧ wds st ≤ 8) ∧ 0 < d ∧ Sp fz (d - 1) 129 [(3, o), a1] h (fun x h => X fz d k Q is ls ((0, x) :: st) h)) := rfl
theorem x_call13 {fz : Int → Int → Option Int} {d k : Nat} {Q : Int → HV → Prop} {is : List Instr} {h : HV} {ls st : List AV} {o : Int}  : X fz d k Q (.invokeinterface 3396 1 :: is) ls ((3, o) :: st) h = (((o ≠ 0 ∧ o % 64 = 7) ∧ wds st ≤ 8) ∧ 0 < d ∧ Sp fz (d - 1) 13 [(3, o)] h (fun x h => X fz d k Q is ls st h)) := rfl
theorem x_call130 {fz : Int → Int → Option Int} {d k : Nat} {Q : Int → HV → Prop} {is : List Instr} {h : HV} {ls st : List AV} {o : Int}  : X fz d k Q (.invokeinterface 33300 1 :: is) ls ((3, o) :: st) h = (((o ≠ 0 ∧ o % 64 = 1) ∧ wds st ≤ 8) ∧ 0 < d ∧ Sp fz (d - 1) 130 [(3, o)] h (fun x h => X fz d k Q is ls st h)) := rfl
theorem x_call131 {fz : Int → Int → Option Int} {d k : Nat} {Q : Int → HV → Prop} {is : List Instr} {h : HV} {ls st : List AV} {o : Int}  : X fz d k Q (.invokeinterface 33548 1 :: is) ls ((3, o) :: st) h = (((o ≠ 0 ∧ o % 64 = 0) ∧ wds st ≤ 8) ∧ 0 < d ∧ Sp fz (d - 1) 131 [(3, o)] h (fun x h => X fz d k Q is ls st h)) := rfl
theorem x_call132 {fz : Int → Int → Option Int} {d k : Nat} {Q : Int → HV → Prop} {is : List Instr} {h : HV} {ls st : List AV} {o : Int}  : X fz d k Q (.invokeinterface 33828 1 :: is) ls ((3, o) :: st) h = (((o ≠ 0 ∧ o % 64 = 3) ∧ wds st ≤ 8) ∧ 0 < d ∧ Sp fz (d - 1) 132 [(3, o)] h (fun x h => X fz d k Q is ls st h)) := rfl
theorem x_call133 {fz : Int → Int → Option Int} {d k : Nat} {Q : Int → HV → Prop} {is : List Instr} {h : HV} {ls st : List AV} {o : Int}  : X fz d k Q (.invokeinterface 34092 1 :: is) ls ((3, o) :: st) h = (((o ≠ 0 ∧ o % 64 = 4) ∧ wds st ≤ 8) ∧ 0 < d ∧ Sp fz (d - 1) 133 [(3, o)] h (fun x h => X fz d k Q is ls st h)) := rfl
theorem x_call134 {fz : Int → Int → Option Int} {d k : Nat} {Q : Int → HV → Prop} {is : List Instr} {h : HV} {ls st : List AV} {o : Int} {a1 a2 a3 : AV}  : X fz d k Q (.invokeinterface 34344 4 :: is) ls (a3 :: a2 :: a1 :: (3, o) :: st) h = (((o ≠ 0 ∧ o % 64 = 4) ∧ wds st ≤ 8) ∧ 0 < d ∧ Sp fz (d - 1) 134 [(3, o), a1, a2, a3] h (fun x h => X fz d k Q is ls ((0, x) :: st) h)) := rfl
theorem x_call135 {fz : Int → Int → Option Int} {d k : Nat} {Q : Int → HV → Prop} {is : List Instr} {h : HV} {ls st : List AV} {o : Int} {a1 : AV}  : X fz d k Q (.invokeinterface 34568 2 :: is) ls (a1 :: (3, o) :: st) h = (((o ≠ 0 ∧ o % 64 = 0) ∧ wds st ≤ 8) ∧ 0 < d ∧ Sp fz (d - 1) 135 [(3, o), a1] h (fun x h => X fz d k Q is ls ((0, x) :: st) h)) := rfl
theorem x_call136 {fz : Int → Int → Option Int} {d k : Nat} {Q : Int → HV → Prop} {is : List Instr} {h : HV} {ls st : List AV} {o : Int}  : X fz d k Q (.invokeinterface 34856 1 :: is) ls ((3, o) :: st) h = (((o ≠ 0 ∧ o % 64 = 4) ∧ wds st ≤ 8) ∧ 0 < d ∧ Sp fz (d - 1) 136 [(3, o)] h (fun x h => X fz d k Q is ls ((0, x) :: st) h)) := rfl
theorem x_call137 {fz : Int → Int → Option Int} {d k : Nat} {Q : Int → HV → Prop} {is : List Instr} {h : HV} {ls st : List AV} {o : Int}  : X fz d k Q (.invokeinterface 35104 1 :: is) ls ((3, o) :: st) h = (((o ≠ 0 ∧ o % 64 = 3) ∧ wds st ≤ 8) ∧ 0 < d ∧ Sp fz (d - 1) 137 [(3, o)] h (fun x h => X fz d k Q is ls ((0, x) :: st) h)) := rfl
theorem x_call138 {fz : Int → Int → Option Int} {d k : Nat} {Q : Int → HV → Prop} {is : List Instr} {h : HV} {ls st : List AV} {o : Int}  : X fz d k Q (.invokeinterface 35376 1 :: is) ls ((3, o) :: st) h = (((o ≠ 0 ∧ o % 64 = 5) ∧ wds st ≤ 8) ∧ 0 < d ∧ Sp fz (d - 1) 138 [(3, o)] h (fun x h => X fz d k Q is ls ((0, x) :: st) h)) := rfl
theorem x_call139 {fz : Int → Int → Option Int} {d k : Nat} {Q : Int → HV → Prop} {is : List Instr} {h : HV} {ls st : List AV} {o : Int} {a1 a2 : AV}  : X fz d k Q (.invokeinterface 35592 3 :: is) ls (a2 :: a1 :: (3, o) :: st) h = (((o ≠ 0 ∧ o % 64 = 0) ∧ wds st ≤ 8) ∧ 0 < d ∧ Sp fz (d - 1) 139 [(3, o), a1, a2] h (fun x h => X fz d k Q is ls ((0, x) :: st) h)) := rfl
theorem x_call14 {fz : Int → Int → Option Int} {d k : Nat} {Q : Int → HV → Prop} {is : List Instr} {h : HV} {ls st : List AV} {a0 a1 : AV}  : X fz d k Q (.invokeinterface 3588 2 :: is) ls (a1 :: a0 :: st) h = ((True ∧ wds st ≤ 8) ∧ 0 < d ∧ Sp fz (d - 1) 14 [a0, a1] h (fun x h => X fz d k Q is ls st h)) := rfl
theorem x_call140 {fz : Int → Int → Option Int} {d k : Nat} {Q : Int → HV → Prop} {is : List Instr} {h : HV} {ls st : List AV} {a0 : AV}  : X fz d k Q (.invokeinterface 35840 1 :: is) ls (a0 :: st) h = ((True ∧ wds st ≤ 8) ∧ 0 < d ∧ Sp fz (d - 1) 140 [a0] h (fun x h => X fz d k Q is ls ((0, x) :: st) h)) := rfl
theorem x_call141 {fz : Int → Int → Option Int} {d k : Nat} {Q : Int → HV → Prop} {is : List Instr} {h : HV} {ls st : List AV} {o : Int} {a1 : AV}  : X fz d k Q (.invokeinterface 36136 2 :: is) ls (a1 :: (3, o) :: st) h = (((o ≠ 0 ∧ o % 64 = 4) ∧ wds st ≤ 8) ∧ 0 < d ∧ Sp fz (d - 1) 141 [(3, o), a1] h (fun x h => X fz d k Q is ls ((0, x) :: st) h)) := rfl
theorem x_call142 {fz : Int → Int → Option Int} {d k : Nat} {Q : Int → HV → Prop} {is : List Instr} {h : HV} {ls st : List AV} {o : Int} {a1 : AV}  : X fz d k Q (.invokeinterface 36392 2 :: is) ls (a1 :: (3, o) :: st) h = (((o ≠ 0 ∧ o % 64 = 4) ∧ wds st ≤ 8) ∧ 0 < d ∧ Sp fz (d - 1) 142 [(3, o), a1] h (fun x h => X fz d k Q is ls ((0, x) :: st) h)) := rfl
theorem x_call143 {fz : Int → Int → Option Int} {d k : Nat} {Q : Int → HV → Prop} {is : List Instr} {h : HV} {ls st : List AV} {o : Int} {a1 : AV}  : X fz d k Q (.invokeinterface 36648 2 :: is) ls (a1 :: (3, o) :: st) h = (((o ≠ 0 ∧ o % 64 = 4) ∧ wds st ≤ 8) ∧ 0 < d ∧ Sp fz (d - 1) 143 [(3, o), a1] h (fun x h => X fz d k Q is ls ((0, x) :: st) h)) := rfl
theorem x_call144 {fz : Int → Int → Option Int} {d k : Nat} {Q : Int → HV → Prop} {is : List Instr} {h : HV} {ls st : List AV} {o : Int} {a1 : AV}  : X fz d k Q (.invokeinterface 36904 2 :: is) ls (a1 :: (3, o) :: st) h = (((o ≠ 0 ∧ o % 64 = 4) ∧ wds st ≤ 8) ∧ 0 < d ∧ Sp fz (d - 1) 144 [(3, o), a1] h (fun x h => X fz d k Q is ls ((0, x) :: st) h)) := rfl
theorem x_call145 {fz : Int → Int → Option Int} {d k : Nat} {Q : Int → HV → Prop} {is : List Instr} {h : HV} {ls st : List AV} {o : Int} {a1 : AV}  : X fz d k Q (.invokeinterface 37128 2 :: is) ls (a1 :: (3, o) :: st) h = (((o ≠ 0 ∧ o % 64 = 0) ∧ wds st ≤ 8) ∧ 0 < d ∧ Sp fz (d - 1) 145 [(3, o), a1] h (fun x h => X fz d k Q is ls ((0, x) :: st) h)) := rfl
theorem x_call146 {fz : Int → Int → Option Int} {d k : Nat} {Q : Int → HV → Prop} {is : List Instr} {h : HV} {ls st : List AV} {o : Int} {a1 a2 : AV}  : X fz d k Q (.invokeinterface 37384 3 :: is) ls (a2 :: a1 :: (3, o) :: st) h = (((o ≠ 0 ∧ o % 64 = 0) ∧ wds st ≤ 8) ∧ 0 < d ∧ Sp fz (d - 1) 146 [(3, o), a1, a2] h (fun x h => X fz d k Q is ls ((0, x) :: st) h)) := rfl
theorem x_call147 {fz : Int → Int → Option Int} {d k : Nat} {Q : Int → HV → Prop} {is : List Instr} {h : HV} {ls st : List AV} {o : Int} {a1 : AV}  : X fz d k Q (.invokeinterface 37672 2 :: is) ls (a1 :: (3, o) :: st) h = (((o ≠ 0 ∧ o % 64 = 4) ∧ wds st ≤ 8) ∧ 0 < d ∧ Sp fz (d - 1) 147 [(3, o), a1] h (fun x h => X fz d k Q is ls ((0, x) :: st) h)) := rfl
theorem x_call148 {fz : Int → Int → Option Int} {d k : Nat} {Q : Int → HV → Prop} {is : List Instr} {h : HV} {ls st : List AV} {o : Int} {a1 : AV}  : X fz d k Q (.invokeinterface 37928 2 :: is) ls (a1 :: (3, o) :: st) h = (((o ≠ 0 ∧ o % 64 = 4) ∧ wds st ≤ 8) ∧ 0 < d ∧ Sp fz (d - 1) 148 [(3, o), a1] h (fun x h => X fz d k Q is ls ((0, x) :: st) h)) := rfl
theorem x_call149 {fz : Int → Int → Option Int} {d k : Nat} {Q : Int → HV → Prop} {is : List Instr} {h : HV} {ls st : List AV} {o : Int} {a1 a2 : AV}  : X fz d k Q (.invokeinterface 38152 3 :: is) ls (a2 :: a1 :: (3, o) :: st) h = (((o ≠ 0 ∧ o % 64 = 0) ∧ wds st ≤ 8) ∧ 0 < d ∧ Sp fz (d - 1) 149 [(3, o), a1, a2] h (fun x h => X fz d k Q is ls ((0, x) :: st) h)) := rfl
theorem x_call15 {fz : Int → Int → Option Int} {d k : Nat} {Q : Int → HV → Prop} {is : List Instr} {h : HV} {ls st : List AV} {o : Int}  : X fz d k Q (.invokeinterface 3908 1 :: is) ls ((3, o) :: st) h = (((o ≠ 0 ∧ o % 64 = 7) ∧ wds st ≤ 8) ∧ 0 < d ∧ Sp fz (d - 1) 15 [(3, o)] h (fun x h => X fz d k Q is ls st h)) := rfl
theorem x_call150 {fz : Int → Int → Option Int} {d k : Nat} {Q : Int → HV → Prop} {is : List Instr} {h : HV} {ls st : List AV} {a0 : AV}  : X fz d k Q (.invokeinterface 38400 1 :: is) ls (a0 :: st) h = ((True ∧ wds st ≤ 8) ∧ 0 < d ∧ Sp fz (d - 1) 150 [a0] h (fun x h => X fz d k Q is ls ((0, x) :: st) h)) := rfl
theorem x_call151 {fz : Int → Int → Option Int} {d k : Nat} {Q : Int → HV → Prop} {is : List Instr} {h : HV} {ls st : List AV} {o : Int} {a1 a2 : AV}  : X fz d k Q (.invokeinterface 38696 3 :: is) ls (a2 :: a1 :: (3, o) :: st) h = (((o ≠ 0 ∧ o % 64 = 4) ∧ wds st ≤ 8) ∧ 0 < d ∧ Sp fz (d - 1) 151 [(3, o), a1, a2] h (fun x h => X fz d k Q is ls ((0, x) :: st) h)) := rfl
theorem x_call152 {fz : Int → Int → Option Int} {d k : Nat} {Q : Int → HV → Prop} {is : List Instr} {h : HV} {ls st : List AV} {a0 : AV}  : X fz d k Q (.invokeinterface 38912 1 :: is) ls (a0 :: st) h = ((True ∧ wds st ≤ 8) ∧ 0 < d ∧ Sp fz (d - 1) 152 [a0] h (fun x h => X fz d k Q is ls ((0, x) :: st) h)) := rfl
theorem x_call153 {fz : Int → Int → Option Int} {d k : Nat} {Q : Int → HV → Prop} {is : List Instr} {h : HV} {ls st : List AV} {a0 : AV}  : X fz d k Q (.invokeinterface 39168 1 :: is) ls (a0 :: st) h = ((True ∧ wds st ≤ 8) ∧ 0 < d ∧ Sp fz (d - 1) 153 [a0] h (fun x h => X fz d k Q is ls ((0, x) :: st) h)) := rfl
theorem x_call154 {fz : Int → Int → Option Int} {d k : Nat} {Q : Int → HV → Prop} {is : List Instr} {h : HV} {ls st : List AV} {a0 : AV}  : X fz d k Q (.invokeinterface 39424 1 :: is) ls (a0 :: st) h = ((True ∧ wds st ≤ 8) ∧ 0 < d ∧ Sp fz (d - 1) 154 [a0] h (fun x h => X fz d k Q is ls ((0, x) :: st) h)) := rfl
theorem x_call155 {fz : Int → Int → Option Int} {d k : Nat} {Q : Int → HV → Prop} {is : List Instr} {h : HV} {ls st : List AV} {o : Int} {a1 a2 a3 : AV}  : X fz d k Q (.invokeinterface 39688 4 :: is) ls (a3 :: a2 :: a1 :: (3, o) :: st) h = (((o ≠ 0 ∧ o % 64 = 0) ∧ wds st ≤ 8) ∧ 0 < d ∧ Sp fz (d - 1) 155 [(3, o), a1, a2, a3] h (fun x h => X fz d k Q is ls ((0, x) :: st) h)) := rfl
theorem x_call156 {fz : Int → Int → Option Int} {d k : Nat} {Q : Int → HV → Prop} {is : List Instr} {h : HV} {ls st : List AV} {o : Int} {a1 a2 : AV}  : X fz d k Q (.invokeinterface 39944 3 :: is) ls (a2 :: a1 :: (3, o) :: st) h = (((o ≠ 0 ∧ o % 64 = 0) ∧ wds st ≤ 8) ∧ 0 < d ∧ Sp fz (d - 1) 156 [(3, o), a1, a2] h (fun x h => X fz d k Q is ls ((0, x) :: st) h)) := rfl
theorem x_call157 {fz : Int → Int → Option Int} {d k : Nat} {Q : Int → HV → Prop} {is : List Instr} {h : HV} {ls st : List AV} {o : Int} {a1 a2 : AV}  : X fz d k Q (.invokeinterface 40224 3 :: is) ls (a2 :: a1 :: (3, o) :: st) h = (((o ≠ 0 ∧ o % 64 = 3) ∧ wds st ≤ 8) ∧ 0 < d ∧ Sp fz (d - 1) 157 [(3, o), a1, a2] h (fun x h => X fz d k Q is ls ((0, x) :: st) h)) := rfl
theorem x_call158 {fz : Int → Int → Option Int} {d k : Nat} {Q : Int → HV → Prop} {is : List Instr} {h : HV} {ls st : List AV} {a0 a1 : AV}  : X fz d k Q (.invokeinterface 40451 2 :: is) ls (a1 :: a0 :: st) h = ((True ∧ wds st ≤ 8) ∧ 0 < d ∧ Sp fz (d - 1) 158 [a0, a1] h (fun x h => X fz d k Q is ls ((3, x) :: st) h)) := rfl
theorem x_call159 {fz : Int → Int → Option Int} {d k : Nat} {Q : Int → HV → Prop} {is : List Instr} {h : HV} {ls st : List AV} {a0 a1 : AV}  : X fz d k Q (.invokeinterface 40707 2 :: is) ls (a1 :: a0 :: st) h = ((True ∧ wds st ≤ 8) ∧ 0 < d ∧ Sp fz (d - 1) 159 [a0, a1] h (fun x h => X fz d k Q is ls ((3, x) :: st) h)) := rfl
theorem x_call16 {fz : Int → Int → Option Int} {d k : Nat} {Q : Int → HV → Prop} {is : List Instr} {h : HV} {ls st : List AV} {o : Int} {a1 : AV}  : X fz d k Q (.invokeinterface 4148 2 :: is) ls (a1 :: (3, o) :: st) h = (((o ≠ 0 ∧ o % 64 = 5) ∧ wds st ≤ 8) ∧ 0 < d ∧ Sp fz (d - 1) 16 [(3, o), a1] h (fun x h => X fz d k Q is ls st h)) := rfl
theorem x_call160 {fz : Int → Int → Option Int} {d k : Nat} {Q : Int → HV → Prop} {is : List Instr} {h : HV} {ls st : List AV} {o : Int} {a1 a2 a3 : AV}  : X fz d k Q (.invokeinterface 41004 4 :: is) ls (a3 :: a2 :: a1 :: (3, o) :: st) h = (((o ≠ 0 ∧ o % 64 = 4) ∧ wds st ≤ 8) ∧ 0 < d ∧ Sp fz (d - 1) 160 [(3, o), a1, a2, a3] h (fun x h => X fz d k Q is ls st h)) := rfl
theorem x_call161 {fz : Int → Int → Option Int} {d k : Nat} {Q : Int → HV → Prop} {is : List Instr} {h : HV} {ls st : List AV} {o : Int} {a1 a2 a3 a4 : AV}  : X fz d k Q (.invokeinterface 41224 5 :: is) ls (a4 :: a3 :: a2 :: a1 :: (3, o) :: st) h = (((o ≠ 0 ∧ o % 64 = 0) ∧ wds st ≤ 8) ∧ 0 < d ∧ Sp fz (d - 1) 161 [(3, o), a1, a2, a3, a4] h (fun x h => X fz d k Q is ls ((0, x) :: st) h)) := rfl
theorem x_call162 {fz : Int → Int → Option Int} {d k : Nat} {Q : Int → HV → Prop} {is : List Instr} {h : HV} {ls st : List AV} {o : Int} {a1 a2 : AV}  : X fz d k Q (.invokeinterface 41512 3 :: is) ls (a2 :: a1 :: (3, o) :: st) h = (((o ≠ 0 ∧ o % 64 = 4) ∧ wds st ≤ 8) ∧ 0 < d ∧ Sp fz (d - 1) 162 [(3, o), a1, a2] h (fun x h => X fz d k Q is ls ((0, x) :: st) h)) := rfl
theorem x_call163 {fz : Int → Int → Option Int} {d k : Nat} {Q : Int → HV → Prop} {is : List Instr} {h : HV} {ls st : List AV} {o : Int} {a1 a2 : AV}  : X fz d k Q (.invokeinterface 41760 3 :: is) ls (a2 :: a1 :: (3, o) :: st) h = (((o ≠ 0 ∧ o % 64 = 3) ∧ wds st ≤ 8) ∧ 0 < d ∧ Sp fz (d - 1) 163 [(3, o), a1, a2] h (fun x h => X fz d k Q is ls ((0, x) :: st) h)) := rfl
theorem x_call164 {fz : Int → Int → Option Int} {d k : Nat} {Q : Int → HV → Prop} {is : List Instr} {h : HV} {ls st : List AV} {o : Int} {a1 : AV}  : X fz d k Q (.invokeinterface 42016 2 :: is) ls (a1 :: (3, o) :: st) h = (((o ≠ 0 ∧ o % 64 = 3) ∧ wds st ≤ 8) ∧ 0 < d ∧ Sp fz (d - 1) 164 [(3, o), a1] h (fun x h => X fz d k Q is ls ((0, x) :: st) h)) := rfl
theorem x_call165 {fz : Int → Int → Option Int} {d k : Nat} {Q : Int → HV → Prop} {is : List Instr} {h : HV} {ls st : List AV} {o : Int} {a1 a2 : AV}  : X fz d k Q (.invokeinterface 42273 3 :: is) ls (a2 :: a1 :: (3, o) :: st) h = (((o ≠ 0 ∧ o % 64 = 3) ∧ wds st ≤ 8) ∧ 0 < d ∧ Sp fz (d - 1) 165 [(3, o), a1, a2] h (fun x h => X fz d k Q is ls ((1, x) :: st) h)) := rfl
theorem x_call166 {fz : Int → Int → Option Int} {d k : Nat} {Q : Int → HV → Prop} {is : List Instr} {h : HV} {ls st : List AV} {o : Int} {a1 a2 a3 : AV}  : X fz d k Q (.invokeinterface 42532 4 :: is) ls (a3 :: a2 :: a1 :: (3, o) :: st) h = (((o ≠ 0 ∧ o % 64 = 3) ∧ wds st ≤ 8) ∧ 0 < d ∧ Sp fz (d - 1) 166 [(3, o), a1, a2, a3] h (fun x h => X fz d k Q is ls st h)) := rfl
theorem x_call167 {fz : Int → Int → Option Int} {d k : Nat} {Q : Int → HV → Prop} {is : List Instr} {h : HV} {ls st : List AV} {o : Int} {a1 a2 a3 : AV}  : X fz d k Q (.invokeinterface 42760 4 :: is) ls (a3 :: a2 :: a1 :: (3, o) :: st) h = (((o ≠ 0 ∧ o % 64 = 0) ∧ wds st ≤ 8) ∧ 0 < d ∧ Sp fz (d - 1) 167 [(3, o), a1, a2, a3] h (fun x h => X fz d k Q is ls ((0, x) :: st) h)) := rfl
theorem x_call168 {fz : Int → Int → Option Int} {d k : Nat} {Q : Int → HV → Prop} {is : List Instr} {h : HV} {ls st : List AV} {o : Int} {a1 a2 a3 a4 a5 a6 : AV}  : X fz d k Q (.invokeinterface 43016 7 :: is) ls (a6 :: a5 :: a4 :: a3 :: a2 :: a1 :: (3, o) :: st) h = (((o ≠ 0 ∧ o % 64 = 0) ∧ wds st ≤ 8) ∧ 0 < d ∧ Sp fz (d - 1) 168 [(3, o), a1, a2, a3, a4, a5, a6] h (fun x h => X fz d k Q is ls ((0, x) :: st) h)) := rfl
theorem x_call169 {fz : Int → Int → Option Int} {d k : Nat} {Q : Int → HV → Prop} {is : List Instr} {h : HV} {ls st : List AV} {a0 : AV}  : X fz d k Q (.invokeinterface 43264 1 :: is) ls (a0 :: st) h = ((True ∧ wds st ≤ 8) ∧ 0 < d ∧ Sp fz (d - 1) 169 [a0] h (fun x h => X fz d k Q is ls ((0, x) :: st) h)) := rfl
theorem x_call17 {fz : Int → Int → Option Int} {d k : Nat} {Q : Int → HV → Prop} {is : List Instr} {h : HV} {ls st : List AV} {o : Int} {a1 : AV}  : X fz d k Q (.invokeinterface 4428 2 :: is) ls (a1 :: (3, o) :: st) h = (((o ≠ 0 ∧ o % 64 = 8) ∧ wds st ≤ 8) ∧ 0 < d ∧ Sp fz (d - 1) 17 [(3, o), a1] h (fun x h => X fz d k Q is ls st h)) := rfl
theorem x_call170 {fz : Int → Int → Option Int} {d k : Nat} {Q : Int → HV → Prop} {is : List Instr} {h : HV} {ls st : List AV} {o : Int} {a1 a2 a3 a4 a5 a6 : AV}  : X fz d k Q (.invokeinterface 43568 7 :: is) ls (a6 :: a5 :: a4 :: a3 :: a2 :: a1 :: (3, o) :: st) h = (((o ≠ 0 ∧ o % 64 = 5) ∧ wds st ≤ 8) ∧ 0 < d ∧ Sp fz (d - 1) 170 [(3, o), a1, a2, a3, a4, a5, a6] h (fun x h => X fz d k Q is ls ((0, x) :: st) h)) := rfl
theorem x_call171 {fz : Int → Int → Option Int} {d k : Nat} {Q : Int → HV → Prop} {is : List Instr} {h : HV} {ls st : List AV} {o : Int} {a1 : AV}  : X fz d k Q (.invokeinterface 43836 2 :: is) ls (a1 :: (3, o) :: st) h = (((o ≠ 0 ∧ o % 64 = 6) ∧ wds st ≤ 8) ∧ 0 < d ∧ Sp fz (d - 1) 171 [(3, o), a1] h (fun x h => X fz d k Q is ls st h)) := rfl
theorem x_call172 {fz : Int → Int → Option Int} {d k : Nat} {Q : Int → HV → Prop} {is : List Instr} {h : HV} {ls st : List AV} {o : Int} {a1 a2 : AV}  : X fz d k Q (.invokeinterface 44092 3 :: is) ls (a2 :: a1 :: (3, o) :: st) h = (((o ≠ 0 ∧ o % 64 = 6) ∧ wds st ≤ 8) ∧ 0 < d ∧ Sp fz (d - 1) 172 [(3, o), a1, a2] h (fun x h => X fz d k Q is ls st h)) := rfl
theorem x_call173 {fz : Int → Int → Option Int} {d k : Nat} {Q : Int → HV → Prop} {is : List Instr} {h : HV} {ls st : List AV} {o : Int} {a1 a2 : AV}  : X fz d k Q (.invokeinterface 44340 3 :: is) ls (a2 :: a1 :: (3, o) :: st) h = (((o ≠ 0 ∧ o % 64 = 5) ∧ wds st ≤ 8) ∧ 0 < d ∧ Sp fz (d - 1) 173 [(3, o), a1, a2] h (fun x h => X fz d k Q is ls st h)) := rfl
theorem x_call174 {fz : Int → Int → Option Int} {d k : Nat} {Q : Int → HV → Prop} {is : List Instr} {h : HV} {ls st : List AV} {o : Int}  : X fz d k Q (.invokeinterface 44600 1 :: is) ls ((3, o) :: st) h = (((o ≠ 0 ∧ o % 64 = 6) ∧ wds st ≤ 8) ∧ 0 < d ∧ Sp fz (d - 1) 174 [(3, o)] h (fun x h => X fz d k Q is ls ((0, x) :: st) h)) := rfl
theorem x_call175 {fz : Int → Int → Option Int} {d k : Nat} {Q : Int → HV → Prop} {is : List Instr} {h : HV} {ls st : List AV} {o : Int} {a1 : AV}  : X fz d k Q (.invokeinterface 44860 2 :: is) ls (a1 :: (3, o) :: st) h = (((o ≠ 0 ∧ o % 64 = 6) ∧ wds st ≤ 8) ∧ 0 < d ∧ Sp fz (d - 1) 175 [(3, o), a1] h (fun x h => X fz d k Q is ls st h)) := rfl
theorem x_call176 {fz : Int → Int → Option Int} {d k : Nat} {Q : Int → HV → Prop} {is : List Instr} {h : HV} {ls st : List AV} {o : Int}  : X fz d k Q (.invokeinterface 45104 1 :: is) ls ((3, o) :: st) h = (((o ≠ 0 ∧ o % 64 = 5) ∧ wds st ≤ 8) ∧ 0 < d ∧ Sp fz (d - 1) 176 [(3, o)] h (fun x h => X fz d k Q is ls ((0, x) :: st) h)) := rfl
theorem x_call177 {fz : Int → Int → Option Int} {d k : Nat} {Q : Int → HV → Prop} {is : List Instr} {h : HV} {ls st : List AV} {o : Int} {a1 : AV}  : X fz d k Q (.invokeinterface 45364 2 :: is) ls (a1 :: (3, o) :: st) h = (((o ≠ 0 ∧ o % 64 = 5) ∧ wds st ≤ 8) ∧ 0 < d ∧ Sp fz (d - 1) 177 [(3, o), a1] h (fun x h => X fz d k Q is ls st h)) := rfl
theorem x_call178 {fz : Int → Int → Option Int} {d k : Nat} {Q : Int → HV → Prop} {is : List Instr} {h : HV} {ls st : List AV} {o : Int}  : X fz d k Q (.invokeinterface 45616 1 :: is) ls ((3, o) :: st) h = (((o ≠ 0 ∧ o % 64 = 5) ∧ wds st ≤ 8) ∧ 0 < d ∧ Sp fz (d - 1) 178 [(3, o)] h (fun x h => X fz d k Q is ls ((0, x) :: st) h)) := rfl
theorem x_call179 {fz : Int → Int → Option Int} {d k : Nat} {Q : Int → HV → Prop} {is : List Instr} {h : HV} {ls st : List AV} {o : Int} {a1 a2 : AV}  : X fz d k Q (.invokeinterface 45876 3 :: is) ls (a2 :: a1 :: (3, o) :: st) h = (((o ≠ 0 ∧ o % 64 = 5) ∧ wds st ≤ 8) ∧ 0 < d ∧ Sp fz (d - 1) 179 [(3, o), a1, a2] h (fun x h => X fz d k Q is ls st h)) := rfl
theorem x_call18 {fz : Int → Int → Option Int} {d k : Nat} {Q : Int → HV → Prop} {is : List Instr} {h : HV} {ls st : List AV} {o : Int}  : X fz d k Q (.invokeinterface 4684 1 :: is) ls ((3, o) :: st) h = (((o ≠ 0 ∧ o % 64 = 8) ∧ wds st ≤ 8) ∧ 0 < d ∧ Sp fz (d - 1) 18 [(3, o)] h (fun x h => X fz d k Q is ls st h)) := rfl
theorem x_call180 {fz : Int → Int → Option Int} {d k : Nat} {Q : Int → HV → Prop} {is : List Instr} {h : HV} {ls st : List AV} {o : Int}  : X fz d k Q (.invokeinterface 46132 1 :: is) ls ((3, o) :: st) h = (((o ≠ 0 ∧ o % 64 = 5) ∧ wds st ≤ 8) ∧ 0 < d ∧ Sp fz (d - 1) 180 [(3, o)] h (fun x h => X fz d k Q is ls st h)) := rfl
theorem x_call181 {fz : Int → Int → Option Int} {d k : Nat} {Q : Int → HV → Prop} {is : List Instr} {h : HV} {ls st : List AV} {o : Int} {a1 : AV}  : X fz d k Q (.invokeinterface 46388 2 :: is) ls (a1 :: (3, o) :: st) h = (((o ≠ 0 ∧ o % 64 = 5) ∧ wds st ≤ 8) ∧ 0 < d ∧ Sp fz (d - 1) 181 [(3, o), a1] h (fun x h => X fz d k Q is ls st h)) := rfl
theorem x_call182 {fz : Int → Int → Option Int} {d k : Nat} {Q : Int → HV → Prop} {is : List Instr} {h : HV} {ls st : List AV} {o : Int} {a1 : AV}  : X fz d k Q (.invokeinterface 46640 2 :: is) ls (a1 :: (3, o) :: st) h = (((o ≠ 0 ∧ o % 64 = 5) ∧ wds st ≤ 8) ∧ 0 < d ∧ Sp fz (d - 1) 182 [(3, o), a1] h (fun x h => X fz d k Q is ls ((0, x) :: st) h)) := rfl
theorem x_call183 {fz : Int → Int → Option Int} {d k : Nat} {Q : Int → HV → Prop} {is : List Instr} {h : HV} {ls st : List AV} {o : Int} {a1 : AV}  : X fz d k Q (.invokeinterface 46904 2 :: is) ls (a1 :: (3, o) :: st) h = (((o ≠ 0 ∧ o % 64 = 6) ∧ wds st ≤ 8) ∧ 0 < d ∧ Sp fz (d - 1) 183 [(3, o), a1] h (fun x h => X fz d k Q is ls ((0, x) :: st) h)) := rfl
theorem x_call184 {fz : Int → Int → Option Int} {d k : Nat} {Q : Int → HV → Prop} {is : List Instr} {h : HV} {ls st : List AV} {o : Int} {a1 : AV}  : X fz d k Q (.invokeinterface 47161 2 :: is) ls (a1 :: (3, o) :: st) h = (((o ≠ 0 ∧ o % 64 = 6) ∧ wds st ≤ 8) ∧ 0 < d ∧ Sp fz (d - 1) 184 [(3, o), a1] h (fun x h => X fz d k Q is ls ((1, x) :: st) h)) := rfl
theorem x_call185 {fz : Int → Int → Option Int} {d k : Nat} {Q : Int → HV → Prop} {is : List Instr} {h : HV} {ls st : List AV} {o : Int} {a1 : AV}  : X fz d k Q (.invokeinterface 47412 2 :: is) ls (a1 :: (3, o) :: st) h = (((o ≠ 0 ∧ o % 64 = 5) ∧ wds st ≤ 8) ∧ 0 < d ∧ Sp fz (d - 1) 185 [(3, o), a1] h (fun x h => X fz d k Q is ls st h)) := rfl
theorem x_call186 {fz : Int → Int → Option Int} {d k : Nat} {Q : Int → HV → Prop} {is : List Instr} {h : HV} {ls st : List AV} {o : Int} {a1 : AV}  : X fz d k Q (.invokeinterface 47672 2 :: is) ls (a1 :: (3, o) :: st) h = (((o ≠ 0 ∧ o % 64 = 6) ∧ wds st ≤ 8) ∧ 0 < d ∧ Sp fz (d - 1) 186 [(3, o), a1] h (fun x h => X fz d k Q is ls ((0, x) :: st) h)) := rfl
theorem x_call187 {fz : Int → Int → Option Int} {d k : Nat} {Q : Int → HV → Prop} {is : List Instr} {h : HV} {ls st : List AV} {o : Int} {a1 : AV}  : X fz d k Q (.invokeinterface 47929 2 :: is) ls (a1 :: (3, o) :: st) h = (((o ≠ 0 ∧ o % 64 = 6) ∧ wds st ≤ 8) ∧ 0 < d ∧ Sp fz (d - 1) 187 [(3, o), a1] h (fun x h => X fz d k Q is ls ((1, x) :: st) h)) := rfl
theorem x_call188 {fz : Int → Int → Option Int} {d k : Nat} {Q : Int → HV → Prop} {is : List Instr} {h : HV} {ls st : List AV} {o : Int} {a1 a2 a3 : AV}  : X fz d k Q (.invokeinterface 48188 4 :: is) ls (a3 :: a2 :: a1 :: (3, o) :: st) h = (((o ≠ 0 ∧ o % 64 = 6) ∧ wds st ≤ 8) ∧ 0 < d ∧ Sp fz (d - 1) 188 [(3, o), a1, a2, a3] h (fun x h => X fz d k Q is ls st h)) := rfl
theorem x_call189 {fz : Int → Int → Option Int} {d k : Nat} {Q : Int → HV → Prop} {is : List Instr} {h : HV} {ls st : List AV} {o : Int} {a1 : AV}  : X fz d k Q (.invokeinterface 48436 2 :: is) ls (a1 :: (3, o) :: st) h = (((o ≠ 0 ∧ o % 64 = 5) ∧ wds st ≤ 8) ∧ 0 < d ∧ Sp fz (d - 1) 189 [(3, o), a1] h (fun x h => X fz d k Q is ls st h)) := rfl
theorem x_call19 {fz : Int → Int → Option Int} {d k : Nat} {Q : Int → HV → Prop} {is : List Instr} {h : HV} {ls st : List AV} {o : Int}  : X fz d k Q (.invokeinterface 4940 1 :: is) ls ((3, o) :: st) h = (((o ≠ 0 ∧ o % 64 = 8) ∧ wds st ≤ 8) ∧ 0 < d ∧ Sp fz (d - 1) 19 [(3, o)] h (fun x h => X fz d k Q is ls st h)) := rfl
theorem x_call190 {fz : Int → Int → Option Int} {d k : Nat} {Q : Int → HV → Prop} {is : List Instr} {h : HV} {ls st : List AV} {o : Int} {a1 : AV}  : X fz d k Q (.invokeinterface 48688 2 :: is) ls (a1 :: (3, o) :: st) h = (((o ≠ 0 ∧ o % 64 = 5) ∧ wds st ≤ 8) ∧ 0 < d ∧ Sp fz (d - 1) 190 [(3, o), a1] h (fun x h => X fz d k Q is ls ((0, x) :: st) h)) := rfl
theorem x_call191 {fz : Int → Int → Option Int} {d k : Nat} {Q : Int → HV → Prop} {is : List Instr} {h : HV} {ls st : List AV} {o : Int} {a1 : AV}  : X fz d k Q (.invokeinterface 48944 2 :: is) ls (a1 :: (3, o) :: st) h = (((o ≠ 0 ∧ o % 64 = 5) ∧ wds st ≤ 8) ∧ 0 < d ∧ Sp fz (d - 1) 191 [(3, o), a1] h (fun x h => X fz d k Q is ls ((0, x) :: st) h)) := rfl
theorem x_call192 {fz : Int → Int → Option Int} {d k : Nat} {Q : Int → HV → Prop} {is : List Instr} {h : HV} {ls st : List AV} {o : Int} {a1 : AV}  : X fz d k Q (.invokeinterface 49204 2 :: is) ls (a1 :: (3, o) :: st) h = (((o ≠ 0 ∧ o % 64 = 5) ∧ wds st ≤ 8) ∧ 0 < d ∧ Sp fz (d - 1) 192 [(3, o), a1] h (fun x h => X fz d k Q is ls st h)) := rfl
theorem x_call193 {fz : Int → Int → Option Int} {d k : Nat} {Q : Int → HV → Prop} {is : List Instr} {h : HV} {ls st : List AV} {a0 : AV}  : X fz d k Q (.invokeinterface 49408 1 :: is) ls (a0 :: st) h = ((True ∧ wds st ≤ 8) ∧ 0 < d ∧ Sp fz (d - 1) 193 [a0] h (fun x h => X fz d k Q is ls ((0, x) :: st) h)) := rfl
theorem x_call194 {fz : Int → Int → Option Int} {d k : Nat} {Q : Int → HV → Prop} {is : List Instr} {h : HV} {ls st : List AV} {o : Int} {a1 : AV}  : X fz d k Q (.invokeinterface 49712 2 :: is) ls (a1 :: (3, o) :: st) h = (((o ≠ 0 ∧ o % 64 = 5) ∧ wds st ≤ 8) ∧ 0 < d ∧ Sp fz (d - 1) 194 [(3, o), a1] h (fun x h => X fz d k Q is ls ((0, x) :: st) h)) := rfl
theorem x_call195 {fz : Int → Int → Option Int} {d k : Nat} {Q : Int → HV → Prop} {is : List Instr} {h : HV} {ls st : List AV} {o : Int} {a1 a2 : AV}  : X fz d k Q (.invokeinterface 49968 3 :: is) ls (a2 :: a1 :: (3, o) :: st) h = (((o ≠ 0 ∧ o % 64 = 5) ∧ wds st ≤ 8) ∧ 0 < d ∧ Sp fz (d - 1) 195 [(3, o), a1, a2] h (fun x h => X fz d k Q is ls ((0, x) :: st) h)) := rfl
theorem x_call196 {fz : Int → Int → Option Int} {d k : Nat} {Q : Int → HV → Prop} {is : List Instr} {h : HV} {ls st : List AV} {o : Int} {a1 : AV}  : X fz d k Q (.invokeinterface 50224 2 :: is) ls (a1 :: (3, o) :: st) h = (((o ≠ 0 ∧ o % 64 = 5) ∧ wds st ≤ 8) ∧ 0 < d ∧ Sp fz (d - 1) 196 [(3, o), a1] h (fun x h => X fz d k Q is ls ((0, x) :: st) h)) := rfl
theorem x_call197 {fz : Int → Int → Option Int} {d k : Nat} {Q : Int → HV → Prop} {is : List Instr} {h : HV} {ls st : List AV} {o : Int} {a1 : AV}  : X fz d k Q (.invokeinterface 50472 2 :: is) ls (a1 :: (3, o) :: st) h = (((o ≠ 0 ∧ o % 64 = 4) ∧ wds st ≤ 8) ∧ 0 < d ∧ Sp fz (d - 1) 197 [(3, o), a1] h (fun x h => X fz d k Q is ls ((0, x) :: st) h)) := rfl
theorem x_call198 {fz : Int → Int → Option Int} {d k : Nat} {Q : Int → HV → Prop} {is : List Instr} {h : HV} {ls st : List AV} {o : Int} {a1 : AV}  : X fz d k Q (.invokeinterface 50737 2 :: is) ls (a1 :: (3, o) :: st) h = (((o ≠ 0 ∧ o % 64 = 5) ∧ wds st ≤ 8) ∧ 0 < d ∧ Sp fz (d - 1) 198 [(3, o), a1] h (fun x h => X fz d k Q is ls ((1, x) :: st) h)) := rfl
theorem x_call199 {fz : Int → Int → Option Int} {d k : Nat} {Q : Int → HV → Prop} {is : List Instr} {h : HV} {ls st : List AV} {o : Int} {a1 : AV}  : X fz d k Q (.invokeinterface 50996 2 :: is) ls (a1 :: (3, o) :: st) h = (((o ≠ 0 ∧ o % 64 = 5) ∧ wds st ≤ 8) ∧ 0 < d ∧ Sp fz (d - 1) 199 [(3, o), a1] h (fun x h => X fz d k Q is ls st h)) := rfl
theorem x_call2 {fz : Int → Int → Option Int} {d k : Nat} {Q : Int → HV → Prop} {is : List Instr} {h : HV} {ls st : List AV} {o : Int}  : X fz d k Q (.invokeinterface 532 1 :: is) ls ((3, o) :: st) h = (((o ≠ 0 ∧ o % 64 = 1) ∧ wds st ≤ 8) ∧ 0 < d ∧ Sp fz (d - 1) 2 [(3, o)] h (fun x h => X fz d k Q is ls st h)) := rfl
theorem x_call20 {fz : Int → Int → Option Int} {d k : Nat} {Q : Int → HV → Prop} {is : List Instr} {h : HV} {ls st : List AV} {o : Int} {a1 : AV}  : X fz d k Q (.invokeinterface 5204 2 :: is) ls (a1 :: (3, o) :: st) h = (((o ≠ 0 ∧ o % 64 = 9) ∧ wds st ≤ 8) ∧ 0 < d ∧ Sp fz (d - 1) 20 [(3, o), a1] h (fun x h => X fz d k Q is ls st h)) := rfl
theorem x_call200 {fz : Int → Int → Option Int} {d k : Nat} {Q : Int → HV → Prop} {is : List Instr} {h : HV} {ls st : List AV} {o : Int}  : X fz d k Q (.invokeinterface 51248 1 :: is) ls ((3, o) :: st) h = (((o ≠ 0 ∧ o % 64 = 5) ∧ wds st ≤ 8) ∧ 0 < d ∧ Sp fz (d - 1) 200 [(3, o)] h (fun x h => X fz d k Q is ls ((0, x) :: st) h)) := rfl
theorem x_call201 {fz : Int → Int → Option Int} {d k : Nat} {Q : Int → HV → Prop} {is : List Instr} {h : HV} {ls st : List AV} {o : Int}  : X fz d k Q (.invokeinterface 51504 1 :: is) ls ((3, o) :: st) h = (((o ≠ 0 ∧ o % 64 = 5) ∧ wds st ≤ 8) ∧ 0 < d ∧ Sp fz (d - 1) 201 [(3, o)] h (fun x h => X fz d k Q is ls ((0, x) :: st) h)) := rfl
theorem x_call202 {fz : Int → Int → Option Int} {d k : Nat} {Q : Int → HV → Prop} {is : List Instr} {h : HV} {ls st : List AV} {o : Int} {a1 a2 a3 : AV}  : X fz d k Q (.invokeinterface 51764 4 :: is) ls (a3 :: a2 :: a1 :: (3, o) :: st) h = (((o ≠ 0 ∧ o % 64 = 5) ∧ wds st ≤ 8) ∧ 0 < d ∧ Sp fz (d - 1) 202 [(3, o), a1, a2, a3] h (fun x h => X fz d k Q is ls st h)) := rfl
theorem x_call203 {fz : Int → Int → Option Int} {d k : Nat} {Q : Int → HV → Prop} {is : List Instr} {h : HV} {ls st : List AV} {o : Int} {a1 a2 : AV}  : X fz d k Q (.invokeinterface 52020 3 :: is) ls (a2 :: a1 :: (3, o) :: st) h = (((o ≠ 0 ∧ o % 64 = 5) ∧ wds st ≤ 8) ∧ 0 < d ∧ Sp fz (d - 1) 203 [(3, o), a1, a2] h (fun x h => X fz d k Q is ls st h)) := rfl
theorem x_call204 {fz : Int → Int → Option Int} {d k : Nat} {Q : Int → HV → Prop} {is : List Instr} {h : HV} {ls st : List AV} {o : Int} {a1 a2 a3 : AV}  : X fz d k Q (.invokeinterface 52284 4 :: is) ls (a3 :: a2 :: a1 :: (3, o) :: st) h = (((o ≠ 0 ∧ o % 64 = 6) ∧ wds st ≤ 8) ∧ 0 < d ∧ Sp fz (d - 1) 204 [(3, o), a1, a2, a3] h (fun x h => X fz d k Q is ls st h)) := rfl
theorem x_call205 {fz : Int → Int → Option Int} {d k : Nat} {Q : Int → HV → Prop} {is : List Instr} {h : HV} {ls st : List AV} {a0 a1 : AV}  : X fz d k Q (.invokeinterface 52481 2 :: is) ls (a1 :: a0 :: st) h = ((True ∧ wds st ≤ 8) ∧ 0 < d ∧ Sp fz (d - 1) 205 [a0, a1] h (fun x h => X fz d k Q is ls ((1, x) :: st) h)) := rfl
theorem x_call206 {fz : Int → Int → Option Int} {d k : Nat} {Q : Int → HV → Prop} {is : List Instr} {h : HV} {ls st : List AV} {a0 a1 : AV}  : X fz d k Q (.invokeinterface 52737 2 :: is) ls (a1 :: a0 :: st) h = ((True ∧ wds st ≤ 8) ∧ 0 < d ∧ Sp fz (d - 1) 206 [a0, a1] h (fun x h => X fz d k Q is ls ((1, x) :: st) h)) := rfl
theorem x_call207 {fz : Int → Int → Option Int} {d k : Nat} {Q : Int → HV → Prop} {is : List Instr} {h : HV} {ls st : List AV} {a0 : AV}  : X fz d k Q (.invokeinterface 52993 1 :: is) ls (a0 :: st) h = ((True ∧ wds st ≤ 8) ∧ 0 < d ∧ Sp fz (d - 1) 207 [a0] h (fun x h => X fz d k Q is ls ((1, x) :: st) h)) := rfl
theorem x_call208 {fz : Int → Int → Option Int} {d k : Nat} {Q : Int → HV → Prop} {is : List Instr} {h : HV} {ls st : List AV} {a0 a1 : AV}  : X fz d k Q (.invokeinterface 53249 2 :: is) ls (a1 :: a0 :: st) h = ((True ∧ wds st ≤ 8) ∧ 0 < d ∧ Sp fz (d - 1) 208 [a0, a1] h (fun x h => X fz d k Q is ls ((1, x) :: st) h)) := rfl
theorem x_call209 {fz : Int → Int → Option Int} {d k : Nat} {Q : Int → HV → Prop} {is : List Instr} {h : HV} {ls st : List AV} {a0 a1 : AV}  : X fz d k Q (.invokeinterface 53505 2 :: is) ls (a1 :: a0 :: st) h = ((True ∧ wds st ≤ 8) ∧ 0 < d ∧ Sp fz (d - 1) 209 [a0, a1] h (fun x h => X fz d k Q is ls ((1, x) :: st) h)) := rfl
theorem x_call21 {fz : Int → Int → Option Int} {d k : Nat} {Q : Int → HV → Prop} {is : List Instr} {h : HV} {ls st : List AV} {o : Int} {a1 a2 : AV}  : X fz d k Q (.invokeinterface 5384 3 :: is) ls (a2 :: a1 :: (3, o) :: st) h = (((o ≠ 0 ∧ o % 64 = 0) ∧ wds st ≤ 8) ∧ 0 < d ∧ Sp fz (d - 1) 21 [(3, o), a1, a2] h (fun x h => X fz d k Q is ls ((0, x) :: st) h)) := rfl
theorem x_call210 {fz : Int → Int → Option Int} {d k : Nat} {Q : Int → HV → Prop} {is : List Instr} {h : HV} {ls st : List AV} {o : Int} {a1 : AV}  : X fz d k Q (.invokeinterface 53812 2 :: is) ls (a1 :: (3, o) :: st) h = (((o ≠ 0 ∧ o % 64 = 5) ∧ wds st ≤ 8) ∧ 0 < d ∧ Sp fz (d - 1) 210 [(3, o), a1] h (fun x h => X fz d k Q is ls st h)) := rfl
theorem x_call211 {fz : Int → Int → Option Int} {d k : Nat} {Q : Int → HV → Prop} {is : List Instr} {h : HV} {ls st : List AV} {a0 a1 : AV}  : X fz d k Q (.invokeinterface 54016 2 :: is) ls (a1 :: a0 :: st) h = ((True ∧ wds st ≤ 8) ∧ 0 < d ∧ Sp fz (d - 1) 211 [a0, a1] h (fun x h => X fz d k Q is ls ((0, x) :: st) h)) := rfl
theorem x_call212 {fz : Int → Int → Option Int} {d k : Nat} {Q : Int → HV → Prop} {is : List Instr} {h : HV} {ls st : List AV} {a0 : AV}  : X fz d k Q (.invokeinterface 54273 1 :: is) ls (a0 :: st) h = ((True ∧ wds st ≤ 8) ∧ 0 < d ∧ Sp fz (d - 1) 212 [a0] h (fun x h => X fz d k Q is ls ((1, x) :: st) h)) := rfl
theorem x_call213 {fz : Int → Int → Option Int} {d k : Nat} {Q : Int → HV → Prop} {is : List Instr} {h : HV} {ls st : List AV} {a0 a1 : AV}  : X fz d k Q (.invokeinterface 54528 2 :: is) ls (a1 :: a0 :: st) h = ((True ∧ wds st ≤ 8) ∧ 0 < d ∧ Sp fz (d - 1) 213 [a0, a1] h (fun x h => X fz d k Q is ls ((0, x) :: st) h)) := rfl
theorem x_call214 {fz : Int → Int → Option Int} {d k : Nat} {Q : Int → HV → Prop} {is : List Instr} {h : HV} {ls st : List AV} {o : Int}  : X fz d k Q (.invokeinterface 54836 1 :: is) ls ((3, o) :: st) h = (((o ≠ 0 ∧ o % 64 = 5) ∧ wds st ≤ 8) ∧ 0 < d ∧ Sp fz (d - 1) 214 [(3, o)] h (fun x h => X fz d k Q is ls st h)) := rfl
theorem x_call215 {fz : Int → Int → Option Int} {d k : Nat} {Q : Int → HV → Prop} {is : List Instr} {h : HV} {ls st : List AV} {o : Int}  : X fz d k Q (.invokeinterface 55092 1 :: is) ls ((3, o) :: st) h = (((o ≠ 0 ∧ o % 64 = 5) ∧ wds st ≤ 8) ∧ 0 < d ∧ Sp fz (d - 1) 215 [(3, o)] h (fun x h => X fz d k Q is ls st h)) := rfl
theorem x_call216 {fz : Int → Int → Option Int} {d k : Nat} {Q : Int → HV → Prop} {is : List Instr} {h : HV} {ls st : List AV} {o : Int} {a1 : AV}  : X fz d k Q (.invokeinterface 55348 2 :: is) ls (a1 :: (3, o) :: st) h = (((o ≠ 0 ∧ o % 64 = 5) ∧ wds st ≤ 8) ∧ 0 < d ∧ Sp fz (d - 1) 216 [(3, o), a1] h (fun x h => X fz d k Q is ls st h)) := rfl
theorem x_call217 {fz : Int → Int → Option Int} {d k : Nat} {Q : Int → HV → Prop} {is : List Instr} {h : HV} {ls st : List AV} {o : Int}  : X fz d k Q (.invokeinterface 55604 1 :: is) ls ((3, o) :: st) h = (((o ≠ 0 ∧ o % 64 = 5) ∧ wds st ≤ 8) ∧ 0 < d ∧ Sp fz (d - 1) 217 [(3, o)] h (fun x h => X fz d k Q is ls st h)) := rfl
theorem x_call218 {fz : Int → Int → Option Int} {d k : Nat} {Q : Int → HV → Prop} {is : List Instr} {h : HV} {ls st : List AV} {o : Int} {a1 a2 : AV}  : X fz d k Q (.invokeinterface 55860 3 :: is) ls (a2 :: a1 :: (3, o) :: st) h = (((o ≠ 0 ∧ o % 64 = 5) ∧ wds st ≤ 8) ∧ 0 < d ∧ Sp fz (d - 1) 218 [(3, o), a1, a2] h (fun x h => X fz d k Q is ls st h)) := rfl
theorem x_call219 {fz : Int → Int → Option Int} {d k : Nat} {Q : Int → HV → Prop} {is : List Instr} {h : HV} {ls st : List AV} {o : Int} {a1 a2 a3 : AV}  : X fz d k Q (.invokeinterface 56116 4 :: is) ls (a3 :: a2 :: a1 :: (3, o) :: st) h = (((o ≠ 0 ∧ o % 64 = 5) ∧ wds st ≤ 8) ∧ 0 < d ∧ Sp fz (d - 1) 219 [(3, o), a1, a2, a3] h (fun x h => X fz d k Q is ls st h)) := rfl
theorem x_call22 {fz : Int → Int → Option Int} {d k : Nat} {Q : Int → HV → Prop} {is : List Instr} {h : HV} {ls st : List AV} {o : Int} {a1 a2 : AV}  : X fz d k Q (.invokeinterface 5648 3 :: is) ls (a2 :: a1 :: (3, o) :: st) h = (((o ≠ 0 ∧ o % 64 = 1) ∧ wds st ≤ 8) ∧ 0 < d ∧ Sp fz (d - 1) 22 [(3, o), a1, a2] h (fun x h => X fz d k Q is ls ((0, x) :: st) h)) := rfl
theorem x_call220 {fz : Int → Int → Option Int} {d k : Nat} {Q : Int → HV → Prop} {is : List Instr} {h : HV} {ls st : List AV} {o : Int} {a1 : AV}  : X fz d k Q (.invokeinterface 56372 2 :: is) ls (a1 :: (3, o) :: st) h = (((o ≠ 0 ∧ o % 64 = 5) ∧ wds st ≤ 8) ∧ 0 < d ∧ Sp fz (d - 1) 220 [(3, o), a1] h (fun x h => X fz d k Q is ls st h)) := rfl
theorem x_call221 {fz : Int → Int → Option Int} {d k : Nat} {Q : Int → HV → Prop} {is : List Instr} {h : HV} {ls st : List AV} {o : Int}  : X fz d k Q (.invokeinterface 56628 1 :: is) ls ((3, o) :: st) h = (((o ≠ 0 ∧ o % 64 = 5) ∧ wds st ≤ 8) ∧ 0 < d ∧ Sp fz (d - 1) 221 [(3, o)] h (fun x h => X fz d k Q is ls st h)) := rfl
theorem x_call222 {fz : Int → Int → Option Int} {d k : Nat} {Q : Int → HV → Prop} {is : List Instr} {h : HV} {ls st : List AV} {o : Int}  : X fz d k Q (.invokeinterface 56884 1 :: is) ls ((3, o) :: st) h = (((o ≠ 0 ∧ o % 64 = 5) ∧ wds st ≤ 8) ∧ 0 < d ∧ Sp fz (d - 1) 222 [(3, o)] h (fun x h => X fz d k Q is ls st h)) := rfl
theorem x_call223 {fz : Int → Int → Option Int} {d k : Nat} {Q : Int → HV → Prop} {is : List Instr} {h : HV} {ls st : List AV} {o : Int}  : X fz d k Q (.invokeinterface 57140 1 :: is) ls ((3, o) :: st) h = (((o ≠ 0 ∧ o % 64 = 5) ∧ wds st ≤ 8) ∧ 0 < d ∧ Sp fz (d - 1) 223 [(3, o)] h (fun x h => X fz d k Q is ls st h)) := rfl
theorem x_call224 {fz : Int → Int → Option Int} {d k : Nat} {Q : Int → HV → Prop} {is : List Instr} {h : HV} {ls st : List AV} {o : Int}  : X fz d k Q (.invokeinterface 57392 1 :: is) ls ((3, o) :: st) h = (((o ≠ 0 ∧ o % 64 = 5) ∧ wds st ≤ 8) ∧ 0 < d ∧ Sp fz (d - 1) 224 [(3, o)] h (fun x h => X fz d k Q is ls ((0, x) :: st) h)) := rfl
theorem x_call225 {fz : Int → Int → Option Int} {d k : Nat} {Q : Int → HV → Prop} {is : List Instr} {h : HV} {ls st : List AV} {o : Int} {a1 : AV}  : X fz d k Q (.invokeinterface 57652 2 :: is) ls (a1 :: (3, o) :: st) h = (((o ≠ 0 ∧ o % 64 = 5) ∧ wds st ≤ 8) ∧ 0 < d ∧ Sp fz (d - 1) 225 [(3, o), a1] h (fun x h => X fz d k Q is ls st h)) := rfl
theorem x_call226 {fz : Int → Int → Option Int} {d k : Nat} {Q : Int → HV → Prop} {is : List Instr} {h : HV} {ls st : List AV} {o : Int}  : X fz d k Q (.invokeinterface 57908 1 :: is) ls ((3, o) :: st) h = (((o ≠ 0 ∧ o % 64 = 5) ∧ wds st ≤ 8) ∧ 0 < d ∧ Sp fz (d - 1) 226 [(3, o)] h (fun x h => X fz d k Q is ls st h)) := rfl
theorem x_call227 {fz : Int → Int → Option Int} {d k : Nat} {Q : Int → HV → Prop} {is : List Instr} {h : HV} {ls st : List AV} {o : Int}  : X fz d k Q (.invokeinterface 58164 1 :: is) ls ((3, o) :: st) h = (((o ≠ 0 ∧ o % 64 = 5) ∧ wds st ≤ 8) ∧ 0 < d ∧ Sp fz (d - 1) 227 [(3, o)] h (fun x h => X fz d k Q is ls st h)) := rfl
theorem x_call228 {fz : Int → Int → Option Int} {d k : Nat} {Q : Int → HV → Prop} {is : List Instr} {h : HV} {ls st : List AV} {o : Int}  : X fz d k Q (.invokeinterface 58420 1 :: is) ls ((3, o) :: st) h = (((o ≠ 0 ∧ o % 64 = 5) ∧ wds st ≤ 8) ∧ 0 < d ∧ Sp fz (d - 1) 228 [(3, o)] h (fun x h => X fz d k Q is ls st h)) := rfl
theorem x_call229 {fz : Int → Int → Option Int} {d k : Nat} {Q : Int → HV → Prop} {is : List Instr} {h : HV} {ls st : List AV} {o : Int}  : X fz d k Q (.invokeinterface 58676 1 :: is) ls ((3, o) :: st) h = (((o ≠ 0 ∧ o % 64 = 5) ∧ wds st ≤ 8) ∧ 0 < d ∧ Sp fz (d - 1) 229 [(3, o)] h (fun x h => X fz d k Q is ls st h)) := rfl
theorem x_call23 {fz : Int → Int → Option Int} {d k : Nat} {Q : Int → HV → Prop} {is : List Instr} {h : HV} {ls st : List AV} {o : Int}  : X fz d k Q (.invokeinterface 5904 1 :: is) ls ((3, o) :: st) h = (((o ≠ 0 ∧ o % 64 = 1) ∧ wds st ≤ 8) ∧ 0 < d ∧ Sp fz (d - 1) 23 [(3, o)] h (fun x h => X fz d k Q is ls ((0, x) :: st) h)) := rfl
theorem x_call230 {fz : Int → Int → Option Int} {d k : Nat} {Q : Int → HV → Prop} {is : List Instr} {h : HV} {ls st : List AV} {a0 : AV}  : X fz d k Q (.invokeinterface 58880 1 :: is) ls (a0 :: st) h = ((True ∧ wds st ≤ 8) ∧ 0 < d ∧ Sp fz (d - 1) 230 [a0] h (fun x h => X fz d k Q is ls ((0, x) :: st) h)) := rfl
theorem x_call231 {fz : Int → Int → Option Int} {d k : Nat} {Q : Int → HV → Prop} {is : List Instr} {h : HV} {ls st : List AV} {a0 a1 : AV}  : X fz d k Q (.invokeinterface 59137 2 :: is) ls (a1 :: a0 :: st) h = ((True ∧ wds st ≤ 8) ∧ 0 < d ∧ Sp fz (d - 1) 231 [a0, a1] h (fun x h => X fz d k Q is ls ((1, x) :: st) h)) := rfl
theorem x_call232 {fz : Int → Int → Option Int} {d k : Nat} {Q : Int → HV → Prop} {is : List Instr} {h : HV} {ls st : List AV} {o : Int}  : X fz d k Q (.invokeinterface 59444 1 :: is) ls ((3, o) :: st) h = (((o ≠ 0 ∧ o % 64 = 5) ∧ wds st ≤ 8) ∧ 0 < d ∧ Sp fz (d - 1) 232 [(3, o)] h (fun x h => X fz d k Q is ls st h)) := rfl
theorem x_call233 {fz : Int → Int → Option Int} {d k : Nat} {Q : Int → HV → Prop} {is : List Instr} {h : HV} {ls st : List AV} {o : Int}  : X fz d k Q (.invokeinterface 59700 1 :: is) ls ((3, o) :: st) h = (((o ≠ 0 ∧ o % 64 = 5) ∧ wds st ≤ 8) ∧ 0 < d ∧ Sp fz (d - 1) 233 [(3, o)] h (fun x h => X fz d k Q is ls st h)) := rfl
theorem x_call234 {fz : Int → Int → Option Int} {d k : Nat} {Q : Int → HV → Prop} {is : List Instr} {h : HV} {ls st : List AV} {o : Int}  : X fz d k Q (.invokeinterface 59956 1 :: is) ls ((3, o) :: st) h = (((o ≠ 0 ∧ o % 64 = 5) ∧ wds st ≤ 8) ∧ 0 < d ∧ Sp fz (d - 1) 234 [(3, o)] h (fun x h => X fz d k Q is ls st h)) := rfl
theorem x_call235 {fz : Int → Int → Option Int} {d k : Nat} {Q : Int → HV → Prop} {is : List Instr} {h : HV} {ls st : List AV} {o : Int}  : X fz d k Q (.invokeinterface 60212 1 :: is) ls ((3, o) :: st) h = (((o ≠ 0 ∧ o % 64 = 5) ∧ wds st ≤ 8) ∧ 0 < d ∧ Sp fz (d - 1) 235 [(3, o)] h (fun x h => X fz d k Q is ls st h)) := rfl
theorem x_call236 {fz : Int → Int → Option Int} {d k : Nat} {Q : Int → HV → Prop} {is : List Instr} {h : HV} {ls st : List AV} {o : Int}  : X fz d k Q (.invokeinterface 60468 1 :: is) ls ((3, o) :: st) h = (((o ≠ 0 ∧ o % 64 = 5) ∧ wds st ≤ 8) ∧ 0 < d ∧ Sp fz (d - 1) 236 [(3, o)] h (fun x h => X fz d k Q is ls st h)) := rfl
theorem x_call237 {fz : Int → Int → Option Int} {d k : Nat} {Q : Int → HV → Prop} {is : List Instr} {h : HV} {ls st : List AV} {o : Int} {a1 a2 : AV}  : X fz d k Q (.invokeinterface 60720 3 :: is) ls (a2 :: a1 :: (3, o) :: st) h = (((o ≠ 0 ∧ o % 64 = 5) ∧ wds st ≤ 8) ∧ 0 < d ∧ Sp fz (d - 1) 237 [(3, o), a1, a2] h (fun x h => X fz d k Q is ls ((0, x) :: st) h)) := rfl
theorem x_call238 {fz : Int → Int → Option Int} {d k : Nat} {Q : Int → HV → Prop} {is : List Instr} {h : HV} {ls st : List AV} {o : Int}  : X fz d k Q (.invokeinterface 60977 1 :: is) ls ((3, o) :: st) h = (((o ≠ 0 ∧ o % 64 = 5) ∧ wds st ≤ 8) ∧ 0 < d ∧ Sp fz (d - 1) 238 [(3, o)] h (fun x h => X fz d k Q is ls ((1, x) :: st) h)) := rfl
theorem x_call239 {fz : Int → Int → Option Int} {d k : Nat} {Q : Int → HV → Prop} {is : List Instr} {h : HV} {ls st : List AV} {o : Int}  : X fz d k Q (.invokeinterface 61232 1 :: is) ls ((3, o) :: st) h = (((o ≠ 0 ∧ o % 64 = 5) ∧ wds st ≤ 8) ∧ 0 < d ∧ Sp fz (d - 1) 239 [(3, o)] h (fun x h => X fz d k Q is ls ((0, x) :: st) h)) := rfl
theorem x_call24 {fz : Int → Int → Option Int} {d k : Nat} {Q : Int → HV → Prop} {is : List Instr} {h : HV} {ls st : List AV} {o : Int}  : X fz d k Q (.invokeinterface 6152 1 :: is) ls ((3, o) :: st) h = (((o ≠ 0 ∧ o % 64 = 0) ∧ wds st ≤ 8) ∧ 0 < d ∧ Sp fz (d - 1) 24 [(3, o)] h (fun x h => X fz d k Q is ls ((0, x) :: st) h)) := rfl
theorem x_call240 {fz : Int → Int → Option Int} {d k : Nat} {Q : Int → HV → Prop} {is : List Instr} {h : HV} {ls st : List AV} {o : Int} {a1 : AV}  : X fz d k Q (.invokeinterface 61449 2 :: is) ls (a1 :: (3, o) :: st) h = (((o ≠ 0 ∧ o % 64 = 0) ∧ wds st ≤ 8) ∧ 0 < d ∧ Sp fz (d - 1) 240 [(3, o), a1] h (fun x h => X fz d k Q is ls ((1, x) :: st) h)) := rfl
theorem x_call241 {fz : Int → Int → Option Int} {d k : Nat} {Q : Int → HV → Prop} {is : List Instr} {h : HV} {ls st : List AV} {o : Int}  : X fz d k Q (.invokeinterface 61704 1 :: is) ls ((3, o) :: st) h = (((o ≠ 0 ∧ o % 64 = 0) ∧ wds st ≤ 8) ∧ 0 < d ∧ Sp fz (d - 1) 241 [(3, o)] h (fun x h => X fz d k Q is ls ((0, x) :: st) h)) := rfl
theorem x_call242 {fz : Int → Int → Option Int} {d k : Nat} {Q : Int → HV → Prop} {is : List Instr} {h : HV} {ls st : List AV} {o : Int} {a1 a2 : AV}  : X fz d k Q (.invokeinterface 61960 3 :: is) ls (a2 :: a1 :: (3, o) :: st) h = (((o ≠ 0 ∧ o % 64 = 0) ∧ wds st ≤ 8) ∧ 0 < d ∧ Sp fz (d - 1) 242 [(3, o), a1, a2] h (fun x h => X fz d k Q is ls ((0, x) :: st) h)) := rfl
theorem x_call243 {fz : Int → Int → Option Int} {d k : Nat} {Q : Int → HV → Prop} {is : List Instr} {h : HV} {ls st : List AV} {o : Int} {a1 a2 : AV}  : X fz d k Q (.invokeinterface 62220 3 :: is) ls (a2 :: a1 :: (3, o) :: st) h = (((o ≠ 0 ∧ o % 64 = 0) ∧ wds st ≤ 8) ∧ 0 < d ∧ Sp fz (d - 1) 243 [(3, o), a1, a2] h (fun x h => X fz d k Q is ls st h)) := rfl
theorem x_call244 {fz : Int → Int → Option Int} {d k : Nat} {Q : Int → HV → Prop} {is : List Instr} {h : HV} {ls st : List AV} {o : Int} {a1 a2 a3 : AV}  : X fz d k Q (.invokeinterface 62472 4 :: is) ls (a3 :: a2 :: a1 :: (3, o) :: st) h = (((o ≠ 0 ∧ o % 64 = 0) ∧ wds st ≤ 8) ∧ 0 < d ∧ Sp fz (d - 1) 244 [(3, o), a1, a2, a3] h (fun x h => X fz d k Q is ls ((0, x) :: st) h)) := rfl
theorem x_call245 {fz : Int → Int → Option Int} {d k : Nat} {Q : Int → HV → Prop} {is : List Instr} {h : HV} {ls st : List AV} {o : Int} {a1 : AV}  : X fz d k Q (.invokeinterface 62728 2 :: is) ls (a1 :: (3, o) :: st) h = (((o ≠ 0 ∧ o % 64 = 0) ∧ wds st ≤ 8) ∧ 0 < d ∧ Sp fz (d - 1) 245 [(3, o), a1] h (fun x h => X fz d k Q is ls ((0, x) :: st) h)) := rfl
theorem x_call246 {fz : Int → Int → Option Int} {d k : Nat} {Q : Int → HV → Prop} {is : List Instr} {h : HV} {ls st : List AV} {o : Int} {a1 : AV}  : X fz d k Q (.invokeinterface 62984 2 :: is) ls (a1 :: (3, o) :: st) h = (((o ≠ 0 ∧ o % 64 = 0) ∧ wds st ≤ 8) ∧ 0 < d ∧ Sp fz (d - 1) 246 [(3, o), a1] h (fun x h => X fz d k Q is ls ((0, x) :: st) h)) := rfl
theorem x_call247 {fz : Int → Int → Option Int} {d k : Nat} {Q : Int → HV → Prop} {is : List Instr} {h : HV} {ls st : List AV} {o : Int}  : X fz d k Q (.invokeinterface 63296 1 :: is) ls ((3, o) :: st) h = (((o ≠ 0 ∧ o % 64 = 7) ∧ wds st ≤ 8) ∧ 0 < d ∧ Sp fz (d - 1) 247 [(3, o)] h (fun x h => X fz d k Q is ls ((0, x) :: st) h)) := rfl
theorem x_call248 {fz : Int → Int → Option Int} {d k : Nat} {Q : Int → HV → Prop} {is : List Instr} {h : HV} {ls st : List AV} {o : Int} {a1 : AV}  : X fz d k Q (.invokeinterface 63556 2 :: is) ls (a1 :: (3, o) :: st) h = (((o ≠ 0 ∧ o % 64 = 7) ∧ wds st ≤ 8) ∧ 0 < d ∧ Sp fz (d - 1) 248 [(3, o), a1] h (fun x h => X fz d k Q is ls st h)) := rfl
theorem x_call249 {fz : Int → Int → Option Int} {d k : Nat} {Q : Int → HV → Prop} {is : List Instr} {h : HV} {ls st : List AV} {o : Int} {a1 a2 a3 : AV}  : X fz d k Q (.invokeinterface 63752 4 :: is) ls (a3 :: a2 :: a1 :: (3, o) :: st) h = (((o ≠ 0 ∧ o % 64 = 0) ∧ wds st ≤ 8) ∧ 0 < d ∧ Sp fz (d - 1) 249 [(3, o), a1, a2, a3] h (fun x h => X fz d k Q is ls ((0, x) :: st) h)) := rfl
theorem x_call25 {fz : Int → Int → Option Int} {d k : Nat} {Q : Int → HV → Prop} {is : List Instr} {h : HV} {ls st : List AV} {o : Int} {a1 : AV}  : X fz d k Q (.invokeinterface 6424 2 :: is) ls (a1 :: (3, o) :: st) h = (((o ≠ 0 ∧ o % 64 = 2) ∧ wds st ≤ 8) ∧ 0 < d ∧ Sp fz (d - 1) 25 [(3, o), a1] h (fun x h => X fz d k Q is ls ((0, x) :: st) h)) := rfl
theorem x_call250 {fz : Int → Int → Option Int} {d k : Nat} {Q : Int → HV → Prop} {is : List Instr} {h : HV} {ls st : List AV} {o : Int} {a1 a2 a3 : AV}  : X fz d k Q (.invokeinterface 64008 4 :: is) ls (a3 :: a2 :: a1 :: (3, o) :: st) h = (((o ≠ 0 ∧ o % 64 = 0) ∧ wds st ≤ 8) ∧ 0 < d ∧ Sp fz (d - 1) 250 [(3, o), a1, a2, a3] h (fun x h => X fz d k Q is ls ((0, x) :: st) h)) := rfl
theorem x_call251 {fz : Int → Int → Option Int} {d k : Nat} {Q : Int → HV → Prop} {is : List Instr} {h : HV} {ls st : List AV} {o : Int} {a1 : AV}  : X fz d k Q (.invokeinterface 64320 2 :: is) ls (a1 :: (3, o) :: st) h = (((o ≠ 0 ∧ o % 64 = 7) ∧ wds st ≤ 8) ∧ 0 < d ∧ Sp fz (d - 1) 251 [(3, o), a1] h (fun x h => X fz d k Q is ls ((0, x) :: st) h)) := rfl
theorem x_call252 {fz : Int → Int → Option Int} {d k : Nat} {Q : Int → HV → Prop} {is : List Instr} {h : HV} {ls st : List AV} {o : Int}  : X fz d k Q (.invokeinterface 64576 1 :: is) ls ((3, o) :: st) h = (((o ≠ 0 ∧ o % 64 = 7) ∧ wds st ≤ 8) ∧ 0 < d ∧ Sp fz (d - 1) 252 [(3, o)] h (fun x h => X fz d k Q is ls ((0, x) :: st) h)) := rfl
theorem x_call253 {fz : Int → Int → Option Int} {d k : Nat} {Q : Int → HV → Prop} {is : List Instr} {h : HV} {ls st : List AV} {o : Int} {a1 a2 a3 : AV}  : X fz d k Q (.invokeinterface 64836 4 :: is) ls (a3 :: a2 :: a1 :: (3, o) :: st) h = (((o ≠ 0 ∧ o % 64 = 7) ∧ wds st ≤ 8) ∧ 0 < d ∧ Sp fz (d - 1) 253 [(3, o), a1, a2, a3] h (fun x h => X fz d k Q is ls st h)) := rfl
theorem x_call254 {fz : Int → Int → Option Int} {d k : Nat} {Q : Int → HV → Prop} {is : List Instr} {h : HV} {ls st : List AV} {o : Int} {a1 a2 a3 : AV}  : X fz d k Q (.invokeinterface 65032 4 :: is) ls (a3 :: a2 :: a1 :: (3, o) :: st) h = (((o ≠ 0 ∧ o % 64 = 0) ∧ wds st ≤ 8) ∧ 0 < d ∧ Sp fz (d - 1) 254 [(3, o), a1, a2, a3] h (fun x h => X fz d k Q is ls ((0, x) :: st) h)) := rfl
theorem x_call255 {fz : Int → Int → Option Int} {d k : Nat} {Q : Int → HV → Prop} {is : List Instr} {h : HV} {ls st : List AV} {o : Int} {a1 a2 a3 : AV}  : X fz d k Q (.invokeinterface 65344 4 :: is) ls (a3 :: a2 :: a1 :: (3, o) :: st) h = (((o ≠ 0 ∧ o % 64 = 7) ∧ wds st ≤ 8) ∧ 0 < d ∧ Sp fz (d - 1) 255 [(3, o), a1, a2, a3] h (fun x h => X fz d k Q is ls ((0, x) :: st) h)) := rfl
theorem x_call256 {fz : Int → Int → Option Int} {d k : Nat} {Q : Int → HV → Prop} {is : List Instr} {h : HV} {ls st : List AV} {o : Int} {a1 a2 : AV}  : X fz d k Q (.invokeinterface 65600 3 :: is) ls (a2 :: a1 :: (3, o) :: st) h = (((o ≠ 0 ∧ o % 64 = 7) ∧ wds st ≤ 8) ∧ 0 < d ∧ Sp fz (d - 1) 256 [(3, o), a1, a2] h (fun x h => X fz d k Q is ls ((0, x) :: st) h)) := rfl
theorem x_call257 {fz : Int → Int → Option Int} {d k : Nat} {Q : Int → HV → Prop} {is : List Instr} {h : HV} {ls st : List AV} {o : Int} {a1 : AV}  : X fz d k Q (.invokeinterface 65800 2 :: is) ls (a1 :: (3, o) :: st) h = (((o ≠ 0 ∧ o % 64 = 0) ∧ wds st ≤ 8) ∧ 0 < d ∧ Sp fz (d - 1) 257 [(3, o), a1] h (fun x h => X fz d k Q is ls ((0, x) :: st) h)) := rfl
theorem x_call258 {fz : Int → Int → Option Int} {d k : Nat} {Q : Int → HV → Prop} {is : List Instr} {h : HV} {ls st : List AV} {o : Int} {a1 : AV}  : X fz d k Q (.invokeinterface 66112 2 :: is) ls (a1 :: (3, o) :: st) h = (((o ≠ 0 ∧ o % 64 = 7) ∧ wds st ≤ 8) ∧ 0 < d ∧ Sp fz (d - 1) 258 [(3, o), a1] h (fun x h => X fz d k Q is ls ((0, x) :: st) h)) := rfl
theorem x_call259 {fz : Int → Int → Option Int} {d k : Nat} {Q : Int → HV → Prop} {is : List Instr} {h : HV} {ls st : List AV} {o : Int}  : X fz d k Q (.invokeinterface 66372 1 :: is) ls ((3, o) :: st) h = (((o ≠ 0 ∧ o % 64 = 7) ∧ wds st ≤ 8) ∧ 0 < d ∧ Sp fz (d - 1) 259 [(3, o)] h (fun x h => X fz d k Q is ls st h)) := rfl
theorem x_call26 {fz : Int → Int → Option Int} {d k : Nat} {Q : Int → HV → Prop} {is : List Instr} {h : HV} {ls st : List AV} {o : Int}  : X fz d k Q (.invokeinterface 6748 1 :: is) ls ((3, o) :: st) h = (((o ≠ 0 ∧ o % 64 = 10) ∧ wds st ≤ 8) ∧ 0 < d ∧ Sp fz (d - 1) 26 [(3, o)] h (fun x h => X fz d k Q is ls st h)) := rfl
theorem x_call260 {fz : Int → Int → Option Int} {d k : Nat} {Q : Int → HV → Prop} {is : List Instr} {h : HV} {ls st : List AV} {o : Int} {a1 : AV}  : X fz d k Q (.invokeinterface 66624 2 :: is) ls (a1 :: (3, o) :: st) h = (((o ≠ 0 ∧ o % 64 = 7) ∧ wds st ≤ 8) ∧ 0 < d ∧ Sp fz (d - 1) 260 [(3, o), a1] h (fun x h => X fz d k Q is ls ((0, x) :: st) h)) := rfl
theorem x_call261 {fz : Int → Int → Option Int} {d k : Nat} {Q : Int → HV → Prop} {is : List Instr} {h : HV} {ls st : List AV} {o : Int}  : X fz d k Q (.invokeinterface 66884 1 :: is) ls ((3, o) :: st) h = (((o ≠ 0 ∧ o % 64 = 7) ∧ wds st ≤ 8) ∧ 0 < d ∧ Sp fz (d - 1) 261 [(3, o)] h (fun x h => X fz d k Q is ls st h)) := rfl
theorem x_call262 {fz : Int → Int → Option Int} {d k : Nat} {Q : Int → HV → Prop} {is : List Instr} {h : HV} {ls st : List AV} {o : Int} {a1 : AV}  : X fz d k Q (.invokeinterface 67140 2 :: is) ls (a1 :: (3, o) :: st) h = (((o ≠ 0 ∧ o % 64 = 7) ∧ wds st ≤ 8) ∧ 0 < d ∧ Sp fz (d - 1) 262 [(3, o), a1] h (fun x h => X fz d k Q is ls st h)) := rfl
theorem x_call263 {fz : Int → Int → Option Int} {d k : Nat} {Q : Int → HV → Prop} {is : List Instr} {h : HV} {ls st : List AV} {o : Int} {a1 a2 a3 : AV}  : X fz d k Q (.invokeinterface 67396 4 :: is) ls (a3 :: a2 :: a1 :: (3, o) :: st) h = (((o ≠ 0 ∧ o % 64 = 7) ∧ wds st ≤ 8) ∧ 0 < d ∧ Sp fz (d - 1) 263 [(3, o), a1, a2, a3] h (fun x h => X fz d k Q is ls st h)) := rfl
theorem x_call264 {fz : Int → Int → Option Int} {d k : Nat} {Q : Int → HV → Prop} {is : List Instr} {h : HV} {ls st : List AV} {o : Int} {a1 : AV}  : X fz d k Q (.invokeinterface 67648 2 :: is) ls (a1 :: (3, o) :: st) h = (((o ≠ 0 ∧ o % 64 = 7) ∧ wds st ≤ 8) ∧ 0 < d ∧ Sp fz (d - 1) 264 [(3, o), a1] h (fun x h => X fz d k Q is ls ((0, x) :: st) h)) := rfl
theorem x_call265 {fz : Int → Int → Option Int} {d k : Nat} {Q : Int → HV → Prop} {is : List Instr} {h : HV} {ls st : List AV} {o : Int} {a1 : AV}  : X fz d k Q (.invokeinterface 67904 2 :: is) ls (a1 :: (3, o) :: st) h = (((o ≠ 0 ∧ o % 64 = 7) ∧ wds st ≤ 8) ∧ 0 < d ∧ Sp fz (d - 1) 265 [(3, o), a1] h (fun x h => X fz d k Q is ls ((0, x) :: st) h)) := rfl
theorem x_call266 {fz : Int → Int → Option Int} {d k : Nat} {Q : Int → HV → Prop} {is : List Instr} {h : HV} {ls st : List AV} {o : Int} {a1 : AV}  : X fz d k Q (.invokeinterface 68160 2 :: is) ls (a1 :: (3, o) :: st) h = (((o ≠ 0 ∧ o % 64 = 7) ∧ wds st ≤ 8) ∧ 0 < d ∧ Sp fz (d - 1) 266 [(3, o), a1] h (fun x h => X fz d k Q is ls ((0, x) :: st) h)) := rfl
theorem x_call267 {fz : Int → Int → Option Int} {d k : Nat} {Q : Int → HV → Prop} {is : List Instr} {h : HV} {ls st : List AV} {o : Int} {a1 : AV}  : X fz d k Q (.invokeinterface 68416 2 :: is) ls (a1 :: (3, o) :: st) h = (((o ≠ 0 ∧ o % 64 = 7) ∧ wds st ≤ 8) ∧ 0 < d ∧ Sp fz (d - 1) 267 [(3, o), a1] h (fun x h => X fz d k Q is ls ((0, x) :: st) h)) := rfl
theorem x_call268 {fz : Int → Int → Option Int} {d k : Nat} {Q : Int → HV → Prop} {is : List Instr} {h : HV} {ls st : List AV} {o : Int} {a1 a2 : AV}  : X fz d k Q (.invokeinterface 68672 3 :: is) ls (a2 :: a1 :: (3, o) :: st) h = (((o ≠ 0 ∧ o % 64 = 7) ∧ wds st ≤ 8) ∧ 0 < d ∧ Sp fz (d - 1) 268 [(3, o), a1, a2] h (fun x h => X fz d k Q is ls ((0, x) :: st) h)) := rfl
theorem x_call269 {fz : Int → Int → Option Int} {d k : Nat} {Q : Int → HV → Prop} {is : List Instr} {h : HV} {ls st : List AV} {o : Int} {a1 : AV}  : X fz d k Q (.invokeinterface 68872 2 :: is) ls (a1 :: (3, o) :: st) h = (((o ≠ 0 ∧ o % 64 = 0) ∧ wds st ≤ 8) ∧ 0 < d ∧ Sp fz (d - 1) 269 [(3, o), a1] h (fun x h => X fz d k Q is ls ((0, x) :: st) h)) := rfl
theorem x_call27 {fz : Int → Int → Option Int} {d k : Nat} {Q : Int → HV → Prop} {is : List Instr} {h : HV} {ls st : List AV} {o : Int}  : X fz d k Q (.invokeinterface 6932 1 :: is) ls ((3, o) :: st) h = (((o ≠ 0 ∧ o % 64 = 1) ∧ wds st ≤ 8) ∧ 0 < d ∧ Sp fz (d - 1) 27 [(3, o)] h (fun x h => X fz d k Q is ls st h)) := rfl
theorem x_call270 {fz : Int → Int → Option Int} {d k : Nat} {Q : Int → HV → Prop} {is : List Instr} {h : HV} {ls st : List AV} {o : Int}  : X fz d k Q (.invokeinterface 69184 1 :: is) ls ((3, o) :: st) h = (((o ≠ 0 ∧ o % 64 = 7) ∧ wds st ≤ 8) ∧ 0 < d ∧ Sp fz (d - 1) 270 [(3, o)] h (fun x h => X fz d k Q is ls ((0, x) :: st) h)) := rfl
theorem x_call271 {fz : Int → Int → Option Int} {d k : Nat} {Q : Int → HV → Prop} {is : List Instr} {h : HV} {ls st : List AV} {o : Int}  : X fz d k Q (.invokeinterface 69440 1 :: is) ls ((3, o) :: st) h = (((o ≠ 0 ∧ o % 64 = 7) ∧ wds st ≤ 8) ∧ 0 < d ∧ Sp fz (d - 1) 271 [(3, o)] h (fun x h => X fz d k Q is ls ((0, x) :: st) h)) := rfl
theorem x_call272 {fz : Int → Int → Option Int} {d k : Nat} {Q : Int → HV → Prop} {is : List Instr} {h : HV} {ls st : List AV} {o : Int}  : X fz d k Q (.invokeinterface 69696 1 :: is) ls ((3, o) :: st) h = (((o ≠ 0 ∧ o % 64 = 7) ∧ wds st ≤ 8) ∧ 0 < d ∧ Sp fz (d - 1) 272 [(3, o)] h (fun x h => X fz d k Q is ls ((0, x) :: st) h)) := rfl
theorem x_call273 {fz : Int → Int → Option Int} {d k : Nat} {Q : Int → HV → Prop} {is : List Instr} {h : HV} {ls st : List AV} {o : Int}  : X fz d k Q (.invokeinterface 69952 1 :: is) ls ((3, o) :: st) h = (((o ≠ 0 ∧ o % 64 = 7) ∧ wds st ≤ 8) ∧ 0 < d ∧ Sp fz (d - 1) 273 [(3, o)] h (fun x h => X fz d k Q is ls ((0, x) :: st) h)) := rfl
theorem x_call274 {fz : Int → Int → Option Int} {d k : Nat} {Q : Int → HV → Prop} {is : List Instr} {h : HV} {ls st : List AV} {o : Int} {a1 a2 : AV}  : X fz d k Q (.invokeinterface 70152 3 :: is) ls (a2 :: a1 :: (3, o) :: st) h = (((o ≠ 0 ∧ o % 64 = 0) ∧ wds st ≤ 8) ∧ 0 < d ∧ Sp fz (d - 1) 274 [(3, o), a1, a2] h (fun x h => X fz d k Q is ls ((0, x) :: st) h)) := rfl
theorem x_call275 {fz : Int → Int → Option Int} {d k : Nat} {Q : Int → HV → Prop} {is : List Instr} {h : HV} {ls st : List AV} {o : Int} {a1 : AV}  : X fz d k Q (.invokeinterface 70464 2 :: is) ls (a1 :: (3, o) :: st) h = (((o ≠ 0 ∧ o % 64 = 7) ∧ wds st ≤ 8) ∧ 0 < d ∧ Sp fz (d - 1) 275 [(3, o), a1] h (fun x h => X fz d k Q is ls ((0, x) :: st) h)) := rfl
theorem x_call276 {fz : Int → Int → Option Int} {d k : Nat} {Q : Int → HV → Prop} {is : List Instr} {h : HV} {ls st : List AV} {o : Int} {a1 : AV}  : X fz d k Q (.invokeinterface 70720 2 :: is) ls (a1 :: (3, o) :: st) h = (((o ≠ 0 ∧ o % 64 = 7) ∧ wds st ≤ 8) ∧ 0 < d ∧ Sp fz (d - 1) 276 [(3, o), a1] h (fun x h => X fz d k Q is ls ((0, x) :: st) h)) := rfl
theorem x_call277 {fz : Int → Int → Option Int} {d k : Nat} {Q : Int → HV → Prop} {is : List Instr} {h : HV} {ls st : List AV} {o : Int} {a1 a2 : AV}  : X fz d k Q (.invokeinterface 70920 3 :: is) ls (a2 :: a1 :: (3, o) :: st) h = (((o ≠ 0 ∧ o % 64 = 0) ∧ wds st ≤ 8) ∧ 0 < d ∧ Sp fz (d - 1) 277 [(3, o), a1, a2] h (fun x h => X fz d k Q is ls ((0, x) :: st) h)) := rfl
theorem x_call278 {fz : Int → Int → Option Int} {d k : Nat} {Q : Int → HV → Prop} {is : List Instr} {h : HV} {ls st : List AV} {o : Int} {a1 a2 : AV}  : X fz d k Q (.invokeinterface 71248 3 :: is) ls (a2 :: a1 :: (3, o) :: st) h = (((o ≠ 0 ∧ o % 64 = 9) ∧ wds st ≤ 8) ∧ 0 < d ∧ Sp fz (d - 1) 278 [(3, o), a1, a2] h (fun x h => X fz d k Q is ls ((0, x) :: st) h)) := rfl
theorem x_call279 {fz : Int → Int → Option Int} {d k : Nat} {Q : Int → HV → Prop} {is : List Instr} {h : HV} {ls st : List AV} {o : Int} {a1 a2 : AV}  : X fz d k Q (.invokeinterface 71504 3 :: is) ls (a2 :: a1 :: (3, o) :: st) h = (((o ≠ 0 ∧ o % 64 = 9) ∧ wds st ≤ 8) ∧ 0 < d ∧ Sp fz (d - 1) 279 [(3, o), a1, a2] h (fun x h => X fz d k Q is ls ((0, x) :: st) h)) := rfl
theorem x_call28 {fz : Int → Int → Option Int} {d k : Nat} {Q : Int → HV → Prop} {is : List Instr} {h : HV} {ls st : List AV} {o : Int} {a1 : AV}  : X fz d k Q (.invokeinterface 7188 2 :: is) ls (a1 :: (3, o) :: st) h = (((o ≠ 0 ∧ o % 64 = 1) ∧ wds st ≤ 8) ∧ 0 < d ∧ Sp fz (d - 1) 28 [(3, o), a1] h (fun x h => X fz d k Q is ls st h)) := rfl
theorem x_call280 {fz : Int → Int → Option Int} {d k : Nat} {Q : Int → HV → Prop} {is : List Instr} {h : HV} {ls st : List AV} {o : Int} {a1 a2 : AV}  : X fz d k Q (.invokeinterface 71760 3 :: is) ls (a2 :: a1 :: (3, o) :: st) h = (((o ≠ 0 ∧ o % 64 = 9) ∧ wds st ≤ 8) ∧ 0 < d ∧ Sp fz (d - 1) 280 [(3, o), a1, a2] h (fun x h => X fz d k Q is ls ((0, x) :: st) h)) := rfl
theorem x_call281 {fz : Int → Int → Option Int} {d k : Nat} {Q : Int → HV → Prop} {is : List Instr} {h : HV} {ls st : List AV} {o : Int} {a1 : AV}  : X fz d k Q (.invokeinterface 71944 2 :: is) ls (a1 :: (3, o) :: st) h = (((o ≠ 0 ∧ o % 64 = 0) ∧ wds st ≤ 8) ∧ 0 < d ∧ Sp fz (d - 1) 281 [(3, o), a1] h (fun x h => X fz d k Q is ls ((0, x) :: st) h)) := rfl
theorem x_call282 {fz : Int → Int → Option Int} {d k : Nat} {Q : Int → HV → Prop} {is : List Instr} {h : HV} {ls st : List AV} {o : Int} {a1 : AV}  : X fz d k Q (.invokeinterface 72272 2 :: is) ls (a1 :: (3, o) :: st) h = (((o ≠ 0 ∧ o % 64 = 9) ∧ wds st ≤ 8) ∧ 0 < d ∧ Sp fz (d - 1) 282 [(3, o), a1] h (fun x h => X fz d k Q is ls ((0, x) :: st) h)) := rfl
theorem x_call283 {fz : Int → Int → Option Int} {d k : Nat} {Q : Int → HV → Prop} {is : List Instr} {h : HV} {ls st : List AV} {a0 a1 a2 : AV}  : X fz d k Q (.invokeinterface 72448 3 :: is) ls (a2 :: a1 :: a0 :: st) h = ((True ∧ wds st ≤ 8) ∧ 0 < d ∧ Sp fz (d - 1) 283 [a0, a1, a2] h (fun x h => X fz d k Q is ls ((0, x) :: st) h)) := rfl
theorem x_call284 {fz : Int → Int → Option Int} {d k : Nat} {Q : Int → HV → Prop} {is : List Instr} {h : HV} {ls st : List AV} {o : Int} {a1 a2 : AV}  : X fz d k Q (.invokeinterface 72712 3 :: is) ls (a2 :: a1 :: (3, o) :: st) h = (((o ≠ 0 ∧ o % 64 = 0) ∧ wds st ≤ 8) ∧ 0 < d ∧ Sp fz (d - 1) 284 [(3, o), a1, a2] h (fun x h => X fz d k Q is ls ((0, x) :: st) h)) := rfl
theorem x_call285 {fz : Int → Int → Option Int} {d k : Nat} {Q : Int → HV → Prop} {is : List Instr} {h : HV} {ls st : List AV} {o : Int} {a1 a2 : AV}  : X fz d k Q (.invokeinterface 73040 3 :: is) ls (a2 :: a1 :: (3, o) :: st) h = (((o ≠ 0 ∧ o % 64 = 9) ∧ wds st ≤ 8) ∧ 0 < d ∧ Sp fz (d - 1) 285 [(3, o), a1, a2] h (fun x h => X fz d k Q is ls ((0, x) :: st) h)) := rfl
theorem x_call286 {fz : Int → Int → Option Int} {d k : Nat} {Q : Int → HV → Prop} {is : List Instr} {h : HV} {ls st : List AV} {a0 : AV}  : X fz d k Q (.invokeinterface 73216 1 :: is) ls (a0 :: st) h = ((True ∧ wds st ≤ 8) ∧ 0 < d ∧ Sp fz (d - 1) 286 [a0] h (fun x h => X fz d k Q is ls ((0, x) :: st) h)) := rfl
theorem x_call287 {fz : Int → Int → Option Int} {d k : Nat} {Q : Int → HV → Prop} {is : List Instr} {h : HV} {ls st : List AV} {o : Int} {a1 : AV}  : X fz d k Q (.invokeinterface 73480 2 :: is) ls (a1 :: (3, o) :: st) h = (((o ≠ 0 ∧ o % 64 = 0) ∧ wds st ≤ 8) ∧ 0 < d ∧ Sp fz (d - 1) 287 [(3, o), a1] h (fun x h => X fz d k Q is ls ((0, x) :: st) h)) := rfl
theorem x_call288 {fz : Int → Int → Option Int} {d k : Nat} {Q : Int → HV → Prop} {is : List Instr} {h : HV} {ls st : List AV} {o : Int}  : X fz d k Q (.invokeinterface 73808 1 :: is) ls ((3, o) :: st) h = (((o ≠ 0 ∧ o % 64 = 9) ∧ wds st ≤ 8) ∧ 0 < d ∧ Sp fz (d - 1) 288 [(3, o)] h (fun x h => X fz d k Q is ls ((0, x) :: st) h)) := rfl
theorem x_call289 {fz : Int → Int → Option Int} {d k : Nat} {Q : Int → HV → Prop} {is : List Instr} {h : HV} {ls st : List AV} {o : Int}  : X fz d k Q (.invokeinterface 74068 1 :: is) ls ((3, o) :: st) h = (((o ≠ 0 ∧ o % 64 = 9) ∧ wds st ≤ 8) ∧ 0 < d ∧ Sp fz (d - 1) 289 [(3, o)] h (fun x h => X fz d k Q is ls st h)) := rfl
theorem x_call29 {fz : Int → Int → Option Int} {d k : Nat} {Q : Int → HV → Prop} {is : List Instr} {h : HV} {ls st : List AV} {o : Int} {a1 : AV}  : X fz d k Q (.invokeinterface 7440 2 :: is) ls (a1 :: (3, o) :: st) h = (((o ≠ 0 ∧ o % 64 = 1) ∧ wds st ≤ 8) ∧ 0 < d ∧ Sp fz (d - 1) 29 [(3, o), a1] h (fun x h => X fz d k Q is ls ((0, x) :: st) h)) := rfl
theorem x_call290 {fz : Int → Int → Option Int} {d k : Nat} {Q : Int → HV → Prop} {is : List Instr} {h : HV} {ls st : List AV} {o : Int}  : X fz d k Q (.invokeinterface 74324 1 :: is) ls ((3, o) :: st) h = (((o ≠ 0 ∧ o % 64 = 9) ∧ wds st ≤ 8) ∧ 0 < d ∧ Sp fz (d - 1) 290 [(3, o)] h (fun x h => X fz d k Q is ls st h)) := rfl
theorem x_call291 {fz : Int → Int → Option Int} {d k : Nat} {Q : Int → HV → Prop} {is : List Instr} {h : HV} {ls st : List AV} {o : Int}  : X fz d k Q (.invokeinterface 74576 1 :: is) ls ((3, o) :: st) h = (((o ≠ 0 ∧ o % 64 = 9) ∧ wds st ≤ 8) ∧ 0 < d ∧ Sp fz (d - 1) 291 [(3, o)] h (fun x h => X fz d k Q is ls ((0, x) :: st) h)) := rfl
theorem x_call292 {fz : Int → Int → Option Int} {d k : Nat} {Q : Int → HV → Prop} {is : List Instr} {h : HV} {ls st : List AV} {o : Int} {a1 a2 : AV}  : X fz d k Q (.invokeinterface 74836 3 :: is) ls (a2 :: a1 :: (3, o) :: st) h = (((o ≠ 0 ∧ o % 64 = 9) ∧ wds st ≤ 8) ∧ 0 < d ∧ Sp fz (d - 1) 292 [(3, o), a1, a2] h (fun x h => X fz d k Q is ls st h)) := rfl
theorem x_call293 {fz : Int → Int → Option Int} {d k : Nat} {Q : Int → HV → Prop} {is : List Instr} {h : HV} {ls st : List AV} {o : Int} {a1 : AV}  : X fz d k Q (.invokeinterface 75088 2 :: is) ls (a1 :: (3, o) :: st) h = (((o ≠ 0 ∧ o % 64 = 9) ∧ wds st ≤ 8) ∧ 0 < d ∧ Sp fz (d - 1) 293 [(3, o), a1] h (fun x h => X fz d k Q is ls ((0, x) :: st) h)) := rfl
theorem x_call294 {fz : Int → Int → Option Int} {d k : Nat} {Q : Int → HV → Prop} {is : List Instr} {h : HV} {ls st : List AV} {o : Int} {a1 a2 : AV}  : X fz d k Q (.invokeinterface 75348 3 :: is) ls (a2 :: a1 :: (3, o) :: st) h = (((o ≠ 0 ∧ o % 64 = 9) ∧ wds st ≤ 8) ∧ 0 < d ∧ Sp fz (d - 1) 294 [(3, o), a1, a2] h (fun x h => X fz d k Q is ls st h)) := rfl
theorem x_call295 {fz : Int → Int → Option Int} {d k : Nat} {Q : Int → HV → Prop} {is : List Instr} {h : HV} {ls st : List AV} {o : Int} {a1 : AV}  : X fz d k Q (.invokeinterface 75600 2 :: is) ls (a1 :: (3, o) :: st) h = (((o ≠ 0 ∧ o % 64 = 9) ∧ wds st ≤ 8) ∧ 0 < d ∧ Sp fz (d - 1) 295 [(3, o), a1] h (fun x h => X fz d k Q is ls ((0, x) :: st) h)) := rfl
theorem x_call296 {fz : Int → Int → Option Int} {d k : Nat} {Q : Int → HV → Prop} {is : List Instr} {h : HV} {ls st : List AV} {o : Int} {a1 a2 a3 : AV}  : X fz d k Q (.invokeinterface 75856 4 :: is) ls (a3 :: a2 :: a1 :: (3, o) :: st) h = (((o ≠ 0 ∧ o % 64 = 9) ∧ wds st ≤ 8) ∧ 0 < d ∧ Sp fz (d - 1) 296 [(3, o), a1, a2, a3] h (fun x h => X fz d k Q is ls ((0, x) :: st) h)) := rfl
theorem x_call297 {fz : Int → Int → Option Int} {d k : Nat} {Q : Int → HV → Prop} {is : List Instr} {h : HV} {ls st : List AV} {o : Int}  : X fz d k Q (.invokeinterface 76112 1 :: is) ls ((3, o) :: st) h = (((o ≠ 0 ∧ o % 64 = 9) ∧ wds st ≤ 8) ∧ 0 < d ∧ Sp fz (d - 1) 297 [(3, o)] h (fun x h => X fz d k Q is ls ((0, x) :: st) h)) := rfl
theorem x_call298 {fz : Int → Int → Option Int} {d k : Nat} {Q : Int → HV → Prop} {is : List Instr} {h : HV} {ls st : List AV} {o : Int}  : X fz d k Q (.invokeinterface 76368 1 :: is) ls ((3, o) :: st) h = (((o ≠ 0 ∧ o % 64 = 9) ∧ wds st ≤ 8) ∧ 0 < d ∧ Sp fz (d - 1) 298 [(3, o)] h (fun x h => X fz d k Q is ls ((0, x) :: st) h)) := rfl
theorem x_call299 {fz : Int → Int → Option Int} {d k : Nat} {Q : Int → HV → Prop} {is : List Instr} {h : HV} {ls st : List AV} {o : Int}  : X fz d k Q (.invokeinterface 76628 1 :: is) ls ((3, o) :: st) h = (((o ≠ 0 ∧ o % 64 = 9) ∧ wds st ≤ 8) ∧ 0 < d ∧ Sp fz (d - 1) 299 [(3, o)] h (fun x h => X fz d k Q is ls st h)) := rfl
theorem x_call3 {fz : Int → Int → Option Int} {d k : Nat} {Q : Int → HV → Prop} {is : List Instr} {h : HV} {ls st : List AV} {o : Int} {a1 : AV}  : X fz d k Q (.invokeinterface 796 2 :: is) ls (a1 :: (3, o) :: st) h = (((o ≠ 0 ∧ o % 64 = 2) ∧ wds st ≤ 8) ∧ 0 < d ∧ Sp fz (d - 1) 3 [(3, o), a1] h (fun x h => X fz d k Q is ls st h)) := rfl
theorem x_call30 {fz : Int → Int → Option Int} {d k : Nat} {Q : Int → HV → Prop} {is : List Instr} {h : HV} {ls st : List AV} {o : Int}  : X fz d k Q (.invokeinterface 7700 1 :: is) ls ((3, o) :: st) h = (((o ≠ 0 ∧ o % 64 = 1) ∧ wds st ≤ 8) ∧ 0 < d ∧ Sp fz (d - 1) 30 [(3, o)] h (fun x h => X fz d k Q is ls st h)) := rfl
theorem x_call300 {fz : Int → Int → Option Int} {d k : Nat} {Q : Int → HV → Prop} {is : List Instr} {h : HV} {ls st : List AV} {o : Int} {a1 : AV}  : X fz d k Q (.invokeinterface 76880 2 :: is) ls (a1 :: (3, o) :: st) h = (((o ≠ 0 ∧ o % 64 = 9) ∧ wds st ≤ 8) ∧ 0 < d ∧ Sp fz (d - 1) 300 [(3, o), a1] h (fun x h => X fz d k Q is ls ((0, x) :: st) h)) := rfl
theorem x_call301 {fz : Int → Int → Option Int} {d k : Nat} {Q : Int → HV → Prop} {is : List Instr} {h : HV} {ls st : List AV} {o : Int}  : X fz d k Q (.invokeinterface 77136 1 :: is) ls ((3, o) :: st) h = (((o ≠ 0 ∧ o % 64 = 9) ∧ wds st ≤ 8) ∧ 0 < d ∧ Sp fz (d - 1) 301 [(3, o)] h (fun x h => X fz d k Q is ls ((0, x) :: st) h)) := rfl
theorem x_call302 {fz : Int → Int → Option Int} {d k : Nat} {Q : Int → HV → Prop} {is : List Instr} {h : HV} {ls st : List AV} {o : Int} {a1 : AV}  : X fz d k Q (.invokeinterface 77392 2 :: is) ls (a1 :: (3, o) :: st) h = (((o ≠ 0 ∧ o % 64 = 9) ∧ wds st ≤ 8) ∧ 0 < d ∧ Sp fz (d - 1) 302 [(3, o), a1] h (fun x h => X fz d k Q is ls ((0, x) :: st) h)) := rfl
theorem x_call303 {fz : Int → Int → Option Int} {d k : Nat} {Q : Int → HV → Prop} {is : List Instr} {h : HV} {ls st : List AV} {o : Int} {a1 : AV}  : X fz d k Q (.invokeinterface 77648 2 :: is) ls (a1 :: (3, o) :: st) h = (((o ≠ 0 ∧ o % 64 = 9) ∧ wds st ≤ 8) ∧ 0 < d ∧ Sp fz (d - 1) 303 [(3, o), a1] h (fun x h => X fz d k Q is ls ((0, x) :: st) h)) := rfl
theorem x_call304 {fz : Int → Int → Option Int} {d k : Nat} {Q : Int → HV → Prop} {is : List Instr} {h : HV} {ls st : List AV} {o : Int} {a1 : AV}  : X fz d k Q (.invokeinterface 77832 2 :: is) ls (a1 :: (3, o) :: st) h = (((o ≠ 0 ∧ o % 64 = 0) ∧ wds st ≤ 8) ∧ 0 < d ∧ Sp fz (d - 1) 304 [(3, o), a1] h (fun x h => X fz d k Q is ls ((0, x) :: st) h)) := rfl
theorem x_call305 {fz : Int → Int → Option Int} {d k : Nat} {Q : Int → HV → Prop} {is : List Instr} {h : HV} {ls st : List AV} {o : Int} {a1 : AV}  : X fz d k Q (.invokeinterface 78160 2 :: is) ls (a1 :: (3, o) :: st) h = (((o ≠ 0 ∧ o % 64 = 9) ∧ wds st ≤ 8) ∧ 0 < d ∧ Sp fz (d - 1) 305 [(3, o), a1] h (fun x h => X fz d k Q is ls ((0, x) :: st) h)) := rfl
theorem x_call306 {fz : Int → Int → Option Int} {d k : Nat} {Q : Int → HV → Prop} {is : List Instr} {h : HV} {ls st : List AV} {o : Int}  : X fz d k Q (.invokeinterface 78344 1 :: is) ls ((3, o) :: st) h = (((o ≠ 0 ∧ o % 64 = 0) ∧ wds st ≤ 8) ∧ 0 < d ∧ Sp fz (d - 1) 306 [(3, o)] h (fun x h => X fz d k Q is ls ((0, x) :: st) h)) := rfl
theorem x_call307 {fz : Int → Int → Option Int} {d k : Nat} {Q : Int → HV → Prop} {is : List Instr} {h : HV} {ls st : List AV} {o : Int}  : X fz d k Q (.invokeinterface 78672 1 :: is) ls ((3, o) :: st) h = (((o ≠ 0 ∧ o % 64 = 9) ∧ wds st ≤ 8) ∧ 0 < d ∧ Sp fz (d - 1) 307 [(3, o)] h (fun x h => X fz d k Q is ls ((0, x) :: st) h)) := rfl
theorem x_call308 {fz : Int → Int → Option Int} {d k : Nat} {Q : Int → HV → Prop} {is : List Instr} {h : HV} {ls st : List AV} {o : Int}  : X fz d k Q (.invokeinterface 78928 1 :: is) ls ((3, o) :: st) h = (((o ≠ 0 ∧ o % 64 = 9) ∧ wds st ≤ 8) ∧ 0 < d ∧ Sp fz (d - 1) 308 [(3, o)] h (fun x h => X fz d k Q is ls ((0, x) :: st) h)) := rfl
theorem x_call309 {fz : Int → Int → Option Int} {d k : Nat} {Q : Int → HV → Prop} {is : List Instr} {h : HV} {ls st : List AV} {o : Int} {a1 a2 : AV}  : X fz d k Q (.invokeinterface 79184 3 :: is) ls (a2 :: a1 :: (3, o) :: st) h = (((o ≠ 0 ∧ o % 64 = 9) ∧ wds st ≤ 8) ∧ 0 < d ∧ Sp fz (d - 1) 309 [(3, o), a1, a2] h (fun x h => X fz d k Q is ls ((0, x) :: st) h)) := rfl
theorem x_call31 {fz : Int → Int → Option Int} {d k : Nat} {Q : Int → HV → Prop} {is : List Instr} {h : HV} {ls st : List AV} {o : Int} {a1 : AV}  : X fz d k Q (.invokeinterface 7952 2 :: is) ls (a1 :: (3, o) :: st) h = (((o ≠ 0 ∧ o % 64 = 1) ∧ wds st ≤ 8) ∧ 0 < d ∧ Sp fz (d - 1) 31 [(3, o), a1] h (fun x h => X fz d k Q is ls ((0, x) :: st) h)) := rfl
theorem x_call310 {fz : Int → Int → Option Int} {d k : Nat} {Q : Int → HV → Prop} {is : List Instr} {h : HV} {ls st : List AV} {o : Int} {a1 a2 : AV}  : X fz d k Q (.invokeinterface 79440 3 :: is) ls (a2 :: a1 :: (3, o) :: st) h = (((o ≠ 0 ∧ o % 64 = 9) ∧ wds st ≤ 8) ∧ 0 < d ∧ Sp fz (d - 1) 310 [(3, o), a1, a2] h (fun x h => X fz d k Q is ls ((0, x) :: st) h)) := rfl
theorem x_call311 {fz : Int → Int → Option Int} {d k : Nat} {Q : Int → HV → Prop} {is : List Instr} {h : HV} {ls st : List AV} {o : Int} {a1 a2 a3 : AV}  : X fz d k Q (.invokeinterface 79624 4 :: is) ls (a3 :: a2 :: a1 :: (3, o) :: st) h = (((o ≠ 0 ∧ o % 64 = 0) ∧ wds st ≤ 8) ∧ 0 < d ∧ Sp fz (d - 1) 311 [(3, o), a1, a2, a3] h (fun x h => X fz d k Q is ls ((0, x) :: st) h)) := rfl
theorem x_call312 {fz : Int → Int → Option Int} {d k : Nat} {Q : Int → HV → Prop} {is : List Instr} {h : HV} {ls st : List AV} {o : Int} {a1 a2 a3 : AV}  : X fz d k Q (.invokeinterface 79948 4 :: is) ls (a3 :: a2 :: a1 :: (3, o) :: st) h = (((o ≠ 0 ∧ o % 64 = 8) ∧ wds st ≤ 8) ∧ 0 < d ∧ Sp fz (d - 1) 312 [(3, o), a1, a2, a3] h (fun x h => X fz d k Q is ls st h)) := rfl
theorem x_call313 {fz : Int → Int → Option Int} {d k : Nat} {Q : Int → HV → Prop} {is : List Instr} {h : HV} {ls st : List AV} {o : Int} {a1 : AV}  : X fz d k Q (.invokeinterface 80136 2 :: is) ls (a1 :: (3, o) :: st) h = (((o ≠ 0 ∧ o % 64 = 0) ∧ wds st ≤ 8) ∧ 0 < d ∧ Sp fz (d - 1) 313 [(3, o), a1] h (fun x h => X fz d k Q is ls ((0, x) :: st) h)) := rfl
theorem x_call314 {fz : Int → Int → Option Int} {d k : Nat} {Q : Int → HV → Prop} {is : List Instr} {h : HV} {ls st : List AV} {o : Int} {a1 : AV}  : X fz d k Q (.invokeinterface 80456 2 :: is) ls (a1 :: (3, o) :: st) h = (((o ≠ 0 ∧ o % 64 = 8) ∧ wds st ≤ 8) ∧ 0 < d ∧ Sp fz (d - 1) 314 [(3, o), a1] h (fun x h => X fz d k Q is ls ((0, x) :: st) h)) := rfl
theorem x_call315 {fz : Int → Int → Option Int} {d k : Nat} {Q : Int → HV → Prop} {is : List Instr} {h : HV} {ls st : List AV} {o : Int} {a1 : AV}  : X fz d k Q (.invokeinterface 80712 2 :: is) ls (a1 :: (3, o) :: st) h = (((o ≠ 0 ∧ o % 64 = 8) ∧ wds st ≤ 8) ∧ 0 < d ∧ Sp fz (d - 1) 315 [(3, o), a1] h (fun x h => X fz d k Q is ls ((0, x) :: st) h)) := rfl
theorem x_call316 {fz : Int → Int → Option Int} {d k : Nat} {Q : Int → HV → Prop} {is : List Instr} {h : HV} {ls st : List AV} {o : Int} {a1 : AV}  : X fz d k Q (.invokeinterface 80968 2 :: is) ls (a1 :: (3, o) :: st) h = (((o ≠ 0 ∧ o % 64 = 8) ∧ wds st ≤ 8) ∧ 0 < d ∧ Sp fz (d - 1) 316 [(3, o), a1] h (fun x h => X fz d k Q is ls ((0, x) :: st) h)) := rfl
theorem x_call317 {fz : Int → Int → Option Int} {d k : Nat} {Q : Int → HV → Prop} {is : List Instr} {h : HV} {ls st : List AV} {o : Int} {a1 a2 a3 : AV}  : X fz d k Q (.invokeinterface 81228 4 :: is) ls (a3 :: a2 :: a1 :: (3, o) :: st) h = (((o ≠ 0 ∧ o % 64 = 8) ∧ wds st ≤ 8) ∧ 0 < d ∧ Sp fz (d - 1) 317 [(3, o), a1, a2, a3] h (fun x h => X fz d k Q is ls st h)) := rfl
theorem x_call318 {fz : Int → Int → Option Int} {d k : Nat} {Q : Int → HV → Prop} {is : List Instr} {h : HV} {ls st : List AV} {o : Int} {a1 a2 : AV}  : X fz d k Q (.invokeinterface 81472 3 :: is) ls (a2 :: a1 :: (3, o) :: st) h = (((o ≠ 0 ∧ o % 64 = 7) ∧ wds st ≤ 8) ∧ 0 < d ∧ Sp fz (d - 1) 318 [(3, o), a1, a2] h (fun x h => X fz d k Q is ls ((0, x) :: st) h)) := rfl
theorem x_call319 {fz : Int → Int → Option Int} {d k : Nat} {Q : Int → HV → Prop} {is : List Instr} {h : HV} {ls st : List AV} {o : Int} {a1 : AV}  : X fz d k Q (.invokeinterface 81672 2 :: is) ls (a1 :: (3, o) :: st) h = (((o ≠ 0 ∧ o % 64 = 0) ∧ wds st ≤ 8) ∧ 0 < d ∧ Sp fz (d - 1) 319 [(3, o), a1] h (fun x h => X fz d k Q is ls ((0, x) :: st) h)) := rfl
theorem x_call32 {fz : Int → Int → Option Int} {d k : Nat} {Q : Int → HV → Prop} {is : List Instr} {h : HV} {ls st : List AV} {o : Int}  : X fz d k Q (.invokeinterface 8212 1 :: is) ls ((3, o) :: st) h = (((o ≠ 0 ∧ o % 64 = 1) ∧ wds st ≤ 8) ∧ 0 < d ∧ Sp fz (d - 1) 32 [(3, o)] h (fun x h => X fz d k Q is ls st h)) := rfl
theorem x_call320 {fz : Int → Int → Option Int} {d k : Nat} {Q : Int → HV → Prop} {is : List Instr} {h : HV} {ls st : List AV} {o : Int}  : X fz d k Q (.invokeinterface 81992 1 :: is) ls ((3, o) :: st) h = (((o ≠ 0 ∧ o % 64 = 8) ∧ wds st ≤ 8) ∧ 0 < d ∧ Sp fz (d - 1) 320 [(3, o)] h (fun x h => X fz d k Q is ls ((0, x) :: st) h)) := rfl
theorem x_call321 {fz : Int → Int → Option Int} {d k : Nat} {Q : Int → HV → Prop} {is : List Instr} {h : HV} {ls st : List AV} {o : Int} {a1 : AV}  : X fz d k Q (.invokeinterface 82248 2 :: is) ls (a1 :: (3, o) :: st) h = (((o ≠ 0 ∧ o % 64 = 8) ∧ wds st ≤ 8) ∧ 0 < d ∧ Sp fz (d - 1) 321 [(3, o), a1] h (fun x h => X fz d k Q is ls ((0, x) :: st) h)) := rfl
theorem x_call322 {fz : Int → Int → Option Int} {d k : Nat} {Q : Int → HV → Prop} {is : List Instr} {h : HV} {ls st : List AV} {o : Int}  : X fz d k Q (.invokeinterface 82532 1 :: is) ls ((3, o) :: st) h = (((o ≠ 0 ∧ o % 64 = 11) ∧ wds st ≤ 8) ∧ 0 < d ∧ Sp fz (d - 1) 322 [(3, o)] h (fun x h => X fz d k Q is ls st h)) := rfl
theorem x_call323 {fz : Int → Int → Option Int} {d k : Nat} {Q : Int → HV → Prop} {is : List Instr} {h : HV} {ls st : List AV} {o : Int}  : X fz d k Q (.invokeinterface 82796 1 :: is) ls ((3, o) :: st) h = (((o ≠ 0 ∧ o % 64 = 12) ∧ wds st ≤ 8) ∧ 0 < d ∧ Sp fz (d - 1) 323 [(3, o)] h (fun x h => X fz d k Q is ls st h)) := rfl
theorem x_call324 {fz : Int → Int → Option Int} {d k : Nat} {Q : Int → HV → Prop} {is : List Instr} {h : HV} {ls st : List AV} {o : Int} {a1 a2 : AV}  : X fz d k Q (.invokeinterface 83040 3 :: is) ls (a2 :: a1 :: (3, o) :: st) h = (((o ≠ 0 ∧ o % 64 = 11) ∧ wds st ≤ 8) ∧ 0 < d ∧ Sp fz (d - 1) 324 [(3, o), a1, a2] h (fun x h => X fz d k Q is ls ((0, x) :: st) h)) := rfl
theorem x_call325 {fz : Int → Int → Option Int} {d k : Nat} {Q : Int → HV → Prop} {is : List Instr} {h : HV} {ls st : List AV} {o : Int}  : X fz d k Q (.invokeinterface 83296 1 :: is) ls ((3, o) :: st) h = (((o ≠ 0 ∧ o % 64 = 11) ∧ wds st ≤ 8) ∧ 0 < d ∧ Sp fz (d - 1) 325 [(3, o)] h (fun x h => X fz d k Q is ls ((0, x) :: st) h)) := rfl
theorem x_call326 {fz : Int → Int → Option Int} {d k : Nat} {Q : Int → HV → Prop} {is : List Instr} {h : HV} {ls st : List AV} {o : Int}  : X fz d k Q (.invokeinterface 83556 1 :: is) ls ((3, o) :: st) h = (((o ≠ 0 ∧ o % 64 = 11) ∧ wds st ≤ 8) ∧ 0 < d ∧ Sp fz (d - 1) 326 [(3, o)] h (fun x h => X fz d k Q is ls st h)) := rfl
theorem x_call327 {fz : Int → Int → Option Int} {d k : Nat} {Q : Int → HV → Prop} {is : List Instr} {h : HV} {ls st : List AV} {a0 : AV}  : X fz d k Q (.invokeinterface 83712 1 :: is) ls (a0 :: st) h = ((True ∧ wds st ≤ 8) ∧ 0 < d ∧ Sp fz (d - 1) 327 [a0] h (fun x h => X fz d k Q is ls ((0, x) :: st) h)) := rfl
theorem x_call328 {fz : Int → Int → Option Int} {d k : Nat} {Q : Int → HV → Prop} {is : List Instr} {h : HV} {ls st : List AV} {o : Int} {a1 : AV}  : X fz d k Q (.invokeinterface 84064 2 :: is) ls (a1 :: (3, o) :: st) h = (((o ≠ 0 ∧ o % 64 = 11) ∧ wds st ≤ 8) ∧ 0 < d ∧ Sp fz (d - 1) 328 [(3, o), a1] h (fun x h => X fz d k Q is ls ((0, x) :: st) h)) := rfl
theorem x_call329 {fz : Int → Int → Option Int} {d k : Nat} {Q : Int → HV → Prop} {is : List Instr} {h : HV} {ls st : List AV} {a0 : AV}  : X fz d k Q (.invokeinterface 84224 1 :: is) ls (a0 :: st) h = ((True ∧ wds st ≤ 8) ∧ 0 < d ∧ Sp fz (d - 1) 329 [a0] h (fun x h => X fz d k Q is ls ((0, x) :: st) h)) := rfl
theorem x_call33 {fz : Int → Int → Option Int} {d k : Nat} {Q : Int → HV → Prop} {is : List Instr} {h : HV} {ls st : List AV} {o : Int} {a1 : AV}  : X fz d k Q (.invokeinterface 8560 2 :: is) ls (a1 :: (3, o) :: st) h = (((o ≠ 0 ∧ o % 64 = 13) ∧ wds st ≤ 8) ∧ 0 < d ∧ Sp fz (d - 1) 33 [(3, o), a1] h (fun x h => X fz d k Q is ls ((0, x) :: st) h)) := rfl
theorem x_call330 {fz : Int → Int → Option Int} {d k : Nat} {Q : Int → HV → Prop} {is : List Instr} {h : HV} {ls st : List AV} {o : Int}  : X fz d k Q (.invokeinterface 84576 1 :: is) ls ((3, o) :: st) h = (((o ≠ 0 ∧ o % 64 = 11) ∧ wds st ≤ 8) ∧ 0 < d ∧ Sp fz (d - 1) 330 [(3, o)] h (fun x h => X fz d k Q is ls ((0, x) :: st) h)) := rfl
theorem x_call331 {fz : Int → Int → Option Int} {d k : Nat} {Q : Int → HV → Prop} {is : List Instr} {h : HV} {ls st : List AV} {o : Int}  : X fz d k Q (.invokeinterface 84836 1 :: is) ls ((3, o) :: st) h = (((o ≠ 0 ∧ o % 64 = 11) ∧ wds st ≤ 8) ∧ 0 < d ∧ Sp fz (d - 1) 331 [(3, o)] h (fun x h => X fz d k Q is ls st h)) := rfl
theorem x_call332 {fz : Int → Int → Option Int} {d k : Nat} {Q : Int → HV → Prop} {is : List Instr} {h : HV} {ls st : List AV} {o : Int} {a1 : AV}  : X fz d k Q (.invokeinterface 85088 2 :: is) ls (a1 :: (3, o) :: st) h = (((o ≠ 0 ∧ o % 64 = 11) ∧ wds st ≤ 8) ∧ 0 < d ∧ Sp fz (d - 1) 332 [(3, o), a1] h (fun x h => X fz d k Q is ls ((0, x) :: st) h)) := rfl
theorem x_call333 {fz : Int → Int → Option Int} {d k : Nat} {Q : Int → HV → Prop} {is : List Instr} {h : HV} {ls st : List AV} {o : Int} {a1 a2 : AV}  : X fz d k Q (.invokeinterface 85344 3 :: is) ls (a2 :: a1 :: (3, o) :: st) h = (((o ≠ 0 ∧ o % 64 = 11) ∧ wds st ≤ 8) ∧ 0 < d ∧ Sp fz (d - 1) 333 [(3, o), a1, a2] h (fun x h => X fz d k Q is ls ((0, x) :: st) h)) := rfl
theorem x_call334 {fz : Int → Int → Option Int} {d k : Nat} {Q : Int → HV → Prop} {is : List Instr} {h : HV} {ls st : List AV} {o : Int}  : X fz d k Q (.invokeinterface 85600 1 :: is) ls ((3, o) :: st) h = (((o ≠ 0 ∧ o % 64 = 11) ∧ wds st ≤ 8) ∧ 0 < d ∧ Sp fz (d - 1) 334 [(3, o)] h (fun x h => X fz d k Q is ls ((0, x) :: st) h)) := rfl
theorem x_call335 {fz : Int → Int → Option Int} {d k : Nat} {Q : Int → HV → Prop} {is : List Instr} {h : HV} {ls st : List AV} {o : Int}  : X fz d k Q (.invokeinterface 85857 1 :: is) ls ((3, o) :: st) h = (((o ≠ 0 ∧ o % 64 = 11) ∧ wds st ≤ 8) ∧ 0 < d ∧ Sp fz (d - 1) 335 [(3, o)] h (fun x h => X fz d k Q is ls ((1, x) :: st) h)) := rfl
theorem x_call336 {fz : Int → Int → Option Int} {d k : Nat} {Q : Int → HV → Prop} {is : List Instr} {h : HV} {ls st : List AV} {o : Int} {a1 a2 : AV}  : X fz d k Q (.invokeinterface 86112 3 :: is) ls (a2 :: a1 :: (3, o) :: st) h = (((o ≠ 0 ∧ o % 64 = 11) ∧ wds st ≤ 8) ∧ 0 < d ∧ Sp fz (d - 1) 336 [(3, o), a1, a2] h (fun x h => X fz d k Q is ls ((0, x) :: st) h)) := rfl
theorem x_call337 {fz : Int → Int → Option Int} {d k : Nat} {Q : Int → HV → Prop} {is : List Instr} {h : HV} {ls st : List AV} {o : Int}  : X fz d k Q (.invokeinterface 86372 1 :: is) ls ((3, o) :: st) h = (((o ≠ 0 ∧ o % 64 = 11) ∧ wds st ≤ 8) ∧ 0 < d ∧ Sp fz (d - 1) 337 [(3, o)] h (fun x h => X fz d k Q is ls st h)) := rfl
theorem x_call338 {fz : Int → Int → Option Int} {d k : Nat} {Q : Int → HV → Prop} {is : List Instr} {h : HV} {ls st : List AV} {o : Int} {a1 : AV}  : X fz d k Q (.invokeinterface 86628 2 :: is) ls (a1 :: (3, o) :: st) h = (((o ≠ 0 ∧ o % 64 = 11) ∧ wds st ≤ 8) ∧ 0 < d ∧ Sp fz (d - 1) 338 [(3, o), a1] h (fun x h => X fz d k Q is ls st h)) := rfl
theorem x_call339 {fz : Int → Int → Option Int} {d k : Nat} {Q : Int → HV → Prop} {is : List Instr} {h : HV} {ls st : List AV} {o : Int} {a1 : AV}  : X fz d k Q (.invokeinterface 86880 2 :: is) ls (a1 :: (3, o) :: st) h = (((o ≠ 0 ∧ o % 64 = 11) ∧ wds st ≤ 8) ∧ 0 < d ∧ Sp fz (d - 1) 339 [(3, o), a1] h (fun x h => X fz d k Q is ls ((0, x) :: st) h)) := rfl
theorem x_call34 {fz : Int → Int → Option Int} {d k : Nat} {Q : Int → HV → Prop} {is : List Instr} {h : HV} {ls st : List AV} {o : Int} {a1 a2 : AV}  : X fz d k Q (.invokeinterface 8816 3 :: is) ls (a2 :: a1 :: (3, o) :: st) h = (((o ≠ 0 ∧ o % 64 = 13) ∧ wds st ≤ 8) ∧ 0 < d ∧ Sp fz (d - 1) 34 [(3, o), a1, a2] h (fun x h => X fz d k Q is ls ((0, x) :: st) h)) := rfl
theorem x_call340 {fz : Int → Int → Option Int} {d k : Nat} {Q : Int → HV → Prop} {is : List Instr} {h : HV} {ls st : List AV} {o : Int} {a1 a2 : AV}  : X fz d k Q (.invokeinterface 87136 3 :: is) ls (a2 :: a1 :: (3, o) :: st) h = (((o ≠ 0 ∧ o % 64 = 11) ∧ wds st ≤ 8) ∧ 0 < d ∧ Sp fz (d - 1) 340 [(3, o), a1, a2] h (fun x h => X fz d k Q is ls ((0, x) :: st) h)) := rfl
theorem x_call341 {fz : Int → Int → Option Int} {d k : Nat} {Q : Int → HV → Prop} {is : List Instr} {h : HV} {ls st : List AV} {o : Int}  : X fz d k Q (.invokeinterface 87396 1 :: is) ls ((3, o) :: st) h = (((o ≠ 0 ∧ o % 64 = 11) ∧ wds st ≤ 8) ∧ 0 < d ∧ Sp fz (d - 1) 341 [(3, o)] h (fun x h => X fz d k Q is ls st h)) := rfl
theorem x_call342 {fz : Int → Int → Option Int} {d k : Nat} {Q : Int → HV → Prop} {is : List Instr} {h : HV} {ls st : List AV} {o : Int}  : X fz d k Q (.invokeinterface 87652 1 :: is) ls ((3, o) :: st) h = (((o ≠ 0 ∧ o % 64 = 11) ∧ wds st ≤ 8) ∧ 0 < d ∧ Sp fz (d - 1) 342 [(3, o)] h (fun x h => X fz d k Q is ls st h)) := rfl
theorem x_call343 {fz : Int → Int → Option Int} {d k : Nat} {Q : Int → HV → Prop} {is : List Instr} {h : HV} {ls st : List AV} {o : Int} {a1 : AV}  : X fz d k Q (.invokeinterface 87904 2 :: is) ls (a1 :: (3, o) :: st) h = (((o ≠ 0 ∧ o % 64 = 11) ∧ wds st ≤ 8) ∧ 0 < d ∧ Sp fz (d - 1) 343 [(3, o), a1] h (fun x h => X fz d k Q is ls ((0, x) :: st) h)) := rfl
theorem x_call344 {fz : Int → Int → Option Int} {d k : Nat} {Q : Int → HV → Prop} {is : List Instr} {h : HV} {ls st : List AV} {o : Int}  : X fz d k Q (.invokeinterface 88164 1 :: is) ls ((3, o) :: st) h = (((o ≠ 0 ∧ o % 64 = 11) ∧ wds st ≤ 8) ∧ 0 < d ∧ Sp fz (d - 1) 344 [(3, o)] h (fun x h => X fz d k Q is ls st h)) := rfl
theorem x_call345 {fz : Int → Int → Option Int} {d k : Nat} {Q : Int → HV → Prop} {is : List Instr} {h : HV} {ls st : List AV} {o : Int}  : X fz d k Q (.invokeinterface 88420 1 :: is) ls ((3, o) :: st) h = (((o ≠ 0 ∧ o % 64 = 11) ∧ wds st ≤ 8) ∧ 0 < d ∧ Sp fz (d - 1) 345 [(3, o)] h (fun x h => X fz d k Q is ls st h)) := rfl
theorem x_call346 {fz : Int → Int → Option Int} {d k : Nat} {Q : Int → HV → Prop} {is : List Instr} {h : HV} {ls st : List AV} {o : Int} {a1 : AV}  : X fz d k Q (.invokeinterface 88672 2 :: is) ls (a1 :: (3, o) :: st) h = (((o ≠ 0 ∧ o % 64 = 11) ∧ wds st ≤ 8) ∧ 0 < d ∧ Sp fz (d - 1) 346 [(3, o), a1] h (fun x h => X fz d k Q is ls ((0, x) :: st) h)) := rfl
theorem x_call347 {fz : Int → Int → Option Int} {d k : Nat} {Q : Int → HV → Prop} {is : List Instr} {h : HV} {ls st : List AV} {o : Int} {a1 : AV}  : X fz d k Q (.invokeinterface 88928 2 :: is) ls (a1 :: (3, o) :: st) h = (((o ≠ 0 ∧ o % 64 = 11) ∧ wds st ≤ 8) ∧ 0 < d ∧ Sp fz (d - 1) 347 [(3, o), a1] h (fun x h => X fz d k Q is ls ((0, x) :: st) h)) := rfl
theorem x_call348 {fz : Int → Int → Option Int} {d k : Nat} {Q : Int → HV → Prop} {is : List Instr} {h : HV} {ls st : List AV} {o : Int}  : X fz d k Q (.invokeinterface 89188 1 :: is) ls ((3, o) :: st) h = (((o ≠ 0 ∧ o % 64 = 11) ∧ wds st ≤ 8) ∧ 0 < d ∧ Sp fz (d - 1) 348 [(3, o)] h (fun x h => X fz d k Q is ls st h)) := rfl
theorem x_call349 {fz : Int → Int → Option Int} {d k : Nat} {Q : Int → HV → Prop} {is : List Instr} {h : HV} {ls st : List AV} {o : Int}  : X fz d k Q (.invokeinterface 89444 1 :: is) ls ((3, o) :: st) h = (((o ≠ 0 ∧ o % 64 = 11) ∧ wds st ≤ 8) ∧ 0 < d ∧ Sp fz (d - 1) 349 [(3, o)] h (fun x h => X fz d k Q is ls st h)) := rfl
theorem x_call35 {fz : Int → Int → Option Int} {d k : Nat} {Q : Int → HV → Prop} {is : List Instr} {h : HV} {ls st : List AV} {o : Int}  : X fz d k Q (.invokeinterface 9072 1 :: is) ls ((3, o) :: st) h = (((o ≠ 0 ∧ o % 64 = 13) ∧ wds st ≤ 8) ∧ 0 < d ∧ Sp fz (d - 1) 35 [(3, o)] h (fun x h => X fz d k Q is ls ((0, x) :: st) h)) := rfl
theorem x_call350 {fz : Int → Int → Option Int} {d k : Nat} {Q : Int → HV → Prop} {is : List Instr} {h : HV} {ls st : List AV} {o : Int}  : X fz d k Q (.invokeinterface 89700 1 :: is) ls ((3, o) :: st) h = (((o ≠ 0 ∧ o % 64 = 11) ∧ wds st ≤ 8) ∧ 0 < d ∧ Sp fz (d - 1) 350 [(3, o)] h (fun x h => X fz d k Q is ls st h)) := rfl
theorem x_call351 {fz : Int → Int → Option Int} {d k : Nat} {Q : Int → HV → Prop} {is : List Instr} {h : HV} {ls st : List AV} {o : Int} {a1 : AV}  : X fz d k Q (.invokeinterface 89956 2 :: is) ls (a1 :: (3, o) :: st) h = (((o ≠ 0 ∧ o % 64 = 11) ∧ wds st ≤ 8) ∧ 0 < d ∧ Sp fz (d - 1) 351 [(3, o), a1] h (fun x h => X fz d k Q is ls st h)) := rfl
theorem x_call352 {fz : Int → Int → Option Int} {d k : Nat} {Q : Int → HV → Prop} {is : List Instr} {h : HV} {ls st : List AV} {o : Int} {a1 a2 a3 : AV}  : X fz d k Q (.invokeinterface 90208 4 :: is) ls (a3 :: a2 :: a1 :: (3, o) :: st) h = (((o ≠ 0 ∧ o % 64 = 11) ∧ wds st ≤ 8) ∧ 0 < d ∧ Sp fz (d - 1) 352 [(3, o), a1, a2, a3] h (fun x h => X fz d k Q is ls ((0, x) :: st) h)) := rfl
theorem x_call353 {fz : Int → Int → Option Int} {d k : Nat} {Q : Int → HV → Prop} {is : List Instr} {h : HV} {ls st : List AV} {o : Int}  : X fz d k Q (.invokeinterface 90468 1 :: is) ls ((3, o) :: st) h = (((o ≠ 0 ∧ o % 64 = 11) ∧ wds st ≤ 8) ∧ 0 < d ∧ Sp fz (d - 1) 353 [(3, o)] h (fun x h => X fz d k Q is ls st h)) := rfl
theorem x_call354 {fz : Int → Int → Option Int} {d k : Nat} {Q : Int → HV → Prop} {is : List Instr} {h : HV} {ls st : List AV} {o : Int}  : X fz d k Q (.invokeinterface 90724 1 :: is) ls ((3, o) :: st) h = (((o ≠ 0 ∧ o % 64 = 11) ∧ wds st ≤ 8) ∧ 0 < d ∧ Sp fz (d - 1) 354 [(3, o)] h (fun x h => X fz d k Q is ls st h)) := rfl
theorem x_call355 {fz : Int → Int → Option Int} {d k : Nat} {Q : Int → HV → Prop} {is : List Instr} {h : HV} {ls st : List AV} {o : Int}  : X fz d k Q (.invokeinterface 90980 1 :: is) ls ((3, o) :: st) h = (((o ≠ 0 ∧ o % 64 = 11) ∧ wds st ≤ 8) ∧ 0 < d ∧ Sp fz (d - 1) 355 [(3, o)] h (fun x h => X fz d k Q is ls st h)) := rfl
theorem x_call356 {fz : Int → Int → Option Int} {d k : Nat} {Q : Int → HV → Prop} {is : List Instr} {h : HV} {ls st : List AV} {o : Int}  : X fz d k Q (.invokeinterface 91236 1 :: is) ls ((3, o) :: st) h = (((o ≠ 0 ∧ o % 64 = 11) ∧ wds st ≤ 8) ∧ 0 < d ∧ Sp fz (d - 1) 356 [(3, o)] h (fun x h => X fz d k Q is ls st h)) := rfl
theorem x_call357 {fz : Int → Int → Option Int} {d k : Nat} {Q : Int → HV → Prop} {is : List Instr} {h : HV} {ls st : List AV} {o : Int}  : X fz d k Q (.invokeinterface 91492 1 :: is) ls ((3, o) :: st) h = (((o ≠ 0 ∧ o % 64 = 11) ∧ wds st ≤ 8) ∧ 0 < d ∧ Sp fz (d - 1) 357 [(3, o)] h (fun x h => X fz d k Q is ls st h)) := rfl
theorem x_call358 {fz : Int → Int → Option Int} {d k : Nat} {Q : Int → HV → Prop} {is : List Instr} {h : HV} {ls st : List AV} {o : Int}  : X fz d k Q (.invokeinterface 91748 1 :: is) ls ((3, o) :: st) h = (((o ≠ 0 ∧ o % 64 = 11) ∧ wds st ≤ 8) ∧ 0 < d ∧ Sp fz (d - 1) 358 [(3, o)] h (fun x h => X fz d k Q is ls st h)) := rfl
theorem x_call359 {fz : Int → Int → Option Int} {d k : Nat} {Q : Int → HV → Prop} {is : List Instr} {h : HV} {ls st : List AV} {o : Int}  : X fz d k Q (.invokeinterface 92004 1 :: is) ls ((3, o) :: st) h = (((o ≠ 0 ∧ o % 64 = 11) ∧ wds st ≤ 8) ∧ 0 < d ∧ Sp fz (d - 1) 359 [(3, o)] h (fun x h => X fz d k Q is ls st h)) := rfl
theorem x_call36 {fz : Int → Int → Option Int} {d k : Nat} {Q : Int → HV → Prop} {is : List Instr} {h : HV} {ls st : List AV} {o : Int}  : X fz d k Q (.invokeinterface 9328 1 :: is) ls ((3, o) :: st) h = (((o ≠ 0 ∧ o % 64 = 13) ∧ wds st ≤ 8) ∧ 0 < d ∧ Sp fz (d - 1) 36 [(3, o)] h (fun x h => X fz d k Q is ls ((0, x) :: st) h)) := rfl
theorem x_call360 {fz : Int → Int → Option Int} {d k : Nat} {Q : Int → HV → Prop} {is : List Instr} {h : HV} {ls st : List AV} {o : Int}  : X fz d k Q (.invokeinterface 92260 1 :: is) ls ((3, o) :: st) h = (((o ≠ 0 ∧ o % 64 = 11) ∧ wds st ≤ 8) ∧ 0 < d ∧ Sp fz (d - 1) 360 [(3, o)] h (fun x h => X fz d k Q is ls st h)) := rfl
theorem x_call361 {fz : Int → Int → Option Int} {d k : Nat} {Q : Int → HV → Prop} {is : List Instr} {h : HV} {ls st : List AV} {o : Int} {a1 : AV}  : X fz d k Q (.invokeinterface 92516 2 :: is) ls (a1 :: (3, o) :: st) h = (((o ≠ 0 ∧ o % 64 = 11) ∧ wds st ≤ 8) ∧ 0 < d ∧ Sp fz (d - 1) 361 [(3, o), a1] h (fun x h => X fz d k Q is ls st h)) := rfl
theorem x_call362 {fz : Int → Int → Option Int} {d k : Nat} {Q : Int → HV → Prop} {is : List Instr} {h : HV} {ls st : List AV} {o : Int}  : X fz d k Q (.invokeinterface 92772 1 :: is) ls ((3, o) :: st) h = (((o ≠ 0 ∧ o % 64 = 11) ∧ wds st ≤ 8) ∧ 0 < d ∧ Sp fz (d - 1) 362 [(3, o)] h (fun x h => X fz d k Q is ls st h)) := rfl
theorem x_call363 {fz : Int → Int → Option Int} {d k : Nat} {Q : Int → HV → Prop} {is : List Instr} {h : HV} {ls st : List AV} {o : Int} {a1 a2 a3 : AV}  : X fz d k Q (.invokeinterface 93028 4 :: is) ls (a3 :: a2 :: a1 :: (3, o) :: st) h = (((o ≠ 0 ∧ o % 64 = 11) ∧ wds st ≤ 8) ∧ 0 < d ∧ Sp fz (d - 1) 363 [(3, o), a1, a2, a3] h (fun x h => X fz d k Q is ls st h)) := rfl
theorem x_call364 {fz : Int → Int → Option Int} {d k : Nat} {Q : Int → HV → Prop} {is : List Instr} {h : HV} {ls st : List AV} {o : Int}  : X fz d k Q (.invokeinterface 93284 1 :: is) ls ((3, o) :: st) h = (((o ≠ 0 ∧ o % 64 = 11) ∧ wds st ≤ 8) ∧ 0 < d ∧ Sp fz (d - 1) 364 [(3, o)] h (fun x h => X fz d k Q is ls st h)) := rfl
theorem x_call365 {fz : Int → Int → Option Int} {d k : Nat} {Q : Int → HV → Prop} {is : List Instr} {h : HV} {ls st : List AV} {o : Int}  : X fz d k Q (.invokeinterface 93540 1 :: is) ls ((3, o) :: st) h = (((o ≠ 0 ∧ o % 64 = 11) ∧ wds st ≤ 8) ∧ 0 < d ∧ Sp fz (d - 1) 365 [(3, o)] h (fun x h => X fz d k Q is ls st h)) := rfl
theorem x_call366 {fz : Int → Int → Option Int} {d k : Nat} {Q : Int → HV → Prop} {is : List Instr} {h : HV} {ls st : List AV} {o : Int} {a1 : AV}  : X fz d k Q (.invokeinterface 93796 2 :: is) ls (a1 :: (3, o) :: st) h = (((o ≠ 0 ∧ o % 64 = 11) ∧ wds st ≤ 8) ∧ 0 < d ∧ Sp fz (d - 1) 366 [(3, o), a1] h (fun x h => X fz d k Q is ls st h)) := rfl
theorem x_call367 {fz : Int → Int → Option Int} {d k : Nat} {Q : Int → HV → Prop} {is : List Instr} {h : HV} {ls st : List AV} {o : Int}  : X fz d k Q (.invokeinterface 94052 1 :: is) ls ((3, o) :: st) h = (((o ≠ 0 ∧ o % 64 = 11) ∧ wds st ≤ 8) ∧ 0 < d ∧ Sp fz (d - 1) 367 [(3, o)] h (fun x h => X fz d k Q is ls st h)) := rfl
theorem x_call368 {fz : Int → Int → Option Int} {d k : Nat} {Q : Int → HV → Prop} {is : List Instr} {h : HV} {ls st : List AV} {o : Int}  : X fz d k Q (.invokeinterface 94304 1 :: is) ls ((3, o) :: st) h = (((o ≠ 0 ∧ o % 64 = 11) ∧ wds st ≤ 8) ∧ 0 < d ∧ Sp fz (d - 1) 368 [(3, o)] h (fun x h => X fz d k Q is ls ((0, x) :: st) h)) := rfl
theorem x_call369 {fz : Int → Int → Option Int} {d k : Nat} {Q : Int → HV → Prop} {is : List Instr} {h : HV} {ls st : List AV} {o : Int}  : X fz d k Q (.invokeinterface 94564 1 :: is) ls ((3, o) :: st) h = (((o ≠ 0 ∧ o % 64 = 11) ∧ wds st ≤ 8) ∧ 0 < d ∧ Sp fz (d - 1) 369 [(3, o)] h (fun x h => X fz d k Q is ls st h)) := rfl
theorem x_call37 {fz : Int → Int → Option Int} {d k : Nat} {Q : Int → HV → Prop} {is : List Instr} {h : HV} {ls st : List AV} {o : Int}  : X fz d k Q (.invokeinterface 9584 1 :: is) ls ((3, o) :: st) h = (((o ≠ 0 ∧ o % 64 = 13) ∧ wds st ≤ 8) ∧ 0 < d ∧ Sp fz (d - 1) 37 [(3, o)] h (fun x h => X fz d k Q is ls ((0, x) :: st) h)) := rfl
theorem x_call370 {fz : Int → Int → Option Int} {d k : Nat} {Q : Int → HV → Prop} {is : List Instr} {h : HV} {ls st : List AV} {o : Int} {a1 : AV}  : X fz d k Q (.invokeinterface 94820 2 :: is) ls (a1 :: (3, o) :: st) h = (((o ≠ 0 ∧ o % 64 = 11) ∧ wds st ≤ 8) ∧ 0 < d ∧ Sp fz (d - 1) 370 [(3, o), a1] h (fun x h => X fz d k Q is ls st h)) := rfl
theorem x_call371 {fz : Int → Int → Option Int} {d k : Nat} {Q : Int → HV → Prop} {is : List Instr} {h : HV} {ls st : List AV} {o : Int}  : X fz d k Q (.invokeinterface 95076 1 :: is) ls ((3, o) :: st) h = (((o ≠ 0 ∧ o % 64 = 11) ∧ wds st ≤ 8) ∧ 0 < d ∧ Sp fz (d - 1) 371 [(3, o)] h (fun x h => X fz d k Q is ls st h)) := rfl
theorem x_call372 {fz : Int → Int → Option Int} {d k : Nat} {Q : Int → HV → Prop} {is : List Instr} {h : HV} {ls st : List AV} {o : Int} {a1 a2 a3 : AV}  : X fz d k Q (.invokeinterface 95328 4 :: is) ls (a3 :: a2 :: a1 :: (3, o) :: st) h = (((o ≠ 0 ∧ o % 64 = 11) ∧ wds st ≤ 8) ∧ 0 < d ∧ Sp fz (d - 1) 372 [(3, o), a1, a2, a3] h (fun x h => X fz d k Q is ls ((0, x) :: st) h)) := rfl
theorem x_call373 {fz : Int → Int → Option Int} {d k : Nat} {Q : Int → HV → Prop} {is : List Instr} {h : HV} {ls st : List AV} {o : Int} {a1 a2 : AV}  : X fz d k Q (.invokeinterface 95584 3 :: is) ls (a2 :: a1 :: (3, o) :: st) h = (((o ≠ 0 ∧ o % 64 = 11) ∧ wds st ≤ 8) ∧ 0 < d ∧ Sp fz (d - 1) 373 [(3, o), a1, a2] h (fun x h => X fz d k Q is ls ((0, x) :: st) h)) := rfl
theorem x_call374 {fz : Int → Int → Option Int} {d k : Nat} {Q : Int → HV → Prop} {is : List Instr} {h : HV} {ls st : List AV} {a0 a1 a2 : AV}  : X fz d k Q (.invokeinterface 95744 3 :: is) ls (a2 :: a1 :: a0 :: st) h = ((True ∧ wds st ≤ 8) ∧ 0 < d ∧ Sp fz (d - 1) 374 [a0, a1, a2] h (fun x h => X fz d k Q is ls ((0, x) :: st) h)) := rfl
theorem x_call375 {fz : Int → Int → Option Int} {d k : Nat} {Q : Int → HV → Prop} {is : List Instr} {h : HV} {ls st : List AV} {o : Int} {a1 : AV}  : X fz d k Q (.invokeinterface 96096 2 :: is) ls (a1 :: (3, o) :: st) h = (((o ≠ 0 ∧ o % 64 = 11) ∧ wds st ≤ 8) ∧ 0 < d ∧ Sp fz (d - 1) 375 [(3, o), a1] h (fun x h => X fz d k Q is ls ((0, x) :: st) h)) := rfl
theorem x_call376 {fz : Int → Int → Option Int} {d k : Nat} {Q : Int → HV → Prop} {is : List Instr} {h : HV} {ls st : List AV} {o : Int} {a1 a2 : AV}  : X fz d k Q (.invokeinterface 96352 3 :: is) ls (a2 :: a1 :: (3, o) :: st) h = (((o ≠ 0 ∧ o % 64 = 11) ∧ wds st ≤ 8) ∧ 0 < d ∧ Sp fz (d - 1) 376 [(3, o), a1, a2] h (fun x h => X fz d k Q is ls ((0, x) :: st) h)) := rfl
theorem x_call377 {fz : Int → Int → Option Int} {d k : Nat} {Q : Int → HV → Prop} {is : List Instr} {h : HV} {ls st : List AV} {o : Int} {a1 : AV}  : X fz d k Q (.invokeinterface 96608 2 :: is) ls (a1 :: (3, o) :: st) h = (((o ≠ 0 ∧ o % 64 = 11) ∧ wds st ≤ 8) ∧ 0 < d ∧ Sp fz (d - 1) 377 [(3, o), a1] h (fun x h => X fz d k Q is ls ((0, x) :: st) h)) := rfl
theorem x_call378 {fz : Int → Int → Option Int} {d k : Nat} {Q : Int → HV → Prop} {is : List Instr} {h : HV} {ls st : List AV} {o : Int} {a1 a2 : AV}  : X fz d k Q (.invokeinterface 96864 3 :: is) ls (a2 :: a1 :: (3, o) :: st) h = (((o ≠ 0 ∧ o % 64 = 11) ∧ wds st ≤ 8) ∧ 0 < d ∧ Sp fz (d - 1) 378 [(3, o), a1, a2] h (fun x h => X fz d k Q is ls ((0, x) :: st) h)) := rfl
theorem x_call379 {fz : Int → Int → Option Int} {d k : Nat} {Q : Int → HV → Prop} {is : List Instr} {h : HV} {ls st : List AV} {o : Int} {a1 a2 : AV}  : X fz d k Q (.invokeinterface 97120 3 :: is) ls (a2 :: a1 :: (3, o) :: st) h = (((o ≠ 0 ∧ o % 64 = 11) ∧ wds st ≤ 8) ∧ 0 < d ∧ Sp fz (d - 1) 379 [(3, o), a1, a2] h (fun x h => X fz d k Q is ls ((0, x) :: st) h)) := rfl
theorem x_call38 {fz : Int → Int → Option Int} {d k : Nat} {Q : Int → HV → Prop} {is : List Instr} {h : HV} {ls st : List AV} {a0 a1 a2 a3 : AV}  : X fz d k Q (.invokeinterface 9728 4 :: is) ls (a3 :: a2 :: a1 :: a0 :: st) h = ((True ∧ wds st ≤ 8) ∧ 0 < d ∧ Sp fz (d - 1) 38 [a0, a1, a2, a3] h (fun x h => X fz d k Q is ls ((0, x) :: st) h)) := rfl
theorem x_call380 {fz : Int → Int → Option Int} {d k : Nat} {Q : Int → HV → Prop} {is : List Instr} {h : HV} {ls st : List AV} {o : Int} {a1 a2 a3 : AV}  : X fz d k Q (.invokeinterface 97376 4 :: is) ls (a3 :: a2 :: a1 :: (3, o) :: st) h = (((o ≠ 0 ∧ o % 64 = 11) ∧ wds st ≤ 8) ∧ 0 < d ∧ Sp fz (d - 1) 380 [(3, o), a1, a2, a3] h (fun x h => X fz d k Q is ls ((0, x) :: st) h)) := rfl
theorem x_call381 {fz : Int → Int → Option Int} {d k : Nat} {Q : Int → HV → Prop} {is : List Instr} {h : HV} {ls st : List AV} {o : Int} {a1 : AV}  : X fz d k Q (.invokeinterface 97632 2 :: is) ls (a1 :: (3, o) :: st) h = (((o ≠ 0 ∧ o % 64 = 11) ∧ wds st ≤ 8) ∧ 0 < d ∧ Sp fz (d - 1) 381 [(3, o), a1] h (fun x h => X fz d k Q is ls ((0, x) :: st) h)) := rfl
theorem x_call382 {fz : Int → Int → Option Int} {d k : Nat} {Q : Int → HV → Prop} {is : List Instr} {h : HV} {ls st : List AV} {o : Int} {a1 a2 : AV}  : X fz d k Q (.invokeinterface 97888 3 :: is) ls (a2 :: a1 :: (3, o) :: st) h = (((o ≠ 0 ∧ o % 64 = 11) ∧ wds st ≤ 8) ∧ 0 < d ∧ Sp fz (d - 1) 382 [(3, o), a1, a2] h (fun x h => X fz d k Q is ls ((0, x) :: st) h)) := rfl
theorem x_call383 {fz : Int → Int → Option Int} {d k : Nat} {Q : Int → HV → Prop} {is : List Instr} {h : HV} {ls st : List AV} {o : Int} {a1 a2 a3 a4 : AV}  : X fz d k Q (.invokeinterface 98144 5 :: is) ls (a4 :: a3 :: a2 :: a1 :: (3, o) :: st) h = (((o ≠ 0 ∧ o % 64 = 11) ∧ wds st ≤ 8) ∧ 0 < d ∧ Sp fz (d - 1) 383 [(3, o), a1, a2, a3, a4] h (fun x h => X fz d k Q is ls ((0, x) :: st) h)) := rfl
theorem x_call384 {fz : Int → Int → Option Int} {d k : Nat} {Q : Int → HV → Prop} {is : List Instr} {h : HV} {ls st : List AV} {o : Int} {a1 a2 a3 : AV}  : X fz d k Q (.invokeinterface 98400 4 :: is) ls (a3 :: a2 :: a1 :: (3, o) :: st) h = (((o ≠ 0 ∧ o % 64 = 11) ∧ wds st ≤ 8) ∧ 0 < d ∧ Sp fz (d - 1) 384 [(3, o), a1, a2, a3] h (fun x h => X fz d k Q is ls ((0, x) :: st) h)) := rfl
theorem x_call385 {fz : Int → Int → Option Int} {d k : Nat} {Q : Int → HV → Prop} {is : List Instr} {h : HV} {ls st : List AV} {o : Int} {a1 a2 a3 a4 a5 a6 : AV}  : X fz d k Q (.invokeinterface 98656 7 :: is) ls (a6 :: a5 :: a4 :: a3 :: a2 :: a1 :: (3, o) :: st) h = (((o ≠ 0 ∧ o % 64 = 11) ∧ wds st ≤ 8) ∧ 0 < d ∧ Sp fz (d - 1) 385 [(3, o), a1, a2, a3, a4, a5, a6] h (fun x h => X fz d k Q is ls ((0, x) :: st) h)) := rfl
theorem x_call386 {fz : Int → Int → Option Int} {d k : Nat} {Q : Int → HV → Prop} {is : List Instr} {h : HV} {ls st : List AV} {o : Int} {a1 : AV}  : X fz d k Q (.invokeinterface 98912 2 :: is) ls (a1 :: (3, o) :: st) h = (((o ≠ 0 ∧ o % 64 = 11) ∧ wds st ≤ 8) ∧ 0 < d ∧ Sp fz (d - 1) 386 [(3, o), a1] h (fun x h => X fz d k Q is ls ((0, x) :: st) h)) := rfl
theorem x_call387 {fz : Int → Int → Option Int} {d k : Nat} {Q : Int → HV → Prop} {is : List Instr} {h : HV} {ls st : List AV} {o : Int} {a1 a2 a3 a4 a5 a6 : AV}  : X fz d k Q (.invokeinterface 99168 7 :: is) ls (a6 :: a5 :: a4 :: a3 :: a2 :: a1 :: (3, o) :: st) h = (((o ≠ 0 ∧ o % 64 = 11) ∧ wds st ≤ 8) ∧ 0 < d ∧ Sp fz (d - 1) 387 [(3, o), a1, a2, a3, a4, a5, a6] h (fun x h => X fz d k Q is ls ((0, x) :: st) h)) := rfl
theorem x_call388 {fz : Int → Int → Option Int} {d k : Nat} {Q : Int → HV → Prop} {is : List Instr} {h : HV} {ls st : List AV} {o : Int}  : X fz d k Q (.invokeinterface 99428 1 :: is) ls ((3, o) :: st) h = (((o ≠ 0 ∧ o % 64 = 11) ∧ wds st ≤ 8) ∧ 0 < d ∧ Sp fz (d - 1) 388 [(3, o)] h (fun x h => X fz d k Q is ls st h)) := rfl
theorem x_call389 {fz : Int → Int → Option Int} {d k : Nat} {Q : Int → HV → Prop} {is : List Instr} {h : HV} {ls st : List AV} {o : Int} {a1 : AV}  : X fz d k Q (.invokeinterface 99680 2 :: is) ls (a1 :: (3, o) :: st) h = (((o ≠ 0 ∧ o % 64 = 11) ∧ wds st ≤ 8) ∧ 0 < d ∧ Sp fz (d - 1) 389 [(3, o), a1] h (fun x h => X fz d k Q is ls ((0, x) :: st) h)) := rfl
theorem x_call39 {fz : Int → Int → Option Int} {d k : Nat} {Q : Int → HV → Prop} {is : List Instr} {h : HV} {ls st : List AV} {a0 : AV}  : X fz d k Q (.invokeinterface 9984 1 :: is) ls (a0 :: st) h = ((True ∧ wds st ≤ 8) ∧ 0 < d ∧ Sp fz (d - 1) 39 [a0] h (fun x h => X fz d k Q is ls ((0, x) :: st) h)) := rfl
theorem x_call390 {fz : Int → Int → Option Int} {d k : Nat} {Q : Int → HV → Prop} {is : List Instr} {h : HV} {ls st : List AV} {o : Int} {a1 : AV}  : X fz d k Q (.invokeinterface 99936 2 :: is) ls (a1 :: (3, o) :: st) h = (((o ≠ 0 ∧ o % 64 = 11) ∧ wds st ≤ 8) ∧ 0 < d ∧ Sp fz (d - 1) 390 [(3, o), a1] h (fun x h => X fz d k Q is ls ((0, x) :: st) h)) := rfl
theorem x_call391 {fz : Int → Int → Option Int} {d k : Nat} {Q : Int → HV → Prop} {is : List Instr} {h : HV} {ls st : List AV} {o : Int} {a1 : AV}  : X fz d k Q (.invokeinterface 100192 2 :: is) ls (a1 :: (3, o) :: st) h = (((o ≠ 0 ∧ o % 64 = 11) ∧ wds st ≤ 8) ∧ 0 < d ∧ Sp fz (d - 1) 391 [(3, o), a1] h (fun x h => X fz d k Q is ls ((0, x) :: st) h)) := rfl
theorem x_call392 {fz : Int → Int → Option Int} {d k : Nat} {Q : Int → HV → Prop} {is : List Instr} {h : HV} {ls st : List AV} {o : Int} {a1 : AV}  : X fz d k Q (.invokeinterface 100452 2 :: is) ls (a1 :: (3, o) :: st) h = (((o ≠ 0 ∧ o % 64 = 11) ∧ wds st ≤ 8) ∧ 0 < d ∧ Sp fz (d - 1) 392 [(3, o), a1] h (fun x h => X fz d k Q is ls st h)) := rfl
theorem x_call393 {fz : Int → Int → Option Int} {d k : Nat} {Q : Int → HV → Prop} {is : List Instr} {h : HV} {ls st : List AV} {o : Int} {a1 a2 a3 a4 : AV}  : X fz d k Q (.invokeinterface 100708 5 :: is) ls (a4 :: a3 :: a2 :: a1 :: (3, o) :: st) h = (((o ≠ 0 ∧ o % 64 = 11) ∧ wds st ≤ 8) ∧ 0 < d ∧ Sp fz (d - 1) 393 [(3, o), a1, a2, a3, a4] h (fun x h => X fz d k Q is ls st h)) := rfl
theorem x_call394 {fz : Int → Int → Option Int} {d k : Nat} {Q : Int → HV → Prop} {is : List Instr} {h : HV} {ls st : List AV} {o : Int} {a1 a2 : AV}  : X fz d k Q (.invokeinterface 100964 3 :: is) ls (a2 :: a1 :: (3, o) :: st) h = (((o ≠ 0 ∧ o % 64 = 11) ∧ wds st ≤ 8) ∧ 0 < d ∧ Sp fz (d - 1) 394 [(3, o), a1, a2] h (fun x h => X fz d k Q is ls st h)) := rfl
theorem x_call395 {fz : Int → Int → Option Int} {d k : Nat} {Q : Int → HV → Prop} {is : List Instr} {h : HV} {ls st : List AV} {o : Int}  : X fz d k Q (.invokeinterface 101216 1 :: is) ls ((3, o) :: st) h = (((o ≠ 0 ∧ o % 64 = 11) ∧ wds st ≤ 8) ∧ 0 < d ∧ Sp fz (d - 1) 395 [(3, o)] h (fun x h => X fz d k Q is ls ((0, x) :: st) h)) := rfl
theorem x_call396 {fz : Int → Int → Option Int} {d k : Nat} {Q : Int → HV → Prop} {is : List Instr} {h : HV} {ls st : List AV} {o : Int}  : X fz d k Q (.invokeinterface 101476 1 :: is) ls ((3, o) :: st) h = (((o ≠ 0 ∧ o % 64 = 11) ∧ wds st ≤ 8) ∧ 0 < d ∧ Sp fz (d - 1) 396 [(3, o)] h (fun x h => X fz d k Q is ls st h)) := rfl
theorem x_call397 {fz : Int → Int → Option Int} {d k : Nat} {Q : Int → HV → Prop} {is : List Instr} {h : HV} {ls st : List AV} {a0 a1 : AV}  : X fz d k Q (.invokeinterface 101632 2 :: is) ls (a1 :: a0 :: st) h = ((True ∧ wds st ≤ 8) ∧ 0 < d ∧ Sp fz (d - 1) 397 [a0, a1] h (fun x h => X fz d k Q is ls ((0, x) :: st) h)) := rfl
theorem x_call398 {fz : Int → Int → Option Int} {d k : Nat} {Q : Int → HV → Prop} {is : List Instr} {h : HV} {ls st : List AV} {o : Int} {a1 : AV}  : X fz d k Q (.invokeinterface 101985 2 :: is) ls (a1 :: (3, o) :: st) h = (((o ≠ 0 ∧ o % 64 = 11) ∧ wds st ≤ 8) ∧ 0 < d ∧ Sp fz (d - 1) 398 [(3, o), a1] h (fun x h => X fz d k Q is ls ((1, x) :: st) h)) := rfl
theorem x_call399 {fz : Int → Int → Option Int} {d k : Nat} {Q : Int → HV → Prop} {is : List Instr} {h : HV} {ls st : List AV} {o : Int} {a1 : AV}  : X fz d k Q (.invokeinterface 102240 2 :: is) ls (a1 :: (3, o) :: st) h = (((o ≠ 0 ∧ o % 64 = 11) ∧ wds st ≤ 8) ∧ 0 < d ∧ Sp fz (d - 1) 399 [(3, o), a1] h (fun x h => X fz d k Q is ls ((0, x) :: st) h)) := rfl
theorem x_call4 {fz : Int → Int → Option Int} {d k : Nat} {Q : Int → HV → Prop} {is : List Instr} {h : HV} {ls st : List AV} {o : Int}  : X fz d k Q (.invokeinterface 1060 1 :: is) ls ((3, o) :: st) h = (((o ≠ 0 ∧ o % 64 = 3) ∧ wds st ≤ 8) ∧ 0 < d ∧ Sp fz (d - 1) 4 [(3, o)] h (fun x h => X fz d k Q is ls st h)) := rfl
theorem x_call40 {fz : Int → Int → Option Int} {d k : Nat} {Q : Int → HV → Prop} {is : List Instr} {h : HV} {ls st : List AV} {a0 a1 : AV}  : X fz d k Q (.invokeinterface 10240 2 :: is) ls (a1 :: a0 :: st) h = ((True ∧ wds st ≤ 8) ∧ 0 < d ∧ Sp fz (d - 1) 40 [a0, a1] h (fun x h => X fz d k Q is ls ((0, x) :: st) h)) := rfl
theorem x_call400 {fz : Int → Int → Option Int} {d k : Nat} {Q : Int → HV → Prop} {is : List Instr} {h : HV} {ls st : List AV} {o : Int} {a1 a2 : AV}  : X fz d k Q (.invokeinterface 102500 3 :: is) ls (a2 :: a1 :: (3, o) :: st) h = (((o ≠ 0 ∧ o % 64 = 11) ∧ wds st ≤ 8) ∧ 0 < d ∧ Sp fz (d - 1) 400 [(3, o), a1, a2] h (fun x h => X fz d k Q is ls st h)) := rfl
theorem x_call401 {fz : Int → Int → Option Int} {d k : Nat} {Q : Int → HV → Prop} {is : List Instr} {h : HV} {ls st : List AV} {a0 : AV}  : X fz d k Q (.invokeinterface 102657 1 :: is) ls (a0 :: st) h = ((True ∧ wds st ≤ 8) ∧ 0 < d ∧ Sp fz (d - 1) 401 [a0] h (fun x h => X fz d k Q is ls ((1, x) :: st) h)) := rfl
theorem x_call402 {fz : Int → Int → Option Int} {d k : Nat} {Q : Int → HV → Prop} {is : List Instr} {h : HV} {ls st : List AV} {a0 : AV}  : X fz d k Q (.invokeinterface 102913 1 :: is) ls (a0 :: st) h = ((True ∧ wds st ≤ 8) ∧ 0 < d ∧ Sp fz (d - 1) 402 [a0] h (fun x h => X fz d k Q is ls ((1, x) :: st) h)) := rfl
theorem x_call403 {fz : Int → Int → Option Int} {d k : Nat} {Q : Int → HV → Prop} {is : List Instr} {h : HV} {ls st : List AV} {a0 : AV}  : X fz d k Q (.invokeinterface 103168 1 :: is) ls (a0 :: st) h = ((True ∧ wds st ≤ 8) ∧ 0 < d ∧ Sp fz (d - 1) 403 [a0] h (fun x h => X fz d k Q is ls ((0, x) :: st) h)) := rfl
theorem x_call404 {fz : Int → Int → Option Int} {d k : Nat} {Q : Int → HV → Prop} {is : List Instr} {h : HV} {ls st : List AV} {o : Int} {a1 : AV}  : X fz d k Q (.invokeinterface 103524 2 :: is) ls (a1 :: (3, o) :: st) h = (((o ≠ 0 ∧ o % 64 = 11) ∧ wds st ≤ 8) ∧ 0 < d ∧ Sp fz (d - 1) 404 [(3, o), a1] h (fun x h => X fz d k Q is ls st h)) := rfl
theorem x_call405 {fz : Int → Int → Option Int} {d k : Nat} {Q : Int → HV → Prop} {is : List Instr} {h : HV} {ls st : List AV} {o : Int} {a1 : AV}  : X fz d k Q (.invokeinterface 103776 2 :: is) ls (a1 :: (3, o) :: st) h = (((o ≠ 0 ∧ o % 64 = 11) ∧ wds st ≤ 8) ∧ 0 < d ∧ Sp fz (d - 1) 405 [(3, o), a1] h (fun x h => X fz d k Q is ls ((0, x) :: st) h)) := rfl
theorem x_call406 {fz : Int → Int → Option Int} {d k : Nat} {Q : Int → HV → Prop} {is : List Instr} {h : HV} {ls st : List AV} {o : Int} {a1 : AV}  : X fz d k Q (.invokeinterface 104034 2 :: is) ls (a1 :: (3, o) :: st) h = (((o ≠ 0 ∧ o % 64 = 11) ∧ wds st ≤ 8) ∧ 0 < d ∧ Sp fz (d - 1) 406 [(3, o), a1] h (fun x h => X fz d k Q is ls ((2, x) :: st) h)) := rfl
theorem x_call407 {fz : Int → Int → Option Int} {d k : Nat} {Q : Int → HV → Prop} {is : List Instr} {h : HV} {ls st : List AV} {o : Int} {a1 : AV}  : X fz d k Q (.invokeinterface 104292 2 :: is) ls (a1 :: (3, o) :: st) h = (((o ≠ 0 ∧ o % 64 = 11) ∧ wds st ≤ 8) ∧ 0 < d ∧ Sp fz (d - 1) 407 [(3, o), a1] h (fun x h => X fz d k Q is ls st h)) := rfl
theorem x_call408 {fz : Int → Int → Option Int} {d k : Nat} {Q : Int → HV → Prop} {is : List Instr} {h : HV} {ls st : List AV} {o : Int} {a1 : AV}  : X fz d k Q (.invokeinterface 104548 2 :: is) ls (a1 :: (3, o) :: st) h = (((o ≠ 0 ∧ o % 64 = 11) ∧ wds st ≤ 8) ∧ 0 < d ∧ Sp fz (d - 1) 408 [(3, o), a1] h (fun x h => X fz d k Q is ls st h)) := rfl
theorem x_call409 {fz : Int → Int → Option Int} {d k : Nat} {Q : Int → HV → Prop} {is : List Instr} {h : HV} {ls st : List AV} {a0 a1 a2 : AV}  : X fz d k Q (.invokeinterface 104704 3 :: is) ls (a2 :: a1 :: a0 :: st) h = ((True ∧ wds st ≤ 8) ∧ 0 < d ∧ Sp fz (d - 1) 409 [a0, a1, a2] h (fun x h => X fz d k Q is ls ((0, x) :: st) h)) := rfl
theorem x_call41 {fz : Int → Int → Option Int} {d k : Nat} {Q : Int → HV → Prop} {is : List Instr} {h : HV} {ls st : List AV} {a0 a1 : AV}  : X fz d k Q (.invokeinterface 10496 2 :: is) ls (a1 :: a0 :: st) h = ((True ∧ wds st ≤ 8) ∧ 0 < d ∧ Sp fz (d - 1) 41 [a0, a1] h (fun x h => X fz d k Q is ls ((0, x) :: st) h)) := rfl
theorem x_call410 {fz : Int → Int → Option Int} {d k : Nat} {Q : Int → HV → Prop} {is : List Instr} {h : HV} {ls st : List AV} {a0 : AV}  : X fz d k Q (.invokeinterface 104960 1 :: is) ls (a0 :: st) h = ((True ∧ wds st ≤ 8) ∧ 0 < d ∧ Sp fz (d - 1) 410 [a0] h (fun x h => X fz d k Q is ls ((0, x) :: st) h)) := rfl
theorem x_call411 {fz : Int → Int → Option Int} {d k : Nat} {Q : Int → HV → Prop} {is : List Instr} {h : HV} {ls st : List AV} {o : Int}  : X fz d k Q (.invokeinterface 105316 1 :: is) ls ((3, o) :: st) h = (((o ≠ 0 ∧ o % 64 = 11) ∧ wds st ≤ 8) ∧ 0 < d ∧ Sp fz (d - 1) 411 [(3, o)] h (fun x h => X fz d k Q is ls st h)) := rfl
theorem x_call412 {fz : Int → Int → Option Int} {d k : Nat} {Q : Int → HV → Prop} {is : List Instr} {h : HV} {ls st : List AV} {o : Int}  : X fz d k Q (.invokeinterface 105572 1 :: is) ls ((3, o) :: st) h = (((o ≠ 0 ∧ o % 64 = 11) ∧ wds st ≤ 8) ∧ 0 < d ∧ Sp fz (d - 1) 412 [(3, o)] h (fun x h => X fz d k Q is ls st h)) := rfl
theorem x_call413 {fz : Int → Int → Option Int} {d k : Nat} {Q : Int → HV → Prop} {is : List Instr} {h : HV} {ls st : List AV} {o : Int} {a1 a2 : AV}  : X fz d k Q (.invokeinterface 105828 3 :: is) ls (a2 :: a1 :: (3, o) :: st) h = (((o ≠ 0 ∧ o % 64 = 11) ∧ wds st ≤ 8) ∧ 0 < d ∧ Sp fz (d - 1) 413 [(3, o), a1, a2] h (fun x h => X fz d k Q is ls st h)) := rfl
theorem x_call414 {fz : Int → Int → Option Int} {d k : Nat} {Q : Int → HV → Prop} {is : List Instr} {h : HV} {ls st : List AV} {o : Int} {a1 : AV}  : X fz d k Q (.invokeinterface 106084 2 :: is) ls (a1 :: (3, o) :: st) h = (((o ≠ 0 ∧ o % 64 = 11) ∧ wds st ≤ 8) ∧ 0 < d ∧ Sp fz (d - 1) 414 [(3, o), a1] h (fun x h => X fz d k Q is ls st h)) := rfl
theorem x_call415 {fz : Int → Int → Option Int} {d k : Nat} {Q : Int → HV → Prop} {is : List Instr} {h : HV} {ls st : List AV} {o : Int} {a1 : AV}  : X fz d k Q (.invokeinterface 106340 2 :: is) ls (a1 :: (3, o) :: st) h = (((o ≠ 0 ∧ o % 64 = 11) ∧ wds st ≤ 8) ∧ 0 < d ∧ Sp fz (d - 1) 415 [(3, o), a1] h (fun x h => X fz d k Q is ls st h)) := rfl
theorem x_call416 {fz : Int → Int → Option Int} {d k : Nat} {Q : Int → HV → Prop} {is : List Instr} {h : HV} {ls st : List AV} {o : Int} {a1 : AV}  : X fz d k Q (.invokeinterface 106593 2 :: is) ls (a1 :: (3, o) :: st) h = (((o ≠ 0 ∧ o % 64 = 11) ∧ wds st ≤ 8) ∧ 0 < d ∧ Sp fz (d - 1) 416 [(3, o), a1] h (fun x h => X fz d k Q is ls ((1, x) :: st) h)) := rfl
theorem x_call417 {fz : Int → Int → Option Int} {d k : Nat} {Q : Int → HV → Prop} {is : List Instr} {h : HV} {ls st : List AV} {o : Int}  : X fz d k Q (.invokeinterface 106848 1 :: is) ls ((3, o) :: st) h = (((o ≠ 0 ∧ o % 64 = 11) ∧ wds st ≤ 8) ∧ 0 < d ∧ Sp fz (d - 1) 417 [(3, o)] h (fun x h => X fz d k Q is ls ((0, x) :: st) h)) := rfl
theorem x_call418 {fz : Int → Int → Option Int} {d k : Nat} {Q : Int → HV → Prop} {is : List Instr} {h : HV} {ls st : List AV} {o : Int} {a1 a2 : AV}  : X fz d k Q (.invokeinterface 107104 3 :: is) ls (a2 :: a1 :: (3, o) :: st) h = (((o ≠ 0 ∧ o % 64 = 11) ∧ wds st ≤ 8) ∧ 0 < d ∧ Sp fz (d - 1) 418 [(3, o), a1, a2] h (fun x h => X fz d k Q is ls ((0, x) :: st) h)) := rfl
theorem x_call419 {fz : Int → Int → Option Int} {d k : Nat} {Q : Int → HV → Prop} {is : List Instr} {h : HV} {ls st : List AV} {o : Int} {a1 a2 : AV}  : X fz d k Q (.invokeinterface 107360 3 :: is) ls (a2 :: a1 :: (3, o) :: st) h = (((o ≠ 0 ∧ o % 64 = 11) ∧ wds st ≤ 8) ∧ 0 < d ∧ Sp fz (d - 1) 419 [(3, o), a1, a2] h (fun x h => X fz d k Q is ls ((0, x) :: st) h)) := rfl
theorem x_call42 {fz : Int → Int → Option Int} {d k : Nat} {Q : Int → HV → Prop} {is : List Instr} {h : HV} {ls st : List AV} {a0 a1 a2 a3 : AV}  : X fz d k Q (.invokeinterface 10752 4 :: is) ls (a3 :: a2 :: a1 :: a0 :: st) h = ((True ∧ wds st ≤ 8) ∧ 0 < d ∧ Sp fz (d - 1) 42 [a0, a1, a2, a3] h (fun x h => X fz d k Q is ls ((0, x) :: st) h)) := rfl
theorem x_call420 {fz : Int → Int → Option Int} {d k : Nat} {Q : Int → HV → Prop} {is : List Instr} {h : HV} {ls st : List AV} {o : Int} {a1 : AV}  : X fz d k Q (.invokeinterface 107616 2 :: is) ls (a1 :: (3, o) :: st) h = (((o ≠ 0 ∧ o % 64 = 11) ∧ wds st ≤ 8) ∧ 0 < d ∧ Sp fz (d - 1) 420 [(3, o), a1] h (fun x h => X fz d k Q is ls ((0, x) :: st) h)) := rfl
theorem x_call421 {fz : Int → Int → Option Int} {d k : Nat} {Q : Int → HV → Prop} {is : List Instr} {h : HV} {ls st : List AV} {o : Int} {a1 : AV}  : X fz d k Q (.invokeinterface 107872 2 :: is) ls (a1 :: (3, o) :: st) h = (((o ≠ 0 ∧ o % 64 = 11) ∧ wds st ≤ 8) ∧ 0 < d ∧ Sp fz (d - 1) 421 [(3, o), a1] h (fun x h => X fz d k Q is ls ((0, x) :: st) h)) := rfl
theorem x_call422 {fz : Int → Int → Option Int} {d k : Nat} {Q : Int → HV → Prop} {is : List Instr} {h : HV} {ls st : List AV} {o : Int}  : X fz d k Q (.invokeinterface 108132 1 :: is) ls ((3, o) :: st) h = (((o ≠ 0 ∧ o % 64 = 11) ∧ wds st ≤ 8) ∧ 0 < d ∧ Sp fz (d - 1) 422 [(3, o)] h (fun x h => X fz d k Q is ls st h)) := rfl
theorem x_call423 {fz : Int → Int → Option Int} {d k : Nat} {Q : Int → HV → Prop} {is : List Instr} {h : HV} {ls st : List AV} {o : Int} {a1 a2 a3 : AV}  : X fz d k Q (.invokeinterface 108384 4 :: is) ls (a3 :: a2 :: a1 :: (3, o) :: st) h = (((o ≠ 0 ∧ o % 64 = 11) ∧ wds st ≤ 8) ∧ 0 < d ∧ Sp fz (d - 1) 423 [(3, o), a1, a2, a3] h (fun x h => X fz d k Q is ls ((0, x) :: st) h)) := rfl
theorem x_call424 {fz : Int → Int → Option Int} {d k : Nat} {Q : Int → HV → Prop} {is : List Instr} {h : HV} {ls st : List AV} {o : Int} {a1 a2 a3 : AV}  : X fz d k Q (.invokeinterface 108640 4 :: is) ls (a3 :: a2 :: a1 :: (3, o) :: st) h = (((o ≠ 0 ∧ o % 64 = 11) ∧ wds st ≤ 8) ∧ 0 < d ∧ Sp fz (d - 1) 424 [(3, o), a1, a2, a3] h (fun x h => X fz d k Q is ls ((0, x) :: st) h)) := rfl
theorem x_call425 {fz : Int → Int → Option Int} {d k : Nat} {Q : Int → HV → Prop} {is : List Instr} {h : HV} {ls st : List AV} {o : Int} {a1 a2 a3 : AV}  : X fz d k Q (.invokeinterface 108896 4 :: is) ls (a3 :: a2 :: a1 :: (3, o) :: st) h = (((o ≠ 0 ∧ o % 64 = 11) ∧ wds st ≤ 8) ∧ 0 < d ∧ Sp fz (d - 1) 425 [(3, o), a1, a2, a3] h (fun x h => X fz d k Q is ls ((0, x) :: st) h)) := rfl
theorem x_call426 {fz : Int → Int → Option Int} {d k : Nat} {Q : Int → HV → Prop} {is : List Instr} {h : HV} {ls st : List AV} {o : Int} {a1 : AV}  : X fz d k Q (.invokeinterface 109152 2 :: is) ls (a1 :: (3, o) :: st) h = (((o ≠ 0 ∧ o % 64 = 11) ∧ wds st ≤ 8) ∧ 0 < d ∧ Sp fz (d - 1) 426 [(3, o), a1] h (fun x h => X fz d k Q is ls ((0, x) :: st) h)) := rfl
theorem x_call427 {fz : Int → Int → Option Int} {d k : Nat} {Q : Int → HV → Prop} {is : List Instr} {h : HV} {ls st : List AV} {o : Int}  : X fz d k Q (.invokeinterface 109408 1 :: is) ls ((3, o) :: st) h = (((o ≠ 0 ∧ o % 64 = 11) ∧ wds st ≤ 8) ∧ 0 < d ∧ Sp fz (d - 1) 427 [(3, o)] h (fun x h => X fz d k Q is ls ((0, x) :: st) h)) := rfl
theorem x_call428 {fz : Int → Int → Option Int} {d k : Nat} {Q : Int → HV → Prop} {is : List Instr} {h : HV} {ls st : List AV} {o : Int} {a1 a2 a3 : AV}  : X fz d k Q (.invokeinterface 109664 4 :: is) ls (a3 :: a2 :: a1 :: (3, o) :: st) h = (((o ≠ 0 ∧ o % 64 = 11) ∧ wds st ≤ 8) ∧ 0 < d ∧ Sp fz (d - 1) 428 [(3, o), a1, a2, a3] h (fun x h => X fz d k Q is ls ((0, x) :: st) h)) := rfl
theorem x_call429 {fz : Int → Int → Option Int} {d k : Nat} {Q : Int → HV → Prop} {is : List Instr} {h : HV} {ls st : List AV} {o : Int} {a1 : AV}  : X fz d k Q (.invokeinterface 109920 2 :: is) ls (a1 :: (3, o) :: st) h = (((o ≠ 0 ∧ o % 64 = 11) ∧ wds st ≤ 8) ∧ 0 < d ∧ Sp fz (d - 1) 429 [(3, o), a1] h (fun x h => X fz d k Q is ls ((0, x) :: st) h)) := rfl
theorem x_call43 {fz : Int → Int → Option Int} {d k : Nat} {Q : Int → HV → Prop} {is : List Instr} {h : HV} {ls st : List AV} {o : Int}  : X fz d k Q (.invokeinterface 11032 1 :: is) ls ((3, o) :: st) h = (((o ≠ 0 ∧ o % 64 = 2) ∧ wds st ≤ 8) ∧ 0 < d ∧ Sp fz (d - 1) 43 [(3, o)] h (fun x h => X fz d k Q is ls ((0, x) :: st) h)) := rfl
theorem x_call430 {fz : Int → Int → Option Int} {d k : Nat} {Q : Int → HV → Prop} {is : List Instr} {h : HV} {ls st : List AV} {o : Int} {a1 a2 : AV}  : X fz d k Q (.invokeinterface 110176 3 :: is) ls (a2 :: a1 :: (3, o) :: st) h = (((o ≠ 0 ∧ o % 64 = 11) ∧ wds st ≤ 8) ∧ 0 < d ∧ Sp fz (d - 1) 430 [(3, o), a1, a2] h (fun x h => X fz d k Q is ls ((0, x) :: st) h)) := rfl
theorem x_call431 {fz : Int → Int → Option Int} {d k : Nat} {Q : Int → HV → Prop} {is : List Instr} {h : HV} {ls st : List AV} {o : Int} {a1 a2 : AV}  : X fz d k Q (.invokeinterface 110432 3 :: is) ls (a2 :: a1 :: (3, o) :: st) h = (((o ≠ 0 ∧ o % 64 = 11) ∧ wds st ≤ 8) ∧ 0 < d ∧ Sp fz (d - 1) 431 [(3, o), a1, a2] h (fun x h => X fz d k Q is ls ((0, x) :: st) h)) := rfl
theorem x_call432 {fz : Int → Int → Option Int} {d k : Nat} {Q : Int → HV → Prop} {is : List Instr} {h : HV} {ls st : List AV} {o : Int} {a1 a2 : AV}  : X fz d k Q (.invokeinterface 110688 3 :: is) ls (a2 :: a1 :: (3, o) :: st) h = (((o ≠ 0 ∧ o % 64 = 11) ∧ wds st ≤ 8) ∧ 0 < d ∧ Sp fz (d - 1) 432 [(3, o), a1, a2] h (fun x h => X fz d k Q is ls ((0, x) :: st) h)) := rfl
theorem x_call433 {fz : Int → Int → Option Int} {d k : Nat} {Q : Int → HV → Prop} {is : List Instr} {h : HV} {ls st : List AV} {o : Int} {a1 : AV}  : X fz d k Q (.invokeinterface 110944 2 :: is) ls (a1 :: (3, o) :: st) h = (((o ≠ 0 ∧ o % 64 = 11) ∧ wds st ≤ 8) ∧ 0 < d ∧ Sp fz (d - 1) 433 [(3, o), a1] h (fun x h => X fz d k Q is ls ((0, x) :: st) h)) := rfl
theorem x_call434 {fz : Int → Int → Option Int} {d k : Nat} {Q : Int → HV → Prop} {is : List Instr} {h : HV} {ls st : List AV} {o : Int} {a1 a2 : AV}  : X fz d k Q (.invokeinterface 111200 3 :: is) ls (a2 :: a1 :: (3, o) :: st) h = (((o ≠ 0 ∧ o % 64 = 11) ∧ wds st ≤ 8) ∧ 0 < d ∧ Sp fz (d - 1) 434 [(3, o), a1, a2] h (fun x h => X fz d k Q is ls ((0, x) :: st) h)) := rfl
theorem x_call435 {fz : Int → Int → Option Int} {d k : Nat} {Q : Int → HV → Prop} {is : List Instr} {h : HV} {ls st : List AV} {o : Int} {a1 : AV}  : X fz d k Q (.invokeinterface 111456 2 :: is) ls (a1 :: (3, o) :: st) h = (((o ≠ 0 ∧ o % 64 = 11) ∧ wds st ≤ 8) ∧ 0 < d ∧ Sp fz (d - 1) 435 [(3, o), a1] h (fun x h => X fz d k Q is ls ((0, x) :: st) h)) := rfl
theorem x_call436 {fz : Int → Int → Option Int} {d k : Nat} {Q : Int → HV → Prop} {is : List Instr} {h : HV} {ls st : List AV} {o : Int} {a1 : AV}  : X fz d k Q (.invokeinterface 111712 2 :: is) ls (a1 :: (3, o) :: st) h = (((o ≠ 0 ∧ o % 64 = 11) ∧ wds st ≤ 8) ∧ 0 < d ∧ Sp fz (d - 1) 436 [(3, o), a1] h (fun x h => X fz d k Q is ls ((0, x) :: st) h)) := rfl
theorem x_call437 {fz : Int → Int → Option Int} {d k : Nat} {Q : Int → HV → Prop} {is : List Instr} {h : HV} {ls st : List AV} {o : Int}  : X fz d k Q (.invokeinterface 111972 1 :: is) ls ((3, o) :: st) h = (((o ≠ 0 ∧ o % 64 = 11) ∧ wds st ≤ 8) ∧ 0 < d ∧ Sp fz (d - 1) 437 [(3, o)] h (fun x h => X fz d k Q is ls st h)) := rfl
theorem x_call438 {fz : Int → Int → Option Int} {d k : Nat} {Q : Int → HV → Prop} {is : List Instr} {h : HV} {ls st : List AV} {o : Int} {a1 : AV}  : X fz d k Q (.invokeinterface 112224 2 :: is) ls (a1 :: (3, o) :: st) h = (((o ≠ 0 ∧ o % 64 = 11) ∧ wds st ≤ 8) ∧ 0 < d ∧ Sp fz (d - 1) 438 [(3, o), a1] h (fun x h => X fz d k Q is ls ((0, x) :: st) h)) := rfl
theorem x_call439 {fz : Int → Int → Option Int} {d k : Nat} {Q : Int → HV → Prop} {is : List Instr} {h : HV} {ls st : List AV} {o : Int} {a1 a2 a3 : AV}  : X fz d k Q (.invokeinterface 112480 4 :: is) ls (a3 :: a2 :: a1 :: (3, o) :: st) h = (((o ≠ 0 ∧ o % 64 = 11) ∧ wds st ≤ 8) ∧ 0 < d ∧ Sp fz (d - 1) 439 [(3, o), a1, a2, a3] h (fun x h => X fz d k Q is ls ((0, x) :: st) h)) := rfl
theorem x_call44 {fz : Int → Int → Option Int} {d k : Nat} {Q : Int → HV → Prop} {is : List Instr} {h : HV} {ls st : List AV} {o : Int}  : X fz d k Q (.invokeinterface 11280 1 :: is) ls ((3, o) :: st) h = (((o ≠ 0 ∧ o % 64 = 1) ∧ wds st ≤ 8) ∧ 0 < d ∧ Sp fz (d - 1) 44 [(3, o)] h (fun x h => X fz d k Q is ls ((0, x) :: st) h)) := rfl
theorem x_call440 {fz : Int → Int → Option Int} {d k : Nat} {Q : Int → HV → Prop} {is : List Instr} {h : HV} {ls st : List AV} {o : Int}  : X fz d k Q (.invokeinterface 112740 1 :: is) ls ((3, o) :: st) h = (((o ≠ 0 ∧ o % 64 = 11) ∧ wds st ≤ 8) ∧ 0 < d ∧ Sp fz (d - 1) 440 [(3, o)] h (fun x h => X fz d k Q is ls st h)) := rfl
theorem x_call441 {fz : Int → Int → Option Int} {d k : Nat} {Q : Int → HV → Prop} {is : List Instr} {h : HV} {ls st : List AV} {o : Int} {a1 : AV}  : X fz d k Q (.invokeinterface 112992 2 :: is) ls (a1 :: (3, o) :: st) h = (((o ≠ 0 ∧ o % 64 = 11) ∧ wds st ≤ 8) ∧ 0 < d ∧ Sp fz (d - 1) 441 [(3, o), a1] h (fun x h => X fz d k Q is ls ((0, x) :: st) h)) := rfl
theorem x_call442 {fz : Int → Int → Option Int} {d k : Nat} {Q : Int → HV → Prop} {is : List Instr} {h : HV} {ls st : List AV} {o : Int} {a1 : AV}  : X fz d k Q (.invokeinterface 113248 2 :: is) ls (a1 :: (3, o) :: st) h = (((o ≠ 0 ∧ o % 64 = 11) ∧ wds st ≤ 8) ∧ 0 < d ∧ Sp fz (d - 1) 442 [(3, o), a1] h (fun x h => X fz d k Q is ls ((0, x) :: st) h)) := rfl
theorem x_call443 {fz : Int → Int → Option Int} {d k : Nat} {Q : Int → HV → Prop} {is : List Instr} {h : HV} {ls st : List AV} {o : Int}  : X fz d k Q (.invokeinterface 113504 1 :: is) ls ((3, o) :: st) h = (((o ≠ 0 ∧ o % 64 = 11) ∧ wds st ≤ 8) ∧ 0 < d ∧ Sp fz (d - 1) 443 [(3, o)] h (fun x h => X fz d k Q is ls ((0, x) :: st) h)) := rfl
theorem x_call444 {fz : Int → Int → Option Int} {d k : Nat} {Q : Int → HV → Prop} {is : List Instr} {h : HV} {ls st : List AV} {o : Int} {a1 a2 a3 : AV}  : X fz d k Q (.invokeinterface 113760 4 :: is) ls (a3 :: a2 :: a1 :: (3, o) :: st) h = (((o ≠ 0 ∧ o % 64 = 11) ∧ wds st ≤ 8) ∧ 0 < d ∧ Sp fz (d - 1) 444 [(3, o), a1, a2, a3] h (fun x h => X fz d k Q is ls ((0, x) :: st) h)) := rfl
theorem x_call445 {fz : Int → Int → Option Int} {d k : Nat} {Q : Int → HV → Prop} {is : List Instr} {h : HV} {ls st : List AV} {o : Int} {a1 : AV}  : X fz d k Q (.invokeinterface 114016 2 :: is) ls (a1 :: (3, o) :: st) h = (((o ≠ 0 ∧ o % 64 = 11) ∧ wds st ≤ 8) ∧ 0 < d ∧ Sp fz (d - 1) 445 [(3, o), a1] h (fun x h => X fz d k Q is ls ((0, x) :: st) h)) := rfl
theorem x_call446 {fz : Int → Int → Option Int} {d k : Nat} {Q : Int → HV → Prop} {is : List Instr} {h : HV} {ls st : List AV} {o : Int} {a1 : AV}  : X fz d k Q (.invokeinterface 114272 2 :: is) ls (a1 :: (3, o) :: st) h = (((o ≠ 0 ∧ o % 64 = 11) ∧ wds st ≤ 8) ∧ 0 < d ∧ Sp fz (d - 1) 446 [(3, o), a1] h (fun x h => X fz d k Q is ls ((0, x) :: st) h)) := rfl
theorem x_call447 {fz : Int → Int → Option Int} {d k : Nat} {Q : Int → HV → Prop} {is : List Instr} {h : HV} {ls st : List AV} {o : Int} {a1 a2 : AV}  : X fz d k Q (.invokeinterface 114528 3 :: is) ls (a2 :: a1 :: (3, o) :: st) h = (((o ≠ 0 ∧ o % 64 = 11) ∧ wds st ≤ 8) ∧ 0 < d ∧ Sp fz (d - 1) 447 [(3, o), a1, a2] h (fun x h => X fz d k Q is ls ((0, x) :: st) h)) := rfl
theorem x_call448 {fz : Int → Int → Option Int} {d k : Nat} {Q : Int → HV → Prop} {is : List Instr} {h : HV} {ls st : List AV} {o : Int} {a1 : AV}  : X fz d k Q (.invokeinterface 114784 2 :: is) ls (a1 :: (3, o) :: st) h = (((o ≠ 0 ∧ o % 64 = 11) ∧ wds st ≤ 8) ∧ 0 < d ∧ Sp fz (d - 1) 448 [(3, o), a1] h (fun x h => X fz d k Q is ls ((0, x) :: st) h)) := rfl
theorem x_call449 {fz : Int → Int → Option Int} {d k : Nat} {Q : Int → HV → Prop} {is : List Instr} {h : HV} {ls st : List AV} {o : Int} {a1 : AV}  : X fz d k Q (.invokeinterface 115040 2 :: is) ls (a1 :: (3, o) :: st) h = (((o ≠ 0 ∧ o % 64 = 11) ∧ wds st ≤ 8) ∧ 0 < d ∧ Sp fz (d - 1) 449 [(3, o), a1] h (fun x h => X fz d k Q is ls ((0, x) :: st) h)) := rfl
theorem x_call45 {fz : Int → Int → Option Int} {d k : Nat} {Q : Int → HV → Prop} {is : List Instr} {h : HV} {ls st : List AV} {o : Int}  : X fz d k Q (.invokeinterface 11536 1 :: is) ls ((3, o) :: st) h = (((o ≠ 0 ∧ o % 64 = 1) ∧ wds st ≤ 8) ∧ 0 < d ∧ Sp fz (d - 1) 45 [(3, o)] h (fun x h => X fz d k Q is ls ((0, x) :: st) h)) := rfl
theorem x_call46 {fz : Int → Int → Option Int} {d k : Nat} {Q : Int → HV → Prop} {is : List Instr} {h : HV} {ls st : List AV} {o : Int}  : X fz d k Q (.invokeinterface 11804 1 :: is) ls ((3, o) :: st) h = (((o ≠ 0 ∧ o % 64 = 2) ∧ wds st ≤ 8) ∧ 0 < d ∧ Sp fz (d - 1) 46 [(3, o)] h (fun x h => X fz d k Q is ls st h)) := rfl
theorem x_call47 {fz : Int → Int → Option Int} {d k : Nat} {Q : Int → HV → Prop} {is : List Instr} {h : HV} {ls st : List AV} {o : Int} {a1 : AV}  : X fz d k Q (.invokeinterface 12048 2 :: is) ls (a1 :: (3, o) :: st) h = (((o ≠ 0 ∧ o % 64 = 1) ∧ wds st ≤ 8) ∧ 0 < d ∧ Sp fz (d - 1) 47 [(3, o), a1] h (fun x h => X fz d k Q is ls ((0, x) :: st) h)) := rfl
theorem x_call48 {fz : Int → Int → Option Int} {d k : Nat} {Q : Int → HV → Prop} {is : List Instr} {h : HV} {ls st : List AV} {o : Int} {a1 : AV}  : X fz d k Q (.invokeinterface 12400 2 :: is) ls (a1 :: (3, o) :: st) h = (((o ≠ 0 ∧ o % 64 = 13) ∧ wds st ≤ 8) ∧ 0 < d ∧ Sp fz (d - 1) 48 [(3, o), a1] h (fun x h => X fz d k Q is ls ((0, x) :: st) h)) := rfl
theorem x_call49 {fz : Int → Int → Option Int} {d k : Nat} {Q : Int → HV → Prop} {is : List Instr} {h : HV} {ls st : List AV} {a0 a1 : AV}  : X fz d k Q (.invokeinterface 12544 2 :: is) ls (a1 :: a0 :: st) h = ((True ∧ wds st ≤ 8) ∧ 0 < d ∧ Sp fz (d - 1) 49 [a0, a1] h (fun x h => X fz d k Q is ls ((0, x) :: st) h)) := rfl
theorem x_call5 {fz : Int → Int → Option Int} {d k : Nat} {Q : Int → HV → Prop} {is : List Instr} {h : HV} {ls st : List AV} {o : Int}  : X fz d k Q (.invokeinterface 1324 1 :: is) ls ((3, o) :: st) h = (((o ≠ 0 ∧ o % 64 = 4) ∧ wds st ≤ 8) ∧ 0 < d ∧ Sp fz (d - 1) 5 [(3, o)] h (fun x h => X fz d k Q is ls st h)) := rfl
theorem x_call50 {fz : Int → Int → Option Int} {d k : Nat} {Q : Int → HV → Prop} {is : List Instr} {h : HV} {ls st : List AV} {a0 a1 : AV}  : X fz d k Q (.invokeinterface 12804 2 :: is) ls (a1 :: a0 :: st) h = ((True ∧ wds st ≤ 8) ∧ 0 < d ∧ Sp fz (d - 1) 50 [a0, a1] h (fun x h => X fz d k Q is ls st h)) := rfl
theorem x_call51 {fz : Int → Int → Option Int} {d k : Nat} {Q : Int → HV → Prop} {is : List Instr} {h : HV} {ls st : List AV} {a0 a1 a2 : AV}  : X fz d k Q (.invokeinterface 13056 3 :: is) ls (a2 :: a1 :: a0 :: st) h = ((True ∧ wds st ≤ 8) ∧ 0 < d ∧ Sp fz (d - 1) 51 [a0, a1, a2] h (fun x h => X fz d k Q is ls ((0, x) :: st) h)) := rfl
theorem x_call52 {fz : Int → Int → Option Int} {d k : Nat} {Q : Int → HV → Prop} {is : List Instr} {h : HV} {ls st : List AV} {o : Int}  : X fz d k Q (.invokeinterface 13340 1 :: is) ls ((3, o) :: st) h = (((o ≠ 0 ∧ o % 64 = 2) ∧ wds st ≤ 8) ∧ 0 < d ∧ Sp fz (d - 1) 52 [(3, o)] h (fun x h => X fz d k Q is ls st h)) := rfl
theorem x_call53 {fz : Int → Int → Option Int} {d k : Nat} {Q : Int → HV → Prop} {is : List Instr} {h : HV} {ls st : List AV} {o : Int} {a1 : AV}  : X fz d k Q (.invokeinterface 13592 2 :: is) ls (a1 :: (3, o) :: st) h = (((o ≠ 0 ∧ o % 64 = 2) ∧ wds st ≤ 8) ∧ 0 < d ∧ Sp fz (d - 1) 53 [(3, o), a1] h (fun x h => X fz d k Q is ls ((0, x) :: st) h)) := rfl
theorem x_call54 {fz : Int → Int → Option Int} {d k : Nat} {Q : Int → HV → Prop} {is : List Instr} {h : HV} {ls st : List AV} {o : Int}  : X fz d k Q (.invokeinterface 13848 1 :: is) ls ((3, o) :: st) h = (((o ≠ 0 ∧ o % 64 = 2) ∧ wds st ≤ 8) ∧ 0 < d ∧ Sp fz (d - 1) 54 [(3, o)] h (fun x h => X fz d k Q is ls ((0, x) :: st) h)) := rfl
theorem x_call55 {fz : Int → Int → Option Int} {d k : Nat} {Q : Int → HV → Prop} {is : List Instr} {h : HV} {ls st : List AV} {o : Int}  : X fz d k Q (.invokeinterface 14097 1 :: is) ls ((3, o) :: st) h = (((o ≠ 0 ∧ o % 64 = 1) ∧ wds st ≤ 8) ∧ 0 < d ∧ Sp fz (d - 1) 55 [(3, o)] h (fun x h => X fz d k Q is ls ((1, x) :: st) h)) := rfl
theorem x_call56 {fz : Int → Int → Option Int} {d k : Nat} {Q : Int → HV → Prop} {is : List Instr} {h : HV} {ls st : List AV} {o : Int} {a1 a2 : AV}  : X fz d k Q (.invokeinterface 14424 3 :: is) ls (a2 :: a1 :: (3, o) :: st) h = (((o ≠ 0 ∧ o % 64 = 10) ∧ wds st ≤ 8) ∧ 0 < d ∧ Sp fz (d - 1) 56 [(3, o), a1, a2] h (fun x h => X fz d k Q is ls ((0, x) :: st) h)) := rfl
theorem x_call57 {fz : Int → Int → Option Int} {d k : Nat} {Q : Int → HV → Prop} {is : List Instr} {h : HV} {ls st : List AV} {o : Int} {a1 : AV}  : X fz d k Q (.invokeinterface 14680 2 :: is) ls (a1 :: (3, o) :: st) h = (((o ≠ 0 ∧ o % 64 = 10) ∧ wds st ≤ 8) ∧ 0 < d ∧ Sp fz (d - 1) 57 [(3, o), a1] h (fun x h => X fz d k Q is ls ((0, x) :: st) h)) := rfl
theorem x_call58 {fz : Int → Int → Option Int} {d k : Nat} {Q : Int → HV → Prop} {is : List Instr} {h : HV} {ls st : List AV} {a0 : AV}  : X fz d k Q (.invokeinterface 14848 1 :: is) ls (a0 :: st) h = ((True ∧ wds st ≤ 8) ∧ 0 < d ∧ Sp fz (d - 1) 58 [a0] h (fun x h => X fz d k Q is ls ((0, x) :: st) h)) := rfl
theorem x_call59 {fz : Int → Int → Option Int} {d k : Nat} {Q : Int → HV → Prop} {is : List Instr} {h : HV} {ls st : List AV} {o : Int} {a1 a2 : AV}  : X fz d k Q (.invokeinterface 15192 3 :: is) ls (a2 :: a1 :: (3, o) :: st) h = (((o ≠ 0 ∧ o % 64 = 10) ∧ wds st ≤ 8) ∧ 0 < d ∧ Sp fz (d - 1) 59 [(3, o), a1, a2] h (fun x h => X fz d k Q is ls ((0, x) :: st) h)) := rfl
theorem x_call6 {fz : Int → Int → Option Int} {d k : Nat} {Q : Int → HV → Prop} {is : List Instr} {h : HV} {ls st : List AV} {o : Int} {a1 a2 : AV}  : X fz d k Q (.invokeinterface 1588 3 :: is) ls (a2 :: a1 :: (3, o) :: st) h = (((o ≠ 0 ∧ o % 64 = 5) ∧ wds st ≤ 8) ∧ 0 < d ∧ Sp fz (d - 1) 6 [(3, o), a1, a2] h (fun x h => X fz d k Q is ls st h)) := rfl
theorem x_call60 {fz : Int → Int → Option Int} {d k : Nat} {Q : Int → HV → Prop} {is : List Instr} {h : HV} {ls st : List AV} {o : Int} {a1 : AV}  : X fz d k Q (.invokeinterface 15388 2 :: is) ls (a1 :: (3, o) :: st) h = (((o ≠ 0 ∧ o % 64 = 2) ∧ wds st ≤ 8) ∧ 0 < d ∧ Sp fz (d - 1) 60 [(3, o), a1] h (fun x h => X fz d k Q is ls st h)) := rfl
theorem x_call61 {fz : Int → Int → Option Int} {d k : Nat} {Q : Int → HV → Prop} {is : List Instr} {h : HV} {ls st : List AV} {o : Int} {a1 : AV}  : X fz d k Q (.invokeinterface 15632 2 :: is) ls (a1 :: (3, o) :: st) h = (((o ≠ 0 ∧ o % 64 = 1) ∧ wds st ≤ 8) ∧ 0 < d ∧ Sp fz (d - 1) 61 [(3, o), a1] h (fun x h => X fz d k Q is ls ((0, x) :: st) h)) := rfl
theorem x_call62 {fz : Int → Int → Option Int} {d k : Nat} {Q : Int → HV → Prop} {is : List Instr} {h : HV} {ls st : List AV} {o : Int}  : X fz d k Q (.invokeinterface 15900 1 :: is) ls ((3, o) :: st) h = (((o ≠ 0 ∧ o % 64 = 2) ∧ wds st ≤ 8) ∧ 0 < d ∧ Sp fz (d - 1) 62 [(3, o)] h (fun x h => X fz d k Q is ls st h)) := rfl
theorem x_call63 {fz : Int → Int → Option Int} {d k : Nat} {Q : Int → HV → Prop} {is : List Instr} {h : HV} {ls st : List AV} {o : Int} {a1 : AV}  : X fz d k Q (.invokeinterface 16152 2 :: is) ls (a1 :: (3, o) :: st) h = (((o ≠ 0 ∧ o % 64 = 2) ∧ wds st ≤ 8) ∧ 0 < d ∧ Sp fz (d - 1) 63 [(3, o), a1] h (fun x h => X fz d k Q is ls ((0, x) :: st) h)) := rfl
theorem x_call64 {fz : Int → Int → Option Int} {d k : Nat} {Q : Int → HV → Prop} {is : List Instr} {h : HV} {ls st : List AV} {o : Int}  : X fz d k Q (.invokeinterface 16400 1 :: is) ls ((3, o) :: st) h = (((o ≠ 0 ∧ o % 64 = 1) ∧ wds st ≤ 8) ∧ 0 < d ∧ Sp fz (d - 1) 64 [(3, o)] h (fun x h => X fz d k Q is ls ((0, x) :: st) h)) := rfl
theorem x_call65 {fz : Int → Int → Option Int} {d k : Nat} {Q : Int → HV → Prop} {is : List Instr} {h : HV} {ls st : List AV} {o : Int}  : X fz d k Q (.invokeinterface 16668 1 :: is) ls ((3, o) :: st) h = (((o ≠ 0 ∧ o % 64 = 2) ∧ wds st ≤ 8) ∧ 0 < d ∧ Sp fz (d - 1) 65 [(3, o)] h (fun x h => X fz d k Q is ls st h)) := rfl
theorem x_call66 {fz : Int → Int → Option Int} {d k : Nat} {Q : Int → HV → Prop} {is : List Instr} {h : HV} {ls st : List AV} {o : Int} {a1 : AV}  : X fz d k Q (.invokeinterface 16920 2 :: is) ls (a1 :: (3, o) :: st) h = (((o ≠ 0 ∧ o % 64 = 2) ∧ wds st ≤ 8) ∧ 0 < d ∧ Sp fz (d - 1) 66 [(3, o), a1] h (fun x h => X fz d k Q is ls ((0, x) :: st) h)) := rfl
theorem x_call67 {fz : Int → Int → Option Int} {d k : Nat} {Q : Int → HV → Prop} {is : List Instr} {h : HV} {ls st : List AV} {o : Int} {a1 : AV}  : X fz d k Q (.invokeinterface 17176 2 :: is) ls (a1 :: (3, o) :: st) h = (((o ≠ 0 ∧ o % 64 = 2) ∧ wds st ≤ 8) ∧ 0 < d ∧ Sp fz (d - 1) 67 [(3, o), a1] h (fun x h => X fz d k Q is ls ((0, x) :: st) h)) := rfl
theorem x_call68 {fz : Int → Int → Option Int} {d k : Nat} {Q : Int → HV → Prop} {is : List Instr} {h : HV} {ls st : List AV} {o : Int}  : X fz d k Q (.invokeinterface 17436 1 :: is) ls ((3, o) :: st) h = (((o ≠ 0 ∧ o % 64 = 2) ∧ wds st ≤ 8) ∧ 0 < d ∧ Sp fz (d - 1) 68 [(3, o)] h (fun x h => X fz d k Q is ls st h)) := rfl
theorem x_call69 {fz : Int → Int → Option Int} {d k : Nat} {Q : Int → HV → Prop} {is : List Instr} {h : HV} {ls st : List AV} {o : Int}  : X fz d k Q (.invokeinterface 17692 1 :: is) ls ((3, o) :: st) h = (((o ≠ 0 ∧ o % 64 = 2) ∧ wds st ≤ 8) ∧ 0 < d ∧ Sp fz (d - 1) 69 [(3, o)] h (fun x h => X fz d k Q is ls st h)) := rfl
theorem x_call7 {fz : Int → Int → Option Int} {d k : Nat} {Q : Int → HV → Prop} {is : List Instr} {h : HV} {ls st : List AV} {o : Int}  : X fz d k Q (.invokeinterface 1852 1 :: is) ls ((3, o) :: st) h = (((o ≠ 0 ∧ o % 64 = 6) ∧ wds st ≤ 8) ∧ 0 < d ∧ Sp fz (d - 1) 7 [(3, o)] h (fun x h => X fz d k Q is ls st h)) := rfl
theorem x_call70 {fz : Int → Int → Option Int} {d k : Nat} {Q : Int → HV → Prop} {is : List Instr} {h : HV} {ls st : List AV} {o : Int} {a1 a2 : AV}  : X fz d k Q (.invokeinterface 18008 3 :: is) ls (a2 :: a1 :: (3, o) :: st) h = (((o ≠ 0 ∧ o % 64 = 10) ∧ wds st ≤ 8) ∧ 0 < d ∧ Sp fz (d - 1) 70 [(3, o), a1, a2] h (fun x h => X fz d k Q is ls ((0, x) :: st) h)) := rfl
theorem x_call71 {fz : Int → Int → Option Int} {d k : Nat} {Q : Int → HV → Prop} {is : List Instr} {h : HV} {ls st : List AV} {o : Int} {a1 a2 : AV}  : X fz d k Q (.invokeinterface 18264 3 :: is) ls (a2 :: a1 :: (3, o) :: st) h = (((o ≠ 0 ∧ o % 64 = 10) ∧ wds st ≤ 8) ∧ 0 < d ∧ Sp fz (d - 1) 71 [(3, o), a1, a2] h (fun x h => X fz d k Q is ls ((0, x) :: st) h)) := rfl
theorem x_call72 {fz : Int → Int → Option Int} {d k : Nat} {Q : Int → HV → Prop} {is : List Instr} {h : HV} {ls st : List AV} {o : Int} {a1 a2 : AV}  : X fz d k Q (.invokeinterface 18524 3 :: is) ls (a2 :: a1 :: (3, o) :: st) h = (((o ≠ 0 ∧ o % 64 = 10) ∧ wds st ≤ 8) ∧ 0 < d ∧ Sp fz (d - 1) 72 [(3, o), a1, a2] h (fun x h => X fz d k Q is ls st h)) := rfl
theorem x_call73 {fz : Int → Int → Option Int} {d k : Nat} {Q : Int → HV → Prop} {is : List Instr} {h : HV} {ls st : List AV} {o : Int}  : X fz d k Q (.invokeinterface 18716 1 :: is) ls ((3, o) :: st) h = (((o ≠ 0 ∧ o % 64 = 2) ∧ wds st ≤ 8) ∧ 0 < d ∧ Sp fz (d - 1) 73 [(3, o)] h (fun x h => X fz d k Q is ls st h)) := rfl
theorem x_call74 {fz : Int → Int → Option Int} {d k : Nat} {Q : Int → HV → Prop} {is : List Instr} {h : HV} {ls st : List AV} {o : Int}  : X fz d k Q (.invokeinterface 18972 1 :: is) ls ((3, o) :: st) h = (((o ≠ 0 ∧ o % 64 = 2) ∧ wds st ≤ 8) ∧ 0 < d ∧ Sp fz (d - 1) 74 [(3, o)] h (fun x h => X fz d k Q is ls st h)) := rfl
theorem x_call75 {fz : Int → Int → Option Int} {d k : Nat} {Q : Int → HV → Prop} {is : List Instr} {h : HV} {ls st : List AV} {o : Int}  : X fz d k Q (.invokeinterface 19228 1 :: is) ls ((3, o) :: st) h = (((o ≠ 0 ∧ o % 64 = 2) ∧ wds st ≤ 8) ∧ 0 < d ∧ Sp fz (d - 1) 75 [(3, o)] h (fun x h => X fz d k Q is ls st h)) := rfl
theorem x_call76 {fz : Int → Int → Option Int} {d k : Nat} {Q : Int → HV → Prop} {is : List Instr} {h : HV} {ls st : List AV} {o : Int} {a1 : AV}  : X fz d k Q (.invokeinterface 19480 2 :: is) ls (a1 :: (3, o) :: st) h = (((o ≠ 0 ∧ o % 64 = 2) ∧ wds st ≤ 8) ∧ 0 < d ∧ Sp fz (d - 1) 76 [(3, o), a1] h (fun x h => X fz d k Q is ls ((0, x) :: st) h)) := rfl
theorem x_call77 {fz : Int → Int → Option Int} {d k : Nat} {Q : Int → HV → Prop} {is : List Instr} {h : HV} {ls st : List AV} {o : Int} {a1 : AV}  : X fz d k Q (.invokeinterface 19736 2 :: is) ls (a1 :: (3, o) :: st) h = (((o ≠ 0 ∧ o % 64 = 2) ∧ wds st ≤ 8) ∧ 0 < d ∧ Sp fz (d - 1) 77 [(3, o), a1] h (fun x h => X fz d k Q is ls ((0, x) :: st) h)) := rfl
theorem x_call78 {fz : Int → Int → Option Int} {d k : Nat} {Q : Int → HV → Prop} {is : List Instr} {h : HV} {ls st : List AV} {o : Int} {a1 a2 : AV}  : X fz d k Q (.invokeinterface 19992 3 :: is) ls (a2 :: a1 :: (3, o) :: st) h = (((o ≠ 0 ∧ o % 64 = 2) ∧ wds st ≤ 8) ∧ 0 < d ∧ Sp fz (d - 1) 78 [(3, o), a1, a2] h (fun x h => X fz d k Q is ls ((0, x) :: st) h)) := rfl
theorem x_call79 {fz : Int → Int → Option Int} {d k : Nat} {Q : Int → HV → Prop} {is : List Instr} {h : HV} {ls st : List AV} {o : Int}  : X fz d k Q (.invokeinterface 20312 1 :: is) ls ((3, o) :: st) h = (((o ≠ 0 ∧ o % 64 = 10) ∧ wds st ≤ 8) ∧ 0 < d ∧ Sp fz (d - 1) 79 [(3, o)] h (fun x h => X fz d k Q is ls ((0, x) :: st) h)) := rfl
theorem x_call8 {fz : Int → Int → Option Int} {d k : Nat} {Q : Int → HV → Prop} {is : List Instr} {h : HV} {ls st : List AV} {o : Int}  : X fz d k Q (.invokeinterface 2116 1 :: is) ls ((3, o) :: st) h = (((o ≠ 0 ∧ o % 64 = 7) ∧ wds st ≤ 8) ∧ 0 < d ∧ Sp fz (d - 1) 8 [(3, o)] h (fun x h => X fz d k Q is ls st h)) := rfl
theorem x_call80 {fz : Int → Int → Option Int} {d k : Nat} {Q : Int → HV → Prop} {is : List Instr} {h : HV} {ls st : List AV} {o : Int} {a1 : AV}  : X fz d k Q (.invokeinterface 20508 2 :: is) ls (a1 :: (3, o) :: st) h = (((o ≠ 0 ∧ o % 64 = 2) ∧ wds st ≤ 8) ∧ 0 < d ∧ Sp fz (d - 1) 80 [(3, o), a1] h (fun x h => X fz d k Q is ls st h)) := rfl
theorem x_call81 {fz : Int → Int → Option Int} {d k : Nat} {Q : Int → HV → Prop} {is : List Instr} {h : HV} {ls st : List AV} {o : Int} {a1 a2 : AV}  : X fz d k Q (.invokeinterface 20764 3 :: is) ls (a2 :: a1 :: (3, o) :: st) h = (((o ≠ 0 ∧ o % 64 = 2) ∧ wds st ≤ 8) ∧ 0 < d ∧ Sp fz (d - 1) 81 [(3, o), a1, a2] h (fun x h => X fz d k Q is ls st h)) := rfl
theorem x_call82 {fz : Int → Int → Option Int} {d k : Nat} {Q : Int → HV → Prop} {is : List Instr} {h : HV} {ls st : List AV} {o : Int} {a1 : AV}  : X fz d k Q (.invokeinterface 21020 2 :: is) ls (a1 :: (3, o) :: st) h = (((o ≠ 0 ∧ o % 64 = 2) ∧ wds st ≤ 8) ∧ 0 < d ∧ Sp fz (d - 1) 82 [(3, o), a1] h (fun x h => X fz d k Q is ls st h)) := rfl
theorem x_call83 {fz : Int → Int → Option Int} {d k : Nat} {Q : Int → HV → Prop} {is : List Instr} {h : HV} {ls st : List AV} {o : Int}  : X fz d k Q (.invokeinterface 21276 1 :: is) ls ((3, o) :: st) h = (((o ≠ 0 ∧ o % 64 = 2) ∧ wds st ≤ 8) ∧ 0 < d ∧ Sp fz (d - 1) 83 [(3, o)] h (fun x h => X fz d k Q is ls st h)) := rfl
theorem x_call84 {fz : Int → Int → Option Int} {d k : Nat} {Q : Int → HV → Prop} {is : List Instr} {h : HV} {ls st : List AV} {o : Int} {a1 : AV}  : X fz d k Q (.invokeinterface 21596 2 :: is) ls (a1 :: (3, o) :: st) h = (((o ≠ 0 ∧ o % 64 = 10) ∧ wds st ≤ 8) ∧ 0 < d ∧ Sp fz (d - 1) 84 [(3, o), a1] h (fun x h => X fz d k Q is ls st h)) := rfl
theorem x_call85 {fz : Int → Int → Option Int} {d k : Nat} {Q : Int → HV → Prop} {is : List Instr} {h : HV} {ls st : List AV} {o : Int} {a1 : AV}  : X fz d k Q (.invokeinterface 21788 2 :: is) ls (a1 :: (3, o) :: st) h = (((o ≠ 0 ∧ o % 64 = 2) ∧ wds st ≤ 8) ∧ 0 < d ∧ Sp fz (d - 1) 85 [(3, o), a1] h (fun x h => X fz d k Q is ls st h)) := rfl
theorem x_call86 {fz : Int → Int → Option Int} {d k : Nat} {Q : Int → HV → Prop} {is : List Instr} {h : HV} {ls st : List AV} {o : Int}  : X fz d k Q (.invokeinterface 22032 1 :: is) ls ((3, o) :: st) h = (((o ≠ 0 ∧ o % 64 = 1) ∧ wds st ≤ 8) ∧ 0 < d ∧ Sp fz (d - 1) 86 [(3, o)] h (fun x h => X fz d k Q is ls ((0, x) :: st) h)) := rfl
theorem x_call87 {fz : Int → Int → Option Int} {d k : Nat} {Q : Int → HV → Prop} {is : List Instr} {h : HV} {ls st : List AV} {o : Int} {a1 : AV}  : X fz d k Q (.invokeinterface 22300 2 :: is) ls (a1 :: (3, o) :: st) h = (((o ≠ 0 ∧ o % 64 = 2) ∧ wds st ≤ 8) ∧ 0 < d ∧ Sp fz (d - 1) 87 [(3, o), a1] h (fun x h => X fz d k Q is ls st h)) := rfl
theorem x_call88 {fz : Int → Int → Option Int} {d k : Nat} {Q : Int → HV → Prop} {is : List Instr} {h : HV} {ls st : List AV} {o : Int} {a1 : AV}  : X fz d k Q (.invokeinterface 22556 2 :: is) ls (a1 :: (3, o) :: st) h = (((o ≠ 0 ∧ o % 64 = 2) ∧ wds st ≤ 8) ∧ 0 < d ∧ Sp fz (d - 1) 88 [(3, o), a1] h (fun x h => X fz d k Q is ls st h)) := rfl
theorem x_call89 {fz : Int → Int → Option Int} {d k : Nat} {Q : Int → HV → Prop} {is : List Instr} {h : HV} {ls st : List AV} {o : Int} {a1 : AV}  : X fz d k Q (.invokeinterface 22812 2 :: is) ls (a1 :: (3, o) :: st) h = (((o ≠ 0 ∧ o % 64 = 2) ∧ wds st ≤ 8) ∧ 0 < d ∧ Sp fz (d - 1) 89 [(3, o), a1] h (fun x h => X fz d k Q is ls st h)) := rfl
theorem x_call9 {fz : Int → Int → Option Int} {d k : Nat} {Q : Int → HV → Prop} {is : List Instr} {h : HV} {ls st : List AV} {o : Int} {a1 : AV}  : X fz d k Q (.invokeinterface 2380 2 :: is) ls (a1 :: (3, o) :: st) h = (((o ≠ 0 ∧ o % 64 = 8) ∧ wds st ≤ 8) ∧ 0 < d ∧ Sp fz (d - 1) 9 [(3, o), a1] h (fun x h => X fz d k Q is ls st h)) := rfl
theorem x_call90 {fz : Int → Int → Option Int} {d k : Nat} {Q : Int → HV → Prop} {is : List Instr} {h : HV} {ls st : List AV} {o : Int} {a1 : AV}  : X fz d k Q (.invokeinterface 23068 2 :: is) ls (a1 :: (3, o) :: st) h = (((o ≠ 0 ∧ o % 64 = 2) ∧ wds st ≤ 8) ∧ 0 < d ∧ Sp fz (d - 1) 90 [(3, o), a1] h (fun x h => X fz d k Q is ls st h)) := rfl
theorem x_call91 {fz : Int → Int → Option Int} {d k : Nat} {Q : Int → HV → Prop} {is : List Instr} {h : HV} {ls st : List AV} {o : Int} {a1 : AV}  : X fz d k Q (.invokeinterface 23324 2 :: is) ls (a1 :: (3, o) :: st) h = (((o ≠ 0 ∧ o % 64 = 2) ∧ wds st ≤ 8) ∧ 0 < d ∧ Sp fz (d - 1) 91 [(3, o), a1] h (fun x h => X fz d k Q is ls st h)) := rfl
theorem x_call92 {fz : Int → Int → Option Int} {d k : Nat} {Q : Int → HV → Prop} {is : List Instr} {h : HV} {ls st : List AV} {o : Int}  : X fz d k Q (.invokeinterface 23580 1 :: is) ls ((3, o) :: st) h = (((o ≠ 0 ∧ o % 64 = 2) ∧ wds st ≤ 8) ∧ 0 < d ∧ Sp fz (d - 1) 92 [(3, o)] h (fun x h => X fz d k Q is ls st h)) := rfl
theorem x_call93 {fz : Int → Int → Option Int} {d k : Nat} {Q : Int → HV → Prop} {is : List Instr} {h : HV} {ls st : List AV} {o : Int} {a1 : AV}  : X fz d k Q (.invokeinterface 23836 2 :: is) ls (a1 :: (3, o) :: st) h = (((o ≠ 0 ∧ o % 64 = 2) ∧ wds st ≤ 8) ∧ 0 < d ∧ Sp fz (d - 1) 93 [(3, o), a1] h (fun x h => X fz d k Q is ls st h)) := rfl
theorem x_call94 {fz : Int → Int → Option Int} {d k : Nat} {Q : Int → HV → Prop} {is : List Instr} {h : HV} {ls st : List AV} {o : Int} {a1 a2 a3 : AV}  : X fz d k Q (.invokeinterface 24092 4 :: is) ls (a3 :: a2 :: a1 :: (3, o) :: st) h = (((o ≠ 0 ∧ o % 64 = 2) ∧ wds st ≤ 8) ∧ 0 < d ∧ Sp fz (d - 1) 94 [(3, o), a1, a2, a3] h (fun x h => X fz d k Q is ls st h)) := rfl
theorem x_call95 {fz : Int → Int → Option Int} {d k : Nat} {Q : Int → HV → Prop} {is : List Instr} {h : HV} {ls st : List AV} {o : Int} {a1 a2 : AV}  : X fz d k Q (.invokeinterface 24348 3 :: is) ls (a2 :: a1 :: (3, o) :: st) h = (((o ≠ 0 ∧ o % 64 = 2) ∧ wds st ≤ 8) ∧ 0 < d ∧ Sp fz (d - 1) 95 [(3, o), a1, a2] h (fun x h => X fz d k Q is ls st h)) := rfl
theorem x_call96 {fz : Int → Int → Option Int} {d k : Nat} {Q : Int → HV → Prop} {is : List Instr} {h : HV} {ls st : List AV} {o : Int}  : X fz d k Q (.invokeinterface 24593 1 :: is) ls ((3, o) :: st) h = (((o ≠ 0 ∧ o % 64 = 1) ∧ wds st ≤ 8) ∧ 0 < d ∧ Sp fz (d - 1) 96 [(3, o)] h (fun x h => X fz d k Q is ls ((1, x) :: st) h)) := rfl
theorem x_call97 {fz : Int → Int → Option Int} {d k : Nat} {Q : Int → HV → Prop} {is : List Instr} {h : HV} {ls st : List AV} {o : Int}  : X fz d k Q (.invokeinterface 24848 1 :: is) ls ((3, o) :: st) h = (((o ≠ 0 ∧ o % 64 = 1) ∧ wds st ≤ 8) ∧ 0 < d ∧ Sp fz (d - 1) 97 [(3, o)] h (fun x h => X fz d k Q is ls ((0, x) :: st) h)) := rfl
theorem x_call98 {fz : Int → Int → Option Int} {d k : Nat} {Q : Int → HV → Prop} {is : List Instr} {h : HV} {ls st : List AV} {a0 a1 : AV}  : X fz d k Q (.invokeinterface 25089 2 :: is) ls (a1 :: a0 :: st) h = ((True ∧ wds st ≤ 8) ∧ 0 < d ∧ Sp fz (d - 1) 98 [a0, a1] h (fun x h => X fz d k Q is ls ((1, x) :: st) h)) := rfl
theorem x_call99 {fz : Int → Int → Option Int} {d k : Nat} {Q : Int → HV → Prop} {is : List Instr} {h : HV} {ls st : List AV} {a0 : AV}  : X fz d k Q (.invokeinterface 25345 1 :: is) ls (a0 :: st) h = ((True ∧ wds st ≤ 8) ∧ 0 < d ∧ Sp fz (d - 1) 99 [a0] h (fun x h => X fz d k Q is ls ((1, x) :: st) h)) := rfl
theorem x_d2i {fz : Int → Int → Option Int} {d k : Nat} {Q : Int → HV → Prop} {is : List Instr} {h : HV} {ls st : List AV} {x : Int} : X fz d k Q (.d2i :: is) ls ((2, x) :: st) h = X fz d k Q is ls ((0, (FP.d2i (d_U x)).toInt) :: st) h := rfl
theorem x_d2l {fz : Int → Int → Option Int} {d k : Nat} {Q : Int → HV → Prop} {is : List Instr} {h : HV} {ls st : List AV} {x : Int} : X fz d k Q (.d2l :: is) ls ((2, x) :: st) h = (wds st ≤ 8 ∧ X fz d k Q is ls ((1, x) :: st) h) := rfl
theorem x_dadd {fz : Int → Int → Option Int} {d k : Nat} {Q : Int → HV → Prop} {is : List Instr} {h : HV} {ls st : List AV} {x y : Int} : X fz d k Q (.dadd :: is) ls ((2, y) :: (2, x) :: st) h = (vf_n64 (FP.dadd (d_U x) (d_U y)) ∧ X fz d k Q is ls ((2, d_I (FP.dadd (d_U x) (d_U y))) :: st) h) := rfl
theorem x_daload {fz : Int → Int → Option Int} {d k : Nat} {Q : Int → HV → Prop} {is : List Instr} {h : HV} {ls st : List AV} {o i : Int} : X fz d k Q (.daload :: is) ls ((0, i) :: (3, o) :: st) h = ((o % 64 = 34 ∧ 0 ≤ i ∧ i < rd fz h o (-1)) ∧ X fz d k Q is ls ((2, h o i) :: st) h) := rfl
theorem x_dastore {fz : Int → Int → Option Int} {d k : Nat} {Q : Int → HV → Prop} {is : List Instr} {h : HV} {ls st : List AV} {o i x : Int} : X fz d k Q (.dastore :: is) ls ((2, x) :: (0, i) :: (3, o) :: st) h = ((o % 64 = 34 ∧ 0 ≤ i ∧ i < rd fz h o (-1)) ∧ X fz d k Q is ls st (hset h o i x)) := rfl
theorem x_dcmp {fz : Int → Int → Option Int} {d k : Nat} {Q : Int → HV → Prop} {is : List Instr} {h : HV} {ls st : List AV} {x y : Int} {op : CmpOp} : X fz d k Q (.dcmp op :: is) ls ((2, y) :: (2, x) :: st) h = X fz d k Q is ls ((0, d_cmp op x y) :: st) h := rfl
theorem x_ddiv {fz : Int → Int → Option Int} {d k : Nat} {Q : Int → HV → Prop} {is : List Instr} {h : HV} {ls st : List AV} {x y : Int} : X fz d k Q (.ddiv :: is) ls ((2, y) :: (2, x) :: st) h = (vf_n64 (FP.ddiv (d_U x) (d_U y)) ∧ X fz d k Q is ls ((2, d_I (FP.ddiv (d_U x) (d_U y))) :: st) h) := rfl
theorem x_dload0 {fz : Int → Int → Option Int} {d k : Nat} {Q : Int → HV → Prop} {is : List Instr} {h : HV} {r st : List AV} {x : Int} : X fz d k Q (.dload 0 :: is) ((2, x) :: r) st h = X fz d k Q is ((2, x) :: r) ((2, x) :: st) h := rfl
theorem x_dload1 {fz : Int → Int → Option Int} {d k : Nat} {Q : Int → HV → Prop} {is : List Instr} {h : HV} {a0 : AV} {r st : List AV} {x : Int} : X fz d k Q (.dload 1 :: is) (a0 :: (2, x) :: r) st h = X fz d k Q is (a0 :: (2, x) :: r) ((2, x) :: st) h := rfl
theorem x_dload3 {fz : Int → Int → Option Int} {d k : Nat} {Q : Int → HV → Prop} {is : List Instr} {h : HV} {a0 a1 a2 : AV} {r st : List AV} {x : Int} : X fz d k Q (.dload 3 :: is) (a0 :: a1 :: a2 :: (2, x) :: r) st h = X fz d k Q is (a0 :: a1 :: a2 :: (2, x) :: r) ((2, x) :: st) h := rfl
theorem x_dload4 {fz : Int → Int → Option Int} {d k : Nat} {Q : Int → HV → Prop} {is : List Instr} {h : HV} {a0 a1 a2 a3 : AV} {r st : List AV} {x : Int} : X fz d k Q (.dload 4 :: is) (a0 :: a1 :: a2 :: a3 :: (2, x) :: r) st h = X fz d k Q is (a0 :: a1 :: a2 :: a3 :: (2, x) :: r) ((2, x) :: st) h := rfl
theorem x_dload6 {fz : Int → Int → Option Int} {d k : Nat} {Q : Int → HV → Prop} {is : List Instr} {h : HV} {a0 a1 a2 a3 a4 a5 : AV} {r st : List AV} {x : Int} : X fz d k Q (.dload 6 :: is) (a0 :: a1 :: a2 :: a3 :: a4 :: a5 :: (2, x) :: r) st h = X fz d k Q is (a0 :: a1 :: a2 :: a3 :: a4 :: a5 :: (2, x) :: r) ((2, x) :: st) h := rfl
theorem x_dload9 {fz : Int → Int → Option Int} {d k : Nat} {Q : Int → HV → Prop} {is : List Instr} {h : HV} {a0 a1 a2 a3 a4 a5 a6 a7 a8 : AV} {r st : List AV} {x : Int} : X fz d k Q (.dload 9 :: is) (a0 :: a1 :: a2 :: a3 :: a4 :: a5 :: a6 :: a7 :: a8 :: (2, x) :: r) st h = X fz d k Q is (a0 :: a1 :: a2 :: a3 :: a4 :: a5 :: a6 :: a7 :: a8 :: (2, x) :: r) ((2, x) :: st) h := rfl
theorem x_dmul {fz : Int → Int → Option Int} {d k : Nat} {Q : Int → HV → Prop} {is : List Instr} {h : HV} {ls st : List AV} {x y : Int} : X fz d k Q (.dmul :: is) ls ((2, y) :: (2, x) :: st) h = (vf_n64 (FP.dmul (d_U x) (d_U y)) ∧ X fz d k Q is ls ((2, d_I (FP.dmul (d_U x) (d_U y))) :: st) h) := rfl
theorem x_dneg {fz : Int → Int → Option Int} {d k : Nat} {Q : Int → HV → Prop} {is : List Instr} {h : HV} {ls st : List AV} {x : Int} : X fz d k Q (.dneg :: is) ls ((2, x) :: st) h = X fz d k Q is ls ((2, d_I (FP.dneg (d_U x))) :: st) h := rfl
theorem x_drem {fz : Int → Int → Option Int} {d k : Nat} {Q : Int → HV → Prop} {is : List Instr} {h : HV} {ls st : List AV} {x y : Int} : X fz d k Q (.drem :: is) ls ((2, y) :: (2, x) :: st) h = (vf_n64 (FP.drem (d_U x) (d_U y)) ∧ X fz d k Q is ls ((2, d_I (FP.drem (d_U x) (d_U y))) :: st) h) := rfl
theorem x_dreturn {fz : Int → Int → Option Int} {d k : Nat} {Q : Int → HV → Prop} {is : List Instr} {h : HV} {ls : List AV} {x : Int} : X fz d k Q (.dreturn :: is) ls [(2, x)] h = Q x h := rfl
theorem x_dstore4 {fz : Int → Int → Option Int} {d k : Nat} {Q : Int → HV → Prop} {is : List Instr} {h : HV} {a0 a1 a2 a3 : AV} {b c : AV} {r st : List AV} {x : Int} : X fz d k Q (.dstore 4 :: is) (a0 :: a1 :: a2 :: a3 :: b :: c :: r) ((2, x) :: st) h = X fz d k Q is (a0 :: a1 :: a2 :: klp 0 a3 :: (2, x) :: (9, 0) :: r) st h := rfl
theorem x_dstore6 {fz : Int → Int → Option Int} {d k : Nat} {Q : Int → HV → Prop} {is : List Instr} {h : HV} {a0 a1 a2 a3 a4 a5 : AV} {b c : AV} {r st : List AV} {x : Int} : X fz d k Q (.dstore 6 :: is) (a0 :: a1 :: a2 :: a3 :: a4 :: a5 :: b :: c :: r) ((2, x) :: st) h = X fz d k Q is (a0 :: a1 :: a2 :: a3 :: a4 :: klp 0 a5 :: (2, x) :: (9, 0) :: r) st h := rfl
theorem x_dstore9 {fz : Int → Int → Option Int} {d k : Nat} {Q : Int → HV → Prop} {is : List Instr} {h : HV} {a0 a1 a2 a3 a4 a5 a6 a7 a8 : AV} {b c : AV} {r st : List AV} {x : Int} : X fz d k Q (.dstore 9 :: is) (a0 :: a1 :: a2 :: a3 :: a4 :: a5 :: a6 :: a7 :: a8 :: b :: c :: r) ((2, x) :: st) h = X fz d k Q is (a0 :: a1 :: a2 :: a3 :: a4 :: a5 :: a6 :: a7 :: klp 0 a8 :: (2, x) :: (9, 0) :: r) st h := rfl
theorem x_dsub {fz : Int → Int → Option Int} {d k : Nat} {Q : Int → HV → Prop} {is : List Instr} {h : HV} {ls st : List AV} {x y : Int} : X fz d k Q (.dsub :: is) ls ((2, y) :: (2, x) :: st) h = (vf_n64 (FP.dsub (d_U x) (d_U y)) ∧ X fz d k Q is ls ((2, d_I (FP.dsub (d_U x) (d_U y))) :: st) h) := rfl
theorem x_dup0 {fz : Int → Int → Option Int} {d k : Nat} {Q : Int → HV → Prop} {is : List Instr} {h : HV} {ls st : List AV} {x : Int} : X fz d k Q (.dup :: is) ls ((0, x) :: st) h = X fz d k Q is ls ((0, x) :: (0, x) :: st) h := rfl
theorem x_dup203 {fz : Int → Int → Option Int} {d k : Nat} {Q : Int → HV → Prop} {is : List Instr} {h : HV} {ls st : List AV} {x y : Int} : X fz d k Q (.dup2 :: is) ls ((0, x) :: (3, y) :: st) h = X fz d k Q is ls ((0, x) :: (3, y) :: (0, x) :: (3, y) :: st) h := rfl
theorem x_dup21 {fz : Int → Int → Option Int} {d k : Nat} {Q : Int → HV → Prop} {is : List Instr} {h : HV} {ls st : List AV} {x : Int} : X fz d k Q (.dup2 :: is) ls ((1, x) :: st) h = X fz d k Q is ls ((1, x) :: (1, x) :: st) h := rfl
theorem x_dup3 {fz : Int → Int → Option Int} {d k : Nat} {Q : Int → HV → Prop} {is : List Instr} {h : HV} {ls st : List AV} {x : Int} : X fz d k Q (.dup :: is) ls ((3, x) :: st) h = X fz d k Q is ls ((3, x) :: (3, x) :: st) h := rfl
theorem x_f2d {fz : Int → Int → Option Int} {d k : Nat} {Q : Int → HV → Prop} {is : List Instr} {h : HV} {ls st : List AV} {x : Int} : X fz d k Q (.f2d :: is) ls ((1, x) :: st) h = ((vn_snl2d (Int64.ofInt x) = false ∧ wds st ≤ 8) ∧ X fz d k Q is ls ((2, x) :: st) h) := rfl
theorem x_fadd {fz : Int → Int → Option Int} {d k : Nat} {Q : Int → HV → Prop} {is : List Instr} {h : HV} {ls : List AV} {x : Int} : X fz d k Q (.fadd :: is) ls [(0, x)] h = Q (w8 x) h := rfl
theorem x_fneg {fz : Int → Int → Option Int} {d k : Nat} {Q : Int → HV → Prop} {is : List Instr} {h : HV} {ls : List AV} {x : Int} : X fz d k Q (.fneg :: is) ls [(0, x)] h = Q (x % 65536) h := rfl
theorem x_freturn {fz : Int → Int → Option Int} {d k : Nat} {Q : Int → HV → Prop} {is : List Instr} {h : HV} {ls : List AV} {x : Int} : X fz d k Q (.freturn :: is) ls [(0, x)] h = Q (x % 2) h := rfl
theorem x_gc_10243 {fz : Int → Int → Option Int} {d k : Nat} {Q : Int → HV → Prop} {is : List Instr} {h : HV} {ls st : List AV} {o : Int} : X fz d k Q (.ifnonnull 10243 :: is) ls ((3, o) :: st) h = ((o ≠ 0 ∧ o % 64 = 10) ∧ X fz d k Q is ls ((3, rd fz h o 0) :: st) h) := rfl
theorem x_gc_10251 {fz : Int → Int → Option Int} {d k : Nat} {Q : Int → HV → Prop} {is : List Instr} {h : HV} {ls st : List AV} {o : Int} : X fz d k Q (.ifnonnull 10251 :: is) ls ((3, o) :: st) h = ((o ≠ 0 ∧ o % 64 = 10) ∧ X fz d k Q is ls ((3, rd fz h o 1) :: st) h) := rfl
theorem x_gc_10259 {fz : Int → Int → Option Int} {d k : Nat} {Q : Int → HV → Prop} {is : List Instr} {h : HV} {ls st : List AV} {o : Int} : X fz d k Q (.ifnonnull 10259 :: is) ls ((3, o) :: st) h = ((o ≠ 0 ∧ o % 64 = 10) ∧ X fz d k Q is ls ((3, rd fz h o 2) :: st) h) := rfl
theorem x_gc_10267 {fz : Int → Int → Option Int} {d k : Nat} {Q : Int → HV → Prop} {is : List Instr} {h : HV} {ls st : List AV} {o : Int} : X fz d k Q (.ifnonnull 10267 :: is) ls ((3, o) :: st) h = ((o ≠ 0 ∧ o % 64 = 10) ∧ X fz d k Q is ls ((3, rd fz h o 3) :: st) h) := rfl
theorem x_gc_1027 {fz : Int → Int → Option Int} {d k : Nat} {Q : Int → HV → Prop} {is : List Instr} {h : HV} {ls st : List AV} {o : Int} : X fz d k Q (.ifnonnull 1027 :: is) ls ((3, o) :: st) h = ((o ≠ 0 ∧ o % 64 = 1) ∧ X fz d k Q is ls ((3, rd fz h o 0) :: st) h) := rfl
theorem x_gc_10275 {fz : Int → Int → Option Int} {d k : Nat} {Q : Int → HV → Prop} {is : List Instr} {h : HV} {ls st : List AV} {o : Int} : X fz d k Q (.ifnonnull 10275 :: is) ls ((3, o) :: st) h = ((o ≠ 0 ∧ o % 64 = 10) ∧ X fz d k Q is ls ((3, rd fz h o 4) :: st) h) := rfl
theorem x_gc_10283 {fz : Int → Int → Option Int} {d k : Nat} {Q : Int → HV → Prop} {is : List Instr} {h : HV} {ls st : List AV} {o : Int} : X fz d k Q (.ifnonnull 10283 :: is) ls ((3, o) :: st) h = ((o ≠ 0 ∧ o % 64 = 10) ∧ X fz d k Q is ls ((3, rd fz h o 5) :: st) h) := rfl
theorem x_gc_10291 {fz : Int → Int → Option Int} {d k : Nat} {Q : Int → HV → Prop} {is : List Instr} {h : HV} {ls st : List AV} {o : Int} : X fz d k Q (.ifnonnull 10291 :: is) ls ((3, o) :: st) h = ((o ≠ 0 ∧ o % 64 = 10) ∧ X fz d k Q is ls ((3, rd fz h o 6) :: st) h) := rfl
theorem x_gc_10299 {fz : Int → Int → Option Int} {d k : Nat} {Q : Int → HV → Prop} {is : List Instr} {h : HV} {ls st : List AV} {o : Int} : X fz d k Q (.ifnonnull 10299 :: is) ls ((3, o) :: st) h = ((o ≠ 0 ∧ o % 64 = 10) ∧ X fz d k Q is ls ((3, rd fz h o 7) :: st) h) := rfl
theorem x_gc_10307 {fz : Int → Int → Option Int} {d k : Nat} {Q : Int → HV → Prop} {is : List Instr} {h : HV} {ls st : List AV} {o : Int} : X fz d k Q (.ifnonnull 10307 :: is) ls ((3, o) :: st) h = ((o ≠ 0 ∧ o % 64 = 10) ∧ X fz d k Q is ls ((3, rd fz h o 8) :: st) h) := rfl
theorem x_gc_10315 {fz : Int → Int → Option Int} {d k : Nat} {Q : Int → HV → Prop} {is : List Instr} {h : HV} {ls st : List AV} {o : Int} : X fz d k Q (.ifnonnull 10315 :: is) ls ((3, o) :: st) h = ((o ≠ 0 ∧ o % 64 = 10) ∧ X fz d k Q is ls ((3, rd fz h o 9) :: st) h) := rfl
theorem x_gc_10323 {fz : Int → Int → Option Int} {d k : Nat} {Q : Int → HV → Prop} {is : List Instr} {h : HV} {ls st : List AV} {o : Int} : X fz d k Q (.ifnonnull 10323 :: is) ls ((3, o) :: st) h = ((o ≠ 0 ∧ o % 64 = 10) ∧ X fz d k Q is ls ((3, rd fz h o 10) :: st) h) := rfl
theorem x_gc_10339 {fz : Int → Int → Option Int} {d k : Nat} {Q : Int → HV → Prop} {is : List Instr} {h : HV} {ls st : List AV} {o : Int} : X fz d k Q (.ifnonnull 10339 :: is) ls ((3, o) :: st) h = ((o ≠ 0 ∧ o % 64 = 10) ∧ X fz d k Q is ls ((3, rd fz h o 12) :: st) h) := rfl
theorem x_gc_10347 {fz : Int → Int → Option Int} {d k : Nat} {Q : Int → HV → Prop} {is : List Instr} {h : HV} {ls st : List AV} {o : Int} : X fz d k Q (.ifnonnull 10347 :: is) ls ((3, o) :: st) h = ((o ≠ 0 ∧ o % 64 = 10) ∧ X fz d k Q is ls ((3, rd fz h o 13) :: st) h) := rfl
theorem x_gc_10355 {fz : Int → Int → Option Int} {d k : Nat} {Q : Int → HV → Prop} {is : List Instr} {h : HV} {ls st : List AV} {o : Int} : X fz d k Q (.ifnonnull 10355 :: is) ls ((3, o) :: st) h = ((o ≠ 0 ∧ o % 64 = 10) ∧ X fz d k Q is ls ((3, rd fz h o 14) :: st) h) := rfl
theorem x_gc_10371 {fz : Int → Int → Option Int} {d k : Nat} {Q : Int → HV → Prop} {is : List Instr} {h : HV} {ls st : List AV} {o : Int} : X fz d k Q (.ifnonnull 10371 :: is) ls ((3, o) :: st) h = ((o ≠ 0 ∧ o % 64 = 10) ∧ X fz d k Q is ls ((3, rd fz h o 16) :: st) h) := rfl
theorem x_gc_107 {fz : Int → Int → Option Int} {d k : Nat} {Q : Int → HV → Prop} {is : List Instr} {h : HV} {ls st : List AV} {o : Int} : X fz d k Q (.ifnonnull 107 :: is) ls ((3, o) :: st) h = ((o ≠ 0 ∧ o % 64 = 0) ∧ X fz d k Q is ls ((3, rd fz h o 13) :: st) h) := rfl
theorem x_gc_11 {fz : Int → Int → Option Int} {d k : Nat} {Q : Int → HV → Prop} {is : List Instr} {h : HV} {ls st : List AV} {o : Int} : X fz d k Q (.ifnonnull 11 :: is) ls ((3, o) :: st) h = ((o ≠ 0 ∧ o % 64 = 0) ∧ X fz d k Q is ls ((3, rd fz h o 1) :: st) h) := rfl
theorem x_gc_11267 {fz : Int → Int → Option Int} {d k : Nat} {Q : Int → HV → Prop} {is : List Instr} {h : HV} {ls st : List AV} {o : Int} : X fz d k Q (.ifnonnull 11267 :: is) ls ((3, o) :: st) h = ((o ≠ 0 ∧ o % 64 = 11) ∧ X fz d k Q is ls ((3, rd fz h o 0) :: st) h) := rfl
theorem x_gc_11355 {fz : Int → Int → Option Int} {d k : Nat} {Q : Int → HV → Prop} {is : List Instr} {h : HV} {ls st : List AV} {o : Int} : X fz d k Q (.ifnonnull 11355 :: is) ls ((3, o) :: st) h = ((o ≠ 0 ∧ o % 64 = 11) ∧ X fz d k Q is ls ((3, rd fz h o 11) :: st) h) := rfl
theorem x_gc_11379 {fz : Int → Int → Option Int} {d k : Nat} {Q : Int → HV → Prop} {is : List Instr} {h : HV} {ls st : List AV} {o : Int} : X fz d k Q (.ifnonnull 11379 :: is) ls ((3, o) :: st) h = ((o ≠ 0 ∧ o % 64 = 11) ∧ X fz d k Q is ls ((3, rd fz h o 14) :: st) h) := rfl
theorem x_gc_11395 {fz : Int → Int → Option Int} {d k : Nat} {Q : Int → HV → Prop} {is : List Instr} {h : HV} {ls st : List AV} {o : Int} : X fz d k Q (.ifnonnull 11395 :: is) ls ((3, o) :: st) h = ((o ≠ 0 ∧ o % 64 = 11) ∧ X fz d k Q is ls ((3, rd fz h o 16) :: st) h) := rfl
theorem x_gc_11403 {fz : Int → Int → Option Int} {d k : Nat} {Q : Int → HV → Prop} {is : List Instr} {h : HV} {ls st : List AV} {o : Int} : X fz d k Q (.ifnonnull 11403 :: is) ls ((3, o) :: st) h = ((o ≠ 0 ∧ o % 64 = 11) ∧ X fz d k Q is ls ((3, rd fz h o 17) :: st) h) := rfl
theorem x_gc_11411 {fz : Int → Int → Option Int} {d k : Nat} {Q : Int → HV → Prop} {is : List Instr} {h : HV} {ls st : List AV} {o : Int} : X fz d k Q (.ifnonnull 11411 :: is) ls ((3, o) :: st) h = ((o ≠ 0 ∧ o % 64 = 11) ∧ X fz d k Q is ls ((3, rd fz h o 18) :: st) h) := rfl
theorem x_gc_11427 {fz : Int → Int → Option Int} {d k : Nat} {Q : Int → HV → Prop} {is : List Instr} {h : HV} {ls st : List AV} {o : Int} : X fz d k Q (.ifnonnull 11427 :: is) ls ((3, o) :: st) h = ((o ≠ 0 ∧ o % 64 = 11) ∧ X fz d k Q is ls ((3, rd fz h o 20) :: st) h) := rfl
theorem x_gc_11435 {fz : Int → Int → Option Int} {d k : Nat} {Q : Int → HV → Prop} {is : List Instr} {h : HV} {ls st : List AV} {o : Int} : X fz d k Q (.ifnonnull 11435 :: is) ls ((3, o) :: st) h = ((o ≠ 0 ∧ o % 64 = 11) ∧ X fz d k Q is ls ((3, rd fz h o 21) :: st) h) := rfl
theorem x_gc_11443 {fz : Int → Int → Option Int} {d k : Nat} {Q : Int → HV → Prop} {is : List Instr} {h : HV} {ls st : List AV} {o : Int} : X fz d k Q (.ifnonnull 11443 :: is) ls ((3, o) :: st) h = ((o ≠ 0 ∧ o % 64 = 11) ∧ X fz d k Q is ls ((3, rd fz h o 22) :: st) h) := rfl
theorem x_gc_11451 {fz : Int → Int → Option Int} {d k : Nat} {Q : Int → HV → Prop} {is : List Instr} {h : HV} {ls st : List AV} {o : Int} : X fz d k Q (.ifnonnull 11451 :: is) ls ((3, o) :: st) h = ((o ≠ 0 ∧ o % 64 = 11) ∧ X fz d k Q is ls ((3, rd fz h o 23) :: st) h) := rfl
theorem x_gc_11475 {fz : Int → Int → Option Int} {d k : Nat} {Q : Int → HV → Prop} {is : List Instr} {h : HV} {ls st : List AV} {o : Int} : X fz d k Q (.ifnonnull 11475 :: is) ls ((3, o) :: st) h = ((o ≠ 0 ∧ o % 64 = 11) ∧ X fz d k Q is ls ((3, rd fz h o 26) :: st) h) := rfl
theorem x_gc_11483 {fz : Int → Int → Option Int} {d k : Nat} {Q : Int → HV → Prop} {is : List Instr} {h : HV} {ls st : List AV} {o : Int} : X fz d k Q (.ifnonnull 11483 :: is) ls ((3, o) :: st) h = ((o ≠ 0 ∧ o % 64 = 11) ∧ X fz d k Q is ls ((3, rd fz h o 27) :: st) h) := rfl
theorem x_gc_11491 {fz : Int → Int → Option Int} {d k : Nat} {Q : Int → HV → Prop} {is : List Instr} {h : HV} {ls st : List AV} {o : Int} : X fz d k Q (.ifnonnull 11491 :: is) ls ((3, o) :: st) h = ((o ≠ 0 ∧ o % 64 = 11) ∧ X fz d k Q is ls ((3, rd fz h o 28) :: st) h) := rfl
theorem x_gc_11499 {fz : Int → Int → Option Int} {d k : Nat} {Q : Int → HV → Prop} {is : List Instr} {h : HV} {ls st : List AV} {o : Int} : X fz d k Q (.ifnonnull 11499 :: is) ls ((3, o) :: st) h = ((o ≠ 0 ∧ o % 64 = 11) ∧ X fz d k Q is ls ((3, rd fz h o 29) :: st) h) := rfl
theorem x_gc_115 {fz : Int → Int → Option Int} {d k : Nat} {Q : Int → HV → Prop} {is : List Instr} {h : HV} {ls st : List AV} {o : Int} : X fz d k Q (.ifnonnull 115 :: is) ls ((3, o) :: st) h = ((o ≠ 0 ∧ o % 64 = 0) ∧ X fz d k Q is ls ((3, rd fz h o 14) :: st) h) := rfl
theorem x_gc_11515 {fz : Int → Int → Option Int} {d k : Nat} {Q : Int → HV → Prop} {is : List Instr} {h : HV} {ls st : List AV} {o : Int} : X fz d k Q (.ifnonnull 11515 :: is) ls ((3, o) :: st) h = ((o ≠ 0 ∧ o % 64 = 11) ∧ X fz d k Q is ls ((3, rd fz h o 31) :: st) h) := rfl
theorem x_gc_11523 {fz : Int → Int → Option Int} {d k : Nat} {Q : Int → HV → Prop} {is : List Instr} {h : HV} {ls st : List AV} {o : Int} : X fz d k Q (.ifnonnull 11523 :: is) ls ((3, o) :: st) h = ((o ≠ 0 ∧ o % 64 = 11) ∧ X fz d k Q is ls ((3, rd fz h o 32) :: st) h) := rfl
theorem x_gc_11531 {fz : Int → Int → Option Int} {d k : Nat} {Q : Int → HV → Prop} {is : List Instr} {h : HV} {ls st : List AV} {o : Int} : X fz d k Q (.ifnonnull 11531 :: is) ls ((3, o) :: st) h = ((o ≠ 0 ∧ o % 64 = 11) ∧ X fz d k Q is ls ((3, rd fz h o 33) :: st) h) := rfl
theorem x_gc_11539 {fz : Int → Int → Option Int} {d k : Nat} {Q : Int → HV → Prop} {is : List Instr} {h : HV} {ls st : List AV} {o : Int} : X fz d k Q (.ifnonnull 11539 :: is) ls ((3, o) :: st) h = ((o ≠ 0 ∧ o % 64 = 11) ∧ X fz d k Q is ls ((3, rd fz h o 34) :: st) h) := rfl
theorem x_gc_11547 {fz : Int → Int → Option Int} {d k : Nat} {Q : Int → HV → Prop} {is : List Instr} {h : HV} {ls st : List AV} {o : Int} : X fz d k Q (.ifnonnull 11547 :: is) ls ((3, o) :: st) h = ((o ≠ 0 ∧ o % 64 = 11) ∧ X fz d k Q is ls ((3, rd fz h o 35) :: st) h) := rfl
theorem x_gc_11563 {fz : Int → Int → Option Int} {d k : Nat} {Q : Int → HV → Prop} {is : List Instr} {h : HV} {ls st : List AV} {o : Int} : X fz d k Q (.ifnonnull 11563 :: is) ls ((3, o) :: st) h = ((o ≠ 0 ∧ o % 64 = 11) ∧ X fz d k Q is ls ((3, rd fz h o 37) :: st) h) := rfl
theorem x_gc_11571 {fz : Int → Int → Option Int} {d k : Nat} {Q : Int → HV → Prop} {is : List Instr} {h : HV} {ls st : List AV} {o : Int} : X fz d k Q (.ifnonnull 11571 :: is) ls ((3, o) :: st) h = ((o ≠ 0 ∧ o % 64 = 11) ∧ X fz d k Q is ls ((3, rd fz h o 38) :: st) h) := rfl
theorem x_gc_11579 {fz : Int → Int → Option Int} {d k : Nat} {Q : Int → HV → Prop} {is : List Instr} {h : HV} {ls st : List AV} {o : Int} : X fz d k Q (.ifnonnull 11579 :: is) ls ((3, o) :: st) h = ((o ≠ 0 ∧ o % 64 = 11) ∧ X fz d k Q is ls ((3, rd fz h o 39) :: st) h) := rfl
theorem x_gc_11587 {fz : Int → Int → Option Int} {d k : Nat} {Q : Int → HV → Prop} {is : List Instr} {h : HV} {ls st : List AV} {o : Int} : X fz d k Q (.ifnonnull 11587 :: is) ls ((3, o) :: st) h = ((o ≠ 0 ∧ o % 64 = 11) ∧ X fz d k Q is ls ((3, rd fz h o 40) :: st) h) := rfl
theorem x_gc_11603 {fz : Int → Int → Option Int} {d k : Nat} {Q : Int → HV → Prop} {is : List Instr} {h : HV} {ls st : List AV} {o : Int} : X fz d k Q (.ifnonnull 11603 :: is) ls ((3, o) :: st) h = ((o ≠ 0 ∧ o % 64 = 11) ∧ X fz d k Q is ls ((3, rd fz h o 42) :: st) h) := rfl
theorem x_gc_11611 {fz : Int → Int → Option Int} {d k : Nat} {Q : Int → HV → Prop} {is : List Instr} {h : HV} {ls st : List AV} {o : Int} : X fz d k Q (.ifnonnull 11611 :: is) ls ((3, o) :: st) h = ((o ≠ 0 ∧ o % 64 = 11) ∧ X fz d k Q is ls ((3, rd fz h o 43) :: st) h) := rfl
theorem x_gc_11627 {fz : Int → Int → Option Int} {d k : Nat} {Q : Int → HV → Prop} {is : List Instr} {h : HV} {ls st : List AV} {o : Int} : X fz d k Q (.ifnonnull 11627 :: is) ls ((3, o) :: st) h = ((o ≠ 0 ∧ o % 64 = 11) ∧ X fz d k Q is ls ((3, rd fz h o 45) :: st) h) := rfl
theorem x_gc_11635 {fz : Int → Int → Option Int} {d k : Nat} {Q : Int → HV → Prop} {is : List Instr} {h : HV} {ls st : List AV} {o : Int} : X fz d k Q (.ifnonnull 11635 :: is) ls ((3, o) :: st) h = ((o ≠ 0 ∧ o % 64 = 11) ∧ X fz d k Q is ls ((3, rd fz h o 46) :: st) h) := rfl
theorem x_gc_11643 {fz : Int → Int → Option Int} {d k : Nat} {Q : Int → HV → Prop} {is : List Instr} {h : HV} {ls st : List AV} {o : Int} : X fz d k Q (.ifnonnull 11643 :: is) ls ((3, o) :: st) h = ((o ≠ 0 ∧ o % 64 = 11) ∧ X fz d k Q is ls ((3, rd fz h o 47) :: st) h) := rfl
theorem x_gc_11651 {fz : Int → Int → Option Int} {d k : Nat} {Q : Int → HV → Prop} {is : List Instr} {h : HV} {ls st : List AV} {o : Int} : X fz d k Q (.ifnonnull 11651 :: is) ls ((3, o) :: st) h = ((o ≠ 0 ∧ o % 64 = 11) ∧ X fz d k Q is ls ((3, rd fz h o 48) :: st) h) := rfl
theorem x_gc_11659 {fz : Int → Int → Option Int} {d k : Nat} {Q : Int → HV → Prop} {is : List Instr} {h : HV} {ls st : List AV} {o : Int} : X fz d k Q (.ifnonnull 11659 :: is) ls ((3, o) :: st) h = ((o ≠ 0 ∧ o % 64 = 11) ∧ X fz d k Q is ls ((3, rd fz h o 49) :: st) h) := rfl
theorem x_gc_11667 {fz : Int → Int → Option Int} {d k : Nat} {Q : Int → HV → Prop} {is : List Instr} {h : HV} {ls st : List AV} {o : Int} : X fz d k Q (.ifnonnull 11667 :: is) ls ((3, o) :: st) h = ((o ≠ 0 ∧ o % 64 = 11) ∧ X fz d k Q is ls ((3, rd fz h o 50) :: st) h) := rfl
theorem x_gc_11675 {fz : Int → Int → Option Int} {d k : Nat} {Q : Int → HV → Prop} {is : List Instr} {h : HV} {ls st : List AV} {o : Int} : X fz d k Q (.ifnonnull 11675 :: is) ls ((3, o) :: st) h = ((o ≠ 0 ∧ o % 64 = 11) ∧ X fz d k Q is ls ((3, rd fz h o 51) :: st) h) := rfl
theorem x_gc_11747 {fz : Int → Int → Option Int} {d k : Nat} {Q : Int → HV → Prop} {is : List Instr} {h : HV} {ls st : List AV} {o : Int} : X fz d k Q (.ifnonnull 11747 :: is) ls ((3, o) :: st) h = ((o ≠ 0 ∧ o % 64 = 11) ∧ X fz d k Q is ls ((3, rd fz h o 60) :: st) h) := rfl
theorem x_gc_11763 {fz : Int → Int → Option Int} {d k : Nat} {Q : Int → HV → Prop} {is : List Instr} {h : HV} {ls st : List AV} {o : Int} : X fz d k Q (.ifnonnull 11763 :: is) ls ((3, o) :: st) h = ((o ≠ 0 ∧ o % 64 = 11) ∧ X fz d k Q is ls ((3, rd fz h o 62) :: st) h) := rfl
theorem x_gc_11771 {fz : Int → Int → Option Int} {d k : Nat} {Q : Int → HV → Prop} {is : List Instr} {h : HV} {ls st : List AV} {o : Int} : X fz d k Q (.ifnonnull 11771 :: is) ls ((3, o) :: st) h = ((o ≠ 0 ∧ o % 64 = 11) ∧ X fz d k Q is ls ((3, rd fz h o 63) :: st) h) := rfl
theorem x_gc_11779 {fz : Int → Int → Option Int} {d k : Nat} {Q : Int → HV → Prop} {is : List Instr} {h : HV} {ls st : List AV} {o : Int} : X fz d k Q (.ifnonnull 11779 :: is) ls ((3, o) :: st) h = ((o ≠ 0 ∧ o % 64 = 11) ∧ X fz d k Q is ls ((3, rd fz h o 64) :: st) h) := rfl
theorem x_gc_11795 {fz : Int → Int → Option Int} {d k : Nat} {Q : Int → HV → Prop} {is : List Instr} {h : HV} {ls st : List AV} {o : Int} : X fz d k Q (.ifnonnull 11795 :: is) ls ((3, o) :: st) h = ((o ≠ 0 ∧ o % 64 = 11) ∧ X fz d k Q is ls ((3, rd fz h o 66) :: st) h) := rfl
theorem x_gc_11803 {fz : Int → Int → Option Int} {d k : Nat} {Q : Int → HV → Prop} {is : List Instr} {h : HV} {ls st : List AV} {o : Int} : X fz d k Q (.ifnonnull 11803 :: is) ls ((3, o) :: st) h = ((o ≠ 0 ∧ o % 64 = 11) ∧ X fz d k Q is ls ((3, rd fz h o 67) :: st) h) := rfl
theorem x_gc_11811 {fz : Int → Int → Option Int} {d k : Nat} {Q : Int → HV → Prop} {is : List Instr} {h : HV} {ls st : List AV} {o : Int} : X fz d k Q (.ifnonnull 11811 :: is) ls ((3, o) :: st) h = ((o ≠ 0 ∧ o % 64 = 11) ∧ X fz d k Q is ls ((3, rd fz h o 68) :: st) h) := rfl
theorem x_gc_11859 {fz : Int → Int → Option Int} {d k : Nat} {Q : Int → HV → Prop} {is : List Instr} {h : HV} {ls st : List AV} {o : Int} : X fz d k Q (.ifnonnull 11859 :: is) ls ((3, o) :: st) h = ((o ≠ 0 ∧ o % 64 = 11) ∧ X fz d k Q is ls ((3, rd fz h o 74) :: st) h) := rfl
theorem x_gc_11867 {fz : Int → Int → Option Int} {d k : Nat} {Q : Int → HV → Prop} {is : List Instr} {h : HV} {ls st : List AV} {o : Int} : X fz d k Q (.ifnonnull 11867 :: is) ls ((3, o) :: st) h = ((o ≠ 0 ∧ o % 64 = 11) ∧ X fz d k Q is ls ((3, rd fz h o 75) :: st) h) := rfl
theorem x_gc_11875 {fz : Int → Int → Option Int} {d k : Nat} {Q : Int → HV → Prop} {is : List Instr} {h : HV} {ls st : List AV} {o : Int} : X fz d k Q (.ifnonnull 11875 :: is) ls ((3, o) :: st) h = ((o ≠ 0 ∧ o % 64 = 11) ∧ X fz d k Q is ls ((3, rd fz h o 76) :: st) h) := rfl
theorem x_gc_11883 {fz : Int → Int → Option Int} {d k : Nat} {Q : Int → HV → Prop} {is : List Instr} {h : HV} {ls st : List AV} {o : Int} : X fz d k Q (.ifnonnull 11883 :: is) ls ((3, o) :: st) h = ((o ≠ 0 ∧ o % 64 = 11) ∧ X fz d k Q is ls ((3, rd fz h o 77) :: st) h) := rfl
theorem x_gc_11891 {fz : Int → Int → Option Int} {d k : Nat} {Q : Int → HV → Prop} {is : List Instr} {h : HV} {ls st : List AV} {o : Int} : X fz d k Q (.ifnonnull 11891 :: is) ls ((3, o) :: st) h = ((o ≠ 0 ∧ o % 64 = 11) ∧ X fz d k Q is ls ((3, rd fz h o 78) :: st) h) := rfl
theorem x_gc_11899 {fz : Int → Int → Option Int} {d k : Nat} {Q : Int → HV → Prop} {is : List Instr} {h : HV} {ls st : List AV} {o : Int} : X fz d k Q (.ifnonnull 11899 :: is) ls ((3, o) :: st) h = ((o ≠ 0 ∧ o % 64 = 11) ∧ X fz d k Q is ls ((3, rd fz h o 79) :: st) h) := rfl
theorem x_gc_11907 {fz : Int → Int → Option Int} {d k : Nat} {Q : Int → HV → Prop} {is : List Instr} {h : HV} {ls st : List AV} {o : Int} : X fz d k Q (.ifnonnull 11907 :: is) ls ((3, o) :: st) h = ((o ≠ 0 ∧ o % 64 = 11) ∧ X fz d k Q is ls ((3, rd fz h o 80) :: st) h) := rfl
theorem x_gc_11915 {fz : Int → Int → Option Int} {d k : Nat} {Q : Int → HV → Prop} {is : List Instr} {h : HV} {ls st : List AV} {o : Int} : X fz d k Q (.ifnonnull 11915 :: is) ls ((3, o) :: st) h = ((o ≠ 0 ∧ o % 64 = 11) ∧ X fz d k Q is ls ((3, rd fz h o 81) :: st) h) := rfl
theorem x_gc_11923 {fz : Int → Int → Option Int} {d k : Nat} {Q : Int → HV → Prop} {is : List Instr} {h : HV} {ls st : List AV} {o : Int} : X fz d k Q (.ifnonnull 11923 :: is) ls ((3, o) :: st) h = ((o ≠ 0 ∧ o % 64 = 11) ∧ X fz d k Q is ls ((3, rd fz h o 82) :: st) h) := rfl
theorem x_gc_11931 {fz : Int → Int → Option Int} {d k : Nat} {Q : Int → HV → Prop} {is : List Instr} {h : HV} {ls st : List AV} {o : Int} : X fz d k Q (.ifnonnull 11931 :: is) ls ((3, o) :: st) h = ((o ≠ 0 ∧ o % 64 = 11) ∧ X fz d k Q is ls ((3, rd fz h o 83) :: st) h) := rfl
theorem x_gc_11939 {fz : Int → Int → Option Int} {d k : Nat} {Q : Int → HV → Prop} {is : List Instr} {h : HV} {ls st : List AV} {o : Int} : X fz d k Q (.ifnonnull 11939 :: is) ls ((3, o) :: st) h = ((o ≠ 0 ∧ o % 64 = 11) ∧ X fz d k Q is ls ((3, rd fz h o 84) :: st) h) := rfl
theorem x_gc_11947 {fz : Int → Int → Option Int} {d k : Nat} {Q : Int → HV → Prop} {is : List Instr} {h : HV} {ls st : List AV} {o : Int} : X fz d k Q (.ifnonnull 11947 :: is) ls ((3, o) :: st) h = ((o ≠ 0 ∧ o % 64 = 11) ∧ X fz d k Q is ls ((3, rd fz h o 85) :: st) h) := rfl
theorem x_gc_11963 {fz : Int → Int → Option Int} {d k : Nat} {Q : Int → HV → Prop} {is : List Instr} {h : HV} {ls st : List AV} {o : Int} : X fz d k Q (.ifnonnull 11963 :: is) ls ((3, o) :: st) h = ((o ≠ 0 ∧ o % 64 = 11) ∧ X fz d k Q is ls ((3, rd fz h o 87) :: st) h) := rfl
theorem x_gc_11971 {fz : Int → Int → Option Int} {d k : Nat} {Q : Int → HV → Prop} {is : List Instr} {h : HV} {ls st : List AV} {o : Int} : X fz d k Q (.ifnonnull 11971 :: is) ls ((3, o) :: st) h = ((o ≠ 0 ∧ o % 64 = 11) ∧ X fz d k Q is ls ((3, rd fz h o 88) :: st) h) := rfl
theorem x_gc_11979 {fz : Int → Int → Option Int} {d k : Nat} {Q : Int → HV → Prop} {is : List Instr} {h : HV} {ls st : List AV} {o : Int} : X fz d k Q (.ifnonnull 11979 :: is) ls ((3, o) :: st) h = ((o ≠ 0 ∧ o % 64 = 11) ∧ X fz d k Q is ls ((3, rd fz h o 89) :: st) h) := rfl
theorem x_gc_11987 {fz : Int → Int → Option Int} {d k : Nat} {Q : Int → HV → Prop} {is : List Instr} {h : HV} {ls st : List AV} {o : Int} : X fz d k Q (.ifnonnull 11987 :: is) ls ((3, o) :: st) h = ((o ≠ 0 ∧ o % 64 = 11) ∧ X fz d k Q is ls ((3, rd fz h o 90) :: st) h) := rfl
theorem x_gc_11995 {fz : Int → Int → Option Int} {d k : Nat} {Q : Int → HV → Prop} {is : List Instr} {h : HV} {ls st : List AV} {o : Int} : X fz d k Q (.ifnonnull 11995 :: is) ls ((3, o) :: st) h = ((o ≠ 0 ∧ o % 64 = 11) ∧ X fz d k Q is ls ((3, rd fz h o 91) :: st) h) := rfl
theorem x_gc_12003 {fz : Int → Int → Option Int} {d k : Nat} {Q : Int → HV → Prop} {is : List Instr} {h : HV} {ls st : List AV} {o : Int} : X fz d k Q (.ifnonnull 12003 :: is) ls ((3, o) :: st) h = ((o ≠ 0 ∧ o % 64 = 11) ∧ X fz d k Q is ls ((3, rd fz h o 92) :: st) h) := rfl
theorem x_gc_12019 {fz : Int → Int → Option Int} {d k : Nat} {Q : Int → HV → Prop} {is : List Instr} {h : HV} {ls st : List AV} {o : Int} : X fz d k Q (.ifnonnull 12019 :: is) ls ((3, o) :: st) h = ((o ≠ 0 ∧ o % 64 = 11) ∧ X fz d k Q is ls ((3, rd fz h o 94) :: st) h) := rfl
theorem x_gc_12291 {fz : Int → Int → Option Int} {d k : Nat} {Q : Int → HV → Prop} {is : List Instr} {h : HV} {ls st : List AV} {o : Int} : X fz d k Q (.ifnonnull 12291 :: is) ls ((3, o) :: st) h = ((o ≠ 0 ∧ o % 64 = 12) ∧ X fz d k Q is ls ((3, rd fz h o 0) :: st) h) := rfl
theorem x_gc_12299 {fz : Int → Int → Option Int} {d k : Nat} {Q : Int → HV → Prop} {is : List Instr} {h : HV} {ls st : List AV} {o : Int} : X fz d k Q (.ifnonnull 12299 :: is) ls ((3, o) :: st) h = ((o ≠ 0 ∧ o % 64 = 12) ∧ X fz d k Q is ls ((3, rd fz h o 1) :: st) h) := rfl
theorem x_gc_123 {fz : Int → Int → Option Int} {d k : Nat} {Q : Int → HV → Prop} {is : List Instr} {h : HV} {ls st : List AV} {o : Int} : X fz d k Q (.ifnonnull 123 :: is) ls ((3, o) :: st) h = ((o ≠ 0 ∧ o % 64 = 0) ∧ X fz d k Q is ls ((3, rd fz h o 15) :: st) h) := rfl
theorem x_gc_12307 {fz : Int → Int → Option Int} {d k : Nat} {Q : Int → HV → Prop} {is : List Instr} {h : HV} {ls st : List AV} {o : Int} : X fz d k Q (.ifnonnull 12307 :: is) ls ((3, o) :: st) h = ((o ≠ 0 ∧ o % 64 = 12) ∧ X fz d k Q is ls ((3, rd fz h o 2) :: st) h) := rfl
theorem x_gc_12315 {fz : Int → Int → Option Int} {d k : Nat} {Q : Int → HV → Prop} {is : List Instr} {h : HV} {ls st : List AV} {o : Int} : X fz d k Q (.ifnonnull 12315 :: is) ls ((3, o) :: st) h = ((o ≠ 0 ∧ o % 64 = 12) ∧ X fz d k Q is ls ((3, rd fz h o 3) :: st) h) := rfl
theorem x_gc_12323 {fz : Int → Int → Option Int} {d k : Nat} {Q : Int → HV → Prop} {is : List Instr} {h : HV} {ls st : List AV} {o : Int} : X fz d k Q (.ifnonnull 12323 :: is) ls ((3, o) :: st) h = ((o ≠ 0 ∧ o % 64 = 12) ∧ X fz d k Q is ls ((3, rd fz h o 4) :: st) h) := rfl
theorem x_gc_12331 {fz : Int → Int → Option Int} {d k : Nat} {Q : Int → HV → Prop} {is : List Instr} {h : HV} {ls st : List AV} {o : Int} : X fz d k Q (.ifnonnull 12331 :: is) ls ((3, o) :: st) h = ((o ≠ 0 ∧ o % 64 = 12) ∧ X fz d k Q is ls ((3, rd fz h o 5) :: st) h) := rfl
theorem x_gc_12339 {fz : Int → Int → Option Int} {d k : Nat} {Q : Int → HV → Prop} {is : List Instr} {h : HV} {ls st : List AV} {o : Int} : X fz d k Q (.ifnonnull 12339 :: is) ls ((3, o) :: st) h = ((o ≠ 0 ∧ o % 64 = 12) ∧ X fz d k Q is ls ((3, rd fz h o 6) :: st) h) := rfl
theorem x_gc_12347 {fz : Int → Int → Option Int} {d k : Nat} {Q : Int → HV → Prop} {is : List Instr} {h : HV} {ls st : List AV} {o : Int} : X fz d k Q (.ifnonnull 12347 :: is) ls ((3, o) :: st) h = ((o ≠ 0 ∧ o % 64 = 12) ∧ X fz d k Q is ls ((3, rd fz h o 7) :: st) h) := rfl
theorem x_gc_12355 {fz : Int → Int → Option Int} {d k : Nat} {Q : Int → HV → Prop} {is : List Instr} {h : HV} {ls st : List AV} {o : Int} : X fz d k Q (.ifnonnull 12355 :: is) ls ((3, o) :: st) h = ((o ≠ 0 ∧ o % 64 = 12) ∧ X fz d k Q is ls ((3, rd fz h o 8) :: st) h) := rfl
theorem x_gc_12363 {fz : Int → Int → Option Int} {d k : Nat} {Q : Int → HV → Prop} {is : List Instr} {h : HV} {ls st : List AV} {o : Int} : X fz d k Q (.ifnonnull 12363 :: is) ls ((3, o) :: st) h = ((o ≠ 0 ∧ o % 64 = 12) ∧ X fz d k Q is ls ((3, rd fz h o 9) :: st) h) := rfl
theorem x_gc_12371 {fz : Int → Int → Option Int} {d k : Nat} {Q : Int → HV → Prop} {is : List Instr} {h : HV} {ls st : List AV} {o : Int} : X fz d k Q (.ifnonnull 12371 :: is) ls ((3, o) :: st) h = ((o ≠ 0 ∧ o % 64 = 12) ∧ X fz d k Q is ls ((3, rd fz h o 10) :: st) h) := rfl
theorem x_gc_12379 {fz : Int → Int → Option Int} {d k : Nat} {Q : Int → HV → Prop} {is : List Instr} {h : HV} {ls st : List AV} {o : Int} : X fz d k Q (.ifnonnull 12379 :: is) ls ((3, o) :: st) h = ((o ≠ 0 ∧ o % 64 = 12) ∧ X fz d k Q is ls ((3, rd fz h o 11) :: st) h) := rfl
theorem x_gc_12387 {fz : Int → Int → Option Int} {d k : Nat} {Q : Int → HV → Prop} {is : List Instr} {h : HV} {ls st : List AV} {o : Int} : X fz d k Q (.ifnonnull 12387 :: is) ls ((3, o) :: st) h = ((o ≠ 0 ∧ o % 64 = 12) ∧ X fz d k Q is ls ((3, rd fz h o 12) :: st) h) := rfl
theorem x_gc_12395 {fz : Int → Int → Option Int} {d k : Nat} {Q : Int → HV → Prop} {is : List Instr} {h : HV} {ls st : List AV} {o : Int} : X fz d k Q (.ifnonnull 12395 :: is) ls ((3, o) :: st) h = ((o ≠ 0 ∧ o % 64 = 12) ∧ X fz d k Q is ls ((3, rd fz h o 13) :: st) h) := rfl
theorem x_gc_12419 {fz : Int → Int → Option Int} {d k : Nat} {Q : Int → HV → Prop} {is : List Instr} {h : HV} {ls st : List AV} {o : Int} : X fz d k Q (.ifnonnull 12419 :: is) ls ((3, o) :: st) h = ((o ≠ 0 ∧ o % 64 = 12) ∧ X fz d k Q is ls ((3, rd fz h o 16) :: st) h) := rfl
theorem x_gc_12427 {fz : Int → Int → Option Int} {d k : Nat} {Q : Int → HV → Prop} {is : List Instr} {h : HV} {ls st : List AV} {o : Int} : X fz d k Q (.ifnonnull 12427 :: is) ls ((3, o) :: st) h = ((o ≠ 0 ∧ o % 64 = 12) ∧ X fz d k Q is ls ((3, rd fz h o 17) :: st) h) := rfl
theorem x_gc_12435 {fz : Int → Int → Option Int} {d k : Nat} {Q : Int → HV → Prop} {is : List Instr} {h : HV} {ls st : List AV} {o : Int} : X fz d k Q (.ifnonnull 12435 :: is) ls ((3, o) :: st) h = ((o ≠ 0 ∧ o % 64 = 12) ∧ X fz d k Q is ls ((3, rd fz h o 18) :: st) h) := rfl
theorem x_gc_12443 {fz : Int → Int → Option Int} {d k : Nat} {Q : Int → HV → Prop} {is : List Instr} {h : HV} {ls st : List AV} {o : Int} : X fz d k Q (.ifnonnull 12443 :: is) ls ((3, o) :: st) h = ((o ≠ 0 ∧ o % 64 = 12) ∧ X fz d k Q is ls ((3, rd fz h o 19) :: st) h) := rfl
theorem x_gc_12475 {fz : Int → Int → Option Int} {d k : Nat} {Q : Int → HV → Prop} {is : List Instr} {h : HV} {ls st : List AV} {o : Int} : X fz d k Q (.ifnonnull 12475 :: is) ls ((3, o) :: st) h = ((o ≠ 0 ∧ o % 64 = 12) ∧ X fz d k Q is ls ((3, rd fz h o 23) :: st) h) := rfl
theorem x_gc_12483 {fz : Int → Int → Option Int} {d k : Nat} {Q : Int → HV → Prop} {is : List Instr} {h : HV} {ls st : List AV} {o : Int} : X fz d k Q (.ifnonnull 12483 :: is) ls ((3, o) :: st) h = ((o ≠ 0 ∧ o % 64 = 12) ∧ X fz d k Q is ls ((3, rd fz h o 24) :: st) h) := rfl
theorem x_gc_13315 {fz : Int → Int → Option Int} {d k : Nat} {Q : Int → HV → Prop} {is : List Instr} {h : HV} {ls st : List AV} {o : Int} : X fz d k Q (.ifnonnull 13315 :: is) ls ((3, o) :: st) h = ((o ≠ 0 ∧ o % 64 = 13) ∧ X fz d k Q is ls ((3, rd fz h o 0) :: st) h) := rfl
theorem x_gc_13326 {fz : Int → Int → Option Int} {d k : Nat} {Q : Int → HV → Prop} {is : List Instr} {h : HV} {ls st : List AV} {o : Int} : X fz d k Q (.ifnonnull 13326 :: is) ls ((3, o) :: st) h = ((o ≠ 0 ∧ o % 64 = 13) ∧ X fz d k Q is ls ((0, rd fz h o 1) :: st) h) := rfl
theorem x_gc_19 {fz : Int → Int → Option Int} {d k : Nat} {Q : Int → HV → Prop} {is : List Instr} {h : HV} {ls st : List AV} {o : Int} : X fz d k Q (.ifnonnull 19 :: is) ls ((3, o) :: st) h = ((o ≠ 0 ∧ o % 64 = 0) ∧ X fz d k Q is ls ((3, rd fz h o 2) :: st) h) := rfl
theorem x_gc_2051 {fz : Int → Int → Option Int} {d k : Nat} {Q : Int → HV → Prop} {is : List Instr} {h : HV} {ls st : List AV} {o : Int} : X fz d k Q (.ifnonnull 2051 :: is) ls ((3, o) :: st) h = ((o ≠ 0 ∧ o % 64 = 2) ∧ X fz d k Q is ls ((3, rd fz h o 0) :: st) h) := rfl
theorem x_gc_2083 {fz : Int → Int → Option Int} {d k : Nat} {Q : Int → HV → Prop} {is : List Instr} {h : HV} {ls st : List AV} {o : Int} : X fz d k Q (.ifnonnull 2083 :: is) ls ((3, o) :: st) h = ((o ≠ 0 ∧ o % 64 = 2) ∧ X fz d k Q is ls ((3, rd fz h o 4) :: st) h) := rfl
theorem x_gc_2091 {fz : Int → Int → Option Int} {d k : Nat} {Q : Int → HV → Prop} {is : List Instr} {h : HV} {ls st : List AV} {o : Int} : X fz d k Q (.ifnonnull 2091 :: is) ls ((3, o) :: st) h = ((o ≠ 0 ∧ o % 64 = 2) ∧ X fz d k Q is ls ((3, rd fz h o 5) :: st) h) := rfl
theorem x_gc_2107 {fz : Int → Int → Option Int} {d k : Nat} {Q : Int → HV → Prop} {is : List Instr} {h : HV} {ls st : List AV} {o : Int} : X fz d k Q (.ifnonnull 2107 :: is) ls ((3, o) :: st) h = ((o ≠ 0 ∧ o % 64 = 2) ∧ X fz d k Q is ls ((3, rd fz h o 7) :: st) h) := rfl
theorem x_gc_2115 {fz : Int → Int → Option Int} {d k : Nat} {Q : Int → HV → Prop} {is : List Instr} {h : HV} {ls st : List AV} {o : Int} : X fz d k Q (.ifnonnull 2115 :: is) ls ((3, o) :: st) h = ((o ≠ 0 ∧ o % 64 = 2) ∧ X fz d k Q is ls ((3, rd fz h o 8) :: st) h) := rfl
theorem x_gc_2123 {fz : Int → Int → Option Int} {d k : Nat} {Q : Int → HV → Prop} {is : List Instr} {h : HV} {ls st : List AV} {o : Int} : X fz d k Q (.ifnonnull 2123 :: is) ls ((3, o) :: st) h = ((o ≠ 0 ∧ o % 64 = 2) ∧ X fz d k Q is ls ((3, rd fz h o 9) :: st) h) := rfl
theorem x_gc_27 {fz : Int → Int → Option Int} {d k : Nat} {Q : Int → HV → Prop} {is : List Instr} {h : HV} {ls st : List AV} {o : Int} : X fz d k Q (.ifnonnull 27 :: is) ls ((3, o) :: st) h = ((o ≠ 0 ∧ o % 64 = 0) ∧ X fz d k Q is ls ((3, rd fz h o 3) :: st) h) := rfl
theorem x_gc_3 {fz : Int → Int → Option Int} {d k : Nat} {Q : Int → HV → Prop} {is : List Instr} {h : HV} {ls st : List AV} {o : Int} : X fz d k Q (.ifnonnull 3 :: is) ls ((3, o) :: st) h = ((o ≠ 0 ∧ o % 64 = 0) ∧ X fz d k Q is ls ((3, rd fz h o 0) :: st) h) := rfl
theorem x_gc_35 {fz : Int → Int → Option Int} {d k : Nat} {Q : Int → HV → Prop} {is : List Instr} {h : HV} {ls st : List AV} {o : Int} : X fz d k Q (.ifnonnull 35 :: is) ls ((3, o) :: st) h = ((o ≠ 0 ∧ o % 64 = 0) ∧ X fz d k Q is ls ((3, rd fz h o 4) :: st) h) := rfl
theorem x_gc_4099 {fz : Int → Int → Option Int} {d k : Nat} {Q : Int → HV → Prop} {is : List Instr} {h : HV} {ls st : List AV} {o : Int} : X fz d k Q (.ifnonnull 4099 :: is) ls ((3, o) :: st) h = ((o ≠ 0 ∧ o % 64 = 4) ∧ X fz d k Q is ls ((3, rd fz h o 0) :: st) h) := rfl
theorem x_gc_4107 {fz : Int → Int → Option Int} {d k : Nat} {Q : Int → HV → Prop} {is : List Instr} {h : HV} {ls st : List AV} {o : Int} : X fz d k Q (.ifnonnull 4107 :: is) ls ((3, o) :: st) h = ((o ≠ 0 ∧ o % 64 = 4) ∧ X fz d k Q is ls ((3, rd fz h o 1) :: st) h) := rfl
theorem x_gc_4115 {fz : Int → Int → Option Int} {d k : Nat} {Q : Int → HV → Prop} {is : List Instr} {h : HV} {ls st : List AV} {o : Int} : X fz d k Q (.ifnonnull 4115 :: is) ls ((3, o) :: st) h = ((o ≠ 0 ∧ o % 64 = 4) ∧ X fz d k Q is ls ((3, rd fz h o 2) :: st) h) := rfl
theorem x_gc_4123 {fz : Int → Int → Option Int} {d k : Nat} {Q : Int → HV → Prop} {is : List Instr} {h : HV} {ls st : List AV} {o : Int} : X fz d k Q (.ifnonnull 4123 :: is) ls ((3, o) :: st) h = ((o ≠ 0 ∧ o % 64 = 4) ∧ X fz d k Q is ls ((3, rd fz h o 3) :: st) h) := rfl
theorem x_gc_43 {fz : Int → Int → Option Int} {d k : Nat} {Q : Int → HV → Prop} {is : List Instr} {h : HV} {ls st : List AV} {o : Int} : X fz d k Q (.ifnonnull 43 :: is) ls ((3, o) :: st) h = ((o ≠ 0 ∧ o % 64 = 0) ∧ X fz d k Q is ls ((3, rd fz h o 5) :: st) h) := rfl
theorem x_gc_51 {fz : Int → Int → Option Int} {d k : Nat} {Q : Int → HV → Prop} {is : List Instr} {h : HV} {ls st : List AV} {o : Int} : X fz d k Q (.ifnonnull 51 :: is) ls ((3, o) :: st) h = ((o ≠ 0 ∧ o % 64 = 0) ∧ X fz d k Q is ls ((3, rd fz h o 6) :: st) h) := rfl
theorem x_gc_5123 {fz : Int → Int → Option Int} {d k : Nat} {Q : Int → HV → Prop} {is : List Instr} {h : HV} {ls st : List AV} {o : Int} : X fz d k Q (.ifnonnull 5123 :: is) ls ((3, o) :: st) h = ((o ≠ 0 ∧ o % 64 = 5) ∧ X fz d k Q is ls ((3, rd fz h o 0) :: st) h) := rfl
theorem x_gc_5131 {fz : Int → Int → Option Int} {d k : Nat} {Q : Int → HV → Prop} {is : List Instr} {h : HV} {ls st : List AV} {o : Int} : X fz d k Q (.ifnonnull 5131 :: is) ls ((3, o) :: st) h = ((o ≠ 0 ∧ o % 64 = 5) ∧ X fz d k Q is ls ((3, rd fz h o 1) :: st) h) := rfl
theorem x_gc_5139 {fz : Int → Int → Option Int} {d k : Nat} {Q : Int → HV → Prop} {is : List Instr} {h : HV} {ls st : List AV} {o : Int} : X fz d k Q (.ifnonnull 5139 :: is) ls ((3, o) :: st) h = ((o ≠ 0 ∧ o % 64 = 5) ∧ X fz d k Q is ls ((3, rd fz h o 2) :: st) h) := rfl
theorem x_gc_5171 {fz : Int → Int → Option Int} {d k : Nat} {Q : Int → HV → Prop} {is : List Instr} {h : HV} {ls st : List AV} {o : Int} : X fz d k Q (.ifnonnull 5171 :: is) ls ((3, o) :: st) h = ((o ≠ 0 ∧ o % 64 = 5) ∧ X fz d k Q is ls ((3, rd fz h o 6) :: st) h) := rfl
theorem x_gc_5179 {fz : Int → Int → Option Int} {d k : Nat} {Q : Int → HV → Prop} {is : List Instr} {h : HV} {ls st : List AV} {o : Int} : X fz d k Q (.ifnonnull 5179 :: is) ls ((3, o) :: st) h = ((o ≠ 0 ∧ o % 64 = 5) ∧ X fz d k Q is ls ((3, rd fz h o 7) :: st) h) := rfl
theorem x_gc_5195 {fz : Int → Int → Option Int} {d k : Nat} {Q : Int → HV → Prop} {is : List Instr} {h : HV} {ls st : List AV} {o : Int} : X fz d k Q (.ifnonnull 5195 :: is) ls ((3, o) :: st) h = ((o ≠ 0 ∧ o % 64 = 5) ∧ X fz d k Q is ls ((3, rd fz h o 9) :: st) h) := rfl
theorem x_gc_5203 {fz : Int → Int → Option Int} {d k : Nat} {Q : Int → HV → Prop} {is : List Instr} {h : HV} {ls st : List AV} {o : Int} : X fz d k Q (.ifnonnull 5203 :: is) ls ((3, o) :: st) h = ((o ≠ 0 ∧ o % 64 = 5) ∧ X fz d k Q is ls ((3, rd fz h o 10) :: st) h) := rfl
theorem x_gc_5211 {fz : Int → Int → Option Int} {d k : Nat} {Q : Int → HV → Prop} {is : List Instr} {h : HV} {ls st : List AV} {o : Int} : X fz d k Q (.ifnonnull 5211 :: is) ls ((3, o) :: st) h = ((o ≠ 0 ∧ o % 64 = 5) ∧ X fz d k Q is ls ((3, rd fz h o 11) :: st) h) := rfl
theorem x_gc_5219 {fz : Int → Int → Option Int} {d k : Nat} {Q : Int → HV → Prop} {is : List Instr} {h : HV} {ls st : List AV} {o : Int} : X fz d k Q (.ifnonnull 5219 :: is) ls ((3, o) :: st) h = ((o ≠ 0 ∧ o % 64 = 5) ∧ X fz d k Q is ls ((3, rd fz h o 12) :: st) h) := rfl
theorem x_gc_5227 {fz : Int → Int → Option Int} {d k : Nat} {Q : Int → HV → Prop} {is : List Instr} {h : HV} {ls st : List AV} {o : Int} : X fz d k Q (.ifnonnull 5227 :: is) ls ((3, o) :: st) h = ((o ≠ 0 ∧ o % 64 = 5) ∧ X fz d k Q is ls ((3, rd fz h o 13) :: st) h) := rfl
theorem x_gc_5235 {fz : Int → Int → Option Int} {d k : Nat} {Q : Int → HV → Prop} {is : List Instr} {h : HV} {ls st : List AV} {o : Int} : X fz d k Q (.ifnonnull 5235 :: is) ls ((3, o) :: st) h = ((o ≠ 0 ∧ o % 64 = 5) ∧ X fz d k Q is ls ((3, rd fz h o 14) :: st) h) := rfl
theorem x_gc_59 {fz : Int → Int → Option Int} {d k : Nat} {Q : Int → HV → Prop} {is : List Instr} {h : HV} {ls st : List AV} {o : Int} : X fz d k Q (.ifnonnull 59 :: is) ls ((3, o) :: st) h = ((o ≠ 0 ∧ o % 64 = 0) ∧ X fz d k Q is ls ((3, rd fz h o 7) :: st) h) := rfl
theorem x_gc_7187 {fz : Int → Int → Option Int} {d k : Nat} {Q : Int → HV → Prop} {is : List Instr} {h : HV} {ls st : List AV} {o : Int} : X fz d k Q (.ifnonnull 7187 :: is) ls ((3, o) :: st) h = ((o ≠ 0 ∧ o % 64 = 7) ∧ X fz d k Q is ls ((3, rd fz h o 2) :: st) h) := rfl
theorem x_gc_7195 {fz : Int → Int → Option Int} {d k : Nat} {Q : Int → HV → Prop} {is : List Instr} {h : HV} {ls st : List AV} {o : Int} : X fz d k Q (.ifnonnull 7195 :: is) ls ((3, o) :: st) h = ((o ≠ 0 ∧ o % 64 = 7) ∧ X fz d k Q is ls ((3, rd fz h o 3) :: st) h) := rfl
theorem x_gc_7203 {fz : Int → Int → Option Int} {d k : Nat} {Q : Int → HV → Prop} {is : List Instr} {h : HV} {ls st : List AV} {o : Int} : X fz d k Q (.ifnonnull 7203 :: is) ls ((3, o) :: st) h = ((o ≠ 0 ∧ o % 64 = 7) ∧ X fz d k Q is ls ((3, rd fz h o 4) :: st) h) := rfl
theorem x_gc_7211 {fz : Int → Int → Option Int} {d k : Nat} {Q : Int → HV → Prop} {is : List Instr} {h : HV} {ls st : List AV} {o : Int} : X fz d k Q (.ifnonnull 7211 :: is) ls ((3, o) :: st) h = ((o ≠ 0 ∧ o % 64 = 7) ∧ X fz d k Q is ls ((3, rd fz h o 5) :: st) h) := rfl
theorem x_gc_7219 {fz : Int → Int → Option Int} {d k : Nat} {Q : Int → HV → Prop} {is : List Instr} {h : HV} {ls st : List AV} {o : Int} : X fz d k Q (.ifnonnull 7219 :: is) ls ((3, o) :: st) h = ((o ≠ 0 ∧ o % 64 = 7) ∧ X fz d k Q is ls ((3, rd fz h o 6) :: st) h) := rfl
theorem x_gc_7227 {fz : Int → Int → Option Int} {d k : Nat} {Q : Int → HV → Prop} {is : List Instr} {h : HV} {ls st : List AV} {o : Int} : X fz d k Q (.ifnonnull 7227 :: is) ls ((3, o) :: st) h = ((o ≠ 0 ∧ o % 64 = 7) ∧ X fz d k Q is ls ((3, rd fz h o 7) :: st) h) := rfl
theorem x_gc_7235 {fz : Int → Int → Option Int} {d k : Nat} {Q : Int → HV → Prop} {is : List Instr} {h : HV} {ls st : List AV} {o : Int} : X fz d k Q (.ifnonnull 7235 :: is) ls ((3, o) :: st) h = ((o ≠ 0 ∧ o % 64 = 7) ∧ X fz d k Q is ls ((3, rd fz h o 8) :: st) h) := rfl
theorem x_gc_7243 {fz : Int → Int → Option Int} {d k : Nat} {Q : Int → HV → Prop} {is : List Instr} {h : HV} {ls st : List AV} {o : Int} : X fz d k Q (.ifnonnull 7243 :: is) ls ((3, o) :: st) h = ((o ≠ 0 ∧ o % 64 = 7) ∧ X fz d k Q is ls ((3, rd fz h o 9) :: st) h) := rfl
theorem x_gc_7259 {fz : Int → Int → Option Int} {d k : Nat} {Q : Int → HV → Prop} {is : List Instr} {h : HV} {ls st : List AV} {o : Int} : X fz d k Q (.ifnonnull 7259 :: is) ls ((3, o) :: st) h = ((o ≠ 0 ∧ o % 64 = 7) ∧ X fz d k Q is ls ((3, rd fz h o 11) :: st) h) := rfl
theorem x_gc_8195 {fz : Int → Int → Option Int} {d k : Nat} {Q : Int → HV → Prop} {is : List Instr} {h : HV} {ls st : List AV} {o : Int} : X fz d k Q (.ifnonnull 8195 :: is) ls ((3, o) :: st) h = ((o ≠ 0 ∧ o % 64 = 8) ∧ X fz d k Q is ls ((3, rd fz h o 0) :: st) h) := rfl
theorem x_gc_8211 {fz : Int → Int → Option Int} {d k : Nat} {Q : Int → HV → Prop} {is : List Instr} {h : HV} {ls st : List AV} {o : Int} : X fz d k Q (.ifnonnull 8211 :: is) ls ((3, o) :: st) h = ((o ≠ 0 ∧ o % 64 = 8) ∧ X fz d k Q is ls ((3, rd fz h o 2) :: st) h) := rfl
theorem x_gc_8219 {fz : Int → Int → Option Int} {d k : Nat} {Q : Int → HV → Prop} {is : List Instr} {h : HV} {ls st : List AV} {o : Int} : X fz d k Q (.ifnonnull 8219 :: is) ls ((3, o) :: st) h = ((o ≠ 0 ∧ o % 64 = 8) ∧ X fz d k Q is ls ((3, rd fz h o 3) :: st) h) := rfl
theorem x_gc_8235 {fz : Int → Int → Option Int} {d k : Nat} {Q : Int → HV → Prop} {is : List Instr} {h : HV} {ls st : List AV} {o : Int} : X fz d k Q (.ifnonnull 8235 :: is) ls ((3, o) :: st) h = ((o ≠ 0 ∧ o % 64 = 8) ∧ X fz d k Q is ls ((3, rd fz h o 5) :: st) h) := rfl
theorem x_gc_8251 {fz : Int → Int → Option Int} {d k : Nat} {Q : Int → HV → Prop} {is : List Instr} {h : HV} {ls st : List AV} {o : Int} : X fz d k Q (.ifnonnull 8251 :: is) ls ((3, o) :: st) h = ((o ≠ 0 ∧ o % 64 = 8) ∧ X fz d k Q is ls ((3, rd fz h o 7) :: st) h) := rfl
theorem x_gc_8259 {fz : Int → Int → Option Int} {d k : Nat} {Q : Int → HV → Prop} {is : List Instr} {h : HV} {ls st : List AV} {o : Int} : X fz d k Q (.ifnonnull 8259 :: is) ls ((3, o) :: st) h = ((o ≠ 0 ∧ o % 64 = 8) ∧ X fz d k Q is ls ((3, rd fz h o 8) :: st) h) := rfl
theorem x_gc_9219 {fz : Int → Int → Option Int} {d k : Nat} {Q : Int → HV → Prop} {is : List Instr} {h : HV} {ls st : List AV} {o : Int} : X fz d k Q (.ifnonnull 9219 :: is) ls ((3, o) :: st) h = ((o ≠ 0 ∧ o % 64 = 9) ∧ X fz d k Q is ls ((3, rd fz h o 0) :: st) h) := rfl
theorem x_gc_9235 {fz : Int → Int → Option Int} {d k : Nat} {Q : Int → HV → Prop} {is : List Instr} {h : HV} {ls st : List AV} {o : Int} : X fz d k Q (.ifnonnull 9235 :: is) ls ((3, o) :: st) h = ((o ≠ 0 ∧ o % 64 = 9) ∧ X fz d k Q is ls ((3, rd fz h o 2) :: st) h) := rfl
theorem x_gc_9243 {fz : Int → Int → Option Int} {d k : Nat} {Q : Int → HV → Prop} {is : List Instr} {h : HV} {ls st : List AV} {o : Int} : X fz d k Q (.ifnonnull 9243 :: is) ls ((3, o) :: st) h = ((o ≠ 0 ∧ o % 64 = 9) ∧ X fz d k Q is ls ((3, rd fz h o 3) :: st) h) := rfl
theorem x_gc_9251 {fz : Int → Int → Option Int} {d k : Nat} {Q : Int → HV → Prop} {is : List Instr} {h : HV} {ls st : List AV} {o : Int} : X fz d k Q (.ifnonnull 9251 :: is) ls ((3, o) :: st) h = ((o ≠ 0 ∧ o % 64 = 9) ∧ X fz d k Q is ls ((3, rd fz h o 4) :: st) h) := rfl
theorem x_gc_9259 {fz : Int → Int → Option Int} {d k : Nat} {Q : Int → HV → Prop} {is : List Instr} {h : HV} {ls st : List AV} {o : Int} : X fz d k Q (.ifnonnull 9259 :: is) ls ((3, o) :: st) h = ((o ≠ 0 ∧ o % 64 = 9) ∧ X fz d k Q is ls ((3, rd fz h o 5) :: st) h) := rfl
theorem x_gc_9275 {fz : Int → Int → Option Int} {d k : Nat} {Q : Int → HV → Prop} {is : List Instr} {h : HV} {ls st : List AV} {o : Int} : X fz d k Q (.ifnonnull 9275 :: is) ls ((3, o) :: st) h = ((o ≠ 0 ∧ o % 64 = 9) ∧ X fz d k Q is ls ((3, rd fz h o 7) :: st) h) := rfl
theorem x_gc_9283 {fz : Int → Int → Option Int} {d k : Nat} {Q : Int → HV → Prop} {is : List Instr} {h : HV} {ls st : List AV} {o : Int} : X fz d k Q (.ifnonnull 9283 :: is) ls ((3, o) :: st) h = ((o ≠ 0 ∧ o % 64 = 9) ∧ X fz d k Q is ls ((3, rd fz h o 8) :: st) h) := rfl
theorem x_gc_9291 {fz : Int → Int → Option Int} {d k : Nat} {Q : Int → HV → Prop} {is : List Instr} {h : HV} {ls st : List AV} {o : Int} : X fz d k Q (.ifnonnull 9291 :: is) ls ((3, o) :: st) h = ((o ≠ 0 ∧ o % 64 = 9) ∧ X fz d k Q is ls ((3, rd fz h o 9) :: st) h) := rfl
theorem x_gf_1032 {fz : Int → Int → Option Int} {d k : Nat} {Q : Int → HV → Prop} {is : List Instr} {h : HV} {ls st : List AV} {o : Int} : X fz d k Q (.ifnull 1032 :: is) ls ((3, o) :: st) h = ((o ≠ 0 ∧ o % 64 = 1) ∧ X fz d k Q is ls ((0, h o 1) :: st) h) := rfl
theorem x_gf_10328 {fz : Int → Int → Option Int} {d k : Nat} {Q : Int → HV → Prop} {is : List Instr} {h : HV} {ls st : List AV} {o : Int} : X fz d k Q (.ifnull 10328 :: is) ls ((3, o) :: st) h = ((o ≠ 0 ∧ o % 64 = 10) ∧ X fz d k Q is ls ((0, h o 11) :: st) h) := rfl
theorem x_gf_10360 {fz : Int → Int → Option Int} {d k : Nat} {Q : Int → HV → Prop} {is : List Instr} {h : HV} {ls st : List AV} {o : Int} : X fz d k Q (.ifnull 10360 :: is) ls ((3, o) :: st) h = ((o ≠ 0 ∧ o % 64 = 10) ∧ X fz d k Q is ls ((0, h o 15) :: st) h) := rfl
theorem x_gf_10376 {fz : Int → Int → Option Int} {d k : Nat} {Q : Int → HV → Prop} {is : List Instr} {h : HV} {ls st : List AV} {o : Int} : X fz d k Q (.ifnull 10376 :: is) ls ((3, o) :: st) h = ((o ≠ 0 ∧ o % 64 = 10) ∧ X fz d k Q is ls ((0, h o 17) :: st) h) := rfl
theorem x_gf_1040 {fz : Int → Int → Option Int} {d k : Nat} {Q : Int → HV → Prop} {is : List Instr} {h : HV} {ls st : List AV} {o : Int} : X fz d k Q (.ifnull 1040 :: is) ls ((3, o) :: st) h = ((o ≠ 0 ∧ o % 64 = 1) ∧ X fz d k Q is ls ((0, h o 2) :: st) h) := rfl
theorem x_gf_1048 {fz : Int → Int → Option Int} {d k : Nat} {Q : Int → HV → Prop} {is : List Instr} {h : HV} {ls st : List AV} {o : Int} : X fz d k Q (.ifnull 1048 :: is) ls ((3, o) :: st) h = ((o ≠ 0 ∧ o % 64 = 1) ∧ X fz d k Q is ls ((0, h o 3) :: st) h) := rfl
theorem x_gf_1056 {fz : Int → Int → Option Int} {d k : Nat} {Q : Int → HV → Prop} {is : List Instr} {h : HV} {ls st : List AV} {o : Int} : X fz d k Q (.ifnull 1056 :: is) ls ((3, o) :: st) h = ((o ≠ 0 ∧ o % 64 = 1) ∧ X fz d k Q is ls ((0, h o 4) :: st) h) := rfl
theorem x_gf_1064 {fz : Int → Int → Option Int} {d k : Nat} {Q : Int → HV → Prop} {is : List Instr} {h : HV} {ls st : List AV} {o : Int} : X fz d k Q (.ifnull 1064 :: is) ls ((3, o) :: st) h = ((o ≠ 0 ∧ o % 64 = 1) ∧ X fz d k Q is ls ((0, h o 5) :: st) h) := rfl
theorem x_gf_1073 {fz : Int → Int → Option Int} {d k : Nat} {Q : Int → HV → Prop} {is : List Instr} {h : HV} {ls st : List AV} {o : Int} : X fz d k Q (.ifnull 1073 :: is) ls ((3, o) :: st) h = ((o ≠ 0 ∧ o % 64 = 1) ∧ X fz d k Q is ls ((1, h o 6) :: st) h) := rfl
theorem x_gf_1081 {fz : Int → Int → Option Int} {d k : Nat} {Q : Int → HV → Prop} {is : List Instr} {h : HV} {ls st : List AV} {o : Int} : X fz d k Q (.ifnull 1081 :: is) ls ((3, o) :: st) h = ((o ≠ 0 ∧ o % 64 = 1) ∧ X fz d k Q is ls ((1, h o 7) :: st) h) := rfl
theorem x_gf_1088 {fz : Int → Int → Option Int} {d k : Nat} {Q : Int → HV → Prop} {is : List Instr} {h : HV} {ls st : List AV} {o : Int} : X fz d k Q (.ifnull 1088 :: is) ls ((3, o) :: st) h = ((o ≠ 0 ∧ o % 64 = 1) ∧ X fz d k Q is ls ((0, h o 8) :: st) h) := rfl
theorem x_gf_1101 {fz : Int → Int → Option Int} {d k : Nat} {Q : Int → HV → Prop} {is : List Instr} {h : HV} {ls st : List AV} {o : Int} : X fz d k Q (.ifnull 1101 :: is) ls ((3, o) :: st) h = ((o ≠ 0 ∧ o % 64 = 1) ∧ X fz d k Q is ls ((0, h o 9) :: st) h) := rfl
theorem x_gf_11272 {fz : Int → Int → Option Int} {d k : Nat} {Q : Int → HV → Prop} {is : List Instr} {h : HV} {ls st : List AV} {o : Int} : X fz d k Q (.ifnull 11272 :: is) ls ((3, o) :: st) h = ((o ≠ 0 ∧ o % 64 = 11) ∧ X fz d k Q is ls ((0, h o 1) :: st) h) := rfl
theorem x_gf_11280 {fz : Int → Int → Option Int} {d k : Nat} {Q : Int → HV → Prop} {is : List Instr} {h : HV} {ls st : List AV} {o : Int} : X fz d k Q (.ifnull 11280 :: is) ls ((3, o) :: st) h = ((o ≠ 0 ∧ o % 64 = 11) ∧ X fz d k Q is ls ((0, h o 2) :: st) h) := rfl
theorem x_gf_11288 {fz : Int → Int → Option Int} {d k : Nat} {Q : Int → HV → Prop} {is : List Instr} {h : HV} {ls st : List AV} {o : Int} : X fz d k Q (.ifnull 11288 :: is) ls ((3, o) :: st) h = ((o ≠ 0 ∧ o % 64 = 11) ∧ X fz d k Q is ls ((0, h o 3) :: st) h) := rfl
theorem x_gf_11296 {fz : Int → Int → Option Int} {d k : Nat} {Q : Int → HV → Prop} {is : List Instr} {h : HV} {ls st : List AV} {o : Int} : X fz d k Q (.ifnull 11296 :: is) ls ((3, o) :: st) h = ((o ≠ 0 ∧ o % 64 = 11) ∧ X fz d k Q is ls ((0, h o 4) :: st) h) := rfl
theorem x_gf_11304 {fz : Int → Int → Option Int} {d k : Nat} {Q : Int → HV → Prop} {is : List Instr} {h : HV} {ls st : List AV} {o : Int} : X fz d k Q (.ifnull 11304 :: is) ls ((3, o) :: st) h = ((o ≠ 0 ∧ o % 64 = 11) ∧ X fz d k Q is ls ((0, h o 5) :: st) h) := rfl
theorem x_gf_11314 {fz : Int → Int → Option Int} {d k : Nat} {Q : Int → HV → Prop} {is : List Instr} {h : HV} {ls st : List AV} {o : Int} : X fz d k Q (.ifnull 11314 :: is) ls ((3, o) :: st) h = ((o ≠ 0 ∧ o % 64 = 11) ∧ X fz d k Q is ls ((2, h o 6) :: st) h) := rfl
theorem x_gf_11320 {fz : Int → Int → Option Int} {d k : Nat} {Q : Int → HV → Prop} {is : List Instr} {h : HV} {ls st : List AV} {o : Int} : X fz d k Q (.ifnull 11320 :: is) ls ((3, o) :: st) h = ((o ≠ 0 ∧ o % 64 = 11) ∧ X fz d k Q is ls ((0, h o 7) :: st) h) := rfl
theorem x_gf_11328 {fz : Int → Int → Option Int} {d k : Nat} {Q : Int → HV → Prop} {is : List Instr} {h : HV} {ls st : List AV} {o : Int} : X fz d k Q (.ifnull 11328 :: is) ls ((3, o) :: st) h = ((o ≠ 0 ∧ o % 64 = 11) ∧ X fz d k Q is ls ((0, h o 8) :: st) h) := rfl
theorem x_gf_11339 {fz : Int → Int → Option Int} {d k : Nat} {Q : Int → HV → Prop} {is : List Instr} {h : HV} {ls st : List AV} {o : Int} : X fz d k Q (.ifnull 11339 :: is) ls ((3, o) :: st) h = ((o ≠ 0 ∧ o % 64 = 11) ∧ X fz d k Q is ls ((3, h o 9) :: st) h) := rfl
theorem x_gf_11347 {fz : Int → Int → Option Int} {d k : Nat} {Q : Int → HV → Prop} {is : List Instr} {h : HV} {ls st : List AV} {o : Int} : X fz d k Q (.ifnull 11347 :: is) ls ((3, o) :: st) h = ((o ≠ 0 ∧ o % 64 = 11) ∧ X fz d k Q is ls ((3, h o 10) :: st) h) := rfl
theorem x_gf_11360 {fz : Int → Int → Option Int} {d k : Nat} {Q : Int → HV → Prop} {is : List Instr} {h : HV} {ls st : List AV} {o : Int} : X fz d k Q (.ifnull 11360 :: is) ls ((3, o) :: st) h = ((o ≠ 0 ∧ o % 64 = 11) ∧ X fz d k Q is ls ((0, h o 12) :: st) h) := rfl
theorem x_gf_11368 {fz : Int → Int → Option Int} {d k : Nat} {Q : Int → HV → Prop} {is : List Instr} {h : HV} {ls st : List AV} {o : Int} : X fz d k Q (.ifnull 11368 :: is) ls ((3, o) :: st) h = ((o ≠ 0 ∧ o % 64 = 11) ∧ X fz d k Q is ls ((0, h o 13) :: st) h) := rfl
theorem x_gf_11384 {fz : Int → Int → Option Int} {d k : Nat} {Q : Int → HV → Prop} {is : List Instr} {h : HV} {ls st : List AV} {o : Int} : X fz d k Q (.ifnull 11384 :: is) ls ((3, o) :: st) h = ((o ≠ 0 ∧ o % 64 = 11) ∧ X fz d k Q is ls ((0, h o 15) :: st) h) := rfl
theorem x_gf_11416 {fz : Int → Int → Option Int} {d k : Nat} {Q : Int → HV → Prop} {is : List Instr} {h : HV} {ls st : List AV} {o : Int} : X fz d k Q (.ifnull 11416 :: is) ls ((3, o) :: st) h = ((o ≠ 0 ∧ o % 64 = 11) ∧ X fz d k Q is ls ((0, h o 19) :: st) h) := rfl
theorem x_gf_11456 {fz : Int → Int → Option Int} {d k : Nat} {Q : Int → HV → Prop} {is : List Instr} {h : HV} {ls st : List AV} {o : Int} : X fz d k Q (.ifnull 11456 :: is) ls ((3, o) :: st) h = ((o ≠ 0 ∧ o % 64 = 11) ∧ X fz d k Q is ls ((0, h o 24) :: st) h) := rfl
theorem x_gf_11464 {fz : Int → Int → Option Int} {d k : Nat} {Q : Int → HV → Prop} {is : List Instr} {h : HV} {ls st : List AV} {o : Int} : X fz d k Q (.ifnull 11464 :: is) ls ((3, o) :: st) h = ((o ≠ 0 ∧ o % 64 = 11) ∧ X fz d k Q is ls ((0, h o 25) :: st) h) := rfl
theorem x_gf_11504 {fz : Int → Int → Option Int} {d k : Nat} {Q : Int → HV → Prop} {is : List Instr} {h : HV} {ls st : List AV} {o : Int} : X fz d k Q (.ifnull 11504 :: is) ls ((3, o) :: st) h = ((o ≠ 0 ∧ o % 64 = 11) ∧ X fz d k Q is ls ((0, h o 30) :: st) h) := rfl
theorem x_gf_11552 {fz : Int → Int → Option Int} {d k : Nat} {Q : Int → HV → Prop} {is : List Instr} {h : HV} {ls st : List AV} {o : Int} : X fz d k Q (.ifnull 11552 :: is) ls ((3, o) :: st) h = ((o ≠ 0 ∧ o % 64 = 11) ∧ X fz d k Q is ls ((0, h o 36) :: st) h) := rfl
theorem x_gf_11592 {fz : Int → Int → Option Int} {d k : Nat} {Q : Int → HV → Prop} {is : List Instr} {h : HV} {ls st : List AV} {o : Int} : X fz d k Q (.ifnull 11592 :: is) ls ((3, o) :: st) h = ((o ≠ 0 ∧ o % 64 = 11) ∧ X fz d k Q is ls ((0, h o 41) :: st) h) := rfl
theorem x_gf_11616 {fz : Int → Int → Option Int} {d k : Nat} {Q : Int → HV → Prop} {is : List Instr} {h : HV} {ls st : List AV} {o : Int} : X fz d k Q (.ifnull 11616 :: is) ls ((3, o) :: st) h = ((o ≠ 0 ∧ o % 64 = 11) ∧ X fz d k Q is ls ((0, h o 44) :: st) h) := rfl
theorem x_gf_11680 {fz : Int → Int → Option Int} {d k : Nat} {Q : Int → HV → Prop} {is : List Instr} {h : HV} {ls st : List AV} {o : Int} : X fz d k Q (.ifnull 11680 :: is) ls ((3, o) :: st) h = ((o ≠ 0 ∧ o % 64 = 11) ∧ X fz d k Q is ls ((0, h o 52) :: st) h) := rfl
theorem x_gf_11688 {fz : Int → Int → Option Int} {d k : Nat} {Q : Int → HV → Prop} {is : List Instr} {h : HV} {ls st : List AV} {o : Int} : X fz d k Q (.ifnull 11688 :: is) ls ((3, o) :: st) h = ((o ≠ 0 ∧ o % 64 = 11) ∧ X fz d k Q is ls ((0, h o 53) :: st) h) := rfl
theorem x_gf_11696 {fz : Int → Int → Option Int} {d k : Nat} {Q : Int → HV → Prop} {is : List Instr} {h : HV} {ls st : List AV} {o : Int} : X fz d k Q (.ifnull 11696 :: is) ls ((3, o) :: st) h = ((o ≠ 0 ∧ o % 64 = 11) ∧ X fz d k Q is ls ((0, h o 54) :: st) h) := rfl
theorem x_gf_11704 {fz : Int → Int → Option Int} {d k : Nat} {Q : Int → HV → Prop} {is : List Instr} {h : HV} {ls st : List AV} {o : Int} : X fz d k Q (.ifnull 11704 :: is) ls ((3, o) :: st) h = ((o ≠ 0 ∧ o % 64 = 11) ∧ X fz d k Q is ls ((0, h o 55) :: st) h) := rfl
theorem x_gf_11716 {fz : Int → Int → Option Int} {d k : Nat} {Q : Int → HV → Prop} {is : List Instr} {h : HV} {ls st : List AV} {o : Int} : X fz d k Q (.ifnull 11716 :: is) ls ((3, o) :: st) h = ((o ≠ 0 ∧ o % 64 = 11) ∧ X fz d k Q is ls ((0, h o 56) :: st) h) := rfl
theorem x_gf_11720 {fz : Int → Int → Option Int} {d k : Nat} {Q : Int → HV → Prop} {is : List Instr} {h : HV} {ls st : List AV} {o : Int} : X fz d k Q (.ifnull 11720 :: is) ls ((3, o) :: st) h = ((o ≠ 0 ∧ o % 64 = 11) ∧ X fz d k Q is ls ((0, h o 57) :: st) h) := rfl
theorem x_gf_11728 {fz : Int → Int → Option Int} {d k : Nat} {Q : Int → HV → Prop} {is : List Instr} {h : HV} {ls st : List AV} {o : Int} : X fz d k Q (.ifnull 11728 :: is) ls ((3, o) :: st) h = ((o ≠ 0 ∧ o % 64 = 11) ∧ X fz d k Q is ls ((0, h o 58) :: st) h) := rfl
theorem x_gf_11737 {fz : Int → Int → Option Int} {d k : Nat} {Q : Int → HV → Prop} {is : List Instr} {h : HV} {ls st : List AV} {o : Int} : X fz d k Q (.ifnull 11737 :: is) ls ((3, o) :: st) h = ((o ≠ 0 ∧ o % 64 = 11) ∧ X fz d k Q is ls ((1, h o 59) :: st) h) := rfl
theorem x_gf_11752 {fz : Int → Int → Option Int} {d k : Nat} {Q : Int → HV → Prop} {is : List Instr} {h : HV} {ls st : List AV} {o : Int} : X fz d k Q (.ifnull 11752 :: is) ls ((3, o) :: st) h = ((o ≠ 0 ∧ o % 64 = 11) ∧ X fz d k Q is ls ((0, h o 61) :: st) h) := rfl
theorem x_gf_11784 {fz : Int → Int → Option Int} {d k : Nat} {Q : Int → HV → Prop} {is : List Instr} {h : HV} {ls st : List AV} {o : Int} : X fz d k Q (.ifnull 11784 :: is) ls ((3, o) :: st) h = ((o ≠ 0 ∧ o % 64 = 11) ∧ X fz d k Q is ls ((0, h o 65) :: st) h) := rfl
theorem x_gf_11820 {fz : Int → Int → Option Int} {d k : Nat} {Q : Int → HV → Prop} {is : List Instr} {h : HV} {ls st : List AV} {o : Int} : X fz d k Q (.ifnull 11820 :: is) ls ((3, o) :: st) h = ((o ≠ 0 ∧ o % 64 = 11) ∧ X fz d k Q is ls ((0, h o 69) :: st) h) := rfl
theorem x_gf_11828 {fz : Int → Int → Option Int} {d k : Nat} {Q : Int → HV → Prop} {is : List Instr} {h : HV} {ls st : List AV} {o : Int} : X fz d k Q (.ifnull 11828 :: is) ls ((3, o) :: st) h = ((o ≠ 0 ∧ o % 64 = 11) ∧ X fz d k Q is ls ((0, h o 70) :: st) h) := rfl
theorem x_gf_11836 {fz : Int → Int → Option Int} {d k : Nat} {Q : Int → HV → Prop} {is : List Instr} {h : HV} {ls st : List AV} {o : Int} : X fz d k Q (.ifnull 11836 :: is) ls ((3, o) :: st) h = ((o ≠ 0 ∧ o % 64 = 11) ∧ X fz d k Q is ls ((0, h o 71) :: st) h) := rfl
theorem x_gf_11840 {fz : Int → Int → Option Int} {d k : Nat} {Q : Int → HV → Prop} {is : List Instr} {h : HV} {ls st : List AV} {o : Int} : X fz d k Q (.ifnull 11840 :: is) ls ((3, o) :: st) h = ((o ≠ 0 ∧ o % 64 = 11) ∧ X fz d k Q is ls ((0, h o 72) :: st) h) := rfl
theorem x_gf_11848 {fz : Int → Int → Option Int} {d k : Nat} {Q : Int → HV → Prop} {is : List Instr} {h : HV} {ls st : List AV} {o : Int} : X fz d k Q (.ifnull 11848 :: is) ls ((3, o) :: st) h = ((o ≠ 0 ∧ o % 64 = 11) ∧ X fz d k Q is ls ((0, h o 73) :: st) h) := rfl
theorem x_gf_11956 {fz : Int → Int → Option Int} {d k : Nat} {Q : Int → HV → Prop} {is : List Instr} {h : HV} {ls st : List AV} {o : Int} : X fz d k Q (.ifnull 11956 :: is) ls ((3, o) :: st) h = ((o ≠ 0 ∧ o % 64 = 11) ∧ X fz d k Q is ls ((0, h o 86) :: st) h) := rfl
theorem x_gf_12008 {fz : Int → Int → Option Int} {d k : Nat} {Q : Int → HV → Prop} {is : List Instr} {h : HV} {ls st : List AV} {o : Int} : X fz d k Q (.ifnull 12008 :: is) ls ((3, o) :: st) h = ((o ≠ 0 ∧ o % 64 = 11) ∧ X fz d k Q is ls ((0, h o 93) :: st) h) := rfl
theorem x_gf_12400 {fz : Int → Int → Option Int} {d k : Nat} {Q : Int → HV → Prop} {is : List Instr} {h : HV} {ls st : List AV} {o : Int} : X fz d k Q (.ifnull 12400 :: is) ls ((3, o) :: st) h = ((o ≠ 0 ∧ o % 64 = 12) ∧ X fz d k Q is ls ((0, h o 14) :: st) h) := rfl
theorem x_gf_12408 {fz : Int → Int → Option Int} {d k : Nat} {Q : Int → HV → Prop} {is : List Instr} {h : HV} {ls st : List AV} {o : Int} : X fz d k Q (.ifnull 12408 :: is) ls ((3, o) :: st) h = ((o ≠ 0 ∧ o % 64 = 12) ∧ X fz d k Q is ls ((0, h o 15) :: st) h) := rfl
theorem x_gf_12448 {fz : Int → Int → Option Int} {d k : Nat} {Q : Int → HV → Prop} {is : List Instr} {h : HV} {ls st : List AV} {o : Int} : X fz d k Q (.ifnull 12448 :: is) ls ((3, o) :: st) h = ((o ≠ 0 ∧ o % 64 = 12) ∧ X fz d k Q is ls ((0, h o 20) :: st) h) := rfl
theorem x_gf_12456 {fz : Int → Int → Option Int} {d k : Nat} {Q : Int → HV → Prop} {is : List Instr} {h : HV} {ls st : List AV} {o : Int} : X fz d k Q (.ifnull 12456 :: is) ls ((3, o) :: st) h = ((o ≠ 0 ∧ o % 64 = 12) ∧ X fz d k Q is ls ((0, h o 21) :: st) h) := rfl
theorem x_gf_12464 {fz : Int → Int → Option Int} {d k : Nat} {Q : Int → HV → Prop} {is : List Instr} {h : HV} {ls st : List AV} {o : Int} : X fz d k Q (.ifnull 12464 :: is) ls ((3, o) :: st) h = ((o ≠ 0 ∧ o % 64 = 12) ∧ X fz d k Q is ls ((0, h o 22) :: st) h) := rfl
theorem x_gf_128 {fz : Int → Int → Option Int} {d k : Nat} {Q : Int → HV → Prop} {is : List Instr} {h : HV} {ls st : List AV} {o : Int} : X fz d k Q (.ifnull 128 :: is) ls ((3, o) :: st) h = ((o ≠ 0 ∧ o % 64 = 0) ∧ X fz d k Q is ls ((0, h o 16) :: st) h) := rfl
theorem x_gf_2059 {fz : Int → Int → Option Int} {d k : Nat} {Q : Int → HV → Prop} {is : List Instr} {h : HV} {ls st : List AV} {o : Int} : X fz d k Q (.ifnull 2059 :: is) ls ((3, o) :: st) h = ((o ≠ 0 ∧ o % 64 = 2) ∧ X fz d k Q is ls ((3, h o 1) :: st) h) := rfl
theorem x_gf_2064 {fz : Int → Int → Option Int} {d k : Nat} {Q : Int → HV → Prop} {is : List Instr} {h : HV} {ls st : List AV} {o : Int} : X fz d k Q (.ifnull 2064 :: is) ls ((3, o) :: st) h = ((o ≠ 0 ∧ o % 64 = 2) ∧ X fz d k Q is ls ((0, h o 2) :: st) h) := rfl
theorem x_gf_2072 {fz : Int → Int → Option Int} {d k : Nat} {Q : Int → HV → Prop} {is : List Instr} {h : HV} {ls st : List AV} {o : Int} : X fz d k Q (.ifnull 2072 :: is) ls ((3, o) :: st) h = ((o ≠ 0 ∧ o % 64 = 2) ∧ X fz d k Q is ls ((0, h o 3) :: st) h) := rfl
theorem x_gf_2096 {fz : Int → Int → Option Int} {d k : Nat} {Q : Int → HV → Prop} {is : List Instr} {h : HV} {ls st : List AV} {o : Int} : X fz d k Q (.ifnull 2096 :: is) ls ((3, o) :: st) h = ((o ≠ 0 ∧ o % 64 = 2) ∧ X fz d k Q is ls ((0, h o 6) :: st) h) := rfl
theorem x_gf_2128 {fz : Int → Int → Option Int} {d k : Nat} {Q : Int → HV → Prop} {is : List Instr} {h : HV} {ls st : List AV} {o : Int} : X fz d k Q (.ifnull 2128 :: is) ls ((3, o) :: st) h = ((o ≠ 0 ∧ o % 64 = 2) ∧ X fz d k Q is ls ((0, h o 10) :: st) h) := rfl
theorem x_gf_3075 {fz : Int → Int → Option Int} {d k : Nat} {Q : Int → HV → Prop} {is : List Instr} {h : HV} {ls st : List AV} {o : Int} : X fz d k Q (.ifnull 3075 :: is) ls ((3, o) :: st) h = ((o ≠ 0 ∧ o % 64 = 3) ∧ X fz d k Q is ls ((3, h o 0) :: st) h) := rfl
theorem x_gf_3083 {fz : Int → Int → Option Int} {d k : Nat} {Q : Int → HV → Prop} {is : List Instr} {h : HV} {ls st : List AV} {o : Int} : X fz d k Q (.ifnull 3083 :: is) ls ((3, o) :: st) h = ((o ≠ 0 ∧ o % 64 = 3) ∧ X fz d k Q is ls ((3, h o 1) :: st) h) := rfl
theorem x_gf_3088 {fz : Int → Int → Option Int} {d k : Nat} {Q : Int → HV → Prop} {is : List Instr} {h : HV} {ls st : List AV} {o : Int} : X fz d k Q (.ifnull 3088 :: is) ls ((3, o) :: st) h = ((o ≠ 0 ∧ o % 64 = 3) ∧ X fz d k Q is ls ((0, h o 2) :: st) h) := rfl
theorem x_gf_3096 {fz : Int → Int → Option Int} {d k : Nat} {Q : Int → HV → Prop} {is : List Instr} {h : HV} {ls st : List AV} {o : Int} : X fz d k Q (.ifnull 3096 :: is) ls ((3, o) :: st) h = ((o ≠ 0 ∧ o % 64 = 3) ∧ X fz d k Q is ls ((0, h o 3) :: st) h) := rfl
theorem x_gf_4128 {fz : Int → Int → Option Int} {d k : Nat} {Q : Int → HV → Prop} {is : List Instr} {h : HV} {ls st : List AV} {o : Int} : X fz d k Q (.ifnull 4128 :: is) ls ((3, o) :: st) h = ((o ≠ 0 ∧ o % 64 = 4) ∧ X fz d k Q is ls ((0, h o 4) :: st) h) := rfl
theorem x_gf_5147 {fz : Int → Int → Option Int} {d k : Nat} {Q : Int → HV → Prop} {is : List Instr} {h : HV} {ls st : List AV} {o : Int} : X fz d k Q (.ifnull 5147 :: is) ls ((3, o) :: st) h = ((o ≠ 0 ∧ o % 64 = 5) ∧ X fz d k Q is ls ((3, h o 3) :: st) h) := rfl
theorem x_gf_5152 {fz : Int → Int → Option Int} {d k : Nat} {Q : Int → HV → Prop} {is : List Instr} {h : HV} {ls st : List AV} {o : Int} : X fz d k Q (.ifnull 5152 :: is) ls ((3, o) :: st) h = ((o ≠ 0 ∧ o % 64 = 5) ∧ X fz d k Q is ls ((0, h o 4) :: st) h) := rfl
theorem x_gf_5160 {fz : Int → Int → Option Int} {d k : Nat} {Q : Int → HV → Prop} {is : List Instr} {h : HV} {ls st : List AV} {o : Int} : X fz d k Q (.ifnull 5160 :: is) ls ((3, o) :: st) h = ((o ≠ 0 ∧ o % 64 = 5) ∧ X fz d k Q is ls ((0, h o 5) :: st) h) := rfl
theorem x_gf_5184 {fz : Int → Int → Option Int} {d k : Nat} {Q : Int → HV → Prop} {is : List Instr} {h : HV} {ls st : List AV} {o : Int} : X fz d k Q (.ifnull 5184 :: is) ls ((3, o) :: st) h = ((o ≠ 0 ∧ o % 64 = 5) ∧ X fz d k Q is ls ((0, h o 8) :: st) h) := rfl
theorem x_gf_5240 {fz : Int → Int → Option Int} {d k : Nat} {Q : Int → HV → Prop} {is : List Instr} {h : HV} {ls st : List AV} {o : Int} : X fz d k Q (.ifnull 5240 :: is) ls ((3, o) :: st) h = ((o ≠ 0 ∧ o % 64 = 5) ∧ X fz d k Q is ls ((0, h o 15) :: st) h) := rfl
theorem x_gf_5248 {fz : Int → Int → Option Int} {d k : Nat} {Q : Int → HV → Prop} {is : List Instr} {h : HV} {ls st : List AV} {o : Int} : X fz d k Q (.ifnull 5248 :: is) ls ((3, o) :: st) h = ((o ≠ 0 ∧ o % 64 = 5) ∧ X fz d k Q is ls ((0, h o 16) :: st) h) := rfl
theorem x_gf_5256 {fz : Int → Int → Option Int} {d k : Nat} {Q : Int → HV → Prop} {is : List Instr} {h : HV} {ls st : List AV} {o : Int} : X fz d k Q (.ifnull 5256 :: is) ls ((3, o) :: st) h = ((o ≠ 0 ∧ o % 64 = 5) ∧ X fz d k Q is ls ((0, h o 17) :: st) h) := rfl
theorem x_gf_5264 {fz : Int → Int → Option Int} {d k : Nat} {Q : Int → HV → Prop} {is : List Instr} {h : HV} {ls st : List AV} {o : Int} : X fz d k Q (.ifnull 5264 :: is) ls ((3, o) :: st) h = ((o ≠ 0 ∧ o % 64 = 5) ∧ X fz d k Q is ls ((0, h o 18) :: st) h) := rfl
theorem x_gf_5272 {fz : Int → Int → Option Int} {d k : Nat} {Q : Int → HV → Prop} {is : List Instr} {h : HV} {ls st : List AV} {o : Int} : X fz d k Q (.ifnull 5272 :: is) ls ((3, o) :: st) h = ((o ≠ 0 ∧ o % 64 = 5) ∧ X fz d k Q is ls ((0, h o 19) :: st) h) := rfl
theorem x_gf_5281 {fz : Int → Int → Option Int} {d k : Nat} {Q : Int → HV → Prop} {is : List Instr} {h : HV} {ls st : List AV} {o : Int} : X fz d k Q (.ifnull 5281 :: is) ls ((3, o) :: st) h = ((o ≠ 0 ∧ o % 64 = 5) ∧ X fz d k Q is ls ((1, h o 20) :: st) h) := rfl
theorem x_gf_6147 {fz : Int → Int → Option Int} {d k : Nat} {Q : Int → HV → Prop} {is : List Instr} {h : HV} {ls st : List AV} {o : Int} : X fz d k Q (.ifnull 6147 :: is) ls ((3, o) :: st) h = ((o ≠ 0 ∧ o % 64 = 6) ∧ X fz d k Q is ls ((3, h o 0) :: st) h) := rfl
theorem x_gf_6155 {fz : Int → Int → Option Int} {d k : Nat} {Q : Int → HV → Prop} {is : List Instr} {h : HV} {ls st : List AV} {o : Int} : X fz d k Q (.ifnull 6155 :: is) ls ((3, o) :: st) h = ((o ≠ 0 ∧ o % 64 = 6) ∧ X fz d k Q is ls ((3, h o 1) :: st) h) := rfl
theorem x_gf_6160 {fz : Int → Int → Option Int} {d k : Nat} {Q : Int → HV → Prop} {is : List Instr} {h : HV} {ls st : List AV} {o : Int} : X fz d k Q (.ifnull 6160 :: is) ls ((3, o) :: st) h = ((o ≠ 0 ∧ o % 64 = 6) ∧ X fz d k Q is ls ((0, h o 2) :: st) h) := rfl
theorem x_gf_67 {fz : Int → Int → Option Int} {d k : Nat} {Q : Int → HV → Prop} {is : List Instr} {h : HV} {ls st : List AV} {o : Int} : X fz d k Q (.ifnull 67 :: is) ls ((3, o) :: st) h = ((o ≠ 0 ∧ o % 64 = 0) ∧ X fz d k Q is ls ((3, h o 8) :: st) h) := rfl
theorem x_gf_7171 {fz : Int → Int → Option Int} {d k : Nat} {Q : Int → HV → Prop} {is : List Instr} {h : HV} {ls st : List AV} {o : Int} : X fz d k Q (.ifnull 7171 :: is) ls ((3, o) :: st) h = ((o ≠ 0 ∧ o % 64 = 7) ∧ X fz d k Q is ls ((3, h o 0) :: st) h) := rfl
theorem x_gf_7176 {fz : Int → Int → Option Int} {d k : Nat} {Q : Int → HV → Prop} {is : List Instr} {h : HV} {ls st : List AV} {o : Int} : X fz d k Q (.ifnull 7176 :: is) ls ((3, o) :: st) h = ((o ≠ 0 ∧ o % 64 = 7) ∧ X fz d k Q is ls ((0, h o 1) :: st) h) := rfl
theorem x_gf_7248 {fz : Int → Int → Option Int} {d k : Nat} {Q : Int → HV → Prop} {is : List Instr} {h : HV} {ls st : List AV} {o : Int} : X fz d k Q (.ifnull 7248 :: is) ls ((3, o) :: st) h = ((o ≠ 0 ∧ o % 64 = 7) ∧ X fz d k Q is ls ((0, h o 10) :: st) h) := rfl
theorem x_gf_7264 {fz : Int → Int → Option Int} {d k : Nat} {Q : Int → HV → Prop} {is : List Instr} {h : HV} {ls st : List AV} {o : Int} : X fz d k Q (.ifnull 7264 :: is) ls ((3, o) :: st) h = ((o ≠ 0 ∧ o % 64 = 7) ∧ X fz d k Q is ls ((0, h o 12) :: st) h) := rfl
theorem x_gf_7276 {fz : Int → Int → Option Int} {d k : Nat} {Q : Int → HV → Prop} {is : List Instr} {h : HV} {ls st : List AV} {o : Int} : X fz d k Q (.ifnull 7276 :: is) ls ((3, o) :: st) h = ((o ≠ 0 ∧ o % 64 = 7) ∧ X fz d k Q is ls ((0, h o 13) :: st) h) := rfl
theorem x_gf_7284 {fz : Int → Int → Option Int} {d k : Nat} {Q : Int → HV → Prop} {is : List Instr} {h : HV} {ls st : List AV} {o : Int} : X fz d k Q (.ifnull 7284 :: is) ls ((3, o) :: st) h = ((o ≠ 0 ∧ o % 64 = 7) ∧ X fz d k Q is ls ((0, h o 14) :: st) h) := rfl
theorem x_gf_7288 {fz : Int → Int → Option Int} {d k : Nat} {Q : Int → HV → Prop} {is : List Instr} {h : HV} {ls st : List AV} {o : Int} : X fz d k Q (.ifnull 7288 :: is) ls ((3, o) :: st) h = ((o ≠ 0 ∧ o % 64 = 7) ∧ X fz d k Q is ls ((0, h o 15) :: st) h) := rfl
theorem x_gf_75 {fz : Int → Int → Option Int} {d k : Nat} {Q : Int → HV → Prop} {is : List Instr} {h : HV} {ls st : List AV} {o : Int} : X fz d k Q (.ifnull 75 :: is) ls ((3, o) :: st) h = ((o ≠ 0 ∧ o % 64 = 0) ∧ X fz d k Q is ls ((3, h o 9) :: st) h) := rfl
theorem x_gf_80 {fz : Int → Int → Option Int} {d k : Nat} {Q : Int → HV → Prop} {is : List Instr} {h : HV} {ls st : List AV} {o : Int} : X fz d k Q (.ifnull 80 :: is) ls ((3, o) :: st) h = ((o ≠ 0 ∧ o % 64 = 0) ∧ X fz d k Q is ls ((0, h o 10) :: st) h) := rfl
theorem x_gf_8203 {fz : Int → Int → Option Int} {d k : Nat} {Q : Int → HV → Prop} {is : List Instr} {h : HV} {ls st : List AV} {o : Int} : X fz d k Q (.ifnull 8203 :: is) ls ((3, o) :: st) h = ((o ≠ 0 ∧ o % 64 = 8) ∧ X fz d k Q is ls ((3, h o 1) :: st) h) := rfl
theorem x_gf_8228 {fz : Int → Int → Option Int} {d k : Nat} {Q : Int → HV → Prop} {is : List Instr} {h : HV} {ls st : List AV} {o : Int} : X fz d k Q (.ifnull 8228 :: is) ls ((3, o) :: st) h = ((o ≠ 0 ∧ o % 64 = 8) ∧ X fz d k Q is ls ((0, h o 4) :: st) h) := rfl
theorem x_gf_8240 {fz : Int → Int → Option Int} {d k : Nat} {Q : Int → HV → Prop} {is : List Instr} {h : HV} {ls st : List AV} {o : Int} : X fz d k Q (.ifnull 8240 :: is) ls ((3, o) :: st) h = ((o ≠ 0 ∧ o % 64 = 8) ∧ X fz d k Q is ls ((0, h o 6) :: st) h) := rfl
theorem x_gf_8264 {fz : Int → Int → Option Int} {d k : Nat} {Q : Int → HV → Prop} {is : List Instr} {h : HV} {ls st : List AV} {o : Int} : X fz d k Q (.ifnull 8264 :: is) ls ((3, o) :: st) h = ((o ≠ 0 ∧ o % 64 = 8) ∧ X fz d k Q is ls ((0, h o 9) :: st) h) := rfl
theorem x_gf_8272 {fz : Int → Int → Option Int} {d k : Nat} {Q : Int → HV → Prop} {is : List Instr} {h : HV} {ls st : List AV} {o : Int} : X fz d k Q (.ifnull 8272 :: is) ls ((3, o) :: st) h = ((o ≠ 0 ∧ o % 64 = 8) ∧ X fz d k Q is ls ((0, h o 10) :: st) h) := rfl
theorem x_gf_89 {fz : Int → Int → Option Int} {d k : Nat} {Q : Int → HV → Prop} {is : List Instr} {h : HV} {ls st : List AV} {o : Int} : X fz d k Q (.ifnull 89 :: is) ls ((3, o) :: st) h = ((o ≠ 0 ∧ o % 64 = 0) ∧ X fz d k Q is ls ((1, h o 11) :: st) h) := rfl
theorem x_gf_9227 {fz : Int → Int → Option Int} {d k : Nat} {Q : Int → HV → Prop} {is : List Instr} {h : HV} {ls st : List AV} {o : Int} : X fz d k Q (.ifnull 9227 :: is) ls ((3, o) :: st) h = ((o ≠ 0 ∧ o % 64 = 9) ∧ X fz d k Q is ls ((3, h o 1) :: st) h) := rfl
theorem x_gf_9268 {fz : Int → Int → Option Int} {d k : Nat} {Q : Int → HV → Prop} {is : List Instr} {h : HV} {ls st : List AV} {o : Int} : X fz d k Q (.ifnull 9268 :: is) ls ((3, o) :: st) h = ((o ≠ 0 ∧ o % 64 = 9) ∧ X fz d k Q is ls ((0, h o 6) :: st) h) := rfl
theorem x_gf_96 {fz : Int → Int → Option Int} {d k : Nat} {Q : Int → HV → Prop} {is : List Instr} {h : HV} {ls st : List AV} {o : Int} : X fz d k Q (.ifnull 96 :: is) ls ((3, o) :: st) h = ((o ≠ 0 ∧ o % 64 = 0) ∧ X fz d k Q is ls ((0, h o 12) :: st) h) := rfl
theorem x_goto_0 {fz : Int → Int → Option Int} {d k : Nat} {Q : Int → HV → Prop} {is : List Instr} {h : HV} {ls st : List AV} : X fz d k Q (.goto 0 :: is) ls st h = G fz d k 0 ls st h Q := rfl
theorem x_goto_1 {fz : Int → Int → Option Int} {d k : Nat} {Q : Int → HV → Prop} {is : List Instr} {h : HV} {ls st : List AV} : X fz d k Q (.goto 1 :: is) ls st h = G fz d k 1 ls st h Q := rfl
theorem x_goto_10 {fz : Int → Int → Option Int} {d k : Nat} {Q : Int → HV → Prop} {is : List Instr} {h : HV} {ls st : List AV} : X fz d k Q (.goto 10 :: is) ls st h = G fz d k 10 ls st h Q := rfl
theorem x_goto_11 {fz : Int → Int → Option Int} {d k : Nat} {Q : Int → HV → Prop} {is : List Instr} {h : HV} {ls st : List AV} : X fz d k Q (.goto 11 :: is) ls st h = G fz d k 11 ls st h Q := rfl
theorem x_goto_12 {fz : Int → Int → Option Int} {d k : Nat} {Q : Int → HV → Prop} {is : List Instr} {h : HV} {ls st : List AV} : X fz d k Q (.goto 12 :: is) ls st h = G fz d k 12 ls st h Q := rfl
theorem x_goto_13 {fz : Int → Int → Option Int} {d k : Nat} {Q : Int → HV → Prop} {is : List Instr} {h : HV} {ls st : List AV} : X fz d k Q (.goto 13 :: is) ls st h = G fz d k 13 ls st h Q := rfl
theorem x_goto_14 {fz : Int → Int → Option Int} {d k : Nat} {Q : Int → HV → Prop} {is : List Instr} {h : HV} {ls st : List AV} : X fz d k Q (.goto 14 :: is) ls st h = G fz d k 14 ls st h Q := rfl
theorem x_goto_15 {fz : Int → Int → Option Int} {d k : Nat} {Q : Int → HV → Prop} {is : List Instr} {h : HV} {ls st : List AV} : X fz d k Q (.goto 15 :: is) ls st h = G fz d k 15 ls st h Q := rfl
theorem x_goto_16 {fz : Int → Int → Option Int} {d k : Nat} {Q : Int → HV → Prop} {is : List Instr} {h : HV} {ls st : List AV} : X fz d k Q (.goto 16 :: is) ls st h = G fz d k 16 ls st h Q := rfl
theorem x_goto_17 {fz : Int → Int → Option Int} {d k : Nat} {Q : Int → HV → Prop} {is : List Instr} {h : HV} {ls st : List AV} : X fz d k Q (.goto 17 :: is) ls st h = G fz d k 17 ls st h Q := rfl
theorem x_goto_18 {fz : Int → Int → Option Int} {d k : Nat} {Q : Int → HV → Prop} {is : List Instr} {h : HV} {ls st : List AV} : X fz d k Q (.goto 18 :: is) ls st h = G fz d k 18 ls st h Q := rfl
theorem x_goto_19 {fz : Int → Int → Option Int} {d k : Nat} {Q : Int → HV → Prop} {is : List Instr} {h : HV} {ls st : List AV} : X fz d k Q (.goto 19 :: is) ls st h = G fz d k 19 ls st h Q := rfl
theorem x_goto_2 {fz : Int → Int → Option Int} {d k : Nat} {Q : Int → HV → Prop} {is : List Instr} {h : HV} {ls st : List AV} : X fz d k Q (.goto 2 :: is) ls st h = G fz d k 2 ls st h Q := rfl
theorem x_goto_20 {fz : Int → Int → Option Int} {d k : Nat} {Q : Int → HV → Prop} {is : List Instr} {h : HV} {ls st : List AV} : X fz d k Q (.goto 20 :: is) ls st h = G fz d k 20 ls st h Q := rfl
theorem x_goto_21 {fz : Int → Int → Option Int} {d k : Nat} {Q : Int → HV → Prop} {is : List Instr} {h : HV} {ls st : List AV} : X fz d k Q (.goto 21 :: is) ls st h = G fz d k 21 ls st h Q := rfl
theorem x_goto_22 {fz : Int → Int → Option Int} {d k : Nat} {Q : Int → HV → Prop} {is : List Instr} {h : HV} {ls st : List AV} : X fz d k Q (.goto 22 :: is) ls st h = G fz d k 22 ls st h Q := rfl
theorem x_goto_23 {fz : Int → Int → Option Int} {d k : Nat} {Q : Int → HV → Prop} {is : List Instr} {h : HV} {ls st : List AV} : X fz d k Q (.goto 23 :: is) ls st h = G fz d k 23 ls st h Q := rfl
theorem x_goto_24 {fz : Int → Int → Option Int} {d k : Nat} {Q : Int → HV → Prop} {is : List Instr} {h : HV} {ls st : List AV} : X fz d k Q (.goto 24 :: is) ls st h = G fz d k 24 ls st h Q := rfl
theorem x_goto_25 {fz : Int → Int → Option Int} {d k : Nat} {Q : Int → HV → Prop} {is : List Instr} {h : HV} {ls st : List AV} : X fz d k Q (.goto 25 :: is) ls st h = G fz d k 25 ls st h Q := rfl
theorem x_goto_26 {fz : Int → Int → Option Int} {d k : Nat} {Q : Int → HV → Prop} {is : List Instr} {h : HV} {ls st : List AV} : X fz d k Q (.goto 26 :: is) ls st h = G fz d k 26 ls st h Q := rfl
theorem x_goto_27 {fz : Int → Int → Option Int} {d k : Nat} {Q : Int → HV → Prop} {is : List Instr} {h : HV} {ls st : List AV} : X fz d k Q (.goto 27 :: is) ls st h = G fz d k 27 ls st h Q := rfl
theorem x_goto_28 {fz : Int → Int → Option Int} {d k : Nat} {Q : Int → HV → Prop} {is : List Instr} {h : HV} {ls st : List AV} : X fz d k Q (.goto 28 :: is) ls st h = G fz d k 28 ls st h Q := rfl
theorem x_goto_29 {fz : Int → Int → Option Int} {d k : Nat} {Q : Int → HV → Prop} {is : List Instr} {h : HV} {ls st : List AV} : X fz d k Q (.goto 29 :: is) ls st h = G fz d k 29 ls st h Q := rfl
theorem x_goto_3 {fz : Int → Int → Option Int} {d k : Nat} {Q : Int → HV → Prop} {is : List Instr} {h : HV} {ls st : List AV} : X fz d k Q (.goto 3 :: is) ls st h = G fz d k 3 ls st h Q := rfl
theorem x_goto_30 {fz : Int → Int → Option Int} {d k : Nat} {Q : Int → HV → Prop} {is : List Instr} {h : HV} {ls st : List AV} : X fz d k Q (.goto 30 :: is) ls st h = G fz d k 30 ls st h Q := rfl
theorem x_goto_31 {fz : Int → Int → Option Int} {d k : Nat} {Q : Int → HV → Prop} {is : List Instr} {h : HV} {ls st : List AV} : X fz d k Q (.goto 31 :: is) ls st h = G fz d k 31 ls st h Q := rfl
theorem x_goto_32 {fz : Int → Int → Option Int} {d k : Nat} {Q : Int → HV → Prop} {is : List Instr} {h : HV} {ls st : List AV} : X fz d k Q (.goto 32 :: is) ls st h = G fz d k 32 ls st h Q := rfl
theorem x_goto_33 {fz : Int → Int → Option Int} {d k : Nat} {Q : Int → HV → Prop} {is : List Instr} {h : HV} {ls st : List AV} : X fz d k Q (.goto 33 :: is) ls st h = G fz d k 33 ls st h Q := rfl
theorem x_goto_34 {fz : Int → Int → Option Int} {d k : Nat} {Q : Int → HV → Prop} {is : List Instr} {h : HV} {ls st : List AV} : X fz d k Q (.goto 34 :: is) ls st h = G fz d k 34 ls st h Q := rfl
theorem x_goto_4 {fz : Int → Int → Option Int} {d k : Nat} {Q : Int → HV → Prop} {is : List Instr} {h : HV} {ls st : List AV} : X fz d k Q (.goto 4 :: is) ls st h = G fz d k 4 ls st h Q := rfl
theorem x_goto_5 {fz : Int → Int → Option Int} {d k : Nat} {Q : Int → HV → Prop} {is : List Instr} {h : HV} {ls st : List AV} : X fz d k Q (.goto 5 :: is) ls st h = G fz d k 5 ls st h Q := rfl
theorem x_goto_6 {fz : Int → Int → Option Int} {d k : Nat} {Q : Int → HV → Prop} {is : List Instr} {h : HV} {ls st : List AV} : X fz d k Q (.goto 6 :: is) ls st h = G fz d k 6 ls st h Q := rfl
theorem x_goto_7 {fz : Int → Int → Option Int} {d k : Nat} {Q : Int → HV → Prop} {is : List Instr} {h : HV} {ls st : List AV} : X fz d k Q (.goto 7 :: is) ls st h = G fz d k 7 ls st h Q := rfl
theorem x_goto_8 {fz : Int → Int → Option Int} {d k : Nat} {Q : Int → HV → Prop} {is : List Instr} {h : HV} {ls st : List AV} : X fz d k Q (.goto 8 :: is) ls st h = G fz d k 8 ls st h Q := rfl
theorem x_goto_9 {fz : Int → Int → Option Int} {d k : Nat} {Q : Int → HV → Prop} {is : List Instr} {h : HV} {ls st : List AV} : X fz d k Q (.goto 9 :: is) ls st h = G fz d k 9 ls st h Q := rfl
theorem x_i2b {fz : Int → Int → Option Int} {d k : Nat} {Q : Int → HV → Prop} {is : List Instr} {h : HV} {ls st : List AV} {x : Int} : X fz d k Q (.i2b :: is) ls ((0, x) :: st) h = X fz d k Q is ls ((0, w8 x) :: st) h := rfl
theorem x_i2c {fz : Int → Int → Option Int} {d k : Nat} {Q : Int → HV → Prop} {is : List Instr} {h : HV} {ls st : List AV} {x : Int} : X fz d k Q (.i2c :: is) ls ((0, x) :: st) h = X fz d k Q is ls ((0, x % 65536) :: st) h := rfl
theorem x_i2l {fz : Int → Int → Option Int} {d k : Nat} {Q : Int → HV → Prop} {is : List Instr} {h : HV} {ls st : List AV} {x : Int} : X fz d k Q (.i2l :: is) ls ((0, x) :: st) h = X fz d k Q is ls ((1, x) :: st) h := rfl
theorem x_iadd {fz : Int → Int → Option Int} {d k : Nat} {Q : Int → HV → Prop} {is : List Instr} {h : HV} {ls st : List AV} {x y : Int} : X fz d k Q (.iadd :: is) ls ((0, y) :: (0, x) :: st) h = X fz d k Q is ls ((0, w32 (x + y)) :: st) h := rfl
theorem x_iaload {fz : Int → Int → Option Int} {d k : Nat} {Q : Int → HV → Prop} {is : List Instr} {h : HV} {ls st : List AV} {o i : Int} : X fz d k Q (.iaload :: is) ls ((0, i) :: (3, o) :: st) h = (((o % 64 = 32 ∨ o % 64 = 50) ∧ 0 ≤ i ∧ i < rd fz h o (-1)) ∧ X fz d k Q is ls ((0, h o i) :: st) h) := rfl
theorem x_iand {fz : Int → Int → Option Int} {d k : Nat} {Q : Int → HV → Prop} {is : List Instr} {h : HV} {ls st : List AV} {x y : Int} : X fz d k Q (.iand :: is) ls ((0, y) :: (0, x) :: st) h = X fz d k Q is ls ((0, i_and x y) :: st) h := rfl
theorem x_iastore {fz : Int → Int → Option Int} {d k : Nat} {Q : Int → HV → Prop} {is : List Instr} {h : HV} {ls st : List AV} {o i x : Int} : X fz d k Q (.iastore :: is) ls ((0, x) :: (0, i) :: (3, o) :: st) h = ((o % 64 = 32 ∧ 0 ≤ i ∧ i < rd fz h o (-1)) ∧ X fz d k Q is ls st (hset h o i x)) := rfl
theorem x_iconst {fz : Int → Int → Option Int} {d k : Nat} {Q : Int → HV → Prop} {is : List Instr} {h : HV} {ls st : List AV} {v : Int} : X fz d k Q (.iconst v :: is) ls st h = X fz d k Q is ls ((0, v) :: st) h := rfl
theorem x_idiv {fz : Int → Int → Option Int} {d k : Nat} {Q : Int → HV → Prop} {is : List Instr} {h : HV} {ls st : List AV} {x y : Int} : X fz d k Q (.idiv :: is) ls ((0, y) :: (0, x) :: st) h = (y ≠ 0 ∧ X fz d k Q is ls ((0, w32 (Int.tdiv x y)) :: st) h) := rfl
theorem x_ifCond_eq_1 {fz : Int → Int → Option Int} {d k : Nat} {Q : Int → HV → Prop} {is : List Instr} {h : HV} {ls st : List AV} {x : Int} : X fz d k Q (.ifCond .eq 1 :: is) ls ((0, x) :: st) h = ((x = 0 → G fz d k 1 ls st h Q) ∧ (¬ (x = 0) → X fz d k Q is ls st h)) := rfl
theorem x_ifCond_eq_10 {fz : Int → Int → Option Int} {d k : Nat} {Q : Int → HV → Prop} {is : List Instr} {h : HV} {ls st : List AV} {x : Int} : X fz d k Q (.ifCond .eq 10 :: is) ls ((0, x) :: st) h = ((x = 0 → G fz d k 10 ls st h Q) ∧ (¬ (x = 0) → X fz d k Q is ls st h)) := rfl
theorem x_ifCond_eq_11 {fz : Int → Int → Option Int} {d k : Nat} {Q : Int → HV → Prop} {is : List Instr} {h : HV} {ls st : List AV} {x : Int} : X fz d k Q (.ifCond .eq 11 :: is) ls ((0, x) :: st) h = ((x = 0 → G fz d k 11 ls st h Q) ∧ (¬ (x = 0) → X fz d k Q is ls st h)) := rfl
theorem x_ifCond_eq_12 {fz : Int → Int → Option Int} {d k : Nat} {Q : Int → HV → Prop} {is : List Instr} {h : HV} {ls st : List AV} {x : Int} : X fz d k Q (.ifCond .eq 12 :: is) ls ((0, x) :: st) h = ((x = 0 → G fz d k 12 ls st h Q) ∧ (¬ (x = 0) → X fz d k Q is ls st h)) := rfl
theorem x_ifCond_eq_13 {fz : Int → Int → Option Int} {d k : Nat} {Q : Int → HV → Prop} {is : List Instr} {h : HV} {ls st : List AV} {x : Int} : X fz d k Q (.ifCond .eq 13 :: is) ls ((0, x) :: st) h = ((x = 0 → G fz d k 13 ls st h Q) ∧ (¬ (x = 0) → X fz d k Q is ls st h)) := rfl
theorem x_ifCond_eq_14 {fz : Int → Int → Option Int} {d k : Nat} {Q : Int → HV → Prop} {is : List Instr} {h : HV} {ls st : List AV} {x : Int} : X fz d k Q (.ifCond .eq 14 :: is) ls ((0, x) :: st) h = ((x = 0 → G fz d k 14 ls st h Q) ∧ (¬ (x = 0) → X fz d k Q is ls st h)) := rfl
theorem x_ifCond_eq_15 {fz : Int → Int → Option Int} {d k : Nat} {Q : Int → HV → Prop} {is : List Instr} {h : HV} {ls st : List AV} {x : Int} : X fz d k Q (.ifCond .eq 15 :: is) ls ((0, x) :: st) h = ((x = 0 → G fz d k 15 ls st h Q) ∧ (¬ (x = 0) → X fz d k Q is ls st h)) := rfl
theorem x_ifCond_eq_16 {fz : Int → Int → Option Int} {d k : Nat} {Q : Int → HV → Prop} {is : List Instr} {h : HV} {ls st : List AV} {x : Int} : X fz d k Q (.ifCond .eq 16 :: is) ls ((0, x) :: st) h = ((x = 0 → G fz d k 16 ls st h Q) ∧ (¬ (x = 0) → X fz d k Q is ls st h)) := rfl
theorem x_ifCond_eq_19 {fz : Int → Int → Option Int} {d k : Nat} {Q : Int → HV → Prop} {is : List Instr} {h : HV} {ls st : List AV} {x : Int} : X fz d k Q (.ifCond .eq 19 :: is) ls ((0, x) :: st) h = ((x = 0 → G fz d k 19 ls st h Q) ∧ (¬ (x = 0) → X fz d k Q is ls st h)) := rfl
theorem x_ifCond_eq_2 {fz : Int → Int → Option Int} {d k : Nat} {Q : Int → HV → Prop} {is : List Instr} {h : HV} {ls st : List AV} {x : Int} : X fz d k Q (.ifCond .eq 2 :: is) ls ((0, x) :: st) h = ((x = 0 → G fz d k 2 ls st h Q) ∧ (¬ (x = 0) → X fz d k Q is ls st h)) := rfl
theorem x_ifCond_eq_20 {fz : Int → Int → Option Int} {d k : Nat} {Q : Int → HV → Prop} {is : List Instr} {h : HV} {ls st : List AV} {x : Int} : X fz d k Q (.ifCond .eq 20 :: is) ls ((0, x) :: st) h = ((x = 0 → G fz d k 20 ls st h Q) ∧ (¬ (x = 0) → X fz d k Q is ls st h)) := rfl
theorem x_ifCond_eq_21 {fz : Int → Int → Option Int} {d k : Nat} {Q : Int → HV → Prop} {is : List Instr} {h : HV} {ls st : List AV} {x : Int} : X fz d k Q (.ifCond .eq 21 :: is) ls ((0, x) :: st) h = ((x = 0 → G fz d k 21 ls st h Q) ∧ (¬ (x = 0) → X fz d k Q is ls st h)) := rfl
theorem x_ifCond_eq_22 {fz : Int → Int → Option Int} {d k : Nat} {Q : Int → HV → Prop} {is : List Instr} {h : HV} {ls st : List AV} {x : Int} : X fz d k Q (.ifCond .eq 22 :: is) ls ((0, x) :: st) h = ((x = 0 → G fz d k 22 ls st h Q) ∧ (¬ (x = 0) → X fz d k Q is ls st h)) := rfl
theorem x_ifCond_eq_26 {fz : Int → Int → Option Int} {d k : Nat} {Q : Int → HV → Prop} {is : List Instr} {h : HV} {ls st : List AV} {x : Int} : X fz d k Q (.ifCond .eq 26 :: is) ls ((0, x) :: st) h = ((x = 0 → G fz d k 26 ls st h Q) ∧ (¬ (x = 0) → X fz d k Q is ls st h)) := rfl
theorem x_ifCond_eq_27 {fz : Int → Int → Option Int} {d k : Nat} {Q : Int → HV → Prop} {is : List Instr} {h : HV} {ls st : List AV} {x : Int} : X fz d k Q (.ifCond .eq 27 :: is) ls ((0, x) :: st) h = ((x = 0 → G fz d k 27 ls st h Q) ∧ (¬ (x = 0) → X fz d k Q is ls st h)) := rfl
theorem x_ifCond_eq_29 {fz : Int → Int → Option Int} {d k : Nat} {Q : Int → HV → Prop} {is : List Instr} {h : HV} {ls st : List AV} {x : Int} : X fz d k Q (.ifCond .eq 29 :: is) ls ((0, x) :: st) h = ((x = 0 → G fz d k 29 ls st h Q) ∧ (¬ (x = 0) → X fz d k Q is ls st h)) := rfl
theorem x_ifCond_eq_3 {fz : Int → Int → Option Int} {d k : Nat} {Q : Int → HV → Prop} {is : List Instr} {h : HV} {ls st : List AV} {x : Int} : X fz d k Q (.ifCond .eq 3 :: is) ls ((0, x) :: st) h = ((x = 0 → G fz d k 3 ls st h Q) ∧ (¬ (x = 0) → X fz d k Q is ls st h)) := rfl
theorem x_ifCond_eq_32 {fz : Int → Int → Option Int} {d k : Nat} {Q : Int → HV → Prop} {is : List Instr} {h : HV} {ls st : List AV} {x : Int} : X fz d k Q (.ifCond .eq 32 :: is) ls ((0, x) :: st) h = ((x = 0 → G fz d k 32 ls st h Q) ∧ (¬ (x = 0) → X fz d k Q is ls st h)) := rfl
theorem x_ifCond_eq_33 {fz : Int → Int → Option Int} {d k : Nat} {Q : Int → HV → Prop} {is : List Instr} {h : HV} {ls st : List AV} {x : Int} : X fz d k Q (.ifCond .eq 33 :: is) ls ((0, x) :: st) h = ((x = 0 → G fz d k 33 ls st h Q) ∧ (¬ (x = 0) → X fz d k Q is ls st h)) := rfl
theorem x_ifCond_eq_34 {fz : Int → Int → Option Int} {d k : Nat} {Q : Int → HV → Prop} {is : List Instr} {h : HV} {ls st : List AV} {x : Int} : X fz d k Q (.ifCond .eq 34 :: is) ls ((0, x) :: st) h = ((x = 0 → G fz d k 34 ls st h Q) ∧ (¬ (x = 0) → X fz d k Q is ls st h)) := rfl
theorem x_ifCond_eq_35 {fz : Int → Int → Option Int} {d k : Nat} {Q : Int → HV → Prop} {is : List Instr} {h : HV} {ls st : List AV} {x : Int} : X fz d k Q (.ifCond .eq 35 :: is) ls ((0, x) :: st) h = ((x = 0 → G fz d k 35 ls st h Q) ∧ (¬ (x = 0) → X fz d k Q is ls st h)) := rfl
theorem x_ifCond_eq_4 {fz : Int → Int → Option Int} {d k : Nat} {Q : Int → HV → Prop} {is : List Instr} {h : HV} {ls st : List AV} {x : Int} : X fz d k Q (.ifCond .eq 4 :: is) ls ((0, x) :: st) h = ((x = 0 → G fz d k 4 ls st h Q) ∧ (¬ (x = 0) → X fz d k Q is ls st h)) := rfl
theorem x_ifCond_eq_5 {fz : Int → Int → Option Int} {d k : Nat} {Q : Int → HV → Prop} {is : List Instr} {h : HV} {ls st : List AV} {x : Int} : X fz d k Q (.ifCond .eq 5 :: is) ls ((0, x) :: st) h = ((x = 0 → G fz d k 5 ls st h Q) ∧ (¬ (x = 0) → X fz d k Q is ls st h)) := rfl
theorem x_ifCond_eq_6 {fz : Int → Int → Option Int} {d k : Nat} {Q : Int → HV → Prop} {is : List Instr} {h : HV} {ls st : List AV} {x : Int} : X fz d k Q (.ifCond .eq 6 :: is) ls ((0, x) :: st) h = ((x = 0 → G fz d k 6 ls st h Q) ∧ (¬ (x = 0) → X fz d k Q is ls st h)) := rfl
theorem x_ifCond_eq_7 {fz : Int → Int → Option Int} {d k : Nat} {Q : Int → HV → Prop} {is : List Instr} {h : HV} {ls st : List AV} {x : Int} : X fz d k Q (.ifCond .eq 7 :: is) ls ((0, x) :: st) h = ((x = 0 → G fz d k 7 ls st h Q) ∧ (¬ (x = 0) → X fz d k Q is ls st h)) := rfl
theorem x_ifCond_eq_8 {fz : Int → Int → Option Int} {d k : Nat} {Q : Int → HV → Prop} {is : List Instr} {h : HV} {ls st : List AV} {x : Int} : X fz d k Q (.ifCond .eq 8 :: is) ls ((0, x) :: st) h = ((x = 0 → G fz d k 8 ls st h Q) ∧ (¬ (x = 0) → X fz d k Q is ls st h)) := rfl
theorem x_ifCond_eq_9 {fz : Int → Int → Option Int} {d k : Nat} {Q : Int → HV → Prop} {is : List Instr} {h : HV} {ls st : List AV} {x : Int} : X fz d k Q (.ifCond .eq 9 :: is) ls ((0, x) :: st) h = ((x = 0 → G fz d k 9 ls st h Q) ∧ (¬ (x = 0) → X fz d k Q is ls st h)) := rfl
theorem x_ifCond_ge_1 {fz : Int → Int → Option Int} {d k : Nat} {Q : Int → HV → Prop} {is : List Instr} {h : HV} {ls st : List AV} {x : Int} : X fz d k Q (.ifCond .ge 1 :: is) ls ((0, x) :: st) h = ((0 ≤ x → G fz d k 1 ls st h Q) ∧ (¬ (0 ≤ x) → X fz d k Q is ls st h)) := rfl
theorem x_ifCond_ge_11 {fz : Int → Int → Option Int} {d k : Nat} {Q : Int → HV → Prop} {is : List Instr} {h : HV} {ls st : List AV} {x : Int} : X fz d k Q (.ifCond .ge 11 :: is) ls ((0, x) :: st) h = ((0 ≤ x → G fz d k 11 ls st h Q) ∧ (¬ (0 ≤ x) → X fz d k Q is ls st h)) := rfl
theorem x_ifCond_ge_14 {fz : Int → Int → Option Int} {d k : Nat} {Q : Int → HV → Prop} {is : List Instr} {h : HV} {ls st : List AV} {x : Int} : X fz d k Q (.ifCond .ge 14 :: is) ls ((0, x) :: st) h = ((0 ≤ x → G fz d k 14 ls st h Q) ∧ (¬ (0 ≤ x) → X fz d k Q is ls st h)) := rfl
theorem x_ifCond_ge_2 {fz : Int → Int → Option Int} {d k : Nat} {Q : Int → HV → Prop} {is : List Instr} {h : HV} {ls st : List AV} {x : Int} : X fz d k Q (.ifCond .ge 2 :: is) ls ((0, x) :: st) h = ((0 ≤ x → G fz d k 2 ls st h Q) ∧ (¬ (0 ≤ x) → X fz d k Q is ls st h)) := rfl
theorem x_ifCond_ge_21 {fz : Int → Int → Option Int} {d k : Nat} {Q : Int → HV → Prop} {is : List Instr} {h : HV} {ls st : List AV} {x : Int} : X fz d k Q (.ifCond .ge 21 :: is) ls ((0, x) :: st) h = ((0 ≤ x → G fz d k 21 ls st h Q) ∧ (¬ (0 ≤ x) → X fz d k Q is ls st h)) := rfl
theorem x_ifCond_ge_22 {fz : Int → Int → Option Int} {d k : Nat} {Q : Int → HV → Prop} {is : List Instr} {h : HV} {ls st : List AV} {x : Int} : X fz d k Q (.ifCond .ge 22 :: is) ls ((0, x) :: st) h = ((0 ≤ x → G fz d k 22 ls st h Q) ∧ (¬ (0 ≤ x) → X fz d k Q is ls st h)) := rfl
theorem x_ifCond_ge_24 {fz : Int → Int → Option Int} {d k : Nat} {Q : Int → HV → Prop} {is : List Instr} {h : HV} {ls st : List AV} {x : Int} : X fz d k Q (.ifCond .ge 24 :: is) ls ((0, x) :: st) h = ((0 ≤ x → G fz d k 24 ls st h Q) ∧ (¬ (0 ≤ x) → X fz d k Q is ls st h)) := rfl
theorem x_ifCond_ge_3 {fz : Int → Int → Option Int} {d k : Nat} {Q : Int → HV → Prop} {is : List Instr} {h : HV} {ls st : List AV} {x : Int} : X fz d k Q (.ifCond .ge 3 :: is) ls ((0, x) :: st) h = ((0 ≤ x → G fz d k 3 ls st h Q) ∧ (¬ (0 ≤ x) → X fz d k Q is ls st h)) := rfl
theorem x_ifCond_ge_4 {fz : Int → Int → Option Int} {d k : Nat} {Q : Int → HV → Prop} {is : List Instr} {h : HV} {ls st : List AV} {x : Int} : X fz d k Q (.ifCond .ge 4 :: is) ls ((0, x) :: st) h = ((0 ≤ x → G fz d k 4 ls st h Q) ∧ (¬ (0 ≤ x) → X fz d k Q is ls st h)) := rfl
theorem x_ifCond_ge_5 {fz : Int → Int → Option Int} {d k : Nat} {Q : Int → HV → Prop} {is : List Instr} {h : HV} {ls st : List AV} {x : Int} : X fz d k Q (.ifCond .ge 5 :: is) ls ((0, x) :: st) h = ((0 ≤ x → G fz d k 5 ls st h Q) ∧ (¬ (0 ≤ x) → X fz d k Q is ls st h)) := rfl
theorem x_ifCond_ge_6 {fz : Int → Int → Option Int} {d k : Nat} {Q : Int → HV → Prop} {is : List Instr} {h : HV} {ls st : List AV} {x : Int} : X fz d k Q (.ifCond .ge 6 :: is) ls ((0, x) :: st) h = ((0 ≤ x → G fz d k 6 ls st h Q) ∧ (¬ (0 ≤ x) → X fz d k Q is ls st h)) := rfl
theorem x_ifCond_ge_7 {fz : Int → Int → Option Int} {d k : Nat} {Q : Int → HV → Prop} {is : List Instr} {h : HV} {ls st : List AV} {x : Int} : X fz d k Q (.ifCond .ge 7 :: is) ls ((0, x) :: st) h = ((0 ≤ x → G fz d k 7 ls st h Q) ∧ (¬ (0 ≤ x) → X fz d k Q is ls st h)) := rfl
theorem x_ifCond_ge_9 {fz : Int → Int → Option Int} {d k : Nat} {Q : Int → HV → Prop} {is : List Instr} {h : HV} {ls st : List AV} {x : Int} : X fz d k Q (.ifCond .ge 9 :: is) ls ((0, x) :: st) h = ((0 ≤ x → G fz d k 9 ls st h Q) ∧ (¬ (0 ≤ x) → X fz d k Q is ls st h)) := rfl
theorem x_ifCond_gt_1 {fz : Int → Int → Option Int} {d k : Nat} {Q : Int → HV → Prop} {is : List Instr} {h : HV} {ls st : List AV} {x : Int} : X fz d k Q (.ifCond .gt 1 :: is) ls ((0, x) :: st) h = ((0 < x → G fz d k 1 ls st h Q) ∧ (¬ (0 < x) → X fz d k Q is ls st h)) := rfl
theorem x_ifCond_gt_4 {fz : Int → Int → Option Int} {d k : Nat} {Q : Int → HV → Prop} {is : List Instr} {h : HV} {ls st : List AV} {x : Int} : X fz d k Q (.ifCond .gt 4 :: is) ls ((0, x) :: st) h = ((0 < x → G fz d k 4 ls st h Q) ∧ (¬ (0 < x) → X fz d k Q is ls st h)) := rfl
theorem x_ifCond_gt_5 {fz : Int → Int → Option Int} {d k : Nat} {Q : Int → HV → Prop} {is : List Instr} {h : HV} {ls st : List AV} {x : Int} : X fz d k Q (.ifCond .gt 5 :: is) ls ((0, x) :: st) h = ((0 < x → G fz d k 5 ls st h Q) ∧ (¬ (0 < x) → X fz d k Q is ls st h)) := rfl
theorem x_ifCond_gt_6 {fz : Int → Int → Option Int} {d k : Nat} {Q : Int → HV → Prop} {is : List Instr} {h : HV} {ls st : List AV} {x : Int} : X fz d k Q (.ifCond .gt 6 :: is) ls ((0, x) :: st) h = ((0 < x → G fz d k 6 ls st h Q) ∧ (¬ (0 < x) → X fz d k Q is ls st h)) := rfl
theorem x_ifCond_gt_8 {fz : Int → Int → Option Int} {d k : Nat} {Q : Int → HV → Prop} {is : List Instr} {h : HV} {ls st : List AV} {x : Int} : X fz d k Q (.ifCond .gt 8 :: is) ls ((0, x) :: st) h = ((0 < x → G fz d k 8 ls st h Q) ∧ (¬ (0 < x) → X fz d k Q is ls st h)) := rfl
theorem x_ifCond_le_1 {fz : Int → Int → Option Int} {d k : Nat} {Q : Int → HV → Prop} {is : List Instr} {h : HV} {ls st : List AV} {x : Int} : X fz d k Q (.ifCond .le 1 :: is) ls ((0, x) :: st) h = ((x ≤ 0 → G fz d k 1 ls st h Q) ∧ (¬ (x ≤ 0) → X fz d k Q is ls st h)) := rfl
theorem x_ifCond_le_11 {fz : Int → Int → Option Int} {d k : Nat} {Q : Int → HV → Prop} {is : List Instr} {h : HV} {ls st : List AV} {x : Int} : X fz d k Q (.ifCond .le 11 :: is) ls ((0, x) :: st) h = ((x ≤ 0 → G fz d k 11 ls st h Q) ∧ (¬ (x ≤ 0) → X fz d k Q is ls st h)) := rfl
theorem x_ifCond_le_12 {fz : Int → Int → Option Int} {d k : Nat} {Q : Int → HV → Prop} {is : List Instr} {h : HV} {ls st : List AV} {x : Int} : X fz d k Q (.ifCond .le 12 :: is) ls ((0, x) :: st) h = ((x ≤ 0 → G fz d k 12 ls st h Q) ∧ (¬ (x ≤ 0) → X fz d k Q is ls st h)) := rfl
theorem x_ifCond_le_15 {fz : Int → Int → Option Int} {d k : Nat} {Q : Int → HV → Prop} {is : List Instr} {h : HV} {ls st : List AV} {x : Int} : X fz d k Q (.ifCond .le 15 :: is) ls ((0, x) :: st) h = ((x ≤ 0 → G fz d k 15 ls st h Q) ∧ (¬ (x ≤ 0) → X fz d k Q is ls st h)) := rfl
theorem x_ifCond_le_19 {fz : Int → Int → Option Int} {d k : Nat} {Q : Int → HV → Prop} {is : List Instr} {h : HV} {ls st : List AV} {x : Int} : X fz d k Q (.ifCond .le 19 :: is) ls ((0, x) :: st) h = ((x ≤ 0 → G fz d k 19 ls st h Q) ∧ (¬ (x ≤ 0) → X fz d k Q is ls st h)) := rfl
theorem x_ifCond_le_2 {fz : Int → Int → Option Int} {d k : Nat} {Q : Int → HV → Prop} {is : List Instr} {h : HV} {ls st : List AV} {x : Int} : X fz d k Q (.ifCond .le 2 :: is) ls ((0, x) :: st) h = ((x ≤ 0 → G fz d k 2 ls st h Q) ∧ (¬ (x ≤ 0) → X fz d k Q is ls st h)) := rfl
theorem x_ifCond_le_20 {fz : Int → Int → Option Int} {d k : Nat} {Q : Int → HV → Prop} {is : List Instr} {h : HV} {ls st : List AV} {x : Int} : X fz d k Q (.ifCond .le 20 :: is) ls ((0, x) :: st) h = ((x ≤ 0 → G fz d k 20 ls st h Q) ∧ (¬ (x ≤ 0) → X fz d k Q is ls st h)) := rfl
theorem x_ifCond_le_24 {fz : Int → Int → Option Int} {d k : Nat} {Q : Int → HV → Prop} {is : List Instr} {h : HV} {ls st : List AV} {x : Int} : X fz d k Q (.ifCond .le 24 :: is) ls ((0, x) :: st) h = ((x ≤ 0 → G fz d k 24 ls st h Q) ∧ (¬ (x ≤ 0) → X fz d k Q is ls st h)) := rfl
theorem x_ifCond_le_3 {fz : Int → Int → Option Int} {d k : Nat} {Q : Int → HV → Prop} {is : List Instr} {h : HV} {ls st : List AV} {x : Int} : X fz d k Q (.ifCond .le 3 :: is) ls ((0, x) :: st) h = ((x ≤ 0 → G fz d k 3 ls st h Q) ∧ (¬ (x ≤ 0) → X fz d k Q is ls st h)) := rfl
theorem x_ifCond_le_7 {fz : Int → Int → Option Int} {d k : Nat} {Q : Int → HV → Prop} {is : List Instr} {h : HV} {ls st : List AV} {x : Int} : X fz d k Q (.ifCond .le 7 :: is) ls ((0, x) :: st) h = ((x ≤ 0 → G fz d k 7 ls st h Q) ∧ (¬ (x ≤ 0) → X fz d k Q is ls st h)) := rfl
theorem x_ifCond_le_8 {fz : Int → Int → Option Int} {d k : Nat} {Q : Int → HV → Prop} {is : List Instr} {h : HV} {ls st : List AV} {x : Int} : X fz d k Q (.ifCond .le 8 :: is) ls ((0, x) :: st) h = ((x ≤ 0 → G fz d k 8 ls st h Q) ∧ (¬ (x ≤ 0) → X fz d k Q is ls st h)) := rfl
theorem x_ifCond_le_9 {fz : Int → Int → Option Int} {d k : Nat} {Q : Int → HV → Prop} {is : List Instr} {h : HV} {ls st : List AV} {x : Int} : X fz d k Q (.ifCond .le 9 :: is) ls ((0, x) :: st) h = ((x ≤ 0 → G fz d k 9 ls st h Q) ∧ (¬ (x ≤ 0) → X fz d k Q is ls st h)) := rfl
theorem x_ifCond_lt_1 {fz : Int → Int → Option Int} {d k : Nat} {Q : Int → HV → Prop} {is : List Instr} {h : HV} {ls st : List AV} {x : Int} : X fz d k Q (.ifCond .lt 1 :: is) ls ((0, x) :: st) h = ((x < 0 → G fz d k 1 ls st h Q) ∧ (¬ (x < 0) → X fz d k Q is ls st h)) := rfl
theorem x_ifCond_lt_11 {fz : Int → Int → Option Int} {d k : Nat} {Q : Int → HV → Prop} {is : List Instr} {h : HV} {ls st : List AV} {x : Int} : X fz d k Q (.ifCond .lt 11 :: is) ls ((0, x) :: st) h = ((x < 0 → G fz d k 11 ls st h Q) ∧ (¬ (x < 0) → X fz d k Q is ls st h)) := rfl
theorem x_ifCond_lt_12 {fz : Int → Int → Option Int} {d k : Nat} {Q : Int → HV → Prop} {is : List Instr} {h : HV} {ls st : List AV} {x : Int} : X fz d k Q (.ifCond .lt 12 :: is) ls ((0, x) :: st) h = ((x < 0 → G fz d k 12 ls st h Q) ∧ (¬ (x < 0) → X fz d k Q is ls st h)) := rfl
theorem x_ifCond_lt_16 {fz : Int → Int → Option Int} {d k : Nat} {Q : Int → HV → Prop} {is : List Instr} {h : HV} {ls st : List AV} {x : Int} : X fz d k Q (.ifCond .lt 16 :: is) ls ((0, x) :: st) h = ((x < 0 → G fz d k 16 ls st h Q) ∧ (¬ (x < 0) → X fz d k Q is ls st h)) := rfl
theorem x_ifCond_lt_18 {fz : Int → Int → Option Int} {d k : Nat} {Q : Int → HV → Prop} {is : List Instr} {h : HV} {ls st : List AV} {x : Int} : X fz d k Q (.ifCond .lt 18 :: is) ls ((0, x) :: st) h = ((x < 0 → G fz d k 18 ls st h Q) ∧ (¬ (x < 0) → X fz d k Q is ls st h)) := rfl
theorem x_ifCond_lt_2 {fz : Int → Int → Option Int} {d k : Nat} {Q : Int → HV → Prop} {is : List Instr} {h : HV} {ls st : List AV} {x : Int} : X fz d k Q (.ifCond .lt 2 :: is) ls ((0, x) :: st) h = ((x < 0 → G fz d k 2 ls st h Q) ∧ (¬ (x < 0) → X fz d k Q is ls st h)) := rfl
theorem x_ifCond_lt_20 {fz : Int → Int → Option Int} {d k : Nat} {Q : Int → HV → Prop} {is : List Instr} {h : HV} {ls st : List AV} {x : Int} : X fz d k Q (.ifCond .lt 20 :: is) ls ((0, x) :: st) h = ((x < 0 → G fz d k 20 ls st h Q) ∧ (¬ (x < 0) → X fz d k Q is ls st h)) := rfl
theorem x_ifCond_lt_22 {fz : Int → Int → Option Int} {d k : Nat} {Q : Int → HV → Prop} {is : List Instr} {h : HV} {ls st : List AV} {x : Int} : X fz d k Q (.ifCond .lt 22 :: is) ls ((0, x) :: st) h = ((x < 0 → G fz d k 22 ls st h Q) ∧ (¬ (x < 0) → X fz d k Q is ls st h)) := rfl
theorem x_ifCond_lt_23 {fz : Int → Int → Option Int} {d k : Nat} {Q : Int → HV → Prop} {is : List Instr} {h : HV} {ls st : List AV} {x : Int} : X fz d k Q (.ifCond .lt 23 :: is) ls ((0, x) :: st) h = ((x < 0 → G fz d k 23 ls st h Q) ∧ (¬ (x < 0) → X fz d k Q is ls st h)) := rfl
theorem x_ifCond_lt_3 {fz : Int → Int → Option Int} {d k : Nat} {Q : Int → HV → Prop} {is : List Instr} {h : HV} {ls st : List AV} {x : Int} : X fz d k Q (.ifCond .lt 3 :: is) ls ((0, x) :: st) h = ((x < 0 → G fz d k 3 ls st h Q) ∧ (¬ (x < 0) → X fz d k Q is ls st h)) := rfl
theorem x_ifCond_lt_4 {fz : Int → Int → Option Int} {d k : Nat} {Q : Int → HV → Prop} {is : List Instr} {h : HV} {ls st : List AV} {x : Int} : X fz d k Q (.ifCond .lt 4 :: is) ls ((0, x) :: st) h = ((x < 0 → G fz d k 4 ls st h Q) ∧ (¬ (x < 0) → X fz d k Q is ls st h)) := rfl
theorem x_ifCond_lt_5 {fz : Int → Int → Option Int} {d k : Nat} {Q : Int → HV → Prop} {is : List Instr} {h : HV} {ls st : List AV} {x : Int} : X fz d k Q (.ifCond .lt 5 :: is) ls ((0, x) :: st) h = ((x < 0 → G fz d k 5 ls st h Q) ∧ (¬ (x < 0) → X fz d k Q is ls st h)) := rfl
theorem x_ifCond_lt_6 {fz : Int → Int → Option Int} {d k : Nat} {Q : Int → HV → Prop} {is : List Instr} {h : HV} {ls st : List AV} {x : Int} : X fz d k Q (.ifCond .lt 6 :: is) ls ((0, x) :: st) h = ((x < 0 → G fz d k 6 ls st h Q) ∧ (¬ (x < 0) → X fz d k Q is ls st h)) := rfl
theorem x_ifCond_lt_8 {fz : Int → Int → Option Int} {d k : Nat} {Q : Int → HV → Prop} {is : List Instr} {h : HV} {ls st : List AV} {x : Int} : X fz d k Q (.ifCond .lt 8 :: is) ls ((0, x) :: st) h = ((x < 0 → G fz d k 8 ls st h Q) ∧ (¬ (x < 0) → X fz d k Q is ls st h)) := rfl
theorem x_ifCond_lt_9 {fz : Int → Int → Option Int} {d k : Nat} {Q : Int → HV → Prop} {is : List Instr} {h : HV} {ls st : List AV} {x : Int} : X fz d k Q (.ifCond .lt 9 :: is) ls ((0, x) :: st) h = ((x < 0 → G fz d k 9 ls st h Q) ∧ (¬ (x < 0) → X fz d k Q is ls st h)) := rfl
theorem x_ifCond_ne_1 {fz : Int → Int → Option Int} {d k : Nat} {Q : Int → HV → Prop} {is : List Instr} {h : HV} {ls st : List AV} {x : Int} : X fz d k Q (.ifCond .ne 1 :: is) ls ((0, x) :: st) h = ((x ≠ 0 → G fz d k 1 ls st h Q) ∧ (¬ (x ≠ 0) → X fz d k Q is ls st h)) := rfl
theorem x_ifCond_ne_10 {fz : Int → Int → Option Int} {d k : Nat} {Q : Int → HV → Prop} {is : List Instr} {h : HV} {ls st : List AV} {x : Int} : X fz d k Q (.ifCond .ne 10 :: is) ls ((0, x) :: st) h = ((x ≠ 0 → G fz d k 10 ls st h Q) ∧ (¬ (x ≠ 0) → X fz d k Q is ls st h)) := rfl
theorem x_ifCond_ne_11 {fz : Int → Int → Option Int} {d k : Nat} {Q : Int → HV → Prop} {is : List Instr} {h : HV} {ls st : List AV} {x : Int} : X fz d k Q (.ifCond .ne 11 :: is) ls ((0, x) :: st) h = ((x ≠ 0 → G fz d k 11 ls st h Q) ∧ (¬ (x ≠ 0) → X fz d k Q is ls st h)) := rfl
theorem x_ifCond_ne_12 {fz : Int → Int → Option Int} {d k : Nat} {Q : Int → HV → Prop} {is : List Instr} {h : HV} {ls st : List AV} {x : Int} : X fz d k Q (.ifCond .ne 12 :: is) ls ((0, x) :: st) h = ((x ≠ 0 → G fz d k 12 ls st h Q) ∧ (¬ (x ≠ 0) → X fz d k Q is ls st h)) := rfl
theorem x_ifCond_ne_13 {fz : Int → Int → Option Int} {d k : Nat} {Q : Int → HV → Prop} {is : List Instr} {h : HV} {ls st : List AV} {x : Int} : X fz d k Q (.ifCond .ne 13 :: is) ls ((0, x) :: st) h = ((x ≠ 0 → G fz d k 13 ls st h Q) ∧ (¬ (x ≠ 0) → X fz d k Q is ls st h)) := rfl
theorem x_ifCond_ne_14 {fz : Int → Int → Option Int} {d k : Nat} {Q : Int → HV → Prop} {is : List Instr} {h : HV} {ls st : List AV} {x : Int} : X fz d k Q (.ifCond .ne 14 :: is) ls ((0, x) :: st) h = ((x ≠ 0 → G fz d k 14 ls st h Q) ∧ (¬ (x ≠ 0) → X fz d k Q is ls st h)) := rfl
theorem x_ifCond_ne_15 {fz : Int → Int → Option Int} {d k : Nat} {Q : Int → HV → Prop} {is : List Instr} {h : HV} {ls st : List AV} {x : Int} : X fz d k Q (.ifCond .ne 15 :: is) ls ((0, x) :: st) h = ((x ≠ 0 → G fz d k 15 ls st h Q) ∧ (¬ (x ≠ 0) → X fz d k Q is ls st h)) := rfl
theorem x_ifCond_ne_17 {fz : Int → Int → Option Int} {d k : Nat} {Q : Int → HV → Prop} {is : List Instr} {h : HV} {ls st : List AV} {x : Int} : X fz d k Q (.ifCond .ne 17 :: is) ls ((0, x) :: st) h = ((x ≠ 0 → G fz d k 17 ls st h Q) ∧ (¬ (x ≠ 0) → X fz d k Q is ls st h)) := rfl
theorem x_ifCond_ne_18 {fz : Int → Int → Option Int} {d k : Nat} {Q : Int → HV → Prop} {is : List Instr} {h : HV} {ls st : List AV} {x : Int} : X fz d k Q (.ifCond .ne 18 :: is) ls ((0, x) :: st) h = ((x ≠ 0 → G fz d k 18 ls st h Q) ∧ (¬ (x ≠ 0) → X fz d k Q is ls st h)) := rfl
theorem x_ifCond_ne_19 {fz : Int → Int → Option Int} {d k : Nat} {Q : Int → HV → Prop} {is : List Instr} {h : HV} {ls st : List AV} {x : Int} : X fz d k Q (.ifCond .ne 19 :: is) ls ((0, x) :: st) h = ((x ≠ 0 → G fz d k 19 ls st h Q) ∧ (¬ (x ≠ 0) → X fz d k Q is ls st h)) := rfl
theorem x_ifCond_ne_2 {fz : Int → Int → Option Int} {d k : Nat} {Q : Int → HV → Prop} {is : List Instr} {h : HV} {ls st : List AV} {x : Int} : X fz d k Q (.ifCond .ne 2 :: is) ls ((0, x) :: st) h = ((x ≠ 0 → G fz d k 2 ls st h Q) ∧ (¬ (x ≠ 0) → X fz d k Q is ls st h)) := rfl
theorem x_ifCond_ne_21 {fz : Int → Int → Option Int} {d k : Nat} {Q : Int → HV → Prop} {is : List Instr} {h : HV} {ls st : List AV} {x : Int} : X fz d k Q (.ifCond .ne 21 :: is) ls ((0, x) :: st) h = ((x ≠ 0 → G fz d k 21 ls st h Q) ∧ (¬ (x ≠ 0) → X fz d k Q is ls st h)) := rfl
theorem x_ifCond_ne_22 {fz : Int → Int → Option Int} {d k : Nat} {Q : Int → HV → Prop} {is : List Instr} {h : HV} {ls st : List AV} {x : Int} : X fz d k Q (.ifCond .ne 22 :: is) ls ((0, x) :: st) h = ((x ≠ 0 → G fz d k 22 ls st h Q) ∧ (¬ (x ≠ 0) → X fz d k Q is ls st h)) := rfl
theorem x_ifCond_ne_23 {fz : Int → Int → Option Int} {d k : Nat} {Q : Int → HV → Prop} {is : List Instr} {h : HV} {ls st : List AV} {x : Int} : X fz d k Q (.ifCond .ne 23 :: is) ls ((0, x) :: st) h = ((x ≠ 0 → G fz d k 23 ls st h Q) ∧ (¬ (x ≠ 0) → X fz d k Q is ls st h)) := rfl
theorem x_ifCond_ne_24 {fz : Int → Int → Option Int} {d k : Nat} {Q : Int → HV → Prop} {is : List Instr} {h : HV} {ls st : List AV} {x : Int} : X fz d k Q (.ifCond .ne 24 :: is) ls ((0, x) :: st) h = ((x ≠ 0 → G fz d k 24 ls st h Q) ∧ (¬ (x ≠ 0) → X fz d k Q is ls st h)) := rfl
theorem x_ifCond_ne_28 {fz : Int → Int → Option Int} {d k : Nat} {Q : Int → HV → Prop} {is : List Instr} {h : HV} {ls st : List AV} {x : Int} : X fz d k Q (.ifCond .ne 28 :: is) ls ((0, x) :: st) h = ((x ≠ 0 → G fz d k 28 ls st h Q) ∧ (¬ (x ≠ 0) → X fz d k Q is ls st h)) := rfl
theorem x_ifCond_ne_3 {fz : Int → Int → Option Int} {d k : Nat} {Q : Int → HV → Prop} {is : List Instr} {h : HV} {ls st : List AV} {x : Int} : X fz d k Q (.ifCond .ne 3 :: is) ls ((0, x) :: st) h = ((x ≠ 0 → G fz d k 3 ls st h Q) ∧ (¬ (x ≠ 0) → X fz d k Q is ls st h)) := rfl
theorem x_ifCond_ne_4 {fz : Int → Int → Option Int} {d k : Nat} {Q : Int → HV → Prop} {is : List Instr} {h : HV} {ls st : List AV} {x : Int} : X fz d k Q (.ifCond .ne 4 :: is) ls ((0, x) :: st) h = ((x ≠ 0 → G fz d k 4 ls st h Q) ∧ (¬ (x ≠ 0) → X fz d k Q is ls st h)) := rfl
theorem x_ifCond_ne_5 {fz : Int → Int → Option Int} {d k : Nat} {Q : Int → HV → Prop} {is : List Instr} {h : HV} {ls st : List AV} {x : Int} : X fz d k Q (.ifCond .ne 5 :: is) ls ((0, x) :: st) h = ((x ≠ 0 → G fz d k 5 ls st h Q) ∧ (¬ (x ≠ 0) → X fz d k Q is ls st h)) := rfl
theorem x_ifCond_ne_6 {fz : Int → Int → Option Int} {d k : Nat} {Q : Int → HV → Prop} {is : List Instr} {h : HV} {ls st : List AV} {x : Int} : X fz d k Q (.ifCond .ne 6 :: is) ls ((0, x) :: st) h = ((x ≠ 0 → G fz d k 6 ls st h Q) ∧ (¬ (x ≠ 0) → X fz d k Q is ls st h)) := rfl
theorem x_ifCond_ne_7 {fz : Int → Int → Option Int} {d k : Nat} {Q : Int → HV → Prop} {is : List Instr} {h : HV} {ls st : List AV} {x : Int} : X fz d k Q (.ifCond .ne 7 :: is) ls ((0, x) :: st) h = ((x ≠ 0 → G fz d k 7 ls st h Q) ∧ (¬ (x ≠ 0) → X fz d k Q is ls st h)) := rfl
theorem x_ifCond_ne_8 {fz : Int → Int → Option Int} {d k : Nat} {Q : Int → HV → Prop} {is : List Instr} {h : HV} {ls st : List AV} {x : Int} : X fz d k Q (.ifCond .ne 8 :: is) ls ((0, x) :: st) h = ((x ≠ 0 → G fz d k 8 ls st h Q) ∧ (¬ (x ≠ 0) → X fz d k Q is ls st h)) := rfl
theorem x_ifCond_ne_9 {fz : Int → Int → Option Int} {d k : Nat} {Q : Int → HV → Prop} {is : List Instr} {h : HV} {ls st : List AV} {x : Int} : X fz d k Q (.ifCond .ne 9 :: is) ls ((0, x) :: st) h = ((x ≠ 0 → G fz d k 9 ls st h Q) ∧ (¬ (x ≠ 0) → X fz d k Q is ls st h)) := rfl
theorem x_if_icmp_eq_1 {fz : Int → Int → Option Int} {d k : Nat} {Q : Int → HV → Prop} {is : List Instr} {h : HV} {ls st : List AV} {x y : Int} : X fz d k Q (.if_icmp .eq 1 :: is) ls ((0, y) :: (0, x) :: st) h = ((x = y → G fz d k 1 ls st h Q) ∧ (¬ (x = y) → X fz d k Q is ls st h)) := rfl
theorem x_if_icmp_eq_10 {fz : Int → Int → Option Int} {d k : Nat} {Q : Int → HV → Prop} {is : List Instr} {h : HV} {ls st : List AV} {x y : Int} : X fz d k Q (.if_icmp .eq 10 :: is) ls ((0, y) :: (0, x) :: st) h = ((x = y → G fz d k 10 ls st h Q) ∧ (¬ (x = y) → X fz d k Q is ls st h)) := rfl
theorem x_if_icmp_eq_11 {fz : Int → Int → Option Int} {d k : Nat} {Q : Int → HV → Prop} {is : List Instr} {h : HV} {ls st : List AV} {x y : Int} : X fz d k Q (.if_icmp .eq 11 :: is) ls ((0, y) :: (0, x) :: st) h = ((x = y → G fz d k 11 ls st h Q) ∧ (¬ (x = y) → X fz d k Q is ls st h)) := rfl
theorem x_if_icmp_eq_13 {fz : Int → Int → Option Int} {d k : Nat} {Q : Int → HV → Prop} {is : List Instr} {h : HV} {ls st : List AV} {x y : Int} : X fz d k Q (.if_icmp .eq 13 :: is) ls ((0, y) :: (0, x) :: st) h = ((x = y → G fz d k 13 ls st h Q) ∧ (¬ (x = y) → X fz d k Q is ls st h)) := rfl
theorem x_if_icmp_eq_16 {fz : Int → Int → Option Int} {d k : Nat} {Q : Int → HV → Prop} {is : List Instr} {h : HV} {ls st : List AV} {x y : Int} : X fz d k Q (.if_icmp .eq 16 :: is) ls ((0, y) :: (0, x) :: st) h = ((x = y → G fz d k 16 ls st h Q) ∧ (¬ (x = y) → X fz d k Q is ls st h)) := rfl
theorem x_if_icmp_eq_19 {fz : Int → Int → Option Int} {d k : Nat} {Q : Int → HV → Prop} {is : List Instr} {h : HV} {ls st : List AV} {x y : Int} : X fz d k Q (.if_icmp .eq 19 :: is) ls ((0, y) :: (0, x) :: st) h = ((x = y → G fz d k 19 ls st h Q) ∧ (¬ (x = y) → X fz d k Q is ls st h)) := rfl
theorem x_if_icmp_eq_2 {fz : Int → Int → Option Int} {d k : Nat} {Q : Int → HV → Prop} {is : List Instr} {h : HV} {ls st : List AV} {x y : Int} : X fz d k Q (.if_icmp .eq 2 :: is) ls ((0, y) :: (0, x) :: st) h = ((x = y → G fz d k 2 ls st h Q) ∧ (¬ (x = y) → X fz d k Q is ls st h)) := rfl
theorem x_if_icmp_eq_27 {fz : Int → Int → Option Int} {d k : Nat} {Q : Int → HV → Prop} {is : List Instr} {h : HV} {ls st : List AV} {x y : Int} : X fz d k Q (.if_icmp .eq 27 :: is) ls ((0, y) :: (0, x) :: st) h = ((x = y → G fz d k 27 ls st h Q) ∧ (¬ (x = y) → X fz d k Q is ls st h)) := rfl
theorem x_if_icmp_eq_28 {fz : Int → Int → Option Int} {d k : Nat} {Q : Int → HV → Prop} {is : List Instr} {h : HV} {ls st : List AV} {x y : Int} : X fz d k Q (.if_icmp .eq 28 :: is) ls ((0, y) :: (0, x) :: st) h = ((x = y → G fz d k 28 ls st h Q) ∧ (¬ (x = y) → X fz d k Q is ls st h)) := rfl
theorem x_if_icmp_eq_29 {fz : Int → Int → Option Int} {d k : Nat} {Q : Int → HV → Prop} {is : List Instr} {h : HV} {ls st : List AV} {x y : Int} : X fz d k Q (.if_icmp .eq 29 :: is) ls ((0, y) :: (0, x) :: st) h = ((x = y → G fz d k 29 ls st h Q) ∧ (¬ (x = y) → X fz d k Q is ls st h)) := rfl
theorem x_if_icmp_eq_3 {fz : Int → Int → Option Int} {d k : Nat} {Q : Int → HV → Prop} {is : List Instr} {h : HV} {ls st : List AV} {x y : Int} : X fz d k Q (.if_icmp .eq 3 :: is) ls ((0, y) :: (0, x) :: st) h = ((x = y → G fz d k 3 ls st h Q) ∧ (¬ (x = y) → X fz d k Q is ls st h)) := rfl
theorem x_if_icmp_eq_32 {fz : Int → Int → Option Int} {d k : Nat} {Q : Int → HV → Prop} {is : List Instr} {h : HV} {ls st : List AV} {x y : Int} : X fz d k Q (.if_icmp .eq 32 :: is) ls ((0, y) :: (0, x) :: st) h = ((x = y → G fz d k 32 ls st h Q) ∧ (¬ (x = y) → X fz d k Q is ls st h)) := rfl
theorem x_if_icmp_eq_4 {fz : Int → Int → Option Int} {d k : Nat} {Q : Int → HV → Prop} {is : List Instr} {h : HV} {ls st : List AV} {x y : Int} : X fz d k Q (.if_icmp .eq 4 :: is) ls ((0, y) :: (0, x) :: st) h = ((x = y → G fz d k 4 ls st h Q) ∧ (¬ (x = y) → X fz d k Q is ls st h)) := rfl
theorem x_if_icmp_eq_5 {fz : Int → Int → Option Int} {d k : Nat} {Q : Int → HV → Prop} {is : List Instr} {h : HV} {ls st : List AV} {x y : Int} : X fz d k Q (.if_icmp .eq 5 :: is) ls ((0, y) :: (0, x) :: st) h = ((x = y → G fz d k 5 ls st h Q) ∧ (¬ (x = y) → X fz d k Q is ls st h)) := rfl
theorem x_if_icmp_eq_6 {fz : Int → Int → Option Int} {d k : Nat} {Q : Int → HV → Prop} {is : List Instr} {h : HV} {ls st : List AV} {x y : Int} : X fz d k Q (.if_icmp .eq 6 :: is) ls ((0, y) :: (0, x) :: st) h = ((x = y → G fz d k 6 ls st h Q) ∧ (¬ (x = y) → X fz d k Q is ls st h)) := rfl
theorem x_if_icmp_eq_7 {fz : Int → Int → Option Int} {d k : Nat} {Q : Int → HV → Prop} {is : List Instr} {h : HV} {ls st : List AV} {x y : Int} : X fz d k Q (.if_icmp .eq 7 :: is) ls ((0, y) :: (0, x) :: st) h = ((x = y → G fz d k 7 ls st h Q) ∧ (¬ (x = y) → X fz d k Q is ls st h)) := rfl
theorem x_if_icmp_eq_8 {fz : Int → Int → Option Int} {d k : Nat} {Q : Int → HV → Prop} {is : List Instr} {h : HV} {ls st : List AV} {x y : Int} : X fz d k Q (.if_icmp .eq 8 :: is) ls ((0, y) :: (0, x) :: st) h = ((x = y → G fz d k 8 ls st h Q) ∧ (¬ (x = y) → X fz d k Q is ls st h)) := rfl
theorem x_if_icmp_eq_9 {fz : Int → Int → Option Int} {d k : Nat} {Q : Int → HV → Prop} {is : List Instr} {h : HV} {ls st : List AV} {x y : Int} : X fz d k Q (.if_icmp .eq 9 :: is) ls ((0, y) :: (0, x) :: st) h = ((x = y → G fz d k 9 ls st h Q) ∧ (¬ (x = y) → X fz d k Q is ls st h)) := rfl
theorem x_if_icmp_ge_1 {fz : Int → Int → Option Int} {d k : Nat} {Q : Int → HV → Prop} {is : List Instr} {h : HV} {ls st : List AV} {x y : Int} : X fz d k Q (.if_icmp .ge 1 :: is) ls ((0, y) :: (0, x) :: st) h = ((y ≤ x → G fz d k 1 ls st h Q) ∧ (¬ (y ≤ x) → X fz d k Q is ls st h)) := rfl
theorem x_if_icmp_ge_10 {fz : Int → Int → Option Int} {d k : Nat} {Q : Int → HV → Prop} {is : List Instr} {h : HV} {ls st : List AV} {x y : Int} : X fz d k Q (.if_icmp .ge 10 :: is) ls ((0, y) :: (0, x) :: st) h = ((y ≤ x → G fz d k 10 ls st h Q) ∧ (¬ (y ≤ x) → X fz d k Q is ls st h)) := rfl
theorem x_if_icmp_ge_11 {fz : Int → Int → Option Int} {d k : Nat} {Q : Int → HV → Prop} {is : List Instr} {h : HV} {ls st : List AV} {x y : Int} : X fz d k Q (.if_icmp .ge 11 :: is) ls ((0, y) :: (0, x) :: st) h = ((y ≤ x → G fz d k 11 ls st h Q) ∧ (¬ (y ≤ x) → X fz d k Q is ls st h)) := rfl
theorem x_if_icmp_ge_12 {fz : Int → Int → Option Int} {d k : Nat} {Q : Int → HV → Prop} {is : List Instr} {h : HV} {ls st : List AV} {x y : Int} : X fz d k Q (.if_icmp .ge 12 :: is) ls ((0, y) :: (0, x) :: st) h = ((y ≤ x → G fz d k 12 ls st h Q) ∧ (¬ (y ≤ x) → X fz d k Q is ls st h)) := rfl
theorem x_if_icmp_ge_13 {fz : Int → Int → Option Int} {d k : Nat} {Q : Int → HV → Prop} {is : List Instr} {h : HV} {ls st : List AV} {x y : Int} : X fz d k Q (.if_icmp .ge 13 :: is) ls ((0, y) :: (0, x) :: st) h = ((y ≤ x → G fz d k 13 ls st h Q) ∧ (¬ (y ≤ x) → X fz d k Q is ls st h)) := rfl
theorem x_if_icmp_ge_14 {fz : Int → Int → Option Int} {d k : Nat} {Q : Int → HV → Prop} {is : List Instr} {h : HV} {ls st : List AV} {x y : Int} : X fz d k Q (.if_icmp .ge 14 :: is) ls ((0, y) :: (0, x) :: st) h = ((y ≤ x → G fz d k 14 ls st h Q) ∧ (¬ (y ≤ x) → X fz d k Q is ls st h)) := rfl
theorem x_if_icmp_ge_15 {fz : Int → Int → Option Int} {d k : Nat} {Q : Int → HV → Prop} {is : List Instr} {h : HV} {ls st : List AV} {x y : Int} : X fz d k Q (.if_icmp .ge 15 :: is) ls ((0, y) :: (0, x) :: st) h = ((y ≤ x → G fz d k 15 ls st h Q) ∧ (¬ (y ≤ x) → X fz d k Q is ls st h)) := rfl
theorem x_if_icmp_ge_16 {fz : Int → Int → Option Int} {d k : Nat} {Q : Int → HV → Prop} {is : List Instr} {h : HV} {ls st : List AV} {x y : Int} : X fz d k Q (.if_icmp .ge 16 :: is) ls ((0, y) :: (0, x) :: st) h = ((y ≤ x → G fz d k 16 ls st h Q) ∧ (¬ (y ≤ x) → X fz d k Q is ls st h)) := rfl
theorem x_if_icmp_ge_17 {fz : Int → Int → Option Int} {d k : Nat} {Q : Int → HV → Prop} {is : List Instr} {h : HV} {ls st : List AV} {x y : Int} : X fz d k Q (.if_icmp .ge 17 :: is) ls ((0, y) :: (0, x) :: st) h = ((y ≤ x → G fz d k 17 ls st h Q) ∧ (¬ (y ≤ x) → X fz d k Q is ls st h)) := rfl
theorem x_if_icmp_ge_18 {fz : Int → Int → Option Int} {d k : Nat} {Q : Int → HV → Prop} {is : List Instr} {h : HV} {ls st : List AV} {x y : Int} : X fz d k Q (.if_icmp .ge 18 :: is) ls ((0, y) :: (0, x) :: st) h = ((y ≤ x → G fz d k 18 ls st h Q) ∧ (¬ (y ≤ x) → X fz d k Q is ls st h)) := rfl
theorem x_if_icmp_ge_19 {fz : Int → Int → Option Int} {d k : Nat} {Q : Int → HV → Prop} {is : List Instr} {h : HV} {ls st : List AV} {x y : Int} : X fz d k Q (.if_icmp .ge 19 :: is) ls ((0, y) :: (0, x) :: st) h = ((y ≤ x → G fz d k 19 ls st h Q) ∧ (¬ (y ≤ x) → X fz d k Q is ls st h)) := rfl
theorem x_if_icmp_ge_2 {fz : Int → Int → Option Int} {d k : Nat} {Q : Int → HV → Prop} {is : List Instr} {h : HV} {ls st : List AV} {x y : Int} : X fz d k Q (.if_icmp .ge 2 :: is) ls ((0, y) :: (0, x) :: st) h = ((y ≤ x → G fz d k 2 ls st h Q) ∧ (¬ (y ≤ x) → X fz d k Q is ls st h)) := rfl
theorem x_if_icmp_ge_20 {fz : Int → Int → Option Int} {d k : Nat} {Q : Int → HV → Prop} {is : List Instr} {h : HV} {ls st : List AV} {x y : Int} : X fz d k Q (.if_icmp .ge 20 :: is) ls ((0, y) :: (0, x) :: st) h = ((y ≤ x → G fz d k 20 ls st h Q) ∧ (¬ (y ≤ x) → X fz d k Q is ls st h)) := rfl
theorem x_if_icmp_ge_21 {fz : Int → Int → Option Int} {d k : Nat} {Q : Int → HV → Prop} {is : List Instr} {h : HV} {ls st : List AV} {x y : Int} : X fz d k Q (.if_icmp .ge 21 :: is) ls ((0, y) :: (0, x) :: st) h = ((y ≤ x → G fz d k 21 ls st h Q) ∧ (¬ (y ≤ x) → X fz d k Q is ls st h)) := rfl
theorem x_if_icmp_ge_22 {fz : Int → Int → Option Int} {d k : Nat} {Q : Int → HV → Prop} {is : List Instr} {h : HV} {ls st : List AV} {x y : Int} : X fz d k Q (.if_icmp .ge 22 :: is) ls ((0, y) :: (0, x) :: st) h = ((y ≤ x → G fz d k 22 ls st h Q) ∧ (¬ (y ≤ x) → X fz d k Q is ls st h)) := rfl
theorem x_if_icmp_ge_23 {fz : Int → Int → Option Int} {d k : Nat} {Q : Int → HV → Prop} {is : List Instr} {h : HV} {ls st : List AV} {x y : Int} : X fz d k Q (.if_icmp .ge 23 :: is) ls ((0, y) :: (0, x) :: st) h = ((y ≤ x → G fz d k 23 ls st h Q) ∧ (¬ (y ≤ x) → X fz d k Q is ls st h)) := rfl
theorem x_if_icmp_ge_28 {fz : Int → Int → Option Int} {d k : Nat} {Q : Int → HV → Prop} {is : List Instr} {h : HV} {ls st : List AV} {x y : Int} : X fz d k Q (.if_icmp .ge 28 :: is) ls ((0, y) :: (0, x) :: st) h = ((y ≤ x → G fz d k 28 ls st h Q) ∧ (¬ (y ≤ x) → X fz d k Q is ls st h)) := rfl
theorem x_if_icmp_ge_3 {fz : Int → Int → Option Int} {d k : Nat} {Q : Int → HV → Prop} {is : List Instr} {h : HV} {ls st : List AV} {x y : Int} : X fz d k Q (.if_icmp .ge 3 :: is) ls ((0, y) :: (0, x) :: st) h = ((y ≤ x → G fz d k 3 ls st h Q) ∧ (¬ (y ≤ x) → X fz d k Q is ls st h)) := rfl
theorem x_if_icmp_ge_31 {fz : Int → Int → Option Int} {d k : Nat} {Q : Int → HV → Prop} {is : List Instr} {h : HV} {ls st : List AV} {x y : Int} : X fz d k Q (.if_icmp .ge 31 :: is) ls ((0, y) :: (0, x) :: st) h = ((y ≤ x → G fz d k 31 ls st h Q) ∧ (¬ (y ≤ x) → X fz d k Q is ls st h)) := rfl
theorem x_if_icmp_ge_34 {fz : Int → Int → Option Int} {d k : Nat} {Q : Int → HV → Prop} {is : List Instr} {h : HV} {ls st : List AV} {x y : Int} : X fz d k Q (.if_icmp .ge 34 :: is) ls ((0, y) :: (0, x) :: st) h = ((y ≤ x → G fz d k 34 ls st h Q) ∧ (¬ (y ≤ x) → X fz d k Q is ls st h)) := rfl
theorem x_if_icmp_ge_4 {fz : Int → Int → Option Int} {d k : Nat} {Q : Int → HV → Prop} {is : List Instr} {h : HV} {ls st : List AV} {x y : Int} : X fz d k Q (.if_icmp .ge 4 :: is) ls ((0, y) :: (0, x) :: st) h = ((y ≤ x → G fz d k 4 ls st h Q) ∧ (¬ (y ≤ x) → X fz d k Q is ls st h)) := rfl
theorem x_if_icmp_ge_5 {fz : Int → Int → Option Int} {d k : Nat} {Q : Int → HV → Prop} {is : List Instr} {h : HV} {ls st : List AV} {x y : Int} : X fz d k Q (.if_icmp .ge 5 :: is) ls ((0, y) :: (0, x) :: st) h = ((y ≤ x → G fz d k 5 ls st h Q) ∧ (¬ (y ≤ x) → X fz d k Q is ls st h)) := rfl
theorem x_if_icmp_ge_6 {fz : Int → Int → Option Int} {d k : Nat} {Q : Int → HV → Prop} {is : List Instr} {h : HV} {ls st : List AV} {x y : Int} : X fz d k Q (.if_icmp .ge 6 :: is) ls ((0, y) :: (0, x) :: st) h = ((y ≤ x → G fz d k 6 ls st h Q) ∧ (¬ (y ≤ x) → X fz d k Q is ls st h)) := rfl
theorem x_if_icmp_ge_7 {fz : Int → Int → Option Int} {d k : Nat} {Q : Int → HV → Prop} {is : List Instr} {h : HV} {ls st : List AV} {x y : Int} : X fz d k Q (.if_icmp .ge 7 :: is) ls ((0, y) :: (0, x) :: st) h = ((y ≤ x → G fz d k 7 ls st h Q) ∧ (¬ (y ≤ x) → X fz d k Q is ls st h)) := rfl
theorem x_if_icmp_ge_8 {fz : Int → Int → Option Int} {d k : Nat} {Q : Int → HV → Prop} {is : List Instr} {h : HV} {ls st : List AV} {x y : Int} : X fz d k Q (.if_icmp .ge 8 :: is) ls ((0, y) :: (0, x) :: st) h = ((y ≤ x → G fz d k 8 ls st h Q) ∧ (¬ (y ≤ x) → X fz d k Q is ls st h)) := rfl
theorem x_if_icmp_ge_9 {fz : Int → Int → Option Int} {d k : Nat} {Q : Int → HV → Prop} {is : List Instr} {h : HV} {ls st : List AV} {x y : Int} : X fz d k Q (.if_icmp .ge 9 :: is) ls ((0, y) :: (0, x) :: st) h = ((y ≤ x → G fz d k 9 ls st h Q) ∧ (¬ (y ≤ x) → X fz d k Q is ls st h)) := rfl
theorem x_if_icmp_gt_1 {fz : Int → Int → Option Int} {d k : Nat} {Q : Int → HV → Prop} {is : List Instr} {h : HV} {ls st : List AV} {x y : Int} : X fz d k Q (.if_icmp .gt 1 :: is) ls ((0, y) :: (0, x) :: st) h = ((y < x → G fz d k 1 ls st h Q) ∧ (¬ (y < x) → X fz d k Q is ls st h)) := rfl
theorem x_if_icmp_gt_12 {fz : Int → Int → Option Int} {d k : Nat} {Q : Int → HV → Prop} {is : List Instr} {h : HV} {ls st : List AV} {x y : Int} : X fz d k Q (.if_icmp .gt 12 :: is) ls ((0, y) :: (0, x) :: st) h = ((y < x → G fz d k 12 ls st h Q) ∧ (¬ (y < x) → X fz d k Q is ls st h)) := rfl
theorem x_if_icmp_gt_2 {fz : Int → Int → Option Int} {d k : Nat} {Q : Int → HV → Prop} {is : List Instr} {h : HV} {ls st : List AV} {x y : Int} : X fz d k Q (.if_icmp .gt 2 :: is) ls ((0, y) :: (0, x) :: st) h = ((y < x → G fz d k 2 ls st h Q) ∧ (¬ (y < x) → X fz d k Q is ls st h)) := rfl
theorem x_if_icmp_gt_23 {fz : Int → Int → Option Int} {d k : Nat} {Q : Int → HV → Prop} {is : List Instr} {h : HV} {ls st : List AV} {x y : Int} : X fz d k Q (.if_icmp .gt 23 :: is) ls ((0, y) :: (0, x) :: st) h = ((y < x → G fz d k 23 ls st h Q) ∧ (¬ (y < x) → X fz d k Q is ls st h)) := rfl
theorem x_if_icmp_gt_3 {fz : Int → Int → Option Int} {d k : Nat} {Q : Int → HV → Prop} {is : List Instr} {h : HV} {ls st : List AV} {x y : Int} : X fz d k Q (.if_icmp .gt 3 :: is) ls ((0, y) :: (0, x) :: st) h = ((y < x → G fz d k 3 ls st h Q) ∧ (¬ (y < x) → X fz d k Q is ls st h)) := rfl
theorem x_if_icmp_gt_33 {fz : Int → Int → Option Int} {d k : Nat} {Q : Int → HV → Prop} {is : List Instr} {h : HV} {ls st : List AV} {x y : Int} : X fz d k Q (.if_icmp .gt 33 :: is) ls ((0, y) :: (0, x) :: st) h = ((y < x → G fz d k 33 ls st h Q) ∧ (¬ (y < x) → X fz d k Q is ls st h)) := rfl
theorem x_if_icmp_gt_4 {fz : Int → Int → Option Int} {d k : Nat} {Q : Int → HV → Prop} {is : List Instr} {h : HV} {ls st : List AV} {x y : Int} : X fz d k Q (.if_icmp .gt 4 :: is) ls ((0, y) :: (0, x) :: st) h = ((y < x → G fz d k 4 ls st h Q) ∧ (¬ (y < x) → X fz d k Q is ls st h)) := rfl
theorem x_if_icmp_gt_9 {fz : Int → Int → Option Int} {d k : Nat} {Q : Int → HV → Prop} {is : List Instr} {h : HV} {ls st : List AV} {x y : Int} : X fz d k Q (.if_icmp .gt 9 :: is) ls ((0, y) :: (0, x) :: st) h = ((y < x → G fz d k 9 ls st h Q) ∧ (¬ (y < x) → X fz d k Q is ls st h)) := rfl
theorem x_if_icmp_le_10 {fz : Int → Int → Option Int} {d k : Nat} {Q : Int → HV → Prop} {is : List Instr} {h : HV} {ls st : List AV} {x y : Int} : X fz d k Q (.if_icmp .le 10 :: is) ls ((0, y) :: (0, x) :: st) h = ((x ≤ y → G fz d k 10 ls st h Q) ∧ (¬ (x ≤ y) → X fz d k Q is ls st h)) := rfl
theorem x_if_icmp_le_11 {fz : Int → Int → Option Int} {d k : Nat} {Q : Int → HV → Prop} {is : List Instr} {h : HV} {ls st : List AV} {x y : Int} : X fz d k Q (.if_icmp .le 11 :: is) ls ((0, y) :: (0, x) :: st) h = ((x ≤ y → G fz d k 11 ls st h Q) ∧ (¬ (x ≤ y) → X fz d k Q is ls st h)) := rfl
theorem x_if_icmp_le_13 {fz : Int → Int → Option Int} {d k : Nat} {Q : Int → HV → Prop} {is : List Instr} {h : HV} {ls st : List AV} {x y : Int} : X fz d k Q (.if_icmp .le 13 :: is) ls ((0, y) :: (0, x) :: st) h = ((x ≤ y → G fz d k 13 ls st h Q) ∧ (¬ (x ≤ y) → X fz d k Q is ls st h)) := rfl
theorem x_if_icmp_le_2 {fz : Int → Int → Option Int} {d k : Nat} {Q : Int → HV → Prop} {is : List Instr} {h : HV} {ls st : List AV} {x y : Int} : X fz d k Q (.if_icmp .le 2 :: is) ls ((0, y) :: (0, x) :: st) h = ((x ≤ y → G fz d k 2 ls st h Q) ∧ (¬ (x ≤ y) → X fz d k Q is ls st h)) := rfl
theorem x_if_icmp_le_24 {fz : Int → Int → Option Int} {d k : Nat} {Q : Int → HV → Prop} {is : List Instr} {h : HV} {ls st : List AV} {x y : Int} : X fz d k Q (.if_icmp .le 24 :: is) ls ((0, y) :: (0, x) :: st) h = ((x ≤ y → G fz d k 24 ls st h Q) ∧ (¬ (x ≤ y) → X fz d k Q is ls st h)) := rfl
theorem x_if_icmp_le_3 {fz : Int → Int → Option Int} {d k : Nat} {Q : Int → HV → Prop} {is : List Instr} {h : HV} {ls st : List AV} {x y : Int} : X fz d k Q (.if_icmp .le 3 :: is) ls ((0, y) :: (0, x) :: st) h = ((x ≤ y → G fz d k 3 ls st h Q) ∧ (¬ (x ≤ y) → X fz d k Q is ls st h)) := rfl
theorem x_if_icmp_le_4 {fz : Int → Int → Option Int} {d k : Nat} {Q : Int → HV → Prop} {is : List Instr} {h : HV} {ls st : List AV} {x y : Int} : X fz d k Q (.if_icmp .le 4 :: is) ls ((0, y) :: (0, x) :: st) h = ((x ≤ y → G fz d k 4 ls st h Q) ∧ (¬ (x ≤ y) → X fz d k Q is ls st h)) := rfl
theorem x_if_icmp_le_5 {fz : Int → Int → Option Int} {d k : Nat} {Q : Int → HV → Prop} {is : List Instr} {h : HV} {ls st : List AV} {x y : Int} : X fz d k Q (.if_icmp .le 5 :: is) ls ((0, y) :: (0, x) :: st) h = ((x ≤ y → G fz d k 5 ls st h Q) ∧ (¬ (x ≤ y) → X fz d k Q is ls st h)) := rfl
theorem x_if_icmp_le_7 {fz : Int → Int → Option Int} {d k : Nat} {Q : Int → HV → Prop} {is : List Instr} {h : HV} {ls st : List AV} {x y : Int} : X fz d k Q (.if_icmp .le 7 :: is) ls ((0, y) :: (0, x) :: st) h = ((x ≤ y → G fz d k 7 ls st h Q) ∧ (¬ (x ≤ y) → X fz d k Q is ls st h)) := rfl
theorem x_if_icmp_le_8 {fz : Int → Int → Option Int} {d k : Nat} {Q : Int → HV → Prop} {is : List Instr} {h : HV} {ls st : List AV} {x y : Int} : X fz d k Q (.if_icmp .le 8 :: is) ls ((0, y) :: (0, x) :: st) h = ((x ≤ y → G fz d k 8 ls st h Q) ∧ (¬ (x ≤ y) → X fz d k Q is ls st h)) := rfl
theorem x_if_icmp_lt_1 {fz : Int → Int → Option Int} {d k : Nat} {Q : Int → HV → Prop} {is : List Instr} {h : HV} {ls st : List AV} {x y : Int} : X fz d k Q (.if_icmp .lt 1 :: is) ls ((0, y) :: (0, x) :: st) h = ((x < y → G fz d k 1 ls st h Q) ∧ (¬ (x < y) → X fz d k Q is ls st h)) := rfl
theorem x_if_icmp_lt_11 {fz : Int → Int → Option Int} {d k : Nat} {Q : Int → HV → Prop} {is : List Instr} {h : HV} {ls st : List AV} {x y : Int} : X fz d k Q (.if_icmp .lt 11 :: is) ls ((0, y) :: (0, x) :: st) h = ((x < y → G fz d k 11 ls st h Q) ∧ (¬ (x < y) → X fz d k Q is ls st h)) := rfl
theorem x_if_icmp_lt_2 {fz : Int → Int → Option Int} {d k : Nat} {Q : Int → HV → Prop} {is : List Instr} {h : HV} {ls st : List AV} {x y : Int} : X fz d k Q (.if_icmp .lt 2 :: is) ls ((0, y) :: (0, x) :: st) h = ((x < y → G fz d k 2 ls st h Q) ∧ (¬ (x < y) → X fz d k Q is ls st h)) := rfl
theorem x_if_icmp_lt_3 {fz : Int → Int → Option Int} {d k : Nat} {Q : Int → HV → Prop} {is : List Instr} {h : HV} {ls st : List AV} {x y : Int} : X fz d k Q (.if_icmp .lt 3 :: is) ls ((0, y) :: (0, x) :: st) h = ((x < y → G fz d k 3 ls st h Q) ∧ (¬ (x < y) → X fz d k Q is ls st h)) := rfl
theorem x_if_icmp_lt_4 {fz : Int → Int → Option Int} {d k : Nat} {Q : Int → HV → Prop} {is : List Instr} {h : HV} {ls st : List AV} {x y : Int} : X fz d k Q (.if_icmp .lt 4 :: is) ls ((0, y) :: (0, x) :: st) h = ((x < y → G fz d k 4 ls st h Q) ∧ (¬ (x < y) → X fz d k Q is ls st h)) := rfl
theorem x_if_icmp_lt_5 {fz : Int → Int → Option Int} {d k : Nat} {Q : Int → HV → Prop} {is : List Instr} {h : HV} {ls st : List AV} {x y : Int} : X fz d k Q (.if_icmp .lt 5 :: is) ls ((0, y) :: (0, x) :: st) h = ((x < y → G fz d k 5 ls st h Q) ∧ (¬ (x < y) → X fz d k Q is ls st h)) := rfl
theorem x_if_icmp_lt_6 {fz : Int → Int → Option Int} {d k : Nat} {Q : Int → HV → Prop} {is : List Instr} {h : HV} {ls st : List AV} {x y : Int} : X fz d k Q (.if_icmp .lt 6 :: is) ls ((0, y) :: (0, x) :: st) h = ((x < y → G fz d k 6 ls st h Q) ∧ (¬ (x < y) → X fz d k Q is ls st h)) := rfl
theorem x_if_icmp_lt_7 {fz : Int → Int → Option Int} {d k : Nat} {Q : Int → HV → Prop} {is : List Instr} {h : HV} {ls st : List AV} {x y : Int} : X fz d k Q (.if_icmp .lt 7 :: is) ls ((0, y) :: (0, x) :: st) h = ((x < y → G fz d k 7 ls st h Q) ∧ (¬ (x < y) → X fz d k Q is ls st h)) := rfl
theorem x_if_icmp_ne_1 {fz : Int → Int → Option Int} {d k : Nat} {Q : Int → HV → Prop} {is : List Instr} {h : HV} {ls st : List AV} {x y : Int} : X fz d k Q (.if_icmp .ne 1 :: is) ls ((0, y) :: (0, x) :: st) h = ((x ≠ y → G fz d k 1 ls st h Q) ∧ (¬ (x ≠ y) → X fz d k Q is ls st h)) := rfl
theorem x_if_icmp_ne_10 {fz : Int → Int → Option Int} {d k : Nat} {Q : Int → HV → Prop} {is : List Instr} {h : HV} {ls st : List AV} {x y : Int} : X fz d k Q (.if_icmp .ne 10 :: is) ls ((0, y) :: (0, x) :: st) h = ((x ≠ y → G fz d k 10 ls st h Q) ∧ (¬ (x ≠ y) → X fz d k Q is ls st h)) := rfl
theorem x_if_icmp_ne_11 {fz : Int → Int → Option Int} {d k : Nat} {Q : Int → HV → Prop} {is : List Instr} {h : HV} {ls st : List AV} {x y : Int} : X fz d k Q (.if_icmp .ne 11 :: is) ls ((0, y) :: (0, x) :: st) h = ((x ≠ y → G fz d k 11 ls st h Q) ∧ (¬ (x ≠ y) → X fz d k Q is ls st h)) := rfl
theorem x_if_icmp_ne_12 {fz : Int → Int → Option Int} {d k : Nat} {Q : Int → HV → Prop} {is : List Instr} {h : HV} {ls st : List AV} {x y : Int} : X fz d k Q (.if_icmp .ne 12 :: is) ls ((0, y) :: (0, x) :: st) h = ((x ≠ y → G fz d k 12 ls st h Q) ∧ (¬ (x ≠ y) → X fz d k Q is ls st h)) := rfl
theorem x_if_icmp_ne_13 {fz : Int → Int → Option Int} {d k : Nat} {Q : Int → HV → Prop} {is : List Instr} {h : HV} {ls st : List AV} {x y : Int} : X fz d k Q (.if_icmp .ne 13 :: is) ls ((0, y) :: (0, x) :: st) h = ((x ≠ y → G fz d k 13 ls st h Q) ∧ (¬ (x ≠ y) → X fz d k Q is ls st h)) := rfl
theorem x_if_icmp_ne_14 {fz : Int → Int → Option Int} {d k : Nat} {Q : Int → HV → Prop} {is : List Instr} {h : HV} {ls st : List AV} {x y : Int} : X fz d k Q (.if_icmp .ne 14 :: is) ls ((0, y) :: (0, x) :: st) h = ((x ≠ y → G fz d k 14 ls st h Q) ∧ (¬ (x ≠ y) → X fz d k Q is ls st h)) := rfl
theorem x_if_icmp_ne_15 {fz : Int → Int → Option Int} {d k : Nat} {Q : Int → HV → Prop} {is : List Instr} {h : HV} {ls st : List AV} {x y : Int} : X fz d k Q (.if_icmp .ne 15 :: is) ls ((0, y) :: (0, x) :: st) h = ((x ≠ y → G fz d k 15 ls st h Q) ∧ (¬ (x ≠ y) → X fz d k Q is ls st h)) := rfl
theorem x_if_icmp_ne_16 {fz : Int → Int → Option Int} {d k : Nat} {Q : Int → HV → Prop} {is : List Instr} {h : HV} {ls st : List AV} {x y : Int} : X fz d k Q (.if_icmp .ne 16 :: is) ls ((0, y) :: (0, x) :: st) h = ((x ≠ y → G fz d k 16 ls st h Q) ∧ (¬ (x ≠ y) → X fz d k Q is ls st h)) := rfl
theorem x_if_icmp_ne_17 {fz : Int → Int → Option Int} {d k : Nat} {Q : Int → HV → Prop} {is : List Instr} {h : HV} {ls st : List AV} {x y : Int} : X fz d k Q (.if_icmp .ne 17 :: is) ls ((0, y) :: (0, x) :: st) h = ((x ≠ y → G fz d k 17 ls st h Q) ∧ (¬ (x ≠ y) → X fz d k Q is ls st h)) := rfl
theorem x_if_icmp_ne_18 {fz : Int → Int → Option Int} {d k : Nat} {Q : Int → HV → Prop} {is : List Instr} {h : HV} {ls st : List AV} {x y : Int} : X fz d k Q (.if_icmp .ne 18 :: is) ls ((0, y) :: (0, x) :: st) h = ((x ≠ y → G fz d k 18 ls st h Q) ∧ (¬ (x ≠ y) → X fz d k Q is ls st h)) := rfl
theorem x_if_icmp_ne_19 {fz : Int → Int → Option Int} {d k : Nat} {Q : Int → HV → Prop} {is : List Instr} {h : HV} {ls st : List AV} {x y : Int} : X fz d k Q (.if_icmp .ne 19 :: is) ls ((0, y) :: (0, x) :: st) h = ((x ≠ y → G fz d k 19 ls st h Q) ∧ (¬ (x ≠ y) → X fz d k Q is ls st h)) := rfl
theorem x_if_icmp_ne_2 {fz : Int → Int → Option Int} {d k : Nat} {Q : Int → HV → Prop} {is : List Instr} {h : HV} {ls st : List AV} {x y : Int} : X fz d k Q (.if_icmp .ne 2 :: is) ls ((0, y) :: (0, x) :: st) h = ((x ≠ y → G fz d k 2 ls st h Q) ∧ (¬ (x ≠ y) → X fz d k Q is ls st h)) := rfl
theorem x_if_icmp_ne_20 {fz : Int → Int → Option Int} {d k : Nat} {Q : Int → HV → Prop} {is : List Instr} {h : HV} {ls st : List AV} {x y : Int} : X fz d k Q (.if_icmp .ne 20 :: is) ls ((0, y) :: (0, x) :: st) h = ((x ≠ y → G fz d k 20 ls st h Q) ∧ (¬ (x ≠ y) → X fz d k Q is ls st h)) := rfl
theorem x_if_icmp_ne_21 {fz : Int → Int → Option Int} {d k : Nat} {Q : Int → HV → Prop} {is : List Instr} {h : HV} {ls st : List AV} {x y : Int} : X fz d k Q (.if_icmp .ne 21 :: is) ls ((0, y) :: (0, x) :: st) h = ((x ≠ y → G fz d k 21 ls st h Q) ∧ (¬ (x ≠ y) → X fz d k Q is ls st h)) := rfl
theorem x_if_icmp_ne_22 {fz : Int → Int → Option Int} {d k : Nat} {Q : Int → HV → Prop} {is : List Instr} {h : HV} {ls st : List AV} {x y : Int} : X fz d k Q (.if_icmp .ne 22 :: is) ls ((0, y) :: (0, x) :: st) h = ((x ≠ y → G fz d k 22 ls st h Q) ∧ (¬ (x ≠ y) → X fz d k Q is ls st h)) := rfl
theorem x_if_icmp_ne_24 {fz : Int → Int → Option Int} {d k : Nat} {Q : Int → HV → Prop} {is : List Instr} {h : HV} {ls st : List AV} {x y : Int} : X fz d k Q (.if_icmp .ne 24 :: is) ls ((0, y) :: (0, x) :: st) h = ((x ≠ y → G fz d k 24 ls st h Q) ∧ (¬ (x ≠ y) → X fz d k Q is ls st h)) := rfl
theorem x_if_icmp_ne_25 {fz : Int → Int → Option Int} {d k : Nat} {Q : Int → HV → Prop} {is : List Instr} {h : HV} {ls st : List AV} {x y : Int} : X fz d k Q (.if_icmp .ne 25 :: is) ls ((0, y) :: (0, x) :: st) h = ((x ≠ y → G fz d k 25 ls st h Q) ∧ (¬ (x ≠ y) → X fz d k Q is ls st h)) := rfl
theorem x_if_icmp_ne_26 {fz : Int → Int → Option Int} {d k : Nat} {Q : Int → HV → Prop} {is : List Instr} {h : HV} {ls st : List AV} {x y : Int} : X fz d k Q (.if_icmp .ne 26 :: is) ls ((0, y) :: (0, x) :: st) h = ((x ≠ y → G fz d k 26 ls st h Q) ∧ (¬ (x ≠ y) → X fz d k Q is ls st h)) := rfl
theorem x_if_icmp_ne_28 {fz : Int → Int → Option Int} {d k : Nat} {Q : Int → HV → Prop} {is : List Instr} {h : HV} {ls st : List AV} {x y : Int} : X fz d k Q (.if_icmp .ne 28 :: is) ls ((0, y) :: (0, x) :: st) h = ((x ≠ y → G fz d k 28 ls st h Q) ∧ (¬ (x ≠ y) → X fz d k Q is ls st h)) := rfl
theorem x_if_icmp_ne_29 {fz : Int → Int → Option Int} {d k : Nat} {Q : Int → HV → Prop} {is : List Instr} {h : HV} {ls st : List AV} {x y : Int} : X fz d k Q (.if_icmp .ne 29 :: is) ls ((0, y) :: (0, x) :: st) h = ((x ≠ y → G fz d k 29 ls st h Q) ∧ (¬ (x ≠ y) → X fz d k Q is ls st h)) := rfl
theorem x_if_icmp_ne_3 {fz : Int → Int → Option Int} {d k : Nat} {Q : Int → HV → Prop} {is : List Instr} {h : HV} {ls st : List AV} {x y : Int} : X fz d k Q (.if_icmp .ne 3 :: is) ls ((0, y) :: (0, x) :: st) h = ((x ≠ y → G fz d k 3 ls st h Q) ∧ (¬ (x ≠ y) → X fz d k Q is ls st h)) := rfl
theorem x_if_icmp_ne_30 {fz : Int → Int → Option Int} {d k : Nat} {Q : Int → HV → Prop} {is : List Instr} {h : HV} {ls st : List AV} {x y : Int} : X fz d k Q (.if_icmp .ne 30 :: is) ls ((0, y) :: (0, x) :: st) h = ((x ≠ y → G fz d k 30 ls st h Q) ∧ (¬ (x ≠ y) → X fz d k Q is ls st h)) := rfl
theorem x_if_icmp_ne_31 {fz : Int → Int → Option Int} {d k : Nat} {Q : Int → HV → Prop} {is : List Instr} {h : HV} {ls st : List AV} {x y : Int} : X fz d k Q (.if_icmp .ne 31 :: is) ls ((0, y) :: (0, x) :: st) h = ((x ≠ y → G fz d k 31 ls st h Q) ∧ (¬ (x ≠ y) → X fz d k Q is ls st h)) := rfl
theorem x_if_icmp_ne_32 {fz : Int → Int → Option Int} {d k : Nat} {Q : Int → HV → Prop} {is : List Instr} {h : HV} {ls st : List AV} {x y : Int} : X fz d k Q (.if_icmp .ne 32 :: is) ls ((0, y) :: (0, x) :: st) h = ((x ≠ y → G fz d k 32 ls st h Q) ∧ (¬ (x ≠ y) → X fz d k Q is ls st h)) := rfl
theorem x_if_icmp_ne_4 {fz : Int → Int → Option Int} {d k : Nat} {Q : Int → HV → Prop} {is : List Instr} {h : HV} {ls st : List AV} {x y : Int} : X fz d k Q (.if_icmp .ne 4 :: is) ls ((0, y) :: (0, x) :: st) h = ((x ≠ y → G fz d k 4 ls st h Q) ∧ (¬ (x ≠ y) → X fz d k Q is ls st h)) := rfl
theorem x_if_icmp_ne_5 {fz : Int → Int → Option Int} {d k : Nat} {Q : Int → HV → Prop} {is : List Instr} {h : HV} {ls st : List AV} {x y : Int} : X fz d k Q (.if_icmp .ne 5 :: is) ls ((0, y) :: (0, x) :: st) h = ((x ≠ y → G fz d k 5 ls st h Q) ∧ (¬ (x ≠ y) → X fz d k Q is ls st h)) := rfl
theorem x_if_icmp_ne_6 {fz : Int → Int → Option Int} {d k : Nat} {Q : Int → HV → Prop} {is : List Instr} {h : HV} {ls st : List AV} {x y : Int} : X fz d k Q (.if_icmp .ne 6 :: is) ls ((0, y) :: (0, x) :: st) h = ((x ≠ y → G fz d k 6 ls st h Q) ∧ (¬ (x ≠ y) → X fz d k Q is ls st h)) := rfl
theorem x_if_icmp_ne_7 {fz : Int → Int → Option Int} {d k : Nat} {Q : Int → HV → Prop} {is : List Instr} {h : HV} {ls st : List AV} {x y : Int} : X fz d k Q (.if_icmp .ne 7 :: is) ls ((0, y) :: (0, x) :: st) h = ((x ≠ y → G fz d k 7 ls st h Q) ∧ (¬ (x ≠ y) → X fz d k Q is ls st h)) := rfl
theorem x_if_icmp_ne_8 {fz : Int → Int → Option Int} {d k : Nat} {Q : Int → HV → Prop} {is : List Instr} {h : HV} {ls st : List AV} {x y : Int} : X fz d k Q (.if_icmp .ne 8 :: is) ls ((0, y) :: (0, x) :: st) h = ((x ≠ y → G fz d k 8 ls st h Q) ∧ (¬ (x ≠ y) → X fz d k Q is ls st h)) := rfl
theorem x_if_icmp_ne_9 {fz : Int → Int → Option Int} {d k : Nat} {Q : Int → HV → Prop} {is : List Instr} {h : HV} {ls st : List AV} {x y : Int} : X fz d k Q (.if_icmp .ne 9 :: is) ls ((0, y) :: (0, x) :: st) h = ((x ≠ y → G fz d k 9 ls st h Q) ∧ (¬ (x ≠ y) → X fz d k Q is ls st h)) := rfl
theorem x_iinc1 {fz : Int → Int → Option Int} {d k : Nat} {Q : Int → HV → Prop} {is : List Instr} {h : HV} {a0 : AV} {r st : List AV} {x v : Int} : X fz d k Q (.iinc 1 v :: is) (a0 :: (0, x) :: r) st h = X fz d k Q is (klp 0 a0 :: (0, w32 (x + v)) :: r) st h := rfl
theorem x_iinc10 {fz : Int → Int → Option Int} {d k : Nat} {Q : Int → HV → Prop} {is : List Instr} {h : HV} {a0 a1 a2 a3 a4 a5 a6 a7 a8 a9 : AV} {r st : List AV} {x v : Int} : X fz d k Q (.iinc 10 v :: is) (a0 :: a1 :: a2 :: a3 :: a4 :: a5 :: a6 :: a7 :: a8 :: a9 :: (0, x) :: r) st h = X fz d k Q is (a0 :: a1 :: a2 :: a3 :: a4 :: a5 :: a6 :: a7 :: a8 :: klp 0 a9 :: (0, w32 (x + v)) :: r) st h := rfl
theorem x_iinc11 {fz : Int → Int → Option Int} {d k : Nat} {Q : Int → HV → Prop} {is : List Instr} {h : HV} {a0 a1 a2 a3 a4 a5 a6 a7 a8 a9 a10 : AV} {r st : List AV} {x v : Int} : X fz d k Q (.iinc 11 v :: is) (a0 :: a1 :: a2 :: a3 :: a4 :: a5 :: a6 :: a7 :: a8 :: a9 :: a10 :: (0, x) :: r) st h = X fz d k Q is (a0 :: a1 :: a2 :: a3 :: a4 :: a5 :: a6 :: a7 :: a8 :: a9 :: klp 0 a10 :: (0, w32 (x + v)) :: r) st h := rfl
theorem x_iinc12 {fz : Int → Int → Option Int} {d k : Nat} {Q : Int → HV → Prop} {is : List Instr} {h : HV} {a0 a1 a2 a3 a4 a5 a6 a7 a8 a9 a10 a11 : AV} {r st : List AV} {x v : Int} : X fz d k Q (.iinc 12 v :: is) (a0 :: a1 :: a2 :: a3 :: a4 :: a5 :: a6 :: a7 :: a8 :: a9 :: a10 :: a11 :: (0, x) :: r) st h = X fz d k Q is (a0 :: a1 :: a2 :: a3 :: a4 :: a5 :: a6 :: a7 :: a8 :: a9 :: a10 :: klp 0 a11 :: (0, w32 (x + v)) :: r) st h := rfl
theorem x_iinc2 {fz : Int → Int → Option Int} {d k : Nat} {Q : Int → HV → Prop} {is : List Instr} {h : HV} {a0 a1 : AV} {r st : List AV} {x v : Int} : X fz d k Q (.iinc 2 v :: is) (a0 :: a1 :: (0, x) :: r) st h = X fz d k Q is (a0 :: klp 0 a1 :: (0, w32 (x + v)) :: r) st h := rfl
theorem x_iinc3 {fz : Int → Int → Option Int} {d k : Nat} {Q : Int → HV → Prop} {is : List Instr} {h : HV} {a0 a1 a2 : AV} {r st : List AV} {x v : Int} : X fz d k Q (.iinc 3 v :: is) (a0 :: a1 :: a2 :: (0, x) :: r) st h = X fz d k Q is (a0 :: a1 :: klp 0 a2 :: (0, w32 (x + v)) :: r) st h := rfl
theorem x_iinc4 {fz : Int → Int → Option Int} {d k : Nat} {Q : Int → HV → Prop} {is : List Instr} {h : HV} {a0 a1 a2 a3 : AV} {r st : List AV} {x v : Int} : X fz d k Q (.iinc 4 v :: is) (a0 :: a1 :: a2 :: a3 :: (0, x) :: r) st h = X fz d k Q is (a0 :: a1 :: a2 :: klp 0 a3 :: (0, w32 (x + v)) :: r) st h := rfl
theorem x_iinc5 {fz : Int → Int → Option Int} {d k : Nat} {Q : Int → HV → Prop} {is : List Instr} {h : HV} {a0 a1 a2 a3 a4 : AV} {r st : List AV} {x v : Int} : X fz d k Q (.iinc 5 v :: is) (a0 :: a1 :: a2 :: a3 :: a4 :: (0, x) :: r) st h = X fz d k Q is (a0 :: a1 :: a2 :: a3 :: klp 0 a4 :: (0, w32 (x + v)) :: r) st h := rfl
theorem x_iinc6 {fz : Int → Int → Option Int} {d k : Nat} {Q : Int → HV → Prop} {is : List Instr} {h : HV} {a0 a1 a2 a3 a4 a5 : AV} {r st : List AV} {x v : Int} : X fz d k Q (.iinc 6 v :: is) (a0 :: a1 :: a2 :: a3 :: a4 :: a5 :: (0, x) :: r) st h = X fz d k Q is (a0 :: a1 :: a2 :: a3 :: a4 :: klp 0 a5 :: (0, w32 (x + v)) :: r) st h := rfl
theorem x_iinc7 {fz : Int → Int → Option Int} {d k : Nat} {Q : Int → HV → Prop} {is : List Instr} {h : HV} {a0 a1 a2 a3 a4 a5 a6 : AV} {r st : List AV} {x v : Int} : X fz d k Q (.iinc 7 v :: is) (a0 :: a1 :: a2 :: a3 :: a4 :: a5 :: a6 :: (0, x) :: r) st h = X fz d k Q is (a0 :: a1 :: a2 :: a3 :: a4 :: a5 :: klp 0 a6 :: (0, w32 (x + v)) :: r) st h := rfl
theorem x_iinc8 {fz : Int → Int → Option Int} {d k : Nat} {Q : Int → HV → Prop} {is : List Instr} {h : HV} {a0 a1 a2 a3 a4 a5 a6 a7 : AV} {r st : List AV} {x v : Int} : X fz d k Q (.iinc 8 v :: is) (a0 :: a1 :: a2 :: a3 :: a4 :: a5 :: a6 :: a7 :: (0, x) :: r) st h = X fz d k Q is (a0 :: a1 :: a2 :: a3 :: a4 :: a5 :: a6 :: klp 0 a7 :: (0, w32 (x + v)) :: r) st h := rfl
theorem x_iinc9 {fz : Int → Int → Option Int} {d k : Nat} {Q : Int → HV → Prop} {is : List Instr} {h : HV} {a0 a1 a2 a3 a4 a5 a6 a7 a8 : AV} {r st : List AV} {x v : Int} : X fz d k Q (.iinc 9 v :: is) (a0 :: a1 :: a2 :: a3 :: a4 :: a5 :: a6 :: a7 :: a8 :: (0, x) :: r) st h = X fz d k Q is (a0 :: a1 :: a2 :: a3 :: a4 :: a5 :: a6 :: a7 :: klp 0 a8 :: (0, w32 (x + v)) :: r) st h := rfl
theorem x_iload0 {fz : Int → Int → Option Int} {d k : Nat} {Q : Int → HV → Prop} {is : List Instr} {h : HV} {r st : List AV} {x : Int} : X fz d k Q (.iload 0 :: is) ((0, x) :: r) st h = X fz d k Q is ((0, x) :: r) ((0, x) :: st) h := rfl
theorem x_iload1 {fz : Int → Int → Option Int} {d k : Nat} {Q : Int → HV → Prop} {is : List Instr} {h : HV} {a0 : AV} {r st : List AV} {x : Int} : X fz d k Q (.iload 1 :: is) (a0 :: (0, x) :: r) st h = X fz d k Q is (a0 :: (0, x) :: r) ((0, x) :: st) h := rfl
theorem x_iload10 {fz : Int → Int → Option Int} {d k : Nat} {Q : Int → HV → Prop} {is : List Instr} {h : HV} {a0 a1 a2 a3 a4 a5 a6 a7 a8 a9 : AV} {r st : List AV} {x : Int} : X fz d k Q (.iload 10 :: is) (a0 :: a1 :: a2 :: a3 :: a4 :: a5 :: a6 :: a7 :: a8 :: a9 :: (0, x) :: r) st h = X fz d k Q is (a0 :: a1 :: a2 :: a3 :: a4 :: a5 :: a6 :: a7 :: a8 :: a9 :: (0, x) :: r) ((0, x) :: st) h := rfl
theorem x_iload11 {fz : Int → Int → Option Int} {d k : Nat} {Q : Int → HV → Prop} {is : List Instr} {h : HV} {a0 a1 a2 a3 a4 a5 a6 a7 a8 a9 a10 : AV} {r st : List AV} {x : Int} : X fz d k Q (.iload 11 :: is) (a0 :: a1 :: a2 :: a3 :: a4 :: a5 :: a6 :: a7 :: a8 :: a9 :: a10 :: (0, x) :: r) st h = X fz d k Q is (a0 :: a1 :: a2 :: a3 :: a4 :: a5 :: a6 :: a7 :: a8 :: a9 :: a10 :: (0, x) :: r) ((0, x) :: st) h := rfl
theorem x_iload12 {fz : Int → Int → Option Int} {d k : Nat} {Q : Int → HV → Prop} {is : List Instr} {h : HV} {a0 a1 a2 a3 a4 a5 a6 a7 a8 a9 a10 a11 : AV} {r st : List AV} {x : Int} : X fz d k Q (.iload 12 :: is) (a0 :: a1 :: a2 :: a3 :: a4 :: a5 :: a6 :: a7 :: a8 :: a9 :: a10 :: a11 :: (0, x) :: r) st h = X fz d k Q is (a0 :: a1 :: a2 :: a3 :: a4 :: a5 :: a6 :: a7 :: a8 :: a9 :: a10 :: a11 :: (0, x) :: r) ((0, x) :: st) h := rfl
theorem x_iload16 {fz : Int → Int → Option Int} {d k : Nat} {Q : Int → HV → Prop} {is : List Instr} {h : HV} {a0 a1 a2 a3 a4 a5 a6 a7 a8 a9 a10 a11 a12 a13 a14 a15 : AV} {r st : List AV} {x : Int} : X fz d k Q (.iload 16 :: is) (a0 :: a1 :: a2 :: a3 :: a4 :: a5 :: a6 :: a7 :: a8 :: a9 :: a10 :: a11 :: a12 :: a13 :: a14 :: a15 :: (0, x) :: r) st h = X fz d k Q is (a0 :: a1 :: a2 :: a3 :: a4 :: a5 :: a6 :: a7 :: a8 :: a9 :: a10 :: a11 :: a12 :: a13 :: a14 :: a15 :: (0, x) :: r) ((0, x) :: st) h := rfl
theorem x_iload2 {fz : Int → Int → Option Int} {d k : Nat} {Q : Int → HV → Prop} {is : List Instr} {h : HV} {a0 a1 : AV} {r st : List AV} {x : Int} : X fz d k Q (.iload 2 :: is) (a0 :: a1 :: (0, x) :: r) st h = X fz d k Q is (a0 :: a1 :: (0, x) :: r) ((0, x) :: st) h := rfl
theorem x_iload3 {fz : Int → Int → Option Int} {d k : Nat} {Q : Int → HV → Prop} {is : List Instr} {h : HV} {a0 a1 a2 : AV} {r st : List AV} {x : Int} : X fz d k Q (.iload 3 :: is) (a0 :: a1 :: a2 :: (0, x) :: r) st h = X fz d k Q is (a0 :: a1 :: a2 :: (0, x) :: r) ((0, x) :: st) h := rfl
theorem x_iload4 {fz : Int → Int → Option Int} {d k : Nat} {Q : Int → HV → Prop} {is : List Instr} {h : HV} {a0 a1 a2 a3 : AV} {r st : List AV} {x : Int} : X fz d k Q (.iload 4 :: is) (a0 :: a1 :: a2 :: a3 :: (0, x) :: r) st h = X fz d k Q is (a0 :: a1 :: a2 :: a3 :: (0, x) :: r) ((0, x) :: st) h := rfl
theorem x_iload5 {fz : Int → Int → Option Int} {d k : Nat} {Q : Int → HV → Prop} {is : List Instr} {h : HV} {a0 a1 a2 a3 a4 : AV} {r st : List AV} {x : Int} : X fz d k Q (.iload 5 :: is) (a0 :: a1 :: a2 :: a3 :: a4 :: (0, x) :: r) st h = X fz d k Q is (a0 :: a1 :: a2 :: a3 :: a4 :: (0, x) :: r) ((0, x) :: st) h := rfl
theorem x_iload6 {fz : Int → Int → Option Int} {d k : Nat} {Q : Int → HV → Prop} {is : List Instr} {h : HV} {a0 a1 a2 a3 a4 a5 : AV} {r st : List AV} {x : Int} : X fz d k Q (.iload 6 :: is) (a0 :: a1 :: a2 :: a3 :: a4 :: a5 :: (0, x) :: r) st h = X fz d k Q is (a0 :: a1 :: a2 :: a3 :: a4 :: a5 :: (0, x) :: r) ((0, x) :: st) h := rfl
theorem x_iload7 {fz : Int → Int → Option Int} {d k : Nat} {Q : Int → HV → Prop} {is : List Instr} {h : HV} {a0 a1 a2 a3 a4 a5 a6 : AV} {r st : List AV} {x : Int} : X fz d k Q (.iload 7 :: is) (a0 :: a1 :: a2 :: a3 :: a4 :: a5 :: a6 :: (0, x) :: r) st h = X fz d k Q is (a0 :: a1 :: a2 :: a3 :: a4 :: a5 :: a6 :: (0, x) :: r) ((0, x) :: st) h := rfl
theorem x_iload8 {fz : Int → Int → Option Int} {d k : Nat} {Q : Int → HV → Prop} {is : List Instr} {h : HV} {a0 a1 a2 a3 a4 a5 a6 a7 : AV} {r st : List AV} {x : Int} : X fz d k Q (.iload 8 :: is) (a0 :: a1 :: a2 :: a3 :: a4 :: a5 :: a6 :: a7 :: (0, x) :: r) st h = X fz d k Q is (a0 :: a1 :: a2 :: a3 :: a4 :: a5 :: a6 :: a7 :: (0, x) :: r) ((0, x) :: st) h := rfl
theorem x_iload9 {fz : Int → Int → Option Int} {d k : Nat} {Q : Int → HV → Prop} {is : List Instr} {h : HV} {a0 a1 a2 a3 a4 a5 a6 a7 a8 : AV} {r st : List AV} {x : Int} : X fz d k Q (.iload 9 :: is) (a0 :: a1 :: a2 :: a3 :: a4 :: a5 :: a6 :: a7 :: a8 :: (0, x) :: r) st h = X fz d k Q is (a0 :: a1 :: a2 :: a3 :: a4 :: a5 :: a6 :: a7 :: a8 :: (0, x) :: r) ((0, x) :: st) h := rfl
theorem x_imul {fz : Int → Int → Option Int} {d k : Nat} {Q : Int → HV → Prop} {is : List Instr} {h : HV} {ls st : List AV} {x y : Int} : X fz d k Q (.imul :: is) ls ((0, y) :: (0, x) :: st) h = X fz d k Q is ls ((0, w32 (x * y)) :: st) h := rfl
theorem x_ineg {fz : Int → Int → Option Int} {d k : Nat} {Q : Int → HV → Prop} {is : List Instr} {h : HV} {ls st : List AV} {x : Int} : X fz d k Q (.ineg :: is) ls ((0, x) :: st) h = X fz d k Q is ls ((0, w32 (-x)) :: st) h := rfl
theorem x_ior {fz : Int → Int → Option Int} {d k : Nat} {Q : Int → HV → Prop} {is : List Instr} {h : HV} {ls st : List AV} {x y : Int} : X fz d k Q (.ior :: is) ls ((0, y) :: (0, x) :: st) h = X fz d k Q is ls ((0, i_or x y) :: st) h := rfl
theorem x_irem {fz : Int → Int → Option Int} {d k : Nat} {Q : Int → HV → Prop} {is : List Instr} {h : HV} {ls st : List AV} {x y : Int} : X fz d k Q (.irem :: is) ls ((0, y) :: (0, x) :: st) h = (y ≠ 0 ∧ X fz d k Q is ls ((0, Int.tmod x y) :: st) h) := rfl
theorem x_ireturn {fz : Int → Int → Option Int} {d k : Nat} {Q : Int → HV → Prop} {is : List Instr} {h : HV} {ls : List AV} {x : Int} : X fz d k Q (.ireturn :: is) ls [(0, x)] h = Q x h := rfl
theorem x_ishl {fz : Int → Int → Option Int} {d k : Nat} {Q : Int → HV → Prop} {is : List Instr} {h : HV} {ls st : List AV} {x y : Int} : X fz d k Q (.ishl :: is) ls ((0, y) :: (0, x) :: st) h = X fz d k Q is ls ((0, i_shl x y) :: st) h := rfl
theorem x_ishr {fz : Int → Int → Option Int} {d k : Nat} {Q : Int → HV → Prop} {is : List Instr} {h : HV} {ls st : List AV} {x y : Int} : X fz d k Q (.ishr :: is) ls ((0, y) :: (0, x) :: st) h = X fz d k Q is ls ((0, i_shr x y) :: st) h := rfl
theorem x_istore1 {fz : Int → Int → Option Int} {d k : Nat} {Q : Int → HV → Prop} {is : List Instr} {h : HV} {a0 : AV} {b : AV} {r st : List AV} {x : Int} : X fz d k Q (.istore 1 :: is) (a0 :: b :: r) ((0, x) :: st) h = X fz d k Q is (klp 0 a0 :: (0, x) :: r) st h := rfl
theorem x_istore10 {fz : Int → Int → Option Int} {d k : Nat} {Q : Int → HV → Prop} {is : List Instr} {h : HV} {a0 a1 a2 a3 a4 a5 a6 a7 a8 a9 : AV} {b : AV} {r st : List AV} {x : Int} : X fz d k Q (.istore 10 :: is) (a0 :: a1 :: a2 :: a3 :: a4 :: a5 :: a6 :: a7 :: a8 :: a9 :: b :: r) ((0, x) :: st) h = X fz d k Q is (a0 :: a1 :: a2 :: a3 :: a4 :: a5 :: a6 :: a7 :: a8 :: klp 0 a9 :: (0, x) :: r) st h := rfl
theorem x_istore11 {fz : Int → Int → Option Int} {d k : Nat} {Q : Int → HV → Prop} {is : List Instr} {h : HV} {a0 a1 a2 a3 a4 a5 a6 a7 a8 a9 a10 : AV} {b : AV} {r st : List AV} {x : Int} : X fz d k Q (.istore 11 :: is) (a0 :: a1 :: a2 :: a3 :: a4 :: a5 :: a6 :: a7 :: a8 :: a9 :: a10 :: b :: r) ((0, x) :: st) h = X fz d k Q is (a0 :: a1 :: a2 :: a3 :: a4 :: a5 :: a6 :: a7 :: a8 :: a9 :: klp 0 a10 :: (0, x) :: r) st h := rfl
theorem x_istore12 {fz : Int → Int → Option Int} {d k : Nat} {Q : Int → HV → Prop} {is : List Instr} {h : HV} {a0 a1 a2 a3 a4 a5 a6 a7 a8 a9 a10 a11 : AV} {b : AV} {r st : List AV} {x : Int} : X fz d k Q (.istore 12 :: is) (a0 :: a1 :: a2 :: a3 :: a4 :: a5 :: a6 :: a7 :: a8 :: a9 :: a10 :: a11 :: b :: r) ((0, x) :: st) h = X fz d k Q is (a0 :: a1 :: a2 :: a3 :: a4 :: a5 :: a6 :: a7 :: a8 :: a9 :: a10 :: klp 0 a11 :: (0, x) :: r) st h := rfl
theorem x_istore16 {fz : Int → Int → Option Int} {d k : Nat} {Q : Int → HV → Prop} {is : List Instr} {h : HV} {a0 a1 a2 a3 a4 a5 a6 a7 a8 a9 a10 a11 a12 a13 a14 a15 : AV} {b : AV} {r st : List AV} {x : Int} : X fz d k Q (.istore 16 :: is) (a0 :: a1 :: a2 :: a3 :: a4 :: a5 :: a6 :: a7 :: a8 :: a9 :: a10 :: a11 :: a12 :: a13 :: a14 :: a15 :: b :: r) ((0, x) :: st) h = X fz d k Q is (a0 :: a1 :: a2 :: a3 :: a4 :: a5 :: a6 :: a7 :: a8 :: a9 :: a10 :: a11 :: a12 :: a13 :: a14 :: klp 0 a15 :: (0, x) :: r) st h := rfl
theorem x_istore2 {fz : Int → Int → Option Int} {d k : Nat} {Q : Int → HV → Prop} {is : List Instr} {h : HV} {a0 a1 : AV} {b : AV} {r st : List AV} {x : Int} : X fz d k Q (.istore 2 :: is) (a0 :: a1 :: b :: r) ((0, x) :: st) h = X fz d k Q is (a0 :: klp 0 a1 :: (0, x) :: r) st h := rfl
theorem x_istore3 {fz : Int → Int → Option Int} {d k : Nat} {Q : Int → HV → Prop} {is : List Instr} {h : HV} {a0 a1 a2 : AV} {b : AV} {r st : List AV} {x : Int} : X fz d k Q (.istore 3 :: is) (a0 :: a1 :: a2 :: b :: r) ((0, x) :: st) h = X fz d k Q is (a0 :: a1 :: klp 0 a2 :: (0, x) :: r) st h := rfl
theorem x_istore4 {fz : Int → Int → Option Int} {d k : Nat} {Q : Int → HV → Prop} {is : List Instr} {h : HV} {a0 a1 a2 a3 : AV} {b : AV} {r st : List AV} {x : Int} : X fz d k Q (.istore 4 :: is) (a0 :: a1 :: a2 :: a3 :: b :: r) ((0, x) :: st) h = X fz d k Q is (a0 :: a1 :: a2 :: klp 0 a3 :: (0, x) :: r) st h := rfl
theorem x_istore5 {fz : Int → Int → Option Int} {d k : Nat} {Q : Int → HV → Prop} {is : List Instr} {h : HV} {a0 a1 a2 a3 a4 : AV} {b : AV} {r st : List AV} {x : Int} : X fz d k Q (.istore 5 :: is) (a0 :: a1 :: a2 :: a3 :: a4 :: b :: r) ((0, x) :: st) h = X fz d k Q is (a0 :: a1 :: a2 :: a3 :: klp 0 a4 :: (0, x) :: r) st h := rfl
theorem x_istore6 {fz : Int → Int → Option Int} {d k : Nat} {Q : Int → HV → Prop} {is : List Instr} {h : HV} {a0 a1 a2 a3 a4 a5 : AV} {b : AV} {r st : List AV} {x : Int} : X fz d k Q (.istore 6 :: is) (a0 :: a1 :: a2 :: a3 :: a4 :: a5 :: b :: r) ((0, x) :: st) h = X fz d k Q is (a0 :: a1 :: a2 :: a3 :: a4 :: klp 0 a5 :: (0, x) :: r) st h := rfl
theorem x_istore7 {fz : Int → Int → Option Int} {d k : Nat} {Q : Int → HV → Prop} {is : List Instr} {h : HV} {a0 a1 a2 a3 a4 a5 a6 : AV} {b : AV} {r st : List AV} {x : Int} : X fz d k Q (.istore 7 :: is) (a0 :: a1 :: a2 :: a3 :: a4 :: a5 :: a6 :: b :: r) ((0, x) :: st) h = X fz d k Q is (a0 :: a1 :: a2 :: a3 :: a4 :: a5 :: klp 0 a6 :: (0, x) :: r) st h := rfl
theorem x_istore8 {fz : Int → Int → Option Int} {d k : Nat} {Q : Int → HV → Prop} {is : List Instr} {h : HV} {a0 a1 a2 a3 a4 a5 a6 a7 : AV} {b : AV} {r st : List AV} {x : Int} : X fz d k Q (.istore 8 :: is) (a0 :: a1 :: a2 :: a3 :: a4 :: a5 :: a6 :: a7 :: b :: r) ((0, x) :: st) h = X fz d k Q is (a0 :: a1 :: a2 :: a3 :: a4 :: a5 :: a6 :: klp 0 a7 :: (0, x) :: r) st h := rfl
theorem x_istore9 {fz : Int → Int → Option Int} {d k : Nat} {Q : Int → HV → Prop} {is : List Instr} {h : HV} {a0 a1 a2 a3 a4 a5 a6 a7 a8 : AV} {b : AV} {r st : List AV} {x : Int} : X fz d k Q (.istore 9 :: is) (a0 :: a1 :: a2 :: a3 :: a4 :: a5 :: a6 :: a7 :: a8 :: b :: r) ((0, x) :: st) h = X fz d k Q is (a0 :: a1 :: a2 :: a3 :: a4 :: a5 :: a6 :: a7 :: klp 0 a8 :: (0, x) :: r) st h := rfl
theorem x_isub {fz : Int → Int → Option Int} {d k : Nat} {Q : Int → HV → Prop} {is : List Instr} {h : HV} {ls st : List AV} {x y : Int} : X fz d k Q (.isub :: is) ls ((0, y) :: (0, x) :: st) h = X fz d k Q is ls ((0, w32 (x - y)) :: st) h := rfl
theorem x_iushr {fz : Int → Int → Option Int} {d k : Nat} {Q : Int → HV → Prop} {is : List Instr} {h : HV} {ls st : List AV} {x y : Int} : X fz d k Q (.iushr :: is) ls ((0, y) :: (0, x) :: st) h = X fz d k Q is ls ((0, i_ushr x y) :: st) h := rfl
theorem x_ixor {fz : Int → Int → Option Int} {d k : Nat} {Q : Int → HV → Prop} {is : List Instr} {h : HV} {ls st : List AV} {x y : Int} : X fz d k Q (.ixor :: is) ls ((0, y) :: (0, x) :: st) h = X fz d k Q is ls ((0, i_xor x y) :: st) h := rfl
theorem x_jsr {fz : Int → Int → Option Int} {d k : Nat} {Q : Int → HV → Prop} {is : List Instr} {h : HV} {ls st : List AV} {v : Int} : X fz d k Q (.jsr v :: is) ls st h = X fz d k Q is ls ((3, v) :: st) h := rfl
theorem x_l2d {fz : Int → Int → Option Int} {d k : Nat} {Q : Int → HV → Prop} {is : List Instr} {h : HV} {ls st : List AV} {x : Int} : X fz d k Q (.l2d :: is) ls ((1, x) :: st) h = X fz d k Q is ls ((2, d_I (FP.l2d (Int64.ofInt x))) :: st) h := rfl
theorem x_l2i {fz : Int → Int → Option Int} {d k : Nat} {Q : Int → HV → Prop} {is : List Instr} {h : HV} {ls st : List AV} {x : Int} : X fz d k Q (.l2i :: is) ls ((1, x) :: st) h = X fz d k Q is ls ((0, w32 x) :: st) h := rfl
theorem x_ladd {fz : Int → Int → Option Int} {d k : Nat} {Q : Int → HV → Prop} {is : List Instr} {h : HV} {ls st : List AV} {x y : Int} : X fz d k Q (.ladd :: is) ls ((1, y) :: (1, x) :: st) h = X fz d k Q is ls ((1, w64 (x + y)) :: st) h := rfl
theorem x_laload {fz : Int → Int → Option Int} {d k : Nat} {Q : Int → HV → Prop} {is : List Instr} {h : HV} {ls st : List AV} {o i : Int} : X fz d k Q (.laload :: is) ls ((0, i) :: (3, o) :: st) h = ((o % 64 = 33 ∧ 0 ≤ i ∧ i < rd fz h o (-1)) ∧ X fz d k Q is ls ((1, h o i) :: st) h) := rfl
theorem x_land {fz : Int → Int → Option Int} {d k : Nat} {Q : Int → HV → Prop} {is : List Instr} {h : HV} {ls st : List AV} {x y : Int} : X fz d k Q (.land :: is) ls ((1, y) :: (1, x) :: st) h = X fz d k Q is ls ((1, l_and x y) :: st) h := rfl
theorem x_lastore {fz : Int → Int → Option Int} {d k : Nat} {Q : Int → HV → Prop} {is : List Instr} {h : HV} {ls st : List AV} {o i x : Int} : X fz d k Q (.lastore :: is) ls ((1, x) :: (0, i) :: (3, o) :: st) h = ((o % 64 = 33 ∧ 0 ≤ i ∧ i < rd fz h o (-1)) ∧ X fz d k Q is ls st (hset h o i x)) := rfl
theorem x_lcmp {fz : Int → Int → Option Int} {d k : Nat} {Q : Int → HV → Prop} {is : List Instr} {h : HV} {ls st : List AV} {x y : Int} : X fz d k Q (.lcmp :: is) ls ((1, y) :: (1, x) :: st) h = X fz d k Q is ls ((0, l_cmp x y) :: st) h := rfl
theorem x_ldiv {fz : Int → Int → Option Int} {d k : Nat} {Q : Int → HV → Prop} {is : List Instr} {h : HV} {ls st : List AV} {x y : Int} : X fz d k Q (.ldiv :: is) ls ((1, y) :: (1, x) :: st) h = (y ≠ 0 ∧ X fz d k Q is ls ((1, w64 (Int.tdiv x y)) :: st) h) := rfl
theorem x_lload0 {fz : Int → Int → Option Int} {d k : Nat} {Q : Int → HV → Prop} {is : List Instr} {h : HV} {r st : List AV} {x : Int} : X fz d k Q (.lload 0 :: is) ((1, x) :: r) st h = X fz d k Q is ((1, x) :: r) ((1, x) :: st) h := rfl
theorem x_lload1 {fz : Int → Int → Option Int} {d k : Nat} {Q : Int → HV → Prop} {is : List Instr} {h : HV} {a0 : AV} {r st : List AV} {x : Int} : X fz d k Q (.lload 1 :: is) (a0 :: (1, x) :: r) st h = X fz d k Q is (a0 :: (1, x) :: r) ((1, x) :: st) h := rfl
theorem x_lload10 {fz : Int → Int → Option Int} {d k : Nat} {Q : Int → HV → Prop} {is : List Instr} {h : HV} {a0 a1 a2 a3 a4 a5 a6 a7 a8 a9 : AV} {r st : List AV} {x : Int} : X fz d k Q (.lload 10 :: is) (a0 :: a1 :: a2 :: a3 :: a4 :: a5 :: a6 :: a7 :: a8 :: a9 :: (1, x) :: r) st h = X fz d k Q is (a0 :: a1 :: a2 :: a3 :: a4 :: a5 :: a6 :: a7 :: a8 :: a9 :: (1, x) :: r) ((1, x) :: st) h := rfl
theorem x_lload12 {fz : Int → Int → Option Int} {d k : Nat} {Q : Int → HV → Prop} {is : List Instr} {h : HV} {a0 a1 a2 a3 a4 a5 a6 a7 a8 a9 a10 a11 : AV} {r st : List AV} {x : Int} : X fz d k Q (.lload 12 :: is) (a0 :: a1 :: a2 :: a3 :: a4 :: a5 :: a6 :: a7 :: a8 :: a9 :: a10 :: a11 :: (1, x) :: r) st h = X fz d k Q is (a0 :: a1 :: a2 :: a3 :: a4 :: a5 :: a6 :: a7 :: a8 :: a9 :: a10 :: a11 :: (1, x) :: r) ((1, x) :: st) h := rfl
theorem x_lload14 {fz : Int → Int → Option Int} {d k : Nat} {Q : Int → HV → Prop} {is : List Instr} {h : HV} {a0 a1 a2 a3 a4 a5 a6 a7 a8 a9 a10 a11 a12 a13 : AV} {r st : List AV} {x : Int} : X fz d k Q (.lload 14 :: is) (a0 :: a1 :: a2 :: a3 :: a4 :: a5 :: a6 :: a7 :: a8 :: a9 :: a10 :: a11 :: a12 :: a13 :: (1, x) :: r) st h = X fz d k Q is (a0 :: a1 :: a2 :: a3 :: a4 :: a5 :: a6 :: a7 :: a8 :: a9 :: a10 :: a11 :: a12 :: a13 :: (1, x) :: r) ((1, x) :: st) h := rfl
theorem x_lload2 {fz : Int → Int → Option Int} {d k : Nat} {Q : Int → HV → Prop} {is : List Instr} {h : HV} {a0 a1 : AV} {r st : List AV} {x : Int} : X fz d k Q (.lload 2 :: is) (a0 :: a1 :: (1, x) :: r) st h = X fz d k Q is (a0 :: a1 :: (1, x) :: r) ((1, x) :: st) h := rfl
theorem x_lload3 {fz : Int → Int → Option Int} {d k : Nat} {Q : Int → HV → Prop} {is : List Instr} {h : HV} {a0 a1 a2 : AV} {r st : List AV} {x : Int} : X fz d k Q (.lload 3 :: is) (a0 :: a1 :: a2 :: (1, x) :: r) st h = X fz d k Q is (a0 :: a1 :: a2 :: (1, x) :: r) ((1, x) :: st) h := rfl
theorem x_lload4 {fz : Int → Int → Option Int} {d k : Nat} {Q : Int → HV → Prop} {is : List Instr} {h : HV} {a0 a1 a2 a3 : AV} {r st : List AV} {x : Int} : X fz d k Q (.lload 4 :: is) (a0 :: a1 :: a2 :: a3 :: (1, x) :: r) st h = X fz d k Q is (a0 :: a1 :: a2 :: a3 :: (1, x) :: r) ((1, x) :: st) h := rfl
theorem x_lload5 {fz : Int → Int → Option Int} {d k : Nat} {Q : Int → HV → Prop} {is : List Instr} {h : HV} {a0 a1 a2 a3 a4 : AV} {r st : List AV} {x : Int} : X fz d k Q (.lload 5 :: is) (a0 :: a1 :: a2 :: a3 :: a4 :: (1, x) :: r) st h = X fz d k Q is (a0 :: a1 :: a2 :: a3 :: a4 :: (1, x) :: r) ((1, x) :: st) h := rfl
theorem x_lload6 {fz : Int → Int → Option Int} {d k : Nat} {Q : Int → HV → Prop} {is : List Instr} {h : HV} {a0 a1 a2 a3 a4 a5 : AV} {r st : List AV} {x : Int} : X fz d k Q (.lload 6 :: is) (a0 :: a1 :: a2 :: a3 :: a4 :: a5 :: (1, x) :: r) st h = X fz d k Q is (a0 :: a1 :: a2 :: a3 :: a4 :: a5 :: (1, x) :: r) ((1, x) :: st) h := rfl
theorem x_lload7 {fz : Int → Int → Option Int} {d k : Nat} {Q : Int → HV → Prop} {is : List Instr} {h : HV} {a0 a1 a2 a3 a4 a5 a6 : AV} {r st : List AV} {x : Int} : X fz d k Q (.lload 7 :: is) (a0 :: a1 :: a2 :: a3 :: a4 :: a5 :: a6 :: (1, x) :: r) st h = X fz d k Q is (a0 :: a1 :: a2 :: a3 :: a4 :: a5 :: a6 :: (1, x) :: r) ((1, x) :: st) h := rfl
theorem x_lload8 {fz : Int → Int → Option Int} {d k : Nat} {Q : Int → HV → Prop} {is : List Instr} {h : HV} {a0 a1 a2 a3 a4 a5 a6 a7 : AV} {r st : List AV} {x : Int} : X fz d k Q (.lload 8 :: is) (a0 :: a1 :: a2 :: a3 :: a4 :: a5 :: a6 :: a7 :: (1, x) :: r) st h = X fz d k Q is (a0 :: a1 :: a2 :: a3 :: a4 :: a5 :: a6 :: a7 :: (1, x) :: r) ((1, x) :: st) h := rfl
theorem x_lload9 {fz : Int → Int → Option Int} {d k : Nat} {Q : Int → HV → Prop} {is : List Instr} {h : HV} {a0 a1 a2 a3 a4 a5 a6 a7 a8 : AV} {r st : List AV} {x : Int} : X fz d k Q (.lload 9 :: is) (a0 :: a1 :: a2 :: a3 :: a4 :: a5 :: a6 :: a7 :: a8 :: (1, x) :: r) st h = X fz d k Q is (a0 :: a1 :: a2 :: a3 :: a4 :: a5 :: a6 :: a7 :: a8 :: (1, x) :: r) ((1, x) :: st) h := rfl
theorem x_lmul {fz : Int → Int → Option Int} {d k : Nat} {Q : Int → HV → Prop} {is : List Instr} {h : HV} {ls st : List AV} {x y : Int} : X fz d k Q (.lmul :: is) ls ((1, y) :: (1, x) :: st) h = X fz d k Q is ls ((1, w64 (x * y)) :: st) h := rfl
theorem x_lneg {fz : Int → Int → Option Int} {d k : Nat} {Q : Int → HV → Prop} {is : List Instr} {h : HV} {ls st : List AV} {x : Int} : X fz d k Q (.lneg :: is) ls ((1, x) :: st) h = X fz d k Q is ls ((1, w64 (-x)) :: st) h := rfl
theorem x_lor {fz : Int → Int → Option Int} {d k : Nat} {Q : Int → HV → Prop} {is : List Instr} {h : HV} {ls st : List AV} {x y : Int} : X fz d k Q (.lor :: is) ls ((1, y) :: (1, x) :: st) h = X fz d k Q is ls ((1, l_or x y) :: st) h := rfl
theorem x_lrem {fz : Int → Int → Option Int} {d k : Nat} {Q : Int → HV → Prop} {is : List Instr} {h : HV} {ls st : List AV} {x y : Int} : X fz d k Q (.lrem :: is) ls ((1, y) :: (1, x) :: st) h = (y ≠ 0 ∧ X fz d k Q is ls ((1, Int.tmod x y) :: st) h) := rfl
theorem x_lreturn {fz : Int → Int → Option Int} {d k : Nat} {Q : Int → HV → Prop} {is : List Instr} {h : HV} {ls : List AV} {x : Int} : X fz d k Q (.lreturn :: is) ls [(1, x)] h = Q x h := rfl
theorem x_lshl {fz : Int → Int → Option Int} {d k : Nat} {Q : Int → HV → Prop} {is : List Instr} {h : HV} {ls st : List AV} {x y : Int} : X fz d k Q (.lshl :: is) ls ((0, y) :: (1, x) :: st) h = X fz d k Q is ls ((1, l_shl x y) :: st) h := rfl
theorem x_lshr {fz : Int → Int → Option Int} {d k : Nat} {Q : Int → HV → Prop} {is : List Instr} {h : HV} {ls st : List AV} {x y : Int} : X fz d k Q (.lshr :: is) ls ((0, y) :: (1, x) :: st) h = X fz d k Q is ls ((1, l_shr x y) :: st) h := rfl
theorem x_lstore1 {fz : Int → Int → Option Int} {d k : Nat} {Q : Int → HV → Prop} {is : List Instr} {h : HV} {a0 : AV} {b c : AV} {r st : List AV} {x : Int} : X fz d k Q (.lstore 1 :: is) (a0 :: b :: c :: r) ((1, x) :: st) h = X fz d k Q is (klp 0 a0 :: (1, x) :: (9, 0) :: r) st h := rfl
theorem x_lstore10 {fz : Int → Int → Option Int} {d k : Nat} {Q : Int → HV → Prop} {is : List Instr} {h : HV} {a0 a1 a2 a3 a4 a5 a6 a7 a8 a9 : AV} {b c : AV} {r st : List AV} {x : Int} : X fz d k Q (.lstore 10 :: is) (a0 :: a1 :: a2 :: a3 :: a4 :: a5 :: a6 :: a7 :: a8 :: a9 :: b :: c :: r) ((1, x) :: st) h = X fz d k Q is (a0 :: a1 :: a2 :: a3 :: a4 :: a5 :: a6 :: a7 :: a8 :: klp 0 a9 :: (1, x) :: (9, 0) :: r) st h := rfl
theorem x_lstore12 {fz : Int → Int → Option Int} {d k : Nat} {Q : Int → HV → Prop} {is : List Instr} {h : HV} {a0 a1 a2 a3 a4 a5 a6 a7 a8 a9 a10 a11 : AV} {b c : AV} {r st : List AV} {x : Int} : X fz d k Q (.lstore 12 :: is) (a0 :: a1 :: a2 :: a3 :: a4 :: a5 :: a6 :: a7 :: a8 :: a9 :: a10 :: a11 :: b :: c :: r) ((1, x) :: st) h = X fz d k Q is (a0 :: a1 :: a2 :: a3 :: a4 :: a5 :: a6 :: a7 :: a8 :: a9 :: a10 :: klp 0 a11 :: (1, x) :: (9, 0) :: r) st h := rfl
theorem x_lstore14 {fz : Int → Int → Option Int} {d k : Nat} {Q : Int → HV → Prop} {is : List Instr} {h : HV} {a0 a1 a2 a3 a4 a5 a6 a7 a8 a9 a10 a11 a12 a13 : AV} {b c : AV} {r st : List AV} {x : Int} : X fz d k Q (.lstore 14 :: is) (a0 :: a1 :: a2 :: a3 :: a4 :: a5 :: a6 :: a7 :: a8 :: a9 :: a10 :: a11 :: a12 :: a13 :: b :: c :: r) ((1, x) :: st) h = X fz d k Q is (a0 :: a1 :: a2 :: a3 :: a4 :: a5 :: a6 :: a7 :: a8 :: a9 :: a10 :: a11 :: a12 :: klp 0 a13 :: (1, x) :: (9, 0) :: r) st h := rfl
theorem x_lstore2 {fz : Int → Int → Option Int} {d k : Nat} {Q : Int → HV → Prop} {is : List Instr} {h : HV} {a0 a1 : AV} {b c : AV} {r st : List AV} {x : Int} : X fz d k Q (.lstore 2 :: is) (a0 :: a1 :: b :: c :: r) ((1, x) :: st) h = X fz d k Q is (a0 :: klp 0 a1 :: (1, x) :: (9, 0) :: r) st h := rfl
theorem x_lstore3 {fz : Int → Int → Option Int} {d k : Nat} {Q : Int → HV → Prop} {is : List Instr} {h : HV} {a0 a1 a2 : AV} {b c : AV} {r st : List AV} {x : Int} : X fz d k Q (.lstore 3 :: is) (a0 :: a1 :: a2 :: b :: c :: r) ((1, x) :: st) h = X fz d k Q is (a0 :: a1 :: klp 0 a2 :: (1, x) :: (9, 0) :: r) st h := rfl
theorem x_lstore4 {fz : Int → Int → Option Int} {d k : Nat} {Q : Int → HV → Prop} {is : List Instr} {h : HV} {a0 a1 a2 a3 : AV} {b c : AV} {r st : List AV} {x : Int} : X fz d k Q (.lstore 4 :: is) (a0 :: a1 :: a2 :: a3 :: b :: c :: r) ((1, x) :: st) h = X fz d k Q is (a0 :: a1 :: a2 :: klp 0 a3 :: (1, x) :: (9, 0) :: r) st h := rfl
theorem x_lstore5 {fz : Int → Int → Option Int} {d k : Nat} {Q : Int → HV → Prop} {is : List Instr} {h : HV} {a0 a1 a2 a3 a4 : AV} {b c : AV} {r st : List AV} {x : Int} : X fz d k Q (.lstore 5 :: is) (a0 :: a1 :: a2 :: a3 :: a4 :: b :: c :: r) ((1, x) :: st) h = X fz d k Q is (a0 :: a1 :: a2 :: a3 :: klp 0 a4 :: (1, x) :: (9, 0) :: r) st h := rfl
theorem x_lstore6 {fz : Int → Int → Option Int} {d k : Nat} {Q : Int → HV → Prop} {is : List Instr} {h : HV} {a0 a1 a2 a3 a4 a5 : AV} {b c : AV} {r st : List AV} {x : Int} : X fz d k Q (.lstore 6 :: is) (a0 :: a1 :: a2 :: a3 :: a4 :: a5 :: b :: c :: r) ((1, x) :: st) h = X fz d k Q is (a0 :: a1 :: a2 :: a3 :: a4 :: klp 0 a5 :: (1, x) :: (9, 0) :: r) st h := rfl
theorem x_lstore7 {fz : Int → Int → Option Int} {d k : Nat} {Q : Int → HV → Prop} {is : List Instr} {h : HV} {a0 a1 a2 a3 a4 a5 a6 : AV} {b c : AV} {r st : List AV} {x : Int} : X fz d k Q (.lstore 7 :: is) (a0 :: a1 :: a2 :: a3 :: a4 :: a5 :: a6 :: b :: c :: r) ((1, x) :: st) h = X fz d k Q is (a0 :: a1 :: a2 :: a3 :: a4 :: a5 :: klp 0 a6 :: (1, x) :: (9, 0) :: r) st h := rfl
theorem x_lstore8 {fz : Int → Int → Option Int} {d k : Nat} {Q : Int → HV → Prop} {is : List Instr} {h : HV} {a0 a1 a2 a3 a4 a5 a6 a7 : AV} {b c : AV} {r st : List AV} {x : Int} : X fz d k Q (.lstore 8 :: is) (a0 :: a1 :: a2 :: a3 :: a4 :: a5 :: a6 :: a7 :: b :: c :: r) ((1, x) :: st) h = X fz d k Q is (a0 :: a1 :: a2 :: a3 :: a4 :: a5 :: a6 :: klp 0 a7 :: (1, x) :: (9, 0) :: r) st h := rfl
theorem x_lstore9 {fz : Int → Int → Option Int} {d k : Nat} {Q : Int → HV → Prop} {is : List Instr} {h : HV} {a0 a1 a2 a3 a4 a5 a6 a7 a8 : AV} {b c : AV} {r st : List AV} {x : Int} : X fz d k Q (.lstore 9 :: is) (a0 :: a1 :: a2 :: a3 :: a4 :: a5 :: a6 :: a7 :: a8 :: b :: c :: r) ((1, x) :: st) h = X fz d k Q is (a0 :: a1 :: a2 :: a3 :: a4 :: a5 :: a6 :: a7 :: klp 0 a8 :: (1, x) :: (9, 0) :: r) st h := rfl
theorem x_lsub {fz : Int → Int → Option Int} {d k : Nat} {Q : Int → HV → Prop} {is : List Instr} {h : HV} {ls st : List AV} {x y : Int} : X fz d k Q (.lsub :: is) ls ((1, y) :: (1, x) :: st) h = X fz d k Q is ls ((1, w64 (x - y)) :: st) h := rfl
theorem x_lushr {fz : Int → Int → Option Int} {d k : Nat} {Q : Int → HV → Prop} {is : List Instr} {h : HV} {ls st : List AV} {x y : Int} : X fz d k Q (.lushr :: is) ls ((0, y) :: (1, x) :: st) h = X fz d k Q is ls ((1, l_ushr x y) :: st) h := rfl
theorem x_lxor {fz : Int → Int → Option Int} {d k : Nat} {Q : Int → HV → Prop} {is : List Instr} {h : HV} {ls st : List AV} {x y : Int} : X fz d k Q (.lxor :: is) ls ((1, y) :: (1, x) :: st) h = X fz d k Q is ls ((1, l_xor x y) :: st) h := rfl
theorem x_mna {fz : Int → Int → Option Int} {d k : Nat} {Q : Int → HV → Prop} {is : List Instr} {h : HV} {ls st : List AV} {n k0 : Int} : X fz d k Q (.multianewarray 37 2 :: is) ls ((0, k0) :: (0, n) :: st) h = ((0 ≤ n ∧ n ≤ 1000 ∧ 0 ≤ k0 ∧ k0 ≤ 1000 ∧ ∀ o i, h 0 0 ≤ o / 64 → fz o i = none) ∧ X fz d k Q is ls ((3, 64 * h 0 0 + 37) :: st) (alc2 h n k0)) := rfl
theorem x_new_0 {fz : Int → Int → Option Int} {d k : Nat} {Q : Int → HV → Prop} {is : List Instr} {h : HV} {ls st : List AV} : X fz d k Q (.goto_w 17 :: is) ls st h = ((∀ i, fz (64 * h 0 0 + 0) i = none) ∧ X fz d k Q is ls ((3, 64 * h 0 0 + 0) :: st) (alc h 0 0 17)) := rfl
theorem x_new_1 {fz : Int → Int → Option Int} {d k : Nat} {Q : Int → HV → Prop} {is : List Instr} {h : HV} {ls st : List AV} : X fz d k Q (.goto_w 138 :: is) ls st h = ((∀ i, fz (64 * h 0 0 + 1) i = none) ∧ X fz d k Q is ls ((3, 64 * h 0 0 + 1) :: st) (alc h 1 0 10)) := rfl
theorem x_new_10 {fz : Int → Int → Option Int} {d k : Nat} {Q : Int → HV → Prop} {is : List Instr} {h : HV} {ls st : List AV} : X fz d k Q (.goto_w 1298 :: is) ls st h = ((∀ i, fz (64 * h 0 0 + 10) i = none) ∧ X fz d k Q is ls ((3, 64 * h 0 0 + 10) :: st) (alc h 10 0 18)) := rfl
theorem x_new_11 {fz : Int → Int → Option Int} {d k : Nat} {Q : Int → HV → Prop} {is : List Instr} {h : HV} {ls st : List AV} : X fz d k Q (.goto_w 1503 :: is) ls st h = ((∀ i, fz (64 * h 0 0 + 11) i = none) ∧ X fz d k Q is ls ((3, 64 * h 0 0 + 11) :: st) (alc h 11 0 95)) := rfl
theorem x_new_12 {fz : Int → Int → Option Int} {d k : Nat} {Q : Int → HV → Prop} {is : List Instr} {h : HV} {ls st : List AV} : X fz d k Q (.goto_w 1561 :: is) ls st h = ((∀ i, fz (64 * h 0 0 + 12) i = none) ∧ X fz d k Q is ls ((3, 64 * h 0 0 + 12) :: st) (alc h 12 0 25)) := rfl
theorem x_new_2 {fz : Int → Int → Option Int} {d k : Nat} {Q : Int → HV → Prop} {is : List Instr} {h : HV} {ls st : List AV} : X fz d k Q (.goto_w 267 :: is) ls st h = ((∀ i, fz (64 * h 0 0 + 2) i = none) ∧ X fz d k Q is ls ((3, 64 * h 0 0 + 2) :: st) (alc h 2 0 11)) := rfl
theorem x_new_3 {fz : Int → Int → Option Int} {d k : Nat} {Q : Int → HV → Prop} {is : List Instr} {h : HV} {ls st : List AV} : X fz d k Q (.goto_w 388 :: is) ls st h = ((∀ i, fz (64 * h 0 0 + 3) i = none) ∧ X fz d k Q is ls ((3, 64 * h 0 0 + 3) :: st) (alc h 3 0 4)) := rfl
theorem x_new_32 {fz : Int → Int → Option Int} {d k : Nat} {Q : Int → HV → Prop} {is : List Instr} {h : HV} {ls st : List AV} {n : Int} : X fz d k Q (.newarray .int :: is) ls ((0, n) :: st) h = ((0 ≤ n ∧ n ≤ 67000000 ∧ ∀ i, fz (64 * h 0 0 + 32) i = none) ∧ X fz d k Q is ls ((3, 64 * h 0 0 + 32) :: st) (alc h 32 n n)) := rfl
theorem x_new_33 {fz : Int → Int → Option Int} {d k : Nat} {Q : Int → HV → Prop} {is : List Instr} {h : HV} {ls st : List AV} {n : Int} : X fz d k Q (.newarray .long :: is) ls ((0, n) :: st) h = ((0 ≤ n ∧ n ≤ 67000000 ∧ ∀ i, fz (64 * h 0 0 + 33) i = none) ∧ X fz d k Q is ls ((3, 64 * h 0 0 + 33) :: st) (alc h 33 n n)) := rfl
theorem x_new_34 {fz : Int → Int → Option Int} {d k : Nat} {Q : Int → HV → Prop} {is : List Instr} {h : HV} {ls st : List AV} {n : Int} : X fz d k Q (.newarray .double :: is) ls ((0, n) :: st) h = ((0 ≤ n ∧ n ≤ 67000000 ∧ ∀ i, fz (64 * h 0 0 + 34) i = none) ∧ X fz d k Q is ls ((3, 64 * h 0 0 + 34) :: st) (alc h 34 n n)) := rfl
theorem x_new_35 {fz : Int → Int → Option Int} {d k : Nat} {Q : Int → HV → Prop} {is : List Instr} {h : HV} {ls st : List AV} {n : Int} : X fz d k Q (.newarray .byte :: is) ls ((0, n) :: st) h = ((0 ≤ n ∧ n ≤ 67000000 ∧ ∀ i, fz (64 * h 0 0 + 35) i = none) ∧ X fz d k Q is ls ((3, 64 * h 0 0 + 35) :: st) (alc h 35 n n)) := rfl
theorem x_new_36 {fz : Int → Int → Option Int} {d k : Nat} {Q : Int → HV → Prop} {is : List Instr} {h : HV} {ls st : List AV} {n : Int} : X fz d k Q (.newarray .boolean :: is) ls ((0, n) :: st) h = ((0 ≤ n ∧ n ≤ 67000000 ∧ ∀ i, fz (64 * h 0 0 + 36) i = none) ∧ X fz d k Q is ls ((3, 64 * h 0 0 + 36) :: st) (alc h 36 n n)) := rfl
theorem x_new_38 {fz : Int → Int → Option Int} {d k : Nat} {Q : Int → HV → Prop} {is : List Instr} {h : HV} {ls st : List AV} {n : Int} : X fz d k Q (.anewarray 38 :: is) ls ((0, n) :: st) h = ((0 ≤ n ∧ n ≤ 67000000 ∧ ∀ i, fz (64 * h 0 0 + 38) i = none) ∧ X fz d k Q is ls ((3, 64 * h 0 0 + 38) :: st) (alc h 38 n n)) := rfl
theorem x_new_4 {fz : Int → Int → Option Int} {d k : Nat} {Q : Int → HV → Prop} {is : List Instr} {h : HV} {ls st : List AV} : X fz d k Q (.goto_w 517 :: is) ls st h = ((∀ i, fz (64 * h 0 0 + 4) i = none) ∧ X fz d k Q is ls ((3, 64 * h 0 0 + 4) :: st) (alc h 4 0 5)) := rfl
theorem x_new_5 {fz : Int → Int → Option Int} {d k : Nat} {Q : Int → HV → Prop} {is : List Instr} {h : HV} {ls st : List AV} : X fz d k Q (.goto_w 661 :: is) ls st h = ((∀ i, fz (64 * h 0 0 + 5) i = none) ∧ X fz d k Q is ls ((3, 64 * h 0 0 + 5) :: st) (alc h 5 0 21)) := rfl
theorem x_new_6 {fz : Int → Int → Option Int} {d k : Nat} {Q : Int → HV → Prop} {is : List Instr} {h : HV} {ls st : List AV} : X fz d k Q (.goto_w 771 :: is) ls st h = ((∀ i, fz (64 * h 0 0 + 6) i = none) ∧ X fz d k Q is ls ((3, 64 * h 0 0 + 6) :: st) (alc h 6 0 3)) := rfl
theorem x_new_7 {fz : Int → Int → Option Int} {d k : Nat} {Q : Int → HV → Prop} {is : List Instr} {h : HV} {ls st : List AV} : X fz d k Q (.goto_w 912 :: is) ls st h = ((∀ i, fz (64 * h 0 0 + 7) i = none) ∧ X fz d k Q is ls ((3, 64 * h 0 0 + 7) :: st) (alc h 7 0 16)) := rfl
theorem x_new_8 {fz : Int → Int → Option Int} {d k : Nat} {Q : Int → HV → Prop} {is : List Instr} {h : HV} {ls st : List AV} : X fz d k Q (.goto_w 1035 :: is) ls st h = ((∀ i, fz (64 * h 0 0 + 8) i = none) ∧ X fz d k Q is ls ((3, 64 * h 0 0 + 8) :: st) (alc h 8 0 11)) := rfl
theorem x_new_9 {fz : Int → Int → Option Int} {d k : Nat} {Q : Int → HV → Prop} {is : List Instr} {h : HV} {ls st : List AV} : X fz d k Q (.goto_w 1162 :: is) ls st h = ((∀ i, fz (64 * h 0 0 + 9) i = none) ∧ X fz d k Q is ls ((3, 64 * h 0 0 + 9) :: st) (alc h 9 0 10)) := rfl
theorem x_obj {fz : Int → Int → Option Int} {d k : Nat} {Q : Int → HV → Prop} {is : List Instr} {h : HV} {ls st : List AV} {o : Int} : X fz d k Q (.monitorexit :: is) ls ((3, o) :: st) h = ((o ≠ 0 ∧ o ≠ 62 ∧ wds st ≤ 8) ∧ X fz d k Q is ls st h) := rfl
theorem x_pc_10243 {fz : Int → Int → Option Int} {d k : Nat} {Q : Int → HV → Prop} {is : List Instr} {h : HV} {ls st : List AV} {o v : Int} : X fz d k Q (.if_acmp .eq 10243 :: is) ls ((3, v) :: (3, o) :: st) h = ((o ≠ 0 ∧ o % 64 = 10 ∧ 3 = 3 ∧ (True) ∧ fz o 0 = none) ∧ X fz d k Q is ls st (hset h o 0 v)) := rfl
theorem x_pc_10251 {fz : Int → Int → Option Int} {d k : Nat} {Q : Int → HV → Prop} {is : List Instr} {h : HV} {ls st : List AV} {o v : Int} : X fz d k Q (.if_acmp .eq 10251 :: is) ls ((3, v) :: (3, o) :: st) h = ((o ≠ 0 ∧ o % 64 = 10 ∧ 3 = 3 ∧ (True) ∧ fz o 1 = none) ∧ X fz d k Q is ls st (hset h o 1 v)) := rfl
theorem x_pc_10259 {fz : Int → Int → Option Int} {d k : Nat} {Q : Int → HV → Prop} {is : List Instr} {h : HV} {ls st : List AV} {o v : Int} : X fz d k Q (.if_acmp .eq 10259 :: is) ls ((3, v) :: (3, o) :: st) h = ((o ≠ 0 ∧ o % 64 = 10 ∧ 3 = 3 ∧ (True) ∧ fz o 2 = none) ∧ X fz d k Q is ls st (hset h o 2 v)) := rfl
theorem x_pc_10267 {fz : Int → Int → Option Int} {d k : Nat} {Q : Int → HV → Prop} {is : List Instr} {h : HV} {ls st : List AV} {o v : Int} : X fz d k Q (.if_acmp .eq 10267 :: is) ls ((3, v) :: (3, o) :: st) h = ((o ≠ 0 ∧ o % 64 = 10 ∧ 3 = 3 ∧ (True) ∧ fz o 3 = none) ∧ X fz d k Q is ls st (hset h o 3 v)) := rfl
theorem x_pc_1027 {fz : Int → Int → Option Int} {d k : Nat} {Q : Int → HV → Prop} {is : List Instr} {h : HV} {ls st : List AV} {o v : Int} : X fz d k Q (.if_acmp .eq 1027 :: is) ls ((3, v) :: (3, o) :: st) h = ((o ≠ 0 ∧ o % 64 = 1 ∧ 3 = 3 ∧ (True) ∧ fz o 0 = none) ∧ X fz d k Q is ls st (hset h o 0 v)) := rfl
theorem x_pc_10275 {fz : Int → Int → Option Int} {d k : Nat} {Q : Int → HV → Prop} {is : List Instr} {h : HV} {ls st : List AV} {o v : Int} : X fz d k Q (.if_acmp .eq 10275 :: is) ls ((3, v) :: (3, o) :: st) h = ((o ≠ 0 ∧ o % 64 = 10 ∧ 3 = 3 ∧ (True) ∧ fz o 4 = none) ∧ X fz d k Q is ls st (hset h o 4 v)) := rfl
theorem x_pc_10283 {fz : Int → Int → Option Int} {d k : Nat} {Q : Int → HV → Prop} {is : List Instr} {h : HV} {ls st : List AV} {o v : Int} : X fz d k Q (.if_acmp .eq 10283 :: is) ls ((3, v) :: (3, o) :: st) h = ((o ≠ 0 ∧ o % 64 = 10 ∧ 3 = 3 ∧ (True) ∧ fz o 5 = none) ∧ X fz d k Q is ls st (hset h o 5 v)) := rfl
theorem x_pc_10291 {fz : Int → Int → Option Int} {d k : Nat} {Q : Int → HV → Prop} {is : List Instr} {h : HV} {ls st : List AV} {o v : Int} : X fz d k Q (.if_acmp .eq 10291 :: is) ls ((3, v) :: (3, o) :: st) h = ((o ≠ 0 ∧ o % 64 = 10 ∧ 3 = 3 ∧ (True) ∧ fz o 6 = none) ∧ X fz d k Q is ls st (hset h o 6 v)) := rfl
theorem x_pc_10299 {fz : Int → Int → Option Int} {d k : Nat} {Q : Int → HV → Prop} {is : List Instr} {h : HV} {ls st : List AV} {o v : Int} : X fz d k Q (.if_acmp .eq 10299 :: is) ls ((3, v) :: (3, o) :: st) h = ((o ≠ 0 ∧ o % 64 = 10 ∧ 3 = 3 ∧ (True) ∧ fz o 7 = none) ∧ X fz d k Q is ls st (hset h o 7 v)) := rfl
theorem x_pc_10307 {fz : Int → Int → Option Int} {d k : Nat} {Q : Int → HV → Prop} {is : List Instr} {h : HV} {ls st : List AV} {o v : Int} : X fz d k Q (.if_acmp .eq 10307 :: is) ls ((3, v) :: (3, o) :: st) h = ((o ≠ 0 ∧ o % 64 = 10 ∧ 3 = 3 ∧ (True) ∧ fz o 8 = none) ∧ X fz d k Q is ls st (hset h o 8 v)) := rfl
theorem x_pc_10315 {fz : Int → Int → Option Int} {d k : Nat} {Q : Int → HV → Prop} {is : List Instr} {h : HV} {ls st : List AV} {o v : Int} : X fz d k Q (.if_acmp .eq 10315 :: is) ls ((3, v) :: (3, o) :: st) h = ((o ≠ 0 ∧ o % 64 = 10 ∧ 3 = 3 ∧ (True) ∧ fz o 9 = none) ∧ X fz d k Q is ls st (hset h o 9 v)) := rfl
theorem x_pc_10323 {fz : Int → Int → Option Int} {d k : Nat} {Q : Int → HV → Prop} {is : List Instr} {h : HV} {ls st : List AV} {o v : Int} : X fz d k Q (.if_acmp .eq 10323 :: is) ls ((3, v) :: (3, o) :: st) h = ((o ≠ 0 ∧ o % 64 = 10 ∧ 3 = 3 ∧ (True) ∧ fz o 10 = none) ∧ X fz d k Q is ls st (hset h o 10 v)) := rfl
theorem x_pc_10339 {fz : Int → Int → Option Int} {d k : Nat} {Q : Int → HV → Prop} {is : List Instr} {h : HV} {ls st : List AV} {o v : Int} : X fz d k Q (.if_acmp .eq 10339 :: is) ls ((3, v) :: (3, o) :: st) h = ((o ≠ 0 ∧ o % 64 = 10 ∧ 3 = 3 ∧ (True) ∧ fz o 12 = none) ∧ X fz d k Q is ls st (hset h o 12 v)) := rfl
theorem x_pc_10347 {fz : Int → Int → Option Int} {d k : Nat} {Q : Int → HV → Prop} {is : List Instr} {h : HV} {ls st : List AV} {o v : Int} : X fz d k Q (.if_acmp .eq 10347 :: is) ls ((3, v) :: (3, o) :: st) h = ((o ≠ 0 ∧ o % 64 = 10 ∧ 3 = 3 ∧ (True) ∧ fz o 13 = none) ∧ X fz d k Q is ls st (hset h o 13 v)) := rfl
theorem x_pc_10355 {fz : Int → Int → Option Int} {d k : Nat} {Q : Int → HV → Prop} {is : List Instr} {h : HV} {ls st : List AV} {o v : Int} : X fz d k Q (.if_acmp .eq 10355 :: is) ls ((3, v) :: (3, o) :: st) h = ((o ≠ 0 ∧ o % 64 = 10 ∧ 3 = 3 ∧ (True) ∧ fz o 14 = none) ∧ X fz d k Q is ls st (hset h o 14 v)) := rfl
theorem x_pc_10371 {fz : Int → Int → Option Int} {d k : Nat} {Q : Int → HV → Prop} {is : List Instr} {h : HV} {ls st : List AV} {o v : Int} : X fz d k Q (.if_acmp .eq 10371 :: is) ls ((3, v) :: (3, o) :: st) h = ((o ≠ 0 ∧ o % 64 = 10 ∧ 3 = 3 ∧ (True) ∧ fz o 16 = none) ∧ X fz d k Q is ls st (hset h o 16 v)) := rfl
theorem x_pc_107 {fz : Int → Int → Option Int} {d k : Nat} {Q : Int → HV → Prop} {is : List Instr} {h : HV} {ls st : List AV} {o v : Int} : X fz d k Q (.if_acmp .eq 107 :: is) ls ((3, v) :: (3, o) :: st) h = ((o ≠ 0 ∧ o % 64 = 0 ∧ 3 = 3 ∧ (True) ∧ fz o 13 = none) ∧ X fz d k Q is ls st (hset h o 13 v)) := rfl
theorem x_pc_11 {fz : Int → Int → Option Int} {d k : Nat} {Q : Int → HV → Prop} {is : List Instr} {h : HV} {ls st : List AV} {o v : Int} : X fz d k Q (.if_acmp .eq 11 :: is) ls ((3, v) :: (3, o) :: st) h = ((o ≠ 0 ∧ o % 64 = 0 ∧ 3 = 3 ∧ (True) ∧ fz o 1 = none) ∧ X fz d k Q is ls st (hset h o 1 v)) := rfl
theorem x_pc_11267 {fz : Int → Int → Option Int} {d k : Nat} {Q : Int → HV → Prop} {is : List Instr} {h : HV} {ls st : List AV} {o v : Int} : X fz d k Q (.if_acmp .eq 11267 :: is) ls ((3, v) :: (3, o) :: st) h = ((o ≠ 0 ∧ o % 64 = 11 ∧ 3 = 3 ∧ (True) ∧ fz o 0 = none) ∧ X fz d k Q is ls st (hset h o 0 v)) := rfl
theorem x_pc_11355 {fz : Int → Int → Option Int} {d k : Nat} {Q : Int → HV → Prop} {is : List Instr} {h : HV} {ls st : List AV} {o v : Int} : X fz d k Q (.if_acmp .eq 11355 :: is) ls ((3, v) :: (3, o) :: st) h = ((o ≠ 0 ∧ o % 64 = 11 ∧ 3 = 3 ∧ (True) ∧ fz o 11 = none) ∧ X fz d k Q is ls st (hset h o 11 v)) := rfl
theorem x_pc_11379 {fz : Int → Int → Option Int} {d k : Nat} {Q : Int → HV → Prop} {is : List Instr} {h : HV} {ls st : List AV} {o v : Int} : X fz d k Q (.if_acmp .eq 11379 :: is) ls ((3, v) :: (3, o) :: st) h = ((o ≠ 0 ∧ o % 64 = 11 ∧ 3 = 3 ∧ (True) ∧ fz o 14 = none) ∧ X fz d k Q is ls st (hset h o 14 v)) := rfl
theorem x_pc_11395 {fz : Int → Int → Option Int} {d k : Nat} {Q : Int → HV → Prop} {is : List Instr} {h : HV} {ls st : List AV} {o v : Int} : X fz d k Q (.if_acmp .eq 11395 :: is) ls ((3, v) :: (3, o) :: st) h = ((o ≠ 0 ∧ o % 64 = 11 ∧ 3 = 3 ∧ (True) ∧ fz o 16 = none) ∧ X fz d k Q is ls st (hset h o 16 v)) := rfl
theorem x_pc_11403 {fz : Int → Int → Option Int} {d k : Nat} {Q : Int → HV → Prop} {is : List Instr} {h : HV} {ls st : List AV} {o v : Int} : X fz d k Q (.if_acmp .eq 11403 :: is) ls ((3, v) :: (3, o) :: st) h = ((o ≠ 0 ∧ o % 64 = 11 ∧ 3 = 3 ∧ (True) ∧ fz o 17 = none) ∧ X fz d k Q is ls st (hset h o 17 v)) := rfl
theorem x_pc_11411 {fz : Int → Int → Option Int} {d k : Nat} {Q : Int → HV → Prop} {is : List Instr} {h : HV} {ls st : List AV} {o v : Int} : X fz d k Q (.if_acmp .eq 11411 :: is) ls ((3, v) :: (3, o) :: st) h = ((o ≠ 0 ∧ o % 64 = 11 ∧ 3 = 3 ∧ (True) ∧ fz o 18 = none) ∧ X fz d k Q is ls st (hset h o 18 v)) := rfl
theorem x_pc_11427 {fz : Int → Int → Option Int} {d k : Nat} {Q : Int → HV → Prop} {is : List Instr} {h : HV} {ls st : List AV} {o v : Int} : X fz d k Q (.if_acmp .eq 11427 :: is) ls ((3, v) :: (3, o) :: st) h = ((o ≠ 0 ∧ o % 64 = 11 ∧ 3 = 3 ∧ (True) ∧ fz o 20 = none) ∧ X fz d k Q is ls st (hset h o 20 v)) := rfl
theorem x_pc_11435 {fz : Int → Int → Option Int} {d k : Nat} {Q : Int → HV → Prop} {is : List Instr} {h : HV} {ls st : List AV} {o v : Int} : X fz d k Q (.if_acmp .eq 11435 :: is) ls ((3, v) :: (3, o) :: st) h = ((o ≠ 0 ∧ o % 64 = 11 ∧ 3 = 3 ∧ (True) ∧ fz o 21 = none) ∧ X fz d k Q is ls st (hset h o 21 v)) := rfl
theorem x_pc_11443 {fz : Int → Int → Option Int} {d k : Nat} {Q : Int → HV → Prop} {is : List Instr} {h : HV} {ls st : List AV} {o v : Int} : X fz d k Q (.if_acmp .eq 11443 :: is) ls ((3, v) :: (3, o) :: st) h = ((o ≠ 0 ∧ o % 64 = 11 ∧ 3 = 3 ∧ (True) ∧ fz o 22 = none) ∧ X fz d k Q is ls st (hset h o 22 v)) := rfl
theorem x_pc_11451 {fz : Int → Int → Option Int} {d k : Nat} {Q : Int → HV → Prop} {is : List Instr} {h : HV} {ls st : List AV} {o v : Int} : X fz d k Q (.if_acmp .eq 11451 :: is) ls ((3, v) :: (3, o) :: st) h = ((o ≠ 0 ∧ o % 64 = 11 ∧ 3 = 3 ∧ (True) ∧ fz o 23 = none) ∧ X fz d k Q is ls st (hset h o 23 v)) := rfl
theorem x_pc_11475 {fz : Int → Int → Option Int} {d k : Nat} {Q : Int → HV → Prop} {is : List Instr} {h : HV} {ls st : List AV} {o v : Int} : X fz d k Q (.if_acmp .eq 11475 :: is) ls ((3, v) :: (3, o) :: st) h = ((o ≠ 0 ∧ o % 64 = 11 ∧ 3 = 3 ∧ (True) ∧ fz o 26 = none) ∧ X fz d k Q is ls st (hset h o 26 v)) := rfl
theorem x_pc_11483 {fz : Int → Int → Option Int} {d k : Nat} {Q : Int → HV → Prop} {is : List Instr} {h : HV} {ls st : List AV} {o v : Int} : X fz d k Q (.if_acmp .eq 11483 :: is) ls ((3, v) :: (3, o) :: st) h = ((o ≠ 0 ∧ o % 64 = 11 ∧ 3 = 3 ∧ (True) ∧ fz o 27 = none) ∧ X fz d k Q is ls st (hset h o 27 v)) := rfl
theorem x_pc_11491 {fz : Int → Int → Option Int} {d k : Nat} {Q : Int → HV → Prop} {is : List Instr} {h : HV} {ls st : List AV} {o v : Int} : X fz d k Q (.if_acmp .eq 11491 :: is) ls ((3, v) :: (3, o) :: st) h = ((o ≠ 0 ∧ o % 64 = 11 ∧ 3 = 3 ∧ (True) ∧ fz o 28 = none) ∧ X fz d k Q is ls st (hset h o 28 v)) := rfl
theorem x_pc_11499 {fz : Int → Int → Option Int} {d k : Nat} {Q : Int → HV → Prop} {is : List Instr} {h : HV} {ls st : List AV} {o v : Int} : X fz d k Q (.if_acmp .eq 11499 :: is) ls ((3, v) :: (3, o) :: st) h = ((o ≠ 0 ∧ o % 64 = 11 ∧ 3 = 3 ∧ (True) ∧ fz o 29 = none) ∧ X fz d k Q is ls st (hset h o 29 v)) := rfl
theorem x_pc_115 {fz : Int → Int → Option Int} {d k : Nat} {Q : Int → HV → Prop} {is : List Instr} {h : HV} {ls st : List AV} {o v : Int} : X fz d k Q (.if_acmp .eq 115 :: is) ls ((3, v) :: (3, o) :: st) h = ((o ≠ 0 ∧ o % 64 = 0 ∧ 3 = 3 ∧ (True) ∧ fz o 14 = none) ∧ X fz d k Q is ls st (hset h o 14 v)) := rfl
theorem x_pc_11515 {fz : Int → Int → Option Int} {d k : Nat} {Q : Int → HV → Prop} {is : List Instr} {h : HV} {ls st : List AV} {o v : Int} : X fz d k Q (.if_acmp .eq 11515 :: is) ls ((3, v) :: (3, o) :: st) h = ((o ≠ 0 ∧ o % 64 = 11 ∧ 3 = 3 ∧ (True) ∧ fz o 31 = none) ∧ X fz d k Q is ls st (hset h o 31 v)) := rfl
theorem x_pc_11523 {fz : Int → Int → Option Int} {d k : Nat} {Q : Int → HV → Prop} {is : List Instr} {h : HV} {ls st : List AV} {o v : Int} : X fz d k Q (.if_acmp .eq 11523 :: is) ls ((3, v) :: (3, o) :: st) h = ((o ≠ 0 ∧ o % 64 = 11 ∧ 3 = 3 ∧ (True) ∧ fz o 32 = none) ∧ X fz d k Q is ls st (hset h o 32 v)) := rfl
theorem x_pc_11531 {fz : Int → Int → Option Int} {d k : Nat} {Q : Int → HV → Prop} {is : List Instr} {h : HV} {ls st : List AV} {o v : Int} : X fz d k Q (.if_acmp .eq 11531 :: is) ls ((3, v) :: (3, o) :: st) h = ((o ≠ 0 ∧ o % 64 = 11 ∧ 3 = 3 ∧ (True) ∧ fz o 33 = none) ∧ X fz d k Q is ls st (hset h o 33 v)) := rfl
theorem x_pc_11539 {fz : Int → Int → Option Int} {d k : Nat} {Q : Int → HV → Prop} {is : List Instr} {h : HV} {ls st : List AV} {o v : Int} : X fz d k Q (.if_acmp .eq 11539 :: is) ls ((3, v) :: (3, o) :: st) h = ((o ≠ 0 ∧ o % 64 = 11 ∧ 3 = 3 ∧ (True) ∧ fz o 34 = none) ∧ X fz d k Q is ls st (hset h o 34 v)) := rfl
theorem x_pc_11547 {fz : Int → Int → Option Int} {d k : Nat} {Q : Int → HV → Prop} {is : List Instr} {h : HV} {ls st : List AV} {o v : Int} : X fz d k Q (.if_acmp .eq 11547 :: is) ls ((3, v) :: (3, o) :: st) h = ((o ≠ 0 ∧ o % 64 = 11 ∧ 3 = 3 ∧ (True) ∧ fz o 35 = none) ∧ X fz d k Q is ls st (hset h o 35 v)) := rfl
theorem x_pc_11563 {fz : Int → Int → Option Int} {d k : Nat} {Q : Int → HV → Prop} {is : List Instr} {h : HV} {ls st : List AV} {o v : Int} : X fz d k Q (.if_acmp .eq 11563 :: is) ls ((3, v) :: (3, o) :: st) h = ((o ≠ 0 ∧ o % 64 = 11 ∧ 3 = 3 ∧ (True) ∧ fz o 37 = none) ∧ X fz d k Q is ls st (hset h o 37 v)) := rfl
theorem x_pc_11571 {fz : Int → Int → Option Int} {d k : Nat} {Q : Int → HV → Prop} {is : List Instr} {h : HV} {ls st : List AV} {o v : Int} : X fz d k Q (.if_acmp .eq 11571 :: is) ls ((3, v) :: (3, o) :: st) h = ((o ≠ 0 ∧ o % 64 = 11 ∧ 3 = 3 ∧ (True) ∧ fz o 38 = none) ∧ X fz d k Q is ls st (hset h o 38 v)) := rfl
theorem x_pc_11579 {fz : Int → Int → Option Int} {d k : Nat} {Q : Int → HV → Prop} {is : List Instr} {h : HV} {ls st : List AV} {o v : Int} : X fz d k Q (.if_acmp .eq 11579 :: is) ls ((3, v) :: (3, o) :: st) h = ((o ≠ 0 ∧ o % 64 = 11 ∧ 3 = 3 ∧ (True) ∧ fz o 39 = none) ∧ X fz d k Q is ls st (hset h o 39 v)) := rfl
theorem x_pc_11587 {fz : Int → Int → Option Int} {d k : Nat} {Q : Int → HV → Prop} {is : List Instr} {h : HV} {ls st : List AV} {o v : Int} : X fz d k Q (.if_acmp .eq 11587 :: is) ls ((3, v) :: (3, o) :: st) h = ((o ≠ 0 ∧ o % 64 = 11 ∧ 3 = 3 ∧ (True) ∧ fz o 40 = none) ∧ X fz d k Q is ls st (hset h o 40 v)) := rfl
theorem x_pc_11603 {fz : Int → Int → Option Int} {d k : Nat} {Q : Int → HV → Prop} {is : List Instr} {h : HV} {ls st : List AV} {o v : Int} : X fz d k Q (.if_acmp .eq 11603 :: is) ls ((3, v) :: (3, o) :: st) h = ((o ≠ 0 ∧ o % 64 = 11 ∧ 3 = 3 ∧ (True) ∧ fz o 42 = none) ∧ X fz d k Q is ls st (hset h o 42 v)) := rfl
theorem x_pc_11611 {fz : Int → Int → Option Int} {d k : Nat} {Q : Int → HV → Prop} {is : List Instr} {h : HV} {ls st : List AV} {o v : Int} : X fz d k Q (.if_acmp .eq 11611 :: is) ls ((3, v) :: (3, o) :: st) h = ((o ≠ 0 ∧ o % 64 = 11 ∧ 3 = 3 ∧ (True) ∧ fz o 43 = none) ∧ X fz d k Q is ls st (hset h o 43 v)) := rfl
theorem x_pc_11627 {fz : Int → Int → Option Int} {d k : Nat} {Q : Int → HV → Prop} {is : List Instr} {h : HV} {ls st : List AV} {o v : Int} : X fz d k Q (.if_acmp .eq 11627 :: is) ls ((3, v) :: (3, o) :: st) h = ((o ≠ 0 ∧ o % 64 = 11 ∧ 3 = 3 ∧ (True) ∧ fz o 45 = none) ∧ X fz d k Q is ls st (hset h o 45 v)) := rfl
theorem x_pc_11635 {fz : Int → Int → Option Int} {d k : Nat} {Q : Int → HV → Prop} {is : List Instr} {h : HV} {ls st : List AV} {o v : Int} : X fz d k Q (.if_acmp .eq 11635 :: is) ls ((3, v) :: (3, o) :: st) h = ((o ≠ 0 ∧ o % 64 = 11 ∧ 3 = 3 ∧ (True) ∧ fz o 46 = none) ∧ X fz d k Q is ls st (hset h o 46 v)) := rfl
theorem x_pc_11643 {fz : Int → Int → Option Int} {d k : Nat} {Q : Int → HV → Prop} {is : List Instr} {h : HV} {ls st : List AV} {o v : Int} : X fz d k Q (.if_acmp .eq 11643 :: is) ls ((3, v) :: (3, o) :: st) h = ((o ≠ 0 ∧ o % 64 = 11 ∧ 3 = 3 ∧ (True) ∧ fz o 47 = none) ∧ X fz d k Q is ls st (hset h o 47 v)) := rfl
theorem x_pc_11651 {fz : Int → Int → Option Int} {d k : Nat} {Q : Int → HV → Prop} {is : List Instr} {h : HV} {ls st : List AV} {o v : Int} : X fz d k Q (.if_acmp .eq 11651 :: is) ls ((3, v) :: (3, o) :: st) h = ((o ≠ 0 ∧ o % 64 = 11 ∧ 3 = 3 ∧ (True) ∧ fz o 48 = none) ∧ X fz d k Q is ls st (hset h o 48 v)) := rfl
theorem x_pc_11659 {fz : Int → Int → Option Int} {d k : Nat} {Q : Int → HV → Prop} {is : List Instr} {h : HV} {ls st : List AV} {o v : Int} : X fz d k Q (.if_acmp .eq 11659 :: is) ls ((3, v) :: (3, o) :: st) h = ((o ≠ 0 ∧ o % 64 = 11 ∧ 3 = 3 ∧ (True) ∧ fz o 49 = none) ∧ X fz d k Q is ls st (hset h o 49 v)) := rfl
theorem x_pc_11667 {fz : Int → Int → Option Int} {d k : Nat} {Q : Int → HV → Prop} {is : List Instr} {h : HV} {ls st : List AV} {o v : Int} : X fz d k Q (.if_acmp .eq 11667 :: is) ls ((3, v) :: (3, o) :: st) h = ((o ≠ 0 ∧ o % 64 = 11 ∧ 3 = 3 ∧ (True) ∧ fz o 50 = none) ∧ X fz d k Q is ls st (hset h o 50 v)) := rfl
theorem x_pc_11675 {fz : Int → Int → Option Int} {d k : Nat} {Q : Int → HV → Prop} {is : List Instr} {h : HV} {ls st : List AV} {o v : Int} : X fz d k Q (.if_acmp .eq 11675 :: is) ls ((3, v) :: (3, o) :: st) h = ((o ≠ 0 ∧ o % 64 = 11 ∧ 3 = 3 ∧ (True) ∧ fz o 51 = none) ∧ X fz d k Q is ls st (hset h o 51 v)) := rfl
theorem x_pc_11747 {fz : Int → Int → Option Int} {d k : Nat} {Q : Int → HV → Prop} {is : List Instr} {h : HV} {ls st : List AV} {o v : Int} : X fz d k Q (.if_acmp .eq 11747 :: is) ls ((3, v) :: (3, o) :: st) h = ((o ≠ 0 ∧ o % 64 = 11 ∧ 3 = 3 ∧ (True) ∧ fz o 60 = none) ∧ X fz d k Q is ls st (hset h o 60 v)) := rfl
theorem x_pc_11763 {fz : Int → Int → Option Int} {d k : Nat} {Q : Int → HV → Prop} {is : List Instr} {h : HV} {ls st : List AV} {o v : Int} : X fz d k Q (.if_acmp .eq 11763 :: is) ls ((3, v) :: (3, o) :: st) h = ((o ≠ 0 ∧ o % 64 = 11 ∧ 3 = 3 ∧ (True) ∧ fz o 62 = none) ∧ X fz d k Q is ls st (hset h o 62 v)) := rfl
theorem x_pc_11771 {fz : Int → Int → Option Int} {d k : Nat} {Q : Int → HV → Prop} {is : List Instr} {h : HV} {ls st : List AV} {o v : Int} : X fz d k Q (.if_acmp .eq 11771 :: is) ls ((3, v) :: (3, o) :: st) h = ((o ≠ 0 ∧ o % 64 = 11 ∧ 3 = 3 ∧ (True) ∧ fz o 63 = none) ∧ X fz d k Q is ls st (hset h o 63 v)) := rfl
theorem x_pc_11779 {fz : Int → Int → Option Int} {d k : Nat} {Q : Int → HV → Prop} {is : List Instr} {h : HV} {ls st : List AV} {o v : Int} : X fz d k Q (.if_acmp .eq 11779 :: is) ls ((3, v) :: (3, o) :: st) h = ((o ≠ 0 ∧ o % 64 = 11 ∧ 3 = 3 ∧ (True) ∧ fz o 64 = none) ∧ X fz d k Q is ls st (hset h o 64 v)) := rfl
theorem x_pc_11795 {fz : Int → Int → Option Int} {d k : Nat} {Q : Int → HV → Prop} {is : List Instr} {h : HV} {ls st : List AV} {o v : Int} : X fz d k Q (.if_acmp .eq 11795 :: is) ls ((3, v) :: (3, o) :: st) h = ((o ≠ 0 ∧ o % 64 = 11 ∧ 3 = 3 ∧ (True) ∧ fz o 66 = none) ∧ X fz d k Q is ls st (hset h o 66 v)) := rfl
theorem x_pc_11803 {fz : Int → Int → Option Int} {d k : Nat} {Q : Int → HV → Prop} {is : List Instr} {h : HV} {ls st : List AV} {o v : Int} : X fz d k Q (.if_acmp .eq 11803 :: is) ls ((3, v) :: (3, o) :: st) h = ((o ≠ 0 ∧ o % 64 = 11 ∧ 3 = 3 ∧ (True) ∧ fz o 67 = none) ∧ X fz d k Q is ls st (hset h o 67 v)) := rfl
theorem x_pc_11811 {fz : Int → Int → Option Int} {d k : Nat} {Q : Int → HV → Prop} {is : List Instr} {h : HV} {ls st : List AV} {o v : Int} : X fz d k Q (.if_acmp .eq 11811 :: is) ls ((3, v) :: (3, o) :: st) h = ((o ≠ 0 ∧ o % 64 = 11 ∧ 3 = 3 ∧ (True) ∧ fz o 68 = none) ∧ X fz d k Q is ls st (hset h o 68 v)) := rfl
theorem x_pc_11859 {fz : Int → Int → Option Int} {d k : Nat} {Q : Int → HV → Prop} {is : List Instr} {h : HV} {ls st : List AV} {o v : Int} : X fz d k Q (.if_acmp .eq 11859 :: is) ls ((3, v) :: (3, o) :: st) h = ((o ≠ 0 ∧ o % 64 = 11 ∧ 3 = 3 ∧ (True) ∧ fz o 74 = none) ∧ X fz d k Q is ls st (hset h o 74 v)) := rfl
theorem x_pc_11867 {fz : Int → Int → Option Int} {d k : Nat} {Q : Int → HV → Prop} {is : List Instr} {h : HV} {ls st : List AV} {o v : Int} : X fz d k Q (.if_acmp .eq 11867 :: is) ls ((3, v) :: (3, o) :: st) h = ((o ≠ 0 ∧ o % 64 = 11 ∧ 3 = 3 ∧ (True) ∧ fz o 75 = none) ∧ X fz d k Q is ls st (hset h o 75 v)) := rfl
theorem x_pc_11875 {fz : Int → Int → Option Int} {d k : Nat} {Q : Int → HV → Prop} {is : List Instr} {h : HV} {ls st : List AV} {o v : Int} : X fz d k Q (.if_acmp .eq 11875 :: is) ls ((3, v) :: (3, o) :: st) h = ((o ≠ 0 ∧ o % 64 = 11 ∧ 3 = 3 ∧ (True) ∧ fz o 76 = none) ∧ X fz d k Q is ls st (hset h o 76 v)) := rfl
theorem x_pc_11883 {fz : Int → Int → Option Int} {d k : Nat} {Q : Int → HV → Prop} {is : List Instr} {h : HV} {ls st : List AV} {o v : Int} : X fz d k Q (.if_acmp .eq 11883 :: is) ls ((3, v) :: (3, o) :: st) h = ((o ≠ 0 ∧ o % 64 = 11 ∧ 3 = 3 ∧ (True) ∧ fz o 77 = none) ∧ X fz d k Q is ls st (hset h o 77 v)) := rfl
theorem x_pc_11891 {fz : Int → Int → Option Int} {d k : Nat} {Q : Int → HV → Prop} {is : List Instr} {h : HV} {ls st : List AV} {o v : Int} : X fz d k Q (.if_acmp .eq 11891 :: is) ls ((3, v) :: (3, o) :: st) h = ((o ≠ 0 ∧ o % 64 = 11 ∧ 3 = 3 ∧ (True) ∧ fz o 78 = none) ∧ X fz d k Q is ls st (hset h o 78 v)) := rfl
theorem x_pc_11899 {fz : Int → Int → Option Int} {d k : Nat} {Q : Int → HV → Prop} {is : List Instr} {h : HV} {ls st : List AV} {o v : Int} : X fz d k Q (.if_acmp .eq 11899 :: is) ls ((3, v) :: (3, o) :: st) h = ((o ≠ 0 ∧ o % 64 = 11 ∧ 3 = 3 ∧ (True) ∧ fz o 79 = none) ∧ X fz d k Q is ls st (hset h o 79 v)) := rfl
theorem x_pc_11907 {fz : Int → Int → Option Int} {d k : Nat} {Q : Int → HV → Prop} {is : List Instr} {h : HV} {ls st : List AV} {o v : Int} : X fz d k Q (.if_acmp .eq 11907 :: is) ls ((3, v) :: (3, o) :: st) h = ((o ≠ 0 ∧ o % 64 = 11 ∧ 3 = 3 ∧ (True) ∧ fz o 80 = none) ∧ X fz d k Q is ls st (hset h o 80 v)) := rfl
theorem x_pc_11915 {fz : Int → Int → Option Int} {d k : Nat} {Q : Int → HV → Prop} {is : List Instr} {h : HV} {ls st : List AV} {o v : Int} : X fz d k Q (.if_acmp .eq 11915 :: is) ls ((3, v) :: (3, o) :: st) h = ((o ≠ 0 ∧ o % 64 = 11 ∧ 3 = 3 ∧ (True) ∧ fz o 81 = none) ∧ X fz d k Q is ls st (hset h o 81 v)) := rfl
theorem x_pc_11923 {fz : Int → Int → Option Int} {d k : Nat} {Q : Int → HV → Prop} {is : List Instr} {h : HV} {ls st : List AV} {o v : Int} : X fz d k Q (.if_acmp .eq 11923 :: is) ls ((3, v) :: (3, o) :: st) h = ((o ≠ 0 ∧ o % 64 = 11 ∧ 3 = 3 ∧ (True) ∧ fz o 82 = none) ∧ X fz d k Q is ls st (hset h o 82 v)) := rfl
theorem x_pc_11931 {fz : Int → Int → Option Int} {d k : Nat} {Q : Int → HV → Prop} {is : List Instr} {h : HV} {ls st : List AV} {o v : Int} : X fz d k Q (.if_acmp .eq 11931 :: is) ls ((3, v) :: (3, o) :: st) h = ((o ≠ 0 ∧ o % 64 = 11 ∧ 3 = 3 ∧ (True) ∧ fz o 83 = none) ∧ X fz d k Q is ls st (hset h o 83 v)) := rfl
theorem x_pc_11939 {fz : Int → Int → Option Int} {d k : Nat} {Q : Int → HV → Prop} {is : List Instr} {h : HV} {ls st : List AV} {o v : Int} : X fz d k Q (.if_acmp .eq 11939 :: is) ls ((3, v) :: (3, o) :: st) h = ((o ≠ 0 ∧ o % 64 = 11 ∧ 3 = 3 ∧ (True) ∧ fz o 84 = none) ∧ X fz d k Q is ls st (hset h o 84 v)) := rfl
theorem x_pc_11947 {fz : Int → Int → Option Int} {d k : Nat} {Q : Int → HV → Prop} {is : List Instr} {h : HV} {ls st : List AV} {o v : Int} : X fz d k Q (.if_acmp .eq 11947 :: is) ls ((3, v) :: (3, o) :: st) h = ((o ≠ 0 ∧ o % 64 = 11 ∧ 3 = 3 ∧ (True) ∧ fz o 85 = none) ∧ X fz d k Q is ls st (hset h o 85 v)) := rfl
theorem x_pc_11963 {fz : Int → Int → Option Int} {d k : Nat} {Q : Int → HV → Prop} {is : List Instr} {h : HV} {ls st : List AV} {o v : Int} : X fz d k Q (.if_acmp .eq 11963 :: is) ls ((3, v) :: (3, o) :: st) h = ((o ≠ 0 ∧ o % 64 = 11 ∧ 3 = 3 ∧ (True) ∧ fz o 87 = none) ∧ X fz d k Q is ls st (hset h o 87 v)) := rfl
theorem x_pc_11971 {fz : Int → Int → Option Int} {d k : Nat} {Q : Int → HV → Prop} {is : List Instr} {h : HV} {ls st : List AV} {o v : Int} : X fz d k Q (.if_acmp .eq 11971 :: is) ls ((3, v) :: (3, o) :: st) h = ((o ≠ 0 ∧ o % 64 = 11 ∧ 3 = 3 ∧ (True) ∧ fz o 88 = none) ∧ X fz d k Q is ls st (hset h o 88 v)) := rfl
theorem x_pc_11979 {fz : Int → Int → Option Int} {d k : Nat} {Q : Int → HV → Prop} {is : List Instr} {h : HV} {ls st : List AV} {o v : Int} : X fz d k Q (.if_acmp .eq 11979 :: is) ls ((3, v) :: (3, o) :: st) h = ((o ≠ 0 ∧ o % 64 = 11 ∧ 3 = 3 ∧ (True) ∧ fz o 89 = none) ∧ X fz d k Q is ls st (hset h o 89 v)) := rfl
theorem x_pc_11987 {fz : Int → Int → Option Int} {d k : Nat} {Q : Int → HV → Prop} {is : List Instr} {h : HV} {ls st : List AV} {o v : Int} : X fz d k Q (.if_acmp .eq 11987 :: is) ls ((3, v) :: (3, o) :: st) h = ((o ≠ 0 ∧ o % 64 = 11 ∧ 3 = 3 ∧ (True) ∧ fz o 90 = none) ∧ X fz d k Q is ls st (hset h o 90 v)) := rfl
theorem x_pc_11995 {fz : Int → Int → Option Int} {d k : Nat} {Q : Int → HV → Prop} {is : List Instr} {h : HV} {ls st : List AV} {o v : Int} : X fz d k Q (.if_acmp .eq 11995 :: is) ls ((3, v) :: (3, o) :: st) h = ((o ≠ 0 ∧ o % 64 = 11 ∧ 3 = 3 ∧ (True) ∧ fz o 91 = none) ∧ X fz d k Q is ls st (hset h o 91 v)) := rfl
theorem x_pc_12003 {fz : Int → Int → Option Int} {d k : Nat} {Q : Int → HV → Prop} {is : List Instr} {h : HV} {ls st : List AV} {o v : Int} : X fz d k Q (.if_acmp .eq 12003 :: is) ls ((3, v) :: (3, o) :: st) h = ((o ≠ 0 ∧ o % 64 = 11 ∧ 3 = 3 ∧ (True) ∧ fz o 92 = none) ∧ X fz d k Q is ls st (hset h o 92 v)) := rfl
theorem x_pc_12019 {fz : Int → Int → Option Int} {d k : Nat} {Q : Int → HV → Prop} {is : List Instr} {h : HV} {ls st : List AV} {o v : Int} : X fz d k Q (.if_acmp .eq 12019 :: is) ls ((3, v) :: (3, o) :: st) h = ((o ≠ 0 ∧ o % 64 = 11 ∧ 3 = 3 ∧ (True) ∧ fz o 94 = none) ∧ X fz d k Q is ls st (hset h o 94 v)) := rfl
theorem x_pc_12291 {fz : Int → Int → Option Int} {d k : Nat} {Q : Int → HV → Prop} {is : List Instr} {h : HV} {ls st : List AV} {o v : Int} : X fz d k Q (.if_acmp .eq 12291 :: is) ls ((3, v) :: (3, o) :: st) h = ((o ≠ 0 ∧ o % 64 = 12 ∧ 3 = 3 ∧ (True) ∧ fz o 0 = none) ∧ X fz d k Q is ls st (hset h o 0 v)) := rfl
theorem x_pc_12299 {fz : Int → Int → Option Int} {d k : Nat} {Q : Int → HV → Prop} {is : List Instr} {h : HV} {ls st : List AV} {o v : Int} : X fz d k Q (.if_acmp .eq 12299 :: is) ls ((3, v) :: (3, o) :: st) h = ((o ≠ 0 ∧ o % 64 = 12 ∧ 3 = 3 ∧ (True) ∧ fz o 1 = none) ∧ X fz d k Q is ls st (hset h o 1 v)) := rfl
theorem x_pc_123 {fz : Int → Int → Option Int} {d k : Nat} {Q : Int → HV → Prop} {is : List Instr} {h : HV} {ls st : List AV} {o v : Int} : X fz d k Q (.if_acmp .eq 123 :: is) ls ((3, v) :: (3, o) :: st) h = ((o ≠ 0 ∧ o % 64 = 0 ∧ 3 = 3 ∧ (True) ∧ fz o 15 = none) ∧ X fz d k Q is ls st (hset h o 15 v)) := rfl
theorem x_pc_12307 {fz : Int → Int → Option Int} {d k : Nat} {Q : Int → HV → Prop} {is : List Instr} {h : HV} {ls st : List AV} {o v : Int} : X fz d k Q (.if_acmp .eq 12307 :: is) ls ((3, v) :: (3, o) :: st) h = ((o ≠ 0 ∧ o % 64 = 12 ∧ 3 = 3 ∧ (True) ∧ fz o 2 = none) ∧ X fz d k Q is ls st (hset h o 2 v)) := rfl
theorem x_pc_12315 {fz : Int → Int → Option Int} {d k : Nat} {Q : Int → HV → Prop} {is : List Instr} {h : HV} {ls st : List AV} {o v : Int} : X fz d k Q (.if_acmp .eq 12315 :: is) ls ((3, v) :: (3, o) :: st) h = ((o ≠ 0 ∧ o % 64 = 12 ∧ 3 = 3 ∧ (True) ∧ fz o 3 = none) ∧ X fz d k Q is ls st (hset h o 3 v)) := rfl
theorem x_pc_12323 {fz : Int → Int → Option Int} {d k : Nat} {Q : Int → HV → Prop} {is : List Instr} {h : HV} {ls st : List AV} {o v : Int} : X fz d k Q (.if_acmp .eq 12323 :: is) ls ((3, v) :: (3, o) :: st) h = ((o ≠ 0 ∧ o % 64 = 12 ∧ 3 = 3 ∧ (True) ∧ fz o 4 = none) ∧ X fz d k Q is ls st (hset h o 4 v)) := rfl
theorem x_pc_12331 {fz : Int → Int → Option Int} {d k : Nat} {Q : Int → HV → Prop} {is : List Instr} {h : HV} {ls st : List AV} {o v : Int} : X fz d k Q (.if_acmp .eq 12331 :: is) ls ((3, v) :: (3, o) :: st) h = ((o ≠ 0 ∧ o % 64 = 12 ∧ 3 = 3 ∧ (True) ∧ fz o 5 = none) ∧ X fz d k Q is ls st (hset h o 5 v)) := rfl
theorem x_pc_12339 {fz : Int → Int → Option Int} {d k : Nat} {Q : Int → HV → Prop} {is : List Instr} {h : HV} {ls st : List AV} {o v : Int} : X fz d k Q (.if_acmp .eq 12339 :: is) ls ((3, v) :: (3, o) :: st) h = ((o ≠ 0 ∧ o % 64 = 12 ∧ 3 = 3 ∧ (True) ∧ fz o 6 = none) ∧ X fz d k Q is ls st (hset h o 6 v)) := rfl
theorem x_pc_12347 {fz : Int → Int → Option Int} {d k : Nat} {Q : Int → HV → Prop} {is : List Instr} {h : HV} {ls st : List AV} {o v : Int} : X fz d k Q (.if_acmp .eq 12347 :: is) ls ((3, v) :: (3, o) :: st) h = ((o ≠ 0 ∧ o % 64 = 12 ∧ 3 = 3 ∧ (True) ∧ fz o 7 = none) ∧ X fz d k Q is ls st (hset h o 7 v)) := rfl
theorem x_pc_12355 {fz : Int → Int → Option Int} {d k : Nat} {Q : Int → HV → Prop} {is : List Instr} {h : HV} {ls st : List AV} {o v : Int} : X fz d k Q (.if_acmp .eq 12355 :: is) ls ((3, v) :: (3, o) :: st) h = ((o ≠ 0 ∧ o % 64 = 12 ∧ 3 = 3 ∧ (True) ∧ fz o 8 = none) ∧ X fz d k Q is ls st (hset h o 8 v)) := rfl
theorem x_pc_12363 {fz : Int → Int → Option Int} {d k : Nat} {Q : Int → HV → Prop} {is : List Instr} {h : HV} {ls st : List AV} {o v : Int} : X fz d k Q (.if_acmp .eq 12363 :: is) ls ((3, v) :: (3, o) :: st) h = ((o ≠ 0 ∧ o % 64 = 12 ∧ 3 = 3 ∧ (True) ∧ fz o 9 = none) ∧ X fz d k Q is ls st (hset h o 9 v)) := rfl
theorem x_pc_12371 {fz : Int → Int → Option Int} {d k : Nat} {Q : Int → HV → Prop} {is : List Instr} {h : HV} {ls st : List AV} {o v : Int} : X fz d k Q (.if_acmp .eq 12371 :: is) ls ((3, v) :: (3, o) :: st) h = ((o ≠ 0 ∧ o % 64 = 12 ∧ 3 = 3 ∧ (True) ∧ fz o 10 = none) ∧ X fz d k Q is ls st (hset h o 10 v)) := rfl
theorem x_pc_12379 {fz : Int → Int → Option Int} {d k : Nat} {Q : Int → HV → Prop} {is : List Instr} {h : HV} {ls st : List AV} {o v : Int} : X fz d k Q (.if_acmp .eq 12379 :: is) ls ((3, v) :: (3, o) :: st) h = ((o ≠ 0 ∧ o % 64 = 12 ∧ 3 = 3 ∧ (True) ∧ fz o 11 = none) ∧ X fz d k Q is ls st (hset h o 11 v)) := rfl
theorem x_pc_12387 {fz : Int → Int → Option Int} {d k : Nat} {Q : Int → HV → Prop} {is : List Instr} {h : HV} {ls st : List AV} {o v : Int} : X fz d k Q (.if_acmp .eq 12387 :: is) ls ((3, v) :: (3, o) :: st) h = ((o ≠ 0 ∧ o % 64 = 12 ∧ 3 = 3 ∧ (True) ∧ fz o 12 = none) ∧ X fz d k Q is ls st (hset h o 12 v)) := rfl
theorem x_pc_12395 {fz : Int → Int → Option Int} {d k : Nat} {Q : Int → HV → Prop} {is : List Instr} {h : HV} {ls st : List AV} {o v : Int} : X fz d k Q (.if_acmp .eq 12395 :: is) ls ((3, v) :: (3, o) :: st) h = ((o ≠ 0 ∧ o % 64 = 12 ∧ 3 = 3 ∧ (True) ∧ fz o 13 = none) ∧ X fz d k Q is ls st (hset h o 13 v)) := rfl
theorem x_pc_12419 {fz : Int → Int → Option Int} {d k : Nat} {Q : Int → HV → Prop} {is : List Instr} {h : HV} {ls st : List AV} {o v : Int} : X fz d k Q (.if_acmp .eq 12419 :: is) ls ((3, v) :: (3, o) :: st) h = ((o ≠ 0 ∧ o % 64 = 12 ∧ 3 = 3 ∧ (True) ∧ fz o 16 = none) ∧ X fz d k Q is ls st (hset h o 16 v)) := rfl
theorem x_pc_12427 {fz : Int → Int → Option Int} {d k : Nat} {Q : Int → HV → Prop} {is : List Instr} {h : HV} {ls st : List AV} {o v : Int} : X fz d k Q (.if_acmp .eq 12427 :: is) ls ((3, v) :: (3, o) :: st) h = ((o ≠ 0 ∧ o % 64 = 12 ∧ 3 = 3 ∧ (True) ∧ fz o 17 = none) ∧ X fz d k Q is ls st (hset h o 17 v)) := rfl
theorem x_pc_12435 {fz : Int → Int → Option Int} {d k : Nat} {Q : Int → HV → Prop} {is : List Instr} {h : HV} {ls st : List AV} {o v : Int} : X fz d k Q (.if_acmp .eq 12435 :: is) ls ((3, v) :: (3, o) :: st) h = ((o ≠ 0 ∧ o % 64 = 12 ∧ 3 = 3 ∧ (True) ∧ fz o 18 = none) ∧ X fz d k Q is ls st (hset h o 18 v)) := rfl
theorem x_pc_12443 {fz : Int → Int → Option Int} {d k : Nat} {Q : Int → HV → Prop} {is : List Instr} {h : HV} {ls st : List AV} {o v : Int} : X fz d k Q (.if_acmp .eq 12443 :: is) ls ((3, v) :: (3, o) :: st) h = ((o ≠ 0 ∧ o % 64 = 12 ∧ 3 = 3 ∧ (True) ∧ fz o 19 = none) ∧ X fz d k Q is ls st (hset h o 19 v)) := rfl
theorem x_pc_12475 {fz : Int → Int → Option Int} {d k : Nat} {Q : Int → HV → Prop} {is : List Instr} {h : HV} {ls st : List AV} {o v : Int} : X fz d k Q (.if_acmp .eq 12475 :: is) ls ((3, v) :: (3, o) :: st) h = ((o ≠ 0 ∧ o % 64 = 12 ∧ 3 = 3 ∧ (True) ∧ fz o 23 = none) ∧ X fz d k Q is ls st (hset h o 23 v)) := rfl
theorem x_pc_12483 {fz : Int → Int → Option Int} {d k : Nat} {Q : Int → HV → Prop} {is : List Instr} {h : HV} {ls st : List AV} {o v : Int} : X fz d k Q (.if_acmp .eq 12483 :: is) ls ((3, v) :: (3, o) :: st) h = ((o ≠ 0 ∧ o % 64 = 12 ∧ 3 = 3 ∧ (True) ∧ fz o 24 = none) ∧ X fz d k Q is ls st (hset h o 24 v)) := rfl
theorem x_pc_19 {fz : Int → Int → Option Int} {d k : Nat} {Q : Int → HV → Prop} {is : List Instr} {h : HV} {ls st : List AV} {o v : Int} : X fz d k Q (.if_acmp .eq 19 :: is) ls ((3, v) :: (3, o) :: st) h = ((o ≠ 0 ∧ o % 64 = 0 ∧ 3 = 3 ∧ (True) ∧ fz o 2 = none) ∧ X fz d k Q is ls st (hset h o 2 v)) := rfl
theorem x_pc_2051 {fz : Int → Int → Option Int} {d k : Nat} {Q : Int → HV → Prop} {is : List Instr} {h : HV} {ls st : List AV} {o v : Int} : X fz d k Q (.if_acmp .eq 2051 :: is) ls ((3, v) :: (3, o) :: st) h = ((o ≠ 0 ∧ o % 64 = 2 ∧ 3 = 3 ∧ (True) ∧ fz o 0 = none) ∧ X fz d k Q is ls st (hset h o 0 v)) := rfl
theorem x_pc_2083 {fz : Int → Int → Option Int} {d k : Nat} {Q : Int → HV → Prop} {is : List Instr} {h : HV} {ls st : List AV} {o v : Int} : X fz d k Q (.if_acmp .eq 2083 :: is) ls ((3, v) :: (3, o) :: st) h = ((o ≠ 0 ∧ o % 64 = 2 ∧ 3 = 3 ∧ (True) ∧ fz o 4 = none) ∧ X fz d k Q is ls st (hset h o 4 v)) := rfl
theorem x_pc_2091 {fz : Int → Int → Option Int} {d k : Nat} {Q : Int → HV → Prop} {is : List Instr} {h : HV} {ls st : List AV} {o v : Int} : X fz d k Q (.if_acmp .eq 2091 :: is) ls ((3, v) :: (3, o) :: st) h = ((o ≠ 0 ∧ o % 64 = 2 ∧ 3 = 3 ∧ (True) ∧ fz o 5 = none) ∧ X fz d k Q is ls st (hset h o 5 v)) := rfl
theorem x_pc_2107 {fz : Int → Int → Option Int} {d k : Nat} {Q : Int → HV → Prop} {is : List Instr} {h : HV} {ls st : List AV} {o v : Int} : X fz d k Q (.if_acmp .eq 2107 :: is) ls ((3, v) :: (3, o) :: st) h = ((o ≠ 0 ∧ o % 64 = 2 ∧ 3 = 3 ∧ (True) ∧ fz o 7 = none) ∧ X fz d k Q is ls st (hset h o 7 v)) := rfl
theorem x_pc_2115 {fz : Int → Int → Option Int} {d k : Nat} {Q : Int → HV → Prop} {is : List Instr} {h : HV} {ls st : List AV} {o v : Int} : X fz d k Q (.if_acmp .eq 2115 :: is) ls ((3, v) :: (3, o) :: st) h = ((o ≠ 0 ∧ o % 64 = 2 ∧ 3 = 3 ∧ (True) ∧ fz o 8 = none) ∧ X fz d k Q is ls st (hset h o 8 v)) := rfl
theorem x_pc_2123 {fz : Int → Int → Option Int} {d k : Nat} {Q : Int → HV → Prop} {is : List Instr} {h : HV} {ls st : List AV} {o v : Int} : X fz d k Q (.if_acmp .eq 2123 :: is) ls ((3, v) :: (3, o) :: st) h = ((o ≠ 0 ∧ o % 64 = 2 ∧ 3 = 3 ∧ (True) ∧ fz o 9 = none) ∧ X fz d k Q is ls st (hset h o 9 v)) := rfl
theorem x_pc_27 {fz : Int → Int → Option Int} {d k : Nat} {Q : Int → HV → Prop} {is : List Instr} {h : HV} {ls st : List AV} {o v : Int} : X fz d k Q (.if_acmp .eq 27 :: is) ls ((3, v) :: (3, o) :: st) h = ((o ≠ 0 ∧ o % 64 = 0 ∧ 3 = 3 ∧ (True) ∧ fz o 3 = none) ∧ X fz d k Q is ls st (hset h o 3 v)) := rfl
theorem x_pc_3 {fz : Int → Int → Option Int} {d k : Nat} {Q : Int → HV → Prop} {is : List Instr} {h : HV} {ls st : List AV} {o v : Int} : X fz d k Q (.if_acmp .eq 3 :: is) ls ((3, v) :: (3, o) :: st) h = ((o ≠ 0 ∧ o % 64 = 0 ∧ 3 = 3 ∧ (True) ∧ fz o 0 = none) ∧ X fz d k Q is ls st (hset h o 0 v)) := rfl
theorem x_pc_35 {fz : Int → Int → Option Int} {d k : Nat} {Q : Int → HV → Prop} {is : List Instr} {h : HV} {ls st : List AV} {o v : Int} : X fz d k Q (.if_acmp .eq 35 :: is) ls ((3, v) :: (3, o) :: st) h = ((o ≠ 0 ∧ o % 64 = 0 ∧ 3 = 3 ∧ (True) ∧ fz o 4 = none) ∧ X fz d k Q is ls st (hset h o 4 v)) := rfl
theorem x_pc_4099 {fz : Int → Int → Option Int} {d k : Nat} {Q : Int → HV → Prop} {is : List Instr} {h : HV} {ls st : List AV} {o v : Int} : X fz d k Q (.if_acmp .eq 4099 :: is) ls ((3, v) :: (3, o) :: st) h = ((o ≠ 0 ∧ o % 64 = 4 ∧ 3 = 3 ∧ (True) ∧ fz o 0 = none) ∧ X fz d k Q is ls st (hset h o 0 v)) := rfl
theorem x_pc_4107 {fz : Int → Int → Option Int} {d k : Nat} {Q : Int → HV → Prop} {is : List Instr} {h : HV} {ls st : List AV} {o v : Int} : X fz d k Q (.if_acmp .eq 4107 :: is) ls ((3, v) :: (3, o) :: st) h = ((o ≠ 0 ∧ o % 64 = 4 ∧ 3 = 3 ∧ (True) ∧ fz o 1 = none) ∧ X fz d k Q is ls st (hset h o 1 v)) := rfl
theorem x_pc_4115 {fz : Int → Int → Option Int} {d k : Nat} {Q : Int → HV → Prop} {is : List Instr} {h : HV} {ls st : List AV} {o v : Int} : X fz d k Q (.if_acmp .eq 4115 :: is) ls ((3, v) :: (3, o) :: st) h = ((o ≠ 0 ∧ o % 64 = 4 ∧ 3 = 3 ∧ (True) ∧ fz o 2 = none) ∧ X fz d k Q is ls st (hset h o 2 v)) := rfl
theorem x_pc_4123 {fz : Int → Int → Option Int} {d k : Nat} {Q : Int → HV → Prop} {is : List Instr} {h : HV} {ls st : List AV} {o v : Int} : X fz d k Q (.if_acmp .eq 4123 :: is) ls ((3, v) :: (3, o) :: st) h = ((o ≠ 0 ∧ o % 64 = 4 ∧ 3 = 3 ∧ (True) ∧ fz o 3 = none) ∧ X fz d k Q is ls st (hset h o 3 v)) := rfl
theorem x_pc_43 {fz : Int → Int → Option Int} {d k : Nat} {Q : Int → HV → Prop} {is : List Instr} {h : HV} {ls st : List AV} {o v : Int} : X fz d k Q (.if_acmp .eq 43 :: is) ls ((3, v) :: (3, o) :: st) h = ((o ≠ 0 ∧ o % 64 = 0 ∧ 3 = 3 ∧ (True) ∧ fz o 5 = none) ∧ X fz d k Q is ls st (hset h o 5 v)) := rfl
theorem x_pc_51 {fz : Int → Int → Option Int} {d k : Nat} {Q : Int → HV → Prop} {is : List Instr} {h : HV} {ls st : List AV} {o v : Int} : X fz d k Q (.if_acmp .eq 51 :: is) ls ((3, v) :: (3, o) :: st) h = ((o ≠ 0 ∧ o % 64 = 0 ∧ 3 = 3 ∧ (True) ∧ fz o 6 = none) ∧ X fz d k Q is ls st (hset h o 6 v)) := rfl
theorem x_pc_5123 {fz : Int → Int → Option Int} {d k : Nat} {Q : Int → HV → Prop} {is : List Instr} {h : HV} {ls st : List AV} {o v : Int} : X fz d k Q (.if_acmp .eq 5123 :: is) ls ((3, v) :: (3, o) :: st) h = ((o ≠ 0 ∧ o % 64 = 5 ∧ 3 = 3 ∧ (True) ∧ fz o 0 = none) ∧ X fz d k Q is ls st (hset h o 0 v)) := rfl
theorem x_pc_5131 {fz : Int → Int → Option Int} {d k : Nat} {Q : Int → HV → Prop} {is : List Instr} {h : HV} {ls st : List AV} {o v : Int} : X fz d k Q (.if_acmp .eq 5131 :: is) ls ((3, v) :: (3, o) :: st) h = ((o ≠ 0 ∧ o % 64 = 5 ∧ 3 = 3 ∧ (True) ∧ fz o 1 = none) ∧ X fz d k Q is ls st (hset h o 1 v)) := rfl
theorem x_pc_5139 {fz : Int → Int → Option Int} {d k : Nat} {Q : Int → HV → Prop} {is : List Instr} {h : HV} {ls st : List AV} {o v : Int} : X fz d k Q (.if_acmp .eq 5139 :: is) ls ((3, v) :: (3, o) :: st) h = ((o ≠ 0 ∧ o % 64 = 5 ∧ 3 = 3 ∧ (True) ∧ fz o 2 = none) ∧ X fz d k Q is ls st (hset h o 2 v)) := rfl
theorem x_pc_5171 {fz : Int → Int → Option Int} {d k : Nat} {Q : Int → HV → Prop} {is : List Instr} {h : HV} {ls st : List AV} {o v : Int} : X fz d k Q (.if_acmp .eq 5171 :: is) ls ((3, v) :: (3, o) :: st) h = ((o ≠ 0 ∧ o % 64 = 5 ∧ 3 = 3 ∧ (True) ∧ fz o 6 = none) ∧ X fz d k Q is ls st (hset h o 6 v)) := rfl
theorem x_pc_5179 {fz : Int → Int → Option Int} {d k : Nat} {Q : Int → HV → Prop} {is : List Instr} {h : HV} {ls st : List AV} {o v : Int} : X fz d k Q (.if_acmp .eq 5179 :: is) ls ((3, v) :: (3, o) :: st) h = ((o ≠ 0 ∧ o % 64 = 5 ∧ 3 = 3 ∧ (True) ∧ fz o 7 = none) ∧ X fz d k Q is ls st (hset h o 7 v)) := rfl
theorem x_pc_5195 {fz : Int → Int → Option Int} {d k : Nat} {Q : Int → HV → Prop} {is : List Instr} {h : HV} {ls st : List AV} {o v : Int} : X fz d k Q (.if_acmp .eq 5195 :: is) ls ((3, v) :: (3, o) :: st) h = ((o ≠ 0 ∧ o % 64 = 5 ∧ 3 = 3 ∧ (True) ∧ fz o 9 = none) ∧ X fz d k Q is ls st (hset h o 9 v)) := rfl
theorem x_pc_5203 {fz : Int → Int → Option Int} {d k : Nat} {Q : Int → HV → Prop} {is : List Instr} {h : HV} {ls st : List AV} {o v : Int} : X fz d k Q (.if_acmp .eq 5203 :: is) ls ((3, v) :: (3, o) :: st) h = ((o ≠ 0 ∧ o % 64 = 5 ∧ 3 = 3 ∧ (True) ∧ fz o 10 = none) ∧ X fz d k Q is ls st (hset h o 10 v)) := rfl
theorem x_pc_5211 {fz : Int → Int → Option Int} {d k : Nat} {Q : Int → HV → Prop} {is : List Instr} {h : HV} {ls st : List AV} {o v : Int} : X fz d k Q (.if_acmp .eq 5211 :: is) ls ((3, v) :: (3, o) :: st) h = ((o ≠ 0 ∧ o % 64 = 5 ∧ 3 = 3 ∧ (True) ∧ fz o 11 = none) ∧ X fz d k Q is ls st (hset h o 11 v)) := rfl
theorem x_pc_5219 {fz : Int → Int → Option Int} {d k : Nat} {Q : Int → HV → Prop} {is : List Instr} {h : HV} {ls st : List AV} {o v : Int} : X fz d k Q (.if_acmp .eq 5219 :: is) ls ((3, v) :: (3, o) :: st) h = ((o ≠ 0 ∧ o % 64 = 5 ∧ 3 = 3 ∧ (True) ∧ fz o 12 = none) ∧ X fz d k Q is ls st (hset h o 12 v)) := rfl
theorem x_pc_5227 {fz : Int → Int → Option Int} {d k : Nat} {Q : Int → HV → Prop} {is : List Instr} {h : HV} {ls st : List AV} {o v : Int} : X fz d k Q (.if_acmp .eq 5227 :: is) ls ((3, v) :: (3, o) :: st) h = ((o ≠ 0 ∧ o % 64 = 5 ∧ 3 = 3 ∧ (True) ∧ fz o 13 = none) ∧ X fz d k Q is ls st (hset h o 13 v)) := rfl
theorem x_pc_5235 {fz : Int → Int → Option Int} {d k : Nat} {Q : Int → HV → Prop} {is : List Instr} {h : HV} {ls st : List AV} {o v : Int} : X fz d k Q (.if_acmp .eq 5235 :: is) ls ((3, v) :: (3, o) :: st) h = ((o ≠ 0 ∧ o % 64 = 5 ∧ 3 = 3 ∧ (True) ∧ fz o 14 = none) ∧ X fz d k Q is ls st (hset h o 14 v)) := rfl
theorem x_pc_59 {fz : Int → Int → Option Int} {d k : Nat} {Q : Int → HV → Prop} {is : List Instr} {h : HV} {ls st : List AV} {o v : Int} : X fz d k Q (.if_acmp .eq 59 :: is) ls ((3, v) :: (3, o) :: st) h = ((o ≠ 0 ∧ o % 64 = 0 ∧ 3 = 3 ∧ (True) ∧ fz o 7 = none) ∧ X fz d k Q is ls st (hset h o 7 v)) := rfl
theorem x_pc_7187 {fz : Int → Int → Option Int} {d k : Nat} {Q : Int → HV → Prop} {is : List Instr} {h : HV} {ls st : List AV} {o v : Int} : X fz d k Q (.if_acmp .eq 7187 :: is) ls ((3, v) :: (3, o) :: st) h = ((o ≠ 0 ∧ o % 64 = 7 ∧ 3 = 3 ∧ (True) ∧ fz o 2 = none) ∧ X fz d k Q is ls st (hset h o 2 v)) := rfl
theorem x_pc_7195 {fz : Int → Int → Option Int} {d k : Nat} {Q : Int → HV → Prop} {is : List Instr} {h : HV} {ls st : List AV} {o v : Int} : X fz d k Q (.if_acmp .eq 7195 :: is) ls ((3, v) :: (3, o) :: st) h = ((o ≠ 0 ∧ o % 64 = 7 ∧ 3 = 3 ∧ (True) ∧ fz o 3 = none) ∧ X fz d k Q is ls st (hset h o 3 v)) := rfl
theorem x_pc_7203 {fz : Int → Int → Option Int} {d k : Nat} {Q : Int → HV → Prop} {is : List Instr} {h : HV} {ls st : List AV} {o v : Int} : X fz d k Q (.if_acmp .eq 7203 :: is) ls ((3, v) :: (3, o) :: st) h = ((o ≠ 0 ∧ o % 64 = 7 ∧ 3 = 3 ∧ (True) ∧ fz o 4 = none) ∧ X fz d k Q is ls st (hset h o 4 v)) := rfl
theorem x_pc_7211 {fz : Int → Int → Option Int} {d k : Nat} {Q : Int → HV → Prop} {is : List Instr} {h : HV} {ls st : List AV} {o v : Int} : X fz d k Q (.if_acmp .eq 7211 :: is) ls ((3, v) :: (3, o) :: st) h = ((o ≠ 0 ∧ o % 64 = 7 ∧ 3 = 3 ∧ (True) ∧ fz o 5 = none) ∧ X fz d k Q is ls st (hset h o 5 v)) := rfl
theorem x_pc_7219 {fz : Int → Int → Option Int} {d k : Nat} {Q : Int → HV → Prop} {is : List Instr} {h : HV} {ls st : List AV} {o v : Int} : X fz d k Q (.if_acmp .eq 7219 :: is) ls ((3, v) :: (3, o) :: st) h = ((o ≠ 0 ∧ o % 64 = 7 ∧ 3 = 3 ∧ (True) ∧ fz o 6 = none) ∧ X fz d k Q is ls st (hset h o 6 v)) := rfl
theorem x_pc_7227 {fz : Int → Int → Option Int} {d k : Nat} {Q : Int → HV → Prop} {is : List Instr} {h : HV} {ls st : List AV} {o v : Int} : X fz d k Q (.if_acmp .eq 7227 :: is) ls ((3, v) :: (3, o) :: st) h = ((o ≠ 0 ∧ o % 64 = 7 ∧ 3 = 3 ∧ (True) ∧ fz o 7 = none) ∧ X fz d k Q is ls st (hset h o 7 v)) := rfl
theorem x_pc_7235 {fz : Int → Int → Option Int} {d k : Nat} {Q : Int → HV → Prop} {is : List Instr} {h : HV} {ls st : List AV} {o v : Int} : X fz d k Q (.if_acmp .eq 7235 :: is) ls ((3, v) :: (3, o) :: st) h = ((o ≠ 0 ∧ o % 64 = 7 ∧ 3 = 3 ∧ (True) ∧ fz o 8 = none) ∧ X fz d k Q is ls st (hset h o 8 v)) := rfl
theorem x_pc_7243 {fz : Int → Int → Option Int} {d k : Nat} {Q : Int → HV → Prop} {is : List Instr} {h : HV} {ls st : List AV} {o v : Int} : X fz d k Q (.if_acmp .eq 7243 :: is) ls ((3, v) :: (3, o) :: st) h = ((o ≠ 0 ∧ o % 64 = 7 ∧ 3 = 3 ∧ (True) ∧ fz o 9 = none) ∧ X fz d k Q is ls st (hset h o 9 v)) := rfl
theorem x_pc_7259 {fz : Int → Int → Option Int} {d k : Nat} {Q : Int → HV → Prop} {is : List Instr} {h : HV} {ls st : List AV} {o v : Int} : X fz d k Q (.if_acmp .eq 7259 :: is) ls ((3, v) :: (3, o) :: st) h = ((o ≠ 0 ∧ o % 64 = 7 ∧ 3 = 3 ∧ (True) ∧ fz o 11 = none) ∧ X fz d k Q is ls st (hset h o 11 v)) := rfl
theorem x_pc_8195 {fz : Int → Int → Option Int} {d k : Nat} {Q : Int → HV → Prop} {is : List Instr} {h : HV} {ls st : List AV} {o v : Int} : X fz d k Q (.if_acmp .eq 8195 :: is) ls ((3, v) :: (3, o) :: st) h = ((o ≠ 0 ∧ o % 64 = 8 ∧ 3 = 3 ∧ (True) ∧ fz o 0 = none) ∧ X fz d k Q is ls st (hset h o 0 v)) := rfl
theorem x_pc_8211 {fz : Int → Int → Option Int} {d k : Nat} {Q : Int → HV → Prop} {is : List Instr} {h : HV} {ls st : List AV} {o v : Int} : X fz d k Q (.if_acmp .eq 8211 :: is) ls ((3, v) :: (3, o) :: st) h = ((o ≠ 0 ∧ o % 64 = 8 ∧ 3 = 3 ∧ (True) ∧ fz o 2 = none) ∧ X fz d k Q is ls st (hset h o 2 v)) := rfl
theorem x_pc_8219 {fz : Int → Int → Option Int} {d k : Nat} {Q : Int → HV → Prop} {is : List Instr} {h : HV} {ls st : List AV} {o v : Int} : X fz d k Q (.if_acmp .eq 8219 :: is) ls ((3, v) :: (3, o) :: st) h = ((o ≠ 0 ∧ o % 64 = 8 ∧ 3 = 3 ∧ (True) ∧ fz o 3 = none) ∧ X fz d k Q is ls st (hset h o 3 v)) := rfl
theorem x_pc_8235 {fz : Int → Int → Option Int} {d k : Nat} {Q : Int → HV → Prop} {is : List Instr} {h : HV} {ls st : List AV} {o v : Int} : X fz d k Q (.if_acmp .eq 8235 :: is) ls ((3, v) :: (3, o) :: st) h = ((o ≠ 0 ∧ o % 64 = 8 ∧ 3 = 3 ∧ (True) ∧ fz o 5 = none) ∧ X fz d k Q is ls st (hset h o 5 v)) := rfl
theorem x_pc_8251 {fz : Int → Int → Option Int} {d k : Nat} {Q : Int → HV → Prop} {is : List Instr} {h : HV} {ls st : List AV} {o v : Int} : X fz d k Q (.if_acmp .eq 8251 :: is) ls ((3, v) :: (3, o) :: st) h = ((o ≠ 0 ∧ o % 64 = 8 ∧ 3 = 3 ∧ (True) ∧ fz o 7 = none) ∧ X fz d k Q is ls st (hset h o 7 v)) := rfl
theorem x_pc_8259 {fz : Int → Int → Option Int} {d k : Nat} {Q : Int → HV → Prop} {is : List Instr} {h : HV} {ls st : List AV} {o v : Int} : X fz d k Q (.if_acmp .eq 8259 :: is) ls ((3, v) :: (3, o) :: st) h = ((o ≠ 0 ∧ o % 64 = 8 ∧ 3 = 3 ∧ (True) ∧ fz o 8 = none) ∧ X fz d k Q is ls st (hset h o 8 v)) := rfl
theorem x_pc_9219 {fz : Int → Int → Option Int} {d k : Nat} {Q : Int → HV → Prop} {is : List Instr} {h : HV} {ls st : List AV} {o v : Int} : X fz d k Q (.if_acmp .eq 9219 :: is) ls ((3, v) :: (3, o) :: st) h = ((o ≠ 0 ∧ o % 64 = 9 ∧ 3 = 3 ∧ (True) ∧ fz o 0 = none) ∧ X fz d k Q is ls st (hset h o 0 v)) := rfl
theorem x_pc_9235 {fz : Int → Int → Option Int} {d k : Nat} {Q : Int → HV → Prop} {is : List Instr} {h : HV} {ls st : List AV} {o v : Int} : X fz d k Q (.if_acmp .eq 9235 :: is) ls ((3, v) :: (3, o) :: st) h = ((o ≠ 0 ∧ o % 64 = 9 ∧ 3 = 3 ∧ (True) ∧ fz o 2 = none) ∧ X fz d k Q is ls st (hset h o 2 v)) := rfl
theorem x_pc_9243 {fz : Int → Int → Option Int} {d k : Nat} {Q : Int → HV → Prop} {is : List Instr} {h : HV} {ls st : List AV} {o v : Int} : X fz d k Q (.if_acmp .eq 9243 :: is) ls ((3, v) :: (3, o) :: st) h = ((o ≠ 0 ∧ o % 64 = 9 ∧ 3 = 3 ∧ (True) ∧ fz o 3 = none) ∧ X fz d k Q is ls st (hset h o 3 v)) := rfl
theorem x_pc_9251 {fz : Int → Int → Option Int} {d k : Nat} {Q : Int → HV → Prop} {is : List Instr} {h : HV} {ls st : List AV} {o v : Int} : X fz d k Q (.if_acmp .eq 9251 :: is) ls ((3, v) :: (3, o) :: st) h = ((o ≠ 0 ∧ o % 64 = 9 ∧ 3 = 3 ∧ (True) ∧ fz o 4 = none) ∧ X fz d k Q is ls st (hset h o 4 v)) := rfl
theorem x_pc_9259 {fz : Int → Int → Option Int} {d k : Nat} {Q : Int → HV → Prop} {is : List Instr} {h : HV} {ls st : List AV} {o v : Int} : X fz d k Q (.if_acmp .eq 9259 :: is) ls ((3, v) :: (3, o) :: st) h = ((o ≠ 0 ∧ o % 64 = 9 ∧ 3 = 3 ∧ (True) ∧ fz o 5 = none) ∧ X fz d k Q is ls st (hset h o 5 v)) := rfl
theorem x_pc_9275 {fz : Int → Int → Option Int} {d k : Nat} {Q : Int → HV → Prop} {is : List Instr} {h : HV} {ls st : List AV} {o v : Int} : X fz d k Q (.if_acmp .eq 9275 :: is) ls ((3, v) :: (3, o) :: st) h = ((o ≠ 0 ∧ o % 64 = 9 ∧ 3 = 3 ∧ (True) ∧ fz o 7 = none) ∧ X fz d k Q is ls st (hset h o 7 v)) := rfl
theorem x_pc_9283 {fz : Int → Int → Option Int} {d k : Nat} {Q : Int → HV → Prop} {is : List Instr} {h : HV} {ls st : List AV} {o v : Int} : X fz d k Q (.if_acmp .eq 9283 :: is) ls ((3, v) :: (3, o) :: st) h = ((o ≠ 0 ∧ o % 64 = 9 ∧ 3 = 3 ∧ (True) ∧ fz o 8 = none) ∧ X fz d k Q is ls st (hset h o 8 v)) := rfl
theorem x_pc_9291 {fz : Int → Int → Option Int} {d k : Nat} {Q : Int → HV → Prop} {is : List Instr} {h : HV} {ls st : List AV} {o v : Int} : X fz d k Q (.if_acmp .eq 9291 :: is) ls ((3, v) :: (3, o) :: st) h = ((o ≠ 0 ∧ o % 64 = 9 ∧ 3 = 3 ∧ (True) ∧ fz o 9 = none) ∧ X fz d k Q is ls st (hset h o 9 v)) := rfl
theorem x_pf_1032 {fz : Int → Int → Option Int} {d k : Nat} {Q : Int → HV → Prop} {is : List Instr} {h : HV} {ls st : List AV} {o v : Int} : X fz d k Q (.jsr_w 1032 :: is) ls ((0, v) :: (3, o) :: st) h = ((o ≠ 0 ∧ o % 64 = 1 ∧ 0 = 0 ∧ True) ∧ X fz d k Q is ls st (hset h o 1 v)) := rfl
theorem x_pf_10328 {fz : Int → Int → Option Int} {d k : Nat} {Q : Int → HV → Prop} {is : List Instr} {h : HV} {ls st : List AV} {o v : Int} : X fz d k Q (.jsr_w 10328 :: is) ls ((0, v) :: (3, o) :: st) h = ((o ≠ 0 ∧ o % 64 = 10 ∧ 0 = 0 ∧ True) ∧ X fz d k Q is ls st (hset h o 11 v)) := rfl
theorem x_pf_10360 {fz : Int → Int → Option Int} {d k : Nat} {Q : Int → HV → Prop} {is : List Instr} {h : HV} {ls st : List AV} {o v : Int} : X fz d k Q (.jsr_w 10360 :: is) ls ((0, v) :: (3, o) :: st) h = ((o ≠ 0 ∧ o % 64 = 10 ∧ 0 = 0 ∧ True) ∧ X fz d k Q is ls st (hset h o 15 v)) := rfl
theorem x_pf_10376 {fz : Int → Int → Option Int} {d k : Nat} {Q : Int → HV → Prop} {is : List Instr} {h : HV} {ls st : List AV} {o v : Int} : X fz d k Q (.jsr_w 10376 :: is) ls ((0, v) :: (3, o) :: st) h = ((o ≠ 0 ∧ o % 64 = 10 ∧ 0 = 0 ∧ True) ∧ X fz d k Q is ls st (hset h o 17 v)) := rfl
theorem x_pf_1040 {fz : Int → Int → Option Int} {d k : Nat} {Q : Int → HV → Prop} {is : List Instr} {h : HV} {ls st : List AV} {o v : Int} : X fz d k Q (.jsr_w 1040 :: is) ls ((0, v) :: (3, o) :: st) h = ((o ≠ 0 ∧ o % 64 = 1 ∧ 0 = 0 ∧ True) ∧ X fz d k Q is ls st (hset h o 2 v)) := rfl
theorem x_pf_1048 {fz : Int → Int → Option Int} {d k : Nat} {Q : Int → HV → Prop} {is : List Instr} {h : HV} {ls st : List AV} {o v : Int} : X fz d k Q (.jsr_w 1048 :: is) ls ((0, v) :: (3, o) :: st) h = ((o ≠ 0 ∧ o % 64 = 1 ∧ 0 = 0 ∧ True) ∧ X fz d k Q is ls st (hset h o 3 v)) := rfl
theorem x_pf_1056 {fz : Int → Int → Option Int} {d k : Nat} {Q : Int → HV → Prop} {is : List Instr} {h : HV} {ls st : List AV} {o v : Int} : X fz d k Q (.jsr_w 1056 :: is) ls ((0, v) :: (3, o) :: st) h = ((o ≠ 0 ∧ o % 64 = 1 ∧ 0 = 0 ∧ True) ∧ X fz d k Q is ls st (hset h o 4 v)) := rfl
theorem x_pf_1064 {fz : Int → Int → Option Int} {d k : Nat} {Q : Int → HV → Prop} {is : List Instr} {h : HV} {ls st : List AV} {o v : Int} : X fz d k Q (.jsr_w 1064 :: is) ls ((0, v) :: (3, o) :: st) h = ((o ≠ 0 ∧ o % 64 = 1 ∧ 0 = 0 ∧ True) ∧ X fz d k Q is ls st (hset h o 5 v)) := rfl
theorem x_pf_1073 {fz : Int → Int → Option Int} {d k : Nat} {Q : Int → HV → Prop} {is : List Instr} {h : HV} {ls st : List AV} {o v : Int} : X fz d k Q (.jsr_w 1073 :: is) ls ((1, v) :: (3, o) :: st) h = ((o ≠ 0 ∧ o % 64 = 1 ∧ 1 = 1 ∧ True) ∧ X fz d k Q is ls st (hset h o 6 v)) := rfl
theorem x_pf_1081 {fz : Int → Int → Option Int} {d k : Nat} {Q : Int → HV → Prop} {is : List Instr} {h : HV} {ls st : List AV} {o v : Int} : X fz d k Q (.jsr_w 1081 :: is) ls ((1, v) :: (3, o) :: st) h = ((o ≠ 0 ∧ o % 64 = 1 ∧ 1 = 1 ∧ True) ∧ X fz d k Q is ls st (hset h o 7 v)) := rfl
theorem x_pf_1088 {fz : Int → Int → Option Int} {d k : Nat} {Q : Int → HV → Prop} {is : List Instr} {h : HV} {ls st : List AV} {o v : Int} : X fz d k Q (.jsr_w 1088 :: is) ls ((0, v) :: (3, o) :: st) h = ((o ≠ 0 ∧ o % 64 = 1 ∧ 0 = 0 ∧ True) ∧ X fz d k Q is ls st (hset h o 8 v)) := rfl
theorem x_pf_1101 {fz : Int → Int → Option Int} {d k : Nat} {Q : Int → HV → Prop} {is : List Instr} {h : HV} {ls st : List AV} {o v : Int} : X fz d k Q (.jsr_w 1101 :: is) ls ((0, v) :: (3, o) :: st) h = ((o ≠ 0 ∧ o % 64 = 1 ∧ 0 = 0 ∧ 0 ≤ v ∧ v ≤ 65535) ∧ X fz d k Q is ls st (hset h o 9 v)) := rfl
theorem x_pf_11272 {fz : Int → Int → Option Int} {d k : Nat} {Q : Int → HV → Prop} {is : List Instr} {h : HV} {ls st : List AV} {o v : Int} : X fz d k Q (.jsr_w 11272 :: is) ls ((0, v) :: (3, o) :: st) h = ((o ≠ 0 ∧ o % 64 = 11 ∧ 0 = 0 ∧ True) ∧ X fz d k Q is ls st (hset h o 1 v)) := rfl
theorem x_pf_11280 {fz : Int → Int → Option Int} {d k : Nat} {Q : Int → HV → Prop} {is : List Instr} {h : HV} {ls st : List AV} {o v : Int} : X fz d k Q (.jsr_w 11280 :: is) ls ((0, v) :: (3, o) :: st) h = ((o ≠ 0 ∧ o % 64 = 11 ∧ 0 = 0 ∧ True) ∧ X fz d k Q is ls st (hset h o 2 v)) := rfl
theorem x_pf_11288 {fz : Int → Int → Option Int} {d k : Nat} {Q : Int → HV → Prop} {is : List Instr} {h : HV} {ls st : List AV} {o v : Int} : X fz d k Q (.jsr_w 11288 :: is) ls ((0, v) :: (3, o) :: st) h = ((o ≠ 0 ∧ o % 64 = 11 ∧ 0 = 0 ∧ True) ∧ X fz d k Q is ls st (hset h o 3 v)) := rfl
theorem x_pf_11296 {fz : Int → Int → Option Int} {d k : Nat} {Q : Int → HV → Prop} {is : List Instr} {h : HV} {ls st : List AV} {o v : Int} : X fz d k Q (.jsr_w 11296 :: is) ls ((0, v) :: (3, o) :: st) h = ((o ≠ 0 ∧ o % 64 = 11 ∧ 0 = 0 ∧ True) ∧ X fz d k Q is ls st (hset h o 4 v)) := rfl
theorem x_pf_11304 {fz : Int → Int → Option Int} {d k : Nat} {Q : Int → HV → Prop} {is : List Instr} {h : HV} {ls st : List AV} {o v : Int} : X fz d k Q (.jsr_w 11304 :: is) ls ((0, v) :: (3, o) :: st) h = ((o ≠ 0 ∧ o % 64 = 11 ∧ 0 = 0 ∧ True) ∧ X fz d k Q is ls st (hset h o 5 v)) := rfl
theorem x_pf_11314 {fz : Int → Int → Option Int} {d k : Nat} {Q : Int → HV → Prop} {is : List Instr} {h : HV} {ls st : List AV} {o v : Int} : X fz d k Q (.jsr_w 11314 :: is) ls ((2, v) :: (3, o) :: st) h = ((o ≠ 0 ∧ o % 64 = 11 ∧ 2 = 2 ∧ True) ∧ X fz d k Q is ls st (hset h o 6 v)) := rfl
theorem x_pf_11320 {fz : Int → Int → Option Int} {d k : Nat} {Q : Int → HV → Prop} {is : List Instr} {h : HV} {ls st : List AV} {o v : Int} : X fz d k Q (.jsr_w 11320 :: is) ls ((0, v) :: (3, o) :: st) h = ((o ≠ 0 ∧ o % 64 = 11 ∧ 0 = 0 ∧ True) ∧ X fz d k Q is ls st (hset h o 7 v)) := rfl
theorem x_pf_11328 {fz : Int → Int → Option Int} {d k : Nat} {Q : Int → HV → Prop} {is : List Instr} {h : HV} {ls st : List AV} {o v : Int} : X fz d k Q (.jsr_w 11328 :: is) ls ((0, v) :: (3, o) :: st) h = ((o ≠ 0 ∧ o % 64 = 11 ∧ 0 = 0 ∧ True) ∧ X fz d k Q is ls st (hset h o 8 v)) := rfl
theorem x_pf_11339 {fz : Int → Int → Option Int} {d k : Nat} {Q : Int → HV → Prop} {is : List Instr} {h : HV} {ls st : List AV} {o v : Int} : X fz d k Q (.jsr_w 11339 :: is) ls ((3, v) :: (3, o) :: st) h = ((o ≠ 0 ∧ o % 64 = 11 ∧ 3 = 3 ∧ True) ∧ X fz d k Q is ls st (hset h o 9 v)) := rfl
theorem x_pf_11347 {fz : Int → Int → Option Int} {d k : Nat} {Q : Int → HV → Prop} {is : List Instr} {h : HV} {ls st : List AV} {o v : Int} : X fz d k Q (.jsr_w 11347 :: is) ls ((3, v) :: (3, o) :: st) h = ((o ≠ 0 ∧ o % 64 = 11 ∧ 3 = 3 ∧ True) ∧ X fz d k Q is ls st (hset h o 10 v)) := rfl
theorem x_pf_11360 {fz : Int → Int → Option Int} {d k : Nat} {Q : Int → HV → Prop} {is : List Instr} {h : HV} {ls st : List AV} {o v : Int} : X fz d k Q (.jsr_w 11360 :: is) ls ((0, v) :: (3, o) :: st) h = ((o ≠ 0 ∧ o % 64 = 11 ∧ 0 = 0 ∧ True) ∧ X fz d k Q is ls st (hset h o 12 v)) := rfl
theorem x_pf_11368 {fz : Int → Int → Option Int} {d k : Nat} {Q : Int → HV → Prop} {is : List Instr} {h : HV} {ls st : List AV} {o v : Int} : X fz d k Q (.jsr_w 11368 :: is) ls ((0, v) :: (3, o) :: st) h = ((o ≠ 0 ∧ o % 64 = 11 ∧ 0 = 0 ∧ True) ∧ X fz d k Q is ls st (hset h o 13 v)) := rfl
theorem x_pf_11384 {fz : Int → Int → Option Int} {d k : Nat} {Q : Int → HV → Prop} {is : List Instr} {h : HV} {ls st : List AV} {o v : Int} : X fz d k Q (.jsr_w 11384 :: is) ls ((0, v) :: (3, o) :: st) h = ((o ≠ 0 ∧ o % 64 = 11 ∧ 0 = 0 ∧ True) ∧ X fz d k Q is ls st (hset h o 15 v)) := rfl
theorem x_pf_11416 {fz : Int → Int → Option Int} {d k : Nat} {Q : Int → HV → Prop} {is : List Instr} {h : HV} {ls st : List AV} {o v : Int} : X fz d k Q (.jsr_w 11416 :: is) ls ((0, v) :: (3, o) :: st) h = ((o ≠ 0 ∧ o % 64 = 11 ∧ 0 = 0 ∧ True) ∧ X fz d k Q is ls st (hset h o 19 v)) := rfl
theorem x_pf_11456 {fz : Int → Int → Option Int} {d k : Nat} {Q : Int → HV → Prop} {is : List Instr} {h : HV} {ls st : List AV} {o v : Int} : X fz d k Q (.jsr_w 11456 :: is) ls ((0, v) :: (3, o) :: st) h = ((o ≠ 0 ∧ o % 64 = 11 ∧ 0 = 0 ∧ True) ∧ X fz d k Q is ls st (hset h o 24 v)) := rfl
theorem x_pf_11464 {fz : Int → Int → Option Int} {d k : Nat} {Q : Int → HV → Prop} {is : List Instr} {h : HV} {ls st : List AV} {o v : Int} : X fz d k Q (.jsr_w 11464 :: is) ls ((0, v) :: (3, o) :: st) h = ((o ≠ 0 ∧ o % 64 = 11 ∧ 0 = 0 ∧ True) ∧ X fz d k Q is ls st (hset h o 25 v)) := rfl
theorem x_pf_11504 {fz : Int → Int → Option Int} {d k : Nat} {Q : Int → HV → Prop} {is : List Instr} {h : HV} {ls st : List AV} {o v : Int} : X fz d k Q (.jsr_w 11504 :: is) ls ((0, v) :: (3, o) :: st) h = ((o ≠ 0 ∧ o % 64 = 11 ∧ 0 = 0 ∧ True) ∧ X fz d k Q is ls st (hset h o 30 v)) := rfl
theorem x_pf_11552 {fz : Int → Int → Option Int} {d k : Nat} {Q : Int → HV → Prop} {is : List Instr} {h : HV} {ls st : List AV} {o v : Int} : X fz d k Q (.jsr_w 11552 :: is) ls ((0, v) :: (3, o) :: st) h = ((o ≠ 0 ∧ o % 64 = 11 ∧ 0 = 0 ∧ True) ∧ X fz d k Q is ls st (hset h o 36 v)) := rfl
theorem x_pf_11592 {fz : Int → Int → Option Int} {d k : Nat} {Q : Int → HV → Prop} {is : List Instr} {h : HV} {ls st : List AV} {o v : Int} : X fz d k Q (.jsr_w 11592 :: is) ls ((0, v) :: (3, o) :: st) h = ((o ≠ 0 ∧ o % 64 = 11 ∧ 0 = 0 ∧ True) ∧ X fz d k Q is ls st (hset h o 41 v)) := rfl
theorem x_pf_11616 {fz : Int → Int → Option Int} {d k : Nat} {Q : Int → HV → Prop} {is : List Instr} {h : HV} {ls st : List AV} {o v : Int} : X fz d k Q (.jsr_w 11616 :: is) ls ((0, v) :: (3, o) :: st) h = ((o ≠ 0 ∧ o % 64 = 11 ∧ 0 = 0 ∧ True) ∧ X fz d k Q is ls st (hset h o 44 v)) := rfl
theorem x_pf_11680 {fz : Int → Int → Option Int} {d k : Nat} {Q : Int → HV → Prop} {is : List Instr} {h : HV} {ls st : List AV} {o v : Int} : X fz d k Q (.jsr_w 11680 :: is) ls ((0, v) :: (3, o) :: st) h = ((o ≠ 0 ∧ o % 64 = 11 ∧ 0 = 0 ∧ True) ∧ X fz d k Q is ls st (hset h o 52 v)) := rfl
theorem x_pf_11688 {fz : Int → Int → Option Int} {d k : Nat} {Q : Int → HV → Prop} {is : List Instr} {h : HV} {ls st : List AV} {o v : Int} : X fz d k Q (.jsr_w 11688 :: is) ls ((0, v) :: (3, o) :: st) h = ((o ≠ 0 ∧ o % 64 = 11 ∧ 0 = 0 ∧ True) ∧ X fz d k Q is ls st (hset h o 53 v)) := rfl
theorem x_pf_11696 {fz : Int → Int → Option Int} {d k : Nat} {Q : Int → HV → Prop} {is : List Instr} {h : HV} {ls st : List AV} {o v : Int} : X fz d k Q (.jsr_w 11696 :: is) ls ((0, v) :: (3, o) :: st) h = ((o ≠ 0 ∧ o % 64 = 11 ∧ 0 = 0 ∧ True) ∧ X fz d k Q is ls st (hset h o 54 v)) := rfl
theorem x_pf_11704 {fz : Int → Int → Option Int} {d k : Nat} {Q : Int → HV → Prop} {is : List Instr} {h : HV} {ls st : List AV} {o v : Int} : X fz d k Q (.jsr_w 11704 :: is) ls ((0, v) :: (3, o) :: st) h = ((o ≠ 0 ∧ o % 64 = 11 ∧ 0 = 0 ∧ True) ∧ X fz d k Q is ls st (hset h o 55 v)) := rfl
theorem x_pf_11716 {fz : Int → Int → Option Int} {d k : Nat} {Q : Int → HV → Prop} {is : List Instr} {h : HV} {ls st : List AV} {o v : Int} : X fz d k Q (.jsr_w 11716 :: is) ls ((0, v) :: (3, o) :: st) h = ((o ≠ 0 ∧ o % 64 = 11 ∧ 0 = 0 ∧ 0 ≤ v ∧ v ≤ 1) ∧ X fz d k Q is ls st (hset h o 56 v)) := rfl
theorem x_pf_11720 {fz : Int → Int → Option Int} {d k : Nat} {Q : Int → HV → Prop} {is : List Instr} {h : HV} {ls st : List AV} {o v : Int} : X fz d k Q (.jsr_w 11720 :: is) ls ((0, v) :: (3, o) :: st) h = ((o ≠ 0 ∧ o % 64 = 11 ∧ 0 = 0 ∧ True) ∧ X fz d k Q is ls st (hset h o 57 v)) := rfl
theorem x_pf_11728 {fz : Int → Int → Option Int} {d k : Nat} {Q : Int → HV → Prop} {is : List Instr} {h : HV} {ls st : List AV} {o v : Int} : X fz d k Q (.jsr_w 11728 :: is) ls ((0, v) :: (3, o) :: st) h = ((o ≠ 0 ∧ o % 64 = 11 ∧ 0 = 0 ∧ True) ∧ X fz d k Q is ls st (hset h o 58 v)) := rfl
theorem x_pf_11737 {fz : Int → Int → Option Int} {d k : Nat} {Q : Int → HV → Prop} {is : List Instr} {h : HV} {ls st : List AV} {o v : Int} : X fz d k Q (.jsr_w 11737 :: is) ls ((1, v) :: (3, o) :: st) h = ((o ≠ 0 ∧ o % 64 = 11 ∧ 1 = 1 ∧ True) ∧ X fz d k Q is ls st (hset h o 59 v)) := rfl
theorem x_pf_11752 {fz : Int → Int → Option Int} {d k : Nat} {Q : Int → HV → Prop} {is : List Instr} {h : HV} {ls st : List AV} {o v : Int} : X fz d k Q (.jsr_w 11752 :: is) ls ((0, v) :: (3, o) :: st) h = ((o ≠ 0 ∧ o % 64 = 11 ∧ 0 = 0 ∧ True) ∧ X fz d k Q is ls st (hset h o 61 v)) := rfl
theorem x_pf_11784 {fz : Int → Int → Option Int} {d k : Nat} {Q : Int → HV → Prop} {is : List Instr} {h : HV} {ls st : List AV} {o v : Int} : X fz d k Q (.jsr_w 11784 :: is) ls ((0, v) :: (3, o) :: st) h = ((o ≠ 0 ∧ o % 64 = 11 ∧ 0 = 0 ∧ True) ∧ X fz d k Q is ls st (hset h o 65 v)) := rfl
theorem x_pf_11820 {fz : Int → Int → Option Int} {d k : Nat} {Q : Int → HV → Prop} {is : List Instr} {h : HV} {ls st : List AV} {o v : Int} : X fz d k Q (.jsr_w 11820 :: is) ls ((0, v) :: (3, o) :: st) h = ((o ≠ 0 ∧ o % 64 = 11 ∧ 0 = 0 ∧ 0 ≤ v ∧ v ≤ 1) ∧ X fz d k Q is ls st (hset h o 69 v)) := rfl
theorem x_pf_11828 {fz : Int → Int → Option Int} {d k : Nat} {Q : Int → HV → Prop} {is : List Instr} {h : HV} {ls st : List AV} {o v : Int} : X fz d k Q (.jsr_w 11828 :: is) ls ((0, v) :: (3, o) :: st) h = ((o ≠ 0 ∧ o % 64 = 11 ∧ 0 = 0 ∧ 0 ≤ v ∧ v ≤ 1) ∧ X fz d k Q is ls st (hset h o 70 v)) := rfl
theorem x_pf_11836 {fz : Int → Int → Option Int} {d k : Nat} {Q : Int → HV → Prop} {is : List Instr} {h : HV} {ls st : List AV} {o v : Int} : X fz d k Q (.jsr_w 11836 :: is) ls ((0, v) :: (3, o) :: st) h = ((o ≠ 0 ∧ o % 64 = 11 ∧ 0 = 0 ∧ 0 ≤ v ∧ v ≤ 1) ∧ X fz d k Q is ls st (hset h o 71 v)) := rfl
theorem x_pf_11840 {fz : Int → Int → Option Int} {d k : Nat} {Q : Int → HV → Prop} {is : List Instr} {h : HV} {ls st : List AV} {o v : Int} : X fz d k Q (.jsr_w 11840 :: is) ls ((0, v) :: (3, o) :: st) h = ((o ≠ 0 ∧ o % 64 = 11 ∧ 0 = 0 ∧ True) ∧ X fz d k Q is ls st (hset h o 72 v)) := rfl
theorem x_pf_11848 {fz : Int → Int → Option Int} {d k : Nat} {Q : Int → HV → Prop} {is : List Instr} {h : HV} {ls st : List AV} {o v : Int} : X fz d k Q (.jsr_w 11848 :: is) ls ((0, v) :: (3, o) :: st) h = ((o ≠ 0 ∧ o % 64 = 11 ∧ 0 = 0 ∧ True) ∧ X fz d k Q is ls st (hset h o 73 v)) := rfl
theorem x_pf_11956 {fz : Int → Int → Option Int} {d k : Nat} {Q : Int → HV → Prop} {is : List Instr} {h : HV} {ls st : List AV} {o v : Int} : X fz d k Q (.jsr_w 11956 :: is) ls ((0, v) :: (3, o) :: st) h = ((o ≠ 0 ∧ o % 64 = 11 ∧ 0 = 0 ∧ 0 ≤ v ∧ v ≤ 1) ∧ X fz d k Q is ls st (hset h o 86 v)) := rfl
theorem x_pf_12008 {fz : Int → Int → Option Int} {d k : Nat} {Q : Int → HV → Prop} {is : List Instr} {h : HV} {ls st : List AV} {o v : Int} : X fz d k Q (.jsr_w 12008 :: is) ls ((0, v) :: (3, o) :: st) h = ((o ≠ 0 ∧ o % 64 = 11 ∧ 0 = 0 ∧ True) ∧ X fz d k Q is ls st (hset h o 93 v)) := rfl
theorem x_pf_12400 {fz : Int → Int → Option Int} {d k : Nat} {Q : Int → HV → Prop} {is : List Instr} {h : HV} {ls st : List AV} {o v : Int} : X fz d k Q (.jsr_w 12400 :: is) ls ((0, v) :: (3, o) :: st) h = ((o ≠ 0 ∧ o % 64 = 12 ∧ 0 = 0 ∧ True) ∧ X fz d k Q is ls st (hset h o 14 v)) := rfl
theorem x_pf_12408 {fz : Int → Int → Option Int} {d k : Nat} {Q : Int → HV → Prop} {is : List Instr} {h : HV} {ls st : List AV} {o v : Int} : X fz d k Q (.jsr_w 12408 :: is) ls ((0, v) :: (3, o) :: st) h = ((o ≠ 0 ∧ o % 64 = 12 ∧ 0 = 0 ∧ True) ∧ X fz d k Q is ls st (hset h o 15 v)) := rfl
theorem x_pf_12448 {fz : Int → Int → Option Int} {d k : Nat} {Q : Int → HV → Prop} {is : List Instr} {h : HV} {ls st : List AV} {o v : Int} : X fz d k Q (.jsr_w 12448 :: is) ls ((0, v) :: (3, o) :: st) h = ((o ≠ 0 ∧ o % 64 = 12 ∧ 0 = 0 ∧ True) ∧ X fz d k Q is ls st (hset h o 20 v)) := rfl
theorem x_pf_12456 {fz : Int → Int → Option Int} {d k : Nat} {Q : Int → HV → Prop} {is : List Instr} {h : HV} {ls st : List AV} {o v : Int} : X fz d k Q (.jsr_w 12456 :: is) ls ((0, v) :: (3, o) :: st) h = ((o ≠ 0 ∧ o % 64 = 12 ∧ 0 = 0 ∧ True) ∧ X fz d k Q is ls st (hset h o 21 v)) := rfl
theorem x_pf_12464 {fz : Int → Int → Option Int} {d k : Nat} {Q : Int → HV → Prop} {is : List Instr} {h : HV} {ls st : List AV} {o v : Int} : X fz d k Q (.jsr_w 12464 :: is) ls ((0, v) :: (3, o) :: st) h = ((o ≠ 0 ∧ o % 64 = 12 ∧ 0 = 0 ∧ True) ∧ X fz d k Q is ls st (hset h o 22 v)) := rfl
theorem x_pf_128 {fz : Int → Int → Option Int} {d k : Nat} {Q : Int → HV → Prop} {is : List Instr} {h : HV} {ls st : List AV} {o v : Int} : X fz d k Q (.jsr_w 128 :: is) ls ((0, v) :: (3, o) :: st) h = ((o ≠ 0 ∧ o % 64 = 0 ∧ 0 = 0 ∧ True) ∧ X fz d k Q is ls st (hset h o 16 v)) := rfl
theorem x_pf_2059 {fz : Int → Int → Option Int} {d k : Nat} {Q : Int → HV → Prop} {is : List Instr} {h : HV} {ls st : List AV} {o v : Int} : X fz d k Q (.jsr_w 2059 :: is) ls ((3, v) :: (3, o) :: st) h = ((o ≠ 0 ∧ o % 64 = 2 ∧ 3 = 3 ∧ True) ∧ X fz d k Q is ls st (hset h o 1 v)) := rfl
theorem x_pf_2064 {fz : Int → Int → Option Int} {d k : Nat} {Q : Int → HV → Prop} {is : List Instr} {h : HV} {ls st : List AV} {o v : Int} : X fz d k Q (.jsr_w 2064 :: is) ls ((0, v) :: (3, o) :: st) h = ((o ≠ 0 ∧ o % 64 = 2 ∧ 0 = 0 ∧ True) ∧ X fz d k Q is ls st (hset h o 2 v)) := rfl
theorem x_pf_2072 {fz : Int → Int → Option Int} {d k : Nat} {Q : Int → HV → Prop} {is : List Instr} {h : HV} {ls st : List AV} {o v : Int} : X fz d k Q (.jsr_w 2072 :: is) ls ((0, v) :: (3, o) :: st) h = ((o ≠ 0 ∧ o % 64 = 2 ∧ 0 = 0 ∧ True) ∧ X fz d k Q is ls st (hset h o 3 v)) := rfl
theorem x_pf_2096 {fz : Int → Int → Option Int} {d k : Nat} {Q : Int → HV → Prop} {is : List Instr} {h : HV} {ls st : List AV} {o v : Int} : X fz d k Q (.jsr_w 2096 :: is) ls ((0, v) :: (3, o) :: st) h = ((o ≠ 0 ∧ o % 64 = 2 ∧ 0 = 0 ∧ True) ∧ X fz d k Q is ls st (hset h o 6 v)) := rfl
theorem x_pf_2128 {fz : Int → Int → Option Int} {d k : Nat} {Q : Int → HV → Prop} {is : List Instr} {h : HV} {ls st : List AV} {o v : Int} : X fz d k Q (.jsr_w 2128 :: is) ls ((0, v) :: (3, o) :: st) h = ((o ≠ 0 ∧ o % 64 = 2 ∧ 0 = 0 ∧ True) ∧ X fz d k Q is ls st (hset h o 10 v)) := rfl
theorem x_pf_3075 {fz : Int → Int → Option Int} {d k : Nat} {Q : Int → HV → Prop} {is : List Instr} {h : HV} {ls st : List AV} {o v : Int} : X fz d k Q (.jsr_w 3075 :: is) ls ((3, v) :: (3, o) :: st) h = ((o ≠ 0 ∧ o % 64 = 3 ∧ 3 = 3 ∧ True) ∧ X fz d k Q is ls st (hset h o 0 v)) := rfl
theorem x_pf_3083 {fz : Int → Int → Option Int} {d k : Nat} {Q : Int → HV → Prop} {is : List Instr} {h : HV} {ls st : List AV} {o v : Int} : X fz d k Q (.jsr_w 3083 :: is) ls ((3, v) :: (3, o) :: st) h = ((o ≠ 0 ∧ o % 64 = 3 ∧ 3 = 3 ∧ True) ∧ X fz d k Q is ls st (hset h o 1 v)) := rfl
theorem x_pf_3088 {fz : Int → Int → Option Int} {d k : Nat} {Q : Int → HV → Prop} {is : List Instr} {h : HV} {ls st : List AV} {o v : Int} : X fz d k Q (.jsr_w 3088 :: is) ls ((0, v) :: (3, o) :: st) h = ((o ≠ 0 ∧ o % 64 = 3 ∧ 0 = 0 ∧ True) ∧ X fz d k Q is ls st (hset h o 2 v)) := rfl
theorem x_pf_3096 {fz : Int → Int → Option Int} {d k : Nat} {Q : Int → HV → Prop} {is : List Instr} {h : HV} {ls st : List AV} {o v : Int} : X fz d k Q (.jsr_w 3096 :: is) ls ((0, v) :: (3, o) :: st) h = ((o ≠ 0 ∧ o % 64 = 3 ∧ 0 = 0 ∧ True) ∧ X fz d k Q is ls st (hset h o 3 v)) := rfl
theorem x_pf_4128 {fz : Int → Int → Option Int} {d k : Nat} {Q : Int → HV → Prop} {is : List Instr} {h : HV} {ls st : List AV} {o v : Int} : X fz d k Q (.jsr_w 4128 :: is) ls ((0, v) :: (3, o) :: st) h = ((o ≠ 0 ∧ o % 64 = 4 ∧ 0 = 0 ∧ True) ∧ X fz d k Q is ls st (hset h o 4 v)) := rfl
theorem x_pf_5147 {fz : Int → Int → Option Int} {d k : Nat} {Q : Int → HV → Prop} {is : List Instr} {h : HV} {ls st : List AV} {o v : Int} : X fz d k Q (.jsr_w 5147 :: is) ls ((3, v) :: (3, o) :: st) h = ((o ≠ 0 ∧ o % 64 = 5 ∧ 3 = 3 ∧ True) ∧ X fz d k Q is ls st (hset h o 3 v)) := rfl
theorem x_pf_5152 {fz : Int → Int → Option Int} {d k : Nat} {Q : Int → HV → Prop} {is : List Instr} {h : HV} {ls st : List AV} {o v : Int} : X fz d k Q (.jsr_w 5152 :: is) ls ((0, v) :: (3, o) :: st) h = ((o ≠ 0 ∧ o % 64 = 5 ∧ 0 = 0 ∧ True) ∧ X fz d k Q is ls st (hset h o 4 v)) := rfl
theorem x_pf_5160 {fz : Int → Int → Option Int} {d k : Nat} {Q : Int → HV → Prop} {is : List Instr} {h : HV} {ls st : List AV} {o v : Int} : X fz d k Q (.jsr_w 5160 :: is) ls ((0, v) :: (3, o) :: st) h = ((o ≠ 0 ∧ o % 64 = 5 ∧ 0 = 0 ∧ True) ∧ X fz d k Q is ls st (hset h o 5 v)) := rfl
theorem x_pf_5184 {fz : Int → Int → Option Int} {d k : Nat} {Q : Int → HV → Prop} {is : List Instr} {h : HV} {ls st : List AV} {o v : Int} : X fz d k Q (.jsr_w 5184 :: is) ls ((0, v) :: (3, o) :: st) h = ((o ≠ 0 ∧ o % 64 = 5 ∧ 0 = 0 ∧ True) ∧ X fz d k Q is ls st (hset h o 8 v)) := rfl
theorem x_pf_5240 {fz : Int → Int → Option Int} {d k : Nat} {Q : Int → HV → Prop} {is : List Instr} {h : HV} {ls st : List AV} {o v : Int} : X fz d k Q (.jsr_w 5240 :: is) ls ((0, v) :: (3, o) :: st) h = ((o ≠ 0 ∧ o % 64 = 5 ∧ 0 = 0 ∧ True) ∧ X fz d k Q is ls st (hset h o 15 v)) := rfl
theorem x_pf_5248 {fz : Int → Int → Option Int} {d k : Nat} {Q : Int → HV → Prop} {is : List Instr} {h : HV} {ls st : List AV} {o v : Int} : X fz d k Q (.jsr_w 5248 :: is) ls ((0, v) :: (3, o) :: st) h = ((o ≠ 0 ∧ o % 64 = 5 ∧ 0 = 0 ∧ True) ∧ X fz d k Q is ls st (hset h o 16 v)) := rfl
theorem x_pf_5256 {fz : Int → Int → Option Int} {d k : Nat} {Q : Int → HV → Prop} {is : List Instr} {h : HV} {ls st : List AV} {o v : Int} : X fz d k Q (.jsr_w 5256 :: is) ls ((0, v) :: (3, o) :: st) h = ((o ≠ 0 ∧ o % 64 = 5 ∧ 0 = 0 ∧ True) ∧ X fz d k Q is ls st (hset h o 17 v)) := rfl
theorem x_pf_5264 {fz : Int → Int → Option Int} {d k : Nat} {Q : Int → HV → Prop} {is : List Instr} {h : HV} {ls st : List AV} {o v : Int} : X fz d k Q (.jsr_w 5264 :: is) ls ((0, v) :: (3, o) :: st) h = ((o ≠ 0 ∧ o % 64 = 5 ∧ 0 = 0 ∧ True) ∧ X fz d k Q is ls st (hset h o 18 v)) := rfl
theorem x_pf_5272 {fz : Int → Int → Option Int} {d k : Nat} {Q : Int → HV → Prop} {is : List Instr} {h : HV} {ls st : List AV} {o v : Int} : X fz d k Q (.jsr_w 5272 :: is) ls ((0, v) :: (3, o) :: st) h = ((o ≠ 0 ∧ o % 64 = 5 ∧ 0 = 0 ∧ True) ∧ X fz d k Q is ls st (hset h o 19 v)) := rfl
theorem x_pf_5281 {fz : Int → Int → Option Int} {d k : Nat} {Q : Int → HV → Prop} {is : List Instr} {h : HV} {ls st : List AV} {o v : Int} : X fz d k Q (.jsr_w 5281 :: is) ls ((1, v) :: (3, o) :: st) h = ((o ≠ 0 ∧ o % 64 = 5 ∧ 1 = 1 ∧ True) ∧ X fz d k Q is ls st (hset h o 20 v)) := rfl
theorem x_pf_6147 {fz : Int → Int → Option Int} {d k : Nat} {Q : Int → HV → Prop} {is : List Instr} {h : HV} {ls st : List AV} {o v : Int} : X fz d k Q (.jsr_w 6147 :: is) ls ((3, v) :: (3, o) :: st) h = ((o ≠ 0 ∧ o % 64 = 6 ∧ 3 = 3 ∧ True) ∧ X fz d k Q is ls st (hset h o 0 v)) := rfl
theorem x_pf_6155 {fz : Int → Int → Option Int} {d k : Nat} {Q : Int → HV → Prop} {is : List Instr} {h : HV} {ls st : List AV} {o v : Int} : X fz d k Q (.jsr_w 6155 :: is) ls ((3, v) :: (3, o) :: st) h = ((o ≠ 0 ∧ o % 64 = 6 ∧ 3 = 3 ∧ True) ∧ X fz d k Q is ls st (hset h o 1 v)) := rfl
theorem x_pf_6160 {fz : Int → Int → Option Int} {d k : Nat} {Q : Int → HV → Prop} {is : List Instr} {h : HV} {ls st : List AV} {o v : Int} : X fz d k Q (.jsr_w 6160 :: is) ls ((0, v) :: (3, o) :: st) h = ((o ≠ 0 ∧ o % 64 = 6 ∧ 0 = 0 ∧ True) ∧ X fz d k Q is ls st (hset h o 2 v)) := rfl
theorem x_pf_67 {fz : Int → Int → Option Int} {d k : Nat} {Q : Int → HV → Prop} {is : List Instr} {h : HV} {ls st : List AV} {o v : Int} : X fz d k Q (.jsr_w 67 :: is) ls ((3, v) :: (3, o) :: st) h = ((o ≠ 0 ∧ o % 64 = 0 ∧ 3 = 3 ∧ True) ∧ X fz d k Q is ls st (hset h o 8 v)) := rfl
theorem x_pf_7171 {fz : Int → Int → Option Int} {d k : Nat} {Q : Int → HV → Prop} {is : List Instr} {h : HV} {ls st : List AV} {o v : Int} : X fz d k Q (.jsr_w 7171 :: is) ls ((3, v) :: (3, o) :: st) h = ((o ≠ 0 ∧ o % 64 = 7 ∧ 3 = 3 ∧ True) ∧ X fz d k Q is ls st (hset h o 0 v)) := rfl
theorem x_pf_7176 {fz : Int → Int → Option Int} {d k : Nat} {Q : Int → HV → Prop} {is : List Instr} {h : HV} {ls st : List AV} {o v : Int} : X fz d k Q (.jsr_w 7176 :: is) ls ((0, v) :: (3, o) :: st) h = ((o ≠ 0 ∧ o % 64 = 7 ∧ 0 = 0 ∧ True) ∧ X fz d k Q is ls st (hset h o 1 v)) := rfl
theorem x_pf_7248 {fz : Int → Int → Option Int} {d k : Nat} {Q : Int → HV → Prop} {is : List Instr} {h : HV} {ls st : List AV} {o v : Int} : X fz d k Q (.jsr_w 7248 :: is) ls ((0, v) :: (3, o) :: st) h = ((o ≠ 0 ∧ o % 64 = 7 ∧ 0 = 0 ∧ True) ∧ X fz d k Q is ls st (hset h o 10 v)) := rfl
theorem x_pf_7264 {fz : Int → Int → Option Int} {d k : Nat} {Q : Int → HV → Prop} {is : List Instr} {h : HV} {ls st : List AV} {o v : Int} : X fz d k Q (.jsr_w 7264 :: is) ls ((0, v) :: (3, o) :: st) h = ((o ≠ 0 ∧ o % 64 = 7 ∧ 0 = 0 ∧ True) ∧ X fz d k Q is ls st (hset h o 12 v)) := rfl
theorem x_pf_7276 {fz : Int → Int → Option Int} {d k : Nat} {Q : Int → HV → Prop} {is : List Instr} {h : HV} {ls st : List AV} {o v : Int} : X fz d k Q (.jsr_w 7276 :: is) ls ((0, v) :: (3, o) :: st) h = ((o ≠ 0 ∧ o % 64 = 7 ∧ 0 = 0 ∧ 0 ≤ v ∧ v ≤ 1) ∧ X fz d k Q is ls st (hset h o 13 v)) := rfl
theorem x_pf_7284 {fz : Int → Int → Option Int} {d k : Nat} {Q : Int → HV → Prop} {is : List Instr} {h : HV} {ls st : List AV} {o v : Int} : X fz d k Q (.jsr_w 7284 :: is) ls ((0, v) :: (3, o) :: st) h = ((o ≠ 0 ∧ o % 64 = 7 ∧ 0 = 0 ∧ 0 ≤ v ∧ v ≤ 1) ∧ X fz d k Q is ls st (hset h o 14 v)) := rfl
theorem x_pf_7288 {fz : Int → Int → Option Int} {d k : Nat} {Q : Int → HV → Prop} {is : List Instr} {h : HV} {ls st : List AV} {o v : Int} : X fz d k Q (.jsr_w 7288 :: is) ls ((0, v) :: (3, o) :: st) h = ((o ≠ 0 ∧ o % 64 = 7 ∧ 0 = 0 ∧ True) ∧ X fz d k Q is ls st (hset h o 15 v)) := rfl
theorem x_pf_75 {fz : Int → Int → Option Int} {d k : Nat} {Q : Int → HV → Prop} {is : List Instr} {h : HV} {ls st : List AV} {o v : Int} : X fz d k Q (.jsr_w 75 :: is) ls ((3, v) :: (3, o) :: st) h = ((o ≠ 0 ∧ o % 64 = 0 ∧ 3 = 3 ∧ True) ∧ X fz d k Q is ls st (hset h o 9 v)) := rfl
theorem x_pf_80 {fz : Int → Int → Option Int} {d k : Nat} {Q : Int → HV → Prop} {is : List Instr} {h : HV} {ls st : List AV} {o v : Int} : X fz d k Q (.jsr_w 80 :: is) ls ((0, v) :: (3, o) :: st) h = ((o ≠ 0 ∧ o % 64 = 0 ∧ 0 = 0 ∧ True) ∧ X fz d k Q is ls st (hset h o 10 v)) := rfl
theorem x_pf_8203 {fz : Int → Int → Option Int} {d k : Nat} {Q : Int → HV → Prop} {is : List Instr} {h : HV} {ls st : List AV} {o v : Int} : X fz d k Q (.jsr_w 8203 :: is) ls ((3, v) :: (3, o) :: st) h = ((o ≠ 0 ∧ o % 64 = 8 ∧ 3 = 3 ∧ True) ∧ X fz d k Q is ls st (hset h o 1 v)) := rfl
theorem x_pf_8228 {fz : Int → Int → Option Int} {d k : Nat} {Q : Int → HV → Prop} {is : List Instr} {h : HV} {ls st : List AV} {o v : Int} : X fz d k Q (.jsr_w 8228 :: is) ls ((0, v) :: (3, o) :: st) h = ((o ≠ 0 ∧ o % 64 = 8 ∧ 0 = 0 ∧ 0 ≤ v ∧ v ≤ 1) ∧ X fz d k Q is ls st (hset h o 4 v)) := rfl
theorem x_pf_8240 {fz : Int → Int → Option Int} {d k : Nat} {Q : Int → HV → Prop} {is : List Instr} {h : HV} {ls st : List AV} {o v : Int} : X fz d k Q (.jsr_w 8240 :: is) ls ((0, v) :: (3, o) :: st) h = ((o ≠ 0 ∧ o % 64 = 8 ∧ 0 = 0 ∧ True) ∧ X fz d k Q is ls st (hset h o 6 v)) := rfl
theorem x_pf_8264 {fz : Int → Int → Option Int} {d k : Nat} {Q : Int → HV → Prop} {is : List Instr} {h : HV} {ls st : List AV} {o v : Int} : X fz d k Q (.jsr_w 8264 :: is) ls ((0, v) :: (3, o) :: st) h = ((o ≠ 0 ∧ o % 64 = 8 ∧ 0 = 0 ∧ True) ∧ X fz d k Q is ls st (hset h o 9 v)) := rfl
theorem x_pf_8272 {fz : Int → Int → Option Int} {d k : Nat} {Q : Int → HV → Prop} {is : List Instr} {h : HV} {ls st : List AV} {o v : Int} : X fz d k Q (.jsr_w 8272 :: is) ls ((0, v) :: (3, o) :: st) h = ((o ≠ 0 ∧ o % 64 = 8 ∧ 0 = 0 ∧ True) ∧ X fz d k Q is ls st (hset h o 10 v)) := rfl
theorem x_pf_89 {fz : Int → Int → Option Int} {d k : Nat} {Q : Int → HV → Prop} {is : List Instr} {h : HV} {ls st : List AV} {o v : Int} : X fz d k Q (.jsr_w 89 :: is) ls ((1, v) :: (3, o) :: st) h = ((o ≠ 0 ∧ o % 64 = 0 ∧ 1 = 1 ∧ True) ∧ X fz d k Q is ls st (hset h o 11 v)) := rfl
theorem x_pf_9227 {fz : Int → Int → Option Int} {d k : Nat} {Q : Int → HV → Prop} {is : List Instr} {h : HV} {ls st : List AV} {o v : Int} : X fz d k Q (.jsr_w 9227 :: is) ls ((3, v) :: (3, o) :: st) h = ((o ≠ 0 ∧ o % 64 = 9 ∧ 3 = 3 ∧ True) ∧ X fz d k Q is ls st (hset h o 1 v)) := rfl
theorem x_pf_9268 {fz : Int → Int → Option Int} {d k : Nat} {Q : Int → HV → Prop} {is : List Instr} {h : HV} {ls st : List AV} {o v : Int} : X fz d k Q (.jsr_w 9268 :: is) ls ((0, v) :: (3, o) :: st) h = ((o ≠ 0 ∧ o % 64 = 9 ∧ 0 = 0 ∧ 0 ≤ v ∧ v ≤ 1) ∧ X fz d k Q is ls st (hset h o 6 v)) := rfl
theorem x_pf_96 {fz : Int → Int → Option Int} {d k : Nat} {Q : Int → HV → Prop} {is : List Instr} {h : HV} {ls st : List AV} {o v : Int} : X fz d k Q (.jsr_w 96 :: is) ls ((0, v) :: (3, o) :: st) h = ((o ≠ 0 ∧ o % 64 = 0 ∧ 0 = 0 ∧ True) ∧ X fz d k Q is ls st (hset h o 12 v)) := rfl
theorem x_pop0 {fz : Int → Int → Option Int} {d k : Nat} {Q : Int → HV → Prop} {is : List Instr} {h : HV} {ls st : List AV} {x : Int} : X fz d k Q (.pop :: is) ls ((0, x) :: st) h = X fz d k Q is ls st h := rfl
theorem x_pop3 {fz : Int → Int → Option Int} {d k : Nat} {Q : Int → HV → Prop} {is : List Instr} {h : HV} {ls st : List AV} {x : Int} : X fz d k Q (.pop :: is) ls ((3, x) :: st) h = X fz d k Q is ls st h := rfl
theorem x_return {fz : Int → Int → Option Int} {d k : Nat} {Q : Int → HV → Prop} {is : List Instr} {h : HV} {ls : List AV} : X fz d k Q (.return_ :: is) ls [] h = Q 0 h := rfl
theorem x_sipush {fz : Int → Int → Option Int} {d k : Nat} {Q : Int → HV → Prop} {is : List Instr} {h : HV} {ls st : List AV} {v : Int} : X fz d k Q (.sipush v :: is) ls st h = X fz d k Q is ls ((2, v) :: st) h := rfl
theorem x_tsw_10_0_3_4_5_6_7_8_9 {fz : Int → Int → Option Int} {d k : Nat} {Q : Int → HV → Prop} {is : List Instr} {h : HV} {ls st : List AV} {x : Int} : X fz d k Q (.tableswitch 10 0 6 #[3, 4, 5, 6, 7, 8, 9] :: is) ls ((0, x) :: st) h = ((x = 0 → G fz d k 3 ls st h Q) ∧ (¬ x = 0 → ((x = 1 → G fz d k 4 ls st h Q) ∧ (¬ x = 1 → ((x = 2 → G fz d k 5 ls st h Q) ∧ (¬ x = 2 → ((x = 3 → G fz d k 6 ls st h Q) ∧ (¬ x = 3 → ((x = 4 → G fz d k 7 ls st h Q) ∧ (¬ x = 4 → ((x = 5 → G fz d k 8 ls st h Q) ∧ (¬ x = 5 → ((x = 6 → G fz d k 9 ls st h Q) ∧ (¬ x = 6 → G fz d k 10 ls st h Q)))))))))))))) := rfl
theorem x_tsw_13_0_1_2_3_4_5_6_7_8_9_10_11_12 {fz : Int → Int → Option Int} {d k : Nat} {Q : Int → HV → Prop} {is : List Instr} {h : HV} {ls st : List AV} {x : Int} : X fz d k Q (.tableswitch 13 0 11 #[1, 2, 3, 4, 5, 6, 7, 8, 9, 10, 11, 12] :: is) ls ((0, x) :: st) h = ((x = 0 → G fz d k 1 ls st h Q) ∧ (¬ x = 0 → ((x = 1 → G fz d k 2 ls st h Q) ∧ (¬ x = 1 → ((x = 2 → G fz d k 3 ls st h Q) ∧ (¬ x = 2 → ((x = 3 → G fz d k 4 ls st h Q) ∧ (¬ x = 3 → ((x = 4 → G fz d k 5 ls st h Q) ∧ (¬ x = 4 → ((x = 5 → G fz d k 6 ls st h Q) ∧ (¬ x = 5 → ((x = 6 → G fz d k 7 ls st h Q) ∧ (¬ x = 6 → ((x = 7 → G fz d k 8 ls st h Q) ∧ (¬ x = 7 → ((x = 8 → G fz d k 9 ls st h Q) ∧ (¬ x = 8 → ((x = 9 → G fz d k 10 ls st h Q) ∧ (¬ x = 9 → ((x = 10 → G fz d k 11 ls st h Q) ∧ (¬ x = 10 → ((x = 11 → G fz d k 12 ls st h Q) ∧ (¬ x = 11 → G fz d k 13 ls st h Q)))))))))))))))))))))))) := rfl
theorem x_tsw_20_19_1_5_6_8_9_10_14_16_17_19_18 {fz : Int → Int → Option Int} {d k : Nat} {Q : Int → HV → Prop} {is : List Instr} {h : HV} {ls st : List AV} {x : Int} : X fz d k Q (.tableswitch 20 19 29 #[1, 5, 6, 8, 9, 10, 14, 16, 17, 19, 18] :: is) ls ((0, x) :: st) h = ((x = 19 → G fz d k 1 ls st h Q) ∧ (¬ x = 19 → ((x = 20 → G fz d k 5 ls st h Q) ∧ (¬ x = 20 → ((x = 21 → G fz d k 6 ls st h Q) ∧ (¬ x = 21 → ((x = 22 → G fz d k 8 ls st h Q) ∧ (¬ x = 22 → ((x = 23 → G fz d k 9 ls st h Q) ∧ (¬ x = 23 → ((x = 24 → G fz d k 10 ls st h Q) ∧ (¬ x = 24 → ((x = 25 → G fz d k 14 ls st h Q) ∧ (¬ x = 25 → ((x = 26 → G fz d k 16 ls st h Q) ∧ (¬ x = 26 → ((x = 27 → G fz d k 17 ls st h Q) ∧ (¬ x = 27 → ((x = 28 → G fz d k 19 ls st h Q) ∧ (¬ x = 28 → ((x = 29 → G fz d k 18 ls st h Q) ∧ (¬ x = 29 → G fz d k 20 ls st h Q)))))))))))))))))))))) := rfl
theorem x_tsw_20_42_11_5_20_8_20_16 {fz : Int → Int → Option Int} {d k : Nat} {Q : Int → HV → Prop} {is : List Instr} {h : HV} {ls st : List AV} {x : Int} : X fz d k Q (.tableswitch 20 42 47 #[11, 5, 20, 8, 20, 16] :: is) ls ((0, x) :: st) h = ((x = 42 → G fz d k 11 ls st h Q) ∧ (¬ x = 42 → ((x = 43 → G fz d k 5 ls st h Q) ∧ (¬ x = 43 → ((x = 44 → G fz d k 20 ls st h Q) ∧ (¬ x = 44 → ((x = 45 → G fz d k 8 ls st h Q) ∧ (¬ x = 45 → ((x = 46 → G fz d k 20 ls st h Q) ∧ (¬ x = 46 → ((x = 47 → G fz d k 16 ls st h Q) ∧ (¬ x = 47 → G fz d k 20 ls st h Q)))))))))))) := rfl
theorem x_tsw_21_12_1_5_6_7_10_14 {fz : Int → Int → Option Int} {d k : Nat} {Q : Int → HV → Prop} {is : List Instr} {h : HV} {ls st : List AV} {x : Int} : X fz d k Q (.tableswitch 21 12 17 #[1, 5, 6, 7, 10, 14] :: is) ls ((0, x) :: st) h = ((x = 12 → G fz d k 1 ls st h Q) ∧ (¬ x = 12 → ((x = 13 → G fz d k 5 ls st h Q) ∧ (¬ x = 13 → ((x = 14 → G fz d k 6 ls st h Q) ∧ (¬ x = 14 → ((x = 15 → G fz d k 7 ls st h Q) ∧ (¬ x = 15 → ((x = 16 → G fz d k 10 ls st h Q) ∧ (¬ x = 16 → ((x = 17 → G fz d k 14 ls st h Q) ∧ (¬ x = 17 → G fz d k 21 ls st h Q)))))))))))) := rfl
theorem x_tsw_32_0_2_3_4_5_6_7_8_9_10_11_12_13_14_15_16_17_18_19_20_21_22_23_24_25_26_27_28_29_30_31 {fz : Int → Int → Option Int} {d k : Nat} {Q : Int → HV → Prop} {is : List Instr} {h : HV} {ls st : List AV} {x : Int} : X fz d k Q (.tableswitch 32 0 29 #[2, 3, 4, 5, 6, 7, 8, 9, 10, 11, 12, 13, 14, 15, 16, 17, 18, 19, 20, 21, 22, 23, 24, 25, 26, 27, 28, 29, 30, 31] :: is) ls ((0, x) :: st) h = ((x = 0 → G fz d k 2 ls st h Q) ∧ (¬ x = 0 → ((x = 1 → G fz d k 3 ls st h Q) ∧ (¬ x = 1 → ((x = 2 → G fz d k 4 ls st h Q) ∧ (¬ x = 2 → ((x = 3 → G fz d k 5 ls st h Q) ∧ (¬ x = 3 → ((x = 4 → G fz d k 6 ls st h Q) ∧ (¬ x = 4 → ((x = 5 → G fz d k 7 ls st h Q) ∧ (¬ x = 5 → ((x = 6 → G fz d k 8 ls st h Q) ∧ (¬ x = 6 → ((x = 7 → G fz d k 9 ls st h Q) ∧ (¬ x = 7 → ((x = 8 → G fz d k 10 ls st h Q) ∧ (¬ x = 8 → ((x = 9 → G fz d k 11 ls st h Q) ∧ (¬ x = 9 → ((x = 10 → G fz d k 12 ls st h Q) ∧ (¬ x = 10 → ((x = 11 → G fz d k 13 ls st h Q) ∧ (¬ x = 11 → ((x = 12 → G fz d k 14 ls st h Q) ∧ (¬ x = 12 → ((x = 13 → G fz d k 15 ls st h Q) ∧ (¬ x = 13 → ((x = 14 → G fz d k 16 ls st h Q) ∧ (¬ x = 14 → ((x = 15 → G fz d k 17 ls st h Q) ∧ (¬ x = 15 → ((x = 16 → G fz d k 18 ls st h Q) ∧ (¬ x = 16 → ((x = 17 → G fz d k 19 ls st h Q) ∧ (¬ x = 17 → ((x = 18 → G fz d k 20 ls st h Q) ∧ (¬ x = 18 → ((x = 19 → G fz d k 21 ls st h Q) ∧ (¬ x = 19 → ((x = 20 → G fz d k 22 ls st h Q) ∧ (¬ x = 20 → ((x = 21 → G fz d k 23 ls st h Q) ∧ (¬ x = 21 → ((x = 22 → G fz d k 24 ls st h Q) ∧ (¬ x = 22 → ((x = 23 → G fz d k 25 ls st h Q) ∧ (¬ x = 23 → ((x = 24 → G fz d k 26 ls st h Q) ∧ (¬ x = 24 → ((x = 25 → G fz d k 27 ls st h Q) ∧ (¬ x = 25 → ((x = 26 → G fz d k 28 ls st h Q) ∧ (¬ x = 26 → ((x = 27 → G fz d k 29 ls st h Q) ∧ (¬ x = 27 → ((x = 28 → G fz d k 30 ls st h Q) ∧ (¬ x = 28 → ((x = 29 → G fz d k 31 ls st h Q) ∧ (¬ x = 29 → G fz d k 32 ls st h Q)))))))))))))))))))))))))))))))))))))))))))))))))))))))))))) := rfl
theorem x_tsw_33_1_1_2_3_4_5_6_7_8_9_10_11_12_13_14_15_16_17_18_19_20_21_33_22_23_24_25_26_27_30_31_32 {fz : Int → Int → Option Int} {d k : Nat} {Q : Int → HV → Prop} {is : List Instr} {h : HV} {ls st : List AV} {x : Int} : X fz d k Q (.tableswitch 33 1 31 #[1, 2, 3, 4, 5, 6, 7, 8, 9, 10, 11, 12, 13, 14, 15, 16, 17, 18, 19, 20, 21, 33, 22, 23, 24, 25, 26, 27, 30, 31, 32] :: is) ls ((0, x) :: st) h = ((x = 1 → G fz d k 1 ls st h Q) ∧ (¬ x = 1 → ((x = 2 → G fz d k 2 ls st h Q) ∧ (¬ x = 2 → ((x = 3 → G fz d k 3 ls st h Q) ∧ (¬ x = 3 → ((x = 4 → G fz d k 4 ls st h Q) ∧ (¬ x = 4 → ((x = 5 → G fz d k 5 ls st h Q) ∧ (¬ x = 5 → ((x = 6 → G fz d k 6 ls st h Q) ∧ (¬ x = 6 → ((x = 7 → G fz d k 7 ls st h Q) ∧ (¬ x = 7 → ((x = 8 → G fz d k 8 ls st h Q) ∧ (¬ x = 8 → ((x = 9 → G fz d k 9 ls st h Q) ∧ (¬ x = 9 → ((x = 10 → G fz d k 10 ls st h Q) ∧ (¬ x = 10 → ((x = 11 → G fz d k 11 ls st h Q) ∧ (¬ x = 11 → ((x = 12 → G fz d k 12 ls st h Q) ∧ (¬ x = 12 → ((x = 13 → G fz d k 13 ls st h Q) ∧ (¬ x = 13 → ((x = 14 → G fz d k 14 ls st h Q) ∧ (¬ x = 14 → ((x = 15 → G fz d k 15 ls st h Q) ∧ (¬ x = 15 → ((x = 16 → G fz d k 16 ls st h Q) ∧ (¬ x = 16 → ((x = 17 → G fz d k 17 ls st h Q) ∧ (¬ x = 17 → ((x = 18 → G fz d k 18 ls st h Q) ∧ (¬ x = 18 → ((x = 19 → G fz d k 19 ls st h Q) ∧ (¬ x = 19 → ((x = 20 → G fz d k 20 ls st h Q) ∧ (¬ x = 20 → ((x = 21 → G fz d k 21 ls st h Q) ∧ (¬ x = 21 → ((x = 22 → G fz d k 33 ls st h Q) ∧ (¬ x = 22 → ((x = 23 → G fz d k 22 ls st h Q) ∧ (¬ x = 23 → ((x = 24 → G fz d k 23 ls st h Q) ∧ (¬ x = 24 → ((x = 25 → G fz d k 24 ls st h Q) ∧ (¬ x = 25 → ((x = 26 → G fz d k 25 ls st h Q) ∧ (¬ x = 26 → ((x = 27 → G fz d k 26 ls st h Q) ∧ (¬ x = 27 → ((x = 28 → G fz d k 27 ls st h Q) ∧ (¬ x = 28 → ((x = 29 → G fz d k 30 ls st h Q) ∧ (¬ x = 29 → ((x = 30 → G fz d k 31 ls st h Q) ∧ (¬ x = 30 → ((x = 31 → G fz d k 32 ls st h Q) ∧ (¬ x = 31 → G fz d k 33 ls st h Q)))))))))))))))))))))))))))))))))))))))))))))))))))))))))))))) := rfl
theorem x_tsw_7_0_2_3_4_5_6 {fz : Int → Int → Option Int} {d k : Nat} {Q : Int → HV → Prop} {is : List Instr} {h : HV} {ls st : List AV} {x : Int} : X fz d k Q (.tableswitch 7 0 4 #[2, 3, 4, 5, 6] :: is) ls ((0, x) :: st) h = ((x = 0 → G fz d k 2 ls st h Q) ∧ (¬ x = 0 → ((x = 1 → G fz d k 3 ls st h Q) ∧ (¬ x = 1 → ((x = 2 → G fz d k 4 ls st h Q) ∧ (¬ x = 2 → ((x = 3 → G fz d k 5 ls st h Q) ∧ (¬ x = 3 → ((x = 4 → G fz d k 6 ls st h Q) ∧ (¬ x = 4 → G fz d k 7 ls st h Q)))))))))) := rfl
theorem x_tsw_7_1_1_2_3_4 {fz : Int → Int → Option Int} {d k : Nat} {Q : Int → HV → Prop} {is : List Instr} {h : HV} {ls st : List AV} {x : Int} : X fz d k Q (.tableswitch 7 1 4 #[1, 2, 3, 4] :: is) ls ((0, x) :: st) h = ((x = 1 → G fz d k 1 ls st h Q) ∧ (¬ x = 1 → ((x = 2 → G fz d k 2 ls st h Q) ∧ (¬ x = 2 → ((x = 3 → G fz d k 3 ls st h Q) ∧ (¬ x = 3 → ((x = 4 → G fz d k 4 ls st h Q) ∧ (¬ x = 4 → G fz d k 7 ls st h Q)))))))) := rfl
theorem x_tsw_8_0_1_2_3_4_5_6_7 {fz : Int → Int → Option Int} {d k : Nat} {Q : Int → HV → Prop} {is : List Instr} {h : HV} {ls st : List AV} {x : Int} : X fz d k Q (.tableswitch 8 0 6 #[1, 2, 3, 4, 5, 6, 7] :: is) ls ((0, x) :: st) h = ((x = 0 → G fz d k 1 ls st h Q) ∧ (¬ x = 0 → ((x = 1 → G fz d k 2 ls st h Q) ∧ (¬ x = 1 → ((x = 2 → G fz d k 3 ls st h Q) ∧ (¬ x = 2 → ((x = 3 → G fz d k 4 ls st h Q) ∧ (¬ x = 3 → ((x = 4 → G fz d k 5 ls st h Q) ∧ (¬ x = 4 → ((x = 5 → G fz d k 6 ls st h Q) ∧ (¬ x = 5 → ((x = 6 → G fz d k 7 ls st h Q) ∧ (¬ x = 6 → G fz d k 8 ls st h Q)))))))))))))) := rfl
theorem x_tsw_9_7_3_4_5_6_7_8 {fz : Int → Int → Option Int} {d k : Nat} {Q : Int → HV → Prop} {is : List Instr} {h : HV} {ls st : List AV} {x : Int} : X fz d k Q (.tableswitch 9 7 12 #[3, 4, 5, 6, 7, 8] :: is) ls ((0, x) :: st) h = ((x = 7 → G fz d k 3 ls st h Q) ∧ (¬ x = 7 → ((x = 8 → G fz d k 4 ls st h Q) ∧ (¬ x = 8 → ((x = 9 → G fz d k 5 ls st h Q) ∧ (¬ x = 9 → ((x = 10 → G fz d k 6 ls st h Q) ∧ (¬ x = 10 → ((x = 11 → G fz d k 7 ls st h Q) ∧ (¬ x = 11 → ((x = 12 → G fz d k 8 ls st h Q) ∧ (¬ x = 12 → G fz d k 9 ls st h Q)))))))))))) := rfl
theorem b0_0 : blk 0 0 = [.goto_w 17, .dup, .invokeinterface 268 1, .astore 1, .goto_w 1503, .dup, .invokeinterface 82532 1, .astore 2, .iconst 0, .istore 3, .goto 1] := rfl
theorem b0_1 : blk 0 1 = [.iload 3, .aload 0, .arraylength, .iconst 7, .isub, .if_icmp .gt 33, .aload 0, .iload 3, .iaload, .iconst 31, .iand, .tableswitch 32 0 29 #[2, 3, 4, 5, 6, 7, 8, 9, 10, 11, 12, 13, 14, 15, 16, 17, 18, 19, 20, 21, 22, 23, 24, 25, 26, 27, 28, 29, 30, 31]] := rfl
theorem b0_2 : blk 0 2 = [.aload 1, .aload 0, .iload 3, .iconst 1, .iadd, .iaload, .aload 0, .iload 3, .iconst 2, .iadd, .iaload, .i2l, .iconst 32, .lshl, .aload 0, .iload 3, .iconst 3, .iadd, .iaload, .i2l, .bipush 4294967295, .land, .lor, .invokeinterface 5384 3, .aload 2, .aload 0, .iload 3, .iconst 1, .iadd, .iaload, .aload 0, .iload 3, .iconst 2, .iadd, .iaload, .i2l, .iconst 32, .lshl, .aload 0, .iload 3, .iconst 3, .iadd, .iaload, .i2l, .bipush 4294967295, .land, .lor, .invokeinterface 83040 3, .if_icmp .eq 32, .iconst 0, .freturn] := rfl
theorem b0_3 : blk 0 3 = [.aload 1, .invokeinterface 6152 1, .aload 2, .invokeinterface 83296 1, .if_icmp .eq 32, .iconst 0, .freturn] := rfl
theorem b0_4 : blk 0 4 = [.aload 1, .aload 0, .iload 3, .iconst 1, .iadd, .iaload, .invokeinterface 34568 2, .aload 2, .aload 0, .iload 3, .iconst 1, .iadd, .iaload, .invokeinterface 115040 2, .if_icmp .eq 32, .iconst 0, .freturn] := rfl
theorem b0_5 : blk 0 5 = [.aload 1, .aload 0, .iload 3, .iconst 1, .iadd, .iaload, .aload 0, .iload 3, .iconst 2, .iadd, .iaload, .invokeinterface 35592 3, .aload 2, .aload 0, .iload 3, .iconst 1, .iadd, .iaload, .aload 0, .iload 3, .iconst 2, .iadd, .iaload, .invokeinterface 95584 3, .if_icmp .eq 32, .iconst 0, .freturn] := rfl
theorem b0_6 : blk 0 6 = [.aload 1, .aload 0, .iload 3, .iconst 1, .iadd, .iaload, .invokeinterface 37128 2, .aload 2, .aload 0, .iload 3, .iconst 1, .iadd, .iaload, .invokeinterface 96096 2, .if_icmp .eq 32, .iconst 0, .freturn] := rfl
theorem b0_7 : blk 0 7 = [.aload 1, .aload 0, .iload 3, .iconst 1, .iadd, .iaload, .aload 0, .iload 3, .iconst 2, .iadd, .iaload, .invokeinterface 37384 3, .aload 2, .aload 0, .iload 3, .iconst 1, .iadd, .iaload, .aload 0, .iload 3, .iconst 2, .iadd, .iaload, .invokeinterface 96352 3, .if_icmp .eq 32, .iconst 0, .freturn] := rfl
theorem b0_8 : blk 0 8 = [.aload 1, .aload 0, .iload 3, .iconst 1, .iadd, .iaload, .aload 0, .iload 3, .iconst 2, .iadd, .iaload, .invokeinterface 38152 3, .aload 2, .aload 0, .iload 3, .iconst 1, .iadd, .iaload, .aload 0, .iload 3, .iconst 2, .iadd, .iaload, .invokeinterface 96864 3, .if_icmp .eq 32, .iconst 0, .freturn] := rfl
theorem b0_9 : blk 0 9 = [.aload 1, .aload 0, .iload 3, .iconst 1, .iadd, .iaload, .aload 0, .iload 3, .iconst 2, .iadd, .iaload, .aload 0, .iload 3, .iconst 3, .iadd, .iaload, .invokeinterface 39688 4, .aload 2, .aload 0, .iload 3, .iconst 1, .iadd, .iaload, .aload 0, .iload 3, .iconst 2, .iadd, .iaload, .aload 0, .iload 3, .iconst 3, .iadd, .iaload, .invokeinterface 97376 4, .if_icmp .eq 32, .iconst 0, .freturn] := rfl
theorem b0_10 : blk 0 10 = [.aload 1, .aload 0, .iload 3, .iconst 1, .iadd, .iaload, .aload 0, .iload 3, .iconst 2, .iadd, .iaload, .aload 0, .iload 3, .iconst 3, .iadd, .iaload, .aload 0, .iload 3, .iconst 4, .iadd, .iaload, .invokeinterface 41224 5, .aload 2, .aload 0, .iload 3, .iconst 1, .iadd, .iaload, .aload 0, .iload 3, .iconst 2, .iadd, .iaload, .aload 0, .iload 3, .iconst 3, .iadd, .iaload, .aload 0, .iload 3, .iconst 4, .iadd, .iaload, .invokeinterface 98144 5, .if_icmp .eq 32, .iconst 0, .freturn] := rfl
theorem b0_11 : blk 0 11 = [.aload 1, .aload 0, .iload 3, .iconst 1, .iadd, .iaload, .aload 0, .iload 3, .iconst 2, .iadd, .iaload, .aload 0, .iload 3, .iconst 3, .iadd, .iaload, .invokeinterface 42760 4, .aload 2, .aload 0, .iload 3, .iconst 1, .iadd, .iaload, .aload 0, .iload 3, .iconst 2, .iadd, .iaload, .aload 0, .iload 3, .iconst 3, .iadd, .iaload, .invokeinterface 98400 4, .if_icmp .eq 32, .iconst 0, .freturn] := rfl
theorem b0_12 : blk 0 12 = [.aload 1, .aload 0, .iload 3, .iconst 1, .iadd, .iaload, .aload 0, .iload 3, .iconst 2, .iadd, .iaload, .aload 0, .iload 3, .iconst 3, .iadd, .iaload, .aload 0, .iload 3, .iconst 4, .iadd, .iaload, .aload 0, .iload 3, .iconst 5, .iadd, .iaload, .aload 0, .iload 3, .iconst 6, .iadd, .iaload, .invokeinterface 43016 7, .aload 2, .aload 0, .iload 3, .iconst 1, .iadd, .iaload, .aload 0, .iload 3, .iconst 2, .iadd, .iaload, .aload 0, .iload 3, .iconst 3, .iadd, .iaload, .aload 0, .iload 3, .iconst 4, .iadd, .iaload, .aload 0, .iload 3, .iconst 5, .iadd, .iaload, .aload 0, .iload 3, .iconst 6, .iadd, .iaload, .invokeinterface 98656 7, .if_icmp .eq 32, .iconst 0, .freturn] := rfl
theorem b0_13 : blk 0 13 = [.aload 1, .aload 0, .iload 3, .iconst 1, .iadd, .iaload, .invokeinterface 61449 2, .aload 2, .aload 0, .iload 3, .iconst 1, .iadd, .iaload, .invokeinterface 106593 2, .lcmp, .ifCond .eq 32, .iconst 0, .freturn] := rfl
theorem b0_14 : blk 0 14 = [.aload 1, .invokeinterface 61704 1, .aload 2, .invokeinterface 106848 1, .if_icmp .eq 32, .iconst 0, .freturn] := rfl
theorem b0_15 : blk 0 15 = [.aload 1, .aload 0, .iload 3, .iconst 1, .iadd, .iaload, .aload 0, .iload 3, .iconst 2, .iadd, .iaload, .invokeinterface 61960 3, .aload 2, .aload 0, .iload 3, .iconst 1, .iadd, .iaload, .aload 0, .iload 3, .iconst 2, .iadd, .iaload, .invokeinterface 107104 3, .if_icmp .eq 32, .iconst 0, .freturn] := rfl
theorem b0_16 : blk 0 16 = [.aload 1, .aload 0, .iload 3, .iconst 1, .iadd, .iaload, .invokeinterface 62728 2, .aload 2, .aload 0, .iload 3, .iconst 1, .iadd, .iaload, .invokeinterface 107616 2, .if_icmp .eq 32, .iconst 0, .freturn] := rfl
theorem b0_17 : blk 0 17 = [.aload 1, .aload 0, .iload 3, .iconst 1, .iadd, .iaload, .invokeinterface 62984 2, .aload 2, .aload 0, .iload 3, .iconst 1, .iadd, .iaload, .invokeinterface 107872 2, .if_icmp .eq 32, .iconst 0, .freturn] := rfl
theorem b0_18 : blk 0 18 = [.aload 1, .aload 0, .iload 3, .iconst 1, .iadd, .iaload, .aload 0, .iload 3, .iconst 2, .iadd, .iaload, .aload 0, .iload 3, .iconst 3, .iadd, .iaload, .invokeinterface 63752 4, .aload 2, .aload 0, .iload 3, .iconst 1, .iadd, .iaload, .aload 0, .iload 3, .iconst 2, .iadd, .iaload, .aload 0, .iload 3, .iconst 3, .iadd, .iaload, .invokeinterface 108384 4, .if_icmp .eq 32, .iconst 0, .freturn] := rfl
theorem b0_19 : blk 0 19 = [.aload 1, .aload 0, .iload 3, .iconst 1, .iadd, .iaload, .aload 0, .iload 3, .iconst 2, .iadd, .iaload, .aload 0, .iload 3, .iconst 3, .iadd, .iaload, .invokeinterface 65032 4, .aload 2, .aload 0, .iload 3, .iconst 1, .iadd, .iaload, .aload 0, .iload 3, .iconst 2, .iadd, .iaload, .aload 0, .iload 3, .iconst 3, .iadd, .iaload, .invokeinterface 108896 4, .if_icmp .eq 32, .iconst 0, .freturn] := rfl
theorem b0_20 : blk 0 20 = [.aload 1, .aload 0, .iload 3, .iconst 1, .iadd, .iaload, .invokeinterface 65800 2, .aload 2, .aload 0, .iload 3, .iconst 1, .iadd, .iaload, .invokeinterface 109152 2, .if_icmp .eq 32, .iconst 0, .freturn] := rfl
theorem b0_21 : blk 0 21 = [.aload 1, .aload 0, .iload 3, .iconst 1, .iadd, .iaload, .invokeinterface 68872 2, .aload 2, .aload 0, .iload 3, .iconst 1, .iadd, .iaload, .invokeinterface 109920 2, .if_icmp .eq 32, .iconst 0, .freturn] := rfl
theorem b0_22 : blk 0 22 = [.aload 1, .aload 0, .iload 3, .iconst 1, .iadd, .iaload, .aload 0, .iload 3, .iconst 2, .iadd, .iaload, .invokeinterface 70152 3, .aload 2, .aload 0, .iload 3, .iconst 1, .iadd, .iaload, .aload 0, .iload 3, .iconst 2, .iadd, .iaload, .invokeinterface 110176 3, .if_icmp .eq 32, .iconst 0, .freturn] := rfl
theorem b0_23 : blk 0 23 = [.aload 1, .aload 0, .iload 3, .iconst 1, .iadd, .iaload, .aload 0, .iload 3, .iconst 2, .iadd, .iaload, .invokeinterface 70920 3, .aload 2, .aload 0, .iload 3, .iconst 1, .iadd, .iaload, .aload 0, .iload 3, .iconst 2, .iadd, .iaload, .invokeinterface 110432 3, .if_icmp .eq 32, .iconst 0, .freturn] := rfl
theorem b0_24 : blk 0 24 = [.aload 1, .aload 0, .iload 3, .iconst 1, .iadd, .iaload, .invokeinterface 71944 2, .aload 2, .aload 0, .iload 3, .iconst 1, .iadd, .iaload, .invokeinterface 110944 2, .if_icmp .eq 32, .iconst 0, .freturn] := rfl
theorem b0_25 : blk 0 25 = [.aload 1, .aload 0, .iload 3, .iconst 1, .iadd, .iaload, .aload 0, .iload 3, .iconst 2, .iadd, .iaload, .invokeinterface 72712 3, .aload 2, .aload 0, .iload 3, .iconst 1, .iadd, .iaload, .aload 0, .iload 3, .iconst 2, .iadd, .iaload, .invokeinterface 111200 3, .if_icmp .eq 32, .iconst 0, .freturn] := rfl
theorem b0_26 : blk 0 26 = [.aload 1, .aload 0, .iload 3, .iconst 1, .iadd, .iaload, .invokeinterface 73480 2, .aload 2, .aload 0, .iload 3, .iconst 1, .iadd, .iaload, .invokeinterface 111712 2, .if_icmp .eq 32, .iconst 0, .freturn] := rfl
theorem b0_27 : blk 0 27 = [.aload 1, .aload 0, .iload 3, .iconst 1, .iadd, .iaload, .invokeinterface 77832 2, .aload 2, .aload 0, .iload 3, .iconst 1, .iadd, .iaload, .invokeinterface 113248 2, .if_icmp .eq 32, .iconst 0, .freturn] := rfl
theorem b0_28 : blk 0 28 = [.aload 1, .invokeinterface 78344 1, .aload 2, .invokeinterface 113504 1, .if_icmp .eq 32, .iconst 0, .freturn] := rfl
theorem b0_29 : blk 0 29 = [.aload 1, .aload 0, .iload 3, .iconst 1, .iadd, .iaload, .aload 0, .iload 3, .iconst 2, .iadd, .iaload, .aload 0, .iload 3, .iconst 3, .iadd, .iaload, .invokeinterface 79624 4, .aload 2, .aload 0, .iload 3, .iconst 1, .iadd, .iaload, .aload 0, .iload 3, .iconst 2, .iadd, .iaload, .aload 0, .iload 3, .iconst 3, .iadd, .iaload, .invokeinterface 113760 4, .if_icmp .eq 32, .iconst 0, .freturn] := rfl
theorem b0_30 : blk 0 30 = [.aload 1, .aload 0, .iload 3, .iconst 1, .iadd, .iaload, .invokeinterface 80136 2, .aload 2, .aload 0, .iload 3, .iconst 1, .iadd, .iaload, .invokeinterface 114016 2, .if_icmp .eq 32, .iconst 0, .freturn] := rfl
theorem b0_31 : blk 0 31 = [.aload 1, .aload 0, .iload 3, .iconst 1, .iadd, .iaload, .invokeinterface 81672 2, .aload 2, .aload 0, .iload 3, .iconst 1, .iadd, .iaload, .invokeinterface 114784 2, .if_icmp .eq 32, .iconst 0, .freturn] := rfl
theorem b0_32 : blk 0 32 = [.iinc 3 7, .goto 1] := rfl
theorem b0_33 : blk 0 33 = [.iconst 1, .freturn] := rfl
theorem en0 {a0 : Int} : ent 0 [(3, a0)] = [(3, a0), (9, 0), (9, 0), (9, 0)] := rfl
theorem b1_0 : blk 1 0 = [.aload 0, .monitorexit, .aload 0, .goto_w 138, .dup, .invokeinterface 532 1, .if_acmp .eq 3, .aload 0, .goto_w 267, .dup, .aload 0, .ifnonnull 3, .invokeinterface 796 2, .if_acmp .eq 11, .aload 0, .goto_w 388, .dup, .invokeinterface 1060 1, .if_acmp .eq 19, .aload 0, .goto_w 517, .dup, .invokeinterface 1324 1, .if_acmp .eq 27, .aload 0, .goto_w 661, .dup, .aload 0, .ifnonnull 27, .aload 0, .ifnonnull 19, .invokeinterface 1588 3, .if_acmp .eq 35, .aload 0, .goto_w 912, .dup, .invokeinterface 2116 1, .if_acmp .eq 43, .aload 0, .goto_w 1035, .dup, .aload 0, .ifnonnull 43, .invokeinterface 2380 2, .if_acmp .eq 51, .aload 0, .goto_w 1162, .dup, .aload 0, .ifnonnull 27, .invokeinterface 2644 2, .if_acmp .eq 59, .aload 0, .goto_w 1298, .dup, .invokeinterface 2908 1, .jsr_w 67, .aload 0, .goto_w 1298, .dup, .invokeinterface 2908 1, .jsr_w 75, .aload 0, .iconst 24, .newarray .int, .if_acmp .eq 107, .aload 0, .iconst 24, .newarray .int, .if_acmp .eq 115, .aload 0, .iconst 24, .newarray .long, .if_acmp .eq 123, .aload 0, .ifnonnull 43, .aload 0, .ifnull 67, .invokeinterface 3140 2, .aload 0, .ifnonnull 35, .aload 0, .ifnull 67, .invokeinterface 4148 2, .aload 0, .ifnonnull 51, .aload 0, .ifnull 67, .invokeinterface 4428 2, .aload 0, .ifnonnull 59, .aload 0, .ifnull 67, .invokeinterface 5204 2, .return_] := rfl
theorem en1 {a0 : Int} : ent 1 [(3, a0)] = [(3, a0)] := rfl
theorem b2_0 : blk 2 0 = [.aload 0, .monitorexit, .aload 0, .iconst 2400, .newarray .byte, .if_acmp .eq 1027, .return_] := rfl
theorem en2 {a0 : Int} : ent 2 [(3, a0)] = [(3, a0)] := rfl
theorem b3_0 : blk 3 0 = [.aload 0, .monitorexit, .aload 0, .iconst 404, .newarray .long, .if_acmp .eq 2083, .aload 0, .iconst 404, .newarray .int, .if_acmp .eq 2091, .aload 0, .iconst 400, .newarray .long, .if_acmp .eq 2107, .aload 0, .iconst 400, .newarray .int, .if_acmp .eq 2115, .aload 0, .iconst 400, .newarray .int, .if_acmp .eq 2123, .aload 0, .aload 1, .if_acmp .eq 2051, .return_] := rfl
theorem en3 {a0 a1 : Int} : ent 3 [(3, a0), (3, a1)] = [(3, a0), (3, a1)] := rfl
theorem b4_0 : blk 4 0 = [.aload 0, .monitorexit, .aload 0, .iconst 64, .newarray .int, .jsr_w 3075, .aload 0, .iconst 256, .newarray .long, .jsr_w 3083, .return_] := rfl
theorem en4 {a0 : Int} : ent 4 [(3, a0)] = [(3, a0)] := rfl
theorem b5_0 : blk 5 0 = [.aload 0, .monitorexit, .aload 0, .iconst 24, .newarray .int, .if_acmp .eq 4099, .aload 0, .iconst 24, .newarray .int, .if_acmp .eq 4107, .aload 0, .iconst 24, .newarray .int, .if_acmp .eq 4115, .aload 0, .iconst 192, .newarray .int, .if_acmp .eq 4123, .return_] := rfl
theorem en5 {a0 : Int} : ent 5 [(3, a0)] = [(3, a0)] := rfl
theorem b6_0 : blk 6 0 = [.aload 0, .monitorexit, .aload 0, .goto_w 771, .dup, .invokeinterface 1852 1, .if_acmp .eq 5139, .aload 0, .iconst 8, .newarray .int, .if_acmp .eq 5171, .aload 0, .iconst 8, .newarray .int, .if_acmp .eq 5179, .aload 0, .iconst 96, .newarray .int, .if_acmp .eq 5195, .aload 0, .iconst 96, .newarray .int, .if_acmp .eq 5203, .aload 0, .iconst 96, .newarray .int, .if_acmp .eq 5211, .aload 0, .iconst 96, .newarray .int, .if_acmp .eq 5219, .aload 0, .iconst 96, .newarray .int, .if_acmp .eq 5227, .aload 0, .iconst 96, .newarray .long, .if_acmp .eq 5235, .aload 0, .aload 1, .if_acmp .eq 5123, .aload 0, .aload 2, .if_acmp .eq 5131, .return_] := rfl
theorem en6 {a0 a1 a2 : Int} : ent 6 [(3, a0), (3, a1), (3, a2)] = [(3, a0), (3, a1), (3, a2)] := rfl
theorem b7_0 : blk 7 0 = [.aload 0, .monitorexit, .aload 0, .iconst 256, .newarray .int, .jsr_w 6147, .aload 0, .iconst 256, .newarray .long, .jsr_w 6155, .return_] := rfl
theorem en7 {a0 : Int} : ent 7 [(3, a0)] = [(3, a0)] := rfl
theorem b8_0 : blk 8 0 = [.aload 0, .monitorexit, .aload 0, .iconst 4, .jsr_w 7176, .aload 0, .iconst 10, .newarray .int, .if_acmp .eq 7187, .aload 0, .iconst 240, .newarray .int, .if_acmp .eq 7195, .aload 0, .iconst 37, .newarray .int, .if_acmp .eq 7203, .aload 0, .iconst 36, .newarray .int, .if_acmp .eq 7211, .aload 0, .iconst 6, .newarray .int, .if_acmp .eq 7219, .aload 0, .iconst 8, .newarray .int, .if_acmp .eq 7227, .aload 0, .iconst 10, .newarray .int, .if_acmp .eq 7235, .aload 0, .iconst 12, .newarray .int, .if_acmp .eq 7243, .aload 0, .iconst 36, .newarray .int, .if_acmp .eq 7259, .return_] := rfl
theorem en8 {a0 : Int} : ent 8 [(3, a0)] = [(3, a0)] := rfl
theorem b9_0 : blk 9 0 = [.aload 0, .monitorexit, .aload 0, .iconst 10, .newarray .int, .if_acmp .eq 8211, .aload 0, .iconst 36, .newarray .int, .if_acmp .eq 8219, .aload 0, .iconst 6, .newarray .int, .if_acmp .eq 8235, .aload 0, .iconst 6, .newarray .int, .if_acmp .eq 8251, .aload 0, .iconst 6, .newarray .int, .if_acmp .eq 8259, .aload 0, .aload 1, .if_acmp .eq 8195, .return_] := rfl
theorem en9 {a0 a1 : Int} : ent 9 [(3, a0), (3, a1)] = [(3, a0), (3, a1)] := rfl
theorem b10_0 : blk 10 0 = [.aload 0, .monitorexit, .aload 0, .iconst 192, .newarray .int, .if_acmp .eq 9235, .aload 0, .iconst 24, .newarray .int, .if_acmp .eq 9243, .aload 0, .iconst 192, .newarray .int, .if_acmp .eq 9251, .aload 0, .iconst 24, .newarray .int, .if_acmp .eq 9259, .aload 0, .iconst 24, .newarray .int, .if_acmp .eq 9275, .aload 0, .iconst 8, .newarray .int, .if_acmp .eq 9283, .aload 0, .iconst 24, .newarray .boolean, .if_acmp .eq 9291, .aload 0, .aload 1, .if_acmp .eq 9219, .return_] := rfl
theorem en10 {a0 a1 : Int} : ent 10 [(3, a0), (3, a1)] = [(3, a0), (3, a1)] := rfl
theorem b11_0 : blk 11 0 = [.aload 0, .monitorexit, .aload 0, .iconst 7, .iconst 12, .multianewarray 37 2, .if_acmp .eq 10243, .aload 0, .iconst 7, .newarray .int, .if_acmp .eq 10251, .aload 0, .iconst 6, .newarray .int, .if_acmp .eq 10259, .aload 0, .iconst 10, .newarray .int, .if_acmp .eq 10267, .aload 0, .iconst 10, .newarray .int, .if_acmp .eq 10275, .aload 0, .iconst 8, .newarray .int, .if_acmp .eq 10283, .aload 0, .iconst 12, .newarray .int, .if_acmp .eq 10291, .aload 0, .iconst 12, .newarray .int, .if_acmp .eq 10299, .aload 0, .iconst 12, .newarray .int, .if_acmp .eq 10307, .aload 0, .iconst 8, .newarray .int, .if_acmp .eq 10315, .aload 0, .iconst 36, .newarray .int, .if_acmp .eq 10323, .aload 0, .iconst 12, .newarray .int, .if_acmp .eq 10339, .aload 0, .iconst 12, .newarray .int, .if_acmp .eq 10347, .aload 0, .iconst 12, .newarray .int, .if_acmp .eq 10355, .aload 0, .iconst 2400, .newarray .int, .if_acmp .eq 10371, .return_] := rfl
theorem en11 {a0 : Int} : ent 11 [(3, a0)] = [(3, a0)] := rfl
theorem b12_0 : blk 12 0 = [.aload 0, .aload 1, .jsr_w 7171, .aload 0, .invokeinterface 3396 1, .return_] := rfl
theorem en12 {a0 a1 : Int} : ent 12 [(3, a0), (3, a1)] = [(3, a0), (3, a1)] := rfl
theorem b13_0 : blk 13 0 = [.aload 0, .ifnonnull 7187, .iconst 0, .invokeinterface 3588 2, .aload 0, .ifnonnull 7195, .iconst 0, .invokeinterface 3588 2, .aload 0, .invokeinterface 3908 1, .return_] := rfl
theorem en13 {a0 : Int} : ent 13 [(3, a0)] = [(3, a0)] := rfl
theorem b14_0 : blk 14 0 = [.iconst 0, .istore 2, .aload 0, .arraylength, .istore 3, .goto 1] := rfl
theorem b14_1 : blk 14 1 = [.iload 2, .iload 3, .if_icmp .ge 2, .aload 0, .iload 2, .iload 1, .iastore, .iinc 2 1, .goto 1] := rfl
theorem b14_2 : blk 14 2 = [.return_] := rfl
theorem en14 {a0 a1 : Int} : ent 14 [(3, a0), (0, a1)] = [(3, a0), (0, a1), (9, 0), (9, 0)] := rfl
theorem b15_0 : blk 15 0 = [.aload 0, .iconst 0, .jsr_w 7276, .aload 0, .iconst 0, .jsr_w 7284, .return_] := rfl
theorem en15 {a0 : Int} : ent 15 [(3, a0)] = [(3, a0)] := rfl
theorem b16_0 : blk 16 0 = [.aload 0, .aload 1, .jsr_w 5147, .return_] := rfl
theorem en16 {a0 a1 : Int} : ent 16 [(3, a0), (3, a1)] = [(3, a0), (3, a1)] := rfl
theorem b17_0 : blk 17 0 = [.aload 0, .aload 1, .jsr_w 8203, .aload 0, .invokeinterface 4684 1, .return_] := rfl
theorem en17 {a0 a1 : Int} : ent 17 [(3, a0), (3, a1)] = [(3, a0), (3, a1)] := rfl
theorem b18_0 : blk 18 0 = [.aload 0, .ifnonnull 8211, .iconst 0, .invokeinterface 3588 2, .aload 0, .invokeinterface 4940 1, .return_] := rfl
theorem en18 {a0 : Int} : ent 18 [(3, a0)] = [(3, a0)] := rfl
theorem b19_0 : blk 19 0 = [.aload 0, .iconst 0, .jsr_w 8228, .return_] := rfl
theorem en19 {a0 : Int} : ent 19 [(3, a0)] = [(3, a0)] := rfl
theorem b20_0 : blk 20 0 = [.aload 0, .aload 1, .jsr_w 9227, .aload 0, .ifnonnull 9243, .iconst 0, .invokeinterface 3588 2, .aload 0, .ifnonnull 9251, .iconst 0, .invokeinterface 3588 2, .aload 0, .ifnonnull 9259, .iconst (-9), .invokeinterface 3588 2, .aload 0, .iconst 0, .jsr_w 9268, .return_] := rfl
theorem en20 {a0 a1 : Int} : ent 20 [(3, a0), (3, a1)] = [(3, a0), (3, a1)] := rfl
theorem b21_0 : blk 21 0 = [.iload 1, .iconst 1, .if_icmp .lt 1, .iload 1, .iconst 8, .if_icmp .le 2, .goto 1] := rfl
theorem b21_1 : blk 21 1 = [.iconst (-1), .ireturn] := rfl
theorem b21_2 : blk 21 2 = [.aload 0, .ifnonnull 3, .iload 1, .lload 2, .invokeinterface 5648 3, .ifCond .eq 3, .aload 0, .ifnonnull 3, .invokeinterface 5904 1, .goto 4] := rfl
theorem b21_3 : blk 21 3 = [.iconst (-3), .goto 4] := rfl
theorem b21_4 : blk 21 4 = [.ireturn] := rfl
theorem en21 {a0 a1 a2 : Int} : ent 21 [(3, a0), (0, a1), (1, a2)] = [(3, a0), (0, a1), (1, a2), (9, 0)] := rfl
theorem b22_0 : blk 22 0 = [.iload 1, .ifCond .lt 1, .aload 0, .ifnull 1032, .iload 1, .iadd, .iconst 2400, .if_icmp .le 2, .goto 1] := rfl
theorem b22_1 : blk 22 1 = [.iconst 0, .freturn] := rfl
theorem b22_2 : blk 22 2 = [.iconst 0, .istore 4, .goto 3] := rfl
theorem b22_3 : blk 22 3 = [.iload 4, .iload 1, .if_icmp .ge 4, .aload 0, .ifnonnull 1027, .aload 0, .ifnull 1032, .iload 4, .iadd, .lload 2, .iconst 8, .iload 4, .imul, .lshr, .l2i, .i2b, .bastore, .iinc 4 1, .goto 3] := rfl
theorem b22_4 : blk 22 4 = [.aload 0, .dup, .ifnull 1032, .iload 1, .iadd, .jsr_w 1032, .iconst 1, .freturn] := rfl
theorem en22 {a0 a1 a2 : Int} : ent 22 [(3, a0), (0, a1), (1, a2)] = [(3, a0), (0, a1), (1, a2), (9, 0), (9, 0)] := rfl
theorem b23_0 : blk 23 0 = [.aload 0, .ifnull 1032, .ireturn] := rfl
theorem en23 {a0 : Int} : ent 23 [(3, a0)] = [(3, a0)] := rfl
theorem b24_0 : blk 24 0 = [.aload 0, .ifnonnull 11, .aload 0, .ifnull 75, .invokeinterface 6424 2, .istore 1, .aload 0, .ifnonnull 3, .invokeinterface 33300 1, .iload 1, .ifCond .lt 1, .iconst (-10), .iload 1, .isub, .ireturn] := rfl
theorem b24_1 : blk 24 1 = [.aload 0, .ifnull 67, .astore 2, .aload 0, .aload 0, .ifnull 75, .jsr_w 67, .aload 0, .aload 2, .jsr_w 75, .aload 0, .invokeinterface 33548 1, .aload 0, .ifnull 67, .iconst 6, .invokeinterface 14680 2, .ireturn] := rfl
theorem en24 {a0 : Int} : ent 24 [(3, a0)] = [(3, a0), (9, 0), (9, 0)] := rfl
theorem b25_0 : blk 25 0 = [.aload 0, .aload 1, .jsr_w 2059, .aload 0, .ifnull 2059, .invokeinterface 6748 1, .aload 0, .iconst (-1), .jsr_w 2064, .aload 0, .iconst 0, .jsr_w 2128, .aload 0, .ifnonnull 2051, .invokeinterface 6932 1, .iconst 0, .istore 2, .goto 1] := rfl
theorem b25_1 : blk 25 1 = [.iload 2, .iconst 2400, .if_icmp .ge 2, .aload 0, .invokeinterface 11032 1, .ifCond .eq 2, .aload 0, .ifnonnull 2051, .invokeinterface 11536 1, .ifCond .eq 2, .aload 0, .invokeinterface 11804 1, .iinc 2 1, .goto 1] := rfl
theorem b25_2 : blk 25 2 = [.aload 0, .invokeinterface 32796 1, .aload 0, .invokeinterface 11032 1, .ifCond .eq 3, .aload 0, .ifnull 2064, .goto 4] := rfl
theorem b25_3 : blk 25 3 = [.aload 0, .ifnonnull 2051, .invokeinterface 11280 1, .goto 4] := rfl
theorem b25_4 : blk 25 4 = [.ireturn] := rfl
theorem en25 {a0 a1 : Int} : ent 25 [(3, a0), (3, a1)] = [(3, a0), (3, a1), (9, 0)] := rfl
theorem b26_0 : blk 26 0 = [.aload 0, .ifnonnull 10251, .iconst 0, .invokeinterface 3588 2, .aload 0, .iconst 0, .jsr_w 10328, .aload 0, .iconst 0, .jsr_w 10360, .aload 0, .iconst 0, .jsr_w 10376, .return_] := rfl
theorem en26 {a0 : Int} : ent 26 [(3, a0)] = [(3, a0)] := rfl
theorem b27_0 : blk 27 0 = [.aload 0, .iconst 0, .jsr_w 1040, .aload 0, .iconst (-1), .jsr_w 1048, .aload 0, .iconst 1, .invokeinterface 7188 2, .return_] := rfl
theorem en27 {a0 : Int} : ent 27 [(3, a0)] = [(3, a0)] := rfl
theorem b28_0 : blk 28 0 = [.iload 1, .ifCond .eq 1, .aload 0, .ifnull 1048, .ifCond .lt 3, .goto 1] := rfl
theorem b28_1 : blk 28 1 = [.aload 0, .ifnull 1048, .ifCond .ge 2, .aload 0, .aload 0, .ifnull 1064, .jsr_w 1048, .goto 2] := rfl
theorem b28_2 : blk 28 2 = [.aload 0, .iconst 5, .jsr_w 1056, .return_] := rfl
theorem b28_3 : blk 28 3 = [.aload 0, .ifnull 1040, .aload 0, .ifnull 1032, .if_icmp .ge 5, .aload 0, .ifnonnull 1027, .aload 0, .ifnull 1040, .baload, .iconst 32, .if_icmp .eq 4, .aload 0, .ifnonnull 1027, .aload 0, .ifnull 1040, .baload, .iconst 10, .if_icmp .ne 5, .goto 4] := rfl
theorem b28_4 : blk 28 4 = [.aload 0, .dup, .ifnull 1040, .iconst 1, .iadd, .jsr_w 1040, .goto 3] := rfl
theorem b28_5 : blk 28 5 = [.aload 0, .aload 0, .ifnull 1040, .jsr_w 1064, .aload 0, .ifnull 1040, .aload 0, .ifnull 1032, .if_icmp .lt 6, .aload 0, .iconst 0, .jsr_w 1056, .goto 11] := rfl
theorem b28_6 : blk 28 6 = [.aload 0, .aload 0, .ifnull 1040, .invokeinterface 7440 2, .ifCond .eq 7, .aload 0, .invokeinterface 7700 1, .goto 11] := rfl
theorem b28_7 : blk 28 7 = [.aload 0, .aload 0, .ifnull 1040, .invokeinterface 7952 2, .ifCond .eq 8, .aload 0, .invokeinterface 8212 1, .goto 11] := rfl
theorem b28_8 : blk 28 8 = [.aload 0, .aload 0, .ifnonnull 1027, .aload 0, .ifnull 1040, .baload, .iconst 255, .iand, .i2c, .jsr_w 1101, .aload 0, .jsr (-51), .aload 0, .ifnull 1101, .invokeinterface 8560 2, .ifCond .lt 9, .iconst 4, .goto 10] := rfl
theorem b28_9 : blk 28 9 = [.iconst 5, .goto 10] := rfl
theorem b28_10 : blk 28 10 = [.jsr_w 1056, .aload 0, .dup, .ifnull 1040, .iconst 1, .iadd, .jsr_w 1040, .goto 11] := rfl
theorem b28_11 : blk 28 11 = [.return_] := rfl
theorem en28 {a0 a1 : Int} : ent 28 [(3, a0), (0, a1)] = [(3, a0), (0, a1)] := rfl
theorem b29_0 : blk 29 0 = [.iload 1, .aload 0, .ifnull 1032, .if_icmp .ge 1, .aload 0, .ifnonnull 1027, .iload 1, .baload, .iconst 97, .if_icmp .lt 1, .aload 0, .ifnonnull 1027, .iload 1, .baload, .iconst 122, .if_icmp .gt 1, .iconst 1, .goto 2] := rfl
theorem b29_1 : blk 29 1 = [.iconst 0, .goto 2] := rfl
theorem b29_2 : blk 29 2 = [.freturn] := rfl
theorem en29 {a0 a1 : Int} : ent 29 [(3, a0), (0, a1)] = [(3, a0), (0, a1)] := rfl
theorem b30_0 : blk 30 0 = [.aload 0, .bipush 0, .jsr_w 1073, .goto 1] := rfl
theorem b30_1 : blk 30 1 = [.aload 0, .ifnull 1040, .aload 0, .ifnull 1032, .if_icmp .ge 3, .aload 0, .aload 0, .ifnull 1040, .invokeinterface 7440 2, .ifCond .ne 2, .aload 0, .aload 0, .ifnull 1040, .invokeinterface 7952 2, .ifCond .eq 3, .goto 2] := rfl
theorem b30_2 : blk 30 2 = [.aload 0, .aload 0, .ifnull 1073, .iconst 8, .lshl, .aload 0, .ifnonnull 1027, .aload 0, .ifnull 1040, .baload, .i2l, .lor, .jsr_w 1073, .aload 0, .dup, .ifnull 1040, .iconst 1, .iadd, .jsr_w 1040, .goto 1] := rfl
theorem b30_3 : blk 30 3 = [.aload 0, .aload 0, .ifnull 1040, .aload 0, .ifnull 1064, .isub, .iconst 8, .if_icmp .gt 4, .iconst 1, .goto 5] := rfl
theorem b30_4 : blk 30 4 = [.iconst 5, .goto 5] := rfl
theorem b30_5 : blk 30 5 = [.jsr_w 1056, .return_] := rfl
theorem en30 {a0 : Int} : ent 30 [(3, a0)] = [(3, a0)] := rfl
theorem b31_0 : blk 31 0 = [.iload 1, .aload 0, .ifnull 1032, .if_icmp .ge 1, .aload 0, .ifnonnull 1027, .iload 1, .baload, .iconst 48, .if_icmp .lt 1, .aload 0, .ifnonnull 1027, .iload 1, .baload, .iconst 57, .if_icmp .gt 1, .iconst 1, .goto 2] := rfl
theorem b31_1 : blk 31 1 = [.iconst 0, .goto 2] := rfl
theorem b31_2 : blk 31 2 = [.freturn] := rfl
theorem en31 {a0 a1 : Int} : ent 31 [(3, a0), (0, a1)] = [(3, a0), (0, a1)] := rfl
theorem b32_0 : blk 32 0 = [.aload 0, .bipush 0, .jsr_w 1081, .goto 1] := rfl
theorem b32_1 : blk 32 1 = [.aload 0, .ifnull 1040, .aload 0, .ifnull 1032, .if_icmp .ge 2, .aload 0, .aload 0, .ifnull 1040, .invokeinterface 7952 2, .ifCond .eq 2, .aload 0, .aload 0, .ifnull 1081, .bipush 10, .lmul, .aload 0, .ifnonnull 1027, .aload 0, .ifnull 1040, .baload, .iconst 48, .isub, .i2l, .ladd, .jsr_w 1081, .aload 0, .dup, .ifnull 1040, .iconst 1, .iadd, .jsr_w 1040, .goto 1] := rfl
theorem b32_2 : blk 32 2 = [.aload 0, .aload 0, .ifnull 1040, .aload 0, .ifnull 1064, .isub, .iconst 6, .if_icmp .gt 3, .iconst 2, .goto 4] := rfl
theorem b32_3 : blk 32 3 = [.iconst 5, .goto 4] := rfl
theorem b32_4 : blk 32 4 = [.jsr_w 1056, .aload 0, .ifnull 1040, .aload 0, .ifnull 1032, .if_icmp .ge 5, .aload 0, .ifnonnull 1027, .aload 0, .ifnull 1040, .baload, .iconst 46, .if_icmp .ne 5, .aload 0, .aload 0, .ifnull 1040, .iconst 1, .iadd, .invokeinterface 7952 2, .ifCond .ne 6, .goto 5] := rfl
theorem b32_5 : blk 32 5 = [.return_] := rfl
theorem b32_6 : blk 32 6 = [.aload 0, .dup, .ifnull 1040, .iconst 1, .iadd, .jsr_w 1040, .aload 0, .ifnull 1040, .istore 1, .goto 7] := rfl
theorem b32_7 : blk 32 7 = [.aload 0, .ifnull 1040, .aload 0, .ifnull 1032, .if_icmp .ge 8, .aload 0, .aload 0, .ifnull 1040, .invokeinterface 7952 2, .ifCond .eq 8, .aload 0, .aload 0, .ifnull 1081, .bipush 10, .lmul, .aload 0, .ifnonnull 1027, .aload 0, .ifnull 1040, .baload, .iconst 48, .isub, .i2l, .ladd, .jsr_w 1081, .aload 0, .dup, .ifnull 1040, .iconst 1, .iadd, .jsr_w 1040, .goto 7] := rfl
theorem b32_8 : blk 32 8 = [.aload 0, .aload 0, .ifnull 1040, .iload 1, .isub, .jsr_w 1088, .aload 0, .aload 0, .ifnull 1056, .iconst 2, .if_icmp .ne 9, .aload 0, .ifnull 1088, .iconst 4, .if_icmp .gt 9, .iconst 3, .goto 10] := rfl
theorem b32_9 : blk 32 9 = [.iconst 5, .goto 10] := rfl
theorem b32_10 : blk 32 10 = [.jsr_w 1056, .return_] := rfl
theorem en32 {a0 : Int} : ent 32 [(3, a0)] = [(3, a0), (9, 0)] := rfl
theorem b33_0 : blk 33 0 = [.aload 0, .iload 1, .iconst 0, .invokeinterface 8816 3, .ireturn] := rfl
theorem en33 {a0 a1 : Int} : ent 33 [(3, a0), (0, a1)] = [(3, a0), (0, a1)] := rfl
theorem b34_0 : blk 34 0 = [.aload 0, .invokeinterface 9072 1, .ifCond .eq 1, .aload 0, .ifnonnull 13315, .iload 1, .iload 2, .aload 0, .invokeinterface 9328 1, .invokeinterface 9728 4, .goto 2] := rfl
theorem b34_1 : blk 34 1 = [.aload 0, .ifnonnull 13315, .iload 1, .iload 2, .aload 0, .invokeinterface 9328 1, .athrow] := rfl
theorem b34_2 : blk 34 2 = [.ireturn] := rfl
theorem en34 {a0 a1 a2 : Int} : ent 34 [(3, a0), (0, a1), (0, a2)] = [(3, a0), (0, a1), (0, a2)] := rfl
theorem b35_0 : blk 35 0 = [.iconst 1, .ifCond .eq 1, .aload 0, .ifnonnull 13326, .ifCond .ne 1, .iconst 1, .goto 2] := rfl
theorem b35_1 : blk 35 1 = [.iconst 0, .goto 2] := rfl
theorem b35_2 : blk 35 2 = [.freturn] := rfl
theorem en35 {a0 : Int} : ent 35 [(3, a0)] = [(3, a0)] := rfl
theorem b36_0 : blk 36 0 = [.aload 0, .ifnonnull 13315, .arraylength, .aload 0, .invokeinterface 9584 1, .ishr, .ireturn] := rfl
theorem en36 {a0 : Int} : ent 36 [(3, a0)] = [(3, a0)] := rfl
theorem b37_0 : blk 37 0 = [.iconst 1, .ifCond .eq 1, .aload 0, .ifnonnull 13326, .goto 2] := rfl
theorem b37_1 : blk 37 1 = [.iconst 1, .goto 2] := rfl
theorem b37_2 : blk 37 2 = [.fadd] := rfl
theorem en37 {a0 : Int} : ent 37 [(3, a0)] = [(3, a0)] := rfl
theorem b38_0 : blk 38 0 = [.iload 1, .invokeinterface 9984 1, .ifCond .ne 1, .iconst (-1), .ireturn] := rfl
theorem b38_1 : blk 38 1 = [.iload 2, .iconst 0, .invokeinterface 10240 2, .istore 2, .iload 3, .aload 0, .arraylength, .invokeinterface 10496 2, .istore 3, .iload 2, .iload 3, .if_icmp .lt 2, .iconst (-1), .ireturn] := rfl
theorem b38_2 : blk 38 2 = [.aload 0, .iload 1, .iload 2, .iload 3, .invokeinterface 10752 4, .ireturn] := rfl
theorem en38 {a0 a1 a2 a3 : Int} : ent 38 [(3, a0), (0, a1), (0, a2), (0, a3)] = [(3, a0), (0, a1), (0, a2), (0, a3)] := rfl
theorem b39_0 : blk 39 0 = [.iload 0, .ifCond .lt 1, .iload 0, .iconst 255, .if_icmp .gt 1, .iconst 1, .goto 2] := rfl
theorem b39_1 : blk 39 1 = [.iconst 0, .goto 2] := rfl
theorem b39_2 : blk 39 2 = [.freturn] := rfl
theorem en39 {a0 : Int} : ent 39 [(0, a0)] = [(0, a0)] := rfl
theorem b40_0 : blk 40 0 = [.iload 0, .iload 1, .if_icmp .lt 1, .iload 0, .goto 2] := rfl
theorem b40_1 : blk 40 1 = [.iload 1, .goto 2] := rfl
theorem b40_2 : blk 40 2 = [.ireturn] := rfl
theorem en40 {a0 a1 : Int} : ent 40 [(0, a0), (0, a1)] = [(0, a0), (0, a1)] := rfl
theorem b41_0 : blk 41 0 = [.iload 0, .iload 1, .if_icmp .gt 1, .iload 0, .goto 2] := rfl
theorem b41_1 : blk 41 1 = [.iload 1, .goto 2] := rfl
theorem b41_2 : blk 41 2 = [.ireturn] := rfl
theorem en41 {a0 a1 : Int} : ent 41 [(0, a0), (0, a1)] = [(0, a0), (0, a1)] := rfl
theorem b42_0 : blk 42 0 = [.iload 1, .i2b, .istore 4, .iload 2, .istore 5, .goto 1] := rfl
theorem b42_1 : blk 42 1 = [.iload 5, .iload 3, .if_icmp .ge 3, .aload 0, .iload 5, .baload, .iload 4, .if_icmp .ne 2, .iload 5, .ireturn] := rfl
theorem b42_2 : blk 42 2 = [.iinc 5 1, .goto 1] := rfl
theorem b42_3 : blk 42 3 = [.iconst (-1), .ireturn] := rfl
theorem en42 {a0 a1 a2 a3 : Int} : ent 42 [(3, a0), (0, a1), (0, a2), (0, a3)] = [(3, a0), (0, a1), (0, a2), (0, a3), (9, 0), (9, 0)] := rfl
theorem b43_0 : blk 43 0 = [.aload 0, .ifnonnull 2051, .invokeinterface 11280 1, .ifCond .ge 1, .iconst 1, .goto 2] := rfl
theorem b43_1 : blk 43 1 = [.iconst 0, .goto 2] := rfl
theorem b43_2 : blk 43 2 = [.freturn] := rfl
theorem en43 {a0 : Int} : ent 43 [(3, a0)] = [(3, a0)] := rfl
theorem b44_0 : blk 44 0 = [.aload 0, .ifnull 1048, .ireturn] := rfl
theorem en44 {a0 : Int} : ent 44 [(3, a0)] = [(3, a0)] := rfl
theorem b45_0 : blk 45 0 = [.aload 0, .ifnull 1056, .ireturn] := rfl
theorem en45 {a0 : Int} : ent 45 [(3, a0)] = [(3, a0)] := rfl
theorem b46_0 : blk 46 0 = [.aload 0, .ifnonnull 2051, .jsr (-179), .invokeinterface 12048 2, .istore 1, .aload 0, .ifnonnull 2051, .iload 1, .ifCond .lt 1, .iconst 1, .goto 2] := rfl
theorem b46_1 : blk 46 1 = [.iconst 0, .goto 2] := rfl
theorem b46_2 : blk 46 2 = [.invokeinterface 7188 2, .iload 1, .tableswitch 10 0 6 #[3, 4, 5, 6, 7, 8, 9]] := rfl
theorem b46_3 : blk 46 3 = [.aload 0, .invokeinterface 13340 1, .goto 10] := rfl
theorem b46_4 : blk 46 4 = [.aload 0, .invokeinterface 15900 1, .goto 10] := rfl
theorem b46_5 : blk 46 5 = [.aload 0, .invokeinterface 16668 1, .goto 10] := rfl
theorem b46_6 : blk 46 6 = [.aload 0, .invokeinterface 17436 1, .goto 10] := rfl
theorem b46_7 : blk 46 7 = [.aload 0, .invokeinterface 17692 1, .goto 10] := rfl
theorem b46_8 : blk 46 8 = [.aload 0, .invokeinterface 18716 1, .goto 10] := rfl
theorem b46_9 : blk 46 9 = [.aload 0, .invokeinterface 18972 1, .goto 10] := rfl
theorem b46_10 : blk 46 10 = [.return_] := rfl
theorem en46 {a0 : Int} : ent 46 [(3, a0)] = [(3, a0), (9, 0)] := rfl
theorem b47_0 : blk 47 0 = [.aload 0, .ifnull 1056, .iconst 1, .if_icmp .eq 1, .iconst (-1), .ireturn] := rfl
theorem b47_1 : blk 47 1 = [.iconst 0, .istore 2, .bipush 0, .lstore 3, .iconst 0, .istore 5, .goto 2] := rfl
theorem b47_2 : blk 47 2 = [.iload 5, .aload 1, .invokeinterface 9328 1, .if_icmp .ge 6, .aload 1, .iload 5, .invokeinterface 12400 2, .iconst 32, .if_icmp .eq 3, .lload 3, .iconst 8, .lshl, .aload 1, .iload 5, .invokeinterface 12400 2, .i2l, .lor, .lstore 3, .goto 5] := rfl
theorem b47_3 : blk 47 3 = [.lload 3, .aload 0, .ifnull 1073, .lcmp, .ifCond .ne 4, .iload 2, .ireturn] := rfl
theorem b47_4 : blk 47 4 = [.bipush 0, .lstore 3, .iinc 2 1, .goto 5] := rfl
theorem b47_5 : blk 47 5 = [.iinc 5 1, .goto 2] := rfl
theorem b47_6 : blk 47 6 = [.lload 3, .aload 0, .ifnull 1073, .lcmp, .ifCond .ne 7, .iload 2, .goto 8] := rfl
theorem b47_7 : blk 47 7 = [.iconst (-1), .goto 8] := rfl
theorem b47_8 : blk 47 8 = [.ireturn] := rfl
theorem en47 {a0 a1 : Int} : ent 47 [(3, a0), (3, a1)] = [(3, a0), (3, a1), (9, 0), (9, 0), (9, 0), (9, 0)] := rfl
theorem b48_0 : blk 48 0 = [.aload 0, .invokeinterface 9072 1, .ifCond .eq 1, .aload 0, .ifnonnull 13315, .iload 1, .invokeinterface 12544 2, .fneg] := rfl
theorem b48_1 : blk 48 1 = [.aload 0, .ifnonnull 13315, .iload 1, .athrow] := rfl
theorem en48 {a0 a1 : Int} : ent 48 [(3, a0), (0, a1)] = [(3, a0), (0, a1)] := rfl
theorem b49_0 : blk 49 0 = [.iload 1, .aload 0, .arraylength, .invokeinterface 12804 2, .aload 0, .iload 1, .baload, .iconst 255, .iand, .i2c, .fneg] := rfl
theorem en49 {a0 a1 : Int} : ent 49 [(3, a0), (0, a1)] = [(3, a0), (0, a1)] := rfl
theorem b50_0 : blk 50 0 = [.iload 0, .iload 1, .jsr 62, .invokeinterface 13056 3, .pop, .return_] := rfl
theorem en50 {a0 a1 : Int} : ent 50 [(0, a0), (0, a1)] = [(0, a0), (0, a1)] := rfl
theorem b51_0 : blk 51 0 = [.iload 0, .ifCond .lt 1, .iload 0, .iload 1, .if_icmp .lt 2, .goto 1] := rfl
theorem b51_1 : blk 51 1 = [.aload 2, .iload 0, .iload 1, .athrow] := rfl
theorem b51_2 : blk 51 2 = [.iload 0, .ireturn] := rfl
theorem en51 {a0 a1 a2 : Int} : ent 51 [(0, a0), (0, a1), (3, a2)] = [(0, a0), (0, a1), (3, a2)] := rfl
theorem b52_0 : blk 52 0 = [.aload 0, .iconst 0, .invokeinterface 13592 2, .pop, .aload 0, .iconst 59, .invokeinterface 15388 2, .return_] := rfl
theorem en52 {a0 : Int} : ent 52 [(3, a0)] = [(3, a0)] := rfl
theorem b53_0 : blk 53 0 = [.aload 0, .invokeinterface 13848 1, .ifCond .eq 1, .aload 0, .ifnull 2059, .iload 1, .aload 0, .ifnonnull 2051, .invokeinterface 14097 1, .invokeinterface 14424 3, .goto 2] := rfl
theorem b53_1 : blk 53 1 = [.iconst (-1), .goto 2] := rfl
theorem b53_2 : blk 53 2 = [.istore 2, .aload 0, .ifnonnull 2051, .iload 2, .ifCond .lt 3, .iconst 1, .goto 4] := rfl
theorem b53_3 : blk 53 3 = [.iconst 0, .goto 4] := rfl
theorem b53_4 : blk 53 4 = [.invokeinterface 7188 2, .iload 2, .ireturn] := rfl
theorem en53 {a0 a1 : Int} : ent 53 [(3, a0), (0, a1)] = [(3, a0), (0, a1), (9, 0)] := rfl
theorem b54_0 : blk 54 0 = [.aload 0, .ifnonnull 2051, .invokeinterface 11536 1, .iconst 1, .if_icmp .ne 1, .aload 0, .ifnonnull 2051, .jsr (-179), .invokeinterface 12048 2, .ifCond .ge 1, .aload 0, .ifnonnull 2051, .jsr (-307), .invokeinterface 12048 2, .ifCond .ge 1, .aload 0, .ifnonnull 2051, .jsr (-435), .invokeinterface 12048 2, .ifCond .ge 1, .aload 0, .ifnonnull 2051, .jsr (-563), .invokeinterface 12048 2, .ifCond .ge 1, .aload 0, .ifnonnull 2051, .jsr (-691), .invokeinterface 12048 2, .ifCond .ge 1, .aload 0, .ifnonnull 2051, .jsr (-819), .invokeinterface 12048 2, .ifCond .ge 1, .iconst 1, .goto 2] := rfl
theorem b54_1 : blk 54 1 = [.iconst 0, .goto 2] := rfl
theorem b54_2 : blk 54 2 = [.freturn] := rfl
theorem en54 {a0 : Int} : ent 54 [(3, a0)] = [(3, a0)] := rfl
theorem b55_0 : blk 55 0 = [.aload 0, .ifnull 1073, .lreturn] := rfl
theorem en55 {a0 : Int} : ent 55 [(3, a0)] = [(3, a0)] := rfl
theorem b56_0 : blk 56 0 = [.aload 0, .iload 1, .invokeinterface 14680 2, .iload 1, .invokeinterface 14848 1, .if_icmp .ge 1, .aload 0, .iload 1, .lload 2, .invokeinterface 15192 3, .ifCond .lt 2, .goto 1] := rfl
theorem b56_1 : blk 56 1 = [.iconst (-1), .ireturn] := rfl
theorem b56_2 : blk 56 2 = [.aload 0, .ifnonnull 10243, .iload 1, .aaload, .aload 0, .ifnonnull 10251, .iload 1, .iaload, .lload 2, .lastore, .aload 0, .ifnonnull 10251, .iload 1, .dup2, .iaload, .iconst 1, .iadd, .iastore, .aload 0, .ifnonnull 10251, .iload 1, .iaload, .iconst 1, .isub, .ireturn] := rfl
theorem en56 {a0 a1 a2 : Int} : ent 56 [(3, a0), (0, a1), (1, a2)] = [(3, a0), (0, a1), (1, a2), (9, 0)] := rfl
theorem b57_0 : blk 57 0 = [.iload 1, .ifCond .lt 1, .iload 1, .aload 0, .ifnonnull 10251, .arraylength, .if_icmp .ge 1, .aload 0, .ifnonnull 10251, .iload 1, .iaload, .goto 2] := rfl
theorem b57_1 : blk 57 1 = [.iconst 0, .goto 2] := rfl
theorem b57_2 : blk 57 2 = [.ireturn] := rfl
theorem en57 {a0 a1 : Int} : ent 57 [(3, a0), (0, a1)] = [(3, a0), (0, a1)] := rfl
theorem b58_0 : blk 58 0 = [.iload 0, .tableswitch 8 0 6 #[1, 2, 3, 4, 5, 6, 7]] := rfl
theorem b58_1 : blk 58 1 = [.iconst 12, .ireturn] := rfl
theorem b58_2 : blk 58 2 = [.iconst 6, .ireturn] := rfl
theorem b58_3 : blk 58 3 = [.iconst 10, .ireturn] := rfl
theorem b58_4 : blk 58 4 = [.iconst 8, .ireturn] := rfl
theorem b58_5 : blk 58 5 = [.iconst 12, .ireturn] := rfl
theorem b58_6 : blk 58 6 = [.iconst 8, .ireturn] := rfl
theorem b58_7 : blk 58 7 = [.iconst 12, .ireturn] := rfl
theorem b58_8 : blk 58 8 = [.iconst 0, .ireturn] := rfl
theorem en58 {a0 : Int} : ent 58 [(0, a0)] = [(0, a0)] := rfl
theorem b59_0 : blk 59 0 = [.iconst 0, .istore 4, .goto 1] := rfl
theorem b59_1 : blk 59 1 = [.iload 4, .aload 0, .iload 1, .invokeinterface 14680 2, .if_icmp .ge 3, .aload 0, .ifnonnull 10243, .iload 1, .aaload, .iload 4, .laload, .lload 2, .lcmp, .ifCond .ne 2, .iload 4, .ireturn] := rfl
theorem b59_2 : blk 59 2 = [.iinc 4 1, .goto 1] := rfl
theorem b59_3 : blk 59 3 = [.iconst (-1), .ireturn] := rfl
theorem en59 {a0 a1 a2 : Int} : ent 59 [(3, a0), (0, a1), (1, a2)] = [(3, a0), (0, a1), (1, a2), (9, 0), (9, 0)] := rfl
theorem b60_0 : blk 60 0 = [.aload 0, .ifnonnull 2051, .aload 0, .ifnonnull 2051, .iload 1, .invokeinterface 15632 2, .invokeinterface 7188 2, .return_] := rfl
theorem en60 {a0 a1 : Int} : ent 60 [(3, a0), (0, a1)] = [(3, a0), (0, a1)] := rfl
theorem b61_0 : blk 61 0 = [.aload 0, .ifnull 1056, .iconst 4, .if_icmp .ne 1, .aload 0, .ifnull 1101, .iload 1, .if_icmp .ne 1, .iconst 1, .goto 2] := rfl
theorem b61_1 : blk 61 1 = [.iconst 0, .goto 2] := rfl
theorem b61_2 : blk 61 2 = [.freturn] := rfl
theorem en61 {a0 a1 : Int} : ent 61 [(3, a0), (0, a1)] = [(3, a0), (0, a1)] := rfl
theorem b62_0 : blk 62 0 = [.aload 0, .iconst 1, .invokeinterface 13592 2, .istore 1, .aload 0, .iconst 99, .invokeinterface 16152 2, .istore 2, .aload 0, .iconst 59, .invokeinterface 15388 2, .aload 0, .invokeinterface 11032 1, .ifCond .eq 1, .aload 0, .ifnull 2059, .ifnonnull 10259, .iload 1, .iload 2, .iastore, .goto 1] := rfl
theorem b62_1 : blk 62 1 = [.return_] := rfl
theorem en62 {a0 : Int} : ent 62 [(3, a0)] = [(3, a0), (9, 0), (9, 0)] := rfl
theorem b63_0 : blk 63 0 = [.aload 0, .ifnonnull 2051, .invokeinterface 16400 1, .istore 2, .aload 0, .ifnonnull 2051, .aload 0, .ifnonnull 2051, .invokeinterface 11536 1, .iconst 2, .if_icmp .ne 1, .iload 2, .iconst 1, .if_icmp .lt 1, .iload 2, .iload 1, .if_icmp .gt 1, .iconst 1, .goto 2] := rfl
theorem b63_1 : blk 63 1 = [.iconst 0, .goto 2] := rfl
theorem b63_2 : blk 63 2 = [.invokeinterface 7188 2, .iload 2, .ireturn] := rfl
theorem en63 {a0 a1 : Int} : ent 63 [(3, a0), (0, a1)] = [(3, a0), (0, a1), (9, 0)] := rfl
theorem b64_0 : blk 64 0 = [.aload 0, .ifnull 1081, .l2i, .ireturn] := rfl
theorem en64 {a0 : Int} : ent 64 [(3, a0)] = [(3, a0)] := rfl
theorem b65_0 : blk 65 0 = [.aload 0, .iconst 2, .invokeinterface 13592 2, .istore 1, .aload 0, .ifnonnull 2051, .jsr (-307), .invokeinterface 12048 2, .istore 2, .aload 0, .ifnonnull 2051, .iload 2, .ifCond .lt 1, .iconst 1, .goto 2] := rfl
theorem b65_1 : blk 65 1 = [.iconst 0, .goto 2] := rfl
theorem b65_2 : blk 65 2 = [.invokeinterface 7188 2, .aload 0, .iconst 58, .invokeinterface 15388 2, .aload 0, .iconst 0, .invokeinterface 16920 2, .istore 3, .iconst 0, .istore 4, .goto 3] := rfl
theorem b65_3 : blk 65 3 = [.iload 4, .iconst 12, .if_icmp .ge 4, .aload 0, .ifnonnull 2051, .iconst 44, .invokeinterface 15632 2, .ifCond .eq 4, .aload 0, .ifnonnull 2051, .iconst 1, .invokeinterface 7188 2, .aload 0, .iload 3, .invokeinterface 16920 2, .istore 3, .iinc 4 1, .goto 3] := rfl
theorem b65_4 : blk 65 4 = [.aload 0, .iconst 59, .invokeinterface 15388 2, .aload 0, .invokeinterface 11032 1, .ifCond .eq 5, .aload 0, .ifnull 2059, .ifnonnull 10267, .iload 1, .iconst 2, .iload 2, .iadd, .iastore, .aload 0, .ifnull 2059, .ifnonnull 10275, .iload 1, .iload 3, .iastore, .goto 5] := rfl
theorem b65_5 : blk 65 5 = [.return_] := rfl
theorem en65 {a0 : Int} : ent 65 [(3, a0)] = [(3, a0), (9, 0), (9, 0), (9, 0), (9, 0)] := rfl
theorem b66_0 : blk 66 0 = [.aload 0, .iconst 0, .invokeinterface 17176 2, .istore 2, .iload 2, .ifCond .lt 1, .iload 1, .iload 2, .ishr, .iconst 1, .iand, .ifCond .ne 1, .iconst 1, .goto 2] := rfl
theorem b66_1 : blk 66 1 = [.iconst 0, .goto 2] := rfl
theorem b66_2 : blk 66 2 = [.istore 3, .aload 0, .ifnonnull 2051, .iload 3, .invokeinterface 7188 2, .iload 3, .ifCond .eq 3, .iload 1, .iconst 1, .iload 2, .ishl, .ior, .goto 4] := rfl
theorem b66_3 : blk 66 3 = [.iload 1, .goto 4] := rfl
theorem b66_4 : blk 66 4 = [.ireturn] := rfl
theorem en66 {a0 a1 : Int} : ent 66 [(3, a0), (0, a1)] = [(3, a0), (0, a1), (9, 0), (9, 0)] := rfl
theorem b67_0 : blk 67 0 = [.aload 0, .invokeinterface 13848 1, .ifCond .eq 1, .aload 0, .ifnull 2059, .iload 1, .aload 0, .ifnonnull 2051, .invokeinterface 14097 1, .invokeinterface 15192 3, .goto 2] := rfl
theorem b67_1 : blk 67 1 = [.iconst (-1), .goto 2] := rfl
theorem b67_2 : blk 67 2 = [.ireturn] := rfl
theorem en67 {a0 a1 : Int} : ent 67 [(3, a0), (0, a1)] = [(3, a0), (0, a1)] := rfl
theorem b68_0 : blk 68 0 = [.aload 0, .iconst 3, .invokeinterface 13592 2, .istore 1, .aload 0, .iconst 99, .invokeinterface 16152 2, .istore 2, .aload 0, .iconst 59, .invokeinterface 15388 2, .aload 0, .invokeinterface 11032 1, .ifCond .eq 1, .aload 0, .ifnull 2059, .ifnonnull 10283, .iload 1, .iload 2, .iastore, .goto 1] := rfl
theorem b68_1 : blk 68 1 = [.return_] := rfl
theorem en68 {a0 : Int} : ent 68 [(3, a0)] = [(3, a0), (9, 0), (9, 0)] := rfl
theorem b69_0 : blk 69 0 = [.aload 0, .iconst 4, .invokeinterface 13592 2, .istore 1, .aload 0, .iconst 58, .invokeinterface 15388 2, .aload 0, .iconst 0, .invokeinterface 17176 2, .istore 2, .aload 0, .ifnonnull 2051, .iload 2, .ifCond .lt 1, .iconst 1, .goto 2] := rfl
theorem b69_1 : blk 69 1 = [.iconst 0, .goto 2] := rfl
theorem b69_2 : blk 69 2 = [.invokeinterface 7188 2, .aload 0, .iconst 3, .invokeinterface 17176 2, .istore 3, .aload 0, .ifnonnull 2051, .iload 3, .ifCond .lt 3, .iconst 1, .goto 4] := rfl
theorem b69_3 : blk 69 3 = [.iconst 0, .goto 4] := rfl
theorem b69_4 : blk 69 4 = [.invokeinterface 7188 2, .aload 0, .iconst 2, .invokeinterface 17176 2, .istore 4, .aload 0, .ifnonnull 2051, .iload 4, .ifCond .lt 5, .aload 0, .ifnull 2059, .iload 4, .iload 2, .invokeinterface 18008 3, .ifCond .eq 5, .iconst 1, .goto 6] := rfl
theorem b69_5 : blk 69 5 = [.iconst 0, .goto 6] := rfl
theorem b69_6 : blk 69 6 = [.invokeinterface 7188 2, .aload 0, .iconst 3, .invokeinterface 16152 2, .istore 5, .aload 0, .iconst 59, .invokeinterface 15388 2, .aload 0, .invokeinterface 11032 1, .ifCond .eq 7, .aload 0, .ifnull 2059, .ifnonnull 10291, .iload 1, .iload 2, .iastore, .aload 0, .ifnull 2059, .ifnonnull 10299, .iload 1, .iload 3, .iastore, .aload 0, .ifnull 2059, .ifnonnull 10307, .iload 1, .iload 4, .iastore, .aload 0, .ifnull 2059, .iload 1, .iload 5, .invokeinterface 18524 3, .goto 7] := rfl
theorem b69_7 : blk 69 7 = [.return_] := rfl
theorem en69 {a0 : Int} : ent 69 [(3, a0)] = [(3, a0), (9, 0), (9, 0), (9, 0), (9, 0), (9, 0)] := rfl
theorem b70_0 : blk 70 0 = [.aload 0, .iconst 2, .iload 1, .invokeinterface 18264 3, .ifCond .eq 1, .iload 2, .ifCond .lt 1, .aload 0, .ifnonnull 10275, .iload 1, .iaload, .iload 2, .ishr, .iconst 1, .iand, .iconst 1, .if_icmp .ne 1, .iconst 1, .goto 2] := rfl
theorem b70_1 : blk 70 1 = [.iconst 0, .goto 2] := rfl
theorem b70_2 : blk 70 2 = [.freturn] := rfl
theorem en70 {a0 a1 a2 : Int} : ent 70 [(3, a0), (0, a1), (0, a2)] = [(3, a0), (0, a1), (0, a2)] := rfl
theorem b71_0 : blk 71 0 = [.iload 2, .ifCond .lt 1, .iload 2, .aload 0, .iload 1, .invokeinterface 14680 2, .if_icmp .ge 1, .iconst 1, .goto 2] := rfl
theorem b71_1 : blk 71 1 = [.iconst 0, .goto 2] := rfl
theorem b71_2 : blk 71 2 = [.freturn] := rfl
theorem en71 {a0 a1 a2 : Int} : ent 71 [(3, a0), (0, a1), (0, a2)] = [(3, a0), (0, a1), (0, a2)] := rfl
theorem b72_0 : blk 72 0 = [.iconst 0, .istore 3, .goto 1] := rfl
theorem b72_1 : blk 72 1 = [.iload 3, .iload 2, .if_icmp .ge 2, .aload 0, .ifnull 10328, .iconst 36, .if_icmp .ge 2, .aload 0, .ifnonnull 10323, .aload 0, .ifnull 10328, .iload 1, .iastore, .aload 0, .dup, .ifnull 10328, .iconst 1, .iadd, .jsr_w 10328, .iinc 3 1, .goto 1] := rfl
theorem b72_2 : blk 72 2 = [.return_] := rfl
theorem en72 {a0 a1 a2 : Int} : ent 72 [(3, a0), (0, a1), (0, a2)] = [(3, a0), (0, a1), (0, a2), (9, 0)] := rfl
theorem b73_0 : blk 73 0 = [.aload 0, .iconst 5, .invokeinterface 13592 2, .istore 1, .aload 0, .iconst 99, .invokeinterface 16152 2, .istore 2, .aload 0, .iconst 59, .invokeinterface 15388 2, .aload 0, .invokeinterface 11032 1, .ifCond .eq 1, .aload 0, .ifnull 2059, .ifnonnull 10315, .iload 1, .iload 2, .iastore, .goto 1] := rfl
theorem b73_1 : blk 73 1 = [.return_] := rfl
theorem en73 {a0 : Int} : ent 73 [(3, a0)] = [(3, a0), (9, 0), (9, 0)] := rfl
theorem b74_0 : blk 74 0 = [.aload 0, .iconst 6, .invokeinterface 13592 2, .istore 1, .aload 0, .iconst 0, .jsr_w 2096, .aload 0, .iconst 40, .invokeinterface 15388 2, .aload 0, .ifnonnull 2051, .iconst 41, .invokeinterface 15632 2, .ifCond .ne 2, .aload 0, .invokeinterface 19228 1, .iconst 0, .istore 2, .goto 1] := rfl
theorem b74_1 : blk 74 1 = [.iload 2, .iconst 4, .if_icmp .ge 2, .aload 0, .ifnonnull 2051, .iconst 44, .invokeinterface 15632 2, .ifCond .eq 2, .aload 0, .ifnonnull 2051, .iconst 1, .invokeinterface 7188 2, .aload 0, .invokeinterface 19228 1, .iinc 2 1, .goto 1] := rfl
theorem b74_2 : blk 74 2 = [.aload 0, .iconst 41, .invokeinterface 15388 2, .aload 0, .invokeinterface 11032 1, .ifCond .ne 3, .return_] := rfl
theorem b74_3 : blk 74 3 = [.aload 0, .ifnull 2059, .ifnonnull 10339, .iload 1, .aload 0, .ifnull 2059, .invokeinterface 20312 1, .iastore, .aload 0, .ifnull 2059, .ifnonnull 10347, .iload 1, .aload 0, .ifnull 2096, .iastore, .aload 0, .iconst 0, .invokeinterface 20508 2, .aload 0, .ifnull 2059, .iconst 0, .invokeinterface 21596 2, .aload 0, .ifnull 2059, .ifnonnull 10355, .iload 1, .aload 0, .ifnull 2096, .iastore, .iconst 0, .istore 2, .goto 4] := rfl
theorem b74_4 : blk 74 4 = [.iload 2, .aload 0, .ifnull 2096, .if_icmp .ge 6, .aload 0, .ifnonnull 2091, .iload 2, .iaload, .ifCond .lt 5, .aload 0, .aload 0, .ifnonnull 2091, .iload 2, .iaload, .invokeinterface 32540 2, .goto 5] := rfl
theorem b74_5 : blk 74 5 = [.iinc 2 1, .goto 4] := rfl
theorem b74_6 : blk 74 6 = [.return_] := rfl
theorem en74 {a0 : Int} : ent 74 [(3, a0)] = [(3, a0), (9, 0), (9, 0)] := rfl
theorem b75_0 : blk 75 0 = [.aload 0, .invokeinterface 13848 1, .ifCond .eq 1, .aload 0, .ifnull 2096, .iconst 4, .if_icmp .ge 1, .aload 0, .aload 0, .ifnonnull 2051, .invokeinterface 14097 1, .invokeinterface 19480 2, .ifCond .ge 1, .iconst 1, .goto 2] := rfl
theorem b75_1 : blk 75 1 = [.iconst 0, .goto 2] := rfl
theorem b75_2 : blk 75 2 = [.istore 1, .iload 1, .ifCond .eq 3, .aload 0, .aload 0, .ifnonnull 2051, .invokeinterface 14097 1, .invokeinterface 19736 2, .pop, .goto 3] := rfl
theorem b75_3 : blk 75 3 = [.aload 0, .ifnonnull 2051, .iload 1, .invokeinterface 7188 2, .return_] := rfl
theorem en75 {a0 : Int} : ent 75 [(3, a0)] = [(3, a0), (9, 0)] := rfl
theorem b76_0 : blk 76 0 = [.iconst 0, .istore 3, .goto 1] := rfl
theorem b76_1 : blk 76 1 = [.iload 3, .aload 0, .ifnull 2096, .if_icmp .ge 3, .aload 0, .ifnonnull 2083, .iload 3, .laload, .lload 1, .lcmp, .ifCond .ne 2, .iload 3, .ireturn] := rfl
theorem b76_2 : blk 76 2 = [.iinc 3 1, .goto 1] := rfl
theorem b76_3 : blk 76 3 = [.iconst (-1), .ireturn] := rfl
theorem en76 {a0 a1 : Int} : ent 76 [(3, a0), (1, a1)] = [(3, a0), (1, a1), (9, 0), (9, 0)] := rfl
theorem b77_0 : blk 77 0 = [.aload 0, .lload 1, .iconst (-1), .invokeinterface 19992 3, .istore 3, .iload 3, .ifCond .lt 1, .aload 0, .ifnonnull 2091, .iload 3, .iconst (-1), .iastore, .goto 1] := rfl
theorem b77_1 : blk 77 1 = [.iload 3, .ireturn] := rfl
theorem en77 {a0 a1 : Int} : ent 77 [(3, a0), (1, a1)] = [(3, a0), (1, a1), (9, 0), (9, 0)] := rfl
theorem b78_0 : blk 78 0 = [.aload 0, .lload 1, .invokeinterface 19480 2, .istore 4, .iload 4, .ifCond .ge 1, .aload 0, .ifnull 2096, .iconst 404, .if_icmp .lt 2, .goto 1] := rfl
theorem b78_1 : blk 78 1 = [.iload 4, .ireturn] := rfl
theorem b78_2 : blk 78 2 = [.aload 0, .ifnonnull 2083, .aload 0, .ifnull 2096, .lload 1, .lastore, .aload 0, .ifnonnull 2091, .aload 0, .ifnull 2096, .iload 3, .iastore, .aload 0, .dup, .ifnull 2096, .iconst 1, .iadd, .jsr_w 2096, .aload 0, .ifnull 2096, .iconst 1, .isub, .ireturn] := rfl
theorem en78 {a0 a1 a2 : Int} : ent 78 [(3, a0), (1, a1), (0, a2)] = [(3, a0), (1, a1), (9, 0), (0, a2), (9, 0)] := rfl
theorem b79_0 : blk 79 0 = [.aload 0, .ifnull 10376, .ireturn] := rfl
theorem en79 {a0 : Int} : ent 79 [(3, a0)] = [(3, a0)] := rfl
theorem b80_0 : blk 80 0 = [.aload 0, .iconst 123, .iload 1, .invokeinterface 20764 3, .iconst 0, .istore 2, .goto 1] := rfl
theorem b80_1 : blk 80 1 = [.iload 2, .iconst 400, .if_icmp .gt 2, .aload 0, .invokeinterface 11032 1, .ifCond .eq 2, .aload 0, .ifnonnull 2051, .iconst 125, .invokeinterface 15632 2, .ifCond .ne 2, .aload 0, .iload 1, .iconst 1, .iadd, .invokeinterface 21020 2, .iinc 2 1, .goto 1] := rfl
theorem b80_2 : blk 80 2 = [.aload 0, .iconst 125, .invokeinterface 15388 2, .return_] := rfl
theorem en80 {a0 a1 : Int} : ent 80 [(3, a0), (0, a1)] = [(3, a0), (0, a1), (9, 0)] := rfl
theorem b81_0 : blk 81 0 = [.aload 0, .ifnonnull 2051, .iload 2, .iconst 12, .if_icmp .ge 1, .aload 0, .ifnonnull 2051, .iload 1, .invokeinterface 15632 2, .ifCond .eq 1, .iconst 1, .goto 2] := rfl
theorem b81_1 : blk 81 1 = [.iconst 0, .goto 2] := rfl
theorem b81_2 : blk 81 2 = [.invokeinterface 7188 2, .return_] := rfl
theorem en81 {a0 a1 a2 : Int} : ent 81 [(3, a0), (0, a1), (0, a2)] = [(3, a0), (0, a1), (0, a2)] := rfl
theorem b82_0 : blk 82 0 = [.aload 0, .invokeinterface 21276 1, .aload 0, .ifnull 2059, .iconst 1, .invokeinterface 21596 2, .aload 0, .ifnonnull 2051, .jsr (-435), .invokeinterface 12048 2, .istore 2, .iload 2, .ifCond .ge 1, .aload 0, .iload 1, .invokeinterface 21788 2, .return_] := rfl
theorem b82_1 : blk 82 1 = [.aload 0, .ifnonnull 2051, .iconst 1, .invokeinterface 7188 2, .iload 2, .tableswitch 7 0 4 #[2, 3, 4, 5, 6]] := rfl
theorem b82_2 : blk 82 2 = [.aload 0, .iload 1, .invokeinterface 29724 2, .goto 8] := rfl
theorem b82_3 : blk 82 3 = [.aload 0, .iload 1, .invokeinterface 31004 2, .goto 8] := rfl
theorem b82_4 : blk 82 4 = [.aload 0, .iload 1, .invokeinterface 31260 2, .goto 8] := rfl
theorem b82_5 : blk 82 5 = [.aload 0, .invokeinterface 31772 1, .goto 8] := rfl
theorem b82_6 : blk 82 6 = [.aload 0, .iload 1, .invokeinterface 32028 2, .goto 8] := rfl
theorem b82_7 : blk 82 7 = [.aload 0, .iload 1, .invokeinterface 32284 2, .goto 8] := rfl
theorem b82_8 : blk 82 8 = [.return_] := rfl
theorem en82 {a0 a1 : Int} : ent 82 [(3, a0), (0, a1)] = [(3, a0), (0, a1), (9, 0)] := rfl
theorem b83_0 : blk 83 0 = [.aload 0, .ifnull 2059, .ifnull 10360, .iconst 400, .if_icmp .lt 1, .aload 0, .ifnonnull 2051, .iconst 0, .invokeinterface 7188 2, .goto 1] := rfl
theorem b83_1 : blk 83 1 = [.aload 0, .ifnull 2059, .dup, .ifnull 10360, .iconst 1, .iadd, .jsr_w 10360, .return_] := rfl
theorem en83 {a0 : Int} : ent 83 [(3, a0)] = [(3, a0)] := rfl
theorem b84_0 : blk 84 0 = [.aload 0, .ifnull 10376, .iconst 2400, .if_icmp .lt 1, .return_] := rfl
theorem b84_1 : blk 84 1 = [.aload 0, .ifnonnull 10371, .aload 0, .ifnull 10376, .iload 1, .iastore, .aload 0, .dup, .ifnull 10376, .iconst 1, .iadd, .jsr_w 10376, .return_] := rfl
theorem en84 {a0 a1 : Int} : ent 84 [(3, a0), (0, a1)] = [(3, a0), (0, a1)] := rfl
theorem b85_0 : blk 85 0 = [.aload 0, .ifnonnull 2051, .invokeinterface 14097 1, .lstore 2, .aload 0, .ifnonnull 2051, .invokeinterface 22032 1, .istore 4, .aload 0, .ifnonnull 2051, .aload 0, .invokeinterface 13848 1, .invokeinterface 7188 2, .aload 0, .ifnonnull 2051, .iconst 91, .invokeinterface 15632 2, .ifCond .eq 1, .aload 0, .lload 2, .iload 4, .invokeinterface 19992 3, .istore 5, .aload 0, .iconst 91, .iload 1, .invokeinterface 20764 3, .aload 0, .iload 1, .iconst 1, .iadd, .invokeinterface 22300 2, .aload 0, .iconst 93, .invokeinterface 15388 2, .aload 0, .iconst 61, .invokeinterface 15388 2, .aload 0, .iload 1, .invokeinterface 22300 2, .aload 0, .iconst 7, .iload 5, .invokeinterface 24348 3, .goto 2] := rfl
theorem b85_1 : blk 85 1 = [.aload 0, .iconst 61, .invokeinterface 15388 2, .aload 0, .lload 2, .invokeinterface 19736 2, .istore 5, .aload 0, .iload 1, .invokeinterface 22300 2, .aload 0, .iconst 6, .iload 5, .invokeinterface 24348 3, .goto 2] := rfl
theorem b85_2 : blk 85 2 = [.aload 0, .iconst 59, .invokeinterface 15388 2, .return_] := rfl
theorem en85 {a0 a1 : Int} : ent 85 [(3, a0), (0, a1)] = [(3, a0), (0, a1), (9, 0), (9, 0), (9, 0), (9, 0)] := rfl
theorem b86_0 : blk 86 0 = [.aload 0, .ifnull 1064, .ireturn] := rfl
theorem en86 {a0 : Int} : ent 86 [(3, a0)] = [(3, a0)] := rfl
theorem b87_0 : blk 87 0 = [.aload 0, .iconst 0, .jsr_w 2072, .aload 0, .iload 1, .invokeinterface 22556 2, .return_] := rfl
theorem en87 {a0 a1 : Int} : ent 87 [(3, a0), (0, a1)] = [(3, a0), (0, a1)] := rfl
theorem b88_0 : blk 88 0 = [.aload 0, .iload 1, .invokeinterface 22812 2, .aload 0, .ifnonnull 2051, .jsr (-947), .invokeinterface 29456 2, .istore 2, .iload 2, .ifCond .ge 1, .return_] := rfl
theorem b88_1 : blk 88 1 = [.aload 0, .invokeinterface 23580 1, .aload 0, .ifnonnull 2051, .iconst 1, .invokeinterface 7188 2, .aload 0, .iload 1, .invokeinterface 22812 2, .aload 0, .iconst 9, .iload 2, .invokeinterface 24348 3, .return_] := rfl
theorem en88 {a0 a1 : Int} : ent 88 [(3, a0), (0, a1)] = [(3, a0), (0, a1), (9, 0)] := rfl
theorem b89_0 : blk 89 0 = [.aload 0, .iload 1, .invokeinterface 23068 2, .iconst 0, .istore 2, .goto 1] := rfl
theorem b89_1 : blk 89 1 = [.iload 2, .iconst 30, .if_icmp .ge 2, .aload 0, .ifnonnull 2051, .jsr (-1075), .invokeinterface 29456 2, .ifCond .lt 2, .iconst 0, .aload 0, .ifnonnull 2051, .jsr (-1075), .invokeinterface 29456 2, .iadd, .istore 3, .aload 0, .invokeinterface 23580 1, .aload 0, .ifnonnull 2051, .iconst 1, .invokeinterface 7188 2, .aload 0, .iload 1, .invokeinterface 23068 2, .aload 0, .iconst 8, .iload 3, .invokeinterface 24348 3, .iinc 2 1, .goto 1] := rfl
theorem b89_2 : blk 89 2 = [.return_] := rfl
theorem en89 {a0 a1 : Int} : ent 89 [(3, a0), (0, a1)] = [(3, a0), (0, a1), (9, 0), (9, 0)] := rfl
theorem b90_0 : blk 90 0 = [.aload 0, .iload 1, .invokeinterface 23324 2, .iconst 0, .istore 2, .goto 1] := rfl
theorem b90_1 : blk 90 1 = [.iload 2, .iconst 30, .if_icmp .ge 2, .aload 0, .ifnonnull 2051, .jsr (-1203), .invokeinterface 29456 2, .ifCond .lt 2, .iconst 2, .aload 0, .ifnonnull 2051, .jsr (-1203), .invokeinterface 29456 2, .iadd, .istore 3, .aload 0, .invokeinterface 23580 1, .aload 0, .ifnonnull 2051, .iconst 1, .invokeinterface 7188 2, .aload 0, .iload 1, .invokeinterface 23324 2, .aload 0, .iconst 8, .iload 3, .invokeinterface 24348 3, .iinc 2 1, .goto 1] := rfl
theorem b90_2 : blk 90 2 = [.return_] := rfl
theorem en90 {a0 a1 : Int} : ent 90 [(3, a0), (0, a1)] = [(3, a0), (0, a1), (9, 0), (9, 0)] := rfl
theorem b91_0 : blk 91 0 = [.aload 0, .ifnonnull 2051, .iconst 45, .invokeinterface 15632 2, .ifCond .eq 2, .aload 0, .invokeinterface 23580 1, .aload 0, .iconst 45, .iload 1, .invokeinterface 20764 3, .aload 0, .invokeinterface 11032 1, .ifCond .eq 1, .aload 0, .iload 1, .iconst 1, .iadd, .invokeinterface 23324 2, .goto 1] := rfl
theorem b91_1 : blk 91 1 = [.aload 0, .ifnull 2059, .iconst 10, .invokeinterface 21596 2, .return_] := rfl
theorem b91_2 : blk 91 2 = [.aload 0, .iload 1, .invokeinterface 23836 2, .iconst 0, .istore 2, .goto 3] := rfl
theorem b91_3 : blk 91 3 = [.iload 2, .iconst 30, .if_icmp .ge 4, .aload 0, .ifnonnull 2051, .iconst 91, .invokeinterface 15632 2, .ifCond .eq 4, .aload 0, .invokeinterface 23580 1, .aload 0, .iconst 91, .iconst 93, .iload 1, .invokeinterface 24092 4, .aload 0, .ifnull 2059, .iconst 11, .invokeinterface 21596 2, .iinc 2 1, .goto 3] := rfl
theorem b91_4 : blk 91 4 = [.return_] := rfl
theorem en91 {a0 a1 : Int} : ent 91 [(3, a0), (0, a1)] = [(3, a0), (0, a1), (9, 0)] := rfl
theorem b92_0 : blk 92 0 = [.aload 0, .ifnull 2072, .iconst 30, .if_icmp .lt 1, .aload 0, .ifnonnull 2051, .iconst 0, .invokeinterface 7188 2, .goto 1] := rfl
theorem b92_1 : blk 92 1 = [.aload 0, .dup, .ifnull 2072, .iconst 1, .iadd, .jsr_w 2072, .aload 0, .invokeinterface 21276 1, .return_] := rfl
theorem en92 {a0 : Int} : ent 92 [(3, a0)] = [(3, a0)] := rfl
theorem b93_0 : blk 93 0 = [.aload 0, .ifnonnull 2051, .iconst 40, .invokeinterface 15632 2, .ifCond .eq 1, .aload 0, .iconst 40, .iconst 41, .iload 1, .invokeinterface 24092 4, .return_] := rfl
theorem b93_1 : blk 93 1 = [.aload 0, .invokeinterface 23580 1, .aload 0, .ifnonnull 2051, .invokeinterface 11536 1, .istore 2, .aload 0, .ifnonnull 2051, .jsr (-691), .invokeinterface 12048 2, .istore 3, .iload 2, .iconst 2, .if_icmp .ne 2, .aload 0, .iconst 3, .aload 0, .ifnonnull 2051, .invokeinterface 16400 1, .invokeinterface 24348 3, .goto 5] := rfl
theorem b93_2 : blk 93 2 = [.iload 2, .iconst 3, .if_icmp .ne 3, .aload 0, .aload 0, .ifnonnull 2051, .invokeinterface 24593 1, .aload 0, .ifnonnull 2051, .invokeinterface 24848 1, .invokeinterface 25089 2, .invokeinterface 28444 2, .goto 5] := rfl
theorem b93_3 : blk 93 3 = [.aload 0, .ifnonnull 2051, .jsr (-1331), .invokeinterface 12048 2, .ifCond .ne 4, .aload 0, .ifnull 2059, .iconst 2, .invokeinterface 21596 2, .goto 5] := rfl
theorem b93_4 : blk 93 4 = [.iload 3, .ifCond .ge 5, .aload 0, .iload 1, .invokeinterface 28700 2, .return_] := rfl
theorem b93_5 : blk 93 5 = [.aload 0, .ifnonnull 2051, .iconst 1, .invokeinterface 7188 2, .iload 3, .ifCond .lt 6, .aload 0, .iload 3, .iload 1, .invokeinterface 29212 3, .goto 6] := rfl
theorem b93_6 : blk 93 6 = [.return_] := rfl
theorem en93 {a0 a1 : Int} : ent 93 [(3, a0), (0, a1)] = [(3, a0), (0, a1), (9, 0), (9, 0)] := rfl
theorem b94_0 : blk 94 0 = [.aload 0, .iload 1, .iload 3, .invokeinterface 20764 3, .aload 0, .invokeinterface 11032 1, .ifCond .eq 1, .aload 0, .iload 3, .iconst 1, .iadd, .invokeinterface 22556 2, .goto 1] := rfl
theorem b94_1 : blk 94 1 = [.aload 0, .iload 2, .invokeinterface 15388 2, .return_] := rfl
theorem en94 {a0 a1 a2 a3 : Int} : ent 94 [(3, a0), (0, a1), (0, a2), (0, a3)] = [(3, a0), (0, a1), (0, a2), (0, a3)] := rfl
theorem b95_0 : blk 95 0 = [.aload 0, .ifnull 2059, .iload 1, .invokeinterface 21596 2, .aload 0, .ifnull 2059, .iload 2, .invokeinterface 21596 2, .return_] := rfl
theorem en95 {a0 a1 a2 : Int} : ent 95 [(3, a0), (0, a1), (0, a2)] = [(3, a0), (0, a1), (0, a2)] := rfl
theorem b96_0 : blk 96 0 = [.aload 0, .ifnull 1081, .lreturn] := rfl
theorem en96 {a0 : Int} : ent 96 [(3, a0)] = [(3, a0)] := rfl
theorem b97_0 : blk 97 0 = [.aload 0, .ifnull 1088, .ireturn] := rfl
theorem en97 {a0 : Int} : ent 97 [(3, a0)] = [(3, a0)] := rfl
theorem b98_0 : blk 98 0 = [.bipush 1, .lstore 3, .iconst 0, .istore 5, .goto 1] := rfl
theorem b98_1 : blk 98 1 = [.iload 5, .iload 2, .if_icmp .ge 2, .lload 3, .bipush 10, .lmul, .lstore 3, .iinc 5 1, .goto 1] := rfl
theorem b98_2 : blk 98 2 = [.lload 0, .invokeinterface 25345 1, .lload 3, .invokeinterface 25345 1, .invokeinterface 26625 2, .lreturn] := rfl
theorem en98 {a0 a1 : Int} : ent 98 [(1, a0), (0, a1)] = [(1, a0), (9, 0), (0, a1), (9, 0), (9, 0), (9, 0)] := rfl
theorem b99_0 : blk 99 0 = [.lload 0, .bipush (-9223372036854775808), .land, .lload 0, .invokeinterface 25601 1, .iconst 0, .invokeinterface 25857 3, .lreturn] := rfl
theorem en99 {a0 : Int} : ent 99 [(1, a0)] = [(1, a0), (9, 0)] := rfl
theorem b100_0 : blk 100 0 = [.lload 0, .bipush 0, .lcmp, .ifCond .ge 1, .lload 0, .lneg, .goto 2] := rfl
theorem b100_1 : blk 100 1 = [.lload 0, .goto 2] := rfl
theorem b100_2 : blk 100 2 = [.lreturn] := rfl
theorem en100 {a0 : Int} : ent 100 [(1, a0)] = [(1, a0), (9, 0)] := rfl
theorem b101_0 : blk 101 0 = [.lload 2, .bipush 0, .lcmp, .ifCond .gt 1, .lload 0, .lreturn] := rfl
theorem b101_1 : blk 101 1 = [.lload 2, .invokeinterface 26112 1, .iconst 53, .isub, .iconst (-1074), .iload 4, .isub, .invokeinterface 10240 2, .istore 5, .iload 5, .iconst 63, .if_icmp .le 2, .lload 0, .lreturn] := rfl
theorem b101_2 : blk 101 2 = [.iload 4, .iload 5, .iadd, .iconst 971, .if_icmp .le 3, .lload 0, .bipush 9218868437227405312, .lor, .lreturn] := rfl
theorem b101_3 : blk 101 3 = [.iload 5, .ifCond .gt 4, .lload 2, .iload 5, .ineg, .lshl, .goto 5] := rfl
theorem b101_4 : blk 101 4 = [.lload 2, .iload 5, .lushr, .goto 5] := rfl
theorem b101_5 : blk 101 5 = [.lstore 6, .iload 5, .ifCond .le 7, .lload 2, .bipush 1, .iload 5, .lshl, .bipush 1, .lsub, .land, .lstore 8, .bipush 1, .iload 5, .iconst 1, .isub, .lshl, .lstore 10, .lload 8, .lload 10, .lcmp, .ifCond .gt 6, .lload 8, .lload 10, .lcmp, .ifCond .ne 7, .lload 6, .bipush 1, .land, .bipush 1, .lcmp, .ifCond .ne 7, .goto 6] := rfl
theorem b101_6 : blk 101 6 = [.lload 6, .bipush 1, .ladd, .lstore 6, .goto 7] := rfl
theorem b101_7 : blk 101 7 = [.iload 4, .iload 5, .iadd, .iconst (-1074), .isub, .i2l, .iconst 52, .lshl, .lload 6, .ladd, .lstore 8, .lload 0, .lload 8, .bipush 9218868437227405312, .invokeinterface 26369 2, .lor, .lreturn] := rfl
theorem en101 {a0 a1 a2 : Int} : ent 101 [(1, a0), (1, a1), (0, a2)] = [(1, a0), (9, 0), (1, a1), (9, 0), (0, a2), (9, 0), (9, 0), (9, 0), (9, 0), (9, 0), (9, 0), (9, 0)] := rfl
theorem b102_0 : blk 102 0 = [.iconst 0, .istore 2, .lload 0, .lstore 3, .iconst 32, .istore 5, .goto 1] := rfl
theorem b102_1 : blk 102 1 = [.iload 5, .ifCond .le 3, .lload 3, .iload 5, .lushr, .bipush 0, .lcmp, .ifCond .eq 2, .lload 3, .iload 5, .lushr, .lstore 3, .iload 2, .iload 5, .iadd, .istore 2, .goto 2] := rfl
theorem b102_2 : blk 102 2 = [.iload 5, .iconst 1, .ishr, .istore 5, .goto 1] := rfl
theorem b102_3 : blk 102 3 = [.lload 3, .bipush 0, .lcmp, .ifCond .ne 4, .iconst 0, .goto 5] := rfl
theorem b102_4 : blk 102 4 = [.iload 2, .iconst 1, .iadd, .goto 5] := rfl
theorem b102_5 : blk 102 5 = [.ireturn] := rfl
theorem en102 {a0 : Int} : ent 102 [(1, a0)] = [(1, a0), (9, 0), (9, 0), (9, 0), (9, 0), (9, 0)] := rfl
theorem b103_0 : blk 103 0 = [.lload 0, .lload 2, .lcmp, .ifCond .gt 1, .lload 0, .goto 2] := rfl
theorem b103_1 : blk 103 1 = [.lload 2, .goto 2] := rfl
theorem b103_2 : blk 103 2 = [.lreturn] := rfl
theorem en103 {a0 a1 : Int} : ent 103 [(1, a0), (1, a1)] = [(1, a0), (9, 0), (1, a1), (9, 0)] := rfl
theorem b104_0 : blk 104 0 = [.lload 0, .invokeinterface 26880 1, .ifCond .ne 1, .lload 2, .invokeinterface 26880 1, .ifCond .eq 2, .goto 1] := rfl
theorem b104_1 : blk 104 1 = [.bipush 9221120237041090560, .lreturn] := rfl
theorem b104_2 : blk 104 2 = [.lload 0, .lload 2, .lxor, .bipush (-9223372036854775808), .land, .lstore 4, .lload 0, .invokeinterface 27136 1, .ifCond .eq 5, .lload 2, .invokeinterface 27136 1, .ifCond .eq 3, .bipush 9221120237041090560, .goto 4] := rfl
theorem b104_3 : blk 104 3 = [.lload 4, .bipush 9218868437227405312, .lor, .goto 4] := rfl
theorem b104_4 : blk 104 4 = [.lreturn] := rfl
theorem b104_5 : blk 104 5 = [.lload 2, .invokeinterface 27136 1, .ifCond .eq 6, .lload 4, .lreturn] := rfl
theorem b104_6 : blk 104 6 = [.lload 2, .invokeinterface 27392 1, .ifCond .eq 9, .lload 0, .invokeinterface 27392 1, .ifCond .eq 7, .bipush 9221120237041090560, .goto 8] := rfl
theorem b104_7 : blk 104 7 = [.lload 4, .bipush 9218868437227405312, .lor, .goto 8] := rfl
theorem b104_8 : blk 104 8 = [.lreturn] := rfl
theorem b104_9 : blk 104 9 = [.lload 0, .invokeinterface 27392 1, .ifCond .eq 10, .lload 4, .lreturn] := rfl
theorem b104_10 : blk 104 10 = [.lload 2, .invokeinterface 27649 1, .lload 2, .invokeinterface 27904 1, .lshl, .lstore 6, .lload 0, .invokeinterface 27649 1, .lload 0, .invokeinterface 27904 1, .lshl, .lstore 8, .bipush 0, .lstore 10, .iconst 0, .istore 12, .goto 11] := rfl
theorem b104_11 : blk 104 11 = [.iload 12, .iconst 6, .if_icmp .gt 12, .lload 6, .bipush 0, .lcmp, .ifCond .le 12, .lload 10, .iconst 10, .lshl, .lload 8, .lload 6, .ldiv, .ladd, .lstore 10, .lload 8, .lload 6, .lrem, .iconst 10, .lshl, .lstore 8, .iinc 12 1, .goto 11] := rfl
theorem b104_12 : blk 104 12 = [.lload 4, .lload 10, .lload 8, .bipush 0, .lcmp, .ifCond .ne 13, .iconst 0, .goto 14] := rfl
theorem b104_13 : blk 104 13 = [.iconst 1, .goto 14] := rfl
theorem b104_14 : blk 104 14 = [.i2l, .lor, .lload 0, .invokeinterface 28160 1, .lload 0, .invokeinterface 27904 1, .isub, .lload 2, .invokeinterface 28160 1, .isub, .lload 2, .invokeinterface 27904 1, .iadd, .iconst 60, .isub, .invokeinterface 25857 3, .lreturn] := rfl
theorem en104 {a0 a1 : Int} : ent 104 [(1, a0), (1, a1)] = [(1, a0), (9, 0), (1, a1), (9, 0), (9, 0), (9, 0), (9, 0), (9, 0), (9, 0), (9, 0), (9, 0), (9, 0), (9, 0)] := rfl
theorem b105_0 : blk 105 0 = [.lload 0, .bipush 9223372036854775807, .land, .bipush 9218868437227405312, .lcmp, .ifCond .le 1, .iconst 1, .goto 2] := rfl
theorem b105_1 : blk 105 1 = [.iconst 0, .goto 2] := rfl
theorem b105_2 : blk 105 2 = [.freturn] := rfl
theorem en105 {a0 : Int} : ent 105 [(1, a0)] = [(1, a0), (9, 0)] := rfl
theorem b106_0 : blk 106 0 = [.lload 0, .bipush 9223372036854775807, .land, .bipush 9218868437227405312, .lcmp, .ifCond .ne 1, .iconst 1, .goto 2] := rfl
theorem b106_1 : blk 106 1 = [.iconst 0, .goto 2] := rfl
theorem b106_2 : blk 106 2 = [.freturn] := rfl
theorem en106 {a0 : Int} : ent 106 [(1, a0)] = [(1, a0), (9, 0)] := rfl
theorem b107_0 : blk 107 0 = [.lload 0, .bipush 9223372036854775807, .land, .bipush 0, .lcmp, .ifCond .ne 1, .iconst 1, .goto 2] := rfl
theorem b107_1 : blk 107 1 = [.iconst 0, .goto 2] := rfl
theorem b107_2 : blk 107 2 = [.freturn] := rfl
theorem en107 {a0 : Int} : ent 107 [(1, a0)] = [(1, a0), (9, 0)] := rfl
theorem b108_0 : blk 108 0 = [.lload 0, .bipush 4503599627370495, .land, .lstore 2, .lload 0, .bipush 9218868437227405312, .land, .bipush 0, .lcmp, .ifCond .ne 1, .lload 2, .goto 2] := rfl
theorem b108_1 : blk 108 1 = [.lload 2, .bipush 4503599627370496, .lor, .goto 2] := rfl
theorem b108_2 : blk 108 2 = [.lreturn] := rfl
theorem en108 {a0 : Int} : ent 108 [(1, a0)] = [(1, a0), (9, 0), (9, 0), (9, 0)] := rfl
theorem b109_0 : blk 109 0 = [.iconst 53, .lload 0, .invokeinterface 27649 1, .invokeinterface 26112 1, .isub, .ireturn] := rfl
theorem en109 {a0 : Int} : ent 109 [(1, a0)] = [(1, a0), (9, 0)] := rfl
theorem b110_0 : blk 110 0 = [.lload 0, .iconst 52, .lushr, .bipush 2047, .land, .l2i, .iconst 1, .invokeinterface 10240 2, .iconst 1, .isub, .iconst (-1074), .iadd, .ireturn] := rfl
theorem en110 {a0 : Int} : ent 110 [(1, a0)] = [(1, a0), (9, 0)] := rfl
theorem b111_0 : blk 111 0 = [.aload 0, .iconst 4, .lload 1, .iconst 32, .lshr, .l2i, .invokeinterface 24348 3, .aload 0, .ifnull 2059, .lload 1, .l2i, .invokeinterface 21596 2, .return_] := rfl
theorem en111 {a0 a1 : Int} : ent 111 [(3, a0), (1, a1)] = [(3, a0), (1, a1), (9, 0)] := rfl
theorem b112_0 : blk 112 0 = [.aload 0, .ifnonnull 2051, .invokeinterface 14097 1, .lstore 2, .aload 0, .ifnonnull 2051, .invokeinterface 22032 1, .istore 4, .aload 0, .ifnonnull 2051, .aload 0, .invokeinterface 13848 1, .invokeinterface 7188 2, .aload 0, .ifnonnull 2051, .iconst 40, .invokeinterface 15632 2, .ifCond .eq 1, .aload 0, .lload 2, .iload 4, .iload 1, .invokeinterface 28956 4, .goto 2] := rfl
theorem b112_1 : blk 112 1 = [.aload 0, .iconst 5, .aload 0, .lload 2, .iload 4, .invokeinterface 19992 3, .invokeinterface 24348 3, .goto 2] := rfl
theorem b112_2 : blk 112 2 = [.return_] := rfl
theorem en112 {a0 a1 : Int} : ent 112 [(3, a0), (0, a1)] = [(3, a0), (0, a1), (9, 0), (9, 0), (9, 0)] := rfl
theorem b113_0 : blk 113 0 = [.aload 0, .iconst 40, .iload 4, .invokeinterface 20764 3, .iconst 0, .istore 5, .aload 0, .invokeinterface 11032 1, .ifCond .eq 2, .aload 0, .ifnonnull 2051, .iconst 41, .invokeinterface 15632 2, .ifCond .ne 2, .aload 0, .iload 4, .iconst 1, .iadd, .invokeinterface 22556 2, .iinc 5 1, .iconst 0, .istore 6, .goto 1] := rfl
theorem b113_1 : blk 113 1 = [.iload 6, .iconst 30, .if_icmp .ge 2, .aload 0, .ifnonnull 2051, .iconst 44, .invokeinterface 15632 2, .ifCond .eq 2, .aload 0, .ifnonnull 2051, .iconst 1, .invokeinterface 7188 2, .aload 0, .iload 4, .iconst 1, .iadd, .invokeinterface 22556 2, .iinc 5 1, .iinc 6 1, .goto 1] := rfl
theorem b113_2 : blk 113 2 = [.aload 0, .iconst 41, .invokeinterface 15388 2, .aload 0, .ifnull 2059, .iconst 13, .invokeinterface 21596 2, .aload 0, .ifnull 2128, .iconst 400, .if_icmp .ge 3, .aload 0, .ifnonnull 2107, .aload 0, .ifnull 2128, .lload 1, .lastore, .aload 0, .ifnonnull 2115, .aload 0, .ifnull 2128, .iload 3, .iastore, .aload 0, .ifnonnull 2123, .aload 0, .ifnull 2128, .aload 0, .ifnull 2059, .invokeinterface 20312 1, .iastore, .aload 0, .dup, .ifnull 2128, .iconst 1, .iadd, .jsr_w 2128, .goto 3] := rfl
theorem b113_3 : blk 113 3 = [.aload 0, .iconst (-1), .iload 5, .invokeinterface 24348 3, .return_] := rfl
theorem en113 {a0 a1 a2 a3 : Int} : ent 113 [(3, a0), (1, a1), (0, a2), (0, a3)] = [(3, a0), (1, a1), (9, 0), (0, a2), (0, a3), (9, 0), (9, 0)] := rfl
theorem b114_0 : blk 114 0 = [.aload 0, .iconst 40, .iload 2, .invokeinterface 20764 3, .aload 0, .invokeinterface 11032 1, .ifCond .eq 1, .aload 0, .iload 2, .iconst 1, .iadd, .invokeinterface 22556 2, .goto 1] := rfl
theorem b114_1 : blk 114 1 = [.iload 1, .iconst 9, .if_icmp .lt 2, .aload 0, .iconst 44, .invokeinterface 15388 2, .aload 0, .invokeinterface 11032 1, .ifCond .eq 2, .aload 0, .iload 2, .iconst 1, .iadd, .invokeinterface 22556 2, .goto 2] := rfl
theorem b114_2 : blk 114 2 = [.aload 0, .iconst 41, .invokeinterface 15388 2, .iload 1, .iconst 3, .if_icmp .gt 3, .aload 0, .iconst 12, .iload 1, .invokeinterface 24348 3, .goto 4] := rfl
theorem b114_3 : blk 114 3 = [.aload 0, .ifnull 2059, .iconst 25, .iload 1, .iadd, .iconst 3, .isub, .iconst 1, .isub, .invokeinterface 21596 2, .goto 4] := rfl
theorem b114_4 : blk 114 4 = [.return_] := rfl
theorem en114 {a0 a1 a2 : Int} : ent 114 [(3, a0), (0, a1), (0, a2)] = [(3, a0), (0, a1), (0, a2)] := rfl
theorem b115_0 : blk 115 0 = [.aload 0, .ifnull 1056, .iconst 4, .if_icmp .ne 1, .aload 1, .aload 0, .ifnull 1101, .invokeinterface 8560 2, .goto 2] := rfl
theorem b115_1 : blk 115 1 = [.iconst (-1), .goto 2] := rfl
theorem b115_2 : blk 115 2 = [.ireturn] := rfl
theorem en115 {a0 a1 : Int} : ent 115 [(3, a0), (3, a1)] = [(3, a0), (3, a1)] := rfl
theorem b116_0 : blk 116 0 = [.aload 0, .iload 1, .invokeinterface 22300 2, .aload 0, .iconst 16, .invokeinterface 29976 2, .istore 2, .aload 0, .iload 1, .invokeinterface 20508 2, .aload 0, .ifnonnull 2051, .jsr (-1459), .invokeinterface 12048 2, .ifCond .ne 1, .aload 0, .ifnonnull 2051, .iconst 1, .invokeinterface 7188 2, .aload 0, .iconst 15, .invokeinterface 29976 2, .istore 3, .aload 0, .iload 2, .invokeinterface 30492 2, .aload 0, .iload 1, .invokeinterface 20508 2, .aload 0, .iload 3, .invokeinterface 30492 2, .goto 2] := rfl
theorem b116_1 : blk 116 1 = [.aload 0, .iload 2, .invokeinterface 30492 2, .goto 2] := rfl
theorem b116_2 : blk 116 2 = [.return_] := rfl
theorem en116 {a0 a1 : Int} : ent 116 [(3, a0), (0, a1)] = [(3, a0), (0, a1), (9, 0), (9, 0)] := rfl
theorem b117_0 : blk 117 0 = [.aload 0, .ifnull 2059, .iload 1, .invokeinterface 21596 2, .aload 0, .invokeinterface 30232 1, .ireturn] := rfl
theorem en117 {a0 a1 : Int} : ent 117 [(3, a0), (0, a1)] = [(3, a0), (0, a1)] := rfl
theorem b118_0 : blk 118 0 = [.aload 0, .ifnull 2059, .iconst 0, .invokeinterface 21596 2, .aload 0, .ifnull 2059, .invokeinterface 20312 1, .iconst 1, .isub, .ireturn] := rfl
theorem en118 {a0 : Int} : ent 118 [(3, a0)] = [(3, a0)] := rfl
theorem b119_0 : blk 119 0 = [.aload 0, .ifnull 2059, .iload 1, .aload 0, .ifnull 2059, .invokeinterface 20312 1, .invokeinterface 30812 3, .return_] := rfl
theorem en119 {a0 a1 : Int} : ent 119 [(3, a0), (0, a1)] = [(3, a0), (0, a1)] := rfl
theorem b120_0 : blk 120 0 = [.iload 1, .ifCond .lt 1, .iload 1, .aload 0, .ifnull 10376, .if_icmp .ge 1, .aload 0, .ifnonnull 10371, .iload 1, .iload 2, .iastore, .goto 1] := rfl
theorem b120_1 : blk 120 1 = [.return_] := rfl
theorem en120 {a0 a1 a2 : Int} : ent 120 [(3, a0), (0, a1), (0, a2)] = [(3, a0), (0, a1), (0, a2)] := rfl
theorem b121_0 : blk 121 0 = [.aload 0, .ifnonnull 2051, .invokeinterface 14097 1, .lstore 2, .aload 0, .ifnonnull 2051, .aload 0, .invokeinterface 13848 1, .invokeinterface 7188 2, .aload 0, .lload 2, .invokeinterface 19736 2, .istore 4, .aload 0, .ifnonnull 2051, .aload 0, .ifnonnull 2051, .jsr (-1587), .invokeinterface 12048 2, .ifCond .ne 1, .iconst 1, .goto 2] := rfl
theorem b121_1 : blk 121 1 = [.iconst 0, .goto 2] := rfl
theorem b121_2 : blk 121 2 = [.invokeinterface 7188 2, .aload 0, .iload 1, .invokeinterface 22300 2, .aload 0, .ifnull 2059, .iconst 17, .invokeinterface 21596 2, .aload 0, .ifnull 2059, .invokeinterface 20312 1, .istore 5, .aload 0, .iconst 18, .iload 4, .invokeinterface 24348 3, .aload 0, .invokeinterface 30232 1, .istore 6, .aload 0, .iload 1, .invokeinterface 20508 2, .aload 0, .iconst 15, .iload 5, .invokeinterface 24348 3, .aload 0, .iload 6, .invokeinterface 30492 2, .return_] := rfl
theorem en121 {a0 a1 : Int} : ent 121 [(3, a0), (0, a1)] = [(3, a0), (0, a1), (9, 0), (9, 0), (9, 0), (9, 0), (9, 0)] := rfl
theorem b122_0 : blk 122 0 = [.aload 0, .iconst 21, .invokeinterface 29976 2, .istore 2, .aload 0, .iload 1, .invokeinterface 20508 2, .aload 0, .ifnull 2059, .iconst 23, .invokeinterface 21596 2, .aload 0, .iload 2, .invokeinterface 30492 2, .iconst 0, .istore 3, .iconst 0, .istore 4, .goto 1] := rfl
theorem b122_1 : blk 122 1 = [.iload 4, .iconst 7, .if_icmp .gt 2, .aload 0, .ifnonnull 2051, .jsr (-1715), .invokeinterface 12048 2, .ifCond .ne 2, .aload 0, .ifnonnull 2051, .iconst 1, .invokeinterface 7188 2, .aload 0, .iload 3, .invokeinterface 31512 2, .istore 5, .iload 3, .iconst 1, .iload 5, .ishl, .ior, .istore 3, .aload 0, .iconst 22, .iload 5, .invokeinterface 24348 3, .aload 0, .invokeinterface 30232 1, .istore 6, .aload 0, .iload 1, .invokeinterface 20508 2, .aload 0, .ifnull 2059, .iconst 23, .invokeinterface 21596 2, .aload 0, .iload 6, .invokeinterface 30492 2, .iinc 4 1, .goto 1] := rfl
theorem b122_2 : blk 122 2 = [.aload 0, .ifnonnull 2051, .jsr (-1843), .invokeinterface 12048 2, .ifCond .ne 3, .aload 0, .ifnonnull 2051, .iconst 1, .invokeinterface 7188 2, .aload 0, .iload 1, .invokeinterface 20508 2, .goto 3] := rfl
theorem b122_3 : blk 122 3 = [.aload 0, .ifnull 2059, .iconst 24, .invokeinterface 21596 2, .return_] := rfl
theorem en122 {a0 a1 : Int} : ent 122 [(3, a0), (0, a1)] = [(3, a0), (0, a1), (9, 0), (9, 0), (9, 0), (9, 0), (9, 0)] := rfl
theorem b123_0 : blk 123 0 = [.aload 0, .ifnonnull 2051, .jsr (-563), .invokeinterface 12048 2, .iconst 1, .iadd, .istore 2, .aload 0, .ifnonnull 2051, .iload 2, .ifCond .le 1, .iload 1, .iload 2, .ishr, .iconst 1, .iand, .ifCond .ne 1, .iconst 1, .goto 2] := rfl
theorem b123_1 : blk 123 1 = [.iconst 0, .goto 2] := rfl
theorem b123_2 : blk 123 2 = [.invokeinterface 7188 2, .iload 2, .ireturn] := rfl
theorem en123 {a0 a1 : Int} : ent 123 [(3, a0), (0, a1)] = [(3, a0), (0, a1), (9, 0)] := rfl
theorem b124_0 : blk 124 0 = [.aload 0, .iconst 19, .aload 0, .iconst 0, .invokeinterface 31512 2, .invokeinterface 24348 3, .aload 0, .iconst 59, .invokeinterface 15388 2, .return_] := rfl
theorem en124 {a0 : Int} : ent 124 [(3, a0)] = [(3, a0)] := rfl
theorem b125_0 : blk 125 0 = [.aload 0, .iload 1, .invokeinterface 22300 2, .aload 0, .ifnull 2059, .iconst 14, .invokeinterface 21596 2, .aload 0, .iconst 59, .invokeinterface 15388 2, .return_] := rfl
theorem en125 {a0 a1 : Int} : ent 125 [(3, a0), (0, a1)] = [(3, a0), (0, a1)] := rfl
theorem b126_0 : blk 126 0 = [.aload 0, .iload 1, .invokeinterface 22300 2, .iconst 0, .istore 2, .goto 1] := rfl
theorem b126_1 : blk 126 1 = [.iload 2, .iconst 4, .if_icmp .ge 2, .aload 0, .iconst 44, .invokeinterface 15388 2, .aload 0, .iload 1, .invokeinterface 22300 2, .iinc 2 1, .goto 1] := rfl
theorem b126_2 : blk 126 2 = [.aload 0, .ifnull 2059, .iconst 20, .invokeinterface 21596 2, .aload 0, .iconst 59, .invokeinterface 15388 2, .return_] := rfl
theorem en126 {a0 a1 : Int} : ent 126 [(3, a0), (0, a1)] = [(3, a0), (0, a1), (9, 0)] := rfl
theorem b127_0 : blk 127 0 = [.aload 0, .ifnull 2064, .ifCond .lt 1, .iload 1, .aload 0, .ifnull 2064, .if_icmp .ge 2, .goto 1] := rfl
theorem b127_1 : blk 127 1 = [.aload 0, .iload 1, .jsr_w 2064, .goto 2] := rfl
theorem b127_2 : blk 127 2 = [.return_] := rfl
theorem en127 {a0 a1 : Int} : ent 127 [(3, a0), (0, a1)] = [(3, a0), (0, a1)] := rfl
theorem b128_0 : blk 128 0 = [.iconst 0, .istore 1, .goto 1] := rfl
theorem b128_1 : blk 128 1 = [.iload 1, .aload 0, .ifnull 2128, .if_icmp .ge 4, .aload 0, .ifnull 2059, .iconst 6, .aload 0, .ifnonnull 2107, .iload 1, .laload, .invokeinterface 15192 3, .istore 2, .aload 0, .ifnull 2059, .aload 0, .ifnonnull 2123, .iload 1, .iaload, .iconst 1, .iadd, .invokeinterface 33112 2, .istore 3, .iload 2, .ifCond .lt 2, .aload 0, .ifnull 2059, .ifnonnull 10347, .iload 2, .iaload, .iload 3, .if_icmp .eq 3, .goto 2] := rfl
theorem b128_2 : blk 128 2 = [.aload 0, .aload 0, .ifnonnull 2115, .iload 1, .iaload, .invokeinterface 32540 2, .goto 3] := rfl
theorem b128_3 : blk 128 3 = [.aload 0, .ifnull 2059, .aload 0, .ifnonnull 2123, .iload 1, .iaload, .iload 2, .invokeinterface 30812 3, .iinc 1 1, .goto 1] := rfl
theorem b128_4 : blk 128 4 = [.return_] := rfl
theorem en128 {a0 : Int} : ent 128 [(3, a0)] = [(3, a0), (9, 0), (9, 0), (9, 0)] := rfl
theorem b129_0 : blk 129 0 = [.iload 1, .ifCond .lt 1, .iload 1, .aload 0, .ifnull 10376, .if_icmp .ge 1, .aload 0, .ifnonnull 10371, .iload 1, .iaload, .goto 2] := rfl
theorem b129_1 : blk 129 1 = [.iconst 0, .goto 2] := rfl
theorem b129_2 : blk 129 2 = [.ireturn] := rfl
theorem en129 {a0 a1 : Int} : ent 129 [(3, a0), (0, a1)] = [(3, a0), (0, a1)] := rfl
theorem b130_0 : blk 130 0 = [.aload 0, .iconst 0, .jsr_w 1032, .return_] := rfl
theorem en130 {a0 : Int} : ent 130 [(3, a0)] = [(3, a0)] := rfl
theorem b131_0 : blk 131 0 = [.aload 0, .ifnonnull 19, .invokeinterface 33828 1, .aload 0, .ifnonnull 27, .invokeinterface 34092 1, .iconst 0, .istore 1, .goto 1] := rfl
theorem b131_1 : blk 131 1 = [.iload 1, .aload 0, .ifnull 67, .iconst 2, .invokeinterface 14680 2, .if_icmp .ge 2, .aload 0, .ifnonnull 27, .aload 0, .ifnull 67, .ifnonnull 10267, .iload 1, .iaload, .iload 1, .iconst (-9), .invokeinterface 34344 4, .pop, .iinc 1 1, .goto 1] := rfl
theorem b131_2 : blk 131 2 = [.aload 0, .ifnonnull 35, .aload 0, .ifnull 67, .invokeinterface 4148 2, .aload 0, .ifnonnull 43, .aload 0, .ifnull 67, .invokeinterface 3140 2, .aload 0, .ifnonnull 51, .aload 0, .ifnull 67, .invokeinterface 4428 2, .aload 0, .ifnonnull 59, .aload 0, .ifnull 67, .invokeinterface 5204 2, .aload 0, .iconst 0, .jsr_w 80, .aload 0, .bipush 0, .jsr_w 89, .aload 0, .iconst 0, .jsr_w 96, .aload 0, .iconst 0, .jsr_w 128, .return_] := rfl
theorem en131 {a0 : Int} : ent 131 [(3, a0)] = [(3, a0), (9, 0)] := rfl
theorem b132_0 : blk 132 0 = [.aload 0, .iconst 0, .jsr_w 3088, .return_] := rfl
theorem en132 {a0 : Int} : ent 132 [(3, a0)] = [(3, a0)] := rfl
theorem b133_0 : blk 133 0 = [.aload 0, .iconst 0, .jsr_w 4128, .return_] := rfl
theorem en133 {a0 : Int} : ent 133 [(3, a0)] = [(3, a0)] := rfl
theorem b134_0 : blk 134 0 = [.aload 0, .ifnull 4128, .iconst 24, .if_icmp .lt 1, .iconst (-1), .ireturn] := rfl
theorem b134_1 : blk 134 1 = [.aload 0, .ifnonnull 4099, .aload 0, .ifnull 4128, .iload 1, .iastore, .aload 0, .ifnonnull 4107, .aload 0, .ifnull 4128, .iload 2, .iastore, .aload 0, .ifnonnull 4115, .aload 0, .ifnull 4128, .iload 3, .iastore, .iconst 0, .istore 4, .goto 2] := rfl
theorem b134_2 : blk 134 2 = [.iload 4, .iconst 8, .if_icmp .ge 3, .aload 0, .ifnonnull 4123, .aload 0, .ifnull 4128, .iconst 8, .imul, .iload 4, .iadd, .iconst (-1), .iastore, .iinc 4 1, .goto 2] := rfl
theorem b134_3 : blk 134 3 = [.aload 0, .dup, .ifnull 4128, .iconst 1, .iadd, .jsr_w 4128, .aload 0, .ifnull 4128, .iconst 1, .isub, .ireturn] := rfl
theorem en134 {a0 a1 a2 a3 : Int} : ent 134 [(3, a0), (0, a1), (0, a2), (0, a3)] = [(3, a0), (0, a1), (0, a2), (0, a3), (9, 0)] := rfl
theorem b135_0 : blk 135 0 = [.iload 1, .ifCond .lt 1, .iload 1, .iconst 12, .if_icmp .le 2, .goto 1] := rfl
theorem b135_1 : blk 135 1 = [.iconst (-1), .ireturn] := rfl
theorem b135_2 : blk 135 2 = [.iload 1, .tableswitch 9 7 12 #[3, 4, 5, 6, 7, 8]] := rfl
theorem b135_3 : blk 135 3 = [.aload 0, .ifnull 67, .ifnull 10360, .ireturn] := rfl
theorem b135_4 : blk 135 4 = [.aload 0, .ifnonnull 27, .invokeinterface 34856 1, .ireturn] := rfl
theorem b135_5 : blk 135 5 = [.aload 0, .ifnull 67, .ifnull 10328, .ireturn] := rfl
theorem b135_6 : blk 135 6 = [.aload 0, .ifnonnull 3, .invokeinterface 5904 1, .ireturn] := rfl
theorem b135_7 : blk 135 7 = [.aload 0, .ifnonnull 19, .invokeinterface 35104 1, .ireturn] := rfl
theorem b135_8 : blk 135 8 = [.aload 0, .ifnonnull 35, .invokeinterface 35376 1, .ireturn] := rfl
theorem b135_9 : blk 135 9 = [.aload 0, .ifnull 67, .iload 1, .invokeinterface 14680 2, .ireturn] := rfl
theorem en135 {a0 a1 : Int} : ent 135 [(3, a0), (0, a1)] = [(3, a0), (0, a1)] := rfl
theorem b136_0 : blk 136 0 = [.aload 0, .ifnull 4128, .ireturn] := rfl
theorem en136 {a0 : Int} : ent 136 [(3, a0)] = [(3, a0)] := rfl
theorem b137_0 : blk 137 0 = [.aload 0, .ifnull 3096, .ireturn] := rfl
theorem en137 {a0 : Int} : ent 137 [(3, a0)] = [(3, a0)] := rfl
theorem b138_0 : blk 138 0 = [.aload 0, .ifnull 5240, .ireturn] := rfl
theorem en138 {a0 : Int} : ent 138 [(3, a0)] = [(3, a0)] := rfl
theorem b139_0 : blk 139 0 = [.aload 0, .ifnull 67, .iconst 3, .iload 1, .invokeinterface 18264 3, .ifCond .eq 1, .iload 2, .invokeinterface 35840 1, .ifCond .ne 2, .goto 1] := rfl
theorem b139_1 : blk 139 1 = [.iconst (-1), .ireturn] := rfl
theorem b139_2 : blk 139 2 = [.aload 0, .ifnonnull 27, .iload 1, .invokeinterface 36136 2, .aload 0, .ifnull 67, .ifnonnull 10283, .iload 1, .iaload, .if_icmp .lt 3, .iconst (-2), .ireturn] := rfl
theorem b139_3 : blk 139 3 = [.aload 0, .ifnonnull 27, .invokeinterface 34856 1, .iconst 24, .if_icmp .lt 4, .iconst (-3), .ireturn] := rfl
theorem b139_4 : blk 139 4 = [.aload 0, .iconst 0, .jsr_w 128, .aload 0, .ifnonnull 27, .iconst 0, .iload 2, .iload 1, .invokeinterface 34344 4, .ireturn] := rfl
theorem en139 {a0 a1 a2 : Int} : ent 139 [(3, a0), (0, a1), (0, a2)] = [(3, a0), (0, a1), (0, a2)] := rfl
theorem b140_0 : blk 140 0 = [.iload 0, .iconst (-99), .if_icmp .lt 1, .iload 0, .iconst 99, .if_icmp .gt 1, .iconst 1, .goto 2] := rfl
theorem b140_1 : blk 140 1 = [.iconst 0, .goto 2] := rfl
theorem b140_2 : blk 140 2 = [.freturn] := rfl
theorem en140 {a0 : Int} : ent 140 [(0, a0)] = [(0, a0)] := rfl
theorem b141_0 : blk 141 0 = [.iconst 0, .istore 2, .iconst 0, .istore 3, .goto 1] := rfl
theorem b141_1 : blk 141 1 = [.iload 3, .aload 0, .ifnull 4128, .if_icmp .ge 3, .aload 0, .iload 3, .invokeinterface 36392 2, .ifCond .eq 2, .aload 0, .ifnonnull 4115, .iload 3, .iaload, .iload 1, .if_icmp .ne 2, .iinc 2 1, .goto 2] := rfl
theorem b141_2 : blk 141 2 = [.iinc 3 1, .goto 1] := rfl
theorem b141_3 : blk 141 3 = [.iload 2, .ireturn] := rfl
theorem en141 {a0 a1 : Int} : ent 141 [(3, a0), (0, a1)] = [(3, a0), (0, a1), (9, 0), (9, 0)] := rfl
theorem b142_0 : blk 142 0 = [.aload 0, .iload 1, .invokeinterface 36648 2, .ifCond .ne 1, .iconst 1, .goto 2] := rfl
theorem b142_1 : blk 142 1 = [.iconst 0, .goto 2] := rfl
theorem b142_2 : blk 142 2 = [.freturn] := rfl
theorem en142 {a0 a1 : Int} : ent 142 [(3, a0), (0, a1)] = [(3, a0), (0, a1)] := rfl
theorem b143_0 : blk 143 0 = [.aload 0, .iload 1, .i2l, .invokeinterface 36904 2, .ifCond .eq 1, .aload 0, .ifnonnull 4099, .iload 1, .iaload, .goto 2] := rfl
theorem b143_1 : blk 143 1 = [.iconst (-1), .goto 2] := rfl
theorem b143_2 : blk 143 2 = [.ireturn] := rfl
theorem en143 {a0 a1 : Int} : ent 143 [(3, a0), (0, a1)] = [(3, a0), (0, a1)] := rfl
theorem b144_0 : blk 144 0 = [.lload 1, .bipush 0, .lcmp, .ifCond .lt 1, .lload 1, .aload 0, .ifnull 4128, .i2l, .lcmp, .ifCond .ge 1, .iconst 1, .goto 2] := rfl
theorem b144_1 : blk 144 1 = [.iconst 0, .goto 2] := rfl
theorem b144_2 : blk 144 2 = [.freturn] := rfl
theorem en144 {a0 a1 : Int} : ent 144 [(3, a0), (1, a1)] = [(3, a0), (1, a1), (9, 0)] := rfl
theorem b145_0 : blk 145 0 = [.iload 1, .invokeinterface 35840 1, .ifCond .ne 1, .iconst (-1), .ireturn] := rfl
theorem b145_1 : blk 145 1 = [.aload 0, .ifnonnull 27, .invokeinterface 34856 1, .iconst 24, .if_icmp .lt 2, .iconst (-3), .ireturn] := rfl
theorem b145_2 : blk 145 2 = [.aload 0, .ifnonnull 27, .iconst 1, .iload 1, .iconst (-9), .invokeinterface 34344 4, .ireturn] := rfl
theorem en145 {a0 a1 : Int} : ent 145 [(3, a0), (0, a1)] = [(3, a0), (0, a1)] := rfl
theorem b146_0 : blk 146 0 = [.aload 0, .ifnonnull 27, .iload 1, .i2l, .invokeinterface 36904 2, .ifCond .eq 1, .iload 2, .ifCond .lt 1, .iload 2, .iconst 2, .if_icmp .le 2, .goto 1] := rfl
theorem b146_1 : blk 146 1 = [.iconst (-100), .ireturn] := rfl
theorem b146_2 : blk 146 2 = [.iload 2, .ifCond .ne 3, .aload 0, .ifnonnull 27, .iload 1, .invokeinterface 36648 2, .goto 5] := rfl
theorem b146_3 : blk 146 3 = [.iload 2, .iconst 1, .if_icmp .ne 4, .aload 0, .ifnonnull 27, .iload 1, .invokeinterface 37672 2, .goto 5] := rfl
theorem b146_4 : blk 146 4 = [.aload 0, .ifnonnull 27, .iload 1, .invokeinterface 37928 2, .goto 5] := rfl
theorem b146_5 : blk 146 5 = [.ireturn] := rfl
theorem en146 {a0 a1 a2 : Int} : ent 146 [(3, a0), (0, a1), (0, a2)] = [(3, a0), (0, a1), (0, a2)] := rfl
theorem b147_0 : blk 147 0 = [.aload 0, .iload 1, .i2l, .invokeinterface 36904 2, .ifCond .eq 1, .aload 0, .ifnonnull 4107, .iload 1, .iaload, .goto 2] := rfl
theorem b147_1 : blk 147 1 = [.iconst 0, .goto 2] := rfl
theorem b147_2 : blk 147 2 = [.ireturn] := rfl
theorem en147 {a0 a1 : Int} : ent 147 [(3, a0), (0, a1)] = [(3, a0), (0, a1)] := rfl
theorem b148_0 : blk 148 0 = [.aload 0, .iload 1, .i2l, .invokeinterface 36904 2, .ifCond .eq 1, .aload 0, .ifnonnull 4115, .iload 1, .iaload, .goto 2] := rfl
theorem b148_1 : blk 148 1 = [.iconst (-9), .goto 2] := rfl
theorem b148_2 : blk 148 2 = [.ireturn] := rfl
theorem en148 {a0 a1 : Int} : ent 148 [(3, a0), (0, a1)] = [(3, a0), (0, a1)] := rfl
theorem b149_0 : blk 149 0 = [.aload 0, .ifnonnull 27, .iload 1, .i2l, .invokeinterface 36904 2, .ifCond .eq 1, .iload 2, .invokeinterface 38400 1, .ifCond .ne 2, .goto 1] := rfl
theorem b149_1 : blk 149 1 = [.iconst (-1), .ireturn] := rfl
theorem b149_2 : blk 149 2 = [.aload 0, .ifnonnull 27, .iload 1, .iload 2, .invokeinterface 38696 3, .ireturn] := rfl
theorem en149 {a0 a1 a2 : Int} : ent 149 [(3, a0), (0, a1), (0, a2)] = [(3, a0), (0, a1), (0, a2)] := rfl
theorem b150_0 : blk 150 0 = [.iload 0, .ifCond .lt 1, .iload 0, .iconst 4, .if_icmp .ge 1, .iconst 1, .goto 2] := rfl
theorem b150_1 : blk 150 1 = [.iconst 0, .goto 2] := rfl
theorem b150_2 : blk 150 2 = [.freturn] := rfl
theorem en150 {a0 : Int} : ent 150 [(0, a0)] = [(0, a0)] := rfl
theorem b151_0 : blk 151 0 = [.iload 2, .invokeinterface 38912 1, .iload 2, .invokeinterface 39424 1, .iadd, .istore 3, .aload 0, .iload 1, .invokeinterface 36648 2, .tableswitch 7 1 4 #[1, 2, 3, 4]] := rfl
theorem b151_1 : blk 151 1 = [.iload 2, .invokeinterface 39424 1, .ireturn] := rfl
theorem b151_2 : blk 151 2 = [.iload 2, .invokeinterface 38912 1, .ireturn] := rfl
theorem b151_3 : blk 151 3 = [.iload 3, .ireturn] := rfl
theorem b151_4 : blk 151 4 = [.iconst 3, .iload 2, .invokeinterface 38912 1, .imul, .iload 3, .iadd, .aload 0, .iload 1, .invokeinterface 37672 2, .iconst 5, .if_icmp .le 5, .iconst 1, .goto 6] := rfl
theorem b151_5 : blk 151 5 = [.iconst 0, .goto 6] := rfl
theorem b151_6 : blk 151 6 = [.iadd, .ireturn] := rfl
theorem b151_7 : blk 151 7 = [.iload 2, .invokeinterface 39168 1, .ireturn] := rfl
theorem en151 {a0 a1 a2 : Int} : ent 151 [(3, a0), (0, a1), (0, a2)] = [(3, a0), (0, a1), (0, a2), (9, 0)] := rfl
theorem b152_0 : blk 152 0 = [.iload 0, .invokeinterface 39168 1, .iload 0, .ifCond .eq 1, .iload 0, .iconst 2, .if_icmp .ne 2, .goto 1] := rfl
theorem b152_1 : blk 152 1 = [.iconst 2, .goto 3] := rfl
theorem b152_2 : blk 152 2 = [.iconst 0, .goto 3] := rfl
theorem b152_3 : blk 152 3 = [.iadd, .ireturn] := rfl
theorem en152 {a0 : Int} : ent 152 [(0, a0)] = [(0, a0)] := rfl
theorem b153_0 : blk 153 0 = [.iload 0, .iconst 1, .if_icmp .ne 1, .iconst 1, .goto 2] := rfl
theorem b153_1 : blk 153 1 = [.iconst 0, .goto 2] := rfl
theorem b153_2 : blk 153 2 = [.ireturn] := rfl
theorem en153 {a0 : Int} : ent 153 [(0, a0)] = [(0, a0)] := rfl
theorem b154_0 : blk 154 0 = [.iload 0, .invokeinterface 39168 1, .iload 0, .ifCond .eq 1, .iload 0, .iconst 3, .if_icmp .ne 2, .goto 1] := rfl
theorem b154_1 : blk 154 1 = [.iconst 1, .goto 3] := rfl
theorem b154_2 : blk 154 2 = [.iconst 0, .goto 3] := rfl
theorem b154_3 : blk 154 3 = [.iadd, .ireturn] := rfl
theorem en154 {a0 : Int} : ent 154 [(0, a0)] = [(0, a0)] := rfl
theorem b155_0 : blk 155 0 = [.aload 0, .iload 1, .iload 2, .invokeinterface 39944 3, .ifCond .eq 1, .iload 3, .iconst (-1), .if_icmp .lt 1, .iload 3, .iconst 64, .if_icmp .le 2, .goto 1] := rfl
theorem b155_1 : blk 155 1 = [.iconst (-1), .ireturn] := rfl
theorem b155_2 : blk 155 2 = [.aload 0, .ifnonnull 27, .iload 1, .invokeinterface 36392 2, .ifCond .ne 3, .iconst (-2), .ireturn] := rfl
theorem b155_3 : blk 155 3 = [.iconst (-1), .istore 4, .iload 3, .ifCond .lt 4, .aload 0, .ifnonnull 19, .iload 3, .bipush 0, .invokeinterface 40224 3, .istore 4, .iload 4, .ifCond .ge 4, .iconst (-3), .ireturn] := rfl
theorem b155_4 : blk 155 4 = [.aload 0, .ifnonnull 27, .iload 1, .iload 2, .iload 4, .invokeinterface 41004 4, .iconst 0, .ireturn] := rfl
theorem en155 {a0 a1 a2 a3 : Int} : ent 155 [(3, a0), (0, a1), (0, a2), (0, a3)] = [(3, a0), (0, a1), (0, a2), (0, a3), (9, 0)] := rfl
theorem b156_0 : blk 156 0 = [.aload 0, .ifnonnull 27, .iload 1, .i2l, .invokeinterface 36904 2, .ifCond .eq 1, .aload 0, .ifnull 67, .iconst 5, .iload 2, .invokeinterface 18264 3, .ifCond .eq 1, .iconst 1, .goto 2] := rfl
theorem b156_1 : blk 156 1 = [.iconst 0, .goto 2] := rfl
theorem b156_2 : blk 156 2 = [.freturn] := rfl
theorem en156 {a0 a1 a2 : Int} : ent 156 [(3, a0), (0, a1), (0, a2)] = [(3, a0), (0, a1), (0, a2)] := rfl
theorem b157_0 : blk 157 0 = [.aload 0, .ifnull 3096, .iconst 6000, .if_icmp .ge 1, .iload 1, .ifCond .lt 1, .iload 1, .iconst 64, .if_icmp .le 2, .goto 1] := rfl
theorem b157_1 : blk 157 1 = [.iconst (-1), .ireturn] := rfl
theorem b157_2 : blk 157 2 = [.aload 0, .ifnull 3088, .iconst 2, .iadd, .aload 0, .ifnull 3075, .arraylength, .if_icmp .le 3, .aload 0, .aload 0, .ifnull 3075, .aload 0, .ifnull 3075, .arraylength, .iconst 2, .imul, .invokeinterface 40451 2, .jsr_w 3075, .goto 3] := rfl
theorem b157_3 : blk 157 3 = [.aload 0, .ifnull 3075, .aload 0, .ifnull 3088, .iaload, .istore 4, .iload 4, .iload 1, .iadd, .aload 0, .ifnull 3083, .arraylength, .if_icmp .le 4, .aload 0, .aload 0, .ifnull 3083, .aload 0, .ifnull 3083, .arraylength, .iconst 2, .imul, .invokeinterface 40707 2, .jsr_w 3083, .goto 4] := rfl
theorem b157_4 : blk 157 4 = [.iload 4, .istore 5, .goto 5] := rfl
theorem b157_5 : blk 157 5 = [.iload 5, .iload 4, .iload 1, .iadd, .if_icmp .ge 6, .aload 0, .ifnull 3083, .iload 5, .lload 2, .lastore, .iinc 5 1, .goto 5] := rfl
theorem b157_6 : blk 157 6 = [.aload 0, .dup, .ifnull 3096, .iconst 1, .iadd, .jsr_w 3096, .aload 0, .dup, .ifnull 3088, .iconst 1, .iadd, .jsr_w 3088, .aload 0, .ifnull 3075, .aload 0, .ifnull 3088, .iload 4, .iload 1, .iadd, .iastore, .aload 0, .ifnull 3088, .iconst 1, .isub, .ireturn] := rfl
theorem en157 {a0 a1 a2 : Int} : ent 157 [(3, a0), (0, a1), (1, a2)] = [(3, a0), (0, a1), (1, a2), (9, 0), (9, 0), (9, 0)] := rfl
theorem b158_0 : blk 158 0 = [.iload 1, .aload 0, .arraylength, .if_icmp .ne 1, .aload 0, .athrow] := rfl
theorem b158_1 : blk 158 1 = [.iload 1, .newarray .int, .astore 2, .aload 0, .iconst 0, .aload 2, .iconst 0, .aload 0, .arraylength, .iload 1, .invokeinterface 10496 2, .monitorenter, .aload 2, .areturn] := rfl
theorem en158 {a0 a1 : Int} : ent 158 [(3, a0), (0, a1)] = [(3, a0), (0, a1), (9, 0)] := rfl
theorem b159_0 : blk 159 0 = [.iload 1, .aload 0, .arraylength, .if_icmp .ne 1, .aload 0, .athrow] := rfl
theorem b159_1 : blk 159 1 = [.iload 1, .newarray .long, .astore 2, .aload 0, .iconst 0, .aload 2, .iconst 0, .aload 0, .arraylength, .iload 1, .invokeinterface 10496 2, .monitorenter, .aload 2, .areturn] := rfl
theorem en159 {a0 a1 : Int} : ent 159 [(3, a0), (0, a1)] = [(3, a0), (0, a1), (9, 0)] := rfl
theorem b160_0 : blk 160 0 = [.aload 0, .iload 1, .i2l, .invokeinterface 36904 2, .ifCond .eq 1, .iload 2, .ifCond .lt 1, .iload 2, .iconst 8, .if_icmp .ge 1, .aload 0, .ifnonnull 4123, .iload 1, .iconst 8, .imul, .iload 2, .iadd, .iload 3, .iastore, .goto 1] := rfl
theorem b160_1 : blk 160 1 = [.return_] := rfl
theorem en160 {a0 a1 a2 a3 : Int} : ent 160 [(3, a0), (0, a1), (0, a2), (0, a3)] = [(3, a0), (0, a1), (0, a2), (0, a3)] := rfl
theorem b161_0 : blk 161 0 = [.aload 0, .iload 1, .iload 2, .invokeinterface 39944 3, .ifCond .ne 1, .iconst (-1), .ireturn] := rfl
theorem b161_1 : blk 161 1 = [.aload 0, .ifnonnull 27, .iload 1, .iload 2, .invokeinterface 41512 3, .istore 5, .aload 0, .ifnonnull 19, .iload 5, .iload 3, .i2l, .invokeinterface 41760 3, .ifCond .ne 2, .iconst (-2), .ireturn] := rfl
theorem b161_2 : blk 161 2 = [.aload 0, .ifnonnull 19, .iload 5, .iload 3, .invokeinterface 42273 3, .l2i, .istore 6, .aload 0, .ifnonnull 19, .iload 5, .iload 3, .iload 4, .i2l, .invokeinterface 42532 4, .iload 6, .ireturn] := rfl
theorem en161 {a0 a1 a2 a3 a4 : Int} : ent 161 [(3, a0), (0, a1), (0, a2), (0, a3), (0, a4)] = [(3, a0), (0, a1), (0, a2), (0, a3), (0, a4), (9, 0), (9, 0)] := rfl
theorem b162_0 : blk 162 0 = [.aload 0, .iload 1, .i2l, .invokeinterface 36904 2, .ifCond .eq 1, .iload 2, .ifCond .lt 1, .iload 2, .iconst 8, .if_icmp .ge 1, .aload 0, .ifnonnull 4123, .iload 1, .iconst 8, .imul, .iload 2, .iadd, .iaload, .goto 2] := rfl
theorem b162_1 : blk 162 1 = [.iconst (-1), .goto 2] := rfl
theorem b162_2 : blk 162 2 = [.ireturn] := rfl
theorem en162 {a0 a1 a2 : Int} : ent 162 [(3, a0), (0, a1), (0, a2)] = [(3, a0), (0, a1), (0, a2)] := rfl
theorem b163_0 : blk 163 0 = [.lload 2, .bipush 0, .lcmp, .ifCond .lt 1, .lload 2, .aload 0, .iload 1, .invokeinterface 42016 2, .i2l, .lcmp, .ifCond .ge 1, .iconst 1, .goto 2] := rfl
theorem b163_1 : blk 163 1 = [.iconst 0, .goto 2] := rfl
theorem b163_2 : blk 163 2 = [.freturn] := rfl
theorem en163 {a0 a1 a2 : Int} : ent 163 [(3, a0), (0, a1), (1, a2)] = [(3, a0), (0, a1), (1, a2), (9, 0)] := rfl
theorem b164_0 : blk 164 0 = [.iload 1, .ifCond .lt 1, .iload 1, .aload 0, .ifnull 3088, .if_icmp .ge 1, .aload 0, .ifnull 3075, .iload 1, .iconst 1, .iadd, .iaload, .aload 0, .ifnull 3075, .iload 1, .iaload, .isub, .goto 2] := rfl
theorem b164_1 : blk 164 1 = [.iconst 0, .goto 2] := rfl
theorem b164_2 : blk 164 2 = [.ireturn] := rfl
theorem en164 {a0 a1 : Int} : ent 164 [(3, a0), (0, a1)] = [(3, a0), (0, a1)] := rfl
theorem b165_0 : blk 165 0 = [.aload 0, .iload 1, .iload 2, .i2l, .invokeinterface 41760 3, .ifCond .eq 1, .aload 0, .ifnull 3083, .aload 0, .ifnull 3075, .iload 1, .iaload, .iload 2, .iadd, .laload, .goto 2] := rfl
theorem b165_1 : blk 165 1 = [.bipush 0, .goto 2] := rfl
theorem b165_2 : blk 165 2 = [.lreturn] := rfl
theorem en165 {a0 a1 a2 : Int} : ent 165 [(3, a0), (0, a1), (0, a2)] = [(3, a0), (0, a1), (0, a2)] := rfl
theorem b166_0 : blk 166 0 = [.aload 0, .iload 1, .iload 2, .i2l, .invokeinterface 41760 3, .ifCond .eq 1, .aload 0, .ifnull 3083, .aload 0, .ifnull 3075, .iload 1, .iaload, .iload 2, .iadd, .lload 3, .lastore, .goto 1] := rfl
theorem b166_1 : blk 166 1 = [.return_] := rfl
theorem en166 {a0 a1 a2 a3 : Int} : ent 166 [(3, a0), (0, a1), (0, a2), (1, a3)] = [(3, a0), (0, a1), (0, a2), (1, a3), (9, 0)] := rfl
theorem b167_0 : blk 167 0 = [.aload 0, .iload 1, .iload 2, .invokeinterface 39944 3, .ifCond .ne 1, .iconst (-2000000000), .ireturn] := rfl
theorem b167_1 : blk 167 1 = [.aload 0, .ifnonnull 27, .iload 1, .iload 2, .invokeinterface 41512 3, .istore 4, .iload 3, .iconst (-1), .if_icmp .ne 4, .iload 4, .ifCond .ge 2, .iconst (-2000000001), .goto 3] := rfl
theorem b167_2 : blk 167 2 = [.aload 0, .ifnonnull 19, .iload 4, .invokeinterface 42016 2, .goto 3] := rfl
theorem b167_3 : blk 167 3 = [.ireturn] := rfl
theorem b167_4 : blk 167 4 = [.aload 0, .ifnonnull 19, .iload 4, .iload 3, .i2l, .invokeinterface 41760 3, .ifCond .eq 5, .aload 0, .ifnonnull 19, .iload 4, .iload 3, .invokeinterface 42273 3, .l2i, .goto 6] := rfl
theorem b167_5 : blk 167 5 = [.iconst (-2000000001), .goto 6] := rfl
theorem b167_6 : blk 167 6 = [.ireturn] := rfl
theorem en167 {a0 a1 a2 a3 : Int} : ent 167 [(3, a0), (0, a1), (0, a2), (0, a3)] = [(3, a0), (0, a1), (0, a2), (0, a3), (9, 0)] := rfl
theorem b168_0 : blk 168 0 = [.aload 0, .ifnull 67, .iconst 6, .iload 1, .invokeinterface 18264 3, .ifCond .eq 1, .iload 2, .invokeinterface 43264 1, .ifCond .ne 2, .goto 1] := rfl
theorem b168_1 : blk 168 1 = [.iconst (-1), .ireturn] := rfl
theorem b168_2 : blk 168 2 = [.aload 0, .ifnonnull 35, .iload 1, .iload 2, .iload 3, .iload 4, .iload 5, .iload 6, .invokeinterface 43568 7, .istore 7, .aload 0, .iload 7, .ifCond .ge 3, .iconst 0, .goto 4] := rfl
theorem b168_3 : blk 168 3 = [.iload 7, .goto 4] := rfl
theorem b168_4 : blk 168 4 = [.jsr_w 80, .aload 0, .aload 0, .ifnonnull 35, .invokeinterface 60977 1, .jsr_w 89, .aload 0, .aload 0, .ifnonnull 35, .invokeinterface 61232 1, .jsr_w 96, .iload 7, .ireturn] := rfl
theorem en168 {a0 a1 a2 a3 a4 a5 a6 : Int} : ent 168 [(3, a0), (0, a1), (0, a2), (0, a3), (0, a4), (0, a5), (0, a6)] = [(3, a0), (0, a1), (0, a2), (0, a3), (0, a4), (0, a5), (0, a6), (9, 0)] := rfl
theorem b169_0 : blk 169 0 = [.iload 0, .iconst 1, .if_icmp .lt 1, .iload 0, .iconst 3000, .if_icmp .gt 1, .iconst 1, .goto 2] := rfl
theorem b169_1 : blk 169 1 = [.iconst 0, .goto 2] := rfl
theorem b169_2 : blk 169 2 = [.freturn] := rfl
theorem en169 {a0 : Int} : ent 169 [(0, a0)] = [(0, a0)] := rfl
theorem b170_0 : blk 170 0 = [.aload 0, .iconst 0, .jsr_w 5256, .aload 0, .iload 2, .jsr_w 5248, .aload 0, .bipush 0, .jsr_w 5281, .aload 0, .ifnull 5240, .iconst 10000, .if_icmp .lt 1, .iconst (-23), .ireturn] := rfl
theorem b170_1 : blk 170 1 = [.aload 0, .iconst 100, .jsr_w 5272, .aload 0, .iconst 0, .jsr_w 5264, .aload 0, .iconst 0, .jsr_w 5184, .aload 0, .iconst (-1), .jsr_w 5160, .aload 0, .ifnonnull 5139, .iconst 0, .invokeinterface 43836 2, .aload 0, .ifnull 5147, .iconst 6, .iload 1, .invokeinterface 18264 3, .ifCond .eq 2, .aload 0, .ifnull 5147, .ifnonnull 10347, .iload 1, .iaload, .goto 3] := rfl
theorem b170_2 : blk 170 2 = [.iconst 0, .goto 3] := rfl
theorem b170_3 : blk 170 3 = [.istore 7, .iconst 0, .istore 8, .goto 4] := rfl
theorem b170_4 : blk 170 4 = [.iload 8, .iload 7, .if_icmp .ge 9, .aload 0, .ifnonnull 5139, .iconst 1, .iload 8, .ifCond .ne 5, .iload 3, .i2l, .goto 8] := rfl
theorem b170_5 : blk 170 5 = [.iload 8, .iconst 1, .if_icmp .ne 6, .iload 4, .i2l, .goto 8] := rfl
theorem b170_6 : blk 170 6 = [.iload 8, .iconst 2, .if_icmp .ne 7, .iload 5, .i2l, .goto 8] := rfl
theorem b170_7 : blk 170 7 = [.iload 6, .i2l, .goto 8] := rfl
theorem b170_8 : blk 170 8 = [.invokeinterface 44092 3, .iinc 8 1, .goto 4] := rfl
theorem b170_9 : blk 170 9 = [.aload 0, .iload 1, .iload 7, .invokeinterface 44340 3, .iconst 0, .istore 8, .goto 10] := rfl
theorem b170_10 : blk 170 10 = [.iload 8, .iconst 4000000, .if_icmp .ge 13, .aload 0, .ifnull 5272, .iconst 100, .if_icmp .ne 13, .aload 0, .ifnull 5264, .ifCond .ne 11, .aload 0, .aload 0, .invokeinterface 45104 1, .invokeinterface 45364 2, .goto 12] := rfl
theorem b170_11 : blk 170 11 = [.aload 0, .invokeinterface 60468 1, .goto 12] := rfl
theorem b170_12 : blk 170 12 = [.iinc 8 1, .goto 10] := rfl
theorem b170_13 : blk 170 13 = [.aload 0, .ifnull 5272, .iconst 100, .if_icmp .ne 14, .aload 0, .iconst (-20), .bipush 0, .invokeinterface 45876 3, .goto 14] := rfl
theorem b170_14 : blk 170 14 = [.aload 0, .ifnull 5272, .ireturn] := rfl
theorem en170 {a0 a1 a2 a3 a4 a5 a6 : Int} : ent 170 [(3, a0), (0, a1), (0, a2), (0, a3), (0, a4), (0, a5), (0, a6)] = [(3, a0), (0, a1), (0, a2), (0, a3), (0, a4), (0, a5), (0, a6), (9, 0), (9, 0)] := rfl
theorem b171_0 : blk 171 0 = [.iload 1, .ifCond .lt 1, .iload 1, .aload 0, .ifnull 6160, .if_icmp .ge 1, .aload 0, .iload 1, .jsr_w 6160, .goto 1] := rfl
theorem b171_1 : blk 171 1 = [.return_] := rfl
theorem en171 {a0 a1 : Int} : ent 171 [(3, a0), (0, a1)] = [(3, a0), (0, a1)] := rfl
theorem b172_0 : blk 172 0 = [.aload 0, .ifnull 6160, .aload 0, .ifnull 6147, .arraylength, .if_icmp .lt 1, .return_] := rfl
theorem b172_1 : blk 172 1 = [.aload 0, .ifnull 6147, .aload 0, .ifnull 6160, .iload 1, .iastore, .aload 0, .ifnull 6155, .aload 0, .ifnull 6160, .lload 2, .lastore, .aload 0, .dup, .ifnull 6160, .iconst 1, .iadd, .jsr_w 6160, .return_] := rfl
theorem en172 {a0 a1 a2 : Int} : ent 172 [(3, a0), (0, a1), (1, a2)] = [(3, a0), (0, a1), (1, a2), (9, 0)] := rfl
theorem b173_0 : blk 173 0 = [.aload 0, .ifnull 5147, .iconst 6, .iload 1, .invokeinterface 18264 3, .ifCond .eq 1, .aload 0, .ifnull 5160, .iconst 1, .iadd, .iconst 8, .if_icmp .lt 2, .goto 1] := rfl
theorem b173_1 : blk 173 1 = [.return_] := rfl
theorem b173_2 : blk 173 2 = [.aload 0, .dup, .ifnull 5160, .iconst 1, .iadd, .jsr_w 5160, .aload 0, .ifnonnull 5171, .aload 0, .ifnull 5160, .aload 0, .ifnonnull 5139, .invokeinterface 44600 1, .iload 2, .isub, .iastore, .aload 0, .ifnonnull 5179, .aload 0, .ifnull 5160, .aload 0, .ifnull 5152, .iastore, .aload 0, .aload 0, .ifnull 5147, .ifnonnull 10339, .iload 1, .iaload, .jsr_w 5152, .aload 0, .ifnull 5147, .ifnonnull 10355, .iload 1, .iaload, .iload 2, .isub, .istore 3, .aload 0, .ifnonnull 5139, .iload 3, .iconst 64, .iadd, .invokeinterface 44860 2, .iconst 0, .istore 4, .goto 3] := rfl
theorem b173_3 : blk 173 3 = [.iload 4, .iload 3, .if_icmp .ge 4, .aload 0, .ifnonnull 5139, .iconst 0, .bipush 0, .invokeinterface 44092 3, .iinc 4 1, .goto 3] := rfl
theorem b173_4 : blk 173 4 = [.return_] := rfl
theorem en173 {a0 a1 a2 : Int} : ent 173 [(3, a0), (0, a1), (0, a2)] = [(3, a0), (0, a1), (0, a2), (9, 0), (9, 0)] := rfl
theorem b174_0 : blk 174 0 = [.aload 0, .ifnull 6160, .ireturn] := rfl
theorem en174 {a0 : Int} : ent 174 [(3, a0)] = [(3, a0)] := rfl
theorem b175_0 : blk 175 0 = [.iload 1, .ifCond .lt 1, .aload 0, .ifnull 6160, .iload 1, .iadd, .aload 0, .ifnull 6147, .arraylength, .if_icmp .gt 2, .goto 1] := rfl
theorem b175_1 : blk 175 1 = [.return_] := rfl
theorem b175_2 : blk 175 2 = [.aload 0, .ifnull 6160, .iload 1, .iadd, .aload 0, .ifnull 6147, .arraylength, .iconst 2, .imul, .invokeinterface 10240 2, .istore 2, .aload 0, .aload 0, .ifnull 6147, .iload 2, .invokeinterface 40451 2, .jsr_w 6147, .aload 0, .aload 0, .ifnull 6155, .iload 2, .invokeinterface 40707 2, .jsr_w 6155, .return_] := rfl
theorem en175 {a0 a1 : Int} : ent 175 [(3, a0), (0, a1)] = [(3, a0), (0, a1), (9, 0)] := rfl
theorem b176_0 : blk 176 0 = [.aload 0, .ifnull 5147, .aload 0, .ifnull 5152, .invokeinterface 33112 2, .istore 1, .aload 0, .dup, .ifnull 5152, .iconst 1, .iadd, .jsr_w 5152, .iload 1, .ireturn] := rfl
theorem en176 {a0 : Int} : ent 176 [(3, a0)] = [(3, a0), (9, 0)] := rfl
theorem b177_0 : blk 177 0 = [.iload 1, .tableswitch 33 1 31 #[1, 2, 3, 4, 5, 6, 7, 8, 9, 10, 11, 12, 13, 14, 15, 16, 17, 18, 19, 20, 21, 33, 22, 23, 24, 25, 26, 27, 30, 31, 32]] := rfl
theorem b177_1 : blk 177 1 = [.aload 0, .invokeinterface 45616 1, .pop, .goto 34] := rfl
theorem b177_2 : blk 177 2 = [.aload 0, .ifnonnull 5139, .iconst 0, .bipush 0, .invokeinterface 44092 3, .goto 34] := rfl
theorem b177_3 : blk 177 3 = [.aload 0, .ifnonnull 5139, .iconst 1, .aload 0, .invokeinterface 45104 1, .i2l, .invokeinterface 44092 3, .goto 34] := rfl
theorem b177_4 : blk 177 4 = [.aload 0, .invokeinterface 46132 1, .goto 34] := rfl
theorem b177_5 : blk 177 5 = [.aload 0, .aload 0, .invokeinterface 45104 1, .invokeinterface 46388 2, .goto 34] := rfl
theorem b177_6 : blk 177 6 = [.aload 0, .aload 0, .invokeinterface 45104 1, .invokeinterface 47412 2, .goto 34] := rfl
theorem b177_7 : blk 177 7 = [.aload 0, .aload 0, .aload 0, .invokeinterface 45104 1, .invokeinterface 46640 2, .invokeinterface 48436 2, .goto 34] := rfl
theorem b177_8 : blk 177 8 = [.aload 0, .aload 0, .invokeinterface 45104 1, .invokeinterface 50996 2, .goto 34] := rfl
theorem b177_9 : blk 177 9 = [.aload 0, .aload 0, .invokeinterface 45104 1, .invokeinterface 53812 2, .goto 34] := rfl
theorem b177_10 : blk 177 10 = [.aload 0, .invokeinterface 54836 1, .goto 34] := rfl
theorem b177_11 : blk 177 11 = [.aload 0, .invokeinterface 55092 1, .goto 34] := rfl
theorem b177_12 : blk 177 12 = [.aload 0, .aload 0, .invokeinterface 45104 1, .invokeinterface 55348 2, .goto 34] := rfl
theorem b177_13 : blk 177 13 = [.aload 0, .invokeinterface 55604 1, .goto 34] := rfl
theorem b177_14 : blk 177 14 = [.aload 0, .aload 0, .ifnonnull 5139, .iconst 0, .invokeinterface 47672 2, .aload 0, .ifnonnull 5139, .iconst 0, .invokeinterface 47929 2, .invokeinterface 55860 3, .goto 34] := rfl
theorem b177_15 : blk 177 15 = [.aload 0, .aload 0, .invokeinterface 45104 1, .jsr_w 5152, .goto 34] := rfl
theorem b177_16 : blk 177 16 = [.aload 0, .aload 0, .invokeinterface 45104 1, .invokeinterface 56372 2, .goto 34] := rfl
theorem b177_17 : blk 177 17 = [.aload 0, .invokeinterface 56628 1, .goto 34] := rfl
theorem b177_18 : blk 177 18 = [.aload 0, .invokeinterface 56884 1, .goto 34] := rfl
theorem b177_19 : blk 177 19 = [.aload 0, .aload 0, .invokeinterface 45104 1, .invokeinterface 49204 2, .goto 34] := rfl
theorem b177_20 : blk 177 20 = [.aload 0, .invokeinterface 57140 1, .goto 34] := rfl
theorem b177_21 : blk 177 21 = [.aload 0, .aload 0, .invokeinterface 45104 1, .invokeinterface 57652 2, .goto 34] := rfl
theorem b177_22 : blk 177 22 = [.aload 0, .invokeinterface 57908 1, .goto 34] := rfl
theorem b177_23 : blk 177 23 = [.aload 0, .invokeinterface 58164 1, .goto 34] := rfl
theorem b177_24 : blk 177 24 = [.aload 0, .invokeinterface 58420 1, .goto 34] := rfl
theorem b177_25 : blk 177 25 = [.aload 0, .invokeinterface 58676 1, .goto 34] := rfl
theorem b177_26 : blk 177 26 = [.aload 0, .invokeinterface 59444 1, .goto 34] := rfl
theorem b177_27 : blk 177 27 = [.aload 0, .ifnonnull 5139, .iconst 1, .iconst 1, .aload 0, .ifnonnull 5139, .iconst 0, .invokeinterface 47672 2, .ifCond .ne 28, .bipush 1, .goto 29] := rfl
theorem b177_28 : blk 177 28 = [.bipush 0, .goto 29] := rfl
theorem b177_29 : blk 177 29 = [.invokeinterface 52284 4, .goto 34] := rfl
theorem b177_30 : blk 177 30 = [.aload 0, .invokeinterface 59700 1, .goto 34] := rfl
theorem b177_31 : blk 177 31 = [.aload 0, .invokeinterface 59956 1, .goto 34] := rfl
theorem b177_32 : blk 177 32 = [.aload 0, .invokeinterface 60212 1, .goto 34] := rfl
theorem b177_33 : blk 177 33 = [.aload 0, .iconst 0, .bipush 0, .invokeinterface 55860 3, .goto 34] := rfl
theorem b177_34 : blk 177 34 = [.return_] := rfl
theorem en177 {a0 a1 : Int} : ent 177 [(3, a0), (0, a1)] = [(3, a0), (0, a1)] := rfl
theorem b178_0 : blk 178 0 = [.aload 0, .ifnull 5256, .aload 0, .ifnull 5248, .if_icmp .lt 1, .aload 0, .iconst (-20), .bipush 0, .invokeinterface 45876 3, .iconst 0, .freturn] := rfl
theorem b178_1 : blk 178 1 = [.aload 0, .dup, .ifnull 5256, .iconst 1, .iadd, .jsr_w 5256, .iconst 1, .freturn] := rfl
theorem en178 {a0 : Int} : ent 178 [(3, a0)] = [(3, a0)] := rfl
theorem b179_0 : blk 179 0 = [.aload 0, .iload 1, .jsr_w 5272, .aload 0, .lload 2, .jsr_w 5281, .return_] := rfl
theorem en179 {a0 a1 a2 : Int} : ent 179 [(3, a0), (0, a1), (1, a2)] = [(3, a0), (0, a1), (1, a2), (9, 0)] := rfl
theorem b180_0 : blk 180 0 = [.aload 0, .invokeinterface 45104 1, .i2l, .lstore 1, .aload 0, .ifnonnull 5139, .iconst 2, .lload 1, .iconst 32, .lshl, .aload 0, .invokeinterface 45104 1, .i2l, .bipush 4294967295, .land, .lor, .invokeinterface 44092 3, .return_] := rfl
theorem en180 {a0 : Int} : ent 180 [(3, a0)] = [(3, a0), (9, 0), (9, 0)] := rfl
theorem b181_0 : blk 181 0 = [.aload 0, .iload 1, .invokeinterface 46640 2, .istore 2, .aload 0, .ifnonnull 5139, .aload 0, .ifnonnull 5139, .iload 2, .invokeinterface 46904 2, .aload 0, .ifnonnull 5139, .iload 2, .invokeinterface 47161 2, .invokeinterface 44092 3, .return_] := rfl
theorem en181 {a0 a1 : Int} : ent 181 [(3, a0), (0, a1)] = [(3, a0), (0, a1), (9, 0)] := rfl
theorem b182_0 : blk 182 0 = [.aload 0, .ifnull 5160, .ifCond .lt 1, .aload 0, .ifnull 5160, .iconst 8, .if_icmp .ge 1, .aload 0, .ifnonnull 5171, .aload 0, .ifnull 5160, .iaload, .iload 1, .iadd, .goto 2] := rfl
theorem b182_1 : blk 182 1 = [.iconst (-1), .goto 2] := rfl
theorem b182_2 : blk 182 2 = [.ireturn] := rfl
theorem en182 {a0 a1 : Int} : ent 182 [(3, a0), (0, a1)] = [(3, a0), (0, a1)] := rfl
theorem b183_0 : blk 183 0 = [.iload 1, .ifCond .lt 1, .iload 1, .aload 0, .ifnull 6160, .if_icmp .ge 1, .aload 0, .ifnull 6147, .iload 1, .iaload, .goto 2] := rfl
theorem b183_1 : blk 183 1 = [.iconst 0, .goto 2] := rfl
theorem b183_2 : blk 183 2 = [.ireturn] := rfl
theorem en183 {a0 a1 : Int} : ent 183 [(3, a0), (0, a1)] = [(3, a0), (0, a1)] := rfl
theorem b184_0 : blk 184 0 = [.iload 1, .ifCond .lt 1, .iload 1, .aload 0, .ifnull 6160, .if_icmp .ge 1, .aload 0, .ifnull 6155, .iload 1, .laload, .goto 2] := rfl
theorem b184_1 : blk 184 1 = [.bipush 0, .goto 2] := rfl
theorem b184_2 : blk 184 2 = [.lreturn] := rfl
theorem en184 {a0 a1 : Int} : ent 184 [(3, a0), (0, a1)] = [(3, a0), (0, a1)] := rfl
theorem b185_0 : blk 185 0 = [.aload 0, .ifnonnull 5139, .aload 0, .iload 1, .invokeinterface 46640 2, .aload 0, .ifnonnull 5139, .iconst 0, .invokeinterface 47672 2, .aload 0, .ifnonnull 5139, .iconst 0, .invokeinterface 47929 2, .invokeinterface 48188 4, .aload 0, .ifnonnull 5139, .aload 0, .ifnonnull 5139, .invokeinterface 44600 1, .iconst 1, .isub, .invokeinterface 43836 2, .return_] := rfl
theorem en185 {a0 a1 : Int} : ent 185 [(3, a0), (0, a1)] = [(3, a0), (0, a1)] := rfl
theorem b186_0 : blk 186 0 = [.aload 0, .aload 0, .ifnull 6160, .iconst 1, .isub, .iload 1, .isub, .invokeinterface 46904 2, .ireturn] := rfl
theorem en186 {a0 a1 : Int} : ent 186 [(3, a0), (0, a1)] = [(3, a0), (0, a1)] := rfl
theorem b187_0 : blk 187 0 = [.aload 0, .aload 0, .ifnull 6160, .iconst 1, .isub, .iload 1, .isub, .invokeinterface 47161 2, .lreturn] := rfl
theorem en187 {a0 a1 : Int} : ent 187 [(3, a0), (0, a1)] = [(3, a0), (0, a1)] := rfl
theorem b188_0 : blk 188 0 = [.iload 1, .ifCond .lt 1, .iload 1, .aload 0, .ifnull 6160, .if_icmp .lt 2, .goto 1] := rfl
theorem b188_1 : blk 188 1 = [.return_] := rfl
theorem b188_2 : blk 188 2 = [.aload 0, .ifnull 6147, .iload 1, .iload 2, .iastore, .aload 0, .ifnull 6155, .iload 1, .lload 3, .lastore, .return_] := rfl
theorem en188 {a0 a1 a2 a3 : Int} : ent 188 [(3, a0), (0, a1), (0, a2), (1, a3)] = [(3, a0), (0, a1), (0, a2), (1, a3), (9, 0)] := rfl
theorem b189_0 : blk 189 0 = [.aload 0, .ifnonnull 5139, .iload 1, .invokeinterface 46904 2, .istore 2, .aload 0, .ifnonnull 5139, .iload 1, .invokeinterface 47161 2, .l2i, .istore 3, .aload 0, .aload 0, .iconst 1, .invokeinterface 48688 2, .invokeinterface 48944 2, .ifCond .ne 1, .aload 0, .iload 2, .invokeinterface 49408 1, .invokeinterface 48944 2, .ifCond .eq 2, .goto 1] := rfl
theorem b189_1 : blk 189 1 = [.return_] := rfl
theorem b189_2 : blk 189 2 = [.iload 2, .iconst 4, .isub, .istore 4, .iload 4, .ifCond .ne 3, .aload 0, .aload 0, .iconst 0, .invokeinterface 48688 2, .invokeinterface 48944 2, .ifCond .ne 4, .goto 3] := rfl
theorem b189_3 : blk 189 3 = [.iload 4, .iconst 1, .if_icmp .ne 5, .aload 0, .aload 0, .iconst 0, .invokeinterface 49712 2, .invokeinterface 48944 2, .ifCond .eq 5, .goto 4] := rfl
theorem b189_4 : blk 189 4 = [.return_] := rfl
theorem b189_5 : blk 189 5 = [.aload 0, .aload 0, .iload 3, .i2l, .aload 0, .ifnonnull 5139, .iconst 1, .invokeinterface 47929 2, .invokeinterface 49968 3, .invokeinterface 48944 2, .ifCond .ne 6, .iload 4, .iconst 2, .if_icmp .lt 7, .aload 0, .aload 0, .iload 4, .invokeinterface 50224 2, .invokeinterface 48944 2, .ifCond .eq 7, .goto 6] := rfl
theorem b189_6 : blk 189 6 = [.return_] := rfl
theorem b189_7 : blk 189 7 = [.iload 4, .iconst 1, .if_icmp .ne 8, .aload 0, .iconst 0, .invokeinterface 50737 2, .goto 10] := rfl
theorem b189_8 : blk 189 8 = [.aload 0, .ifnonnull 5139, .iconst 0, .invokeinterface 47672 2, .ifCond .ne 9, .bipush (-9), .goto 10] := rfl
theorem b189_9 : blk 189 9 = [.aload 0, .ifnonnull 5139, .iconst 0, .invokeinterface 47929 2, .goto 10] := rfl
theorem b189_10 : blk 189 10 = [.lstore 5, .aload 0, .ifnonnull 5131, .iload 3, .aload 0, .ifnonnull 5139, .iconst 1, .invokeinterface 47929 2, .l2i, .lload 5, .invokeinterface 42532 4, .aload 0, .ifnonnull 5139, .aload 0, .ifnonnull 5139, .invokeinterface 44600 1, .iconst 2, .isub, .invokeinterface 43836 2, .return_] := rfl
theorem en189 {a0 a1 : Int} : ent 189 [(3, a0), (0, a1)] = [(3, a0), (0, a1), (9, 0), (9, 0), (9, 0), (9, 0), (9, 0)] := rfl
theorem b190_0 : blk 190 0 = [.aload 0, .ifnonnull 5139, .iload 1, .invokeinterface 47672 2, .istore 2, .iload 2, .ifCond .ne 1, .iconst 3, .goto 3] := rfl
theorem b190_1 : blk 190 1 = [.iload 2, .iconst 1, .if_icmp .eq 2, .iconst 4, .goto 3] := rfl
theorem b190_2 : blk 190 2 = [.iconst 0, .goto 3] := rfl
theorem b190_3 : blk 190 3 = [.ireturn] := rfl
theorem en190 {a0 a1 : Int} : ent 190 [(3, a0), (0, a1)] = [(3, a0), (0, a1), (9, 0)] := rfl
theorem b191_0 : blk 191 0 = [.iload 1, .ifCond .ne 1, .iconst 0, .freturn] := rfl
theorem b191_1 : blk 191 1 = [.aload 0, .iload 1, .invokeinterface 49204 2, .iconst 1, .freturn] := rfl
theorem en191 {a0 a1 : Int} : ent 191 [(3, a0), (0, a1)] = [(3, a0), (0, a1)] := rfl
theorem b192_0 : blk 192 0 = [.aload 0, .ifnull 5240, .iconst 10000, .if_icmp .lt 1, .aload 0, .iconst (-23), .bipush 0, .invokeinterface 45876 3, .return_] := rfl
theorem b192_1 : blk 192 1 = [.aload 0, .dup, .ifnull 5240, .iconst 1, .iadd, .jsr_w 5240, .aload 0, .iload 1, .jsr_w 5264, .return_] := rfl
theorem en192 {a0 a1 : Int} : ent 192 [(3, a0), (0, a1)] = [(3, a0), (0, a1)] := rfl
theorem b193_0 : blk 193 0 = [.iload 0, .ifCond .ne 1, .iconst 3, .goto 3] := rfl
theorem b193_1 : blk 193 1 = [.iload 0, .iconst 4, .if_icmp .ge 2, .iconst 4, .goto 3] := rfl
theorem b193_2 : blk 193 2 = [.iconst 0, .goto 3] := rfl
theorem b193_3 : blk 193 3 = [.ireturn] := rfl
theorem en193 {a0 : Int} : ent 193 [(0, a0)] = [(0, a0)] := rfl
theorem b194_0 : blk 194 0 = [.aload 0, .ifnonnull 5139, .iload 1, .invokeinterface 47672 2, .istore 2, .iload 2, .ifCond .ne 1, .iconst 3, .goto 3] := rfl
theorem b194_1 : blk 194 1 = [.iload 2, .iconst 1, .if_icmp .eq 2, .iload 2, .iconst 2, .if_icmp .eq 2, .iconst 4, .goto 3] := rfl
theorem b194_2 : blk 194 2 = [.iconst 0, .goto 3] := rfl
theorem b194_3 : blk 194 3 = [.ireturn] := rfl
theorem en194 {a0 a1 : Int} : ent 194 [(3, a0), (0, a1)] = [(3, a0), (0, a1), (9, 0)] := rfl
theorem b195_0 : blk 195 0 = [.aload 0, .ifnonnull 5131, .lload 1, .l2i, .lload 3, .invokeinterface 41760 3, .ifCond .eq 1, .iconst 0, .goto 2] := rfl
theorem b195_1 : blk 195 1 = [.iconst 2, .goto 2] := rfl
theorem b195_2 : blk 195 2 = [.ireturn] := rfl
theorem en195 {a0 a1 a2 : Int} : ent 195 [(3, a0), (1, a1), (1, a2)] = [(3, a0), (1, a1), (9, 0), (1, a2), (9, 0)] := rfl
theorem b196_0 : blk 196 0 = [.aload 0, .ifnonnull 5139, .iconst 0, .invokeinterface 47672 2, .istore 2, .iload 2, .ifCond .ne 1, .iconst 0, .ireturn] := rfl
theorem b196_1 : blk 196 1 = [.iload 2, .iconst 3, .if_icmp .eq 2, .iconst 4, .ireturn] := rfl
theorem b196_2 : blk 196 2 = [.iload 1, .iconst 3, .if_icmp .ne 3, .aload 0, .ifnonnull 5123, .aload 0, .ifnonnull 5139, .iconst 0, .invokeinterface 47929 2, .l2i, .invokeinterface 50472 2, .ifCond .ne 3, .iconst 6, .goto 4] := rfl
theorem b196_3 : blk 196 3 = [.iconst 0, .goto 4] := rfl
theorem b196_4 : blk 196 4 = [.ireturn] := rfl
theorem en196 {a0 a1 : Int} : ent 196 [(3, a0), (0, a1)] = [(3, a0), (0, a1), (9, 0)] := rfl
theorem b197_0 : blk 197 0 = [.aload 0, .iload 1, .invokeinterface 36648 2, .iconst 2, .if_icmp .lt 1, .iconst 1, .goto 2] := rfl
theorem b197_1 : blk 197 1 = [.iconst 0, .goto 2] := rfl
theorem b197_2 : blk 197 2 = [.freturn] := rfl
theorem en197 {a0 a1 : Int} : ent 197 [(3, a0), (0, a1)] = [(3, a0), (0, a1)] := rfl
theorem b198_0 : blk 198 0 = [.aload 0, .ifnonnull 5139, .iload 1, .invokeinterface 47672 2, .iconst 2, .if_icmp .ne 1, .aload 0, .ifnonnull 5139, .iload 1, .invokeinterface 47929 2, .goto 2] := rfl
theorem b198_1 : blk 198 1 = [.aload 0, .ifnonnull 5139, .iload 1, .invokeinterface 47929 2, .invokeinterface 25345 1, .goto 2] := rfl
theorem b198_2 : blk 198 2 = [.lreturn] := rfl
theorem en198 {a0 a1 : Int} : ent 198 [(3, a0), (0, a1)] = [(3, a0), (0, a1)] := rfl
theorem b199_0 : blk 199 0 = [.aload 0, .invokeinterface 51248 1, .ifCond .eq 1, .return_] := rfl
theorem b199_1 : blk 199 1 = [.aload 0, .invokeinterface 51504 1, .ifCond .ne 2, .aload 0, .iload 1, .aload 0, .ifnonnull 5139, .iconst 1, .invokeinterface 47929 2, .aload 0, .ifnonnull 5139, .iconst 0, .invokeinterface 47929 2, .invokeinterface 51764 4, .return_] := rfl
theorem b199_2 : blk 199 2 = [.aload 0, .iconst 1, .invokeinterface 50737 2, .lstore 2, .aload 0, .iconst 0, .invokeinterface 50737 2, .lstore 4, .iload 1, .ifCond .ne 3, .lload 2, .lload 4, .invokeinterface 52481 2, .lstore 6, .goto 8] := rfl
theorem b199_3 : blk 199 3 = [.iload 1, .iconst 1, .if_icmp .ne 4, .lload 2, .lload 4, .invokeinterface 52993 1, .invokeinterface 52481 2, .lstore 6, .goto 8] := rfl
theorem b199_4 : blk 199 4 = [.iload 1, .iconst 2, .if_icmp .ne 5, .lload 2, .lload 4, .invokeinterface 53249 2, .lstore 6, .goto 8] := rfl
theorem b199_5 : blk 199 5 = [.iload 1, .iconst 3, .if_icmp .ne 6, .lload 2, .lload 4, .invokeinterface 26625 2, .goto 7] := rfl
theorem b199_6 : blk 199 6 = [.lload 2, .lload 4, .invokeinterface 53505 2, .goto 7] := rfl
theorem b199_7 : blk 199 7 = [.lstore 6, .goto 8] := rfl
theorem b199_8 : blk 199 8 = [.aload 0, .ifnonnull 5139, .iconst 2, .iconst 2, .lload 6, .invokeinterface 52284 4, .return_] := rfl
theorem en199 {a0 a1 : Int} : ent 199 [(3, a0), (0, a1)] = [(3, a0), (0, a1), (9, 0), (9, 0), (9, 0), (9, 0), (9, 0), (9, 0)] := rfl
theorem b200_0 : blk 200 0 = [.aload 0, .aload 0, .iconst 1, .invokeinterface 49712 2, .invokeinterface 48944 2, .ifCond .ne 1, .aload 0, .aload 0, .iconst 0, .invokeinterface 49712 2, .invokeinterface 48944 2, .ifCond .eq 2, .goto 1] := rfl
theorem b200_1 : blk 200 1 = [.iconst 1, .goto 3] := rfl
theorem b200_2 : blk 200 2 = [.iconst 0, .goto 3] := rfl
theorem b200_3 : blk 200 3 = [.freturn] := rfl
theorem en200 {a0 : Int} : ent 200 [(3, a0)] = [(3, a0)] := rfl
theorem b201_0 : blk 201 0 = [.aload 0, .ifnonnull 5139, .iconst 1, .invokeinterface 47672 2, .iconst 2, .if_icmp .eq 1, .aload 0, .ifnonnull 5139, .iconst 0, .invokeinterface 47672 2, .iconst 2, .if_icmp .ne 2, .goto 1] := rfl
theorem b201_1 : blk 201 1 = [.iconst 1, .goto 3] := rfl
theorem b201_2 : blk 201 2 = [.iconst 0, .goto 3] := rfl
theorem b201_3 : blk 201 3 = [.freturn] := rfl
theorem en201 {a0 : Int} : ent 201 [(3, a0)] = [(3, a0)] := rfl
theorem b202_0 : blk 202 0 = [.lload 4, .bipush 0, .lcmp, .ifCond .ne 2, .iload 1, .iconst 3, .if_icmp .eq 1, .iload 1, .iconst 4, .if_icmp .ne 2, .goto 1] := rfl
theorem b202_1 : blk 202 1 = [.aload 0, .iconst 1, .invokeinterface 49204 2, .return_] := rfl
theorem b202_2 : blk 202 2 = [.iload 1, .ifCond .ne 3, .lload 2, .lload 4, .ladd, .lstore 6, .goto 9] := rfl
theorem b202_3 : blk 202 3 = [.iload 1, .iconst 1, .if_icmp .ne 4, .lload 2, .lload 4, .lsub, .lstore 6, .goto 9] := rfl
theorem b202_4 : blk 202 4 = [.iload 1, .iconst 2, .if_icmp .ne 5, .lload 2, .lload 4, .lmul, .lstore 6, .goto 9] := rfl
theorem b202_5 : blk 202 5 = [.lload 4, .bipush 0, .lcmp, .ifCond .ne 6, .bipush 0, .lstore 6, .goto 9] := rfl
theorem b202_6 : blk 202 6 = [.iload 1, .iconst 3, .if_icmp .ne 7, .lload 2, .lload 4, .ldiv, .l2i, .i2l, .goto 8] := rfl
theorem b202_7 : blk 202 7 = [.lload 2, .lload 4, .lrem, .goto 8] := rfl
theorem b202_8 : blk 202 8 = [.lstore 6, .goto 9] := rfl
theorem b202_9 : blk 202 9 = [.aload 0, .iconst 2, .lload 6, .invokeinterface 52020 3, .return_] := rfl
theorem en202 {a0 a1 a2 a3 : Int} : ent 202 [(3, a0), (0, a1), (1, a2), (1, a3)] = [(3, a0), (0, a1), (1, a2), (9, 0), (1, a3), (9, 0), (9, 0), (9, 0)] := rfl
theorem b203_0 : blk 203 0 = [.lload 2, .lload 2, .l2i, .i2l, .lcmp, .ifCond .eq 1, .aload 0, .iconst 7, .invokeinterface 49204 2, .goto 2] := rfl
theorem b203_1 : blk 203 1 = [.aload 0, .ifnonnull 5139, .iload 1, .iconst 1, .lload 2, .invokeinterface 52284 4, .goto 2] := rfl
theorem b203_2 : blk 203 2 = [.return_] := rfl
theorem en203 {a0 a1 a2 : Int} : ent 203 [(3, a0), (0, a1), (1, a2)] = [(3, a0), (0, a1), (1, a2), (9, 0)] := rfl
theorem b204_0 : blk 204 0 = [.aload 0, .aload 0, .ifnull 6160, .iload 1, .isub, .invokeinterface 43836 2, .aload 0, .iload 2, .lload 3, .invokeinterface 44092 3, .return_] := rfl
theorem en204 {a0 a1 a2 a3 : Int} : ent 204 [(3, a0), (0, a1), (0, a2), (1, a3)] = [(3, a0), (0, a1), (0, a2), (1, a3), (9, 0)] := rfl
theorem b205_0 : blk 205 0 = [.lload 0, .invokeinterface 26880 1, .ifCond .ne 1, .lload 2, .invokeinterface 26880 1, .ifCond .eq 2, .goto 1] := rfl
theorem b205_1 : blk 205 1 = [.bipush 9221120237041090560, .lreturn] := rfl
theorem b205_2 : blk 205 2 = [.lload 0, .invokeinterface 27136 1, .ifCond .eq 5, .lload 2, .invokeinterface 27136 1, .ifCond .eq 3, .lload 0, .lload 2, .lcmp, .ifCond .eq 3, .bipush 9221120237041090560, .goto 4] := rfl
theorem b205_3 : blk 205 3 = [.lload 0, .goto 4] := rfl
theorem b205_4 : blk 205 4 = [.lreturn] := rfl
theorem b205_5 : blk 205 5 = [.lload 2, .invokeinterface 27136 1, .ifCond .eq 6, .lload 2, .lreturn] := rfl
theorem b205_6 : blk 205 6 = [.lload 0, .invokeinterface 28160 1, .lload 2, .invokeinterface 28160 1, .invokeinterface 10240 2, .istore 4, .lload 0, .invokeinterface 27649 1, .iconst 8, .lshl, .iload 4, .lload 0, .invokeinterface 28160 1, .isub, .invokeinterface 52737 2, .lstore 5, .lload 2, .invokeinterface 27649 1, .iconst 8, .lshl, .iload 4, .lload 2, .invokeinterface 28160 1, .isub, .invokeinterface 52737 2, .lstore 7, .lload 0, .bipush 0, .lcmp, .ifCond .ge 7, .lload 5, .lneg, .goto 8] := rfl
theorem b205_7 : blk 205 7 = [.lload 5, .goto 8] := rfl
theorem b205_8 : blk 205 8 = [.lload 2, .bipush 0, .lcmp, .ifCond .ge 9, .lload 7, .lneg, .goto 10] := rfl
theorem b205_9 : blk 205 9 = [.lload 7, .goto 10] := rfl
theorem b205_10 : blk 205 10 = [.ladd, .lstore 9, .lload 9, .bipush 0, .lcmp, .ifCond .ne 11, .lload 0, .lload 2, .land, .bipush (-9223372036854775808), .land, .lreturn] := rfl
theorem b205_11 : blk 205 11 = [.lload 9, .bipush (-9223372036854775808), .land, .lload 9, .invokeinterface 25601 1, .iload 4, .iconst 8, .isub, .invokeinterface 25857 3, .lreturn] := rfl
theorem en205 {a0 a1 : Int} : ent 205 [(1, a0), (1, a1)] = [(1, a0), (9, 0), (1, a1), (9, 0), (9, 0), (9, 0), (9, 0), (9, 0), (9, 0), (9, 0), (9, 0)] := rfl
theorem b206_0 : blk 206 0 = [.iload 2, .ifCond .gt 1, .lload 0, .lreturn] := rfl
theorem b206_1 : blk 206 1 = [.iload 2, .iconst 62, .if_icmp .le 4, .lload 0, .bipush 0, .lcmp, .ifCond .ne 2, .bipush 0, .goto 3] := rfl
theorem b206_2 : blk 206 2 = [.bipush 1, .goto 3] := rfl
theorem b206_3 : blk 206 3 = [.lreturn] := rfl
theorem b206_4 : blk 206 4 = [.lload 0, .iload 2, .lushr, .lload 0, .bipush 1, .iload 2, .lshl, .bipush 1, .lsub, .land, .bipush 0, .lcmp, .ifCond .ne 5, .iconst 0, .goto 6] := rfl
theorem b206_5 : blk 206 5 = [.iconst 1, .goto 6] := rfl
theorem b206_6 : blk 206 6 = [.i2l, .lor, .lreturn] := rfl
theorem en206 {a0 a1 : Int} : ent 206 [(1, a0), (0, a1)] = [(1, a0), (9, 0), (0, a1)] := rfl
theorem b207_0 : blk 207 0 = [.lload 0, .invokeinterface 26880 1, .ifCond .eq 1, .bipush 9221120237041090560, .goto 2] := rfl
theorem b207_1 : blk 207 1 = [.lload 0, .bipush (-9223372036854775808), .lxor, .goto 2] := rfl
theorem b207_2 : blk 207 2 = [.lreturn] := rfl
theorem en207 {a0 : Int} : ent 207 [(1, a0)] = [(1, a0), (9, 0)] := rfl
theorem b208_0 : blk 208 0 = [.lload 0, .invokeinterface 26880 1, .ifCond .ne 1, .lload 2, .invokeinterface 26880 1, .ifCond .eq 2, .goto 1] := rfl
theorem b208_1 : blk 208 1 = [.bipush 9221120237041090560, .lreturn] := rfl
theorem b208_2 : blk 208 2 = [.lload 0, .lload 2, .lxor, .bipush (-9223372036854775808), .land, .lstore 4, .lload 0, .invokeinterface 27136 1, .ifCond .ne 3, .lload 2, .invokeinterface 27136 1, .ifCond .eq 7, .goto 3] := rfl
theorem b208_3 : blk 208 3 = [.lload 0, .invokeinterface 27392 1, .ifCond .ne 4, .lload 2, .invokeinterface 27392 1, .ifCond .eq 5, .goto 4] := rfl
theorem b208_4 : blk 208 4 = [.bipush 9221120237041090560, .goto 6] := rfl
theorem b208_5 : blk 208 5 = [.lload 4, .bipush 9218868437227405312, .lor, .goto 6] := rfl
theorem b208_6 : blk 208 6 = [.lreturn] := rfl
theorem b208_7 : blk 208 7 = [.lload 0, .invokeinterface 27392 1, .ifCond .ne 8, .lload 2, .invokeinterface 27392 1, .ifCond .eq 9, .goto 8] := rfl
theorem b208_8 : blk 208 8 = [.lload 4, .lreturn] := rfl
theorem b208_9 : blk 208 9 = [.lload 0, .invokeinterface 27649 1, .lload 0, .invokeinterface 27904 1, .lshl, .lstore 6, .lload 2, .invokeinterface 27649 1, .lload 2, .invokeinterface 27904 1, .lshl, .lstore 8, .lload 6, .bipush 134217727, .land, .lload 8, .bipush 134217727, .land, .lmul, .lstore 10, .lload 6, .iconst 27, .lshr, .lload 8, .bipush 134217727, .land, .lmul, .lload 6, .bipush 134217727, .land, .lload 8, .iconst 27, .lshr, .lmul, .ladd, .lload 10, .iconst 27, .lshr, .ladd, .lstore 12, .lload 6, .iconst 27, .lshr, .lload 8, .iconst 27, .lshr, .lmul, .iconst 10, .lshl, .lload 12, .iconst 17, .lshr, .ladd, .lstore 14, .lload 12, .bipush 131071, .land, .bipush 0, .lcmp, .ifCond .ne 10, .lload 10, .bipush 134217727, .land, .bipush 0, .lcmp, .ifCond .eq 11, .goto 10] := rfl
theorem b208_10 : blk 208 10 = [.iconst 1, .goto 12] := rfl
theorem b208_11 : blk 208 11 = [.iconst 0, .goto 12] := rfl
theorem b208_12 : blk 208 12 = [.istore 16, .lload 4, .lload 14, .iload 16, .ifCond .eq 13, .iconst 1, .goto 14] := rfl
theorem b208_13 : blk 208 13 = [.iconst 0, .goto 14] := rfl
theorem b208_14 : blk 208 14 = [.i2l, .lor, .lload 0, .invokeinterface 28160 1, .lload 0, .invokeinterface 27904 1, .isub, .lload 2, .invokeinterface 28160 1, .iadd, .lload 2, .invokeinterface 27904 1, .isub, .iconst 44, .iadd, .invokeinterface 25857 3, .lreturn] := rfl
theorem en208 {a0 a1 : Int} : ent 208 [(1, a0), (1, a1)] = [(1, a0), (9, 0), (1, a1), (9, 0), (9, 0), (9, 0), (9, 0), (9, 0), (9, 0), (9, 0), (9, 0), (9, 0), (9, 0), (9, 0), (9, 0), (9, 0), (9, 0)] := rfl
theorem b209_0 : blk 209 0 = [.lload 0, .invokeinterface 26880 1, .ifCond .ne 1, .lload 2, .invokeinterface 26880 1, .ifCond .ne 1, .lload 0, .invokeinterface 27136 1, .ifCond .ne 1, .lload 2, .invokeinterface 27392 1, .ifCond .eq 2, .goto 1] := rfl
theorem b209_1 : blk 209 1 = [.bipush 9221120237041090560, .lreturn] := rfl
theorem b209_2 : blk 209 2 = [.lload 2, .invokeinterface 27136 1, .ifCond .ne 3, .lload 0, .invokeinterface 27392 1, .ifCond .eq 4, .goto 3] := rfl
theorem b209_3 : blk 209 3 = [.lload 0, .lreturn] := rfl
theorem b209_4 : blk 209 4 = [.lload 0, .invokeinterface 28160 1, .lload 0, .invokeinterface 27904 1, .isub, .lload 2, .invokeinterface 28160 1, .isub, .lload 2, .invokeinterface 27904 1, .iadd, .istore 4, .lload 2, .invokeinterface 27649 1, .lload 2, .invokeinterface 27904 1, .lshl, .lstore 5, .lload 0, .invokeinterface 27649 1, .lload 0, .invokeinterface 27904 1, .lshl, .lstore 7, .iload 4, .ifCond .lt 5, .lload 5, .bipush 0, .lcmp, .ifCond .gt 6, .goto 5] := rfl
theorem b209_5 : blk 209 5 = [.lload 0, .lreturn] := rfl
theorem b209_6 : blk 209 6 = [.lload 7, .lload 5, .lrem, .lstore 7, .iload 4, .istore 9, .goto 7] := rfl
theorem b209_7 : blk 209 7 = [.iload 9, .ifCond .le 8, .lload 7, .iload 9, .iconst 10, .invokeinterface 10496 2, .lshl, .lload 5, .lrem, .lstore 7, .iinc 9 (-10), .goto 7] := rfl
theorem b209_8 : blk 209 8 = [.lload 0, .bipush (-9223372036854775808), .land, .lload 7, .lload 2, .invokeinterface 28160 1, .lload 2, .invokeinterface 27904 1, .isub, .invokeinterface 25857 3, .lreturn] := rfl
theorem en209 {a0 a1 : Int} : ent 209 [(1, a0), (1, a1)] = [(1, a0), (9, 0), (1, a1), (9, 0), (9, 0), (9, 0), (9, 0), (9, 0), (9, 0), (9, 0)] := rfl
theorem b210_0 : blk 210 0 = [.aload 0, .invokeinterface 51248 1, .ifCond .eq 1, .return_] := rfl
theorem b210_1 : blk 210 1 = [.aload 0, .ifnonnull 5139, .iconst 1, .invokeinterface 47929 2, .lstore 2, .aload 0, .ifnonnull 5139, .iconst 0, .invokeinterface 47929 2, .lstore 4, .aload 0, .invokeinterface 51504 1, .ifCond .eq 5, .iload 1, .ifCond .ne 2, .aload 0, .iconst 1, .invokeinterface 50737 2, .aload 0, .iconst 0, .invokeinterface 50737 2, .invokeinterface 54016 2, .goto 4] := rfl
theorem b210_2 : blk 210 2 = [.iload 1, .iconst 1, .if_icmp .ne 3, .aload 0, .iconst 0, .invokeinterface 50737 2, .aload 0, .iconst 1, .invokeinterface 50737 2, .invokeinterface 54016 2, .goto 4] := rfl
theorem b210_3 : blk 210 3 = [.aload 0, .iconst 1, .invokeinterface 50737 2, .aload 0, .iconst 0, .invokeinterface 50737 2, .invokeinterface 54528 2, .goto 4] := rfl
theorem b210_4 : blk 210 4 = [.istore 6, .goto 12] := rfl
theorem b210_5 : blk 210 5 = [.iload 1, .ifCond .ne 7, .lload 2, .lload 4, .lcmp, .ifCond .ge 6, .iconst 1, .goto 11] := rfl
theorem b210_6 : blk 210 6 = [.iconst 0, .goto 11] := rfl
theorem b210_7 : blk 210 7 = [.iload 1, .iconst 1, .if_icmp .ne 9, .lload 2, .lload 4, .lcmp, .ifCond .le 8, .iconst 1, .goto 11] := rfl
theorem b210_8 : blk 210 8 = [.iconst 0, .goto 11] := rfl
theorem b210_9 : blk 210 9 = [.lload 2, .lload 4, .lcmp, .ifCond .ne 10, .iconst 1, .goto 11] := rfl
theorem b210_10 : blk 210 10 = [.iconst 0, .goto 11] := rfl
theorem b210_11 : blk 210 11 = [.istore 6, .goto 12] := rfl
theorem b210_12 : blk 210 12 = [.aload 0, .ifnonnull 5139, .iconst 2, .iconst 1, .iload 6, .ifCond .eq 13, .bipush 1, .goto 14] := rfl
theorem b210_13 : blk 210 13 = [.bipush 0, .goto 14] := rfl
theorem b210_14 : blk 210 14 = [.invokeinterface 52284 4, .return_] := rfl
theorem en210 {a0 a1 : Int} : ent 210 [(3, a0), (0, a1)] = [(3, a0), (0, a1), (9, 0), (9, 0), (9, 0), (9, 0), (9, 0)] := rfl
theorem b211_0 : blk 211 0 = [.lload 0, .invokeinterface 26880 1, .ifCond .ne 1, .lload 2, .invokeinterface 26880 1, .ifCond .ne 1, .lload 0, .invokeinterface 54273 1, .lload 2, .invokeinterface 54273 1, .lcmp, .ifCond .ge 1, .iconst 1, .goto 2] := rfl
theorem b211_1 : blk 211 1 = [.iconst 0, .goto 2] := rfl
theorem b211_2 : blk 211 2 = [.freturn] := rfl
theorem en211 {a0 a1 : Int} : ent 211 [(1, a0), (1, a1)] = [(1, a0), (9, 0), (1, a1), (9, 0)] := rfl
theorem b212_0 : blk 212 0 = [.lload 0, .bipush 0, .lcmp, .ifCond .ge 1, .bipush (-9223372036854775808), .lload 0, .lsub, .goto 2] := rfl
theorem b212_1 : blk 212 1 = [.lload 0, .goto 2] := rfl
theorem b212_2 : blk 212 2 = [.lreturn] := rfl
theorem en212 {a0 : Int} : ent 212 [(1, a0)] = [(1, a0), (9, 0)] := rfl
theorem b213_0 : blk 213 0 = [.lload 0, .invokeinterface 26880 1, .ifCond .ne 1, .lload 2, .invokeinterface 26880 1, .ifCond .ne 1, .lload 0, .invokeinterface 54273 1, .lload 2, .invokeinterface 54273 1, .lcmp, .ifCond .ne 1, .iconst 1, .goto 2] := rfl
theorem b213_1 : blk 213 1 = [.iconst 0, .goto 2] := rfl
theorem b213_2 : blk 213 2 = [.freturn] := rfl
theorem en213 {a0 a1 : Int} : ent 213 [(1, a0), (1, a1)] = [(1, a0), (9, 0), (1, a1), (9, 0)] := rfl
theorem b214_0 : blk 214 0 = [.aload 0, .aload 0, .iconst 0, .invokeinterface 49712 2, .invokeinterface 48944 2, .ifCond .eq 1, .return_] := rfl
theorem b214_1 : blk 214 1 = [.aload 0, .ifnonnull 5139, .iconst 0, .invokeinterface 47672 2, .iconst 2, .if_icmp .ne 2, .aload 0, .ifnonnull 5139, .iconst 1, .iconst 2, .aload 0, .ifnonnull 5139, .iconst 0, .invokeinterface 47929 2, .invokeinterface 52993 1, .invokeinterface 52284 4, .goto 3] := rfl
theorem b214_2 : blk 214 2 = [.aload 0, .iconst 1, .aload 0, .ifnonnull 5139, .iconst 0, .invokeinterface 47929 2, .lneg, .invokeinterface 52020 3, .goto 3] := rfl
theorem b214_3 : blk 214 3 = [.return_] := rfl
theorem en214 {a0 : Int} : ent 214 [(3, a0)] = [(3, a0)] := rfl
theorem b215_0 : blk 215 0 = [.aload 0, .aload 0, .iconst 0, .invokeinterface 48688 2, .invokeinterface 48944 2, .ifCond .ne 1, .aload 0, .aload 0, .ifnonnull 5139, .iconst 1, .invokeinterface 47672 2, .invokeinterface 49408 1, .invokeinterface 48944 2, .ifCond .eq 2, .goto 1] := rfl
theorem b215_1 : blk 215 1 = [.return_] := rfl
theorem b215_2 : blk 215 2 = [.aload 0, .aload 0, .aload 0, .ifnonnull 5139, .iconst 1, .invokeinterface 47929 2, .aload 0, .ifnonnull 5139, .iconst 0, .invokeinterface 47929 2, .invokeinterface 49968 3, .invokeinterface 48944 2, .ifCond .eq 3, .return_] := rfl
theorem b215_3 : blk 215 3 = [.aload 0, .ifnonnull 5139, .iconst 1, .invokeinterface 47672 2, .iconst 4, .isub, .istore 1, .aload 0, .ifnonnull 5131, .aload 0, .ifnonnull 5139, .iconst 1, .invokeinterface 47929 2, .l2i, .aload 0, .ifnonnull 5139, .iconst 0, .invokeinterface 47929 2, .l2i, .invokeinterface 42273 3, .lstore 2, .iload 1, .ifCond .ne 4, .iconst 1, .goto 7] := rfl
theorem b215_4 : blk 215 4 = [.iload 1, .iconst 1, .if_icmp .ne 5, .iconst 2, .goto 7] := rfl
theorem b215_5 : blk 215 5 = [.lload 2, .bipush (-9), .lcmp, .ifCond .ne 6, .iconst 0, .goto 7] := rfl
theorem b215_6 : blk 215 6 = [.iconst 3, .goto 7] := rfl
theorem b215_7 : blk 215 7 = [.istore 4, .aload 0, .ifnonnull 5139, .iconst 2, .iload 4, .lload 2, .invokeinterface 52284 4, .return_] := rfl
theorem en215 {a0 : Int} : ent 215 [(3, a0)] = [(3, a0), (9, 0), (9, 0), (9, 0), (9, 0)] := rfl
theorem b216_0 : blk 216 0 = [.aload 0, .aload 0, .iconst 0, .invokeinterface 48688 2, .invokeinterface 48944 2, .ifCond .eq 1, .return_] := rfl
theorem b216_1 : blk 216 1 = [.aload 0, .ifnonnull 5139, .iconst 0, .invokeinterface 47929 2, .lstore 2, .lload 2, .bipush 0, .lcmp, .ifCond .lt 2, .lload 2, .bipush 64, .lcmp, .ifCond .le 3, .goto 2] := rfl
theorem b216_2 : blk 216 2 = [.aload 0, .iconst 5, .invokeinterface 49204 2, .return_] := rfl
theorem b216_3 : blk 216 3 = [.aload 0, .ifnonnull 5131, .lload 2, .l2i, .iload 1, .iconst 2, .if_icmp .lt 4, .bipush (-9), .goto 5] := rfl
theorem b216_4 : blk 216 4 = [.bipush 0, .goto 5] := rfl
theorem b216_5 : blk 216 5 = [.invokeinterface 40224 3, .istore 4, .iload 4, .ifCond .ge 6, .aload 0, .iconst (-22), .bipush 0, .invokeinterface 45876 3, .goto 7] := rfl
theorem b216_6 : blk 216 6 = [.aload 0, .ifnonnull 5139, .iconst 1, .iconst 4, .iload 1, .iadd, .iload 4, .i2l, .invokeinterface 52284 4, .goto 7] := rfl
theorem b216_7 : blk 216 7 = [.return_] := rfl
theorem en216 {a0 a1 : Int} : ent 216 [(3, a0), (0, a1)] = [(3, a0), (0, a1), (9, 0), (9, 0), (9, 0)] := rfl
theorem b217_0 : blk 217 0 = [.aload 0, .invokeinterface 45104 1, .istore 1, .aload 0, .invokeinterface 45104 1, .istore 2, .aload 0, .invokeinterface 45616 1, .ifCond .ne 1, .return_] := rfl
theorem b217_1 : blk 217 1 = [.aload 0, .ifnull 5160, .iconst 1, .iadd, .iconst 8, .if_icmp .lt 2, .aload 0, .iconst (-21), .bipush 0, .invokeinterface 45876 3, .goto 3] := rfl
theorem b217_2 : blk 217 2 = [.aload 0, .iload 1, .iload 2, .invokeinterface 44340 3, .goto 3] := rfl
theorem b217_3 : blk 217 3 = [.return_] := rfl
theorem en217 {a0 : Int} : ent 217 [(3, a0)] = [(3, a0), (9, 0), (9, 0)] := rfl
theorem b218_0 : blk 218 0 = [.aload 0, .ifnull 5184, .ifCond .le 3, .aload 0, .ifnonnull 5211, .aload 0, .ifnull 5184, .iconst 1, .isub, .iaload, .aload 0, .ifnull 5160, .if_icmp .ne 3, .aload 0, .ifnull 5184, .iconst 1, .isub, .istore 4, .aload 0, .ifnonnull 5203, .iload 4, .iaload, .iconst 2, .if_icmp .ne 1, .goto 2] := rfl
theorem b218_1 : blk 218 1 = [.aload 0, .ifnonnull 5139, .aload 0, .ifnonnull 5219, .iload 4, .iaload, .invokeinterface 43836 2, .aload 0, .iload 4, .iconst 8, .iload 1, .iadd, .lload 2, .invokeinterface 56116 4, .return_] := rfl
theorem b218_2 : blk 218 2 = [.aload 0, .dup, .ifnull 5184, .iconst 1, .isub, .jsr_w 5184, .goto 0] := rfl
theorem b218_3 : blk 218 3 = [.aload 0, .ifnull 5160, .ifCond .gt 4, .aload 0, .iload 1, .lload 2, .invokeinterface 45876 3, .return_] := rfl
theorem b218_4 : blk 218 4 = [.aload 0, .ifnonnull 5139, .aload 0, .ifnonnull 5171, .aload 0, .ifnull 5160, .iaload, .invokeinterface 43836 2, .aload 0, .ifnonnull 5139, .iload 1, .lload 2, .invokeinterface 44092 3, .aload 0, .aload 0, .ifnonnull 5179, .aload 0, .ifnull 5160, .iaload, .jsr_w 5152, .aload 0, .dup, .ifnull 5160, .iconst 1, .isub, .jsr_w 5160, .return_] := rfl
theorem en218 {a0 a1 a2 : Int} : ent 218 [(3, a0), (0, a1), (1, a2)] = [(3, a0), (0, a1), (1, a2), (9, 0), (9, 0)] := rfl
theorem b219_0 : blk 219 0 = [.aload 0, .ifnonnull 5195, .iload 1, .iaload, .istore 5, .iconst 0, .istore 6, .goto 1] := rfl
theorem b219_1 : blk 219 1 = [.iload 6, .iconst 7, .if_icmp .ge 2, .aload 0, .ifnull 5147, .iload 5, .invokeinterface 33112 2, .iconst 22, .if_icmp .ne 2, .aload 0, .ifnull 5147, .iload 5, .iconst 2, .iadd, .invokeinterface 33112 2, .istore 5, .iinc 6 1, .goto 1] := rfl
theorem b219_2 : blk 219 2 = [.aload 0, .ifnonnull 5203, .iload 1, .iconst 2, .iastore, .aload 0, .ifnonnull 5227, .iload 1, .iload 2, .iastore, .aload 0, .ifnonnull 5235, .iload 1, .lload 3, .lastore, .aload 0, .iload 5, .jsr_w 5152, .return_] := rfl
theorem en219 {a0 a1 a2 a3 : Int} : ent 219 [(3, a0), (0, a1), (0, a2), (1, a3)] = [(3, a0), (0, a1), (0, a2), (1, a3), (9, 0), (9, 0), (9, 0)] := rfl
theorem b220_0 : blk 220 0 = [.aload 0, .aload 0, .iconst 0, .invokeinterface 48688 2, .invokeinterface 48944 2, .ifCond .eq 1, .return_] := rfl
theorem b220_1 : blk 220 1 = [.aload 0, .ifnonnull 5139, .iconst 0, .invokeinterface 47929 2, .bipush 0, .lcmp, .ifCond .ne 2, .aload 0, .iload 1, .jsr_w 5152, .goto 2] := rfl
theorem b220_2 : blk 220 2 = [.aload 0, .ifnonnull 5139, .aload 0, .ifnonnull 5139, .invokeinterface 44600 1, .iconst 1, .isub, .invokeinterface 43836 2, .return_] := rfl
theorem en220 {a0 a1 : Int} : ent 220 [(3, a0), (0, a1)] = [(3, a0), (0, a1)] := rfl
theorem b221_0 : blk 221 0 = [.aload 0, .aload 0, .iconst 0, .invokeinterface 48688 2, .invokeinterface 48944 2, .ifCond .ne 1, .aload 0, .ifnonnull 5139, .iconst 1, .bipush 0, .invokeinterface 44092 3, .goto 1] := rfl
theorem b221_1 : blk 221 1 = [.return_] := rfl
theorem en221 {a0 : Int} : ent 221 [(3, a0)] = [(3, a0)] := rfl
theorem b222_0 : blk 222 0 = [.aload 0, .invokeinterface 45104 1, .istore 1, .aload 0, .invokeinterface 45104 1, .istore 2, .aload 0, .ifnonnull 5139, .iconst 0, .invokeinterface 47929 2, .lstore 3, .lload 3, .aload 0, .ifnonnull 5139, .iconst 1, .invokeinterface 47929 2, .lcmp, .ifCond .lt 1, .aload 0, .ifnonnull 5139, .aload 0, .ifnonnull 5139, .invokeinterface 44600 1, .iconst 2, .isub, .invokeinterface 43836 2, .aload 0, .iload 2, .jsr_w 5152, .goto 2] := rfl
theorem b222_1 : blk 222 1 = [.aload 0, .invokeinterface 45616 1, .ifCond .eq 2, .aload 0, .ifnonnull 5139, .aload 0, .iload 1, .invokeinterface 46640 2, .iconst 1, .lload 3, .invokeinterface 48188 4, .aload 0, .ifnonnull 5139, .iconst 1, .iconst 1, .lload 3, .bipush 1, .ladd, .invokeinterface 52284 4, .goto 2] := rfl
theorem b222_2 : blk 222 2 = [.return_] := rfl
theorem en222 {a0 : Int} : ent 222 [(3, a0)] = [(3, a0), (9, 0), (9, 0), (9, 0), (9, 0)] := rfl
theorem b223_0 : blk 223 0 = [.aload 0, .aload 0, .iconst 3, .invokeinterface 48688 2, .invokeinterface 48944 2, .ifCond .ne 1, .aload 0, .aload 0, .iconst 1, .invokeinterface 48688 2, .invokeinterface 48944 2, .ifCond .ne 1, .aload 0, .aload 0, .iconst 0, .invokeinterface 48688 2, .invokeinterface 48944 2, .ifCond .ne 1, .aload 0, .aload 0, .invokeinterface 57392 1, .invokeinterface 48944 2, .ifCond .eq 2, .goto 1] := rfl
theorem b223_1 : blk 223 1 = [.return_] := rfl
theorem b223_2 : blk 223 2 = [.aload 0, .ifnonnull 5139, .iconst 4, .invokeinterface 47929 2, .l2i, .istore 1, .aload 0, .ifnonnull 5139, .iconst 2, .invokeinterface 47929 2, .l2i, .istore 2, .aload 0, .ifnonnull 5139, .iconst 3, .invokeinterface 47929 2, .l2i, .istore 3, .aload 0, .ifnonnull 5139, .iconst 1, .invokeinterface 47929 2, .l2i, .istore 4, .aload 0, .ifnonnull 5139, .iconst 0, .invokeinterface 47929 2, .l2i, .istore 5, .aload 0, .ifnonnull 5139, .iconst 2, .invokeinterface 47672 2, .iconst 7, .if_icmp .ne 3, .aload 0, .ifnonnull 5139, .iconst 4, .invokeinterface 47672 2, .iconst 7, .if_icmp .eq 3, .iconst 1, .goto 4] := rfl
theorem b223_3 : blk 223 3 = [.iconst 0, .goto 4] := rfl
theorem b223_4 : blk 223 4 = [.istore 6, .iload 1, .iload 2, .if_icmp .ne 5, .iload 3, .iload 4, .if_icmp .ge 5, .iconst 1, .goto 6] := rfl
theorem b223_5 : blk 223 5 = [.iconst 0, .goto 6] := rfl
theorem b223_6 : blk 223 6 = [.istore 7, .iconst 0, .istore 8, .goto 7] := rfl
theorem b223_7 : blk 223 7 = [.iload 8, .iload 5, .if_icmp .ge 11, .iload 7, .ifCond .eq 8, .iload 5, .iconst 1, .isub, .iload 8, .isub, .goto 9] := rfl
theorem b223_8 : blk 223 8 = [.iload 8, .goto 9] := rfl
theorem b223_9 : blk 223 9 = [.istore 9, .aload 0, .ifnonnull 5131, .iload 1, .iload 3, .iload 9, .iadd, .invokeinterface 42273 3, .lstore 10, .iload 6, .ifCond .eq 10, .lload 10, .bipush (-9), .lcmp, .ifCond .eq 10, .aload 0, .ifnonnull 5123, .lload 10, .l2i, .invokeinterface 50472 2, .ifCond .ne 10, .aload 0, .iconst 6, .invokeinterface 49204 2, .return_] := rfl
theorem b223_10 : blk 223 10 = [.aload 0, .ifnonnull 5131, .iload 2, .iload 4, .iload 9, .iadd, .lload 10, .invokeinterface 42532 4, .iinc 8 1, .goto 7] := rfl
theorem b223_11 : blk 223 11 = [.aload 0, .ifnonnull 5139, .aload 0, .ifnonnull 5139, .invokeinterface 44600 1, .iconst 5, .isub, .invokeinterface 43836 2, .return_] := rfl
theorem en223 {a0 : Int} : ent 223 [(3, a0)] = [(3, a0), (9, 0), (9, 0), (9, 0), (9, 0), (9, 0), (9, 0), (9, 0), (9, 0), (9, 0), (9, 0), (9, 0)] := rfl
theorem b224_0 : blk 224 0 = [.aload 0, .ifnonnull 5139, .iconst 4, .invokeinterface 47672 2, .istore 1, .aload 0, .ifnonnull 5139, .iconst 2, .invokeinterface 47672 2, .istore 2, .iload 1, .ifCond .eq 1, .iload 2, .ifCond .ne 2, .goto 1] := rfl
theorem b224_1 : blk 224 1 = [.iconst 3, .ireturn] := rfl
theorem b224_2 : blk 224 2 = [.iload 1, .iconst 4, .if_icmp .lt 3, .iload 2, .iconst 4, .if_icmp .lt 3, .iload 1, .iconst 6, .invokeinterface 10496 2, .iload 2, .iconst 6, .invokeinterface 10496 2, .if_icmp .eq 4, .goto 3] := rfl
theorem b224_3 : blk 224 3 = [.iconst 6, .ireturn] := rfl
theorem b224_4 : blk 224 4 = [.aload 0, .ifnonnull 5139, .iconst 3, .invokeinterface 47929 2, .lstore 3, .aload 0, .ifnonnull 5139, .iconst 1, .invokeinterface 47929 2, .lstore 5, .aload 0, .ifnonnull 5139, .iconst 0, .invokeinterface 47929 2, .lstore 7, .lload 3, .bipush 0, .lcmp, .ifCond .lt 5, .lload 5, .bipush 0, .lcmp, .ifCond .lt 5, .lload 7, .bipush 0, .lcmp, .ifCond .lt 5, .lload 3, .lload 7, .ladd, .aload 0, .ifnonnull 5131, .aload 0, .ifnonnull 5139, .iconst 4, .invokeinterface 47929 2, .l2i, .invokeinterface 42016 2, .i2l, .lcmp, .ifCond .gt 5, .lload 5, .lload 7, .ladd, .aload 0, .ifnonnull 5131, .aload 0, .ifnonnull 5139, .iconst 2, .invokeinterface 47929 2, .l2i, .invokeinterface 42016 2, .i2l, .lcmp, .ifCond .gt 5, .iconst 1, .goto 6] := rfl
theorem b224_5 : blk 224 5 = [.iconst 0, .goto 6] := rfl
theorem b224_6 : blk 224 6 = [.istore 9, .iload 9, .ifCond .eq 7, .iconst 0, .goto 8] := rfl
theorem b224_7 : blk 224 7 = [.iconst 2, .goto 8] := rfl
theorem b224_8 : blk 224 8 = [.ireturn] := rfl
theorem en224 {a0 : Int} : ent 224 [(3, a0)] = [(3, a0), (9, 0), (9, 0), (9, 0), (9, 0), (9, 0), (9, 0), (9, 0), (9, 0), (9, 0)] := rfl
theorem b225_0 : blk 225 0 = [.aload 0, .ifnull 5184, .iconst 96, .if_icmp .lt 1, .return_] := rfl
theorem b225_1 : blk 225 1 = [.aload 0, .ifnonnull 5195, .aload 0, .ifnull 5184, .iload 1, .iastore, .aload 0, .ifnonnull 5203, .aload 0, .ifnull 5184, .iconst 0, .iastore, .aload 0, .ifnonnull 5211, .aload 0, .ifnull 5184, .aload 0, .ifnull 5160, .iastore, .aload 0, .ifnonnull 5219, .aload 0, .ifnull 5184, .aload 0, .ifnonnull 5139, .invokeinterface 44600 1, .iastore, .aload 0, .dup, .ifnull 5184, .iconst 1, .iadd, .jsr_w 5184, .return_] := rfl
theorem en225 {a0 a1 : Int} : ent 225 [(3, a0), (0, a1)] = [(3, a0), (0, a1)] := rfl
theorem b226_0 : blk 226 0 = [.aload 0, .ifnull 5184, .ifCond .le 1, .aload 0, .aload 0, .ifnull 5184, .iconst 1, .isub, .iconst 0, .bipush 0, .invokeinterface 56116 4, .goto 1] := rfl
theorem b226_1 : blk 226 1 = [.return_] := rfl
theorem en226 {a0 : Int} : ent 226 [(3, a0)] = [(3, a0)] := rfl
theorem b227_0 : blk 227 0 = [.aload 0, .ifnull 5184, .ifCond .gt 1, .return_] := rfl
theorem b227_1 : blk 227 1 = [.aload 0, .dup, .ifnull 5184, .iconst 1, .isub, .jsr_w 5184, .aload 0, .ifnonnull 5227, .aload 0, .ifnull 5184, .iaload, .istore 1, .iload 1, .iconst 8, .if_icmp .lt 2, .aload 0, .iload 1, .iconst 8, .isub, .aload 0, .ifnonnull 5235, .aload 0, .ifnull 5184, .laload, .invokeinterface 55860 3, .goto 3] := rfl
theorem b227_2 : blk 227 2 = [.aload 0, .iload 1, .jsr_w 5264, .goto 3] := rfl
theorem b227_3 : blk 227 3 = [.return_] := rfl
theorem en227 {a0 : Int} : ent 227 [(3, a0)] = [(3, a0), (9, 0)] := rfl
theorem b228_0 : blk 228 0 = [.aload 0, .aload 0, .ifnonnull 5139, .iconst 0, .invokeinterface 47672 2, .invokeinterface 49408 1, .invokeinterface 48944 2, .ifCond .eq 1, .return_] := rfl
theorem b228_1 : blk 228 1 = [.aload 0, .ifnonnull 5139, .iconst 1, .iconst 1, .aload 0, .ifnonnull 5131, .aload 0, .ifnonnull 5139, .iconst 0, .invokeinterface 47929 2, .l2i, .invokeinterface 42016 2, .i2l, .invokeinterface 52284 4, .return_] := rfl
theorem en228 {a0 : Int} : ent 228 [(3, a0)] = [(3, a0)] := rfl
theorem b229_0 : blk 229 0 = [.aload 0, .aload 0, .iconst 0, .invokeinterface 49712 2, .invokeinterface 48944 2, .ifCond .eq 1, .return_] := rfl
theorem b229_1 : blk 229 1 = [.aload 0, .ifnonnull 5139, .iconst 0, .invokeinterface 47672 2, .iconst 2, .if_icmp .ne 2, .aload 0, .ifnonnull 5139, .iconst 1, .iconst 1, .aload 0, .ifnonnull 5139, .iconst 0, .invokeinterface 47929 2, .invokeinterface 58880 1, .i2l, .invokeinterface 52284 4, .goto 2] := rfl
theorem b229_2 : blk 229 2 = [.return_] := rfl
theorem en229 {a0 : Int} : ent 229 [(3, a0)] = [(3, a0)] := rfl
theorem b230_0 : blk 230 0 = [.lload 0, .invokeinterface 26880 1, .ifCond .eq 1, .iconst 0, .ireturn] := rfl
theorem b230_1 : blk 230 1 = [.lload 0, .invokeinterface 28160 1, .istore 2, .iload 2, .ifCond .lt 2, .bipush 9223372036854775807, .goto 4] := rfl
theorem b230_2 : blk 230 2 = [.iload 2, .iconst (-63), .if_icmp .ge 3, .bipush 0, .goto 4] := rfl
theorem b230_3 : blk 230 3 = [.lload 0, .invokeinterface 27649 1, .iload 2, .ineg, .lushr, .goto 4] := rfl
theorem b230_4 : blk 230 4 = [.lstore 3, .lload 0, .bipush 0, .lcmp, .ifCond .ge 5, .lload 3, .lneg, .bipush (-2147483648), .invokeinterface 59137 2, .goto 6] := rfl
theorem b230_5 : blk 230 5 = [.lload 3, .bipush 2147483647, .invokeinterface 26369 2, .goto 6] := rfl
theorem b230_6 : blk 230 6 = [.l2i, .ireturn] := rfl
theorem en230 {a0 : Int} : ent 230 [(1, a0)] = [(1, a0), (9, 0), (9, 0), (9, 0), (9, 0)] := rfl
theorem b231_0 : blk 231 0 = [.lload 0, .lload 2, .lcmp, .ifCond .lt 1, .lload 0, .goto 2] := rfl
theorem b231_1 : blk 231 1 = [.lload 2, .goto 2] := rfl
theorem b231_2 : blk 231 2 = [.lreturn] := rfl
theorem en231 {a0 a1 : Int} : ent 231 [(1, a0), (1, a1)] = [(1, a0), (9, 0), (1, a1), (9, 0)] := rfl
theorem b232_0 : blk 232 0 = [.aload 0, .aload 0, .iconst 0, .invokeinterface 49712 2, .invokeinterface 48944 2, .ifCond .eq 1, .return_] := rfl
theorem b232_1 : blk 232 1 = [.aload 0, .ifnonnull 5139, .iconst 1, .iconst 2, .aload 0, .iconst 0, .invokeinterface 50737 2, .invokeinterface 52284 4, .return_] := rfl
theorem en232 {a0 : Int} : ent 232 [(3, a0)] = [(3, a0)] := rfl
theorem b233_0 : blk 233 0 = [.aload 0, .aload 0, .iconst 0, .invokeinterface 48688 2, .invokeinterface 48944 2, .ifCond .eq 1, .return_] := rfl
theorem b233_1 : blk 233 1 = [.aload 0, .ifnonnull 5123, .aload 0, .ifnonnull 5139, .iconst 0, .invokeinterface 47929 2, .invokeinterface 36904 2, .ifCond .eq 2, .aload 0, .ifnonnull 5139, .iconst 1, .iconst 3, .aload 0, .ifnonnull 5139, .iconst 0, .invokeinterface 47929 2, .invokeinterface 52284 4, .goto 3] := rfl
theorem b233_2 : blk 233 2 = [.aload 0, .iconst 2, .invokeinterface 49204 2, .goto 3] := rfl
theorem b233_3 : blk 233 3 = [.return_] := rfl
theorem en233 {a0 : Int} : ent 233 [(3, a0)] = [(3, a0)] := rfl
theorem b234_0 : blk 234 0 = [.aload 0, .ifnonnull 5139, .iconst 1, .invokeinterface 47672 2, .istore 1, .aload 0, .aload 0, .iconst 0, .invokeinterface 48688 2, .invokeinterface 48944 2, .ifCond .ne 4, .aload 0, .iload 1, .ifCond .ne 1, .iconst 3, .goto 3] := rfl
theorem b234_1 : blk 234 1 = [.iload 1, .iconst 3, .if_icmp .eq 2, .iconst 4, .goto 3] := rfl
theorem b234_2 : blk 234 2 = [.iconst 0, .goto 3] := rfl
theorem b234_3 : blk 234 3 = [.invokeinterface 48944 2, .ifCond .eq 5, .goto 4] := rfl
theorem b234_4 : blk 234 4 = [.return_] := rfl
theorem b234_5 : blk 234 5 = [.aload 0, .ifnonnull 5139, .iconst 0, .invokeinterface 47929 2, .l2i, .istore 2, .iload 2, .invokeinterface 38400 1, .ifCond .eq 6, .aload 0, .ifnonnull 5139, .iconst 2, .iconst 1, .aload 0, .ifnonnull 5123, .aload 0, .ifnonnull 5139, .iconst 1, .invokeinterface 47929 2, .l2i, .iload 2, .invokeinterface 38696 3, .i2l, .invokeinterface 52284 4, .goto 7] := rfl
theorem b234_6 : blk 234 6 = [.aload 0, .iconst 2, .invokeinterface 49204 2, .goto 7] := rfl
theorem b234_7 : blk 234 7 = [.return_] := rfl
theorem en234 {a0 : Int} : ent 234 [(3, a0)] = [(3, a0), (9, 0), (9, 0)] := rfl
theorem b235_0 : blk 235 0 = [.aload 0, .aload 0, .iconst 1, .invokeinterface 48688 2, .invokeinterface 48944 2, .ifCond .ne 1, .aload 0, .aload 0, .iconst 0, .invokeinterface 48688 2, .invokeinterface 48944 2, .ifCond .eq 2, .goto 1] := rfl
theorem b235_1 : blk 235 1 = [.return_] := rfl
theorem b235_2 : blk 235 2 = [.aload 0, .ifnonnull 5139, .iconst 1, .invokeinterface 47929 2, .l2i, .istore 1, .aload 0, .ifnonnull 5139, .iconst 0, .invokeinterface 47929 2, .l2i, .istore 2, .aload 0, .ifnonnull 5123, .iload 1, .invokeinterface 36392 2, .ifCond .eq 3, .aload 0, .ifnull 5147, .iconst 5, .iload 2, .invokeinterface 18264 3, .ifCond .ne 4, .goto 3] := rfl
theorem b235_3 : blk 235 3 = [.aload 0, .iconst 2, .invokeinterface 49204 2, .return_] := rfl
theorem b235_4 : blk 235 4 = [.aload 0, .ifnonnull 5123, .iload 1, .iload 2, .invokeinterface 41512 3, .istore 3, .aload 0, .ifnonnull 5139, .iconst 2, .iload 3, .ifCond .ge 5, .iconst 0, .goto 6] := rfl
theorem b235_5 : blk 235 5 = [.iconst 4, .goto 6] := rfl
theorem b235_6 : blk 235 6 = [.iload 3, .iconst 0, .invokeinterface 10240 2, .i2l, .invokeinterface 52284 4, .return_] := rfl
theorem en235 {a0 : Int} : ent 235 [(3, a0)] = [(3, a0), (9, 0), (9, 0), (9, 0)] := rfl
theorem b236_0 : blk 236 0 = [.aload 0, .ifnull 5264, .istore 1, .aload 0, .iconst 0, .jsr_w 5264, .goto 1] := rfl
theorem b236_1 : blk 236 1 = [.aload 0, .ifnull 5184, .ifCond .le 8, .aload 0, .ifnull 5184, .iconst 1, .isub, .istore 2, .aload 0, .ifnonnull 5203, .iload 2, .iaload, .iconst 2, .if_icmp .ne 2, .goto 7] := rfl
theorem b236_2 : blk 236 2 = [.aload 0, .aload 0, .ifnonnull 5211, .iload 2, .iaload, .jsr_w 5160, .aload 0, .ifnonnull 5139, .aload 0, .ifnonnull 5219, .iload 2, .iaload, .invokeinterface 43836 2, .aload 0, .ifnonnull 5203, .iload 2, .iaload, .ifCond .ne 3, .aload 0, .iload 1, .iload 2, .invokeinterface 60720 3, .goto 4] := rfl
theorem b236_3 : blk 236 3 = [.iconst (-1), .goto 4] := rfl
theorem b236_4 : blk 236 4 = [.istore 3, .iload 3, .ifCond .lt 5, .aload 0, .ifnonnull 5203, .iload 2, .iconst 1, .iastore, .aload 0, .iload 3, .jsr_w 5152, .goto 6] := rfl
theorem b236_5 : blk 236 5 = [.aload 0, .iload 2, .iload 1, .bipush 0, .invokeinterface 56116 4, .goto 6] := rfl
theorem b236_6 : blk 236 6 = [.return_] := rfl
theorem b236_7 : blk 236 7 = [.aload 0, .dup, .ifnull 5184, .iconst 1, .isub, .jsr_w 5184, .goto 1] := rfl
theorem b236_8 : blk 236 8 = [.aload 0, .iconst (-10), .iload 1, .isub, .bipush 0, .invokeinterface 45876 3, .return_] := rfl
theorem en236 {a0 : Int} : ent 236 [(3, a0)] = [(3, a0), (9, 0), (9, 0), (9, 0)] := rfl
theorem b237_0 : blk 237 0 = [.aload 0, .ifnonnull 5195, .iload 2, .iaload, .istore 3, .iconst 0, .istore 4, .goto 1] := rfl
theorem b237_1 : blk 237 1 = [.iload 4, .iconst 7, .if_icmp .ge 3, .aload 0, .ifnull 5147, .iload 3, .invokeinterface 33112 2, .iconst 22, .if_icmp .ne 3, .aload 0, .ifnull 5147, .iload 3, .iconst 1, .iadd, .invokeinterface 33112 2, .iload 1, .if_icmp .ne 2, .iload 3, .iconst 3, .iadd, .ireturn] := rfl
theorem b237_2 : blk 237 2 = [.aload 0, .ifnull 5147, .iload 3, .iconst 2, .iadd, .invokeinterface 33112 2, .istore 3, .iinc 4 1, .goto 1] := rfl
theorem b237_3 : blk 237 3 = [.iconst (-1), .ireturn] := rfl
theorem en237 {a0 a1 a2 : Int} : ent 237 [(3, a0), (0, a1), (0, a2)] = [(3, a0), (0, a1), (0, a2), (9, 0), (9, 0)] := rfl
theorem b238_0 : blk 238 0 = [.aload 0, .ifnull 5281, .lreturn] := rfl
theorem en238 {a0 : Int} : ent 238 [(3, a0)] = [(3, a0)] := rfl
theorem b239_0 : blk 239 0 = [.aload 0, .ifnull 5256, .ireturn] := rfl
theorem en239 {a0 : Int} : ent 239 [(3, a0)] = [(3, a0)] := rfl
theorem b240_0 : blk 240 0 = [.iload 1, .iconst (-1), .if_icmp .ne 3, .aload 0, .ifnull 80, .iconst 1, .if_icmp .ne 1, .aload 0, .ifnull 89, .goto 2] := rfl
theorem b240_1 : blk 240 1 = [.bipush 0, .goto 2] := rfl
theorem b240_2 : blk 240 2 = [.lreturn] := rfl
theorem b240_3 : blk 240 3 = [.iload 1, .iconst (-2), .if_icmp .ne 6, .aload 0, .ifnull 80, .iconst 2, .if_icmp .ne 4, .aload 0, .ifnull 89, .goto 5] := rfl
theorem b240_4 : blk 240 4 = [.bipush 0, .goto 5] := rfl
theorem b240_5 : blk 240 5 = [.lreturn] := rfl
theorem b240_6 : blk 240 6 = [.iload 1, .iconst (-3), .if_icmp .ne 9, .aload 0, .ifnull 80, .iconst 3, .if_icmp .ne 7, .aload 0, .ifnull 89, .goto 8] := rfl
theorem b240_7 : blk 240 7 = [.bipush 0, .goto 8] := rfl
theorem b240_8 : blk 240 8 = [.lreturn] := rfl
theorem b240_9 : blk 240 9 = [.aload 0, .ifnull 80, .iconst 4, .if_icmp .ge 10, .bipush 0, .lreturn] := rfl
theorem b240_10 : blk 240 10 = [.aload 0, .ifnull 89, .l2i, .istore 2, .iload 1, .iconst (-4), .if_icmp .ne 11, .aload 0, .ifnonnull 19, .iload 2, .invokeinterface 42016 2, .i2l, .lreturn] := rfl
theorem b240_11 : blk 240 11 = [.aload 0, .ifnonnull 19, .iload 2, .iload 1, .invokeinterface 42273 3, .lreturn] := rfl
theorem en240 {a0 a1 : Int} : ent 240 [(3, a0), (0, a1)] = [(3, a0), (0, a1), (9, 0)] := rfl
theorem b241_0 : blk 241 0 = [.aload 0, .ifnull 96, .ireturn] := rfl
theorem en241 {a0 : Int} : ent 241 [(3, a0)] = [(3, a0)] := rfl
theorem b242_0 : blk 242 0 = [.aload 0, .ifnull 67, .iconst 6, .iload 1, .invokeinterface 18264 3, .ifCond .eq 1, .iload 2, .invokeinterface 43264 1, .ifCond .eq 1, .aload 0, .ifnull 67, .ifnonnull 10347, .iload 1, .iaload, .iconst 1, .if_icmp .eq 2, .goto 1] := rfl
theorem b242_1 : blk 242 1 = [.iconst (-1), .ireturn] := rfl
theorem b242_2 : blk 242 2 = [.aload 0, .iconst 0, .jsr_w 128, .iconst 0, .istore 3, .goto 3] := rfl
theorem b242_3 : blk 242 3 = [.iload 3, .aload 0, .ifnonnull 27, .invokeinterface 34856 1, .if_icmp .ge 5, .aload 0, .ifnonnull 27, .iload 3, .invokeinterface 36392 2, .ifCond .eq 4, .aload 0, .iload 3, .aload 0, .ifnonnull 35, .iload 1, .iload 2, .iload 3, .iconst 0, .iconst 0, .iconst 0, .invokeinterface 43568 7, .invokeinterface 62220 3, .goto 4] := rfl
theorem b242_4 : blk 242 4 = [.iinc 3 1, .goto 3] := rfl
theorem b242_5 : blk 242 5 = [.aload 0, .ifnull 128, .ireturn] := rfl
theorem en242 {a0 a1 a2 : Int} : ent 242 [(3, a0), (0, a1), (0, a2)] = [(3, a0), (0, a1), (0, a2), (9, 0)] := rfl
theorem b243_0 : blk 243 0 = [.iload 2, .iconst 1, .if_icmp .ne 1, .aload 0, .ifnonnull 35, .invokeinterface 60977 1, .invokeinterface 25345 1, .goto 2] := rfl
theorem b243_1 : blk 243 1 = [.aload 0, .ifnonnull 35, .invokeinterface 60977 1, .goto 2] := rfl
theorem b243_2 : blk 243 2 = [.lstore 3, .iload 2, .iconst 1, .if_icmp .eq 3, .iload 2, .iconst 2, .if_icmp .eq 3, .iconst 2, .goto 5] := rfl
theorem b243_3 : blk 243 3 = [.lload 3, .invokeinterface 26880 1, .ifCond .eq 4, .iconst 1, .goto 5] := rfl
theorem b243_4 : blk 243 4 = [.iconst 0, .goto 5] := rfl
theorem b243_5 : blk 243 5 = [.istore 5, .aload 0, .ifnull 128, .istore 6, .iload 6, .iconst 24, .if_icmp .lt 6, .return_] := rfl
theorem b243_6 : blk 243 6 = [.iload 6, .ifCond .le 7, .aload 0, .iload 5, .lload 3, .iload 6, .iconst 1, .isub, .invokeinterface 62472 4, .ifCond .eq 7, .aload 0, .ifnonnull 107, .iload 6, .aload 0, .ifnonnull 107, .iload 6, .iconst 1, .isub, .iaload, .iastore, .aload 0, .ifnonnull 115, .iload 6, .aload 0, .ifnonnull 115, .iload 6, .iconst 1, .isub, .iaload, .iastore, .aload 0, .ifnonnull 123, .iload 6, .aload 0, .ifnonnull 123, .iload 6, .iconst 1, .isub, .laload, .lastore, .iinc 6 (-1), .goto 6] := rfl
theorem b243_7 : blk 243 7 = [.aload 0, .ifnonnull 107, .iload 6, .iload 1, .iastore, .aload 0, .ifnonnull 115, .iload 6, .iload 5, .iastore, .aload 0, .ifnonnull 123, .iload 6, .lload 3, .lastore, .aload 0, .dup, .ifnull 128, .iconst 1, .iadd, .jsr_w 128, .return_] := rfl
theorem en243 {a0 a1 a2 : Int} : ent 243 [(3, a0), (0, a1), (0, a2)] = [(3, a0), (0, a1), (0, a2), (9, 0), (9, 0), (9, 0), (9, 0)] := rfl
theorem b244_0 : blk 244 0 = [.iload 1, .aload 0, .ifnonnull 115, .iload 4, .iaload, .if_icmp .eq 3, .iload 1, .aload 0, .ifnonnull 115, .iload 4, .iaload, .if_icmp .ge 1, .iconst 1, .goto 2] := rfl
theorem b244_1 : blk 244 1 = [.iconst 0, .goto 2] := rfl
theorem b244_2 : blk 244 2 = [.freturn] := rfl
theorem b244_3 : blk 244 3 = [.iload 1, .ifCond .ne 4, .lload 2, .aload 0, .ifnonnull 123, .iload 4, .laload, .invokeinterface 54016 2, .ifCond .eq 4, .iconst 1, .goto 5] := rfl
theorem b244_4 : blk 244 4 = [.iconst 0, .goto 5] := rfl
theorem b244_5 : blk 244 5 = [.freturn] := rfl
theorem en244 {a0 a1 a2 a3 : Int} : ent 244 [(3, a0), (0, a1), (1, a2), (0, a3)] = [(3, a0), (0, a1), (1, a2), (9, 0), (0, a3)] := rfl
theorem b245_0 : blk 245 0 = [.iload 1, .ifCond .lt 1, .iload 1, .aload 0, .ifnull 128, .if_icmp .ge 1, .aload 0, .ifnonnull 107, .iload 1, .iaload, .goto 2] := rfl
theorem b245_1 : blk 245 1 = [.iconst (-1), .goto 2] := rfl
theorem b245_2 : blk 245 2 = [.ireturn] := rfl
theorem en245 {a0 a1 : Int} : ent 245 [(3, a0), (0, a1)] = [(3, a0), (0, a1)] := rfl
theorem b246_0 : blk 246 0 = [.iload 1, .iconst 1, .if_icmp .lt 1, .iload 1, .iconst 4, .if_icmp .le 2, .goto 1] := rfl
theorem b246_1 : blk 246 1 = [.iconst (-1), .ireturn] := rfl
theorem b246_2 : blk 246 2 = [.aload 0, .ifnonnull 43, .invokeinterface 63296 1, .istore 2, .aload 0, .ifnonnull 43, .iload 1, .invokeinterface 63556 2, .aload 0, .ifnonnull 51, .invokeinterface 4684 1, .iload 2, .ireturn] := rfl
theorem en246 {a0 a1 : Int} : ent 246 [(3, a0), (0, a1)] = [(3, a0), (0, a1), (9, 0)] := rfl
theorem b247_0 : blk 247 0 = [.aload 0, .ifnull 7176, .ireturn] := rfl
theorem en247 {a0 : Int} : ent 247 [(3, a0)] = [(3, a0)] := rfl
theorem b248_0 : blk 248 0 = [.aload 0, .iload 1, .jsr_w 7176, .aload 0, .invokeinterface 3396 1, .return_] := rfl
theorem en248 {a0 a1 : Int} : ent 248 [(3, a0), (0, a1)] = [(3, a0), (0, a1)] := rfl
theorem b249_0 : blk 249 0 = [.aload 0, .iload 1, .iload 2, .iload 3, .invokeinterface 64008 4, .ifCond .ne 1, .iconst (-1), .ireturn] := rfl
theorem b249_1 : blk 249 1 = [.aload 0, .ifnonnull 43, .iload 1, .iload 2, .iload 3, .iconst 1, .if_icmp .ne 2, .iconst 1, .goto 3] := rfl
theorem b249_2 : blk 249 2 = [.iconst 0, .goto 3] := rfl
theorem b249_3 : blk 249 3 = [.invokeinterface 64836 4, .iconst 0, .ireturn] := rfl
theorem en249 {a0 a1 a2 a3 : Int} : ent 249 [(3, a0), (0, a1), (0, a2), (0, a3)] = [(3, a0), (0, a1), (0, a2), (0, a3)] := rfl
theorem b250_0 : blk 250 0 = [.aload 0, .ifnull 67, .iconst 2, .iload 1, .invokeinterface 18264 3, .ifCond .eq 2, .aload 0, .ifnonnull 43, .iload 2, .invokeinterface 64320 2, .ifCond .eq 2, .iload 3, .ifCond .eq 1, .iload 3, .iconst 1, .if_icmp .ne 2, .goto 1] := rfl
theorem b250_1 : blk 250 1 = [.iconst 1, .goto 3] := rfl
theorem b250_2 : blk 250 2 = [.iconst 0, .goto 3] := rfl
theorem b250_3 : blk 250 3 = [.freturn] := rfl
theorem en250 {a0 a1 a2 a3 : Int} : ent 250 [(3, a0), (0, a1), (0, a2), (0, a3)] = [(3, a0), (0, a1), (0, a2), (0, a3)] := rfl
theorem b251_0 : blk 251 0 = [.iload 1, .ifCond .lt 1, .iload 1, .aload 0, .invokeinterface 64576 1, .if_icmp .ge 1, .iconst 1, .goto 2] := rfl
theorem b251_1 : blk 251 1 = [.iconst 0, .goto 2] := rfl
theorem b251_2 : blk 251 2 = [.freturn] := rfl
theorem en251 {a0 a1 : Int} : ent 251 [(3, a0), (0, a1)] = [(3, a0), (0, a1)] := rfl
theorem b252_0 : blk 252 0 = [.iconst 5, .aload 0, .ifnull 7176, .imul, .ireturn] := rfl
theorem en252 {a0 : Int} : ent 252 [(3, a0)] = [(3, a0)] := rfl
theorem b253_0 : blk 253 0 = [.aload 0, .invokeinterface 3908 1, .iload 1, .ifCond .lt 1, .iload 1, .iconst 10, .if_icmp .lt 2, .goto 1] := rfl
theorem b253_1 : blk 253 1 = [.return_] := rfl
theorem b253_2 : blk 253 2 = [.aload 0, .ifnonnull 7187, .iload 1, .iload 3, .ifCond .eq 3, .aload 0, .ifnonnull 7187, .iload 1, .iaload, .iconst 1, .iload 2, .ishl, .ior, .goto 4] := rfl
theorem b253_3 : blk 253 3 = [.aload 0, .ifnonnull 7187, .iload 1, .iaload, .iconst 1, .iload 2, .ishl, .iconst (-1), .ixor, .iand, .goto 4] := rfl
theorem b253_4 : blk 253 4 = [.iastore, .return_] := rfl
theorem en253 {a0 a1 a2 a3 : Int} : ent 253 [(3, a0), (0, a1), (0, a2), (0, a3)] = [(3, a0), (0, a1), (0, a2), (0, a3)] := rfl
theorem b254_0 : blk 254 0 = [.aload 0, .ifnull 67, .iconst 4, .iload 1, .invokeinterface 18264 3, .ifCond .eq 1, .aload 0, .ifnonnull 43, .iload 2, .invokeinterface 64320 2, .ifCond .eq 1, .iload 3, .invokeinterface 35840 1, .ifCond .ne 2, .goto 1] := rfl
theorem b254_1 : blk 254 1 = [.iconst (-100), .ireturn] := rfl
theorem b254_2 : blk 254 2 = [.aload 0, .ifnonnull 43, .iload 1, .iload 2, .iload 3, .invokeinterface 65344 4, .ireturn] := rfl
theorem en254 {a0 a1 a2 a3 : Int} : ent 254 [(3, a0), (0, a1), (0, a2), (0, a3)] = [(3, a0), (0, a1), (0, a2), (0, a3)] := rfl
theorem b255_0 : blk 255 0 = [.aload 0, .iload 1, .iload 2, .invokeinterface 65600 3, .istore 4, .aload 0, .invokeinterface 3908 1, .iload 1, .iconst 20, .imul, .iload 2, .iadd, .istore 5, .iload 5, .ifCond .lt 1, .iload 5, .aload 0, .ifnonnull 7195, .arraylength, .if_icmp .ge 1, .aload 0, .ifnonnull 7195, .iload 5, .iload 3, .iastore, .goto 1] := rfl
theorem b255_1 : blk 255 1 = [.iload 4, .ireturn] := rfl
theorem en255 {a0 a1 a2 a3 : Int} : ent 255 [(3, a0), (0, a1), (0, a2), (0, a3)] = [(3, a0), (0, a1), (0, a2), (0, a3), (9, 0), (9, 0)] := rfl
theorem b256_0 : blk 256 0 = [.iload 1, .iconst 20, .imul, .iload 2, .iadd, .istore 3, .iload 3, .ifCond .lt 1, .iload 3, .aload 0, .ifnonnull 7195, .arraylength, .if_icmp .ge 1, .aload 0, .ifnonnull 7195, .iload 3, .iaload, .goto 2] := rfl
theorem b256_1 : blk 256 1 = [.iconst 0, .goto 2] := rfl
theorem b256_2 : blk 256 2 = [.ireturn] := rfl
theorem en256 {a0 a1 a2 : Int} : ent 256 [(3, a0), (0, a1), (0, a2)] = [(3, a0), (0, a1), (0, a2), (9, 0)] := rfl
theorem b257_0 : blk 257 0 = [.iload 1, .iconst 1, .if_icmp .lt 1, .iload 1, .iconst 10000, .if_icmp .le 2, .goto 1] := rfl
theorem b257_1 : blk 257 1 = [.iconst (-1), .ireturn] := rfl
theorem b257_2 : blk 257 2 = [.aload 0, .ifnonnull 51, .invokeinterface 4940 1, .aload 0, .ifnonnull 43, .iload 1, .invokeinterface 66112 2, .ireturn] := rfl
theorem en257 {a0 a1 : Int} : ent 257 [(3, a0), (0, a1)] = [(3, a0), (0, a1)] := rfl
theorem b258_0 : blk 258 0 = [.aload 0, .invokeinterface 66372 1, .aload 0, .invokeinterface 64576 1, .aload 0, .ifnull 7171, .iconst 1, .invokeinterface 14680 2, .imul, .istore 2, .iconst 0, .istore 3, .aload 0, .ifnull 7171, .ifnull 10328, .ifCond .ne 1, .aload 0, .invokeinterface 66884 1, .goto 1] := rfl
theorem b258_1 : blk 258 1 = [.iconst 0, .istore 4, .iconst 0, .istore 5, .goto 2] := rfl
theorem b258_2 : blk 258 2 = [.iload 5, .iconst 20037, .if_icmp .ge 6, .iload 3, .ifCond .lt 6, .iload 3, .aload 0, .ifnull 7171, .ifnull 10328, .if_icmp .ge 6, .iload 4, .ifCond .ne 6, .aload 0, .ifnonnull 7211, .iload 3, .iaload, .iload 2, .if_icmp .lt 3, .iinc 3 (-1), .iload 3, .ifCond .lt 5, .aload 0, .iload 3, .invokeinterface 67140 2, .goto 5] := rfl
theorem b258_3 : blk 258 3 = [.aload 0, .ifnull 7288, .iload 1, .if_icmp .lt 4, .iconst 1, .istore 4, .goto 5] := rfl
theorem b258_4 : blk 258 4 = [.aload 0, .iload 3, .invokeinterface 68416 2, .istore 3, .goto 5] := rfl
theorem b258_5 : blk 258 5 = [.iinc 5 1, .goto 2] := rfl
theorem b258_6 : blk 258 6 = [.iload 4, .ifCond .eq 7, .iconst 1, .goto 8] := rfl
theorem b258_7 : blk 258 7 = [.iconst 0, .goto 8] := rfl
theorem b258_8 : blk 258 8 = [.aload 0, .ifnull 7276, .ifCond .eq 9, .iconst 0, .goto 10] := rfl
theorem b258_9 : blk 258 9 = [.iconst 2, .goto 10] := rfl
theorem b258_10 : blk 258 10 = [.iadd, .ireturn] := rfl
theorem en258 {a0 a1 : Int} : ent 258 [(3, a0), (0, a1)] = [(3, a0), (0, a1), (9, 0), (9, 0), (9, 0), (9, 0)] := rfl
theorem b259_0 : blk 259 0 = [.aload 0, .invokeinterface 3908 1, .aload 0, .iconst 1, .jsr_w 7284, .aload 0, .iconst 0, .jsr_w 7288, .aload 0, .iconst 0, .jsr_w 7248, .aload 0, .ifnonnull 7211, .iconst 0, .iconst 0, .iastore, .aload 0, .ifnonnull 7219, .iconst 0, .invokeinterface 3588 2, .aload 0, .ifnonnull 7227, .iconst 0, .invokeinterface 3588 2, .aload 0, .ifnonnull 7235, .iconst 0, .invokeinterface 3588 2, .aload 0, .ifnonnull 7243, .iconst 0, .invokeinterface 3588 2, .aload 0, .ifnonnull 7203, .aload 0, .ifnull 7171, .ifnull 10328, .iconst 0, .iastore, .aload 0, .ifnull 7171, .ifnull 10328, .iconst 1, .isub, .istore 1, .goto 1] := rfl
theorem b259_1 : blk 259 1 = [.iload 1, .ifCond .lt 2, .aload 0, .ifnonnull 7203, .iload 1, .aload 0, .ifnonnull 7203, .iload 1, .iconst 1, .iadd, .iaload, .aload 0, .aload 0, .ifnull 7171, .ifnonnull 10323, .iload 1, .iaload, .invokeinterface 66624 2, .iadd, .iastore, .iinc 1 (-1), .goto 1] := rfl
theorem b259_2 : blk 259 2 = [.return_] := rfl
theorem en259 {a0 : Int} : ent 259 [(3, a0)] = [(3, a0), (9, 0)] := rfl
theorem b260_0 : blk 260 0 = [.aload 0, .iload 1, .iconst 0, .invokeinterface 65600 3, .istore 2, .iconst 1, .istore 3, .goto 1] := rfl
theorem b260_1 : blk 260 1 = [.iload 3, .aload 0, .invokeinterface 64576 1, .if_icmp .ge 2, .iload 2, .aload 0, .iload 1, .iload 3, .invokeinterface 65600 3, .invokeinterface 10496 2, .istore 2, .iinc 3 1, .goto 1] := rfl
theorem b260_2 : blk 260 2 = [.iload 2, .ireturn] := rfl
theorem en260 {a0 a1 : Int} : ent 260 [(3, a0), (0, a1)] = [(3, a0), (0, a1), (9, 0), (9, 0)] := rfl
theorem b261_0 : blk 261 0 = [.aload 0, .iconst 1, .jsr_w 7276, .aload 0, .aload 0, .ifnull 7248, .jsr_w 7264, .iconst 0, .istore 1, .goto 1] := rfl
theorem b261_1 : blk 261 1 = [.iload 1, .aload 0, .ifnull 7171, .ifnull 10328, .if_icmp .ge 2, .aload 0, .ifnonnull 7259, .iload 1, .aload 0, .ifnonnull 7211, .iload 1, .iaload, .iconst 1, .isub, .iastore, .iinc 1 1, .goto 1] := rfl
theorem b261_2 : blk 261 2 = [.return_] := rfl
theorem en261 {a0 : Int} : ent 261 [(3, a0)] = [(3, a0), (9, 0)] := rfl
theorem b262_0 : blk 262 0 = [.aload 0, .iload 1, .aload 0, .ifnonnull 7211, .iload 1, .iaload, .iconst 1, .isub, .iconst 0, .invokeinterface 67396 4, .return_] := rfl
theorem en262 {a0 a1 : Int} : ent 262 [(3, a0), (0, a1)] = [(3, a0), (0, a1)] := rfl
theorem b263_0 : blk 263 0 = [.aload 0, .ifnull 7171, .ifnonnull 10323, .iload 1, .iaload, .istore 4, .aload 0, .iload 2, .invokeinterface 67648 2, .istore 5, .iconst 1, .iload 5, .ishl, .istore 6, .aload 0, .iload 4, .iload 5, .invokeinterface 65600 3, .istore 7, .aload 0, .dup, .ifnull 7248, .iload 3, .ifCond .eq 1, .iload 7, .goto 2] := rfl
theorem b263_1 : blk 263 1 = [.iload 7, .ineg, .goto 2] := rfl
theorem b263_2 : blk 263 2 = [.iadd, .jsr_w 7248, .aload 0, .ifnonnull 7219, .aload 0, .iload 2, .invokeinterface 67904 2, .dup2, .iaload, .iload 6, .ixor, .iastore, .aload 0, .ifnonnull 7227, .aload 0, .ifnull 7171, .ifnonnull 10299, .iload 4, .iaload, .dup2, .iaload, .iload 6, .ixor, .iastore, .aload 0, .ifnonnull 7235, .aload 0, .ifnull 7171, .ifnonnull 10307, .iload 4, .iaload, .dup2, .iaload, .iload 6, .ixor, .iastore, .aload 0, .ifnonnull 7243, .iload 4, .dup2, .iaload, .iconst 1, .aload 0, .iload 5, .invokeinterface 68160 2, .ishl, .ixor, .iastore, .return_] := rfl
theorem en263 {a0 a1 a2 a3 : Int} : ent 263 [(3, a0), (0, a1), (0, a2), (0, a3)] = [(3, a0), (0, a1), (0, a2), (0, a3), (9, 0), (9, 0), (9, 0), (9, 0)] := rfl
theorem b264_0 : blk 264 0 = [.aload 0, .ifnull 7171, .iconst 1, .invokeinterface 14680 2, .istore 2, .iload 2, .ifCond .le 1, .iload 1, .iload 2, .idiv, .goto 2] := rfl
theorem b264_1 : blk 264 1 = [.iconst 0, .goto 2] := rfl
theorem b264_2 : blk 264 2 = [.ireturn] := rfl
theorem en264 {a0 a1 : Int} : ent 264 [(3, a0), (0, a1)] = [(3, a0), (0, a1), (9, 0)] := rfl
theorem b265_0 : blk 265 0 = [.aload 0, .ifnull 7171, .iconst 1, .invokeinterface 14680 2, .istore 2, .iload 2, .ifCond .le 1, .iload 1, .iload 2, .irem, .goto 2] := rfl
theorem b265_1 : blk 265 1 = [.iconst 0, .goto 2] := rfl
theorem b265_2 : blk 265 2 = [.ireturn] := rfl
theorem en265 {a0 a1 : Int} : ent 265 [(3, a0), (0, a1)] = [(3, a0), (0, a1), (9, 0)] := rfl
theorem b266_0 : blk 266 0 = [.aload 0, .ifnull 7176, .ifCond .le 1, .iload 1, .aload 0, .ifnull 7176, .idiv, .goto 2] := rfl
theorem b266_1 : blk 266 1 = [.iconst 0, .goto 2] := rfl
theorem b266_2 : blk 266 2 = [.ireturn] := rfl
theorem en266 {a0 a1 : Int} : ent 266 [(3, a0), (0, a1)] = [(3, a0), (0, a1)] := rfl
theorem b267_0 : blk 267 0 = [.aload 0, .ifnonnull 7211, .iload 1, .iaload, .istore 2, .aload 0, .ifnonnull 7211, .iload 1, .dup2, .iaload, .iconst 1, .iadd, .iastore, .aload 0, .dup, .ifnull 7288, .iconst 1, .iadd, .jsr_w 7288, .aload 0, .aload 0, .ifnull 7171, .ifnonnull 10323, .iload 1, .iaload, .aload 0, .iload 2, .invokeinterface 67648 2, .invokeinterface 65600 3, .istore 3, .aload 0, .iload 1, .iload 2, .invokeinterface 68672 3, .ifCond .eq 1, .aload 0, .ifnull 7276, .ifCond .eq 2, .aload 0, .ifnull 7248, .iload 3, .iadd, .aload 0, .ifnonnull 7203, .iload 1, .iconst 1, .iadd, .iaload, .iadd, .aload 0, .ifnull 7264, .if_icmp .lt 2, .goto 1] := rfl
theorem b267_1 : blk 267 1 = [.iload 1, .ireturn] := rfl
theorem b267_2 : blk 267 2 = [.aload 0, .iload 1, .iload 2, .iconst 1, .invokeinterface 67396 4, .iload 1, .iconst 1, .iadd, .aload 0, .ifnull 7171, .ifnull 10328, .if_icmp .ge 3, .aload 0, .ifnonnull 7211, .iload 1, .iconst 1, .iadd, .iconst 0, .iastore, .iload 1, .iconst 1, .iadd, .ireturn] := rfl
theorem b267_3 : blk 267 3 = [.aload 0, .invokeinterface 66884 1, .aload 0, .iload 1, .invokeinterface 67140 2, .iload 1, .ireturn] := rfl
theorem en267 {a0 a1 : Int} : ent 267 [(3, a0), (0, a1)] = [(3, a0), (0, a1), (9, 0), (9, 0)] := rfl
theorem b268_0 : blk 268 0 = [.aload 0, .ifnull 7171, .ifnonnull 10323, .iload 1, .iaload, .istore 3, .aload 0, .iload 2, .invokeinterface 67904 2, .istore 4, .aload 0, .iload 2, .invokeinterface 67648 2, .istore 5, .aload 0, .ifnull 7171, .ifnonnull 10299, .iload 3, .iaload, .istore 6, .aload 0, .ifnull 7171, .ifnonnull 10307, .iload 3, .iaload, .istore 7, .aload 0, .ifnonnull 7219, .iload 4, .iaload, .aload 0, .ifnonnull 7227, .iload 6, .iaload, .ior, .aload 0, .ifnonnull 7235, .iload 7, .iaload, .ior, .aload 0, .ifnonnull 7187, .iload 7, .iaload, .ior, .istore 8, .aload 0, .ifnull 7171, .ifnonnull 10259, .iload 4, .iaload, .aload 0, .ifnull 7171, .ifnonnull 10283, .iload 6, .iaload, .if_icmp .lt 1, .iload 8, .iload 5, .ishr, .iconst 1, .iand, .ifCond .ne 1, .aload 0, .ifnonnull 7243, .iload 3, .iaload, .aload 0, .iload 5, .invokeinterface 68160 2, .ishr, .iconst 1, .iand, .ifCond .ne 1, .iconst 1, .goto 2] := rfl
theorem b268_1 : blk 268 1 = [.iconst 0, .goto 2] := rfl
theorem b268_2 : blk 268 2 = [.freturn] := rfl
theorem en268 {a0 a1 a2 : Int} : ent 268 [(3, a0), (0, a1), (0, a2)] = [(3, a0), (0, a1), (0, a2), (9, 0), (9, 0), (9, 0), (9, 0), (9, 0), (9, 0)] := rfl
theorem b269_0 : blk 269 0 = [.iload 1, .ifCond .lt 1, .iload 1, .iconst 1, .if_icmp .le 2, .goto 1] := rfl
theorem b269_1 : blk 269 1 = [.iconst (-1), .ireturn] := rfl
theorem b269_2 : blk 269 2 = [.iload 1, .ifCond .ne 5, .aload 0, .ifnonnull 43, .invokeinterface 69184 1, .ifCond .eq 3, .aload 0, .ifnonnull 43, .invokeinterface 69440 1, .goto 4] := rfl
theorem b269_3 : blk 269 3 = [.iconst (-100000), .goto 4] := rfl
theorem b269_4 : blk 269 4 = [.ireturn] := rfl
theorem b269_5 : blk 269 5 = [.aload 0, .ifnonnull 43, .invokeinterface 69696 1, .ifCond .eq 6, .aload 0, .ifnonnull 43, .invokeinterface 69952 1, .goto 7] := rfl
theorem b269_6 : blk 269 6 = [.iconst (-100000), .goto 7] := rfl
theorem b269_7 : blk 269 7 = [.ireturn] := rfl
theorem en269 {a0 a1 : Int} : ent 269 [(3, a0), (0, a1)] = [(3, a0), (0, a1)] := rfl
theorem b270_0 : blk 270 0 = [.aload 0, .ifnull 7276, .freturn] := rfl
theorem en270 {a0 : Int} : ent 270 [(3, a0)] = [(3, a0)] := rfl
theorem b271_0 : blk 271 0 = [.aload 0, .ifnull 7264, .ireturn] := rfl
theorem en271 {a0 : Int} : ent 271 [(3, a0)] = [(3, a0)] := rfl
theorem b272_0 : blk 272 0 = [.aload 0, .ifnull 7284, .freturn] := rfl
theorem en272 {a0 : Int} : ent 272 [(3, a0)] = [(3, a0)] := rfl
theorem b273_0 : blk 273 0 = [.aload 0, .ifnull 7288, .ireturn] := rfl
theorem en273 {a0 : Int} : ent 273 [(3, a0)] = [(3, a0)] := rfl
theorem b274_0 : blk 274 0 = [.iload 1, .ifCond .lt 1, .iload 1, .aload 0, .ifnull 67, .ifnull 10328, .if_icmp .ge 1, .iload 2, .ifCond .lt 1, .iload 2, .iconst 2, .if_icmp .le 2, .goto 1] := rfl
theorem b274_1 : blk 274 1 = [.iconst (-1), .ireturn] := rfl
theorem b274_2 : blk 274 2 = [.aload 0, .ifnonnull 43, .invokeinterface 69184 1, .ifCond .ne 3, .iconst (-2), .ireturn] := rfl
theorem b274_3 : blk 274 3 = [.iload 2, .ifCond .ne 4, .aload 0, .ifnull 67, .ifnonnull 10323, .iload 1, .iaload, .goto 6] := rfl
theorem b274_4 : blk 274 4 = [.iload 2, .iconst 1, .if_icmp .ne 5, .aload 0, .ifnonnull 43, .iload 1, .invokeinterface 70464 2, .goto 6] := rfl
theorem b274_5 : blk 274 5 = [.aload 0, .ifnonnull 43, .iload 1, .invokeinterface 70720 2, .goto 6] := rfl
theorem b274_6 : blk 274 6 = [.ireturn] := rfl
theorem en274 {a0 a1 a2 : Int} : ent 274 [(3, a0), (0, a1), (0, a2)] = [(3, a0), (0, a1), (0, a2)] := rfl
theorem b275_0 : blk 275 0 = [.iload 1, .ifCond .lt 1, .iload 1, .aload 0, .ifnonnull 7259, .arraylength, .if_icmp .ge 1, .aload 0, .aload 0, .ifnonnull 7259, .iload 1, .iaload, .invokeinterface 67648 2, .goto 2] := rfl
theorem b275_1 : blk 275 1 = [.iconst (-1), .goto 2] := rfl
theorem b275_2 : blk 275 2 = [.ireturn] := rfl
theorem en275 {a0 a1 : Int} : ent 275 [(3, a0), (0, a1)] = [(3, a0), (0, a1)] := rfl
theorem b276_0 : blk 276 0 = [.iload 1, .ifCond .lt 1, .iload 1, .aload 0, .ifnonnull 7259, .arraylength, .if_icmp .ge 1, .aload 0, .aload 0, .ifnonnull 7259, .iload 1, .iaload, .invokeinterface 67904 2, .goto 2] := rfl
theorem b276_1 : blk 276 1 = [.iconst (-1), .goto 2] := rfl
theorem b276_2 : blk 276 2 = [.ireturn] := rfl
theorem en276 {a0 a1 : Int} : ent 276 [(3, a0), (0, a1)] = [(3, a0), (0, a1)] := rfl
theorem b277_0 : blk 277 0 = [.aload 0, .iload 1, .iload 2, .invokeinterface 39944 3, .ifCond .ne 1, .iconst (-1), .ireturn] := rfl
theorem b277_1 : blk 277 1 = [.aload 0, .ifnonnull 27, .iload 1, .invokeinterface 36392 2, .ifCond .eq 2, .aload 0, .ifnonnull 59, .iload 1, .iload 2, .invokeinterface 71248 3, .ifCond .lt 3, .goto 2] := rfl
theorem b277_2 : blk 277 2 = [.iconst (-2), .ireturn] := rfl
theorem b277_3 : blk 277 3 = [.aload 0, .ifnonnull 59, .iload 1, .iload 2, .invokeinterface 71760 3, .ireturn] := rfl
theorem en277 {a0 a1 a2 : Int} : ent 277 [(3, a0), (0, a1), (0, a2)] = [(3, a0), (0, a1), (0, a2)] := rfl
theorem b278_0 : blk 278 0 = [.aload 0, .ifnonnull 9219, .iload 1, .i2l, .invokeinterface 36904 2, .ifCond .ne 1, .iconst (-1), .ireturn] := rfl
theorem b278_1 : blk 278 1 = [.iconst 0, .istore 3, .goto 2] := rfl
theorem b278_2 : blk 278 2 = [.iload 3, .aload 0, .ifnonnull 9243, .iload 1, .iaload, .if_icmp .ge 4, .aload 0, .iload 1, .iload 3, .invokeinterface 71504 3, .iload 2, .if_icmp .ne 3, .iload 3, .ireturn] := rfl
theorem b278_3 : blk 278 3 = [.iinc 3 1, .goto 2] := rfl
theorem b278_4 : blk 278 4 = [.iconst (-1), .ireturn] := rfl
theorem en278 {a0 a1 a2 : Int} : ent 278 [(3, a0), (0, a1), (0, a2)] = [(3, a0), (0, a1), (0, a2), (9, 0)] := rfl
theorem b279_0 : blk 279 0 = [.iload 1, .ifCond .lt 1, .iload 1, .iconst 24, .if_icmp .ge 1, .iload 2, .ifCond .lt 1, .iload 2, .aload 0, .ifnonnull 9243, .iload 1, .iaload, .if_icmp .ge 1, .aload 0, .ifnonnull 9235, .iload 1, .iconst 8, .imul, .iload 2, .iadd, .iaload, .goto 2] := rfl
theorem b279_1 : blk 279 1 = [.iconst (-1), .goto 2] := rfl
theorem b279_2 : blk 279 2 = [.ireturn] := rfl
theorem en279 {a0 a1 a2 : Int} : ent 279 [(3, a0), (0, a1), (0, a2)] = [(3, a0), (0, a1), (0, a2)] := rfl
theorem b280_0 : blk 280 0 = [.aload 0, .ifnonnull 9219, .iload 1, .i2l, .invokeinterface 36904 2, .ifCond .eq 1, .aload 0, .ifnonnull 9243, .iload 1, .iaload, .iconst 8, .if_icmp .lt 2, .goto 1] := rfl
theorem b280_1 : blk 280 1 = [.iconst 0, .ireturn] := rfl
theorem b280_2 : blk 280 2 = [.aload 0, .ifnonnull 9235, .iload 1, .iconst 8, .imul, .aload 0, .ifnonnull 9243, .iload 1, .iaload, .iadd, .iload 2, .iastore, .aload 0, .ifnonnull 9243, .iload 1, .dup2, .iaload, .iconst 1, .iadd, .iastore, .aload 0, .ifnonnull 9243, .iload 1, .iaload, .ireturn] := rfl
theorem en280 {a0 a1 a2 : Int} : ent 280 [(3, a0), (0, a1), (0, a2)] = [(3, a0), (0, a1), (0, a2)] := rfl
theorem b281_0 : blk 281 0 = [.aload 0, .ifnonnull 59, .iload 1, .invokeinterface 72272 2, .ireturn] := rfl
theorem en281 {a0 a1 : Int} : ent 281 [(3, a0), (0, a1)] = [(3, a0), (0, a1)] := rfl
theorem b282_0 : blk 282 0 = [.iconst 0, .istore 2, .iconst 0, .istore 3, .goto 1] := rfl
theorem b282_1 : blk 282 1 = [.iload 3, .aload 0, .ifnonnull 9219, .invokeinterface 34856 1, .if_icmp .ge 5, .aload 0, .ifnonnull 9219, .iload 3, .invokeinterface 36392 2, .ifCond .ne 2, .goto 4] := rfl
theorem b282_2 : blk 282 2 = [.iinc 2 1, .iconst 0, .istore 4, .goto 3] := rfl
theorem b282_3 : blk 282 3 = [.iload 4, .iconst 8, .if_icmp .ge 4, .aload 0, .ifnonnull 9251, .iload 3, .iconst 8, .imul, .iload 4, .iadd, .iload 1, .iload 3, .iload 4, .invokeinterface 72448 3, .iastore, .iinc 4 1, .goto 3] := rfl
theorem b282_4 : blk 282 4 = [.iinc 3 1, .goto 1] := rfl
theorem b282_5 : blk 282 5 = [.iload 2, .ireturn] := rfl
theorem en282 {a0 a1 : Int} : ent 282 [(3, a0), (0, a1)] = [(3, a0), (0, a1), (9, 0), (9, 0), (9, 0)] := rfl
theorem b283_0 : blk 283 0 = [.iload 0, .iconst 16, .iload 1, .imul, .iload 2, .iadd, .iconst (-1640531535), .imul, .ixor, .istore 3, .iload 3, .iload 3, .iconst 15, .iushr, .ixor, .iconst (-2048144777), .imul, .istore 3, .iload 3, .iload 3, .iconst 13, .iushr, .ixor, .ireturn] := rfl
theorem en283 {a0 a1 a2 : Int} : ent 283 [(0, a0), (0, a1), (0, a2)] = [(0, a0), (0, a1), (0, a2), (9, 0)] := rfl
theorem b284_0 : blk 284 0 = [.aload 0, .iload 1, .iload 2, .invokeinterface 39944 3, .ifCond .eq 1, .aload 0, .ifnonnull 59, .iload 1, .iload 2, .invokeinterface 73040 3, .goto 2] := rfl
theorem b284_1 : blk 284 1 = [.iconst 0, .goto 2] := rfl
theorem b284_2 : blk 284 2 = [.ireturn] := rfl
theorem en284 {a0 a1 a2 : Int} : ent 284 [(3, a0), (0, a1), (0, a2)] = [(3, a0), (0, a1), (0, a2)] := rfl
theorem b285_0 : blk 285 0 = [.iload 1, .ifCond .lt 1, .iload 1, .iconst 24, .if_icmp .ge 1, .iload 2, .invokeinterface 73216 1, .ifCond .eq 1, .aload 0, .ifnonnull 9251, .iload 1, .iconst 8, .imul, .iload 2, .iadd, .iaload, .goto 2] := rfl
theorem b285_1 : blk 285 1 = [.iconst 0, .goto 2] := rfl
theorem b285_2 : blk 285 2 = [.ireturn] := rfl
theorem en285 {a0 a1 a2 : Int} : ent 285 [(3, a0), (0, a1), (0, a2)] = [(3, a0), (0, a1), (0, a2)] := rfl
theorem b286_0 : blk 286 0 = [.iload 0, .ifCond .lt 1, .iload 0, .iconst 8, .if_icmp .ge 1, .iconst 1, .goto 2] := rfl
theorem b286_1 : blk 286 1 = [.iconst 0, .goto 2] := rfl
theorem b286_2 : blk 286 2 = [.freturn] := rfl
theorem en286 {a0 : Int} : ent 286 [(0, a0)] = [(0, a0)] := rfl
theorem b287_0 : blk 287 0 = [.iload 1, .ifCond .lt 1, .iload 1, .iconst 1, .if_icmp .le 2, .goto 1] := rfl
theorem b287_1 : blk 287 1 = [.iconst (-1), .ireturn] := rfl
theorem b287_2 : blk 287 2 = [.iload 1, .ifCond .ne 3, .aload 0, .ifnonnull 59, .invokeinterface 73808 1, .goto 4] := rfl
theorem b287_3 : blk 287 3 = [.aload 0, .ifnonnull 59, .invokeinterface 76368 1, .goto 4] := rfl
theorem b287_4 : blk 287 4 = [.ireturn] := rfl
theorem en287 {a0 a1 : Int} : ent 287 [(3, a0), (0, a1)] = [(3, a0), (0, a1)] := rfl
theorem b288_0 : blk 288 0 = [.aload 0, .invokeinterface 74068 1, .iconst 0, .istore 1, .goto 1] := rfl
theorem b288_1 : blk 288 1 = [.iload 1, .iconst 192, .if_icmp .ge 3, .aload 0, .invokeinterface 74576 1, .istore 2, .iload 2, .ifCond .ge 2, .goto 3] := rfl
theorem b288_2 : blk 288 2 = [.aload 0, .iload 2, .aload 0, .iload 2, .aload 0, .ifnonnull 9275, .iload 2, .iaload, .invokeinterface 71504 3, .invokeinterface 74836 3, .aload 0, .ifnonnull 9275, .iload 2, .dup2, .iaload, .iconst 1, .iadd, .iastore, .iinc 1 1, .goto 1] := rfl
theorem b288_3 : blk 288 3 = [.aload 0, .invokeinterface 76112 1, .ireturn] := rfl
theorem en288 {a0 : Int} : ent 288 [(3, a0)] = [(3, a0), (9, 0), (9, 0)] := rfl
theorem b289_0 : blk 289 0 = [.aload 0, .iconst 1, .jsr_w 9268, .aload 0, .ifnonnull 9259, .iconst (-9), .invokeinterface 3588 2, .aload 0, .ifnonnull 9275, .iconst 0, .invokeinterface 3588 2, .aload 0, .invokeinterface 74324 1, .return_] := rfl
theorem en289 {a0 : Int} : ent 289 [(3, a0)] = [(3, a0)] := rfl
theorem b290_0 : blk 290 0 = [.iconst 0, .istore 1, .goto 1] := rfl
theorem b290_1 : blk 290 1 = [.iload 1, .aload 0, .ifnull 9227, .iconst 5, .invokeinterface 14680 2, .if_icmp .ge 2, .aload 0, .ifnonnull 9283, .iload 1, .aload 0, .ifnull 9227, .ifnonnull 10315, .iload 1, .iaload, .iastore, .iinc 1 1, .goto 1] := rfl
theorem b290_2 : blk 290 2 = [.iconst 0, .istore 1, .goto 3] := rfl
theorem b290_3 : blk 290 3 = [.iload 1, .aload 0, .ifnonnull 9219, .invokeinterface 34856 1, .if_icmp .ge 5, .aload 0, .ifnonnull 9259, .iload 1, .iaload, .invokeinterface 73216 1, .ifCond .eq 4, .aload 0, .ifnonnull 9283, .aload 0, .ifnonnull 9259, .iload 1, .iaload, .dup2, .iaload, .iconst 1, .isub, .iastore, .goto 4] := rfl
theorem b290_4 : blk 290 4 = [.iinc 1 1, .goto 3] := rfl
theorem b290_5 : blk 290 5 = [.return_] := rfl
theorem en290 {a0 : Int} : ent 290 [(3, a0)] = [(3, a0), (9, 0)] := rfl
theorem b291_0 : blk 291 0 = [.iconst 0, .istore 1, .goto 1] := rfl
theorem b291_1 : blk 291 1 = [.iload 1, .aload 0, .ifnonnull 9219, .invokeinterface 34856 1, .if_icmp .ge 3, .aload 0, .ifnonnull 9259, .iload 1, .iaload, .iconst (-9), .if_icmp .ne 2, .aload 0, .ifnonnull 9275, .iload 1, .iaload, .aload 0, .ifnonnull 9243, .iload 1, .iaload, .if_icmp .ge 2, .iload 1, .ireturn] := rfl
theorem b291_2 : blk 291 2 = [.iinc 1 1, .goto 1] := rfl
theorem b291_3 : blk 291 3 = [.iconst (-1), .ireturn] := rfl
theorem en291 {a0 : Int} : ent 291 [(3, a0)] = [(3, a0), (9, 0)] := rfl
theorem b292_0 : blk 292 0 = [.aload 0, .iload 2, .invokeinterface 75088 2, .ifCond .eq 1, .aload 0, .iload 1, .iload 2, .invokeinterface 75348 3, .return_] := rfl
theorem b292_1 : blk 292 1 = [.aload 0, .iload 2, .invokeinterface 75600 2, .istore 3, .iload 3, .ifCond .lt 2, .aload 0, .iload 1, .iload 3, .iload 2, .invokeinterface 75856 4, .ifCond .ne 3, .goto 2] := rfl
theorem b292_2 : blk 292 2 = [.return_] := rfl
theorem b292_3 : blk 292 3 = [.aload 0, .ifnonnull 9259, .iload 3, .iconst (-9), .iastore, .aload 0, .ifnonnull 9259, .iload 1, .iload 2, .iastore, .return_] := rfl
theorem en292 {a0 a1 a2 : Int} : ent 292 [(3, a0), (0, a1), (0, a2)] = [(3, a0), (0, a1), (0, a2), (9, 0)] := rfl
theorem b293_0 : blk 293 0 = [.iload 1, .invokeinterface 73216 1, .ifCond .eq 1, .aload 0, .ifnonnull 9283, .iload 1, .iaload, .ifCond .le 1, .iconst 1, .goto 2] := rfl
theorem b293_1 : blk 293 1 = [.iconst 0, .goto 2] := rfl
theorem b293_2 : blk 293 2 = [.freturn] := rfl
theorem en293 {a0 a1 : Int} : ent 293 [(3, a0), (0, a1)] = [(3, a0), (0, a1)] := rfl
theorem b294_0 : blk 294 0 = [.iload 2, .invokeinterface 73216 1, .ifCond .ne 1, .return_] := rfl
theorem b294_1 : blk 294 1 = [.aload 0, .ifnonnull 9259, .iload 1, .iload 2, .iastore, .aload 0, .ifnonnull 9283, .iload 2, .dup2, .iaload, .iconst 1, .isub, .iastore, .return_] := rfl
theorem en294 {a0 a1 a2 : Int} : ent 294 [(3, a0), (0, a1), (0, a2)] = [(3, a0), (0, a1), (0, a2)] := rfl
theorem b295_0 : blk 295 0 = [.iconst (-1), .istore 2, .iconst 0, .istore 3, .goto 1] := rfl
theorem b295_1 : blk 295 1 = [.iload 3, .aload 0, .ifnonnull 9219, .invokeinterface 34856 1, .if_icmp .ge 4, .aload 0, .ifnonnull 9259, .iload 3, .iaload, .iload 1, .if_icmp .ne 3, .iload 2, .ifCond .lt 2, .aload 0, .iload 2, .iload 3, .iload 1, .invokeinterface 75856 4, .ifCond .eq 3, .goto 2] := rfl
theorem b295_2 : blk 295 2 = [.iload 3, .istore 2, .goto 3] := rfl
theorem b295_3 : blk 295 3 = [.iinc 3 1, .goto 1] := rfl
theorem b295_4 : blk 295 4 = [.iload 2, .ireturn] := rfl
theorem en295 {a0 a1 : Int} : ent 295 [(3, a0), (0, a1)] = [(3, a0), (0, a1), (9, 0), (9, 0)] := rfl
theorem b296_0 : blk 296 0 = [.aload 0, .iload 1, .iload 3, .invokeinterface 73040 3, .istore 4, .aload 0, .iload 2, .iload 3, .invokeinterface 73040 3, .istore 5, .iload 4, .iload 5, .if_icmp .eq 2, .iload 4, .iload 5, .if_icmp .ge 1, .iconst 1, .goto 4] := rfl
theorem b296_1 : blk 296 1 = [.iconst 0, .goto 4] := rfl
theorem b296_2 : blk 296 2 = [.iload 1, .iload 2, .if_icmp .ge 3, .iconst 1, .goto 4] := rfl
theorem b296_3 : blk 296 3 = [.iconst 0, .goto 4] := rfl
theorem b296_4 : blk 296 4 = [.freturn] := rfl
theorem en296 {a0 a1 a2 a3 : Int} : ent 296 [(3, a0), (0, a1), (0, a2), (0, a3)] = [(3, a0), (0, a1), (0, a2), (0, a3), (9, 0), (9, 0)] := rfl
theorem b297_0 : blk 297 0 = [.iconst 0, .istore 1, .iconst 0, .istore 2, .goto 1] := rfl
theorem b297_1 : blk 297 1 = [.iload 2, .aload 0, .ifnonnull 9219, .invokeinterface 34856 1, .if_icmp .ge 3, .aload 0, .ifnonnull 9259, .iload 2, .iaload, .iconst (-9), .if_icmp .eq 2, .iinc 1 1, .goto 2] := rfl
theorem b297_2 : blk 297 2 = [.iinc 2 1, .goto 1] := rfl
theorem b297_3 : blk 297 3 = [.iload 1, .ireturn] := rfl
theorem en297 {a0 : Int} : ent 297 [(3, a0)] = [(3, a0), (9, 0), (9, 0)] := rfl
theorem b298_0 : blk 298 0 = [.aload 0, .invokeinterface 74068 1, .iconst 0, .istore 1, .goto 1] := rfl
theorem b298_1 : blk 298 1 = [.iload 1, .iconst 24, .if_icmp .gt 3, .aload 0, .invokeinterface 76628 1, .aload 0, .invokeinterface 77136 1, .ifCond .ne 2, .goto 3] := rfl
theorem b298_2 : blk 298 2 = [.iinc 1 1, .goto 1] := rfl
theorem b298_3 : blk 298 3 = [.aload 0, .invokeinterface 76112 1, .ireturn] := rfl
theorem en298 {a0 : Int} : ent 298 [(3, a0)] = [(3, a0), (9, 0)] := rfl
theorem b299_0 : blk 299 0 = [.iconst 0, .istore 1, .goto 1] := rfl
theorem b299_1 : blk 299 1 = [.iload 1, .aload 0, .ifnonnull 9219, .invokeinterface 34856 1, .if_icmp .ge 4, .iconst 0, .istore 2, .goto 2] := rfl
theorem b299_2 : blk 299 2 = [.iload 2, .iconst 8, .if_icmp .ge 3, .aload 0, .iload 1, .invokeinterface 76880 2, .ifCond .eq 3, .aload 0, .aload 0, .iload 1, .aload 0, .ifnonnull 9275, .iload 1, .iaload, .invokeinterface 71504 3, .invokeinterface 75088 2, .ifCond .ne 3, .aload 0, .ifnonnull 9275, .iload 1, .dup2, .iaload, .iconst 1, .iadd, .iastore, .iinc 2 1, .goto 2] := rfl
theorem b299_3 : blk 299 3 = [.iinc 1 1, .goto 1] := rfl
theorem b299_4 : blk 299 4 = [.return_] := rfl
theorem en299 {a0 : Int} : ent 299 [(3, a0)] = [(3, a0), (9, 0), (9, 0)] := rfl
theorem b300_0 : blk 300 0 = [.aload 0, .ifnonnull 9259, .iload 1, .iaload, .iconst (-9), .if_icmp .ne 1, .aload 0, .ifnonnull 9275, .iload 1, .iaload, .aload 0, .ifnonnull 9243, .iload 1, .iaload, .if_icmp .ge 1, .iconst 1, .goto 2] := rfl
theorem b300_1 : blk 300 1 = [.iconst 0, .goto 2] := rfl
theorem b300_2 : blk 300 2 = [.freturn] := rfl
theorem en300 {a0 a1 : Int} : ent 300 [(3, a0), (0, a1)] = [(3, a0), (0, a1)] := rfl
theorem b301_0 : blk 301 0 = [.iconst 0, .istore 1, .iconst 0, .istore 2, .goto 1] := rfl
theorem b301_1 : blk 301 1 = [.iload 2, .aload 0, .ifnonnull 9219, .invokeinterface 34856 1, .if_icmp .ge 7, .aload 0, .ifnonnull 9291, .iload 2, .aload 0, .iload 2, .invokeinterface 76880 2, .ifCond .eq 2, .aload 0, .iload 2, .invokeinterface 77392 2, .ifCond .eq 2, .iconst 1, .goto 3] := rfl
theorem b301_2 : blk 301 2 = [.iconst 0, .goto 3] := rfl
theorem b301_3 : blk 301 3 = [.bastore, .iload 1, .ifCond .ne 4, .aload 0, .ifnonnull 9291, .iload 2, .baload, .ifCond .eq 5, .goto 4] := rfl
theorem b301_4 : blk 301 4 = [.iconst 1, .goto 6] := rfl
theorem b301_5 : blk 301 5 = [.iconst 0, .goto 6] := rfl
theorem b301_6 : blk 301 6 = [.istore 1, .iinc 2 1, .goto 1] := rfl
theorem b301_7 : blk 301 7 = [.iconst 0, .istore 2, .goto 8] := rfl
theorem b301_8 : blk 301 8 = [.iload 2, .aload 0, .ifnonnull 9219, .invokeinterface 34856 1, .if_icmp .ge 10, .aload 0, .ifnonnull 9291, .iload 2, .baload, .ifCond .eq 9, .aload 0, .iload 2, .aload 0, .iload 2, .aload 0, .ifnonnull 9275, .iload 2, .iaload, .invokeinterface 71504 3, .invokeinterface 75348 3, .goto 9] := rfl
theorem b301_9 : blk 301 9 = [.iinc 2 1, .goto 8] := rfl
theorem b301_10 : blk 301 10 = [.iload 1, .freturn] := rfl
theorem en301 {a0 : Int} : ent 301 [(3, a0)] = [(3, a0), (9, 0), (9, 0)] := rfl
theorem b302_0 : blk 302 0 = [.iload 1, .istore 2, .iconst 0, .istore 3, .goto 1] := rfl
theorem b302_1 : blk 302 1 = [.iload 3, .iconst 24, .if_icmp .ge 3, .iload 2, .ifCond .lt 3, .aload 0, .aload 0, .iload 2, .aload 0, .ifnonnull 9275, .iload 2, .iaload, .invokeinterface 71504 3, .invokeinterface 77648 2, .istore 2, .iload 2, .iload 1, .if_icmp .ne 2, .iconst 1, .freturn] := rfl
theorem b302_2 : blk 302 2 = [.iinc 3 1, .goto 1] := rfl
theorem b302_3 : blk 302 3 = [.iconst 0, .freturn] := rfl
theorem en302 {a0 a1 : Int} : ent 302 [(3, a0), (0, a1)] = [(3, a0), (0, a1), (9, 0), (9, 0)] := rfl
theorem b303_0 : blk 303 0 = [.iconst (-1), .istore 2, .iconst 0, .istore 3, .goto 1] := rfl
theorem b303_1 : blk 303 1 = [.iload 3, .aload 0, .ifnonnull 9219, .invokeinterface 34856 1, .if_icmp .ge 4, .aload 0, .iload 3, .invokeinterface 76880 2, .ifCond .eq 3, .iload 2, .ifCond .lt 2, .aload 0, .iload 3, .iload 2, .iload 1, .invokeinterface 75856 4, .ifCond .eq 3, .goto 2] := rfl
theorem b303_2 : blk 303 2 = [.iload 3, .istore 2, .goto 3] := rfl
theorem b303_3 : blk 303 3 = [.iinc 3 1, .goto 1] := rfl
theorem b303_4 : blk 303 4 = [.iload 2, .ireturn] := rfl
theorem en303 {a0 a1 : Int} : ent 303 [(3, a0), (0, a1)] = [(3, a0), (0, a1), (9, 0), (9, 0)] := rfl
theorem b304_0 : blk 304 0 = [.aload 0, .ifnonnull 27, .iload 1, .i2l, .invokeinterface 36904 2, .ifCond .eq 1, .aload 0, .ifnonnull 59, .iload 1, .invokeinterface 78160 2, .goto 2] := rfl
theorem b304_1 : blk 304 1 = [.iconst (-1), .goto 2] := rfl
theorem b304_2 : blk 304 2 = [.ireturn] := rfl
theorem en304 {a0 a1 : Int} : ent 304 [(3, a0), (0, a1)] = [(3, a0), (0, a1)] := rfl
theorem b305_0 : blk 305 0 = [.aload 0, .ifnonnull 9219, .iload 1, .i2l, .invokeinterface 36904 2, .ifCond .eq 1, .aload 0, .ifnonnull 9259, .iload 1, .iaload, .goto 2] := rfl
theorem b305_1 : blk 305 1 = [.iconst (-9), .goto 2] := rfl
theorem b305_2 : blk 305 2 = [.ireturn] := rfl
theorem en305 {a0 a1 : Int} : ent 305 [(3, a0), (0, a1)] = [(3, a0), (0, a1)] := rfl
theorem b306_0 : blk 306 0 = [.aload 0, .ifnonnull 59, .invokeinterface 78672 1, .ifCond .eq 1, .aload 0, .ifnonnull 59, .invokeinterface 78928 1, .goto 2] := rfl
theorem b306_1 : blk 306 1 = [.iconst (-2), .goto 2] := rfl
theorem b306_2 : blk 306 2 = [.ireturn] := rfl
theorem en306 {a0 : Int} : ent 306 [(3, a0)] = [(3, a0)] := rfl
theorem b307_0 : blk 307 0 = [.aload 0, .ifnull 9268, .freturn] := rfl
theorem en307 {a0 : Int} : ent 307 [(3, a0)] = [(3, a0)] := rfl
theorem b308_0 : blk 308 0 = [.aload 0, .invokeinterface 74324 1, .iconst 0, .istore 1, .goto 1] := rfl
theorem b308_1 : blk 308 1 = [.iload 1, .aload 0, .ifnonnull 9219, .invokeinterface 34856 1, .if_icmp .ge 5, .iconst 0, .istore 2, .goto 2] := rfl
theorem b308_2 : blk 308 2 = [.iload 2, .aload 0, .ifnull 9227, .iconst 5, .invokeinterface 14680 2, .if_icmp .ge 4, .aload 0, .iload 1, .iload 2, .invokeinterface 79184 3, .ifCond .eq 3, .aload 0, .iload 1, .iload 2, .invokeinterface 79440 3, .ifCond .eq 3, .iconst 1, .iconst 100, .iload 1, .imul, .iadd, .iload 2, .iadd, .ireturn] := rfl
theorem b308_3 : blk 308 3 = [.iinc 2 1, .goto 2] := rfl
theorem b308_4 : blk 308 4 = [.iinc 1 1, .goto 1] := rfl
theorem b308_5 : blk 308 5 = [.iconst 0, .ireturn] := rfl
theorem en308 {a0 : Int} : ent 308 [(3, a0)] = [(3, a0), (9, 0), (9, 0)] := rfl
theorem b309_0 : blk 309 0 = [.aload 0, .iload 1, .iload 2, .invokeinterface 71248 3, .istore 3, .iload 3, .ifCond .lt 2, .aload 0, .ifnonnull 9259, .iload 1, .iaload, .iconst (-9), .if_icmp .eq 1, .iload 3, .aload 0, .iload 1, .aload 0, .ifnonnull 9259, .iload 1, .iaload, .invokeinterface 71248 3, .if_icmp .ge 2, .goto 1] := rfl
theorem b309_1 : blk 309 1 = [.iconst 1, .goto 3] := rfl
theorem b309_2 : blk 309 2 = [.iconst 0, .goto 3] := rfl
theorem b309_3 : blk 309 3 = [.freturn] := rfl
theorem en309 {a0 a1 a2 : Int} : ent 309 [(3, a0), (0, a1), (0, a2)] = [(3, a0), (0, a1), (0, a2), (9, 0)] := rfl
theorem b310_0 : blk 310 0 = [.aload 0, .iload 2, .invokeinterface 75600 2, .istore 3, .aload 0, .iload 2, .invokeinterface 75088 2, .ifCond .ne 1, .iload 3, .ifCond .lt 2, .aload 0, .iload 1, .iload 3, .iload 2, .invokeinterface 75856 4, .ifCond .eq 2, .goto 1] := rfl
theorem b310_1 : blk 310 1 = [.iconst 1, .goto 3] := rfl
theorem b310_2 : blk 310 2 = [.iconst 0, .goto 3] := rfl
theorem b310_3 : blk 310 3 = [.freturn] := rfl
theorem en310 {a0 a1 a2 : Int} : ent 310 [(3, a0), (0, a1), (0, a2)] = [(3, a0), (0, a1), (0, a2), (9, 0)] := rfl
theorem b311_0 : blk 311 0 = [.aload 0, .iload 1, .iload 2, .iload 3, .invokeinterface 64008 4, .ifCond .ne 1, .iconst (-1), .ireturn] := rfl
theorem b311_1 : blk 311 1 = [.aload 0, .ifnonnull 51, .iload 1, .iload 2, .iload 3, .iconst 1, .if_icmp .ne 2, .iconst 1, .goto 3] := rfl
theorem b311_2 : blk 311 2 = [.iconst 0, .goto 3] := rfl
theorem b311_3 : blk 311 3 = [.invokeinterface 79948 4, .iconst 0, .ireturn] := rfl
theorem en311 {a0 a1 a2 a3 : Int} : ent 311 [(3, a0), (0, a1), (0, a2), (0, a3)] = [(3, a0), (0, a1), (0, a2), (0, a3)] := rfl
theorem b312_0 : blk 312 0 = [.iload 1, .ifCond .lt 1, .iload 1, .aload 0, .ifnonnull 8211, .arraylength, .if_icmp .lt 2, .goto 1] := rfl
theorem b312_1 : blk 312 1 = [.return_] := rfl
theorem b312_2 : blk 312 2 = [.aload 0, .ifnonnull 8211, .iload 1, .iload 3, .ifCond .eq 3, .aload 0, .ifnonnull 8211, .iload 1, .iaload, .iconst 1, .iload 2, .ishl, .ior, .goto 4] := rfl
theorem b312_3 : blk 312 3 = [.aload 0, .ifnonnull 8211, .iload 1, .iaload, .iconst 1, .iload 2, .ishl, .iconst (-1), .ixor, .iand, .goto 4] := rfl
theorem b312_4 : blk 312 4 = [.iastore, .return_] := rfl
theorem en312 {a0 a1 a2 a3 : Int} : ent 312 [(3, a0), (0, a1), (0, a2), (0, a3)] = [(3, a0), (0, a1), (0, a2), (0, a3)] := rfl
theorem b313_0 : blk 313 0 = [.aload 0, .ifnonnull 43, .iload 1, .invokeinterface 64320 2, .ifCond .ne 1, .iconst (-1), .ireturn] := rfl
theorem b313_1 : blk 313 1 = [.aload 0, .ifnonnull 43, .invokeinterface 69184 1, .ifCond .ne 2, .iconst (-2), .ireturn] := rfl
theorem b313_2 : blk 313 2 = [.aload 0, .ifnonnull 51, .iload 1, .invokeinterface 80456 2, .ireturn] := rfl
theorem en313 {a0 a1 : Int} : ent 313 [(3, a0), (0, a1)] = [(3, a0), (0, a1)] := rfl
theorem b314_0 : blk 314 0 = [.aload 0, .iload 1, .jsr_w 8272, .aload 0, .iconst 1, .jsr_w 8228, .aload 0, .iconst 0, .jsr_w 8240, .iconst 0, .istore 2, .iconst 0, .istore 3, .goto 1] := rfl
theorem b314_1 : blk 314 1 = [.iload 3, .aload 0, .ifnull 8203, .ifnull 10328, .if_icmp .ge 4, .aload 0, .ifnonnull 8219, .iload 3, .iconst (-9), .iastore, .aload 0, .ifnonnull 8195, .iload 3, .invokeinterface 70464 2, .iload 1, .if_icmp .eq 2, .goto 3] := rfl
theorem b314_2 : blk 314 2 = [.iload 2, .iconst 1, .aload 0, .iload 3, .invokeinterface 80712 2, .ishl, .ior, .istore 2, .aload 0, .aload 0, .iload 3, .invokeinterface 80712 2, .invokeinterface 80968 2, .ifCond .eq 3, .aload 0, .ifnull 8240, .iconst 6, .if_icmp .ge 3, .aload 0, .ifnonnull 8235, .aload 0, .ifnull 8240, .iload 3, .iastore, .aload 0, .dup, .ifnull 8240, .iconst 1, .iadd, .jsr_w 8240, .goto 3] := rfl
theorem b314_3 : blk 314 3 = [.iinc 3 1, .goto 1] := rfl
theorem b314_4 : blk 314 4 = [.aload 0, .iconst (-1), .jsr_w 8264, .aload 0, .iconst 0, .iload 2, .iconst 0, .invokeinterface 81228 4, .iconst 0, .istore 3, .goto 5] := rfl
theorem b314_5 : blk 314 5 = [.iload 3, .aload 0, .ifnull 8240, .if_icmp .ge 6, .aload 0, .ifnonnull 8219, .aload 0, .ifnonnull 8235, .iload 3, .iaload, .aload 0, .ifnonnull 8259, .iload 3, .iaload, .iastore, .iinc 3 1, .goto 5] := rfl
theorem b314_6 : blk 314 6 = [.aload 0, .ifnull 8240, .aload 0, .ifnull 8264, .isub, .ireturn] := rfl
theorem en314 {a0 a1 : Int} : ent 314 [(3, a0), (0, a1)] = [(3, a0), (0, a1), (9, 0), (9, 0)] := rfl
theorem b315_0 : blk 315 0 = [.aload 0, .ifnull 8203, .ifnonnull 10307, .aload 0, .ifnull 8203, .ifnonnull 10323, .iload 1, .iaload, .iaload, .ireturn] := rfl
theorem en315 {a0 a1 : Int} : ent 315 [(3, a0), (0, a1)] = [(3, a0), (0, a1)] := rfl
theorem b316_0 : blk 316 0 = [.iload 1, .ifCond .lt 1, .iload 1, .aload 0, .ifnonnull 8211, .arraylength, .if_icmp .ge 1, .aload 0, .ifnonnull 8211, .iload 1, .iaload, .aload 0, .ifnull 8272, .ishr, .iconst 1, .iand, .iconst 1, .if_icmp .ne 1, .iconst 1, .goto 2] := rfl
theorem b316_1 : blk 316 1 = [.iconst 0, .goto 2] := rfl
theorem b316_2 : blk 316 2 = [.freturn] := rfl
theorem en316 {a0 a1 : Int} : ent 316 [(3, a0), (0, a1)] = [(3, a0), (0, a1)] := rfl
theorem b317_0 : blk 317 0 = [.iload 3, .aload 0, .ifnull 8240, .iadd, .iload 1, .isub, .aload 0, .ifnull 8264, .if_icmp .gt 1, .return_] := rfl
theorem b317_1 : blk 317 1 = [.iload 1, .aload 0, .ifnull 8240, .if_icmp .ge 2, .iload 1, .iconst 6, .if_icmp .lt 5, .goto 2] := rfl
theorem b317_2 : blk 317 2 = [.aload 0, .iload 3, .jsr_w 8264, .iconst 0, .istore 4, .goto 3] := rfl
theorem b317_3 : blk 317 3 = [.iload 4, .aload 0, .ifnull 8240, .if_icmp .ge 4, .aload 0, .ifnonnull 8259, .iload 4, .aload 0, .ifnonnull 8251, .iload 4, .iaload, .iastore, .iinc 4 1, .goto 3] := rfl
theorem b317_4 : blk 317 4 = [.return_] := rfl
theorem b317_5 : blk 317 5 = [.aload 0, .ifnull 8203, .ifnonnull 10291, .aload 0, .ifnull 8203, .ifnonnull 10323, .aload 0, .ifnonnull 8235, .iload 1, .iaload, .iaload, .iaload, .istore 4, .iconst 0, .istore 5, .goto 6] := rfl
theorem b317_6 : blk 317 6 = [.iload 5, .aload 0, .ifnull 8203, .iconst 2, .invokeinterface 14680 2, .if_icmp .ge 9, .iload 2, .iload 5, .ishr, .iconst 1, .iand, .iconst 1, .if_icmp .eq 8, .aload 0, .ifnull 8203, .iload 5, .iload 4, .invokeinterface 18008 3, .ifCond .eq 8, .aload 0, .iload 5, .invokeinterface 80968 2, .ifCond .ne 8, .aload 0, .ifnonnull 8195, .iload 5, .aload 0, .ifnull 8272, .invokeinterface 81472 3, .ifCond .eq 7, .goto 8] := rfl
theorem b317_7 : blk 317 7 = [.aload 0, .ifnonnull 8251, .iload 1, .iload 5, .iastore, .aload 0, .iload 1, .iconst 1, .iadd, .iload 2, .iconst 1, .iload 5, .ishl, .ior, .iload 3, .iconst 1, .iadd, .invokeinterface 81228 4, .goto 8] := rfl
theorem b317_8 : blk 317 8 = [.iinc 5 1, .goto 6] := rfl
theorem b317_9 : blk 317 9 = [.aload 0, .ifnonnull 8251, .iload 1, .iconst (-9), .iastore, .aload 0, .iload 1, .iconst 1, .iadd, .iload 2, .iload 3, .invokeinterface 81228 4, .return_] := rfl
theorem en317 {a0 a1 a2 a3 : Int} : ent 317 [(3, a0), (0, a1), (0, a2), (0, a3)] = [(3, a0), (0, a1), (0, a2), (0, a3), (9, 0), (9, 0)] := rfl
theorem b318_0 : blk 318 0 = [.iload 1, .ifCond .lt 1, .iload 1, .iconst 10, .if_icmp .ge 1, .aload 0, .ifnonnull 7187, .iload 1, .iaload, .iload 2, .ishr, .iconst 1, .iand, .iconst 1, .if_icmp .ne 1, .iconst 1, .goto 2] := rfl
theorem b318_1 : blk 318 1 = [.iconst 0, .goto 2] := rfl
theorem b318_2 : blk 318 2 = [.freturn] := rfl
theorem en318 {a0 a1 a2 : Int} : ent 318 [(3, a0), (0, a1), (0, a2)] = [(3, a0), (0, a1), (0, a2)] := rfl
theorem b319_0 : blk 319 0 = [.iload 1, .ifCond .lt 1, .iload 1, .aload 0, .ifnull 67, .ifnull 10328, .if_icmp .lt 2, .goto 1] := rfl
theorem b319_1 : blk 319 1 = [.iconst (-1), .ireturn] := rfl
theorem b319_2 : blk 319 2 = [.aload 0, .ifnonnull 43, .invokeinterface 69184 1, .ifCond .eq 3, .aload 0, .ifnonnull 51, .invokeinterface 81992 1, .ifCond .ne 4, .goto 3] := rfl
theorem b319_3 : blk 319 3 = [.iconst (-2), .ireturn] := rfl
theorem b319_4 : blk 319 4 = [.aload 0, .ifnonnull 51, .iload 1, .invokeinterface 82248 2, .ireturn] := rfl
theorem en319 {a0 a1 : Int} : ent 319 [(3, a0), (0, a1)] = [(3, a0), (0, a1)] := rfl
theorem b320_0 : blk 320 0 = [.aload 0, .ifnull 8228, .freturn] := rfl
theorem en320 {a0 : Int} : ent 320 [(3, a0)] = [(3, a0)] := rfl
theorem b321_0 : blk 321 0 = [.iload 1, .ifCond .lt 1, .iload 1, .aload 0, .ifnonnull 8219, .arraylength, .if_icmp .ge 1, .aload 0, .ifnonnull 8219, .iload 1, .iaload, .goto 2] := rfl
theorem b321_1 : blk 321 1 = [.iconst (-9), .goto 2] := rfl
theorem b321_2 : blk 321 2 = [.ireturn] := rfl
theorem en321 {a0 a1 : Int} : ent 321 [(3, a0), (0, a1)] = [(3, a0), (0, a1)] := rfl
theorem b322_0 : blk 322 0 = [.aload 0, .monitorexit, .aload 0, .iconst 2400, .newarray .byte, .if_acmp .eq 11267, .aload 0, .goto_w 1561, .dup, .invokeinterface 82796 1, .jsr_w 11339, .aload 0, .goto_w 1561, .dup, .invokeinterface 82796 1, .jsr_w 11347, .aload 0, .iconst 38, .anewarray 38, .dup, .iconst 0, .jsr (-1971), .aastore, .dup, .iconst 1, .jsr (-2099), .aastore, .dup, .iconst 2, .jsr (-2227), .aastore, .dup, .iconst 3, .jsr (-2355), .aastore, .dup, .iconst 4, .jsr (-2483), .aastore, .dup, .iconst 5, .jsr (-2611), .aastore, .dup, .iconst 6, .jsr (-2739), .aastore, .dup, .iconst 7, .jsr (-2867), .aastore, .dup, .iconst 8, .jsr (-2995), .aastore, .dup, .iconst 9, .jsr (-3123), .aastore, .dup, .iconst 10, .jsr (-3251), .aastore, .dup, .iconst 11, .jsr (-1459), .aastore, .dup, .iconst 12, .jsr (-3379), .aastore, .dup, .iconst 13, .jsr (-1587), .aastore, .dup, .iconst 14, .jsr (-3507), .aastore, .dup, .iconst 15, .jsr (-1715), .aastore, .dup, .iconst 16, .jsr (-1843), .aastore, .dup, .iconst 17, .jsr (-3635), .aastore, .dup, .iconst 18, .jsr (-3763), .aastore, .dup, .iconst 19, .jsr (-3891), .aastore, .dup, .iconst 20, .jsr (-4019), .aastore, .dup, .iconst 21, .jsr (-4147), .aastore, .dup, .iconst 22, .jsr (-4275), .aastore, .dup, .iconst 23, .jsr (-4403), .aastore, .dup, .iconst 24, .jsr (-4531), .aastore, .dup, .iconst 25, .jsr (-4659), .aastore, .dup, .iconst 26, .jsr (-4787), .aastore, .dup, .iconst 27, .jsr (-1331), .aastore, .dup, .iconst 28, .jsr (-4915), .aastore, .dup, .iconst 29, .jsr (-5043), .aastore, .dup, .iconst 30, .jsr (-5171), .aastore, .dup, .iconst 31, .jsr (-5299), .aastore, .dup, .iconst 32, .jsr (-5427), .aastore, .dup, .iconst 33, .jsr (-5555), .aastore, .dup, .iconst 34, .jsr (-5683), .aastore, .dup, .iconst 35, .jsr (-5811), .aastore, .dup, .iconst 36, .jsr (-5939), .aastore, .dup, .iconst 37, .jsr (-6067), .aastore, .if_acmp .eq 11355, .aload 0, .iconst 420, .newarray .long, .if_acmp .eq 11379, .aload 0, .iconst 402, .newarray .long, .if_acmp .eq 11395, .aload 0, .iconst 402, .newarray .int, .if_acmp .eq 11403, .aload 0, .iconst 402, .newarray .int, .if_acmp .eq 11411, .aload 0, .iconst 402, .newarray .long, .if_acmp .eq 11427, .aload 0, .iconst 402, .newarray .int, .if_acmp .eq 11435, .aload 0, .iconst 402, .newarray .int, .if_acmp .eq 11443, .aload 0, .iconst 402, .newarray .int, .if_acmp .eq 11451, .aload 0, .iconst 24, .newarray .int, .if_acmp .eq 11475, .aload 0, .iconst 24, .newarray .int, .if_acmp .eq 11483, .aload 0, .iconst 24, .newarray .int, .if_acmp .eq 11491, .aload 0, .iconst 192, .newarray .int, .if_acmp .eq 11499, .aload 0, .iconst 6000, .newarray .int, .if_acmp .eq 11515, .aload 0, .iconst 6000, .newarray .int, .if_acmp .eq 11523, .aload 0, .iconst 384000, .newarray .long, .if_acmp .eq 11531, .aload 0, .iconst 600, .newarray .int, .if_acmp .eq 11539, .aload 0, .iconst 600, .newarray .long, .if_acmp .eq 11547, .aload 0, .iconst 3360, .newarray .int, .if_acmp .eq 11563, .aload 0, .iconst 3360, .newarray .long, .if_acmp .eq 11571, .aload 0, .iconst 3216, .newarray .int, .if_acmp .eq 11579, .aload 0, .iconst 3216, .newarray .int, .if_acmp .eq 11587, .aload 0, .iconst 8, .newarray .int, .if_acmp .eq 11603, .aload 0, .iconst 8, .newarray .int, .if_acmp .eq 11611, .aload 0, .iconst 4000, .newarray .int, .if_acmp .eq 11627, .aload 0, .iconst 4000, .newarray .int, .if_acmp .eq 11635, .aload 0, .iconst 4000, .newarray .int, .if_acmp .eq 11643, .aload 0, .iconst 4000, .newarray .int, .if_acmp .eq 11651, .aload 0, .iconst 4000, .newarray .int, .if_acmp .eq 11659, .aload 0, .iconst 4000, .newarray .int, .if_acmp .eq 11667, .aload 0, .iconst 4000, .newarray .long, .if_acmp .eq 11675, .aload 0, .iconst 64, .newarray .long, .if_acmp .eq 11747, .aload 0, .iconst (-9), .jsr_w 11752, .aload 0, .iconst 24, .newarray .int, .if_acmp .eq 11763, .aload 0, .iconst 24, .newarray .int, .if_acmp .eq 11771, .aload 0, .iconst 24, .newarray .double, .if_acmp .eq 11779, .aload 0, .iconst 4, .jsr_w 11784, .aload 0, .iconst 10, .newarray .int, .if_acmp .eq 11795, .aload 0, .iconst 10, .newarray .int, .if_acmp .eq 11803, .aload 0, .iconst 240, .newarray .int, .if_acmp .eq 11811, .aload 0, .iconst 36, .newarray .int, .if_acmp .eq 11859, .aload 0, .iconst 36, .newarray .int, .if_acmp .eq 11867, .aload 0, .iconst 36, .newarray .int, .if_acmp .eq 11875, .aload 0, .iconst 36, .newarray .int, .if_acmp .eq 11883, .aload 0, .iconst 36, .newarray .int, .if_acmp .eq 11891, .aload 0, .iconst 36, .newarray .int, .if_acmp .eq 11899, .aload 0, .iconst 37, .newarray .int, .if_acmp .eq 11907, .aload 0, .iconst 37, .newarray .int, .if_acmp .eq 11915, .aload 0, .iconst 24, .newarray .int, .if_acmp .eq 11923, .aload 0, .iconst 192, .newarray .int, .if_acmp .eq 11931, .aload 0, .iconst 192, .newarray .int, .if_acmp .eq 11939, .aload 0, .iconst 24, .newarray .int, .if_acmp .eq 11947, .aload 0, .iconst 24, .newarray .int, .if_acmp .eq 11963, .aload 0, .iconst 24, .newarray .boolean, .if_acmp .eq 11971, .aload 0, .iconst 24, .newarray .boolean, .if_acmp .eq 11979, .aload 0, .iconst 8, .newarray .int, .if_acmp .eq 11987, .aload 0, .iconst 36, .newarray .int, .if_acmp .eq 11995, .aload 0, .iconst 36, .newarray .int, .if_acmp .eq 12003, .aload 0, .iconst 7168, .newarray .int, .if_acmp .eq 12019, .return_] := rfl
theorem en322 {a0 : Int} : ent 322 [(3, a0)] = [(3, a0)] := rfl
theorem b323_0 : blk 323 0 = [.aload 0, .monitorexit, .aload 0, .iconst 7, .newarray .int, .if_acmp .eq 12291, .aload 0, .iconst 112, .newarray .long, .if_acmp .eq 12299, .aload 0, .iconst 6, .newarray .int, .if_acmp .eq 12307, .aload 0, .iconst 10, .newarray .int, .if_acmp .eq 12315, .aload 0, .iconst 10, .newarray .int, .if_acmp .eq 12323, .aload 0, .iconst 8, .newarray .int, .if_acmp .eq 12331, .aload 0, .iconst 12, .newarray .int, .if_acmp .eq 12339, .aload 0, .iconst 12, .newarray .int, .if_acmp .eq 12347, .aload 0, .iconst 12, .newarray .int, .if_acmp .eq 12355, .aload 0, .iconst 12, .newarray .int, .if_acmp .eq 12363, .aload 0, .iconst 8, .newarray .int, .if_acmp .eq 12371, .aload 0, .iconst 12, .newarray .int, .if_acmp .eq 12379, .aload 0, .iconst 12, .newarray .int, .if_acmp .eq 12387, .aload 0, .iconst 12, .newarray .int, .if_acmp .eq 12395, .aload 0, .iconst 6000, .newarray .int, .if_acmp .eq 12419, .aload 0, .iconst 6000, .newarray .int, .if_acmp .eq 12427, .aload 0, .iconst 6000, .newarray .int, .if_acmp .eq 12435, .aload 0, .iconst 401, .newarray .double, .if_acmp .eq 12443, .aload 0, .iconst 3208, .newarray .int, .if_acmp .eq 12475, .aload 0, .iconst 401, .newarray .int, .if_acmp .eq 12483, .return_] := rfl
theorem en323 {a0 : Int} : ent 323 [(3, a0)] = [(3, a0)] := rfl
theorem b324_0 : blk 324 0 = [.iload 1, .iconst 1, .if_icmp .lt 1, .iload 1, .iconst 8, .if_icmp .le 2, .goto 1] := rfl
theorem b324_1 : blk 324 1 = [.iconst (-1), .ireturn] := rfl
theorem b324_2 : blk 324 2 = [.aload 0, .ifnull 11272, .iload 1, .iadd, .iconst 2400, .if_icmp .le 3, .iconst (-3), .ireturn] := rfl
theorem b324_3 : blk 324 3 = [.iconst 0, .istore 4, .goto 4] := rfl
theorem b324_4 : blk 324 4 = [.iload 4, .iload 1, .if_icmp .ge 5, .aload 0, .ifnonnull 11267, .aload 0, .ifnull 11272, .lload 2, .iconst 8, .iload 4, .imul, .lshr, .l2i, .i2b, .bastore, .aload 0, .dup, .ifnull 11272, .iconst 1, .iadd, .jsr_w 11272, .iinc 4 1, .goto 4] := rfl
theorem b324_5 : blk 324 5 = [.aload 0, .ifnull 11272, .ireturn] := rfl
theorem en324 {a0 a1 a2 : Int} : ent 324 [(3, a0), (0, a1), (1, a2)] = [(3, a0), (0, a1), (1, a2), (9, 0), (9, 0)] := rfl
theorem b325_0 : blk 325 0 = [.aload 0, .ifnull 11339, .astore 1, .aload 0, .aload 0, .ifnull 11347, .jsr_w 11339, .iconst 0, .istore 2, .goto 1] := rfl
theorem b325_1 : blk 325 1 = [.iload 2, .iconst 7, .if_icmp .ge 2, .aload 0, .ifnull 11339, .ifnonnull 12291, .iload 2, .iconst 0, .iastore, .iinc 2 1, .goto 1] := rfl
theorem b325_2 : blk 325 2 = [.aload 0, .ifnull 11339, .iconst 0, .jsr_w 12400, .aload 0, .ifnull 11339, .iconst 0, .jsr_w 12408, .aload 0, .ifnull 11339, .iconst 0, .jsr_w 12448, .aload 0, .ifnull 11339, .iconst 0, .jsr_w 12456, .aload 0, .ifnull 11339, .iconst 0, .jsr_w 12464, .aload 0, .iconst (-9), .jsr_w 11320, .aload 0, .iconst (-9), .jsr_w 11328, .aload 0, .iconst 0, .jsr_w 11360, .aload 0, .iconst 0, .jsr_w 11368, .aload 0, .iconst 0, .jsr_w 11456, .aload 0, .iconst 0, .jsr_w 11296, .aload 0, .invokeinterface 83556 1, .goto 3] := rfl
theorem b325_3 : blk 325 3 = [.aload 0, .invokeinterface 84576 1, .ifCond .eq 4, .aload 0, .ifnull 11280, .ifCond .eq 4, .aload 0, .invokeinterface 84836 1, .goto 3] := rfl
theorem b325_4 : blk 325 4 = [.iconst 0, .istore 2, .goto 5] := rfl
theorem b325_5 : blk 325 5 = [.iload 2, .aload 0, .ifnull 11456, .if_icmp .ge 8, .aload 0, .invokeinterface 84576 1, .ifCond .eq 8, .aload 0, .iconst 6, .aload 0, .ifnonnull 11427, .iload 2, .laload, .invokeinterface 86112 3, .istore 3, .iload 3, .iconst (-9), .if_icmp .eq 6, .aload 0, .ifnull 11339, .ifnonnull 12379, .iload 3, .iaload, .aload 0, .ifnonnull 11451, .iload 2, .iaload, .if_icmp .eq 7, .goto 6] := rfl
theorem b325_6 : blk 325 6 = [.aload 0, .aload 0, .ifnonnull 11435, .iload 2, .iaload, .invokeinterface 94820 2, .goto 7] := rfl
theorem b325_7 : blk 325 7 = [.aload 0, .ifnull 11339, .ifnonnull 12427, .aload 0, .ifnonnull 11443, .iload 2, .iaload, .iload 3, .iastore, .iinc 2 1, .goto 5] := rfl
theorem b325_8 : blk 325 8 = [.aload 0, .invokeinterface 84576 1, .ifCond .eq 9, .aload 0, .ifnull 11328, .ifCond .lt 9, .aload 0, .aload 0, .ifnull 11328, .jsr_w 11320, .goto 9] := rfl
theorem b325_9 : blk 325 9 = [.aload 0, .iconst 0, .jsr_w 11272, .aload 0, .invokeinterface 84576 1, .ifCond .ne 10, .aload 0, .aload 1, .jsr_w 11339, .iconst (-10), .aload 0, .ifnull 11320, .isub, .ireturn] := rfl
theorem b325_10 : blk 325 10 = [.aload 0, .aload 1, .jsr_w 11347, .aload 0, .invokeinterface 95076 1, .aload 0, .ifnull 11339, .ifnonnull 12291, .iconst 6, .iaload, .ireturn] := rfl
theorem en325 {a0 : Int} : ent 325 [(3, a0)] = [(3, a0), (9, 0), (9, 0), (9, 0)] := rfl
theorem b326_0 : blk 326 0 = [.aload 0, .ifnull 11296, .istore 1, .goto 1] := rfl
theorem b326_1 : blk 326 1 = [.iload 1, .aload 0, .ifnull 11272, .if_icmp .ge 3, .aload 0, .ifnonnull 11267, .iload 1, .baload, .iconst 32, .if_icmp .eq 2, .aload 0, .ifnonnull 11267, .iload 1, .baload, .iconst 10, .if_icmp .ne 3, .goto 2] := rfl
theorem b326_2 : blk 326 2 = [.iinc 1 1, .goto 1] := rfl
theorem b326_3 : blk 326 3 = [.aload 0, .iload 1, .jsr_w 11288, .aload 0, .iload 1, .jsr_w 11296, .aload 0, .iconst 0, .jsr_w 11280, .iload 1, .aload 0, .ifnull 11272, .if_icmp .ne 4, .return_] := rfl
theorem b326_4 : blk 326 4 = [.aload 0, .ifnonnull 11267, .iload 1, .baload, .istore 2, .aload 0, .dup, .ifnull 11296, .iconst 1, .iadd, .jsr_w 11296, .iload 2, .invokeinterface 83712 1, .ifCond .eq 10, .goto 5] := rfl
theorem b326_5 : blk 326 5 = [.aload 0, .aload 0, .ifnull 11296, .invokeinterface 84064 2, .invokeinterface 83712 1, .ifCond .ne 6, .aload 0, .aload 0, .ifnull 11296, .invokeinterface 84064 2, .invokeinterface 84224 1, .ifCond .eq 7, .goto 6] := rfl
theorem b326_6 : blk 326 6 = [.aload 0, .dup, .ifnull 11296, .iconst 1, .iadd, .jsr_w 11296, .goto 5] := rfl
theorem b326_7 : blk 326 7 = [.aload 0, .aload 0, .ifnull 11296, .aload 0, .ifnull 11288, .isub, .iconst 8, .if_icmp .le 8, .iconst 5, .goto 9] := rfl
theorem b326_8 : blk 326 8 = [.iconst 1, .goto 9] := rfl
theorem b326_9 : blk 326 9 = [.jsr_w 11280, .goto 31] := rfl
theorem b326_10 : blk 326 10 = [.iload 2, .invokeinterface 84224 1, .ifCond .eq 27, .goto 11] := rfl
theorem b326_11 : blk 326 11 = [.aload 0, .aload 0, .ifnull 11296, .invokeinterface 84064 2, .invokeinterface 84224 1, .ifCond .eq 12, .aload 0, .dup, .ifnull 11296, .iconst 1, .iadd, .jsr_w 11296, .goto 11] := rfl
theorem b326_12 : blk 326 12 = [.aload 0, .ifnull 11296, .aload 0, .ifnull 11288, .isub, .istore 3, .aload 0, .iload 3, .iconst 6, .if_icmp .le 13, .iconst 5, .goto 14] := rfl
theorem b326_13 : blk 326 13 = [.iconst 2, .goto 14] := rfl
theorem b326_14 : blk 326 14 = [.jsr_w 11280, .aload 0, .iconst 0, .jsr_w 11304, .aload 0, .ifnull 11288, .istore 4, .goto 15] := rfl
theorem b326_15 : blk 326 15 = [.iload 4, .aload 0, .ifnull 11296, .if_icmp .ge 16, .aload 0, .ifnull 11280, .iconst 2, .if_icmp .ne 16, .aload 0, .iconst 10, .aload 0, .ifnull 11304, .imul, .aload 0, .ifnonnull 11267, .iload 4, .baload, .iadd, .iconst 48, .isub, .jsr_w 11304, .iinc 4 1, .goto 15] := rfl
theorem b326_16 : blk 326 16 = [.aload 0, .aload 0, .ifnull 11296, .invokeinterface 84064 2, .iconst 46, .if_icmp .ne 26, .aload 0, .aload 0, .ifnull 11296, .iconst 1, .iadd, .invokeinterface 84064 2, .invokeinterface 84224 1, .ifCond .eq 26, .aload 0, .dup, .ifnull 11296, .iconst 1, .iadd, .jsr_w 11296, .aload 0, .ifnull 11296, .istore 4, .aload 0, .ifnull 11304, .i2l, .lstore 5, .bipush 1, .lstore 7, .goto 17] := rfl
theorem b326_17 : blk 326 17 = [.aload 0, .aload 0, .ifnull 11296, .invokeinterface 84064 2, .invokeinterface 84224 1, .ifCond .eq 22, .aload 0, .ifnull 11296, .iload 4, .isub, .iconst 4, .if_icmp .ge 18, .bipush 10, .lload 5, .lmul, .aload 0, .ifnonnull 11267, .aload 0, .ifnull 11296, .baload, .i2l, .ladd, .bipush 48, .lsub, .goto 19] := rfl
theorem b326_18 : blk 326 18 = [.lload 5, .goto 19] := rfl
theorem b326_19 : blk 326 19 = [.lstore 5, .aload 0, .ifnull 11296, .iload 4, .isub, .iconst 4, .if_icmp .ge 20, .bipush 10, .lload 7, .lmul, .goto 21] := rfl
theorem b326_20 : blk 326 20 = [.lload 7, .goto 21] := rfl
theorem b326_21 : blk 326 21 = [.lstore 7, .aload 0, .dup, .ifnull 11296, .iconst 1, .iadd, .jsr_w 11296, .goto 17] := rfl
theorem b326_22 : blk 326 22 = [.aload 0, .iload 3, .iconst 6, .if_icmp .gt 23, .aload 0, .ifnull 11296, .iload 4, .isub, .iconst 4, .if_icmp .le 24, .goto 23] := rfl
theorem b326_23 : blk 326 23 = [.iconst 5, .goto 25] := rfl
theorem b326_24 : blk 326 24 = [.iconst 3, .goto 25] := rfl
theorem b326_25 : blk 326 25 = [.jsr_w 11280, .aload 0, .lload 5, .l2d, .lload 7, .l2d, .ddiv, .jsr_w 11314, .goto 26] := rfl
theorem b326_26 : blk 326 26 = [.goto 31] := rfl
theorem b326_27 : blk 326 27 = [.aload 0, .iload 2, .iconst 59, .if_icmp .eq 28, .iload 2, .iconst 58, .if_icmp .eq 28, .iload 2, .iconst 44, .if_icmp .eq 28, .iload 2, .iconst 61, .if_icmp .eq 28, .iload 2, .iconst 43, .if_icmp .eq 28, .iload 2, .iconst 45, .if_icmp .eq 28, .iload 2, .iconst 42, .if_icmp .eq 28, .iload 2, .iconst 47, .if_icmp .eq 28, .iload 2, .iconst 37, .if_icmp .eq 28, .iload 2, .iconst 60, .if_icmp .eq 28, .iload 2, .iconst 62, .if_icmp .eq 28, .iload 2, .iconst 40, .if_icmp .eq 28, .iload 2, .iconst 41, .if_icmp .eq 28, .iload 2, .iconst 91, .if_icmp .eq 28, .iload 2, .iconst 93, .if_icmp .eq 28, .iload 2, .iconst 123, .if_icmp .eq 28, .iload 2, .iconst 125, .if_icmp .ne 29, .goto 28] := rfl
theorem b326_28 : blk 326 28 = [.iconst 4, .goto 30] := rfl
theorem b326_29 : blk 326 29 = [.iconst 5, .goto 30] := rfl
theorem b326_30 : blk 326 30 = [.jsr_w 11280, .goto 31] := rfl
theorem b326_31 : blk 326 31 = [.return_] := rfl
theorem en326 {a0 : Int} : ent 326 [(3, a0)] = [(3, a0), (9, 0), (9, 0), (9, 0), (9, 0), (9, 0), (9, 0), (9, 0), (9, 0)] := rfl
theorem b327_0 : blk 327 0 = [.iload 0, .iconst 97, .if_icmp .lt 1, .iload 0, .iconst 122, .if_icmp .gt 1, .iconst 1, .goto 2] := rfl
theorem b327_1 : blk 327 1 = [.iconst 0, .goto 2] := rfl
theorem b327_2 : blk 327 2 = [.freturn] := rfl
theorem en327 {a0 : Int} : ent 327 [(0, a0)] = [(0, a0)] := rfl
theorem b328_0 : blk 328 0 = [.iload 1, .aload 0, .ifnull 11272, .if_icmp .ge 1, .aload 0, .ifnonnull 11267, .iload 1, .baload, .goto 2] := rfl
theorem b328_1 : blk 328 1 = [.iconst 0, .goto 2] := rfl
theorem b328_2 : blk 328 2 = [.ireturn] := rfl
theorem en328 {a0 a1 : Int} : ent 328 [(3, a0), (0, a1)] = [(3, a0), (0, a1)] := rfl
theorem b329_0 : blk 329 0 = [.iload 0, .iconst 48, .if_icmp .lt 1, .iload 0, .iconst 57, .if_icmp .gt 1, .iconst 1, .goto 2] := rfl
theorem b329_1 : blk 329 1 = [.iconst 0, .goto 2] := rfl
theorem b329_2 : blk 329 2 = [.freturn] := rfl
theorem en329 {a0 : Int} : ent 329 [(0, a0)] = [(0, a0)] := rfl
theorem b330_0 : blk 330 0 = [.aload 0, .ifnull 11320, .ifCond .ge 1, .iconst 1, .goto 2] := rfl
theorem b330_1 : blk 330 1 = [.iconst 0, .goto 2] := rfl
theorem b330_2 : blk 330 2 = [.freturn] := rfl
theorem en330 {a0 : Int} : ent 330 [(3, a0)] = [(3, a0)] := rfl
theorem b331_0 : blk 331 0 = [.aload 0, .jsr (-1971), .invokeinterface 85088 2, .ifCond .eq 1, .aload 0, .invokeinterface 83556 1, .aload 0, .iconst 0, .iconst 12, .invokeinterface 85344 3, .pop, .aload 0, .iconst 59, .invokeinterface 86628 2, .goto 8] := rfl
theorem b331_1 : blk 331 1 = [.aload 0, .jsr (-2099), .invokeinterface 85088 2, .ifCond .eq 2, .aload 0, .invokeinterface 83556 1, .aload 0, .iconst 1, .iconst 6, .invokeinterface 85344 3, .istore 1, .aload 0, .ifnull 11339, .ifnonnull 12307, .iload 1, .aload 0, .iconst 1, .iconst 99, .invokeinterface 87136 3, .iastore, .aload 0, .iconst 59, .invokeinterface 86628 2, .goto 8] := rfl
theorem b331_2 : blk 331 2 = [.aload 0, .jsr (-2227), .invokeinterface 85088 2, .ifCond .eq 3, .aload 0, .invokeinterface 87396 1, .goto 8] := rfl
theorem b331_3 : blk 331 3 = [.aload 0, .jsr (-2355), .invokeinterface 85088 2, .ifCond .eq 4, .aload 0, .invokeinterface 83556 1, .aload 0, .iconst 3, .iconst 8, .invokeinterface 85344 3, .istore 1, .aload 0, .ifnull 11339, .ifnonnull 12331, .iload 1, .aload 0, .iconst 1, .iconst 99, .invokeinterface 87136 3, .iastore, .aload 0, .iconst 59, .invokeinterface 86628 2, .goto 8] := rfl
theorem b331_4 : blk 331 4 = [.aload 0, .jsr (-2483), .invokeinterface 85088 2, .ifCond .eq 5, .aload 0, .invokeinterface 87652 1, .goto 8] := rfl
theorem b331_5 : blk 331 5 = [.aload 0, .jsr (-2611), .invokeinterface 85088 2, .ifCond .eq 6, .aload 0, .invokeinterface 83556 1, .aload 0, .iconst 5, .iconst 8, .invokeinterface 85344 3, .istore 1, .aload 0, .ifnull 11339, .ifnonnull 12371, .iload 1, .aload 0, .iconst 1, .iconst 99, .invokeinterface 87136 3, .iastore, .aload 0, .iconst 59, .invokeinterface 86628 2, .goto 8] := rfl
theorem b331_6 : blk 331 6 = [.aload 0, .jsr (-2739), .invokeinterface 85088 2, .ifCond .eq 7, .aload 0, .invokeinterface 88164 1, .goto 8] := rfl
theorem b331_7 : blk 331 7 = [.aload 0, .invokeinterface 86372 1, .goto 8] := rfl
theorem b331_8 : blk 331 8 = [.return_] := rfl
theorem en331 {a0 : Int} : ent 331 [(3, a0)] = [(3, a0), (9, 0)] := rfl
theorem b332_0 : blk 332 0 = [.aload 0, .ifnull 11280, .iconst 1, .if_icmp .ne 1, .aload 0, .ifnull 11296, .aload 0, .ifnull 11288, .isub, .aload 1, .invokeinterface 9328 1, .if_icmp .eq 2, .goto 1] := rfl
theorem b332_1 : blk 332 1 = [.iconst 0, .freturn] := rfl
theorem b332_2 : blk 332 2 = [.iconst 0, .istore 2, .goto 3] := rfl
theorem b332_3 : blk 332 3 = [.iload 2, .aload 1, .invokeinterface 9328 1, .if_icmp .ge 5, .aload 0, .ifnonnull 11267, .aload 0, .ifnull 11288, .iload 2, .iadd, .baload, .aload 1, .iload 2, .invokeinterface 12400 2, .if_icmp .eq 4, .iconst 0, .freturn] := rfl
theorem b332_4 : blk 332 4 = [.iinc 2 1, .goto 3] := rfl
theorem b332_5 : blk 332 5 = [.iconst 1, .freturn] := rfl
theorem en332 {a0 a1 : Int} : ent 332 [(3, a0), (3, a1)] = [(3, a0), (3, a1), (9, 0)] := rfl
theorem b333_0 : blk 333 0 = [.aload 0, .invokeinterface 84576 1, .ifCond .eq 1, .aload 0, .invokeinterface 85600 1, .ifCond .eq 1, .aload 0, .ifnull 11339, .ifnonnull 12291, .iload 1, .iaload, .iload 2, .if_icmp .eq 1, .aload 0, .iload 1, .aload 0, .invokeinterface 85857 1, .invokeinterface 86112 3, .iconst (-9), .if_icmp .eq 2, .goto 1] := rfl
theorem b333_1 : blk 333 1 = [.aload 0, .invokeinterface 86372 1, .iconst 0, .ireturn] := rfl
theorem b333_2 : blk 333 2 = [.aload 0, .ifnull 11339, .ifnonnull 12299, .iconst 16, .iload 1, .imul, .aload 0, .ifnull 11339, .ifnonnull 12291, .iload 1, .iaload, .iadd, .aload 0, .invokeinterface 85857 1, .lastore, .aload 0, .ifnull 11339, .ifnonnull 12291, .iload 1, .dup2, .iaload, .iconst 1, .iadd, .iastore, .aload 0, .invokeinterface 83556 1, .aload 0, .ifnull 11339, .ifnonnull 12291, .iload 1, .iaload, .iconst 1, .isub, .ireturn] := rfl
theorem en333 {a0 a1 a2 : Int} : ent 333 [(3, a0), (0, a1), (0, a2)] = [(3, a0), (0, a1), (0, a2)] := rfl
theorem b334_0 : blk 334 0 = [.aload 0, .ifnull 11280, .iconst 1, .if_icmp .eq 1, .iconst 0, .freturn] := rfl
theorem b334_1 : blk 334 1 = [.iconst 0, .istore 1, .goto 2] := rfl
theorem b334_2 : blk 334 2 = [.iload 1, .aload 0, .ifnonnull 11355, .arraylength, .if_icmp .ge 4, .aload 0, .aload 0, .ifnonnull 11355, .iload 1, .aaload, .invokeinterface 85088 2, .ifCond .eq 3, .iconst 0, .freturn] := rfl
theorem b334_3 : blk 334 3 = [.iinc 1 1, .goto 2] := rfl
theorem b334_4 : blk 334 4 = [.iconst 1, .freturn] := rfl
theorem en334 {a0 : Int} : ent 334 [(3, a0)] = [(3, a0), (9, 0)] := rfl
theorem b335_0 : blk 335 0 = [.bipush 0, .lstore 1, .aload 0, .ifnull 11288, .istore 3, .goto 1] := rfl
theorem b335_1 : blk 335 1 = [.iload 3, .aload 0, .ifnull 11296, .if_icmp .ge 2, .lload 1, .iconst 8, .lshl, .aload 0, .ifnonnull 11267, .iload 3, .baload, .i2l, .lor, .lstore 1, .iinc 3 1, .goto 1] := rfl
theorem b335_2 : blk 335 2 = [.lload 1, .lreturn] := rfl
theorem en335 {a0 : Int} : ent 335 [(3, a0)] = [(3, a0), (9, 0), (9, 0), (9, 0)] := rfl
theorem b336_0 : blk 336 0 = [.iconst 0, .istore 4, .goto 1] := rfl
theorem b336_1 : blk 336 1 = [.iload 4, .aload 0, .ifnull 11339, .ifnonnull 12291, .iload 1, .iaload, .if_icmp .ge 3, .aload 0, .ifnull 11339, .ifnonnull 12299, .iconst 16, .iload 1, .imul, .iload 4, .iadd, .laload, .lload 2, .lcmp, .ifCond .ne 2, .iload 4, .ireturn] := rfl
theorem b336_2 : blk 336 2 = [.iinc 4 1, .goto 1] := rfl
theorem b336_3 : blk 336 3 = [.iconst (-9), .ireturn] := rfl
theorem en336 {a0 a1 a2 : Int} : ent 336 [(3, a0), (0, a1), (1, a2)] = [(3, a0), (0, a1), (1, a2), (9, 0), (9, 0)] := rfl
theorem b337_0 : blk 337 0 = [.aload 0, .ifnull 11320, .ifCond .ge 1, .aload 0, .aload 0, .ifnull 11288, .jsr_w 11320, .goto 1] := rfl
theorem b337_1 : blk 337 1 = [.return_] := rfl
theorem en337 {a0 : Int} : ent 337 [(3, a0)] = [(3, a0)] := rfl
theorem b338_0 : blk 338 0 = [.aload 0, .invokeinterface 84576 1, .ifCond .eq 1, .aload 0, .iload 1, .invokeinterface 86880 2, .ifCond .eq 1, .aload 0, .invokeinterface 83556 1, .goto 2] := rfl
theorem b338_1 : blk 338 1 = [.aload 0, .invokeinterface 86372 1, .goto 2] := rfl
theorem b338_2 : blk 338 2 = [.return_] := rfl
theorem en338 {a0 a1 : Int} : ent 338 [(3, a0), (0, a1)] = [(3, a0), (0, a1)] := rfl
theorem b339_0 : blk 339 0 = [.aload 0, .ifnull 11280, .iconst 4, .if_icmp .ne 1, .aload 0, .ifnonnull 11267, .aload 0, .ifnull 11288, .baload, .iload 1, .if_icmp .ne 1, .iconst 1, .goto 2] := rfl
theorem b339_1 : blk 339 1 = [.iconst 0, .goto 2] := rfl
theorem b339_2 : blk 339 2 = [.freturn] := rfl
theorem en339 {a0 a1 : Int} : ent 339 [(3, a0), (0, a1)] = [(3, a0), (0, a1)] := rfl
theorem b340_0 : blk 340 0 = [.aload 0, .invokeinterface 84576 1, .ifCond .eq 1, .aload 0, .ifnull 11280, .iconst 2, .if_icmp .ne 1, .aload 0, .ifnull 11304, .iload 1, .if_icmp .lt 1, .aload 0, .ifnull 11304, .iload 2, .if_icmp .gt 1, .aload 0, .ifnull 11304, .istore 3, .aload 0, .invokeinterface 83556 1, .iload 3, .ireturn] := rfl
theorem b340_1 : blk 340 1 = [.aload 0, .invokeinterface 86372 1, .iload 1, .ireturn] := rfl
theorem en340 {a0 a1 a2 : Int} : ent 340 [(3, a0), (0, a1), (0, a2)] = [(3, a0), (0, a1), (0, a2), (9, 0)] := rfl
theorem b341_0 : blk 341 0 = [.aload 0, .invokeinterface 83556 1, .aload 0, .iconst 2, .iconst 10, .invokeinterface 85344 3, .istore 1, .aload 0, .ifnull 11339, .ifnonnull 12315, .iload 1, .aload 0, .jsr (-2867), .invokeinterface 85088 2, .ifCond .eq 1, .iconst 2, .goto 3] := rfl
theorem b341_1 : blk 341 1 = [.aload 0, .jsr (-2995), .invokeinterface 85088 2, .ifCond .eq 2, .iconst 3, .goto 3] := rfl
theorem b341_2 : blk 341 2 = [.iconst 4, .goto 3] := rfl
theorem b341_3 : blk 341 3 = [.iastore, .aload 0, .invokeinterface 84576 1, .ifCond .eq 4, .aload 0, .ifnull 11339, .ifnonnull 12315, .iload 1, .iaload, .iconst 4, .if_icmp .ne 4, .aload 0, .jsr (-3123), .invokeinterface 85088 2, .ifCond .ne 4, .aload 0, .invokeinterface 86372 1, .goto 4] := rfl
theorem b341_4 : blk 341 4 = [.aload 0, .invokeinterface 84576 1, .ifCond .eq 5, .aload 0, .invokeinterface 83556 1, .goto 5] := rfl
theorem b341_5 : blk 341 5 = [.aload 0, .iconst 58, .invokeinterface 86628 2, .aload 0, .ifnull 11339, .ifnonnull 12323, .iload 1, .iconst 0, .iastore, .iconst 1, .istore 2, .goto 6] := rfl
theorem b341_6 : blk 341 6 = [.aload 0, .invokeinterface 84576 1, .ifCond .eq 15, .iload 2, .ifCond .eq 15, .aload 0, .invokeinterface 85600 1, .ifCond .eq 7, .aload 0, .iconst 0, .aload 0, .invokeinterface 85857 1, .invokeinterface 86112 3, .goto 8] := rfl
theorem b341_7 : blk 341 7 = [.iconst (-9), .goto 8] := rfl
theorem b341_8 : blk 341 8 = [.istore 3, .iload 3, .iconst (-9), .if_icmp .eq 9, .aload 0, .ifnull 11339, .ifnonnull 12323, .iload 1, .iaload, .iload 3, .ishr, .iconst 1, .iand, .iconst 1, .if_icmp .ne 10, .goto 9] := rfl
theorem b341_9 : blk 341 9 = [.aload 0, .invokeinterface 86372 1, .goto 11] := rfl
theorem b341_10 : blk 341 10 = [.aload 0, .ifnull 11339, .ifnonnull 12323, .iload 1, .dup2, .iaload, .iconst 1, .iload 3, .ishl, .ior, .iastore, .aload 0, .invokeinterface 83556 1, .goto 11] := rfl
theorem b341_11 : blk 341 11 = [.aload 0, .invokeinterface 84576 1, .ifCond .eq 12, .aload 0, .iconst 44, .invokeinterface 86880 2, .ifCond .eq 12, .iconst 1, .goto 13] := rfl
theorem b341_12 : blk 341 12 = [.iconst 0, .goto 13] := rfl
theorem b341_13 : blk 341 13 = [.istore 2, .iload 2, .ifCond .eq 14, .aload 0, .invokeinterface 83556 1, .goto 14] := rfl
theorem b341_14 : blk 341 14 = [.goto 6] := rfl
theorem b341_15 : blk 341 15 = [.aload 0, .iconst 59, .invokeinterface 86628 2, .return_] := rfl
theorem en341 {a0 : Int} : ent 341 [(3, a0)] = [(3, a0), (9, 0), (9, 0), (9, 0)] := rfl
theorem b342_0 : blk 342 0 = [.aload 0, .invokeinterface 83556 1, .aload 0, .iconst 4, .iconst 12, .invokeinterface 85344 3, .istore 1, .aload 0, .iconst 58, .invokeinterface 86628 2, .aload 0, .ifnull 11339, .ifnonnull 12339, .iload 1, .aload 0, .iconst 0, .invokeinterface 87904 2, .iastore, .aload 0, .ifnull 11339, .ifnonnull 12347, .iload 1, .aload 0, .iconst 3, .invokeinterface 87904 2, .iastore, .aload 0, .invokeinterface 84576 1, .ifCond .eq 1, .aload 0, .invokeinterface 85600 1, .ifCond .eq 1, .aload 0, .iconst 2, .aload 0, .invokeinterface 85857 1, .invokeinterface 86112 3, .goto 2] := rfl
theorem b342_1 : blk 342 1 = [.iconst (-9), .goto 2] := rfl
theorem b342_2 : blk 342 2 = [.istore 2, .iload 2, .iconst (-9), .if_icmp .eq 3, .aload 0, .ifnull 11339, .ifnonnull 12323, .iload 2, .iaload, .aload 0, .ifnull 11339, .ifnonnull 12339, .iload 1, .iaload, .ishr, .iconst 1, .iand, .ifCond .ne 4, .goto 3] := rfl
theorem b342_3 : blk 342 3 = [.aload 0, .invokeinterface 86372 1, .goto 5] := rfl
theorem b342_4 : blk 342 4 = [.aload 0, .ifnull 11339, .ifnonnull 12355, .iload 1, .iload 2, .iastore, .aload 0, .invokeinterface 83556 1, .goto 5] := rfl
theorem b342_5 : blk 342 5 = [.aload 0, .ifnull 11339, .ifnonnull 12363, .iload 1, .aload 0, .iconst 1, .iconst 3, .invokeinterface 87136 3, .iastore, .aload 0, .iconst 59, .invokeinterface 86628 2, .return_] := rfl
theorem en342 {a0 : Int} : ent 342 [(3, a0)] = [(3, a0), (9, 0), (9, 0)] := rfl
theorem b343_0 : blk 343 0 = [.aload 0, .invokeinterface 84576 1, .ifCond .eq 1, .aload 0, .invokeinterface 85600 1, .ifCond .eq 1, .aload 0, .iload 1, .aload 0, .invokeinterface 85857 1, .invokeinterface 86112 3, .goto 2] := rfl
theorem b343_1 : blk 343 1 = [.iconst (-9), .goto 2] := rfl
theorem b343_2 : blk 343 2 = [.istore 2, .iload 2, .iconst (-9), .if_icmp .ne 3, .aload 0, .invokeinterface 86372 1, .iconst 0, .ireturn] := rfl
theorem b343_3 : blk 343 3 = [.aload 0, .invokeinterface 83556 1, .iload 2, .ireturn] := rfl
theorem en343 {a0 a1 : Int} : ent 343 [(3, a0), (0, a1)] = [(3, a0), (0, a1), (9, 0)] := rfl
theorem b344_0 : blk 344 0 = [.aload 0, .invokeinterface 83556 1, .aload 0, .iconst 6, .iconst 12, .invokeinterface 85344 3, .istore 1, .aload 0, .iconst 0, .jsr_w 11384, .aload 0, .iconst 0, .jsr_w 11416, .aload 0, .ifnull 11339, .ifnonnull 12395, .iload 1, .aload 0, .ifnull 11339, .ifnull 12408, .iastore, .aload 0, .iconst 40, .invokeinterface 86628 2, .aload 0, .invokeinterface 84576 1, .ifCond .eq 2, .aload 0, .iconst 41, .invokeinterface 86880 2, .ifCond .ne 2, .aload 0, .invokeinterface 88420 1, .goto 1] := rfl
theorem b344_1 : blk 344 1 = [.aload 0, .invokeinterface 84576 1, .ifCond .eq 2, .aload 0, .iconst 44, .invokeinterface 86880 2, .ifCond .eq 2, .aload 0, .invokeinterface 83556 1, .aload 0, .invokeinterface 88420 1, .goto 1] := rfl
theorem b344_2 : blk 344 2 = [.aload 0, .ifnull 11339, .ifnonnull 12379, .iload 1, .aload 0, .ifnull 11384, .iastore, .aload 0, .iconst 41, .invokeinterface 86628 2, .aload 0, .invokeinterface 89188 1, .aload 0, .iconst 29, .iconst 0, .iconst 0, .invokeinterface 90208 4, .pop, .iconst 0, .istore 2, .goto 3] := rfl
theorem b344_3 : blk 344 3 = [.iload 2, .aload 0, .ifnull 11416, .if_icmp .ge 5, .aload 0, .invokeinterface 84576 1, .ifCond .eq 5, .aload 0, .aload 0, .ifnonnull 11395, .iload 2, .laload, .invokeinterface 88672 2, .istore 3, .iload 3, .iconst (-9), .if_icmp .ne 4, .aload 0, .aload 0, .ifnonnull 11403, .iload 2, .iaload, .invokeinterface 94820 2, .goto 4] := rfl
theorem b344_4 : blk 344 4 = [.aload 0, .ifnull 11339, .ifnonnull 12427, .aload 0, .ifnonnull 11411, .iload 2, .iaload, .iload 3, .iastore, .iinc 2 1, .goto 3] := rfl
theorem b344_5 : blk 344 5 = [.aload 0, .ifnull 11339, .ifnonnull 12387, .iload 1, .aload 0, .ifnull 11384, .iastore, .return_] := rfl
theorem en344 {a0 : Int} : ent 344 [(3, a0)] = [(3, a0), (9, 0), (9, 0), (9, 0)] := rfl
theorem b345_0 : blk 345 0 = [.aload 0, .invokeinterface 84576 1, .ifCond .eq 1, .aload 0, .invokeinterface 85600 1, .ifCond .eq 1, .aload 0, .ifnull 11384, .iconst 4, .if_icmp .eq 1, .aload 0, .aload 0, .invokeinterface 85857 1, .invokeinterface 88672 2, .iconst (-9), .if_icmp .eq 2, .goto 1] := rfl
theorem b345_1 : blk 345 1 = [.aload 0, .invokeinterface 86372 1, .return_] := rfl
theorem b345_2 : blk 345 2 = [.aload 0, .aload 0, .invokeinterface 85857 1, .invokeinterface 88928 2, .pop, .aload 0, .invokeinterface 83556 1, .return_] := rfl
theorem en345 {a0 : Int} : ent 345 [(3, a0)] = [(3, a0)] := rfl
theorem b346_0 : blk 346 0 = [.iconst 0, .istore 3, .goto 1] := rfl
theorem b346_1 : blk 346 1 = [.iload 3, .aload 0, .ifnull 11384, .if_icmp .ge 3, .aload 0, .ifnonnull 11379, .iload 3, .laload, .lload 1, .lcmp, .ifCond .ne 2, .iload 3, .ireturn] := rfl
theorem b346_2 : blk 346 2 = [.iinc 3 1, .goto 1] := rfl
theorem b346_3 : blk 346 3 = [.iconst (-9), .ireturn] := rfl
theorem en346 {a0 a1 : Int} : ent 346 [(3, a0), (1, a1)] = [(3, a0), (1, a1), (9, 0), (9, 0)] := rfl
theorem b347_0 : blk 347 0 = [.aload 0, .lload 1, .invokeinterface 88672 2, .istore 3, .iload 3, .iconst (-9), .if_icmp .ne 1, .aload 0, .ifnull 11384, .istore 3, .aload 0, .ifnonnull 11379, .aload 0, .ifnull 11384, .lload 1, .lastore, .aload 0, .dup, .ifnull 11384, .iconst 1, .iadd, .jsr_w 11384, .goto 1] := rfl
theorem b347_1 : blk 347 1 = [.iload 3, .ireturn] := rfl
theorem en347 {a0 a1 : Int} : ent 347 [(3, a0), (1, a1)] = [(3, a0), (1, a1), (9, 0), (9, 0)] := rfl
theorem b348_0 : blk 348 0 = [.aload 0, .invokeinterface 89444 1, .aload 0, .iconst 123, .invokeinterface 86628 2, .goto 1] := rfl
theorem b348_1 : blk 348 1 = [.aload 0, .invokeinterface 84576 1, .ifCond .eq 2, .aload 0, .iconst 125, .invokeinterface 86880 2, .ifCond .ne 2, .aload 0, .invokeinterface 89700 1, .goto 1] := rfl
theorem b348_2 : blk 348 2 = [.aload 0, .iconst 125, .invokeinterface 86628 2, .aload 0, .dup, .ifnull 11360, .iconst 1, .isub, .jsr_w 11360, .return_] := rfl
theorem en348 {a0 : Int} : ent 348 [(3, a0)] = [(3, a0)] := rfl
theorem b349_0 : blk 349 0 = [.aload 0, .invokeinterface 84576 1, .ifCond .eq 1, .aload 0, .ifnull 11360, .iconst 12, .if_icmp .ne 1, .aload 0, .invokeinterface 86372 1, .goto 1] := rfl
theorem b349_1 : blk 349 1 = [.aload 0, .dup, .ifnull 11360, .iconst 1, .iadd, .jsr_w 11360, .return_] := rfl
theorem en349 {a0 : Int} : ent 349 [(3, a0)] = [(3, a0)] := rfl
theorem b350_0 : blk 350 0 = [.aload 0, .invokeinterface 85600 1, .ifCond .ne 1, .aload 0, .jsr (-3251), .invokeinterface 85088 2, .ifCond .ne 1, .aload 0, .jsr (-3379), .invokeinterface 85088 2, .ifCond .ne 1, .aload 0, .jsr (-3507), .invokeinterface 85088 2, .ifCond .ne 1, .aload 0, .jsr (-3635), .invokeinterface 85088 2, .ifCond .ne 1, .aload 0, .jsr (-3763), .invokeinterface 85088 2, .ifCond .ne 1, .aload 0, .jsr (-3891), .invokeinterface 85088 2, .ifCond .ne 1, .aload 0, .invokeinterface 86372 1, .goto 1] := rfl
theorem b350_1 : blk 350 1 = [.aload 0, .iconst 0, .invokeinterface 89956 2, .aload 0, .invokeinterface 84576 1, .ifCond .ne 2, .return_] := rfl
theorem b350_2 : blk 350 2 = [.aload 0, .iconst 0, .iconst 0, .iconst 0, .invokeinterface 90208 4, .pop, .aload 0, .jsr (-3251), .invokeinterface 85088 2, .ifCond .eq 3, .aload 0, .invokeinterface 90468 1, .goto 13] := rfl
theorem b350_3 : blk 350 3 = [.aload 0, .jsr (-3379), .invokeinterface 85088 2, .ifCond .eq 4, .aload 0, .invokeinterface 93540 1, .goto 13] := rfl
theorem b350_4 : blk 350 4 = [.aload 0, .jsr (-3507), .invokeinterface 85088 2, .ifCond .eq 5, .aload 0, .invokeinterface 94052 1, .goto 13] := rfl
theorem b350_5 : blk 350 5 = [.aload 0, .jsr (-3635), .invokeinterface 85088 2, .ifCond .eq 8, .aload 0, .invokeinterface 83556 1, .aload 0, .invokeinterface 94304 1, .istore 1, .iload 1, .iconst (-9), .if_icmp .ne 6, .aload 0, .invokeinterface 86372 1, .goto 7] := rfl
theorem b350_6 : blk 350 6 = [.aload 0, .invokeinterface 83556 1, .goto 7] := rfl
theorem b350_7 : blk 350 7 = [.aload 0, .iconst 59, .invokeinterface 86628 2, .aload 0, .iconst 26, .iload 1, .iconst 0, .invokeinterface 90208 4, .pop, .goto 13] := rfl
theorem b350_8 : blk 350 8 = [.aload 0, .jsr (-3763), .invokeinterface 85088 2, .ifCond .eq 9, .aload 0, .invokeinterface 83556 1, .aload 0, .invokeinterface 90724 1, .aload 0, .iconst 59, .invokeinterface 86628 2, .aload 0, .iconst 27, .iconst 0, .iconst 0, .invokeinterface 90208 4, .pop, .goto 13] := rfl
theorem b350_9 : blk 350 9 = [.aload 0, .jsr (-3891), .invokeinterface 85088 2, .ifCond .eq 12, .aload 0, .invokeinterface 83556 1, .aload 0, .invokeinterface 90724 1, .iconst 0, .istore 1, .goto 10] := rfl
theorem b350_10 : blk 350 10 = [.iload 1, .iconst 4, .if_icmp .ge 11, .aload 0, .iconst 44, .invokeinterface 86628 2, .aload 0, .invokeinterface 90724 1, .iinc 1 1, .goto 10] := rfl
theorem b350_11 : blk 350 11 = [.aload 0, .iconst 59, .invokeinterface 86628 2, .aload 0, .iconst 28, .iconst 0, .iconst 0, .invokeinterface 90208 4, .pop, .goto 13] := rfl
theorem b350_12 : blk 350 12 = [.aload 0, .invokeinterface 94564 1, .goto 13] := rfl
theorem b350_13 : blk 350 13 = [.return_] := rfl
theorem en350 {a0 : Int} : ent 350 [(3, a0)] = [(3, a0), (9, 0)] := rfl
theorem b351_0 : blk 351 0 = [.aload 0, .invokeinterface 84576 1, .ifCond .eq 2, .aload 0, .ifnull 11339, .ifnull 12400, .iconst 400, .if_icmp .eq 1, .iload 1, .ifCond .eq 2, .aload 0, .ifnull 11368, .iconst 30, .if_icmp .ne 2, .goto 1] := rfl
theorem b351_1 : blk 351 1 = [.aload 0, .invokeinterface 86372 1, .goto 2] := rfl
theorem b351_2 : blk 351 2 = [.aload 0, .invokeinterface 84576 1, .ifCond .eq 5, .aload 0, .ifnull 11339, .dup, .ifnull 12400, .iconst 1, .iadd, .jsr_w 12400, .aload 0, .dup, .ifnull 11368, .iload 1, .ifCond .eq 3, .iconst 1, .goto 4] := rfl
theorem b351_3 : blk 351 3 = [.iconst 0, .goto 4] := rfl
theorem b351_4 : blk 351 4 = [.iadd, .jsr_w 11368, .goto 5] := rfl
theorem b351_5 : blk 351 5 = [.return_] := rfl
theorem en351 {a0 a1 : Int} : ent 351 [(3, a0), (0, a1)] = [(3, a0), (0, a1)] := rfl
theorem b352_0 : blk 352 0 = [.aload 0, .ifnull 11339, .ifnull 12408, .istore 4, .aload 0, .ifnull 11339, .dup, .ifnull 12408, .iconst 1, .iadd, .jsr_w 12408, .aload 0, .ifnull 11339, .ifnonnull 12419, .iload 4, .iload 1, .iastore, .aload 0, .ifnull 11339, .ifnonnull 12427, .iload 4, .iload 2, .iastore, .aload 0, .ifnull 11339, .ifnonnull 12435, .iload 4, .iload 3, .iastore, .iload 4, .ireturn] := rfl
theorem en352 {a0 a1 a2 a3 : Int} : ent 352 [(3, a0), (0, a1), (0, a2), (0, a3)] = [(3, a0), (0, a1), (0, a2), (0, a3), (9, 0)] := rfl
theorem b353_0 : blk 353 0 = [.aload 0, .invokeinterface 83556 1, .aload 0, .invokeinterface 90724 1, .aload 0, .iconst 19, .iconst 0, .iconst 0, .invokeinterface 90208 4, .istore 1, .aload 0, .invokeinterface 89188 1, .aload 0, .invokeinterface 84576 1, .ifCond .eq 1, .aload 0, .jsr (-1459), .invokeinterface 85088 2, .ifCond .eq 1, .aload 0, .invokeinterface 83556 1, .aload 0, .iconst 20, .iconst 0, .iconst 0, .invokeinterface 90208 4, .istore 2, .aload 0, .ifnull 11339, .ifnonnull 12427, .iload 1, .aload 0, .ifnull 11339, .ifnull 12408, .iastore, .aload 0, .invokeinterface 89188 1, .aload 0, .ifnull 11339, .ifnonnull 12427, .iload 2, .aload 0, .ifnull 11339, .ifnull 12408, .iastore, .goto 2] := rfl
theorem b353_1 : blk 353 1 = [.aload 0, .ifnull 11339, .ifnonnull 12427, .iload 1, .aload 0, .ifnull 11339, .ifnull 12408, .iastore, .goto 2] := rfl
theorem b353_2 : blk 353 2 = [.return_] := rfl
theorem en353 {a0 : Int} : ent 353 [(3, a0)] = [(3, a0), (9, 0), (9, 0)] := rfl
theorem b354_0 : blk 354 0 = [.aload 0, .iconst 0, .jsr_w 11368, .aload 0, .invokeinterface 90980 1, .return_] := rfl
theorem en354 {a0 : Int} : ent 354 [(3, a0)] = [(3, a0)] := rfl
theorem b355_0 : blk 355 0 = [.aload 0, .invokeinterface 91236 1, .aload 0, .invokeinterface 84576 1, .ifCond .eq 3, .aload 0, .iconst 60, .invokeinterface 86880 2, .ifCond .ne 1, .aload 0, .iconst 62, .invokeinterface 86880 2, .ifCond .ne 1, .aload 0, .iconst 61, .invokeinterface 86880 2, .ifCond .eq 3, .goto 1] := rfl
theorem b355_1 : blk 355 1 = [.aload 0, .ifnonnull 11267, .aload 0, .ifnull 11288, .baload, .istore 1, .aload 0, .iconst 1, .invokeinterface 89956 2, .aload 0, .invokeinterface 84576 1, .ifCond .eq 2, .aload 0, .invokeinterface 83556 1, .goto 2] := rfl
theorem b355_2 : blk 355 2 = [.aload 0, .invokeinterface 91236 1, .aload 0, .iconst 8, .iload 1, .iconst 0, .invokeinterface 90208 4, .pop, .goto 3] := rfl
theorem b355_3 : blk 355 3 = [.return_] := rfl
theorem en355 {a0 : Int} : ent 355 [(3, a0)] = [(3, a0), (9, 0)] := rfl
theorem b356_0 : blk 356 0 = [.aload 0, .invokeinterface 91492 1, .goto 1] := rfl
theorem b356_1 : blk 356 1 = [.aload 0, .invokeinterface 84576 1, .ifCond .eq 4, .aload 0, .iconst 43, .invokeinterface 86880 2, .ifCond .ne 2, .aload 0, .iconst 45, .invokeinterface 86880 2, .ifCond .eq 4, .goto 2] := rfl
theorem b356_2 : blk 356 2 = [.aload 0, .ifnonnull 11267, .aload 0, .ifnull 11288, .baload, .istore 1, .aload 0, .iconst 1, .invokeinterface 89956 2, .aload 0, .invokeinterface 84576 1, .ifCond .eq 3, .aload 0, .invokeinterface 83556 1, .goto 3] := rfl
theorem b356_3 : blk 356 3 = [.aload 0, .invokeinterface 91492 1, .aload 0, .iconst 8, .iload 1, .iconst 0, .invokeinterface 90208 4, .pop, .goto 1] := rfl
theorem b356_4 : blk 356 4 = [.return_] := rfl
theorem en356 {a0 : Int} : ent 356 [(3, a0)] = [(3, a0), (9, 0)] := rfl
theorem b357_0 : blk 357 0 = [.aload 0, .invokeinterface 91748 1, .goto 1] := rfl
theorem b357_1 : blk 357 1 = [.aload 0, .invokeinterface 84576 1, .ifCond .eq 4, .aload 0, .iconst 42, .invokeinterface 86880 2, .ifCond .ne 2, .aload 0, .iconst 47, .invokeinterface 86880 2, .ifCond .ne 2, .aload 0, .iconst 37, .invokeinterface 86880 2, .ifCond .eq 4, .goto 2] := rfl
theorem b357_2 : blk 357 2 = [.aload 0, .ifnonnull 11267, .aload 0, .ifnull 11288, .baload, .istore 1, .aload 0, .iconst 1, .invokeinterface 89956 2, .aload 0, .invokeinterface 84576 1, .ifCond .eq 3, .aload 0, .invokeinterface 83556 1, .goto 3] := rfl
theorem b357_3 : blk 357 3 = [.aload 0, .invokeinterface 91748 1, .aload 0, .iconst 8, .iload 1, .iconst 0, .invokeinterface 90208 4, .pop, .goto 1] := rfl
theorem b357_4 : blk 357 4 = [.return_] := rfl
theorem en357 {a0 : Int} : ent 357 [(3, a0)] = [(3, a0), (9, 0)] := rfl
theorem b358_0 : blk 358 0 = [.aload 0, .invokeinterface 84576 1, .ifCond .ne 1, .return_] := rfl
theorem b358_1 : blk 358 1 = [.aload 0, .iconst 45, .invokeinterface 86880 2, .ifCond .eq 3, .aload 0, .iconst 1, .invokeinterface 89956 2, .aload 0, .invokeinterface 89444 1, .aload 0, .invokeinterface 84576 1, .ifCond .eq 2, .aload 0, .invokeinterface 83556 1, .goto 2] := rfl
theorem b358_2 : blk 358 2 = [.aload 0, .invokeinterface 91748 1, .aload 0, .dup, .ifnull 11360, .iconst 1, .isub, .jsr_w 11360, .aload 0, .iconst 9, .iconst 0, .iconst 0, .invokeinterface 90208 4, .pop, .return_] := rfl
theorem b358_3 : blk 358 3 = [.aload 0, .invokeinterface 92004 1, .goto 4] := rfl
theorem b358_4 : blk 358 4 = [.aload 0, .invokeinterface 84576 1, .ifCond .eq 6, .aload 0, .iconst 91, .invokeinterface 86880 2, .ifCond .eq 6, .aload 0, .iconst 1, .invokeinterface 89956 2, .aload 0, .invokeinterface 89444 1, .aload 0, .invokeinterface 84576 1, .ifCond .eq 5, .aload 0, .invokeinterface 83556 1, .goto 5] := rfl
theorem b358_5 : blk 358 5 = [.aload 0, .invokeinterface 90980 1, .aload 0, .iconst 93, .invokeinterface 86628 2, .aload 0, .dup, .ifnull 11360, .iconst 1, .isub, .jsr_w 11360, .aload 0, .iconst 10, .iconst 0, .iconst 0, .invokeinterface 90208 4, .pop, .goto 4] := rfl
theorem b358_6 : blk 358 6 = [.return_] := rfl
theorem en358 {a0 : Int} : ent 358 [(3, a0)] = [(3, a0)] := rfl
theorem b359_0 : blk 359 0 = [.aload 0, .ifnull 11280, .iconst 2, .if_icmp .ne 1, .aload 0, .iconst 1, .invokeinterface 89956 2, .aload 0, .iconst 1, .aload 0, .ifnull 11304, .iconst 0, .invokeinterface 90208 4, .pop, .aload 0, .invokeinterface 92260 1, .goto 7] := rfl
theorem b359_1 : blk 359 1 = [.aload 0, .ifnull 11280, .iconst 3, .if_icmp .ne 3, .aload 0, .iconst 1, .invokeinterface 89956 2, .aload 0, .invokeinterface 84576 1, .ifCond .eq 2, .aload 0, .ifnull 11339, .ifnonnull 12443, .aload 0, .ifnull 11339, .ifnull 12448, .aload 0, .ifnull 11314, .dastore, .aload 0, .iconst 2, .aload 0, .ifnull 11339, .ifnull 12448, .iconst 0, .invokeinterface 90208 4, .pop, .aload 0, .ifnull 11339, .dup, .ifnull 12448, .iconst 1, .iadd, .jsr_w 12448, .goto 2] := rfl
theorem b359_2 : blk 359 2 = [.aload 0, .invokeinterface 92260 1, .goto 7] := rfl
theorem b359_3 : blk 359 3 = [.aload 0, .jsr (-1331), .invokeinterface 85088 2, .ifCond .eq 4, .aload 0, .iconst 1, .invokeinterface 89956 2, .aload 0, .iconst 3, .iconst 0, .iconst 0, .invokeinterface 90208 4, .pop, .aload 0, .invokeinterface 92260 1, .goto 7] := rfl
theorem b359_4 : blk 359 4 = [.aload 0, .iconst 40, .invokeinterface 86880 2, .ifCond .eq 5, .aload 0, .iconst 1, .invokeinterface 92516 2, .goto 7] := rfl
theorem b359_5 : blk 359 5 = [.aload 0, .invokeinterface 85600 1, .ifCond .eq 6, .aload 0, .invokeinterface 92772 1, .goto 7] := rfl
theorem b359_6 : blk 359 6 = [.aload 0, .invokeinterface 93284 1, .goto 7] := rfl
theorem b359_7 : blk 359 7 = [.return_] := rfl
theorem en359 {a0 : Int} : ent 359 [(3, a0)] = [(3, a0)] := rfl
theorem b360_0 : blk 360 0 = [.aload 0, .invokeinterface 84576 1, .ifCond .eq 1, .aload 0, .invokeinterface 83556 1, .goto 1] := rfl
theorem b360_1 : blk 360 1 = [.return_] := rfl
theorem en360 {a0 : Int} : ent 360 [(3, a0)] = [(3, a0)] := rfl
theorem b361_0 : blk 361 0 = [.aload 0, .invokeinterface 84576 1, .ifCond .eq 1, .aload 0, .iconst 40, .invokeinterface 86880 2, .ifCond .eq 1, .aload 0, .invokeinterface 89444 1, .goto 1] := rfl
theorem b361_1 : blk 361 1 = [.aload 0, .iconst 40, .invokeinterface 86628 2, .iconst 0, .istore 2, .goto 2] := rfl
theorem b361_2 : blk 361 2 = [.iload 2, .iload 1, .if_icmp .ge 4, .iload 2, .ifCond .le 3, .aload 0, .iconst 44, .invokeinterface 86628 2, .goto 3] := rfl
theorem b361_3 : blk 361 3 = [.aload 0, .invokeinterface 90980 1, .iinc 2 1, .goto 2] := rfl
theorem b361_4 : blk 361 4 = [.aload 0, .iconst 41, .invokeinterface 86628 2, .aload 0, .dup, .ifnull 11360, .iconst 1, .isub, .jsr_w 11360, .return_] := rfl
theorem en361 {a0 a1 : Int} : ent 361 [(3, a0), (0, a1)] = [(3, a0), (0, a1), (9, 0)] := rfl
theorem b362_0 : blk 362 0 = [.aload 0, .iconst 1, .invokeinterface 89956 2, .aload 0, .invokeinterface 85857 1, .lstore 1, .aload 0, .ifnull 11288, .istore 3, .aload 0, .invokeinterface 92260 1, .aload 0, .invokeinterface 84576 1, .ifCond .ne 1, .return_] := rfl
theorem b362_1 : blk 362 1 = [.aload 0, .iconst 40, .invokeinterface 86880 2, .ifCond .ne 2, .aload 0, .lload 1, .iload 3, .aload 0, .iconst 4, .iconst 0, .iconst 0, .invokeinterface 90208 4, .invokeinterface 93028 4, .return_] := rfl
theorem b362_2 : blk 362 2 = [.aload 0, .invokeinterface 89444 1, .aload 0, .iconst 40, .invokeinterface 86628 2, .iconst 0, .istore 4, .aload 0, .invokeinterface 84576 1, .ifCond .eq 4, .aload 0, .iconst 41, .invokeinterface 86880 2, .ifCond .ne 4, .aload 0, .invokeinterface 90980 1, .iconst 1, .istore 4, .goto 3] := rfl
theorem b362_3 : blk 362 3 = [.aload 0, .invokeinterface 84576 1, .ifCond .eq 4, .aload 0, .iconst 44, .invokeinterface 86880 2, .ifCond .eq 4, .aload 0, .invokeinterface 83556 1, .aload 0, .invokeinterface 90980 1, .iinc 4 1, .goto 3] := rfl
theorem b362_4 : blk 362 4 = [.aload 0, .iconst 41, .invokeinterface 86628 2, .aload 0, .dup, .ifnull 11360, .iconst 1, .isub, .jsr_w 11360, .aload 0, .invokeinterface 84576 1, .ifCond .eq 5, .aload 0, .ifnonnull 11427, .aload 0, .ifnull 11456, .lload 1, .lastore, .aload 0, .ifnonnull 11435, .aload 0, .ifnull 11456, .iload 3, .iastore, .aload 0, .ifnonnull 11451, .aload 0, .ifnull 11456, .iload 4, .iastore, .aload 0, .ifnonnull 11443, .aload 0, .ifnull 11456, .aload 0, .iconst 7, .iconst 0, .iconst 0, .invokeinterface 90208 4, .iastore, .aload 0, .dup, .ifnull 11456, .iconst 1, .iadd, .jsr_w 11456, .goto 5] := rfl
theorem b362_5 : blk 362 5 = [.return_] := rfl
theorem en362 {a0 : Int} : ent 362 [(3, a0)] = [(3, a0), (9, 0), (9, 0), (9, 0), (9, 0)] := rfl
theorem b363_0 : blk 363 0 = [.aload 0, .ifnonnull 11395, .aload 0, .ifnull 11416, .lload 1, .lastore, .aload 0, .ifnonnull 11403, .aload 0, .ifnull 11416, .iload 3, .iastore, .aload 0, .ifnonnull 11411, .aload 0, .ifnull 11416, .iload 4, .iastore, .aload 0, .dup, .ifnull 11416, .iconst 1, .iadd, .jsr_w 11416, .return_] := rfl
theorem en363 {a0 a1 a2 a3 : Int} : ent 363 [(3, a0), (1, a1), (0, a2), (0, a3)] = [(3, a0), (1, a1), (9, 0), (0, a2), (0, a3)] := rfl
theorem b364_0 : blk 364 0 = [.aload 0, .jsr (-4915), .invokeinterface 85088 2, .ifCond .ne 1, .aload 0, .jsr (-5043), .invokeinterface 85088 2, .ifCond .ne 1, .aload 0, .jsr (-5171), .invokeinterface 85088 2, .ifCond .ne 1, .aload 0, .jsr (-5299), .invokeinterface 85088 2, .ifCond .eq 2, .goto 1] := rfl
theorem b364_1 : blk 364 1 = [.iconst 11, .goto 10] := rfl
theorem b364_2 : blk 364 2 = [.aload 0, .jsr (-4531), .invokeinterface 85088 2, .ifCond .eq 3, .iconst 12, .goto 10] := rfl
theorem b364_3 : blk 364 3 = [.aload 0, .jsr (-5427), .invokeinterface 85088 2, .ifCond .eq 4, .iconst 13, .goto 10] := rfl
theorem b364_4 : blk 364 4 = [.aload 0, .jsr (-5555), .invokeinterface 85088 2, .ifCond .eq 5, .iconst 14, .goto 10] := rfl
theorem b364_5 : blk 364 5 = [.aload 0, .jsr (-5683), .invokeinterface 85088 2, .ifCond .eq 6, .iconst 15, .goto 10] := rfl
theorem b364_6 : blk 364 6 = [.aload 0, .jsr (-5811), .invokeinterface 85088 2, .ifCond .eq 7, .iconst 16, .goto 10] := rfl
theorem b364_7 : blk 364 7 = [.aload 0, .jsr (-5939), .invokeinterface 85088 2, .ifCond .eq 8, .iconst 17, .goto 10] := rfl
theorem b364_8 : blk 364 8 = [.aload 0, .jsr (-6067), .invokeinterface 85088 2, .ifCond .eq 9, .iconst 18, .goto 10] := rfl
theorem b364_9 : blk 364 9 = [.iconst (-9), .goto 10] := rfl
theorem b364_10 : blk 364 10 = [.istore 1, .iload 1, .iconst (-9), .if_icmp .ne 11, .aload 0, .invokeinterface 86372 1, .return_] := rfl
theorem b364_11 : blk 364 11 = [.aload 0, .jsr (-4915), .invokeinterface 85088 2, .ifCond .eq 12, .iconst 4, .goto 15] := rfl
theorem b364_12 : blk 364 12 = [.aload 0, .jsr (-5043), .invokeinterface 85088 2, .ifCond .eq 13, .iconst 5, .goto 15] := rfl
theorem b364_13 : blk 364 13 = [.aload 0, .jsr (-5171), .invokeinterface 85088 2, .ifCond .eq 14, .iconst 6, .goto 15] := rfl
theorem b364_14 : blk 364 14 = [.iconst 7, .goto 15] := rfl
theorem b364_15 : blk 364 15 = [.istore 2, .aload 0, .iconst 1, .invokeinterface 89956 2, .aload 0, .invokeinterface 92260 1, .aload 0, .iload 1, .iconst 17, .if_icmp .eq 16, .iload 1, .iconst 18, .if_icmp .ne 17, .goto 16] := rfl
theorem b364_16 : blk 364 16 = [.iconst 2, .goto 18] := rfl
theorem b364_17 : blk 364 17 = [.iconst 1, .goto 18] := rfl
theorem b364_18 : blk 364 18 = [.invokeinterface 92516 2, .aload 0, .iload 1, .iload 2, .iconst 0, .invokeinterface 90208 4, .pop, .return_] := rfl
theorem en364 {a0 : Int} : ent 364 [(3, a0)] = [(3, a0), (9, 0), (9, 0)] := rfl
theorem b365_0 : blk 365 0 = [.aload 0, .invokeinterface 83556 1, .aload 0, .invokeinterface 85600 1, .ifCond .ne 1, .aload 0, .invokeinterface 86372 1, .goto 1] := rfl
theorem b365_1 : blk 365 1 = [.aload 0, .invokeinterface 84576 1, .ifCond .eq 2, .aload 0, .aload 0, .invokeinterface 85857 1, .invokeinterface 88928 2, .goto 3] := rfl
theorem b365_2 : blk 365 2 = [.iconst 0, .goto 3] := rfl
theorem b365_3 : blk 365 3 = [.istore 1, .aload 0, .invokeinterface 84576 1, .ifCond .eq 4, .aload 0, .invokeinterface 83556 1, .goto 4] := rfl
theorem b365_4 : blk 365 4 = [.aload 0, .jsr (-1587), .invokeinterface 93796 2, .aload 0, .invokeinterface 90724 1, .aload 0, .ifnull 11339, .ifnull 12456, .istore 2, .aload 0, .ifnull 11339, .dup, .ifnull 12456, .iconst 1, .iadd, .jsr_w 12456, .aload 0, .iconst 21, .iload 2, .iconst 0, .invokeinterface 90208 4, .pop, .aload 0, .iconst 22, .iload 2, .iload 1, .invokeinterface 90208 4, .istore 3, .aload 0, .iconst 20, .iconst 0, .iconst 0, .invokeinterface 90208 4, .pop, .aload 0, .invokeinterface 89188 1, .aload 0, .iconst 20, .iload 3, .iconst 0, .invokeinterface 90208 4, .pop, .aload 0, .ifnull 11339, .ifnonnull 12427, .iload 3, .iconst 1, .iadd, .aload 0, .ifnull 11339, .ifnull 12408, .iastore, .return_] := rfl
theorem en365 {a0 : Int} : ent 365 [(3, a0)] = [(3, a0), (9, 0), (9, 0), (9, 0)] := rfl
theorem b366_0 : blk 366 0 = [.aload 0, .invokeinterface 84576 1, .ifCond .eq 1, .aload 0, .aload 1, .invokeinterface 85088 2, .ifCond .eq 1, .aload 0, .invokeinterface 83556 1, .goto 2] := rfl
theorem b366_1 : blk 366 1 = [.aload 0, .invokeinterface 86372 1, .goto 2] := rfl
theorem b366_2 : blk 366 2 = [.return_] := rfl
theorem en366 {a0 a1 : Int} : ent 366 [(3, a0), (3, a1)] = [(3, a0), (3, a1)] := rfl
theorem b367_0 : blk 367 0 = [.aload 0, .invokeinterface 83556 1, .aload 0, .ifnull 11339, .ifnull 12464, .istore 1, .aload 0, .ifnull 11339, .dup, .ifnull 12464, .iconst 1, .iadd, .jsr_w 12464, .iconst 0, .istore 2, .goto 1] := rfl
theorem b367_1 : blk 367 1 = [.iload 2, .iconst 8, .if_icmp .ge 2, .aload 0, .ifnull 11339, .ifnonnull 12475, .iconst 8, .iload 1, .imul, .iload 2, .iadd, .iconst (-9), .iastore, .iinc 2 1, .goto 1] := rfl
theorem b367_2 : blk 367 2 = [.aload 0, .ifnull 11339, .ifnonnull 12483, .iload 1, .iconst (-9), .iastore, .aload 0, .iconst 23, .iload 1, .iconst 0, .invokeinterface 90208 4, .pop, .aload 0, .invokeinterface 89188 1, .aload 0, .iconst 24, .iload 1, .iconst 0, .invokeinterface 90208 4, .pop, .goto 3] := rfl
theorem b367_3 : blk 367 3 = [.aload 0, .invokeinterface 84576 1, .ifCond .eq 7, .aload 0, .jsr (-1715), .invokeinterface 85088 2, .ifCond .eq 7, .aload 0, .invokeinterface 83556 1, .aload 0, .invokeinterface 94304 1, .istore 2, .iload 2, .iconst (-9), .if_icmp .eq 4, .aload 0, .ifnull 11339, .ifnonnull 12475, .iconst 8, .iload 1, .imul, .iload 2, .iadd, .iaload, .iconst (-9), .if_icmp .eq 5, .goto 4] := rfl
theorem b367_4 : blk 367 4 = [.aload 0, .invokeinterface 86372 1, .goto 6] := rfl
theorem b367_5 : blk 367 5 = [.aload 0, .invokeinterface 83556 1, .aload 0, .ifnull 11339, .ifnonnull 12475, .iconst 8, .iload 1, .imul, .iload 2, .iadd, .aload 0, .ifnull 11339, .ifnull 12408, .iastore, .goto 6] := rfl
theorem b367_6 : blk 367 6 = [.aload 0, .invokeinterface 89188 1, .aload 0, .iconst 24, .iload 1, .iconst 0, .invokeinterface 90208 4, .pop, .goto 3] := rfl
theorem b367_7 : blk 367 7 = [.aload 0, .invokeinterface 84576 1, .ifCond .eq 8, .aload 0, .jsr (-1843), .invokeinterface 85088 2, .ifCond .eq 8, .aload 0, .invokeinterface 83556 1, .aload 0, .ifnull 11339, .ifnonnull 12483, .iload 1, .aload 0, .ifnull 11339, .ifnull 12408, .iastore, .aload 0, .invokeinterface 89188 1, .aload 0, .iconst 25, .iload 1, .iconst 0, .invokeinterface 90208 4, .pop, .goto 8] := rfl
theorem b367_8 : blk 367 8 = [.iconst 0, .istore 2, .goto 9] := rfl
theorem b367_9 : blk 367 9 = [.iload 2, .aload 0, .ifnull 11339, .ifnull 12408, .if_icmp .ge 11, .aload 0, .ifnull 11339, .ifnonnull 12419, .iload 2, .iaload, .iconst 24, .if_icmp .ne 10, .aload 0, .ifnull 11339, .ifnonnull 12427, .iload 2, .iaload, .iload 1, .if_icmp .ne 10, .aload 0, .ifnull 11339, .ifnonnull 12435, .iload 2, .aload 0, .ifnull 11339, .ifnull 12408, .iastore, .goto 10] := rfl
theorem b367_10 : blk 367 10 = [.iinc 2 1, .goto 9] := rfl
theorem b367_11 : blk 367 11 = [.return_] := rfl
theorem en367 {a0 : Int} : ent 367 [(3, a0)] = [(3, a0), (9, 0), (9, 0)] := rfl
theorem b368_0 : blk 368 0 = [.aload 0, .jsr (-4019), .invokeinterface 85088 2, .ifCond .eq 1, .iconst 1, .goto 8] := rfl
theorem b368_1 : blk 368 1 = [.aload 0, .jsr (-4147), .invokeinterface 85088 2, .ifCond .eq 2, .iconst 2, .goto 8] := rfl
theorem b368_2 : blk 368 2 = [.aload 0, .jsr (-4275), .invokeinterface 85088 2, .ifCond .eq 3, .iconst 3, .goto 8] := rfl
theorem b368_3 : blk 368 3 = [.aload 0, .jsr (-4403), .invokeinterface 85088 2, .ifCond .eq 4, .iconst 4, .goto 8] := rfl
theorem b368_4 : blk 368 4 = [.aload 0, .jsr (-4531), .invokeinterface 85088 2, .ifCond .eq 5, .iconst 5, .goto 8] := rfl
theorem b368_5 : blk 368 5 = [.aload 0, .jsr (-4659), .invokeinterface 85088 2, .ifCond .eq 6, .iconst 6, .goto 8] := rfl
theorem b368_6 : blk 368 6 = [.aload 0, .jsr (-4787), .invokeinterface 85088 2, .ifCond .eq 7, .iconst 7, .goto 8] := rfl
theorem b368_7 : blk 368 7 = [.iconst (-9), .goto 8] := rfl
theorem b368_8 : blk 368 8 = [.ireturn] := rfl
theorem en368 {a0 : Int} : ent 368 [(3, a0)] = [(3, a0)] := rfl
theorem b369_0 : blk 369 0 = [.aload 0, .invokeinterface 85857 1, .lstore 1, .aload 0, .ifnull 11288, .istore 3, .aload 0, .invokeinterface 83556 1, .aload 0, .iconst 91, .invokeinterface 86880 2, .ifCond .eq 1, .aload 0, .invokeinterface 89444 1, .aload 0, .invokeinterface 83556 1, .aload 0, .invokeinterface 90724 1, .aload 0, .iconst 93, .invokeinterface 86628 2, .aload 0, .dup, .ifnull 11360, .iconst 1, .isub, .jsr_w 11360, .aload 0, .iconst 61, .invokeinterface 86628 2, .aload 0, .invokeinterface 90724 1, .aload 0, .iconst 59, .invokeinterface 86628 2, .aload 0, .lload 1, .iload 3, .aload 0, .iconst 6, .iconst 0, .iconst 0, .invokeinterface 90208 4, .invokeinterface 93028 4, .return_] := rfl
theorem b369_1 : blk 369 1 = [.aload 0, .iconst 61, .invokeinterface 86628 2, .aload 0, .invokeinterface 84576 1, .ifCond .eq 2, .aload 0, .lload 1, .invokeinterface 88928 2, .goto 3] := rfl
theorem b369_2 : blk 369 2 = [.iconst 0, .goto 3] := rfl
theorem b369_3 : blk 369 3 = [.istore 4, .aload 0, .invokeinterface 90724 1, .aload 0, .iconst 59, .invokeinterface 86628 2, .aload 0, .iconst 5, .iload 4, .iconst 0, .invokeinterface 90208 4, .pop, .return_] := rfl
theorem en369 {a0 : Int} : ent 369 [(3, a0)] = [(3, a0), (9, 0), (9, 0), (9, 0), (9, 0)] := rfl
theorem b370_0 : blk 370 0 = [.aload 0, .aload 0, .ifnull 11328, .ifCond .lt 1, .iload 1, .aload 0, .ifnull 11328, .if_icmp .ge 2, .goto 1] := rfl
theorem b370_1 : blk 370 1 = [.iload 1, .goto 3] := rfl
theorem b370_2 : blk 370 2 = [.aload 0, .ifnull 11328, .goto 3] := rfl
theorem b370_3 : blk 370 3 = [.jsr_w 11328, .return_] := rfl
theorem en370 {a0 a1 : Int} : ent 370 [(3, a0), (0, a1)] = [(3, a0), (0, a1)] := rfl
theorem b371_0 : blk 371 0 = [.aload 0, .iconst 0, .jsr_w 11464, .iconst 0, .istore 1, .goto 1] := rfl
theorem b371_1 : blk 371 1 = [.iload 1, .aload 0, .ifnull 11339, .ifnonnull 12291, .iconst 2, .iaload, .if_icmp .ge 2, .aload 0, .aload 0, .ifnull 11339, .ifnonnull 12315, .iload 1, .iaload, .iload 1, .iconst (-9), .invokeinterface 95328 4, .pop, .iinc 1 1, .goto 1] := rfl
theorem b371_2 : blk 371 2 = [.aload 0, .iconst 0, .jsr_w 11688, .aload 0, .iconst 0, .jsr_w 11728, .aload 0, .iconst (-9), .jsr_w 11752, .iconst 0, .istore 1, .goto 3] := rfl
theorem b371_3 : blk 371 3 = [.iload 1, .iconst 240, .if_icmp .ge 4, .aload 0, .ifnonnull 11811, .iload 1, .iconst 0, .iastore, .iinc 1 1, .goto 3] := rfl
theorem b371_4 : blk 371 4 = [.iconst 0, .istore 1, .goto 5] := rfl
theorem b371_5 : blk 371 5 = [.iload 1, .iconst 10, .if_icmp .ge 6, .aload 0, .ifnonnull 11795, .iload 1, .iconst 0, .iastore, .aload 0, .ifnonnull 11803, .iload 1, .iconst 0, .iastore, .iinc 1 1, .goto 5] := rfl
theorem b371_6 : blk 371 6 = [.aload 0, .iconst 0, .jsr_w 11820, .aload 0, .iconst 0, .jsr_w 11828, .aload 0, .iconst 0, .jsr_w 11836, .aload 0, .iconst 0, .jsr_w 11956, .return_] := rfl
theorem en371 {a0 : Int} : ent 371 [(3, a0)] = [(3, a0), (9, 0)] := rfl
theorem b372_0 : blk 372 0 = [.aload 0, .ifnull 11464, .istore 4, .aload 0, .dup, .ifnull 11464, .iconst 1, .iadd, .jsr_w 11464, .aload 0, .ifnonnull 11475, .iload 4, .iload 1, .iastore, .aload 0, .ifnonnull 11483, .iload 4, .iload 2, .iastore, .aload 0, .ifnonnull 11491, .iload 4, .iload 3, .iastore, .iconst 0, .istore 5, .goto 1] := rfl
theorem b372_1 : blk 372 1 = [.iload 5, .iconst 8, .if_icmp .ge 2, .aload 0, .ifnonnull 11499, .iconst 8, .iload 4, .imul, .iload 5, .iadd, .iconst (-9), .iastore, .iinc 5 1, .goto 1] := rfl
theorem b372_2 : blk 372 2 = [.aload 0, .ifnonnull 11923, .iload 4, .iconst 0, .iastore, .iconst 0, .istore 5, .goto 3] := rfl
theorem b372_3 : blk 372 3 = [.iload 5, .iconst 8, .if_icmp .ge 4, .aload 0, .ifnonnull 11939, .iconst 8, .iload 4, .imul, .iload 5, .iadd, .iconst 0, .iastore, .iinc 5 1, .goto 3] := rfl
theorem b372_4 : blk 372 4 = [.aload 0, .ifnonnull 11947, .iload 4, .iconst (-9), .iastore, .iload 4, .ireturn] := rfl
theorem en372 {a0 a1 a2 a3 : Int} : ent 372 [(3, a0), (0, a1), (0, a2), (0, a3)] = [(3, a0), (0, a1), (0, a2), (0, a3), (9, 0), (9, 0)] := rfl
theorem b373_0 : blk 373 0 = [.iload 1, .iconst 0, .aload 0, .ifnull 11339, .ifnonnull 12291, .iconst 3, .iaload, .iconst 1, .isub, .invokeinterface 95744 3, .ifCond .eq 1, .iload 2, .iconst (-99), .iconst 99, .invokeinterface 95744 3, .ifCond .ne 2, .goto 1] := rfl
theorem b373_1 : blk 373 1 = [.iconst (-1), .ireturn] := rfl
theorem b373_2 : blk 373 2 = [.iconst 0, .istore 3, .iconst 0, .istore 4, .goto 3] := rfl
theorem b373_3 : blk 373 3 = [.iload 4, .aload 0, .ifnull 11464, .if_icmp .ge 6, .iload 3, .aload 0, .ifnonnull 11475, .iload 4, .iaload, .ifCond .ne 4, .aload 0, .ifnonnull 11491, .iload 4, .iaload, .iload 1, .if_icmp .ne 4, .iconst 1, .goto 5] := rfl
theorem b373_4 : blk 373 4 = [.iconst 0, .goto 5] := rfl
theorem b373_5 : blk 373 5 = [.iadd, .istore 3, .iinc 4 1, .goto 3] := rfl
theorem b373_6 : blk 373 6 = [.iload 3, .aload 0, .ifnull 11339, .ifnonnull 12331, .iload 1, .iaload, .if_icmp .lt 7, .iconst (-2), .ireturn] := rfl
theorem b373_7 : blk 373 7 = [.aload 0, .ifnull 11464, .iconst 24, .if_icmp .ne 8, .iconst (-3), .ireturn] := rfl
theorem b373_8 : blk 373 8 = [.aload 0, .iconst (-9), .jsr_w 11752, .aload 0, .iconst 0, .iload 2, .iload 1, .invokeinterface 95328 4, .ireturn] := rfl
theorem en373 {a0 a1 a2 : Int} : ent 373 [(3, a0), (0, a1), (0, a2)] = [(3, a0), (0, a1), (0, a2), (9, 0), (9, 0)] := rfl
theorem b374_0 : blk 374 0 = [.iload 0, .iload 1, .if_icmp .lt 1, .iload 0, .iload 2, .if_icmp .gt 1, .iconst 1, .goto 2] := rfl
theorem b374_1 : blk 374 1 = [.iconst 0, .goto 2] := rfl
theorem b374_2 : blk 374 2 = [.freturn] := rfl
theorem en374 {a0 a1 a2 : Int} : ent 374 [(0, a0), (0, a1), (0, a2)] = [(0, a0), (0, a1), (0, a2)] := rfl
theorem b375_0 : blk 375 0 = [.iload 1, .iconst (-99), .iconst 99, .invokeinterface 95744 3, .ifCond .ne 1, .iconst (-1), .ireturn] := rfl
theorem b375_1 : blk 375 1 = [.aload 0, .ifnull 11464, .iconst 24, .if_icmp .ne 2, .iconst (-3), .goto 3] := rfl
theorem b375_2 : blk 375 2 = [.aload 0, .iconst 1, .iload 1, .iconst (-9), .invokeinterface 95328 4, .goto 3] := rfl
theorem b375_3 : blk 375 3 = [.ireturn] := rfl
theorem en375 {a0 a1 : Int} : ent 375 [(3, a0), (0, a1)] = [(3, a0), (0, a1)] := rfl
theorem b376_0 : blk 376 0 = [.aload 0, .iload 1, .invokeinterface 96608 2, .ifCond .eq 1, .iload 2, .iconst 0, .iconst 2, .invokeinterface 95744 3, .ifCond .ne 2, .goto 1] := rfl
theorem b376_1 : blk 376 1 = [.iconst (-100), .ireturn] := rfl
theorem b376_2 : blk 376 2 = [.iload 2, .ifCond .ne 3, .aload 0, .ifnonnull 11475, .iload 1, .iaload, .goto 5] := rfl
theorem b376_3 : blk 376 3 = [.iload 2, .iconst 1, .if_icmp .ne 4, .aload 0, .ifnonnull 11483, .iload 1, .iaload, .goto 5] := rfl
theorem b376_4 : blk 376 4 = [.aload 0, .ifnonnull 11491, .iload 1, .iaload, .goto 5] := rfl
theorem b376_5 : blk 376 5 = [.ireturn] := rfl
theorem en376 {a0 a1 a2 : Int} : ent 376 [(3, a0), (0, a1), (0, a2)] = [(3, a0), (0, a1), (0, a2)] := rfl
theorem b377_0 : blk 377 0 = [.iload 1, .iconst 0, .aload 0, .ifnull 11464, .iconst 1, .isub, .invokeinterface 95744 3, .freturn] := rfl
theorem en377 {a0 a1 : Int} : ent 377 [(3, a0), (0, a1)] = [(3, a0), (0, a1)] := rfl
theorem b378_0 : blk 378 0 = [.aload 0, .iload 1, .invokeinterface 96608 2, .ifCond .eq 1, .iload 2, .iconst 0, .iconst 3, .invokeinterface 95744 3, .ifCond .ne 2, .goto 1] := rfl
theorem b378_1 : blk 378 1 = [.iconst (-1), .goto 3] := rfl
theorem b378_2 : blk 378 2 = [.aload 0, .iload 1, .iload 2, .invokeinterface 97120 3, .goto 3] := rfl
theorem b378_3 : blk 378 3 = [.ireturn] := rfl
theorem en378 {a0 a1 a2 : Int} : ent 378 [(3, a0), (0, a1), (0, a2)] = [(3, a0), (0, a1), (0, a2)] := rfl
theorem b379_0 : blk 379 0 = [.iload 2, .iconst 1, .if_icmp .ne 1, .iconst 1, .goto 2] := rfl
theorem b379_1 : blk 379 1 = [.iconst 0, .goto 2] := rfl
theorem b379_2 : blk 379 2 = [.istore 3, .iload 3, .iload 2, .ifCond .eq 3, .iload 2, .iconst 3, .if_icmp .ne 4, .goto 3] := rfl
theorem b379_3 : blk 379 3 = [.iconst 1, .goto 5] := rfl
theorem b379_4 : blk 379 4 = [.iconst 0, .goto 5] := rfl
theorem b379_5 : blk 379 5 = [.iadd, .istore 4, .iload 3, .iload 2, .ifCond .eq 6, .iload 2, .iconst 2, .if_icmp .ne 7, .goto 6] := rfl
theorem b379_6 : blk 379 6 = [.iconst 2, .goto 8] := rfl
theorem b379_7 : blk 379 7 = [.iconst 0, .goto 8] := rfl
theorem b379_8 : blk 379 8 = [.iadd, .istore 5, .aload 0, .ifnonnull 11475, .iload 1, .iaload, .istore 6, .iload 6, .ifCond .ne 9, .iload 3, .goto 15] := rfl
theorem b379_9 : blk 379 9 = [.iload 6, .iconst 1, .if_icmp .ne 10, .iload 4, .goto 15] := rfl
theorem b379_10 : blk 379 10 = [.iload 6, .iconst 2, .if_icmp .ne 11, .iload 5, .goto 15] := rfl
theorem b379_11 : blk 379 11 = [.iload 6, .iconst 3, .if_icmp .ne 12, .iload 5, .iload 4, .iadd, .goto 15] := rfl
theorem b379_12 : blk 379 12 = [.iconst 3, .iload 5, .imul, .iload 5, .iadd, .iload 4, .iadd, .aload 0, .ifnonnull 11483, .iload 1, .iaload, .iconst 5, .if_icmp .le 13, .iconst 1, .goto 14] := rfl
theorem b379_13 : blk 379 13 = [.iconst 0, .goto 14] := rfl
theorem b379_14 : blk 379 14 = [.iadd, .goto 15] := rfl
theorem b379_15 : blk 379 15 = [.ireturn] := rfl
theorem en379 {a0 a1 a2 : Int} : ent 379 [(3, a0), (0, a1), (0, a2)] = [(3, a0), (0, a1), (0, a2), (9, 0), (9, 0), (9, 0), (9, 0)] := rfl
theorem b380_0 : blk 380 0 = [.aload 0, .iload 1, .invokeinterface 96608 2, .ifCond .eq 1, .aload 0, .iload 2, .invokeinterface 97632 2, .ifCond .eq 1, .iload 3, .iconst (-1), .iconst 64, .invokeinterface 95744 3, .ifCond .ne 2, .goto 1] := rfl
theorem b380_1 : blk 380 1 = [.iconst (-1), .ireturn] := rfl
theorem b380_2 : blk 380 2 = [.aload 0, .ifnonnull 11475, .iload 1, .iaload, .ifCond .eq 3, .iconst (-2), .ireturn] := rfl
theorem b380_3 : blk 380 3 = [.iload 3, .ifCond .lt 4, .aload 0, .ifnull 11504, .iconst 6000, .if_icmp .ne 4, .iconst (-3), .ireturn] := rfl
theorem b380_4 : blk 380 4 = [.aload 0, .ifnonnull 11499, .iconst 8, .iload 1, .imul, .iload 2, .iadd, .iload 3, .ifCond .ge 5, .iconst (-9), .goto 6] := rfl
theorem b380_5 : blk 380 5 = [.aload 0, .iconst 4, .iload 3, .invokeinterface 97888 3, .goto 6] := rfl
theorem b380_6 : blk 380 6 = [.iastore, .iconst 0, .ireturn] := rfl
theorem en380 {a0 a1 a2 a3 : Int} : ent 380 [(3, a0), (0, a1), (0, a2), (0, a3)] = [(3, a0), (0, a1), (0, a2), (0, a3)] := rfl
theorem b381_0 : blk 381 0 = [.iload 1, .iconst 0, .aload 0, .ifnull 11339, .ifnonnull 12291, .iconst 5, .iaload, .iconst 1, .isub, .invokeinterface 95744 3, .freturn] := rfl
theorem en381 {a0 a1 : Int} : ent 381 [(3, a0), (0, a1)] = [(3, a0), (0, a1)] := rfl
theorem b382_0 : blk 382 0 = [.aload 0, .ifnull 11504, .istore 3, .aload 0, .dup, .ifnull 11504, .iconst 1, .iadd, .jsr_w 11504, .aload 0, .ifnonnull 11515, .iload 3, .iload 1, .iastore, .aload 0, .ifnonnull 11523, .iload 3, .iload 2, .iastore, .iconst 0, .istore 4, .goto 1] := rfl
theorem b382_1 : blk 382 1 = [.iload 4, .iload 2, .if_icmp .ge 4, .aload 0, .ifnonnull 11531, .iconst 64, .iload 3, .imul, .iload 4, .iadd, .iload 1, .iconst 5, .if_icmp .le 2, .bipush (-9), .goto 3] := rfl
theorem b382_2 : blk 382 2 = [.bipush 0, .goto 3] := rfl
theorem b382_3 : blk 382 3 = [.lastore, .iinc 4 1, .goto 1] := rfl
theorem b382_4 : blk 382 4 = [.iload 3, .ireturn] := rfl
theorem en382 {a0 a1 a2 : Int} : ent 382 [(3, a0), (0, a1), (0, a2)] = [(3, a0), (0, a1), (0, a2), (9, 0), (9, 0)] := rfl
theorem b383_0 : blk 383 0 = [.aload 0, .iload 1, .invokeinterface 96608 2, .ifCond .eq 1, .aload 0, .iload 2, .invokeinterface 97632 2, .ifCond .ne 2, .goto 1] := rfl
theorem b383_1 : blk 383 1 = [.iconst (-1), .ireturn] := rfl
theorem b383_2 : blk 383 2 = [.aload 0, .ifnonnull 11499, .iconst 8, .iload 1, .imul, .iload 2, .iadd, .iaload, .istore 5, .aload 0, .ifnonnull 11475, .iload 1, .iaload, .ifCond .ne 3, .iload 5, .iconst (-9), .if_icmp .eq 3, .iload 3, .iconst 0, .aload 0, .ifnonnull 11523, .iload 5, .iaload, .iconst 1, .isub, .invokeinterface 95744 3, .ifCond .ne 4, .goto 3] := rfl
theorem b383_3 : blk 383 3 = [.iconst (-2), .ireturn] := rfl
theorem b383_4 : blk 383 4 = [.aload 0, .ifnonnull 11531, .iconst 64, .iload 5, .imul, .iload 3, .iadd, .laload, .l2i, .istore 6, .aload 0, .ifnonnull 11531, .iconst 64, .iload 5, .imul, .iload 3, .iadd, .iload 4, .i2l, .lastore, .iload 6, .ireturn] := rfl
theorem en383 {a0 a1 a2 a3 a4 : Int} : ent 383 [(3, a0), (0, a1), (0, a2), (0, a3), (0, a4)] = [(3, a0), (0, a1), (0, a2), (0, a3), (0, a4), (9, 0), (9, 0)] := rfl
theorem b384_0 : blk 384 0 = [.aload 0, .iload 1, .invokeinterface 96608 2, .ifCond .eq 1, .aload 0, .iload 2, .invokeinterface 97632 2, .ifCond .ne 2, .goto 1] := rfl
theorem b384_1 : blk 384 1 = [.iconst (-2000000000), .ireturn] := rfl
theorem b384_2 : blk 384 2 = [.aload 0, .ifnonnull 11499, .iconst 8, .iload 1, .imul, .iload 2, .iadd, .iaload, .istore 4, .aload 0, .ifnonnull 11475, .iload 1, .iaload, .ifCond .ne 3, .iload 4, .iconst (-9), .if_icmp .eq 3, .iload 3, .iconst (-1), .aload 0, .ifnonnull 11523, .iload 4, .iaload, .iconst 1, .isub, .invokeinterface 95744 3, .ifCond .ne 4, .goto 3] := rfl
theorem b384_3 : blk 384 3 = [.iconst (-2000000001), .ireturn] := rfl
theorem b384_4 : blk 384 4 = [.iload 3, .ifCond .ge 5, .aload 0, .ifnonnull 11523, .iload 4, .iaload, .goto 6] := rfl
theorem b384_5 : blk 384 5 = [.aload 0, .ifnonnull 11531, .iconst 64, .iload 4, .imul, .iload 3, .iadd, .laload, .l2i, .goto 6] := rfl
theorem b384_6 : blk 384 6 = [.ireturn] := rfl
theorem en384 {a0 a1 a2 a3 : Int} : ent 384 [(3, a0), (0, a1), (0, a2), (0, a3)] = [(3, a0), (0, a1), (0, a2), (0, a3), (9, 0)] := rfl
theorem b385_0 : blk 385 0 = [.aload 0, .iload 1, .invokeinterface 98912 2, .ifCond .eq 1, .iload 2, .iconst 1, .iconst 3000, .invokeinterface 95744 3, .ifCond .ne 2, .goto 1] := rfl
theorem b385_1 : blk 385 1 = [.iconst (-1), .goto 3] := rfl
theorem b385_2 : blk 385 2 = [.aload 0, .iload 1, .iload 2, .iload 3, .iload 4, .iload 5, .iload 6, .invokeinterface 99168 7, .goto 3] := rfl
theorem b385_3 : blk 385 3 = [.ireturn] := rfl
theorem en385 {a0 a1 a2 a3 a4 a5 a6 : Int} : ent 385 [(3, a0), (0, a1), (0, a2), (0, a3), (0, a4), (0, a5), (0, a6)] = [(3, a0), (0, a1), (0, a2), (0, a3), (0, a4), (0, a5), (0, a6)] := rfl
theorem b386_0 : blk 386 0 = [.iload 1, .iconst 0, .aload 0, .ifnull 11339, .ifnonnull 12291, .iconst 6, .iaload, .iconst 1, .isub, .invokeinterface 95744 3, .freturn] := rfl
theorem en386 {a0 a1 : Int} : ent 386 [(3, a0), (0, a1)] = [(3, a0), (0, a1)] := rfl
theorem b387_0 : blk 387 0 = [.aload 0, .iload 2, .jsr_w 11696, .aload 0, .iconst 0, .jsr_w 11688, .aload 0, .iconst 0, .jsr_w 11552, .aload 0, .iconst 0, .jsr_w 11616, .aload 0, .iconst 1, .jsr_w 11592, .aload 0, .ifnonnull 11611, .iconst 0, .iconst 0, .iastore, .aload 0, .ifnonnull 11603, .iconst 0, .iconst 0, .iastore, .aload 0, .iconst 0, .jsr_w 11728, .aload 0, .bipush 0, .jsr_w 11737, .aload 0, .ifnull 11704, .iconst 10000, .if_icmp .ne 1, .aload 0, .iconst (-23), .jsr_w 11720, .aload 0, .ifnull 11720, .ireturn] := rfl
theorem b387_1 : blk 387 1 = [.iconst 0, .istore 7, .goto 2] := rfl
theorem b387_2 : blk 387 2 = [.iload 7, .aload 0, .ifnull 11339, .ifnonnull 12387, .iload 1, .iaload, .if_icmp .ge 12, .iload 7, .aload 0, .ifnull 11339, .ifnonnull 12379, .iload 1, .iaload, .if_icmp .ge 3, .iconst 1, .goto 4] := rfl
theorem b387_3 : blk 387 3 = [.iconst 0, .goto 4] := rfl
theorem b387_4 : blk 387 4 = [.istore 8, .aload 0, .ifnonnull 11563, .iload 7, .iload 8, .ifCond .eq 5, .iconst 1, .goto 6] := rfl
theorem b387_5 : blk 387 5 = [.iconst 0, .goto 6] := rfl
theorem b387_6 : blk 387 6 = [.iastore, .aload 0, .ifnonnull 11571, .iload 7, .iload 8, .ifCond .ne 7, .bipush 0, .goto 11] := rfl
theorem b387_7 : blk 387 7 = [.iload 7, .ifCond .ne 8, .iload 3, .i2l, .goto 11] := rfl
theorem b387_8 : blk 387 8 = [.iload 7, .iconst 1, .if_icmp .ne 9, .iload 4, .i2l, .goto 11] := rfl
theorem b387_9 : blk 387 9 = [.iload 7, .iconst 2, .if_icmp .ne 10, .iload 5, .i2l, .goto 11] := rfl
theorem b387_10 : blk 387 10 = [.iload 6, .i2l, .goto 11] := rfl
theorem b387_11 : blk 387 11 = [.lastore, .iinc 7 1, .goto 2] := rfl
theorem b387_12 : blk 387 12 = [.aload 0, .aload 0, .ifnull 11339, .ifnonnull 12395, .iload 1, .iaload, .jsr_w 11680, .aload 0, .iconst 1, .jsr_w 11716, .goto 13] := rfl
theorem b387_13 : blk 387 13 = [.aload 0, .ifnull 11716, .ifCond .eq 14, .aload 0, .invokeinterface 99428 1, .goto 13] := rfl
theorem b387_14 : blk 387 14 = [.aload 0, .ifnull 11720, .ireturn] := rfl
theorem en387 {a0 a1 a2 a3 a4 a5 a6 : Int} : ent 387 [(3, a0), (0, a1), (0, a2), (0, a3), (0, a4), (0, a5), (0, a6)] = [(3, a0), (0, a1), (0, a2), (0, a3), (0, a4), (0, a5), (0, a6), (9, 0), (9, 0)] := rfl
theorem b388_0 : blk 388 0 = [.aload 0, .ifnull 11339, .ifnonnull 12419, .aload 0, .ifnull 11680, .iaload, .istore 1, .aload 0, .ifnull 11339, .ifnonnull 12427, .aload 0, .ifnull 11680, .iaload, .istore 2, .aload 0, .ifnull 11339, .ifnonnull 12435, .aload 0, .ifnull 11680, .iaload, .istore 3, .aload 0, .dup, .ifnull 11680, .iconst 1, .iadd, .jsr_w 11680, .iconst 420, .aload 0, .ifnull 11592, .iconst 1, .isub, .imul, .istore 4, .iconst 402, .aload 0, .ifnull 11592, .iconst 1, .isub, .imul, .iload 2, .iadd, .istore 5, .iload 1, .tableswitch 20 19 29 #[1, 5, 6, 8, 9, 10, 14, 16, 17, 19, 18]] := rfl
theorem b388_1 : blk 388 1 = [.aload 0, .iconst 1, .invokeinterface 99680 2, .istore 6, .iload 6, .ifCond .eq 2, .aload 0, .iload 6, .invokeinterface 100192 2, .pop, .goto 21] := rfl
theorem b388_2 : blk 388 2 = [.aload 0, .dup, .ifnull 11552, .iconst 1, .isub, .jsr_w 11552, .aload 0, .aload 0, .ifnonnull 11547, .aload 0, .ifnull 11552, .laload, .bipush 0, .lcmp, .ifCond .ne 3, .iload 2, .goto 4] := rfl
theorem b388_3 : blk 388 3 = [.aload 0, .ifnull 11680, .goto 4] := rfl
theorem b388_4 : blk 388 4 = [.jsr_w 11680, .goto 21] := rfl
theorem b388_5 : blk 388 5 = [.aload 0, .iload 2, .jsr_w 11680, .goto 21] := rfl
theorem b388_6 : blk 388 6 = [.aload 0, .iconst 1, .invokeinterface 99680 2, .istore 7, .iload 7, .ifCond .eq 7, .aload 0, .iload 7, .invokeinterface 100192 2, .pop, .goto 21] := rfl
theorem b388_7 : blk 388 7 = [.aload 0, .dup, .ifnull 11552, .iconst 1, .isub, .jsr_w 11552, .aload 0, .ifnonnull 11579, .iload 5, .aload 0, .ifnonnull 11547, .aload 0, .ifnull 11552, .laload, .l2i, .iastore, .aload 0, .ifnonnull 11587, .iload 5, .iconst 0, .iastore, .goto 21] := rfl
theorem b388_8 : blk 388 8 = [.aload 0, .ifnonnull 11587, .iload 5, .iaload, .aload 0, .ifnonnull 11579, .iload 5, .iaload, .if_icmp .ge 21, .aload 0, .invokeinterface 101216 1, .ifCond .eq 21, .aload 0, .ifnonnull 11563, .iload 4, .iload 3, .iadd, .iconst 1, .iastore, .aload 0, .ifnonnull 11571, .iload 4, .iload 3, .iadd, .aload 0, .ifnonnull 11587, .iload 5, .iaload, .i2l, .lastore, .aload 0, .ifnonnull 11587, .iload 5, .dup2, .iaload, .iconst 1, .iadd, .iastore, .aload 0, .dup, .ifnull 11680, .iconst 1, .iadd, .jsr_w 11680, .goto 21] := rfl
theorem b388_9 : blk 388 9 = [.aload 0, .ifnonnull 11627, .aload 0, .ifnull 11616, .iload 2, .iastore, .aload 0, .ifnonnull 11635, .aload 0, .ifnull 11616, .aload 0, .ifnull 11592, .iconst 1, .isub, .iastore, .aload 0, .ifnonnull 11643, .aload 0, .ifnull 11616, .aload 0, .ifnull 11552, .iastore, .aload 0, .ifnonnull 11651, .aload 0, .ifnull 11616, .iconst 0, .iastore, .aload 0, .dup, .ifnull 11616, .iconst 1, .iadd, .jsr_w 11616, .goto 21] := rfl
theorem b388_10 : blk 388 10 = [.aload 0, .ifnull 11339, .ifnonnull 12483, .iload 2, .iaload, .iconst (-9), .if_icmp .eq 11, .aload 0, .ifnonnull 11651, .aload 0, .ifnull 11616, .iconst 1, .isub, .iconst 2, .iastore, .aload 0, .ifnonnull 11659, .aload 0, .ifnull 11616, .iconst 1, .isub, .iconst 0, .iastore, .aload 0, .aload 0, .ifnull 11339, .ifnonnull 12483, .iload 2, .iaload, .jsr_w 11680, .goto 21] := rfl
theorem b388_11 : blk 388 11 = [.aload 0, .dup, .ifnull 11616, .aload 0, .ifnull 11616, .ifCond .le 12, .aload 0, .ifnonnull 11635, .aload 0, .ifnull 11616, .iconst 1, .isub, .iaload, .aload 0, .ifnull 11592, .iconst 1, .isub, .if_icmp .ne 12, .aload 0, .ifnonnull 11627, .aload 0, .ifnull 11616, .iconst 1, .isub, .iaload, .iload 2, .if_icmp .ne 12, .iconst 1, .goto 13] := rfl
theorem b388_12 : blk 388 12 = [.iconst 0, .goto 13] := rfl
theorem b388_13 : blk 388 13 = [.isub, .jsr_w 11616, .aload 0, .iload 3, .jsr_w 11680, .goto 21] := rfl
theorem b388_14 : blk 388 14 = [.aload 0, .dup, .ifnull 11616, .iconst 1, .isub, .jsr_w 11616, .aload 0, .ifnonnull 11659, .aload 0, .ifnull 11616, .iaload, .ifCond .le 15, .aload 0, .aload 0, .ifnonnull 11659, .aload 0, .ifnull 11616, .iaload, .iconst 1, .iconst 0, .bipush 0, .invokeinterface 100708 5, .goto 21] := rfl
theorem b388_15 : blk 388 15 = [.aload 0, .ifnonnull 11659, .aload 0, .ifnull 11616, .iaload, .ifCond .ge 21, .aload 0, .iconst 0, .iconst 0, .aload 0, .ifnonnull 11667, .aload 0, .ifnull 11616, .iaload, .aload 0, .ifnonnull 11675, .aload 0, .ifnull 11616, .laload, .invokeinterface 100708 5, .goto 21] := rfl
theorem b388_16 : blk 388 16 = [.aload 0, .iload 2, .invokeinterface 100192 2, .pop, .goto 21] := rfl
theorem b388_17 : blk 388 17 = [.aload 0, .dup, .ifnull 11552, .iconst 1, .isub, .jsr_w 11552, .aload 0, .iconst 0, .iconst 0, .aload 0, .ifnonnull 11539, .aload 0, .ifnull 11552, .iaload, .aload 0, .ifnonnull 11547, .aload 0, .ifnull 11552, .laload, .invokeinterface 100708 5, .goto 21] := rfl
theorem b388_18 : blk 388 18 = [.aload 0, .iconst 0, .iconst 0, .iconst 0, .bipush 0, .invokeinterface 100708 5, .goto 21] := rfl
theorem b388_19 : blk 388 19 = [.aload 0, .invokeinterface 101476 1, .goto 21] := rfl
theorem b388_20 : blk 388 20 = [.aload 0, .iload 1, .iload 2, .invokeinterface 102500 3, .goto 21] := rfl
theorem b388_21 : blk 388 21 = [.return_] := rfl
theorem en388 {a0 : Int} : ent 388 [(3, a0)] = [(3, a0), (9, 0), (9, 0), (9, 0), (9, 0), (9, 0), (9, 0), (9, 0)] := rfl
theorem b389_0 : blk 389 0 = [.aload 0, .iload 1, .invokeinterface 99936 2, .ifCond .ne 1, .iconst 3, .goto 3] := rfl
theorem b389_1 : blk 389 1 = [.aload 0, .iload 1, .invokeinterface 99936 2, .iconst 1, .if_icmp .eq 2, .iconst 4, .goto 3] := rfl
theorem b389_2 : blk 389 2 = [.iconst 0, .goto 3] := rfl
theorem b389_3 : blk 389 3 = [.ireturn] := rfl
theorem en389 {a0 a1 : Int} : ent 389 [(3, a0), (0, a1)] = [(3, a0), (0, a1)] := rfl
theorem b390_0 : blk 390 0 = [.aload 0, .ifnonnull 11539, .aload 0, .ifnull 11552, .iload 1, .isub, .iaload, .ireturn] := rfl
theorem en390 {a0 a1 : Int} : ent 390 [(3, a0), (0, a1)] = [(3, a0), (0, a1)] := rfl
theorem b391_0 : blk 391 0 = [.aload 0, .ifnull 11704, .iconst 10000, .if_icmp .ne 1, .aload 0, .iconst (-23), .invokeinterface 100452 2, .goto 2] := rfl
theorem b391_1 : blk 391 1 = [.aload 0, .dup, .ifnull 11704, .iconst 1, .iadd, .jsr_w 11704, .aload 0, .iload 1, .iconst 1, .iconst 0, .bipush 0, .invokeinterface 100708 5, .goto 2] := rfl
theorem b391_2 : blk 391 2 = [.iconst 1, .freturn] := rfl
theorem en391 {a0 a1 : Int} : ent 391 [(3, a0), (0, a1)] = [(3, a0), (0, a1)] := rfl
theorem b392_0 : blk 392 0 = [.aload 0, .iconst 0, .jsr_w 11716, .aload 0, .iload 1, .jsr_w 11720, .return_] := rfl
theorem en392 {a0 a1 : Int} : ent 392 [(3, a0), (0, a1)] = [(3, a0), (0, a1)] := rfl
theorem b393_0 : blk 393 0 = [.aload 0, .ifnull 11716, .ifCond .eq 16, .aload 0, .ifnull 11592, .iconst 1, .isub, .istore 6, .goto 1] := rfl
theorem b393_1 : blk 393 1 = [.aload 0, .ifnull 11616, .ifCond .le 8, .aload 0, .ifnonnull 11635, .aload 0, .ifnull 11616, .iconst 1, .isub, .iaload, .iload 6, .if_icmp .ne 8, .aload 0, .ifnull 11616, .iconst 1, .isub, .istore 7, .aload 0, .ifnonnull 11627, .iload 7, .iaload, .istore 8, .aload 0, .ifnonnull 11651, .iload 7, .iaload, .istore 9, .iload 2, .ifCond .eq 4, .iload 9, .ifCond .ne 4, .aload 0, .ifnull 11339, .ifnonnull 12475, .iconst 8, .iload 8, .imul, .iload 1, .iadd, .iaload, .iconst (-9), .if_icmp .eq 4, .aload 0, .aload 0, .ifnonnull 11643, .iload 7, .iaload, .jsr_w 11552, .aload 0, .aload 0, .ifnull 11339, .ifnonnull 12475, .iconst 8, .iload 8, .imul, .iload 1, .iadd, .iaload, .jsr_w 11680, .aload 0, .ifnonnull 11651, .iload 7, .iconst 1, .iastore, .aload 0, .dup, .ifnull 11616, .aload 0, .ifnull 11339, .ifnonnull 12483, .iload 8, .iaload, .iconst (-9), .if_icmp .ne 2, .iconst 1, .goto 3] := rfl
theorem b393_2 : blk 393 2 = [.iconst 0, .goto 3] := rfl
theorem b393_3 : blk 393 3 = [.isub, .jsr_w 11616, .return_] := rfl
theorem b393_4 : blk 393 4 = [.iload 9, .iconst 2, .if_icmp .ge 7, .aload 0, .ifnull 11339, .ifnonnull 12483, .iload 8, .iaload, .iconst (-9), .if_icmp .eq 7, .aload 0, .aload 0, .ifnonnull 11643, .iload 7, .iaload, .jsr_w 11552, .aload 0, .ifnonnull 11651, .iload 7, .iconst 2, .iastore, .aload 0, .ifnonnull 11659, .iload 7, .iload 2, .ifCond .eq 5, .iload 1, .goto 6] := rfl
theorem b393_5 : blk 393 5 = [.iconst (-1), .goto 6] := rfl
theorem b393_6 : blk 393 6 = [.iastore, .aload 0, .ifnonnull 11667, .iload 7, .iload 3, .iastore, .aload 0, .ifnonnull 11675, .iload 7, .lload 4, .lastore, .aload 0, .aload 0, .ifnull 11339, .ifnonnull 12483, .iload 8, .iaload, .jsr_w 11680, .return_] := rfl
theorem b393_7 : blk 393 7 = [.aload 0, .dup, .ifnull 11616, .iconst 1, .isub, .jsr_w 11616, .goto 1] := rfl
theorem b393_8 : blk 393 8 = [.aload 0, .dup, .ifnull 11592, .iconst 1, .isub, .jsr_w 11592, .aload 0, .ifnull 11592, .ifCond .ne 14, .aload 0, .iload 2, .ifCond .eq 9, .iconst (-10), .iload 1, .isub, .goto 11] := rfl
theorem b393_9 : blk 393 9 = [.iload 3, .iconst 4, .if_icmp .ge 10, .iload 3, .goto 11] := rfl
theorem b393_10 : blk 393 10 = [.aload 0, .ifnonnull 11515, .lload 4, .l2i, .iaload, .goto 11] := rfl
theorem b393_11 : blk 393 11 = [.invokeinterface 100452 2, .aload 0, .iload 2, .ifCond .eq 12, .iconst 0, .goto 13] := rfl
theorem b393_12 : blk 393 12 = [.iload 3, .goto 13] := rfl
theorem b393_13 : blk 393 13 = [.jsr_w 11728, .aload 0, .lload 4, .jsr_w 11737, .return_] := rfl
theorem b393_14 : blk 393 14 = [.aload 0, .aload 0, .ifnonnull 11611, .aload 0, .ifnull 11592, .iaload, .jsr_w 11552, .aload 0, .aload 0, .ifnonnull 11603, .aload 0, .ifnull 11592, .iaload, .jsr_w 11680, .iload 2, .ifCond .ne 15, .aload 0, .iload 3, .lload 4, .invokeinterface 100964 3, .return_] := rfl
theorem b393_15 : blk 393 15 = [.goto 0] := rfl
theorem b393_16 : blk 393 16 = [.return_] := rfl
theorem en393 {a0 a1 a2 a3 a4 : Int} : ent 393 [(3, a0), (0, a1), (0, a2), (0, a3), (1, a4)] = [(3, a0), (0, a1), (0, a2), (0, a3), (1, a4), (9, 0), (9, 0), (9, 0), (9, 0), (9, 0)] := rfl
theorem b394_0 : blk 394 0 = [.aload 0, .ifnonnull 11539, .aload 0, .ifnull 11552, .iload 1, .iastore, .aload 0, .ifnonnull 11547, .aload 0, .ifnull 11552, .lload 2, .lastore, .aload 0, .dup, .ifnull 11552, .iconst 1, .iadd, .jsr_w 11552, .return_] := rfl
theorem en394 {a0 a1 a2 : Int} : ent 394 [(3, a0), (0, a1), (1, a2)] = [(3, a0), (0, a1), (1, a2), (9, 0)] := rfl
theorem b395_0 : blk 395 0 = [.aload 0, .ifnull 11688, .aload 0, .ifnull 11696, .if_icmp .ne 1, .aload 0, .iconst (-20), .invokeinterface 100452 2, .iconst 0, .freturn] := rfl
theorem b395_1 : blk 395 1 = [.aload 0, .dup, .ifnull 11688, .iconst 1, .iadd, .jsr_w 11688, .iconst 1, .freturn] := rfl
theorem en395 {a0 : Int} : ent 395 [(3, a0)] = [(3, a0)] := rfl
theorem b396_0 : blk 396 0 = [.aload 0, .iconst 4, .invokeinterface 99680 2, .aload 0, .iconst 2, .invokeinterface 99680 2, .aload 0, .iconst 1, .invokeinterface 99680 2, .invokeinterface 101632 2, .invokeinterface 101632 2, .istore 1, .iload 1, .ifCond .ne 2, .aload 0, .iconst 5, .invokeinterface 99936 2, .ifCond .eq 1, .aload 0, .iconst 3, .invokeinterface 99936 2, .ifCond .ne 2, .goto 1] := rfl
theorem b396_1 : blk 396 1 = [.iconst 3, .istore 1, .goto 2] := rfl
theorem b396_2 : blk 396 2 = [.iload 1, .ifCond .ne 4, .aload 0, .iconst 5, .invokeinterface 99936 2, .iconst 4, .if_icmp .ne 3, .aload 0, .iconst 3, .invokeinterface 99936 2, .iconst 4, .if_icmp .eq 4, .goto 3] := rfl
theorem b396_3 : blk 396 3 = [.iconst 6, .istore 1, .goto 4] := rfl
theorem b396_4 : blk 396 4 = [.iload 1, .ifCond .eq 5, .aload 0, .iload 1, .invokeinterface 100192 2, .pop, .return_] := rfl
theorem b396_5 : blk 396 5 = [.aload 0, .iconst 5, .invokeinterface 101985 2, .l2i, .istore 2, .aload 0, .iconst 3, .invokeinterface 101985 2, .l2i, .istore 3, .aload 0, .iconst 4, .invokeinterface 101985 2, .lstore 4, .aload 0, .iconst 2, .invokeinterface 101985 2, .lstore 6, .aload 0, .iconst 1, .invokeinterface 101985 2, .lstore 8, .aload 0, .ifnonnull 11515, .iload 2, .iaload, .aload 0, .ifnonnull 11515, .iload 3, .iaload, .if_icmp .eq 7, .aload 0, .ifnonnull 11515, .iload 2, .iaload, .iconst 6, .if_icmp .lt 6, .aload 0, .ifnonnull 11515, .iload 3, .iaload, .iconst 6, .if_icmp .ge 7, .goto 6] := rfl
theorem b396_6 : blk 396 6 = [.aload 0, .iconst 6, .invokeinterface 100192 2, .pop, .return_] := rfl
theorem b396_7 : blk 396 7 = [.lload 4, .bipush 0, .lcmp, .ifCond .lt 8, .lload 6, .bipush 0, .lcmp, .ifCond .lt 8, .lload 8, .bipush 0, .lcmp, .ifCond .lt 8, .lload 4, .lload 8, .ladd, .aload 0, .ifnonnull 11523, .iload 2, .iaload, .i2l, .lcmp, .ifCond .gt 8, .lload 6, .lload 8, .ladd, .aload 0, .ifnonnull 11523, .iload 3, .iaload, .i2l, .lcmp, .ifCond .le 9, .goto 8] := rfl
theorem b396_8 : blk 396 8 = [.aload 0, .iconst 2, .invokeinterface 100192 2, .pop, .return_] := rfl
theorem b396_9 : blk 396 9 = [.iconst 0, .istore 10, .goto 10] := rfl
theorem b396_10 : blk 396 10 = [.iload 10, .i2l, .lload 8, .lcmp, .ifCond .ge 11, .aload 0, .ifnonnull 11747, .iload 10, .aload 0, .ifnonnull 11531, .iconst 64, .iload 2, .imul, .lload 4, .l2i, .iadd, .iload 10, .iadd, .laload, .lastore, .iinc 10 1, .goto 10] := rfl
theorem b396_11 : blk 396 11 = [.iconst 0, .istore 10, .goto 12] := rfl
theorem b396_12 : blk 396 12 = [.iload 10, .i2l, .lload 8, .lcmp, .ifCond .ge 14, .aload 0, .ifnonnull 11515, .iload 3, .iaload, .iconst 7, .if_icmp .ne 13, .aload 0, .ifnonnull 11747, .iload 10, .laload, .bipush (-9), .lcmp, .ifCond .eq 13, .aload 0, .aload 0, .ifnonnull 11747, .iload 10, .laload, .invokeinterface 102240 2, .ifCond .ne 13, .aload 0, .iconst 6, .invokeinterface 100192 2, .pop, .return_] := rfl
theorem b396_13 : blk 396 13 = [.aload 0, .ifnonnull 11531, .iconst 64, .iload 3, .imul, .lload 6, .l2i, .iadd, .iload 10, .iadd, .aload 0, .ifnonnull 11747, .iload 10, .laload, .lastore, .iinc 10 1, .goto 12] := rfl
theorem b396_14 : blk 396 14 = [.aload 0, .dup, .ifnull 11552, .iconst 5, .isub, .jsr_w 11552, .return_] := rfl
theorem en396 {a0 : Int} : ent 396 [(3, a0)] = [(3, a0), (9, 0), (9, 0), (9, 0), (9, 0), (9, 0), (9, 0), (9, 0), (9, 0), (9, 0), (9, 0)] := rfl
theorem b397_0 : blk 397 0 = [.iload 0, .ifCond .eq 1, .iload 0, .goto 2] := rfl
theorem b397_1 : blk 397 1 = [.iload 1, .goto 2] := rfl
theorem b397_2 : blk 397 2 = [.ireturn] := rfl
theorem en397 {a0 a1 : Int} : ent 397 [(0, a0), (0, a1)] = [(0, a0), (0, a1)] := rfl
theorem b398_0 : blk 398 0 = [.aload 0, .ifnonnull 11547, .aload 0, .ifnull 11552, .iload 1, .isub, .laload, .lreturn] := rfl
theorem en398 {a0 a1 : Int} : ent 398 [(3, a0), (0, a1)] = [(3, a0), (0, a1)] := rfl
theorem b399_0 : blk 399 0 = [.lload 1, .bipush 0, .lcmp, .ifCond .lt 1, .aload 0, .ifnonnull 11475, .lload 1, .l2i, .iaload, .iconst 2, .if_icmp .lt 1, .iconst 1, .goto 2] := rfl
theorem b399_1 : blk 399 1 = [.iconst 0, .goto 2] := rfl
theorem b399_2 : blk 399 2 = [.freturn] := rfl
theorem en399 {a0 a1 : Int} : ent 399 [(3, a0), (1, a1)] = [(3, a0), (1, a1), (9, 0)] := rfl
theorem b400_0 : blk 400 0 = [.iconst 420, .aload 0, .ifnull 11592, .iconst 1, .isub, .imul, .istore 3, .iload 1, .tableswitch 13 0 11 #[1, 2, 3, 4, 5, 6, 7, 8, 9, 10, 11, 12]] := rfl
theorem b400_1 : blk 400 1 = [.aload 0, .invokeinterface 101216 1, .pop, .goto 14] := rfl
theorem b400_2 : blk 400 2 = [.aload 0, .iconst 1, .iload 2, .i2l, .invokeinterface 100964 3, .goto 14] := rfl
theorem b400_3 : blk 400 3 = [.aload 0, .iconst 2, .aload 0, .ifnull 11339, .ifnonnull 12443, .iload 2, .daload, .invokeinterface 102657 1, .invokeinterface 100964 3, .goto 14] := rfl
theorem b400_4 : blk 400 4 = [.aload 0, .iconst 0, .bipush 0, .invokeinterface 100964 3, .goto 14] := rfl
theorem b400_5 : blk 400 5 = [.aload 0, .aload 0, .ifnonnull 11563, .iload 3, .iload 2, .iadd, .iaload, .aload 0, .ifnonnull 11571, .iload 3, .iload 2, .iadd, .laload, .invokeinterface 100964 3, .goto 14] := rfl
theorem b400_6 : blk 400 6 = [.aload 0, .dup, .ifnull 11552, .iconst 1, .isub, .jsr_w 11552, .aload 0, .ifnonnull 11563, .iload 3, .iload 2, .iadd, .aload 0, .ifnonnull 11539, .aload 0, .ifnull 11552, .iaload, .iastore, .aload 0, .ifnonnull 11571, .iload 3, .iload 2, .iadd, .aload 0, .ifnonnull 11547, .aload 0, .ifnull 11552, .laload, .lastore, .goto 14] := rfl
theorem b400_7 : blk 400 7 = [.aload 0, .iload 2, .invokeinterface 103524 2, .goto 14] := rfl
theorem b400_8 : blk 400 8 = [.aload 0, .iload 2, .invokeinterface 104292 2, .goto 14] := rfl
theorem b400_9 : blk 400 9 = [.aload 0, .iload 2, .invokeinterface 104548 2, .goto 14] := rfl
theorem b400_10 : blk 400 10 = [.aload 0, .invokeinterface 105316 1, .goto 14] := rfl
theorem b400_11 : blk 400 11 = [.aload 0, .invokeinterface 105572 1, .goto 14] := rfl
theorem b400_12 : blk 400 12 = [.aload 0, .iload 2, .invokeinterface 106084 2, .goto 14] := rfl
theorem b400_13 : blk 400 13 = [.aload 0, .iload 1, .invokeinterface 106340 2, .goto 14] := rfl
theorem b400_14 : blk 400 14 = [.return_] := rfl
theorem en400 {a0 a1 a2 : Int} : ent 400 [(3, a0), (0, a1), (0, a2)] = [(3, a0), (0, a1), (0, a2), (9, 0)] := rfl
theorem b401_0 : blk 401 0 = [.dload 0, .invokeinterface 102913 1, .lreturn] := rfl
theorem en401 {a0 : Int} : ent 401 [(2, a0)] = [(2, a0), (9, 0)] := rfl
theorem b402_0 : blk 402 0 = [.dload 0, .invokeinterface 103168 1, .ifCond .ne 1, .dload 0, .d2l, .lreturn] := rfl
theorem b402_1 : blk 402 1 = [.bipush 9221120237041090560, .lreturn] := rfl
theorem en402 {a0 : Int} : ent 402 [(2, a0)] = [(2, a0), (9, 0)] := rfl
theorem b403_0 : blk 403 0 = [.dload 0, .dload 0, .dcmp .l, .ifCond .eq 1, .iconst 1, .goto 2] := rfl
theorem b403_1 : blk 403 1 = [.iconst 0, .goto 2] := rfl
theorem b403_2 : blk 403 2 = [.freturn] := rfl
theorem en403 {a0 : Int} : ent 403 [(2, a0)] = [(2, a0), (9, 0)] := rfl
theorem b404_0 : blk 404 0 = [.iconst 420, .aload 0, .ifnull 11592, .iconst 1, .isub, .imul, .iload 1, .iadd, .istore 2, .aload 0, .iconst 2, .invokeinterface 99680 2, .istore 3, .iload 3, .aload 0, .ifnonnull 11563, .iload 2, .iaload, .ifCond .ne 1, .iconst 3, .goto 3] := rfl
theorem b404_1 : blk 404 1 = [.aload 0, .ifnonnull 11563, .iload 2, .iaload, .iconst 4, .if_icmp .eq 2, .iconst 4, .goto 3] := rfl
theorem b404_2 : blk 404 2 = [.iconst 0, .goto 3] := rfl
theorem b404_3 : blk 404 3 = [.invokeinterface 101632 2, .istore 3, .iload 3, .ifCond .eq 4, .aload 0, .iload 3, .invokeinterface 100192 2, .pop, .return_] := rfl
theorem b404_4 : blk 404 4 = [.aload 0, .ifnonnull 11571, .iload 2, .laload, .l2i, .istore 4, .aload 0, .ifnonnull 11515, .iload 4, .iaload, .istore 5, .iload 5, .iconst 4, .if_icmp .ne 5, .aload 0, .iconst 1, .invokeinterface 99680 2, .goto 7] := rfl
theorem b404_5 : blk 404 5 = [.iload 5, .iconst 5, .if_icmp .ne 6, .aload 0, .iconst 1, .invokeinterface 103776 2, .goto 7] := rfl
theorem b404_6 : blk 404 6 = [.iconst 0, .goto 7] := rfl
theorem b404_7 : blk 404 7 = [.istore 3, .iload 3, .ifCond .ne 9, .aload 0, .iconst 2, .invokeinterface 101985 2, .bipush 0, .lcmp, .ifCond .lt 8, .aload 0, .iconst 2, .invokeinterface 101985 2, .aload 0, .ifnonnull 11523, .iload 4, .iaload, .i2l, .lcmp, .ifCond .lt 9, .goto 8] := rfl
theorem b404_8 : blk 404 8 = [.iconst 2, .istore 3, .goto 9] := rfl
theorem b404_9 : blk 404 9 = [.iload 3, .ifCond .ne 10, .iload 5, .iconst 5, .if_icmp .le 10, .aload 0, .iconst 1, .invokeinterface 99936 2, .ifCond .eq 10, .aload 0, .iconst 1, .invokeinterface 99936 2, .iconst 3, .if_icmp .eq 10, .iconst 4, .istore 3, .goto 10] := rfl
theorem b404_10 : blk 404 10 = [.iload 3, .ifCond .ne 11, .iload 5, .iconst 7, .if_icmp .ne 11, .aload 0, .iconst 1, .invokeinterface 99936 2, .iconst 3, .if_icmp .ne 11, .aload 0, .aload 0, .iconst 1, .invokeinterface 101985 2, .invokeinterface 102240 2, .ifCond .ne 11, .iconst 6, .istore 3, .goto 11] := rfl
theorem b404_11 : blk 404 11 = [.iload 3, .ifCond .eq 12, .aload 0, .iload 3, .invokeinterface 100192 2, .pop, .return_] := rfl
theorem b404_12 : blk 404 12 = [.aload 0, .ifnonnull 11531, .iconst 64, .iload 4, .imul, .aload 0, .iconst 2, .invokeinterface 101985 2, .l2i, .iadd, .iload 5, .iconst 5, .if_icmp .ne 13, .aload 0, .iconst 1, .invokeinterface 104034 2, .invokeinterface 102657 1, .goto 15] := rfl
theorem b404_13 : blk 404 13 = [.aload 0, .iconst 1, .invokeinterface 99936 2, .ifCond .ne 14, .bipush (-9), .goto 15] := rfl
theorem b404_14 : blk 404 14 = [.aload 0, .iconst 1, .invokeinterface 101985 2, .goto 15] := rfl
theorem b404_15 : blk 404 15 = [.lastore, .aload 0, .dup, .ifnull 11552, .iconst 2, .isub, .jsr_w 11552, .return_] := rfl
theorem en404 {a0 a1 : Int} : ent 404 [(3, a0), (0, a1)] = [(3, a0), (0, a1), (9, 0), (9, 0), (9, 0), (9, 0)] := rfl
theorem b405_0 : blk 405 0 = [.aload 0, .iload 1, .invokeinterface 99936 2, .ifCond .ne 1, .iconst 3, .goto 3] := rfl
theorem b405_1 : blk 405 1 = [.aload 0, .iload 1, .invokeinterface 99936 2, .iconst 2, .if_icmp .le 2, .iconst 4, .goto 3] := rfl
theorem b405_2 : blk 405 2 = [.iconst 0, .goto 3] := rfl
theorem b405_3 : blk 405 3 = [.ireturn] := rfl
theorem en405 {a0 a1 : Int} : ent 405 [(3, a0), (0, a1)] = [(3, a0), (0, a1)] := rfl
theorem b406_0 : blk 406 0 = [.aload 0, .iload 1, .invokeinterface 99936 2, .iconst 1, .if_icmp .ne 1, .aload 0, .iload 1, .invokeinterface 101985 2, .l2d, .goto 2] := rfl
theorem b406_1 : blk 406 1 = [.aload 0, .iload 1, .invokeinterface 101985 2, .f2d, .goto 2] := rfl
theorem b406_2 : blk 406 2 = [.dreturn] := rfl
theorem en406 {a0 a1 : Int} : ent 406 [(3, a0), (0, a1)] = [(3, a0), (0, a1)] := rfl
theorem b407_0 : blk 407 0 = [.aload 0, .ifnull 11339, .ifnonnull 12379, .iload 1, .iaload, .istore 2, .aload 0, .invokeinterface 101216 1, .ifCond .ne 1, .return_] := rfl
theorem b407_1 : blk 407 1 = [.aload 0, .ifnull 11592, .iconst 8, .if_icmp .ne 2, .aload 0, .iconst (-21), .invokeinterface 100452 2, .return_] := rfl
theorem b407_2 : blk 407 2 = [.iconst 420, .aload 0, .ifnull 11592, .imul, .istore 3, .iconst 0, .istore 4, .goto 3] := rfl
theorem b407_3 : blk 407 3 = [.iload 4, .aload 0, .ifnull 11339, .ifnonnull 12387, .iload 1, .iaload, .if_icmp .ge 4, .aload 0, .ifnonnull 11563, .iload 3, .iload 4, .iadd, .iconst 0, .iastore, .aload 0, .ifnonnull 11571, .iload 3, .iload 4, .iadd, .bipush 0, .lastore, .iinc 4 1, .goto 3] := rfl
theorem b407_4 : blk 407 4 = [.iconst 0, .istore 4, .goto 5] := rfl
theorem b407_5 : blk 407 5 = [.iload 4, .iload 2, .if_icmp .ge 6, .aload 0, .ifnonnull 11563, .iload 3, .iload 4, .iadd, .aload 0, .ifnonnull 11539, .aload 0, .ifnull 11552, .iload 2, .isub, .iload 4, .iadd, .iaload, .iastore, .aload 0, .ifnonnull 11571, .iload 3, .iload 4, .iadd, .aload 0, .ifnonnull 11547, .aload 0, .ifnull 11552, .iload 2, .isub, .iload 4, .iadd, .laload, .lastore, .iinc 4 1, .goto 5] := rfl
theorem b407_6 : blk 407 6 = [.aload 0, .dup, .ifnull 11552, .iload 2, .isub, .jsr_w 11552, .aload 0, .ifnonnull 11611, .aload 0, .ifnull 11592, .aload 0, .ifnull 11552, .iastore, .aload 0, .ifnonnull 11603, .aload 0, .ifnull 11592, .aload 0, .ifnull 11680, .iastore, .aload 0, .dup, .ifnull 11592, .iconst 1, .iadd, .jsr_w 11592, .aload 0, .aload 0, .ifnull 11339, .ifnonnull 12395, .iload 1, .iaload, .jsr_w 11680, .return_] := rfl
theorem en407 {a0 a1 : Int} : ent 407 [(3, a0), (0, a1)] = [(3, a0), (0, a1), (9, 0), (9, 0), (9, 0)] := rfl
theorem b408_0 : blk 408 0 = [.aload 0, .iconst 2, .invokeinterface 103776 2, .aload 0, .iconst 1, .invokeinterface 103776 2, .invokeinterface 101632 2, .istore 2, .iload 2, .ifCond .eq 1, .aload 0, .iload 2, .invokeinterface 100192 2, .pop, .return_] := rfl
theorem b408_1 : blk 408 1 = [.iload 1, .iconst 60, .if_icmp .eq 2, .iload 1, .iconst 62, .if_icmp .eq 2, .iload 1, .iconst 61, .if_icmp .ne 3, .goto 2] := rfl
theorem b408_2 : blk 408 2 = [.iconst 1, .goto 4] := rfl
theorem b408_3 : blk 408 3 = [.iconst 0, .goto 4] := rfl
theorem b408_4 : blk 408 4 = [.istore 3, .aload 0, .iconst 2, .invokeinterface 99936 2, .iconst 2, .if_icmp .eq 5, .aload 0, .iconst 1, .invokeinterface 99936 2, .iconst 2, .if_icmp .ne 20, .goto 5] := rfl
theorem b408_5 : blk 408 5 = [.aload 0, .iconst 2, .invokeinterface 104034 2, .dstore 4, .aload 0, .iconst 1, .invokeinterface 104034 2, .dstore 6, .aload 0, .dup, .ifnull 11552, .iconst 2, .isub, .jsr_w 11552, .iload 3, .ifCond .eq 11, .aload 0, .iconst 1, .iload 1, .iconst 60, .if_icmp .ne 6, .dload 4, .dload 6, .dcmp .g, .ifCond .ge 9, .goto 8] := rfl
theorem b408_6 : blk 408 6 = [.iload 1, .iconst 62, .if_icmp .ne 7, .dload 4, .dload 6, .dcmp .l, .ifCond .le 9, .goto 8] := rfl
theorem b408_7 : blk 408 7 = [.dload 4, .dload 6, .dcmp .l, .ifCond .ne 9, .goto 8] := rfl
theorem b408_8 : blk 408 8 = [.bipush 1, .goto 10] := rfl
theorem b408_9 : blk 408 9 = [.bipush 0, .goto 10] := rfl
theorem b408_10 : blk 408 10 = [.invokeinterface 100964 3, .goto 19] := rfl
theorem b408_11 : blk 408 11 = [.aload 0, .iconst 2, .iload 1, .dload 4, .dload 6, .invokeinterface 104704 3, .ifCond .eq 12, .bipush 9221120237041090560, .goto 18] := rfl
theorem b408_12 : blk 408 12 = [.iload 1, .iconst 43, .if_icmp .ne 13, .dload 4, .dload 6, .dadd, .goto 17] := rfl
theorem b408_13 : blk 408 13 = [.iload 1, .iconst 45, .if_icmp .ne 14, .dload 4, .dload 6, .dsub, .goto 17] := rfl
theorem b408_14 : blk 408 14 = [.iload 1, .iconst 42, .if_icmp .ne 15, .dload 4, .dload 6, .dmul, .goto 17] := rfl
theorem b408_15 : blk 408 15 = [.iload 1, .iconst 47, .if_icmp .ne 16, .dload 4, .dload 6, .ddiv, .goto 17] := rfl
theorem b408_16 : blk 408 16 = [.dload 4, .dload 6, .drem, .goto 17] := rfl
theorem b408_17 : blk 408 17 = [.invokeinterface 102657 1, .goto 18] := rfl
theorem b408_18 : blk 408 18 = [.invokeinterface 100964 3, .goto 19] := rfl
theorem b408_19 : blk 408 19 = [.return_] := rfl
theorem b408_20 : blk 408 20 = [.aload 0, .iconst 2, .invokeinterface 101985 2, .lstore 4, .aload 0, .iconst 1, .invokeinterface 101985 2, .lstore 6, .iload 3, .ifCond .eq 26, .aload 0, .dup, .ifnull 11552, .iconst 2, .isub, .jsr_w 11552, .aload 0, .iconst 1, .iload 1, .iconst 60, .if_icmp .ne 21, .lload 4, .lload 6, .lcmp, .ifCond .ge 24, .goto 23] := rfl
theorem b408_21 : blk 408 21 = [.iload 1, .iconst 62, .if_icmp .ne 22, .lload 4, .lload 6, .lcmp, .ifCond .le 24, .goto 23] := rfl
theorem b408_22 : blk 408 22 = [.lload 4, .lload 6, .lcmp, .ifCond .ne 24, .goto 23] := rfl
theorem b408_23 : blk 408 23 = [.bipush 1, .goto 25] := rfl
theorem b408_24 : blk 408 24 = [.bipush 0, .goto 25] := rfl
theorem b408_25 : blk 408 25 = [.invokeinterface 100964 3, .return_] := rfl
theorem b408_26 : blk 408 26 = [.iload 1, .iconst 47, .if_icmp .eq 27, .iload 1, .iconst 37, .if_icmp .ne 28, .goto 27] := rfl
theorem b408_27 : blk 408 27 = [.lload 6, .bipush 0, .lcmp, .ifCond .ne 28, .aload 0, .iconst 1, .invokeinterface 100192 2, .pop, .return_] := rfl
theorem b408_28 : blk 408 28 = [.iload 1, .iconst 43, .if_icmp .ne 29, .lload 4, .lload 6, .ladd, .goto 33] := rfl
theorem b408_29 : blk 408 29 = [.iload 1, .iconst 45, .if_icmp .ne 30, .lload 4, .lload 6, .lsub, .goto 33] := rfl
theorem b408_30 : blk 408 30 = [.iload 1, .iconst 42, .if_icmp .ne 31, .lload 4, .lload 6, .lmul, .goto 33] := rfl
theorem b408_31 : blk 408 31 = [.iload 1, .iconst 47, .if_icmp .ne 32, .lload 4, .lload 6, .ldiv, .l2i, .i2l, .goto 33] := rfl
theorem b408_32 : blk 408 32 = [.lload 4, .lload 6, .lrem, .goto 33] := rfl
theorem b408_33 : blk 408 33 = [.lstore 8, .lload 8, .lload 8, .l2i, .i2l, .lcmp, .ifCond .eq 34, .aload 0, .iconst 7, .invokeinterface 100192 2, .pop, .return_] := rfl
theorem b408_34 : blk 408 34 = [.aload 0, .dup, .ifnull 11552, .iconst 2, .isub, .jsr_w 11552, .aload 0, .iconst 1, .lload 8, .invokeinterface 100964 3, .return_] := rfl
theorem en408 {a0 a1 : Int} : ent 408 [(3, a0), (0, a1)] = [(3, a0), (0, a1), (9, 0), (9, 0), (9, 0), (9, 0), (9, 0), (9, 0), (9, 0), (9, 0)] := rfl
theorem b409_0 : blk 409 0 = [.dload 1, .dload 1, .dcmp .l, .ifCond .ne 1, .dload 3, .dload 3, .dcmp .l, .ifCond .eq 2, .goto 1] := rfl
theorem b409_1 : blk 409 1 = [.iconst 1, .freturn] := rfl
theorem b409_2 : blk 409 2 = [.dload 1, .invokeinterface 104960 1, .ifCond .eq 3, .dload 3, .invokeinterface 104960 1, .ifCond .eq 3, .iconst 1, .goto 4] := rfl
theorem b409_3 : blk 409 3 = [.iconst 0, .goto 4] := rfl
theorem b409_4 : blk 409 4 = [.istore 5, .iload 0, .tableswitch 20 42 47 #[11, 5, 20, 8, 20, 16]] := rfl
theorem b409_5 : blk 409 5 = [.iload 5, .ifCond .eq 6, .dload 1, .dload 3, .dcmp .l, .ifCond .eq 6, .iconst 1, .goto 7] := rfl
theorem b409_6 : blk 409 6 = [.iconst 0, .goto 7] := rfl
theorem b409_7 : blk 409 7 = [.freturn] := rfl
theorem b409_8 : blk 409 8 = [.iload 5, .ifCond .eq 9, .dload 1, .dload 3, .dcmp .l, .ifCond .ne 9, .iconst 1, .goto 10] := rfl
theorem b409_9 : blk 409 9 = [.iconst 0, .goto 10] := rfl
theorem b409_10 : blk 409 10 = [.freturn] := rfl
theorem b409_11 : blk 409 11 = [.dload 1, .invokeinterface 104960 1, .ifCond .eq 12, .dload 3, .sipush 0, .dcmp .l, .ifCond .eq 13, .goto 12] := rfl
theorem b409_12 : blk 409 12 = [.dload 3, .invokeinterface 104960 1, .ifCond .eq 14, .dload 1, .sipush 0, .dcmp .l, .ifCond .ne 14, .goto 13] := rfl
theorem b409_13 : blk 409 13 = [.iconst 1, .goto 15] := rfl
theorem b409_14 : blk 409 14 = [.iconst 0, .goto 15] := rfl
theorem b409_15 : blk 409 15 = [.freturn] := rfl
theorem b409_16 : blk 409 16 = [.iload 5, .ifCond .ne 17, .dload 1, .sipush 0, .dcmp .l, .ifCond .ne 18, .dload 3, .sipush 0, .dcmp .l, .ifCond .ne 18, .goto 17] := rfl
theorem b409_17 : blk 409 17 = [.iconst 1, .goto 19] := rfl
theorem b409_18 : blk 409 18 = [.iconst 0, .goto 19] := rfl
theorem b409_19 : blk 409 19 = [.freturn] := rfl
theorem b409_20 : blk 409 20 = [.dload 1, .invokeinterface 104960 1, .ifCond .ne 21, .dload 3, .sipush 0, .dcmp .l, .ifCond .ne 22, .goto 21] := rfl
theorem b409_21 : blk 409 21 = [.iconst 1, .goto 23] := rfl
theorem b409_22 : blk 409 22 = [.iconst 0, .goto 23] := rfl
theorem b409_23 : blk 409 23 = [.freturn] := rfl
theorem en409 {a0 a1 a2 : Int} : ent 409 [(0, a0), (2, a1), (2, a2)] = [(0, a0), (2, a1), (9, 0), (2, a2), (9, 0), (9, 0)] := rfl
theorem b410_0 : blk 410 0 = [.dload 0, .sipush 9218868437227405311, .dcmp .l, .ifCond .gt 1, .dload 0, .sipush (-4503599627370497), .dcmp .g, .ifCond .ge 2, .goto 1] := rfl
theorem b410_1 : blk 410 1 = [.iconst 1, .goto 3] := rfl
theorem b410_2 : blk 410 2 = [.iconst 0, .goto 3] := rfl
theorem b410_3 : blk 410 3 = [.freturn] := rfl
theorem en410 {a0 : Int} : ent 410 [(2, a0)] = [(2, a0), (9, 0)] := rfl
theorem b411_0 : blk 411 0 = [.aload 0, .iconst 1, .invokeinterface 103776 2, .istore 1, .iload 1, .ifCond .ne 1, .aload 0, .iconst 1, .invokeinterface 99936 2, .iconst 1, .if_icmp .ne 1, .aload 0, .iconst 1, .invokeinterface 101985 2, .bipush (-2147483648), .lcmp, .ifCond .ne 1, .iconst 7, .istore 1, .goto 1] := rfl
theorem b411_1 : blk 411 1 = [.iload 1, .ifCond .eq 2, .aload 0, .iload 1, .invokeinterface 100192 2, .pop, .return_] := rfl
theorem b411_2 : blk 411 2 = [.aload 0, .iconst 1, .invokeinterface 99936 2, .iconst 2, .if_icmp .ne 3, .iconst 43, .aload 0, .iconst 1, .invokeinterface 104034 2, .sipush 0, .invokeinterface 104704 3, .ifCond .eq 3, .iconst 1, .goto 4] := rfl
theorem b411_3 : blk 411 3 = [.iconst 0, .goto 4] := rfl
theorem b411_4 : blk 411 4 = [.istore 2, .aload 0, .ifnonnull 11547, .aload 0, .ifnull 11552, .iconst 1, .isub, .aload 0, .iconst 1, .invokeinterface 99936 2, .iconst 1, .if_icmp .ne 5, .aload 0, .iconst 1, .invokeinterface 101985 2, .lneg, .goto 7] := rfl
theorem b411_5 : blk 411 5 = [.iload 2, .ifCond .eq 6, .aload 0, .iconst 1, .invokeinterface 101985 2, .goto 7] := rfl
theorem b411_6 : blk 411 6 = [.aload 0, .iconst 1, .invokeinterface 101985 2, .f2d, .dneg, .invokeinterface 102657 1, .goto 7] := rfl
theorem b411_7 : blk 411 7 = [.lastore, .return_] := rfl
theorem en411 {a0 : Int} : ent 411 [(3, a0)] = [(3, a0), (9, 0), (9, 0)] := rfl
theorem b412_0 : blk 412 0 = [.aload 0, .iconst 1, .invokeinterface 99680 2, .istore 1, .iload 1, .aload 0, .iconst 2, .invokeinterface 99936 2, .ifCond .ne 1, .iconst 3, .goto 3] := rfl
theorem b412_1 : blk 412 1 = [.aload 0, .iconst 2, .invokeinterface 99936 2, .iconst 4, .if_icmp .eq 2, .iconst 4, .goto 3] := rfl
theorem b412_2 : blk 412 2 = [.iconst 0, .goto 3] := rfl
theorem b412_3 : blk 412 3 = [.invokeinterface 101632 2, .istore 1, .iload 1, .ifCond .ne 5, .aload 0, .iconst 1, .invokeinterface 101985 2, .bipush 0, .lcmp, .ifCond .lt 4, .aload 0, .iconst 1, .invokeinterface 101985 2, .aload 0, .ifnonnull 11523, .aload 0, .iconst 2, .invokeinterface 101985 2, .l2i, .iaload, .i2l, .lcmp, .ifCond .lt 5, .goto 4] := rfl
theorem b412_4 : blk 412 4 = [.iconst 2, .istore 1, .goto 5] := rfl
theorem b412_5 : blk 412 5 = [.iload 1, .ifCond .eq 6, .aload 0, .iload 1, .invokeinterface 100192 2, .pop, .return_] := rfl
theorem b412_6 : blk 412 6 = [.aload 0, .iconst 1, .invokeinterface 101985 2, .l2i, .istore 2, .aload 0, .iconst 2, .invokeinterface 101985 2, .l2i, .istore 3, .aload 0, .dup, .ifnull 11552, .iconst 2, .isub, .jsr_w 11552, .aload 0, .iload 3, .iload 2, .invokeinterface 105828 3, .return_] := rfl
theorem en412 {a0 : Int} : ent 412 [(3, a0)] = [(3, a0), (9, 0), (9, 0), (9, 0)] := rfl
theorem b413_0 : blk 413 0 = [.aload 0, .ifnonnull 11531, .iconst 64, .iload 1, .imul, .iload 2, .iadd, .laload, .lstore 3, .aload 0, .ifnonnull 11515, .iload 1, .iaload, .istore 5, .aload 0, .iload 5, .iconst 4, .if_icmp .ne 1, .iconst 1, .goto 4] := rfl
theorem b413_1 : blk 413 1 = [.iload 5, .iconst 5, .if_icmp .ne 2, .iconst 2, .goto 4] := rfl
theorem b413_2 : blk 413 2 = [.lload 3, .bipush (-9), .lcmp, .ifCond .ne 3, .iconst 0, .goto 4] := rfl
theorem b413_3 : blk 413 3 = [.iconst 3, .goto 4] := rfl
theorem b413_4 : blk 413 4 = [.iload 5, .iconst 5, .if_icmp .le 5, .lload 3, .bipush (-9), .lcmp, .ifCond .ne 5, .bipush 0, .goto 6] := rfl
theorem b413_5 : blk 413 5 = [.lload 3, .goto 6] := rfl
theorem b413_6 : blk 413 6 = [.invokeinterface 100964 3, .return_] := rfl
theorem en413 {a0 a1 a2 : Int} : ent 413 [(3, a0), (0, a1), (0, a2)] = [(3, a0), (0, a1), (0, a2), (9, 0), (9, 0), (9, 0)] := rfl
theorem b414_0 : blk 414 0 = [.aload 0, .iconst 1, .invokeinterface 99680 2, .iconst 0, .invokeinterface 101632 2, .istore 2, .iload 2, .ifCond .ne 2, .aload 0, .iconst 1, .invokeinterface 101985 2, .bipush 0, .lcmp, .ifCond .lt 1, .aload 0, .iconst 1, .invokeinterface 101985 2, .bipush 64, .lcmp, .ifCond .le 2, .goto 1] := rfl
theorem b414_1 : blk 414 1 = [.iconst 5, .istore 2, .goto 2] := rfl
theorem b414_2 : blk 414 2 = [.iload 2, .ifCond .eq 3, .aload 0, .iload 2, .invokeinterface 100192 2, .pop, .goto 5] := rfl
theorem b414_3 : blk 414 3 = [.aload 0, .ifnull 11504, .iconst 6000, .if_icmp .ne 4, .aload 0, .iconst (-22), .invokeinterface 100452 2, .goto 5] := rfl
theorem b414_4 : blk 414 4 = [.aload 0, .iconst 1, .invokeinterface 101985 2, .l2i, .istore 3, .aload 0, .dup, .ifnull 11552, .iconst 1, .isub, .jsr_w 11552, .aload 0, .iconst 4, .aload 0, .iload 1, .iload 3, .invokeinterface 97888 3, .i2l, .invokeinterface 100964 3, .goto 5] := rfl
theorem b414_5 : blk 414 5 = [.return_] := rfl
theorem en414 {a0 a1 : Int} : ent 414 [(3, a0), (0, a1)] = [(3, a0), (0, a1), (9, 0), (9, 0)] := rfl
theorem b415_0 : blk 415 0 = [.iload 1, .tableswitch 21 12 17 #[1, 5, 6, 7, 10, 14]] := rfl
theorem b415_1 : blk 415 1 = [.aload 0, .iconst 1, .invokeinterface 99936 2, .ifCond .ne 2, .iconst 3, .goto 4] := rfl
theorem b415_2 : blk 415 2 = [.aload 0, .iconst 1, .invokeinterface 99936 2, .iconst 4, .if_icmp .eq 3, .iconst 4, .goto 4] := rfl
theorem b415_3 : blk 415 3 = [.iconst 0, .goto 4] := rfl
theorem b415_4 : blk 415 4 = [.istore 2, .iload 2, .ifCond .ne 28, .aload 0, .ifnonnull 11547, .aload 0, .ifnull 11552, .iconst 1, .isub, .aload 0, .ifnonnull 11523, .aload 0, .iconst 1, .invokeinterface 101985 2, .l2i, .iaload, .i2l, .lastore, .aload 0, .ifnonnull 11539, .aload 0, .ifnull 11552, .iconst 1, .isub, .iconst 1, .iastore, .goto 28] := rfl
theorem b415_5 : blk 415 5 = [.aload 0, .iconst 1, .invokeinterface 103776 2, .istore 2, .iload 2, .ifCond .ne 28, .aload 0, .iconst 1, .invokeinterface 99936 2, .iconst 2, .if_icmp .ne 28, .aload 0, .ifnonnull 11547, .aload 0, .ifnull 11552, .iconst 1, .isub, .aload 0, .iconst 1, .invokeinterface 101985 2, .f2d, .d2i, .i2l, .lastore, .aload 0, .ifnonnull 11539, .aload 0, .ifnull 11552, .iconst 1, .isub, .iconst 1, .iastore, .goto 28] := rfl
theorem b415_6 : blk 415 6 = [.aload 0, .iconst 1, .invokeinterface 103776 2, .istore 2, .iload 2, .ifCond .ne 28, .aload 0, .iconst 1, .invokeinterface 99936 2, .iconst 1, .if_icmp .ne 28, .aload 0, .ifnonnull 11547, .aload 0, .ifnull 11552, .iconst 1, .isub, .aload 0, .iconst 1, .invokeinterface 101985 2, .l2d, .invokeinterface 102657 1, .lastore, .aload 0, .ifnonnull 11539, .aload 0, .ifnull 11552, .iconst 1, .isub, .iconst 2, .iastore, .goto 28] := rfl
theorem b415_7 : blk 415 7 = [.iconst 0, .istore 2, .aload 0, .ifnonnull 11547, .aload 0, .ifnull 11552, .iconst 1, .isub, .aload 0, .iconst 1, .invokeinterface 99936 2, .ifCond .ne 8, .bipush 1, .goto 9] := rfl
theorem b415_8 : blk 415 8 = [.bipush 0, .goto 9] := rfl
theorem b415_9 : blk 415 9 = [.lastore, .aload 0, .ifnonnull 11539, .aload 0, .ifnull 11552, .iconst 1, .isub, .iconst 1, .iastore, .goto 28] := rfl
theorem b415_10 : blk 415 10 = [.aload 0, .iconst 1, .invokeinterface 99680 2, .istore 2, .iload 2, .ifCond .ne 12, .aload 0, .iconst 1, .invokeinterface 101985 2, .bipush 0, .lcmp, .ifCond .lt 11, .aload 0, .iconst 1, .invokeinterface 101985 2, .aload 0, .ifnull 11464, .i2l, .lcmp, .ifCond .lt 12, .goto 11] := rfl
theorem b415_11 : blk 415 11 = [.iconst 2, .goto 13] := rfl
theorem b415_12 : blk 415 12 = [.iload 2, .goto 13] := rfl
theorem b415_13 : blk 415 13 = [.istore 2, .iload 2, .ifCond .ne 28, .aload 0, .ifnonnull 11539, .aload 0, .ifnull 11552, .iconst 1, .isub, .iconst 3, .iastore, .goto 28] := rfl
theorem b415_14 : blk 415 14 = [.aload 0, .iconst 1, .invokeinterface 99680 2, .aload 0, .iconst 2, .invokeinterface 99936 2, .ifCond .ne 15, .iconst 3, .goto 17] := rfl
theorem b415_15 : blk 415 15 = [.aload 0, .iconst 2, .invokeinterface 99936 2, .iconst 3, .if_icmp .eq 16, .iconst 4, .goto 17] := rfl
theorem b415_16 : blk 415 16 = [.iconst 0, .goto 17] := rfl
theorem b415_17 : blk 415 17 = [.invokeinterface 101632 2, .istore 2, .iload 2, .ifCond .ne 19, .aload 0, .iconst 1, .invokeinterface 101985 2, .bipush 0, .lcmp, .ifCond .lt 18, .aload 0, .iconst 1, .invokeinterface 101985 2, .bipush 3, .lcmp, .ifCond .le 19, .goto 18] := rfl
theorem b415_18 : blk 415 18 = [.iconst 2, .goto 20] := rfl
theorem b415_19 : blk 415 19 = [.iload 2, .goto 20] := rfl
theorem b415_20 : blk 415 20 = [.istore 2, .iload 2, .ifCond .ne 28, .aload 0, .aload 0, .iconst 2, .invokeinterface 101985 2, .l2i, .aload 0, .iconst 1, .invokeinterface 101985 2, .l2i, .invokeinterface 97120 3, .istore 3, .aload 0, .dup, .ifnull 11552, .iconst 2, .isub, .jsr_w 11552, .aload 0, .iconst 1, .iload 3, .i2l, .invokeinterface 100964 3, .goto 28] := rfl
theorem b415_21 : blk 415 21 = [.aload 0, .iconst 2, .invokeinterface 99680 2, .aload 0, .iconst 1, .invokeinterface 99680 2, .invokeinterface 101632 2, .istore 2, .iload 2, .ifCond .ne 23, .aload 0, .iconst 2, .invokeinterface 101985 2, .bipush 0, .lcmp, .ifCond .lt 22, .aload 0, .iconst 2, .invokeinterface 101985 2, .aload 0, .ifnull 11464, .i2l, .lcmp, .ifCond .ge 22, .aload 0, .ifnonnull 11475, .aload 0, .iconst 2, .invokeinterface 101985 2, .l2i, .iaload, .ifCond .ne 22, .aload 0, .iconst 1, .invokeinterface 101985 2, .bipush 0, .lcmp, .ifCond .lt 22, .aload 0, .iconst 1, .invokeinterface 101985 2, .aload 0, .ifnull 11339, .ifnonnull 12291, .iconst 5, .iaload, .i2l, .lcmp, .ifCond .lt 23, .goto 22] := rfl
theorem b415_22 : blk 415 22 = [.iconst 2, .istore 2, .goto 23] := rfl
theorem b415_23 : blk 415 23 = [.iload 2, .ifCond .ne 28, .aload 0, .ifnonnull 11499, .iconst 8, .aload 0, .iconst 2, .invokeinterface 101985 2, .l2i, .imul, .aload 0, .iconst 1, .invokeinterface 101985 2, .l2i, .iadd, .iaload, .istore 3, .aload 0, .dup, .ifnull 11552, .iconst 2, .isub, .jsr_w 11552, .aload 0, .iload 3, .iconst (-9), .if_icmp .ne 24, .iconst 0, .goto 25] := rfl
theorem b415_24 : blk 415 24 = [.iconst 4, .goto 25] := rfl
theorem b415_25 : blk 415 25 = [.iload 3, .iconst (-9), .if_icmp .ne 26, .bipush 0, .goto 27] := rfl
theorem b415_26 : blk 415 26 = [.iload 3, .i2l, .goto 27] := rfl
theorem b415_27 : blk 415 27 = [.invokeinterface 100964 3, .goto 28] := rfl
theorem b415_28 : blk 415 28 = [.iload 2, .ifCond .eq 29, .aload 0, .iload 2, .invokeinterface 100192 2, .pop, .goto 29] := rfl
theorem b415_29 : blk 415 29 = [.return_] := rfl
theorem en415 {a0 a1 : Int} : ent 415 [(3, a0), (0, a1)] = [(3, a0), (0, a1), (9, 0), (9, 0)] := rfl
theorem b416_0 : blk 416 0 = [.iload 1, .iconst (-1), .if_icmp .ne 3, .aload 0, .ifnull 11728, .iconst 1, .if_icmp .ne 1, .aload 0, .ifnull 11737, .goto 2] := rfl
theorem b416_1 : blk 416 1 = [.bipush 0, .goto 2] := rfl
theorem b416_2 : blk 416 2 = [.lreturn] := rfl
theorem b416_3 : blk 416 3 = [.iload 1, .iconst (-2), .if_icmp .ne 6, .aload 0, .ifnull 11728, .iconst 2, .if_icmp .ne 4, .aload 0, .ifnull 11737, .goto 5] := rfl
theorem b416_4 : blk 416 4 = [.bipush 0, .goto 5] := rfl
theorem b416_5 : blk 416 5 = [.lreturn] := rfl
theorem b416_6 : blk 416 6 = [.iload 1, .iconst (-3), .if_icmp .ne 9, .aload 0, .ifnull 11728, .iconst 3, .if_icmp .ne 7, .aload 0, .ifnull 11737, .goto 8] := rfl
theorem b416_7 : blk 416 7 = [.bipush 0, .goto 8] := rfl
theorem b416_8 : blk 416 8 = [.lreturn] := rfl
theorem b416_9 : blk 416 9 = [.aload 0, .ifnull 11728, .iconst 4, .if_icmp .eq 10, .bipush 0, .lreturn] := rfl
theorem b416_10 : blk 416 10 = [.aload 0, .ifnull 11737, .l2i, .istore 2, .iload 1, .iconst (-4), .if_icmp .ne 11, .aload 0, .ifnonnull 11523, .iload 2, .iaload, .i2l, .goto 13] := rfl
theorem b416_11 : blk 416 11 = [.iload 1, .ifCond .lt 12, .iload 1, .aload 0, .ifnonnull 11523, .iload 2, .iaload, .if_icmp .ge 12, .aload 0, .ifnonnull 11531, .iconst 64, .iload 2, .imul, .iload 1, .iadd, .laload, .goto 13] := rfl
theorem b416_12 : blk 416 12 = [.bipush 0, .goto 13] := rfl
theorem b416_13 : blk 416 13 = [.lreturn] := rfl
theorem en416 {a0 a1 : Int} : ent 416 [(3, a0), (0, a1)] = [(3, a0), (0, a1), (9, 0)] := rfl
theorem b417_0 : blk 417 0 = [.aload 0, .ifnull 11688, .ireturn] := rfl
theorem en417 {a0 : Int} : ent 417 [(3, a0)] = [(3, a0)] := rfl
theorem b418_0 : blk 418 0 = [.aload 0, .iload 1, .invokeinterface 98912 2, .ifCond .eq 1, .iload 2, .iconst 1, .iconst 3000, .invokeinterface 95744 3, .ifCond .eq 1, .aload 0, .ifnull 11339, .ifnonnull 12379, .iload 1, .iaload, .iconst 1, .if_icmp .eq 2, .goto 1] := rfl
theorem b418_1 : blk 418 1 = [.iconst (-1), .ireturn] := rfl
theorem b418_2 : blk 418 2 = [.aload 0, .ifnull 11728, .istore 3, .aload 0, .ifnull 11737, .lstore 4, .aload 0, .ifnull 11688, .istore 6, .iconst 0, .istore 7, .iconst 0, .istore 8, .goto 3] := rfl
theorem b418_3 : blk 418 3 = [.iload 8, .aload 0, .ifnull 11464, .if_icmp .ge 13, .aload 0, .ifnonnull 11475, .iload 8, .iaload, .ifCond .ne 12, .aload 0, .iload 1, .iload 2, .iload 8, .iconst 0, .iconst 0, .iconst 0, .invokeinterface 99168 7, .pop, .aload 0, .ifnull 11728, .iconst 1, .if_icmp .ne 4, .aload 0, .ifnull 11737, .l2d, .goto 5] := rfl
theorem b418_4 : blk 418 4 = [.aload 0, .ifnull 11737, .f2d, .goto 5] := rfl
theorem b418_5 : blk 418 5 = [.dstore 9, .aload 0, .ifnonnull 11771, .iload 8, .aload 0, .ifnull 11720, .ifCond .lt 6, .aload 0, .ifnull 11728, .iconst 1, .if_icmp .eq 7, .aload 0, .ifnull 11728, .iconst 2, .if_icmp .eq 7, .goto 6] := rfl
theorem b418_6 : blk 418 6 = [.iconst 2, .goto 9] := rfl
theorem b418_7 : blk 418 7 = [.dload 9, .dload 9, .dcmp .l, .ifCond .eq 8, .iconst 1, .goto 9] := rfl
theorem b418_8 : blk 418 8 = [.iconst 0, .goto 9] := rfl
theorem b418_9 : blk 418 9 = [.iastore, .aload 0, .ifnonnull 11779, .iload 8, .dload 9, .dastore, .iload 7, .istore 11, .goto 10] := rfl
theorem b418_10 : blk 418 10 = [.iload 11, .ifCond .le 11, .aload 0, .iload 8, .aload 0, .ifnonnull 11763, .iload 11, .iconst 1, .isub, .iaload, .invokeinterface 107360 3, .ifCond .eq 11, .aload 0, .ifnonnull 11763, .iload 11, .aload 0, .ifnonnull 11763, .iload 11, .iconst 1, .isub, .iaload, .iastore, .iinc 11 (-1), .goto 10] := rfl
theorem b418_11 : blk 418 11 = [.aload 0, .ifnonnull 11763, .iload 11, .iload 8, .iastore, .iinc 7 1, .goto 12] := rfl
theorem b418_12 : blk 418 12 = [.iinc 8 1, .goto 3] := rfl
theorem b418_13 : blk 418 13 = [.aload 0, .iload 3, .jsr_w 11728, .aload 0, .lload 4, .jsr_w 11737, .aload 0, .iload 6, .jsr_w 11688, .aload 0, .iload 7, .jsr_w 11752, .iload 7, .ireturn] := rfl
theorem en418 {a0 a1 a2 : Int} : ent 418 [(3, a0), (0, a1), (0, a2)] = [(3, a0), (0, a1), (0, a2), (9, 0), (9, 0), (9, 0), (9, 0), (9, 0), (9, 0), (9, 0), (9, 0), (9, 0)] := rfl
theorem b419_0 : blk 419 0 = [.aload 0, .ifnonnull 11771, .iload 1, .iaload, .aload 0, .ifnonnull 11771, .iload 2, .iaload, .if_icmp .eq 3, .aload 0, .ifnonnull 11771, .iload 1, .iaload, .aload 0, .ifnonnull 11771, .iload 2, .iaload, .if_icmp .ge 1, .iconst 1, .goto 2] := rfl
theorem b419_1 : blk 419 1 = [.iconst 0, .goto 2] := rfl
theorem b419_2 : blk 419 2 = [.freturn] := rfl
theorem b419_3 : blk 419 3 = [.aload 0, .ifnonnull 11771, .iload 1, .iaload, .ifCond .ne 5, .aload 0, .ifnonnull 11779, .iload 1, .daload, .aload 0, .ifnonnull 11779, .iload 2, .daload, .dcmp .l, .ifCond .eq 5, .aload 0, .ifnonnull 11779, .iload 1, .daload, .aload 0, .ifnonnull 11779, .iload 2, .daload, .dcmp .g, .ifCond .ge 4, .iconst 1, .goto 7] := rfl
theorem b419_4 : blk 419 4 = [.iconst 0, .goto 7] := rfl
theorem b419_5 : blk 419 5 = [.iload 1, .iload 2, .if_icmp .ge 6, .iconst 1, .goto 7] := rfl
theorem b419_6 : blk 419 6 = [.iconst 0, .goto 7] := rfl
theorem b419_7 : blk 419 7 = [.freturn] := rfl
theorem en419 {a0 a1 a2 : Int} : ent 419 [(3, a0), (0, a1), (0, a2)] = [(3, a0), (0, a1), (0, a2)] := rfl
theorem b420_0 : blk 420 0 = [.iload 1, .iconst 0, .aload 0, .ifnull 11752, .iconst 1, .isub, .invokeinterface 95744 3, .ifCond .eq 1, .aload 0, .ifnonnull 11763, .iload 1, .iaload, .goto 2] := rfl
theorem b420_1 : blk 420 1 = [.iconst (-1), .goto 2] := rfl
theorem b420_2 : blk 420 2 = [.ireturn] := rfl
theorem en420 {a0 a1 : Int} : ent 420 [(3, a0), (0, a1)] = [(3, a0), (0, a1)] := rfl
theorem b421_0 : blk 421 0 = [.iload 1, .iconst 1, .iconst 4, .invokeinterface 95744 3, .ifCond .ne 1, .iconst (-1), .ireturn] := rfl
theorem b421_1 : blk 421 1 = [.aload 0, .ifnull 11784, .istore 2, .aload 0, .iload 1, .jsr_w 11784, .aload 0, .invokeinterface 108132 1, .iconst 0, .istore 3, .goto 2] := rfl
theorem b421_2 : blk 421 2 = [.iload 3, .iconst 10, .if_icmp .ge 3, .aload 0, .ifnonnull 11795, .iload 3, .iconst 0, .iastore, .aload 0, .ifnonnull 11803, .iload 3, .iconst 0, .iastore, .iinc 3 1, .goto 2] := rfl
theorem b421_3 : blk 421 3 = [.iconst 0, .istore 3, .goto 4] := rfl
theorem b421_4 : blk 421 4 = [.iload 3, .iconst 240, .if_icmp .ge 5, .aload 0, .ifnonnull 11811, .iload 3, .iconst 0, .iastore, .iinc 3 1, .goto 4] := rfl
theorem b421_5 : blk 421 5 = [.iload 2, .ireturn] := rfl
theorem en421 {a0 a1 : Int} : ent 421 [(3, a0), (0, a1)] = [(3, a0), (0, a1), (9, 0), (9, 0)] := rfl
theorem b422_0 : blk 422 0 = [.aload 0, .iconst 0, .jsr_w 11820, .aload 0, .iconst 0, .jsr_w 11828, .aload 0, .iconst 0, .jsr_w 11836, .return_] := rfl
theorem en422 {a0 : Int} : ent 422 [(3, a0)] = [(3, a0)] := rfl
theorem b423_0 : blk 423 0 = [.aload 0, .iload 1, .iload 2, .iload 3, .invokeinterface 108640 4, .ifCond .ne 1, .iconst (-1), .ireturn] := rfl
theorem b423_1 : blk 423 1 = [.aload 0, .ifnonnull 11795, .iload 1, .aload 0, .ifnonnull 11795, .iload 1, .iaload, .iconst 1, .iload 2, .ishl, .iconst (-1), .ixor, .iand, .iload 3, .iload 2, .ishl, .ior, .iastore, .aload 0, .invokeinterface 108132 1, .iconst 0, .ireturn] := rfl
theorem en423 {a0 a1 a2 a3 : Int} : ent 423 [(3, a0), (0, a1), (0, a2), (0, a3)] = [(3, a0), (0, a1), (0, a2), (0, a3)] := rfl
theorem b424_0 : blk 424 0 = [.iload 1, .iconst 0, .aload 0, .ifnull 11339, .ifnonnull 12291, .iconst 2, .iaload, .iconst 1, .isub, .invokeinterface 95744 3, .ifCond .eq 1, .iload 2, .iconst 0, .iconst 5, .aload 0, .ifnull 11784, .imul, .iconst 1, .isub, .invokeinterface 95744 3, .ifCond .eq 1, .iload 3, .iconst 0, .iconst 1, .invokeinterface 95744 3, .ifCond .eq 1, .iconst 1, .goto 2] := rfl
theorem b424_1 : blk 424 1 = [.iconst 0, .goto 2] := rfl
theorem b424_2 : blk 424 2 = [.freturn] := rfl
theorem en424 {a0 a1 a2 a3 : Int} : ent 424 [(3, a0), (0, a1), (0, a2), (0, a3)] = [(3, a0), (0, a1), (0, a2), (0, a3)] := rfl
theorem b425_0 : blk 425 0 = [.iload 1, .iconst 0, .aload 0, .ifnull 11339, .ifnonnull 12291, .iconst 4, .iaload, .iconst 1, .isub, .invokeinterface 95744 3, .ifCond .eq 1, .iload 2, .iconst 0, .iconst 5, .aload 0, .ifnull 11784, .imul, .iconst 1, .isub, .invokeinterface 95744 3, .ifCond .eq 1, .iload 3, .iconst (-99), .iconst 99, .invokeinterface 95744 3, .ifCond .ne 2, .goto 1] := rfl
theorem b425_1 : blk 425 1 = [.iconst (-100), .ireturn] := rfl
theorem b425_2 : blk 425 2 = [.aload 0, .ifnonnull 11811, .iconst 20, .iload 1, .imul, .iload 2, .iadd, .iaload, .istore 4, .aload 0, .ifnonnull 11811, .iconst 20, .iload 1, .imul, .iload 2, .iadd, .iload 3, .iastore, .aload 0, .invokeinterface 108132 1, .iload 4, .ireturn] := rfl
theorem en425 {a0 a1 a2 a3 : Int} : ent 425 [(3, a0), (0, a1), (0, a2), (0, a3)] = [(3, a0), (0, a1), (0, a2), (0, a3), (9, 0)] := rfl
theorem b426_0 : blk 426 0 = [.iload 1, .iconst 1, .iconst 10000, .invokeinterface 95744 3, .ifCond .ne 1, .iconst (-1), .ireturn] := rfl
theorem b426_1 : blk 426 1 = [.aload 0, .invokeinterface 109408 1, .istore 2, .aload 0, .ifnull 11339, .ifnonnull 12291, .iconst 1, .iaload, .istore 3, .iconst 5, .aload 0, .ifnull 11784, .imul, .iload 3, .imul, .istore 4, .aload 0, .iconst 0, .jsr_w 11840, .aload 0, .iload 2, .ifCond .ne 2, .iconst 1, .goto 3] := rfl
theorem b426_2 : blk 426 2 = [.iconst 0, .goto 3] := rfl
theorem b426_3 : blk 426 3 = [.jsr_w 11820, .aload 0, .iconst 1, .jsr_w 11828, .aload 0, .iconst 0, .jsr_w 11836, .aload 0, .iconst 0, .jsr_w 11848, .aload 0, .ifnonnull 11907, .iload 2, .iconst 0, .iastore, .iload 2, .iconst 1, .isub, .istore 5, .goto 4] := rfl
theorem b426_4 : blk 426 4 = [.iload 5, .ifCond .lt 9, .iconst 100, .istore 6, .iconst 0, .istore 7, .goto 5] := rfl
theorem b426_5 : blk 426 5 = [.iload 7, .iconst 5, .aload 0, .ifnull 11784, .imul, .if_icmp .ge 8, .aload 0, .ifnonnull 11811, .iconst 20, .aload 0, .ifnonnull 11875, .iload 5, .iaload, .imul, .iload 7, .iadd, .iaload, .istore 8, .iload 8, .iload 6, .if_icmp .ge 6, .iload 8, .goto 7] := rfl
theorem b426_6 : blk 426 6 = [.iload 6, .goto 7] := rfl
theorem b426_7 : blk 426 7 = [.istore 6, .iinc 7 1, .goto 5] := rfl
theorem b426_8 : blk 426 8 = [.aload 0, .ifnonnull 11907, .iload 5, .aload 0, .ifnonnull 11907, .iload 5, .iconst 1, .iadd, .iaload, .iload 6, .iadd, .iastore, .iinc 5 (-1), .goto 4] := rfl
theorem b426_9 : blk 426 9 = [.aload 0, .ifnonnull 11915, .iconst 0, .iconst 0, .iastore, .iconst 0, .istore 5, .aload 0, .ifnonnull 11899, .iconst 0, .iconst (-1), .iastore, .goto 10] := rfl
theorem b426_10 : blk 426 10 = [.iload 5, .ifCond .lt 20, .iload 2, .ifCond .le 20, .aload 0, .ifnonnull 11899, .iload 5, .dup2, .iaload, .iconst 1, .iadd, .iastore, .aload 0, .ifnonnull 11899, .iload 5, .iaload, .iload 4, .if_icmp .lt 11, .iinc 5 (-1), .goto 10] := rfl
theorem b426_11 : blk 426 11 = [.aload 0, .ifnull 11840, .iload 1, .if_icmp .ne 14, .aload 0, .ifnull 11820, .ifCond .eq 12, .iconst 1, .goto 13] := rfl
theorem b426_12 : blk 426 12 = [.iconst 3, .goto 13] := rfl
theorem b426_13 : blk 426 13 = [.ireturn] := rfl
theorem b426_14 : blk 426 14 = [.aload 0, .dup, .ifnull 11840, .iconst 1, .iadd, .jsr_w 11840, .aload 0, .ifnonnull 11899, .iload 5, .iaload, .iload 3, .idiv, .istore 6, .aload 0, .ifnonnull 11899, .iload 5, .iaload, .iload 3, .irem, .istore 7, .aload 0, .ifnonnull 11915, .iload 5, .iaload, .aload 0, .ifnonnull 11811, .iconst 20, .aload 0, .ifnonnull 11875, .iload 5, .iaload, .imul, .iload 6, .iadd, .iaload, .iadd, .istore 8, .aload 0, .iload 5, .iload 6, .iload 7, .invokeinterface 109664 4, .ifCond .eq 19, .aload 0, .ifnull 11820, .ifCond .eq 15, .iload 8, .aload 0, .ifnonnull 11907, .iload 5, .iconst 1, .iadd, .iaload, .iadd, .aload 0, .ifnull 11848, .if_icmp .ge 19, .goto 15] := rfl
theorem b426_15 : blk 426 15 = [.aload 0, .ifnonnull 11883, .iload 5, .iload 6, .iastore, .aload 0, .ifnonnull 11891, .iload 5, .iload 7, .iastore, .aload 0, .ifnonnull 11915, .iload 5, .iconst 1, .iadd, .iload 8, .iastore, .iload 5, .iload 2, .iconst 1, .isub, .if_icmp .ne 18, .aload 0, .iconst 1, .jsr_w 11820, .aload 0, .iload 8, .jsr_w 11848, .iconst 0, .istore 9, .goto 16] := rfl
theorem b426_16 : blk 426 16 = [.iload 9, .iload 2, .if_icmp .ge 17, .aload 0, .ifnonnull 11859, .iload 9, .aload 0, .ifnonnull 11883, .iload 9, .iaload, .iastore, .aload 0, .ifnonnull 11867, .iload 9, .aload 0, .ifnonnull 11891, .iload 9, .iaload, .iastore, .iinc 9 1, .goto 16] := rfl
theorem b426_17 : blk 426 17 = [.goto 19] := rfl
theorem b426_18 : blk 426 18 = [.iinc 5 1, .aload 0, .ifnonnull 11899, .iload 5, .iconst (-1), .iastore, .goto 19] := rfl
theorem b426_19 : blk 426 19 = [.goto 10] := rfl
theorem b426_20 : blk 426 20 = [.aload 0, .ifnull 11820, .ifCond .eq 21, .iconst 0, .goto 22] := rfl
theorem b426_21 : blk 426 21 = [.iconst 2, .goto 22] := rfl
theorem b426_22 : blk 426 22 = [.ireturn] := rfl
theorem en426 {a0 a1 : Int} : ent 426 [(3, a0), (0, a1)] = [(3, a0), (0, a1), (9, 0), (9, 0), (9, 0), (9, 0), (9, 0), (9, 0), (9, 0), (9, 0)] := rfl
theorem b427_0 : blk 427 0 = [.iconst 0, .istore 1, .iconst 0, .istore 2, .goto 1] := rfl
theorem b427_1 : blk 427 1 = [.iload 2, .aload 0, .ifnull 11339, .ifnonnull 12291, .iconst 4, .iaload, .if_icmp .ge 4, .iconst 0, .istore 3, .goto 2] := rfl
theorem b427_2 : blk 427 2 = [.iload 3, .aload 0, .ifnull 11339, .ifnonnull 12363, .iload 2, .iaload, .if_icmp .ge 3, .aload 0, .ifnonnull 11875, .iload 1, .iload 2, .iastore, .iinc 1 1, .iinc 3 1, .goto 2] := rfl
theorem b427_3 : blk 427 3 = [.iinc 2 1, .goto 1] := rfl
theorem b427_4 : blk 427 4 = [.iload 1, .ireturn] := rfl
theorem en427 {a0 : Int} : ent 427 [(3, a0)] = [(3, a0), (9, 0), (9, 0), (9, 0)] := rfl
theorem b428_0 : blk 428 0 = [.aload 0, .ifnonnull 11875, .iload 1, .iaload, .istore 4, .aload 0, .ifnull 11339, .ifnonnull 12355, .iload 4, .iaload, .istore 5, .aload 0, .ifnull 11339, .ifnonnull 12307, .iload 3, .iaload, .aload 0, .ifnull 11339, .ifnonnull 12331, .aload 0, .ifnull 11339, .ifnonnull 12347, .iload 4, .iaload, .iaload, .if_icmp .lt 1, .aload 0, .ifnonnull 11795, .iload 5, .iaload, .iload 2, .ishr, .iconst 1, .iand, .ifCond .ne 1, .iconst 1, .goto 2] := rfl
theorem b428_1 : blk 428 1 = [.iconst 0, .goto 2] := rfl
theorem b428_2 : blk 428 2 = [.istore 6, .iconst 0, .istore 7, .goto 3] := rfl
theorem b428_3 : blk 428 3 = [.iload 7, .iload 1, .if_icmp .ge 10, .iload 6, .ifCond .eq 10, .aload 0, .ifnonnull 11875, .iload 7, .iaload, .istore 8, .aload 0, .ifnonnull 11883, .iload 7, .iaload, .iload 2, .if_icmp .ne 4, .iconst 1, .goto 5] := rfl
theorem b428_4 : blk 428 4 = [.iconst 0, .goto 5] := rfl
theorem b428_5 : blk 428 5 = [.istore 9, .iload 9, .ifCond .eq 6, .aload 0, .ifnonnull 11891, .iload 7, .iaload, .iload 3, .if_icmp .eq 8, .aload 0, .ifnull 11339, .ifnonnull 12347, .iload 8, .iaload, .aload 0, .ifnull 11339, .ifnonnull 12347, .iload 4, .iaload, .if_icmp .eq 8, .aload 0, .ifnull 11339, .ifnonnull 12355, .iload 8, .iaload, .iload 5, .if_icmp .eq 8, .goto 6] := rfl
theorem b428_6 : blk 428 6 = [.iload 8, .iload 4, .if_icmp .ne 7, .aload 0, .ifnonnull 11883, .iload 7, .iaload, .aload 0, .ifnull 11784, .idiv, .iload 2, .aload 0, .ifnull 11784, .idiv, .if_icmp .eq 8, .goto 7] := rfl
theorem b428_7 : blk 428 7 = [.iconst 1, .goto 9] := rfl
theorem b428_8 : blk 428 8 = [.iconst 0, .goto 9] := rfl
theorem b428_9 : blk 428 9 = [.istore 6, .iinc 7 1, .goto 3] := rfl
theorem b428_10 : blk 428 10 = [.iload 6, .freturn] := rfl
theorem en428 {a0 a1 a2 a3 : Int} : ent 428 [(3, a0), (0, a1), (0, a2), (0, a3)] = [(3, a0), (0, a1), (0, a2), (0, a3), (9, 0), (9, 0), (9, 0), (9, 0), (9, 0), (9, 0)] := rfl
theorem b429_0 : blk 429 0 = [.iload 1, .iconst 0, .iconst 1, .invokeinterface 95744 3, .ifCond .ne 1, .iconst (-1), .ireturn] := rfl
theorem b429_1 : blk 429 1 = [.iload 1, .iconst 1, .if_icmp .ne 4, .aload 0, .ifnull 11828, .ifCond .eq 2, .aload 0, .ifnull 11840, .goto 3] := rfl
theorem b429_2 : blk 429 2 = [.iconst (-100000), .goto 3] := rfl
theorem b429_3 : blk 429 3 = [.ireturn] := rfl
theorem b429_4 : blk 429 4 = [.aload 0, .ifnull 11820, .ifCond .eq 5, .aload 0, .ifnull 11848, .goto 6] := rfl
theorem b429_5 : blk 429 5 = [.iconst (-100000), .goto 6] := rfl
theorem b429_6 : blk 429 6 = [.ireturn] := rfl
theorem en429 {a0 a1 : Int} : ent 429 [(3, a0), (0, a1)] = [(3, a0), (0, a1)] := rfl
theorem b430_0 : blk 430 0 = [.iload 1, .iconst 0, .aload 0, .invokeinterface 109408 1, .iconst 1, .isub, .invokeinterface 95744 3, .ifCond .eq 1, .iload 2, .iconst 0, .iconst 2, .invokeinterface 95744 3, .ifCond .ne 2, .goto 1] := rfl
theorem b430_1 : blk 430 1 = [.iconst (-1), .ireturn] := rfl
theorem b430_2 : blk 430 2 = [.aload 0, .ifnull 11820, .ifCond .ne 3, .iconst (-2), .ireturn] := rfl
theorem b430_3 : blk 430 3 = [.iload 2, .ifCond .ne 4, .aload 0, .ifnonnull 11875, .iload 1, .iaload, .goto 6] := rfl
theorem b430_4 : blk 430 4 = [.iload 2, .iconst 1, .if_icmp .ne 5, .aload 0, .ifnonnull 11859, .iload 1, .iaload, .goto 6] := rfl
theorem b430_5 : blk 430 5 = [.aload 0, .ifnonnull 11867, .iload 1, .iaload, .goto 6] := rfl
theorem b430_6 : blk 430 6 = [.ireturn] := rfl
theorem en430 {a0 a1 a2 : Int} : ent 430 [(3, a0), (0, a1), (0, a2)] = [(3, a0), (0, a1), (0, a2)] := rfl
theorem b431_0 : blk 431 0 = [.aload 0, .iload 1, .invokeinterface 96608 2, .ifCond .eq 1, .aload 0, .iload 2, .invokeinterface 97632 2, .ifCond .ne 2, .goto 1] := rfl
theorem b431_1 : blk 431 1 = [.iconst (-1), .ireturn] := rfl
theorem b431_2 : blk 431 2 = [.aload 0, .ifnonnull 11475, .iload 1, .iaload, .ifCond .ne 3, .aload 0, .iload 1, .iload 2, .invokeinterface 110688 3, .iconst (-9), .if_icmp .eq 4, .goto 3] := rfl
theorem b431_3 : blk 431 3 = [.iconst (-2), .ireturn] := rfl
theorem b431_4 : blk 431 4 = [.aload 0, .ifnonnull 11931, .iconst 8, .iload 1, .imul, .aload 0, .ifnonnull 11923, .iload 1, .iaload, .iadd, .iload 2, .iastore, .aload 0, .ifnonnull 11923, .iload 1, .dup2, .iaload, .iconst 1, .iadd, .iastore, .aload 0, .ifnonnull 11923, .iload 1, .iaload, .ireturn] := rfl
theorem en431 {a0 a1 a2 : Int} : ent 431 [(3, a0), (0, a1), (0, a2)] = [(3, a0), (0, a1), (0, a2)] := rfl
theorem b432_0 : blk 432 0 = [.iconst 0, .istore 3, .goto 1] := rfl
theorem b432_1 : blk 432 1 = [.iload 3, .aload 0, .ifnonnull 11923, .iload 1, .iaload, .if_icmp .ge 3, .aload 0, .ifnonnull 11931, .iconst 8, .iload 1, .imul, .iload 3, .iadd, .iaload, .iload 2, .if_icmp .ne 2, .iload 3, .ireturn] := rfl
theorem b432_2 : blk 432 2 = [.iinc 3 1, .goto 1] := rfl
theorem b432_3 : blk 432 3 = [.iconst (-9), .ireturn] := rfl
theorem en432 {a0 a1 a2 : Int} : ent 432 [(3, a0), (0, a1), (0, a2)] = [(3, a0), (0, a1), (0, a2), (9, 0)] := rfl
theorem b433_0 : blk 433 0 = [.iconst 0, .istore 2, .iconst 0, .istore 3, .goto 1] := rfl
theorem b433_1 : blk 433 1 = [.iload 3, .aload 0, .ifnull 11464, .if_icmp .ge 5, .aload 0, .ifnonnull 11475, .iload 3, .iaload, .ifCond .ne 4, .iconst 0, .istore 4, .goto 2] := rfl
theorem b433_2 : blk 433 2 = [.iload 4, .aload 0, .ifnull 11339, .ifnonnull 12291, .iconst 5, .iaload, .if_icmp .ge 3, .iload 1, .iconst 16, .iload 3, .imul, .iload 4, .iadd, .iconst (-1640531535), .imul, .ixor, .istore 5, .iload 5, .iload 5, .iconst 15, .iushr, .ixor, .iconst (-2048144777), .imul, .istore 5, .aload 0, .ifnonnull 11939, .iconst 8, .iload 3, .imul, .iload 4, .iadd, .iload 5, .iload 5, .iconst 13, .iushr, .ixor, .iastore, .iinc 4 1, .goto 2] := rfl
theorem b433_3 : blk 433 3 = [.iinc 2 1, .goto 4] := rfl
theorem b433_4 : blk 433 4 = [.iinc 3 1, .goto 1] := rfl
theorem b433_5 : blk 433 5 = [.iload 2, .ireturn] := rfl
theorem en433 {a0 a1 : Int} : ent 433 [(3, a0), (0, a1)] = [(3, a0), (0, a1), (9, 0), (9, 0), (9, 0), (9, 0)] := rfl
theorem b434_0 : blk 434 0 = [.aload 0, .iload 1, .invokeinterface 111456 2, .ifCond .eq 1, .aload 0, .iload 2, .invokeinterface 97632 2, .ifCond .eq 1, .aload 0, .ifnonnull 11939, .iconst 8, .iload 1, .imul, .iload 2, .iadd, .iaload, .goto 2] := rfl
theorem b434_1 : blk 434 1 = [.iconst 0, .goto 2] := rfl
theorem b434_2 : blk 434 2 = [.ireturn] := rfl
theorem en434 {a0 a1 a2 : Int} : ent 434 [(3, a0), (0, a1), (0, a2)] = [(3, a0), (0, a1), (0, a2)] := rfl
theorem b435_0 : blk 435 0 = [.aload 0, .iload 1, .invokeinterface 96608 2, .ifCond .eq 1, .aload 0, .ifnonnull 11475, .iload 1, .iaload, .ifCond .ne 1, .iconst 1, .goto 2] := rfl
theorem b435_1 : blk 435 1 = [.iconst 0, .goto 2] := rfl
theorem b435_2 : blk 435 2 = [.freturn] := rfl
theorem en435 {a0 a1 : Int} : ent 435 [(3, a0), (0, a1)] = [(3, a0), (0, a1)] := rfl
theorem b436_0 : blk 436 0 = [.iload 1, .iconst 0, .iconst 1, .invokeinterface 95744 3, .ifCond .ne 1, .iconst (-1), .ireturn] := rfl
theorem b436_1 : blk 436 1 = [.iconst 0, .istore 2, .goto 2] := rfl
theorem b436_2 : blk 436 2 = [.iload 2, .aload 0, .ifnull 11464, .if_icmp .ge 3, .aload 0, .ifnonnull 11947, .iload 2, .iconst (-9), .iastore, .aload 0, .ifnonnull 11963, .iload 2, .iconst 0, .iastore, .iinc 2 1, .goto 2] := rfl
theorem b436_3 : blk 436 3 = [.iload 1, .ifCond .ne 4, .aload 0, .invokeinterface 111972 1, .goto 5] := rfl
theorem b436_4 : blk 436 4 = [.aload 0, .invokeinterface 112740 1, .goto 5] := rfl
theorem b436_5 : blk 436 5 = [.aload 0, .iconst 1, .jsr_w 11956, .iconst 0, .istore 2, .iconst 0, .istore 3, .goto 6] := rfl
theorem b436_6 : blk 436 6 = [.iload 3, .aload 0, .ifnull 11464, .if_icmp .ge 9, .iload 2, .aload 0, .ifnonnull 11947, .iload 3, .iaload, .iconst (-9), .if_icmp .eq 7, .iconst 1, .goto 8] := rfl
theorem b436_7 : blk 436 7 = [.iconst 0, .goto 8] := rfl
theorem b436_8 : blk 436 8 = [.iadd, .istore 2, .iinc 3 1, .goto 6] := rfl
theorem b436_9 : blk 436 9 = [.iload 2, .ireturn] := rfl
theorem en436 {a0 a1 : Int} : ent 436 [(3, a0), (0, a1)] = [(3, a0), (0, a1), (9, 0), (9, 0)] := rfl
theorem b437_0 : blk 437 0 = [.iconst 1, .istore 1, .goto 1] := rfl
theorem b437_1 : blk 437 1 = [.iload 1, .ifCond .eq 9, .iconst 0, .istore 1, .iconst 0, .istore 2, .goto 2] := rfl
theorem b437_2 : blk 437 2 = [.iload 2, .aload 0, .ifnull 11464, .if_icmp .ge 8, .aload 0, .ifnonnull 11475, .iload 2, .iaload, .ifCond .ne 7, .aload 0, .ifnonnull 11947, .iload 2, .iaload, .iconst (-9), .if_icmp .ne 7, .aload 0, .ifnonnull 11963, .iload 2, .iaload, .aload 0, .ifnonnull 11923, .iload 2, .iaload, .if_icmp .ge 7, .aload 0, .ifnonnull 11931, .iconst 8, .iload 2, .imul, .aload 0, .ifnonnull 11963, .iload 2, .iaload, .iadd, .iaload, .istore 3, .aload 0, .ifnonnull 11963, .iload 2, .dup2, .iaload, .iconst 1, .iadd, .iastore, .aload 0, .ifnonnull 11947, .iload 2, .iload 3, .iastore, .iconst 1, .istore 1, .aload 0, .iload 3, .invokeinterface 112224 2, .aload 0, .ifnull 11339, .ifnonnull 12371, .iload 3, .iaload, .if_icmp .le 7, .iload 2, .istore 4, .iconst 0, .istore 5, .goto 3] := rfl
theorem b437_3 : blk 437 3 = [.iload 5, .aload 0, .ifnull 11464, .if_icmp .ge 6, .aload 0, .ifnonnull 11947, .iload 5, .iaload, .iload 3, .if_icmp .ne 4, .aload 0, .iload 4, .iload 5, .iload 3, .invokeinterface 112480 4, .ifCond .eq 4, .iload 5, .goto 5] := rfl
theorem b437_4 : blk 437 4 = [.iload 4, .goto 5] := rfl
theorem b437_5 : blk 437 5 = [.istore 4, .iinc 5 1, .goto 3] := rfl
theorem b437_6 : blk 437 6 = [.aload 0, .ifnonnull 11947, .iload 4, .iconst (-9), .iastore, .goto 7] := rfl
theorem b437_7 : blk 437 7 = [.iinc 2 1, .goto 2] := rfl
theorem b437_8 : blk 437 8 = [.goto 1] := rfl
theorem b437_9 : blk 437 9 = [.return_] := rfl
theorem en437 {a0 : Int} : ent 437 [(3, a0)] = [(3, a0), (9, 0), (9, 0), (9, 0), (9, 0), (9, 0)] := rfl
theorem b438_0 : blk 438 0 = [.iconst 0, .istore 2, .iconst 0, .istore 3, .goto 1] := rfl
theorem b438_1 : blk 438 1 = [.iload 3, .aload 0, .ifnull 11464, .if_icmp .ge 4, .iload 2, .aload 0, .ifnonnull 11947, .iload 3, .iaload, .iload 1, .if_icmp .ne 2, .iconst 1, .goto 3] := rfl
theorem b438_2 : blk 438 2 = [.iconst 0, .goto 3] := rfl
theorem b438_3 : blk 438 3 = [.iadd, .istore 2, .iinc 3 1, .goto 1] := rfl
theorem b438_4 : blk 438 4 = [.iload 2, .ireturn] := rfl
theorem en438 {a0 a1 : Int} : ent 438 [(3, a0), (0, a1)] = [(3, a0), (0, a1), (9, 0), (9, 0)] := rfl
theorem b439_0 : blk 439 0 = [.aload 0, .ifnonnull 11939, .iconst 8, .iload 1, .imul, .iload 3, .iadd, .iaload, .istore 4, .aload 0, .ifnonnull 11939, .iconst 8, .iload 2, .imul, .iload 3, .iadd, .iaload, .istore 5, .iload 4, .iload 5, .if_icmp .lt 1, .iload 4, .iload 5, .if_icmp .ne 2, .iload 1, .iload 2, .if_icmp .ge 2, .goto 1] := rfl
theorem b439_1 : blk 439 1 = [.iconst 1, .goto 3] := rfl
theorem b439_2 : blk 439 2 = [.iconst 0, .goto 3] := rfl
theorem b439_3 : blk 439 3 = [.freturn] := rfl
theorem en439 {a0 a1 a2 a3 : Int} : ent 439 [(3, a0), (0, a1), (0, a2), (0, a3)] = [(3, a0), (0, a1), (0, a2), (0, a3), (9, 0), (9, 0)] := rfl
theorem b440_0 : blk 440 0 = [.iconst 0, .istore 1, .goto 1] := rfl
theorem b440_1 : blk 440 1 = [.iload 1, .aload 0, .ifnull 11464, .if_icmp .ge 4, .aload 0, .ifnonnull 11971, .iload 1, .aload 0, .ifnonnull 11475, .iload 1, .iaload, .ifCond .eq 2, .iconst 1, .goto 3] := rfl
theorem b440_2 : blk 440 2 = [.iconst 0, .goto 3] := rfl
theorem b440_3 : blk 440 3 = [.bastore, .iinc 1 1, .goto 1] := rfl
theorem b440_4 : blk 440 4 = [.iconst 1, .istore 1, .goto 5] := rfl
theorem b440_5 : blk 440 5 = [.iload 1, .ifCond .eq 35, .iconst 0, .istore 1, .iconst 0, .istore 2, .goto 6] := rfl
theorem b440_6 : blk 440 6 = [.iload 2, .aload 0, .ifnull 11464, .if_icmp .ge 9, .aload 0, .ifnonnull 11963, .iload 2, .aload 0, .ifnonnull 11947, .iload 2, .iaload, .iconst (-9), .if_icmp .ne 7, .aload 0, .ifnonnull 11971, .iload 2, .baload, .ifCond .ne 7, .aload 0, .iload 2, .invokeinterface 112992 2, .goto 8] := rfl
theorem b440_7 : blk 440 7 = [.iconst (-9), .goto 8] := rfl
theorem b440_8 : blk 440 8 = [.iastore, .iinc 2 1, .goto 6] := rfl
theorem b440_9 : blk 440 9 = [.iconst 0, .istore 2, .goto 10] := rfl
theorem b440_10 : blk 440 10 = [.iload 2, .aload 0, .ifnull 11464, .if_icmp .ge 14, .aload 0, .ifnonnull 11971, .iload 2, .aload 0, .ifnonnull 11971, .iload 2, .baload, .ifCond .ne 11, .aload 0, .ifnonnull 11947, .iload 2, .iaload, .iconst (-9), .if_icmp .ne 12, .aload 0, .ifnonnull 11963, .iload 2, .iaload, .iconst (-9), .if_icmp .ne 12, .goto 11] := rfl
theorem b440_11 : blk 440 11 = [.iconst 1, .goto 13] := rfl
theorem b440_12 : blk 440 12 = [.iconst 0, .goto 13] := rfl
theorem b440_13 : blk 440 13 = [.bastore, .aload 0, .ifnonnull 11979, .iload 2, .iconst 0, .bastore, .iinc 2 1, .goto 10] := rfl
theorem b440_14 : blk 440 14 = [.iconst 0, .istore 2, .goto 15] := rfl
theorem b440_15 : blk 440 15 = [.iload 2, .aload 0, .ifnull 11339, .ifnonnull 12291, .iconst 5, .iaload, .if_icmp .ge 23, .aload 0, .ifnonnull 11987, .iload 2, .iconst (-9), .iastore, .iconst 0, .istore 3, .goto 16] := rfl
theorem b440_16 : blk 440 16 = [.iload 3, .aload 0, .ifnull 11464, .if_icmp .ge 22, .aload 0, .ifnonnull 11947, .iload 3, .iaload, .iconst (-9), .if_icmp .ne 17, .aload 0, .ifnonnull 11971, .iload 3, .baload, .ifCond .ne 17, .iconst 1, .goto 18] := rfl
theorem b440_17 : blk 440 17 = [.iconst 0, .goto 18] := rfl
theorem b440_18 : blk 440 18 = [.istore 4, .aload 0, .ifnonnull 11987, .iload 2, .iload 4, .ifCond .eq 20, .aload 0, .ifnonnull 11987, .iload 2, .iaload, .iconst (-9), .if_icmp .eq 19, .aload 0, .iload 3, .aload 0, .ifnonnull 11987, .iload 2, .iaload, .iload 2, .invokeinterface 112480 4, .ifCond .eq 20, .goto 19] := rfl
theorem b440_19 : blk 440 19 = [.iload 3, .goto 21] := rfl
theorem b440_20 : blk 440 20 = [.aload 0, .ifnonnull 11987, .iload 2, .iaload, .goto 21] := rfl
theorem b440_21 : blk 440 21 = [.iastore, .iinc 3 1, .goto 16] := rfl
theorem b440_22 : blk 440 22 = [.iinc 2 1, .goto 15] := rfl
theorem b440_23 : blk 440 23 = [.iconst 0, .istore 2, .goto 24] := rfl
theorem b440_24 : blk 440 24 = [.iload 2, .aload 0, .ifnull 11464, .if_icmp .ge 31, .aload 0, .ifnonnull 11963, .iload 2, .iaload, .iconst (-9), .if_icmp .ne 25, .iconst (-9), .goto 26] := rfl
theorem b440_25 : blk 440 25 = [.aload 0, .ifnonnull 11987, .aload 0, .ifnonnull 11963, .iload 2, .iaload, .iaload, .goto 26] := rfl
theorem b440_26 : blk 440 26 = [.istore 3, .iconst 0, .istore 4, .goto 27] := rfl
theorem b440_27 : blk 440 27 = [.iload 4, .iconst 24, .if_icmp .ge 28, .iload 3, .iconst (-9), .if_icmp .eq 28, .iload 3, .iload 2, .if_icmp .eq 28, .aload 0, .ifnonnull 11987, .aload 0, .ifnonnull 11963, .iload 3, .iaload, .iaload, .istore 3, .iinc 4 1, .goto 27] := rfl
theorem b440_28 : blk 440 28 = [.aload 0, .ifnonnull 11979, .iload 2, .iload 3, .iconst (-9), .if_icmp .eq 29, .iload 3, .iload 2, .if_icmp .ne 29, .iconst 1, .goto 30] := rfl
theorem b440_29 : blk 440 29 = [.iconst 0, .goto 30] := rfl
theorem b440_30 : blk 440 30 = [.bastore, .iinc 2 1, .goto 24] := rfl
theorem b440_31 : blk 440 31 = [.iconst 0, .istore 2, .goto 32] := rfl
theorem b440_32 : blk 440 32 = [.iload 2, .aload 0, .ifnull 11464, .if_icmp .ge 34, .aload 0, .ifnonnull 11979, .iload 2, .baload, .ifCond .eq 33, .aload 0, .ifnonnull 11947, .iload 2, .aload 0, .ifnonnull 11963, .iload 2, .iaload, .iastore, .iconst 1, .istore 1, .goto 33] := rfl
theorem b440_33 : blk 440 33 = [.iinc 2 1, .goto 32] := rfl
theorem b440_34 : blk 440 34 = [.goto 5] := rfl
theorem b440_35 : blk 440 35 = [.return_] := rfl
theorem en440 {a0 : Int} : ent 440 [(3, a0)] = [(3, a0), (9, 0), (9, 0), (9, 0), (9, 0)] := rfl
theorem b441_0 : blk 441 0 = [.iconst 0, .istore 2, .goto 1] := rfl
theorem b441_1 : blk 441 1 = [.iload 2, .aload 0, .ifnonnull 11923, .iload 1, .iaload, .if_icmp .ge 3, .aload 0, .ifnonnull 11931, .iconst 8, .iload 1, .imul, .iload 2, .iadd, .iaload, .istore 3, .aload 0, .iload 3, .invokeinterface 112224 2, .aload 0, .ifnull 11339, .ifnonnull 12371, .iload 3, .iaload, .if_icmp .ge 2, .iload 3, .ireturn] := rfl
theorem b441_2 : blk 441 2 = [.iinc 2 1, .goto 1] := rfl
theorem b441_3 : blk 441 3 = [.iconst (-9), .ireturn] := rfl
theorem en441 {a0 a1 : Int} : ent 441 [(3, a0), (0, a1)] = [(3, a0), (0, a1), (9, 0), (9, 0)] := rfl
theorem b442_0 : blk 442 0 = [.aload 0, .iload 1, .invokeinterface 96608 2, .ifCond .eq 1, .aload 0, .ifnonnull 11947, .iload 1, .iaload, .goto 2] := rfl
theorem b442_1 : blk 442 1 = [.iconst (-1), .goto 2] := rfl
theorem b442_2 : blk 442 2 = [.ireturn] := rfl
theorem en442 {a0 a1 : Int} : ent 442 [(3, a0), (0, a1)] = [(3, a0), (0, a1)] := rfl
theorem b443_0 : blk 443 0 = [.aload 0, .ifnull 11956, .ifCond .ne 1, .iconst (-2), .ireturn] := rfl
theorem b443_1 : blk 443 1 = [.iconst 0, .istore 1, .goto 2] := rfl
theorem b443_2 : blk 443 2 = [.iload 1, .aload 0, .ifnull 11464, .if_icmp .ge 15, .iconst 0, .istore 2, .goto 3] := rfl
theorem b443_3 : blk 443 3 = [.iload 2, .aload 0, .ifnull 11339, .ifnonnull 12291, .iconst 5, .iaload, .if_icmp .ge 14, .aload 0, .ifnonnull 11475, .iload 1, .iaload, .ifCond .ne 14, .aload 0, .iload 1, .iload 2, .invokeinterface 110688 3, .istore 3, .aload 0, .ifnonnull 11947, .iload 1, .iaload, .iconst (-9), .if_icmp .ne 4, .iconst 99, .goto 5] := rfl
theorem b443_4 : blk 443 4 = [.aload 0, .iload 1, .aload 0, .ifnonnull 11947, .iload 1, .iaload, .invokeinterface 110688 3, .goto 5] := rfl
theorem b443_5 : blk 443 5 = [.istore 4, .iload 3, .iconst (-9), .if_icmp .eq 13, .iload 3, .iload 4, .if_icmp .ge 13, .aload 0, .iload 2, .invokeinterface 112224 2, .aload 0, .ifnull 11339, .ifnonnull 12371, .iload 2, .iaload, .if_icmp .ge 6, .iconst 1, .goto 7] := rfl
theorem b443_6 : blk 443 6 = [.iconst 0, .goto 7] := rfl
theorem b443_7 : blk 443 7 = [.istore 5, .iconst 0, .istore 6, .goto 8] := rfl
theorem b443_8 : blk 443 8 = [.iload 6, .aload 0, .ifnull 11464, .if_icmp .ge 12, .iload 5, .ifCond .ne 9, .aload 0, .ifnonnull 11947, .iload 6, .iaload, .iload 2, .if_icmp .ne 10, .aload 0, .iload 1, .iload 6, .iload 2, .invokeinterface 112480 4, .ifCond .eq 10, .goto 9] := rfl
theorem b443_9 : blk 443 9 = [.iconst 1, .goto 11] := rfl
theorem b443_10 : blk 443 10 = [.iconst 0, .goto 11] := rfl
theorem b443_11 : blk 443 11 = [.istore 5, .iinc 6 1, .goto 8] := rfl
theorem b443_12 : blk 443 12 = [.iload 5, .ifCond .eq 13, .iconst 1, .iconst 100, .iload 1, .imul, .iadd, .iload 2, .iadd, .ireturn] := rfl
theorem b443_13 : blk 443 13 = [.iinc 2 1, .goto 3] := rfl
theorem b443_14 : blk 443 14 = [.iinc 1 1, .goto 2] := rfl
theorem b443_15 : blk 443 15 = [.iconst 0, .ireturn] := rfl
theorem en443 {a0 : Int} : ent 443 [(3, a0)] = [(3, a0), (9, 0), (9, 0), (9, 0), (9, 0), (9, 0), (9, 0)] := rfl
theorem b444_0 : blk 444 0 = [.aload 0, .iload 1, .iload 2, .iload 3, .invokeinterface 108640 4, .ifCond .ne 1, .iconst (-1), .ireturn] := rfl
theorem b444_1 : blk 444 1 = [.aload 0, .ifnonnull 11803, .iload 1, .aload 0, .ifnonnull 11803, .iload 1, .iaload, .iconst 1, .iload 2, .ishl, .iconst (-1), .ixor, .iand, .iload 3, .iload 2, .ishl, .ior, .iastore, .iconst 0, .ireturn] := rfl
theorem en444 {a0 a1 a2 a3 : Int} : ent 444 [(3, a0), (0, a1), (0, a2), (0, a3)] = [(3, a0), (0, a1), (0, a2), (0, a3)] := rfl
theorem b445_0 : blk 445 0 = [.iload 1, .iconst 0, .iconst 5, .aload 0, .ifnull 11784, .imul, .iconst 1, .isub, .invokeinterface 95744 3, .ifCond .ne 1, .iconst (-1), .ireturn] := rfl
theorem b445_1 : blk 445 1 = [.aload 0, .ifnull 11820, .ifCond .ne 2, .iconst (-2), .ireturn] := rfl
theorem b445_2 : blk 445 2 = [.aload 0, .iconst 0, .jsr_w 12008, .aload 0, .invokeinterface 109408 1, .istore 2, .iconst 0, .istore 3, .goto 3] := rfl
theorem b445_3 : blk 445 3 = [.iload 3, .iload 2, .if_icmp .ge 5, .aload 0, .ifnonnull 11995, .iload 3, .iconst (-9), .iastore, .aload 0, .ifnonnull 11859, .iload 3, .iaload, .iload 1, .if_icmp .ne 4, .aload 0, .ifnonnull 11803, .aload 0, .ifnull 11339, .ifnonnull 12355, .aload 0, .ifnonnull 11875, .iload 3, .iaload, .iaload, .iaload, .iload 1, .ishr, .iconst 1, .iand, .iconst 1, .if_icmp .ne 4, .aload 0, .ifnonnull 12003, .aload 0, .ifnull 12008, .iload 3, .iastore, .aload 0, .dup, .ifnull 12008, .iconst 1, .iadd, .jsr_w 12008, .goto 4] := rfl
theorem b445_4 : blk 445 4 = [.iinc 3 1, .goto 3] := rfl
theorem b445_5 : blk 445 5 = [.aload 0, .iload 1, .invokeinterface 114272 2, .istore 3, .aload 0, .ifnull 12008, .istore 4, .goto 6] := rfl
theorem b445_6 : blk 445 6 = [.iload 4, .ifCond .lt 16, .iconst 0, .istore 5, .goto 7] := rfl
theorem b445_7 : blk 445 7 = [.iload 5, .iconst 1024, .if_icmp .ge 15, .iload 4, .aload 0, .ifnull 12008, .if_icmp .ne 8, .iconst 0, .goto 9] := rfl
theorem b445_8 : blk 445 8 = [.aload 0, .ifnonnull 12019, .iconst 1024, .iload 4, .iconst 1, .iadd, .imul, .iload 5, .iadd, .iaload, .goto 9] := rfl
theorem b445_9 : blk 445 9 = [.istore 6, .iconst 0, .istore 7, .goto 10] := rfl
theorem b445_10 : blk 445 10 = [.iload 7, .iconst 10, .if_icmp .ge 14, .iload 4, .aload 0, .ifnull 12008, .if_icmp .ge 14, .iload 5, .iload 7, .ishr, .iconst 1, .iand, .iconst 1, .if_icmp .ne 13, .aload 0, .iload 7, .aload 0, .ifnonnull 12003, .iload 4, .iaload, .invokeinterface 114528 3, .ifCond .eq 13, .iconst 1, .aload 0, .ifnonnull 12019, .iconst 1024, .iload 4, .iconst 1, .iadd, .imul, .iload 5, .iconst 1, .iload 7, .ishl, .ixor, .iadd, .iaload, .iadd, .istore 8, .iload 8, .iload 6, .if_icmp .le 11, .iload 8, .goto 12] := rfl
theorem b445_11 : blk 445 11 = [.iload 6, .goto 12] := rfl
theorem b445_12 : blk 445 12 = [.istore 6, .goto 13] := rfl
theorem b445_13 : blk 445 13 = [.iinc 7 1, .goto 10] := rfl
theorem b445_14 : blk 445 14 = [.aload 0, .ifnonnull 12019, .iconst 1024, .iload 4, .imul, .iload 5, .iadd, .iload 6, .iastore, .iinc 5 1, .goto 7] := rfl
theorem b445_15 : blk 445 15 = [.iinc 4 (-1), .goto 6] := rfl
theorem b445_16 : blk 445 16 = [.aload 0, .ifnonnull 12019, .iload 3, .iaload, .istore 4, .iload 4, .istore 5, .iconst 0, .istore 6, .goto 17] := rfl
theorem b445_17 : blk 445 17 = [.iload 6, .aload 0, .ifnull 12008, .if_icmp .ge 21, .aload 0, .ifnonnull 12003, .iload 6, .iaload, .istore 7, .iconst 0, .istore 8, .goto 18] := rfl
theorem b445_18 : blk 445 18 = [.iload 8, .iconst 10, .if_icmp .ge 20, .aload 0, .ifnonnull 11995, .iload 7, .iaload, .iconst (-9), .if_icmp .ne 20, .iload 3, .iload 8, .ishr, .iconst 1, .iand, .iconst 1, .if_icmp .ne 19, .aload 0, .iload 8, .iload 7, .invokeinterface 114528 3, .ifCond .eq 19, .iconst 1, .aload 0, .ifnonnull 12019, .iconst 1024, .iload 6, .iconst 1, .iadd, .imul, .iload 3, .iconst 1, .iload 8, .ishl, .ixor, .iadd, .iaload, .iadd, .iload 5, .if_icmp .ne 19, .aload 0, .ifnonnull 11995, .iload 7, .iload 8, .iastore, .iload 3, .iconst 1, .iload 8, .ishl, .ixor, .istore 3, .iinc 5 (-1), .goto 19] := rfl
theorem b445_19 : blk 445 19 = [.iinc 8 1, .goto 18] := rfl
theorem b445_20 : blk 445 20 = [.iinc 6 1, .goto 17] := rfl
theorem b445_21 : blk 445 21 = [.aload 0, .iconst 1, .jsr_w 11836, .aload 0, .ifnull 12008, .iload 4, .isub, .ireturn] := rfl
theorem en445 {a0 a1 : Int} : ent 445 [(3, a0), (0, a1)] = [(3, a0), (0, a1), (9, 0), (9, 0), (9, 0), (9, 0), (9, 0), (9, 0), (9, 0)] := rfl
theorem b446_0 : blk 446 0 = [.iconst 0, .istore 2, .iconst 0, .istore 3, .goto 1] := rfl
theorem b446_1 : blk 446 1 = [.iload 3, .aload 0, .ifnull 11339, .ifnonnull 12291, .iconst 2, .iaload, .if_icmp .ge 11, .aload 0, .ifnonnull 11803, .iload 3, .iaload, .iload 1, .ishr, .iconst 1, .iand, .ifCond .ne 2, .aload 0, .ifnonnull 11795, .iload 3, .iaload, .iload 1, .ishr, .iconst 1, .iand, .ifCond .ne 2, .iconst 1, .goto 3] := rfl
theorem b446_2 : blk 446 2 = [.iconst 0, .goto 3] := rfl
theorem b446_3 : blk 446 3 = [.istore 4, .iconst 0, .istore 5, .goto 4] := rfl
theorem b446_4 : blk 446 4 = [.iload 5, .aload 0, .invokeinterface 109408 1, .if_icmp .ge 8, .iload 4, .ifCond .eq 6, .aload 0, .ifnonnull 11859, .iload 5, .iaload, .iload 1, .if_icmp .ne 5, .aload 0, .ifnull 11339, .ifnonnull 12355, .aload 0, .ifnonnull 11875, .iload 5, .iaload, .iaload, .iload 3, .if_icmp .eq 6, .goto 5] := rfl
theorem b446_5 : blk 446 5 = [.iconst 1, .goto 7] := rfl
theorem b446_6 : blk 446 6 = [.iconst 0, .goto 7] := rfl
theorem b446_7 : blk 446 7 = [.istore 4, .iinc 5 1, .goto 4] := rfl
theorem b446_8 : blk 446 8 = [.iload 2, .iload 4, .ifCond .eq 9, .iconst 1, .iload 3, .ishl, .goto 10] := rfl
theorem b446_9 : blk 446 9 = [.iconst 0, .goto 10] := rfl
theorem b446_10 : blk 446 10 = [.ior, .istore 2, .iinc 3 1, .goto 1] := rfl
theorem b446_11 : blk 446 11 = [.iload 2, .ireturn] := rfl
theorem en446 {a0 a1 : Int} : ent 446 [(3, a0), (0, a1)] = [(3, a0), (0, a1), (9, 0), (9, 0), (9, 0), (9, 0)] := rfl
theorem b447_0 : blk 447 0 = [.aload 0, .ifnull 11339, .ifnonnull 12323, .iload 1, .iaload, .aload 0, .ifnull 11339, .ifnonnull 12339, .aload 0, .ifnonnull 11875, .iload 2, .iaload, .iaload, .ishr, .iconst 1, .iand, .iconst 1, .if_icmp .ne 1, .iconst 1, .goto 2] := rfl
theorem b447_1 : blk 447 1 = [.iconst 0, .goto 2] := rfl
theorem b447_2 : blk 447 2 = [.freturn] := rfl
theorem en447 {a0 a1 a2 : Int} : ent 447 [(3, a0), (0, a1), (0, a2)] = [(3, a0), (0, a1), (0, a2)] := rfl
theorem b448_0 : blk 448 0 = [.iload 1, .iconst 0, .aload 0, .invokeinterface 109408 1, .iconst 1, .isub, .invokeinterface 95744 3, .ifCond .ne 1, .iconst (-1), .ireturn] := rfl
theorem b448_1 : blk 448 1 = [.aload 0, .ifnull 11836, .ifCond .eq 2, .aload 0, .ifnonnull 11995, .iload 1, .iaload, .goto 3] := rfl
theorem b448_2 : blk 448 2 = [.iconst (-2), .goto 3] := rfl
theorem b448_3 : blk 448 3 = [.ireturn] := rfl
theorem en448 {a0 a1 : Int} : ent 448 [(3, a0), (0, a1)] = [(3, a0), (0, a1)] := rfl
theorem b449_0 : blk 449 0 = [.iload 1, .ifCond .lt 1, .iload 1, .iconst 7, .if_icmp .ge 1, .aload 0, .ifnull 11339, .ifnonnull 12291, .iload 1, .iaload, .ireturn] := rfl
theorem b449_1 : blk 449 1 = [.iload 1, .iconst 7, .if_icmp .ne 2, .aload 0, .ifnull 11339, .ifnull 12400, .goto 8] := rfl
theorem b449_2 : blk 449 2 = [.iload 1, .iconst 8, .if_icmp .ne 3, .aload 0, .ifnull 11464, .goto 8] := rfl
theorem b449_3 : blk 449 3 = [.iload 1, .iconst 9, .if_icmp .ne 4, .aload 0, .invokeinterface 109408 1, .goto 8] := rfl
theorem b449_4 : blk 449 4 = [.iload 1, .iconst 10, .if_icmp .ne 5, .aload 0, .ifnull 11272, .goto 8] := rfl
theorem b449_5 : blk 449 5 = [.iload 1, .iconst 11, .if_icmp .ne 6, .aload 0, .ifnull 11504, .goto 8] := rfl
theorem b449_6 : blk 449 6 = [.iload 1, .iconst 12, .if_icmp .ne 7, .aload 0, .ifnull 11704, .goto 8] := rfl
theorem b449_7 : blk 449 7 = [.iconst (-1), .goto 8] := rfl
theorem b449_8 : blk 449 8 = [.ireturn] := rfl
theorem en449 {a0 a1 : Int} : ent 449 [(3, a0), (0, a1)] = [(3, a0), (0, a1)] := rfl
