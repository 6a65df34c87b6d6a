/-! THE METHODS as blocks of numbered instructions: printed by wip/tools/gentab.py out of the Statement -/
/-- SchoolHouseLaw.law([I)Z -/
def B0 : Nat → List Instr := fun b => match b with
  | 0 => [.goto_w 17, .dup, .invokeinterface 268 1, .astore 1, .goto_w 1503, .dup, .invokeinterface 81252 1, .astore 2, .iconst 0, .istore 3, .goto 1]
  | 1 => [.iload 3, .aload 0, .arraylength, .iconst 7, .isub, .if_icmp .gt 33, .aload 0, .iload 3, .iaload, .iconst 31, .iand, .tableswitch 32 0 29 #[2, 3, 4, 5, 6, 7, 8, 9, 10, 11, 12, 13, 14, 15, 16, 17, 18, 19, 20, 21, 22, 23, 24, 25, 26, 27, 28, 29, 30, 31]]
  | 2 => [.aload 1, .aload 0, .iload 3, .iconst 1, .iadd, .iaload, .aload 0, .iload 3, .iconst 2, .iadd, .iaload, .i2l, .iconst 32, .lshl, .aload 0, .iload 3, .iconst 3, .iadd, .iaload, .i2l, .bipush 4294967295, .land, .lor, .invokeinterface 5384 3, .aload 2, .aload 0, .iload 3, .iconst 1, .iadd, .iaload, .aload 0, .iload 3, .iconst 2, .iadd, .iaload, .i2l, .iconst 32, .lshl, .aload 0, .iload 3, .iconst 3, .iadd, .iaload, .i2l, .bipush 4294967295, .land, .lor, .invokeinterface 81760 3, .if_icmp .eq 32, .iconst 0, .freturn]
  | 3 => [.aload 1, .invokeinterface 6152 1, .aload 2, .invokeinterface 82016 1, .if_icmp .eq 32, .iconst 0, .freturn]
  | 4 => [.aload 1, .aload 0, .iload 3, .iconst 1, .iadd, .iaload, .invokeinterface 33544 2, .aload 2, .aload 0, .iload 3, .iconst 1, .iadd, .iaload, .invokeinterface 113760 2, .if_icmp .eq 32, .iconst 0, .freturn]
  | 5 => [.aload 1, .aload 0, .iload 3, .iconst 1, .iadd, .iaload, .aload 0, .iload 3, .iconst 2, .iadd, .iaload, .invokeinterface 34568 3, .aload 2, .aload 0, .iload 3, .iconst 1, .iadd, .iaload, .aload 0, .iload 3, .iconst 2, .iadd, .iaload, .invokeinterface 94304 3, .if_icmp .eq 32, .iconst 0, .freturn]
  | 6 => [.aload 1, .aload 0, .iload 3, .iconst 1, .iadd, .iaload, .invokeinterface 36104 2, .aload 2, .aload 0, .iload 3, .iconst 1, .iadd, .iaload, .invokeinterface 94816 2, .if_icmp .eq 32, .iconst 0, .freturn]
  | 7 => [.aload 1, .aload 0, .iload 3, .iconst 1, .iadd, .iaload, .aload 0, .iload 3, .iconst 2, .iadd, .iaload, .invokeinterface 36360 3, .aload 2, .aload 0, .iload 3, .iconst 1, .iadd, .iaload, .aload 0, .iload 3, .iconst 2, .iadd, .iaload, .invokeinterface 95072 3, .if_icmp .eq 32, .iconst 0, .freturn]
  | 8 => [.aload 1, .aload 0, .iload 3, .iconst 1, .iadd, .iaload, .aload 0, .iload 3, .iconst 2, .iadd, .iaload, .invokeinterface 37128 3, .aload 2, .aload 0, .iload 3, .iconst 1, .iadd, .iaload, .aload 0, .iload 3, .iconst 2, .iadd, .iaload, .invokeinterface 95584 3, .if_icmp .eq 32, .iconst 0, .freturn]
  | 9 => [.aload 1, .aload 0, .iload 3, .iconst 1, .iadd, .iaload, .aload 0, .iload 3, .iconst 2, .iadd, .iaload, .aload 0, .iload 3, .iconst 3, .iadd, .iaload, .invokeinterface 38664 4, .aload 2, .aload 0, .iload 3, .iconst 1, .iadd, .iaload, .aload 0, .iload 3, .iconst 2, .iadd, .iaload, .aload 0, .iload 3, .iconst 3, .iadd, .iaload, .invokeinterface 96096 4, .if_icmp .eq 32, .iconst 0, .freturn]
  | 10 => [.aload 1, .aload 0, .iload 3, .iconst 1, .iadd, .iaload, .aload 0, .iload 3, .iconst 2, .iadd, .iaload, .aload 0, .iload 3, .iconst 3, .iadd, .iaload, .aload 0, .iload 3, .iconst 4, .iadd, .iaload, .invokeinterface 40200 5, .aload 2, .aload 0, .iload 3, .iconst 1, .iadd, .iaload, .aload 0, .iload 3, .iconst 2, .iadd, .iaload, .aload 0, .iload 3, .iconst 3, .iadd, .iaload, .aload 0, .iload 3, .iconst 4, .iadd, .iaload, .invokeinterface 96864 5, .if_icmp .eq 32, .iconst 0, .freturn]
  | 11 => [.aload 1, .aload 0, .iload 3, .iconst 1, .iadd, .iaload, .aload 0, .iload 3, .iconst 2, .iadd, .iaload, .aload 0, .iload 3, .iconst 3, .iadd, .iaload, .invokeinterface 41736 4, .aload 2, .aload 0, .iload 3, .iconst 1, .iadd, .iaload, .aload 0, .iload 3, .iconst 2, .iadd, .iaload, .aload 0, .iload 3, .iconst 3, .iadd, .iaload, .invokeinterface 97120 4, .if_icmp .eq 32, .iconst 0, .freturn]
  | 12 => [.aload 1, .aload 0, .iload 3, .iconst 1, .iadd, .iaload, .aload 0, .iload 3, .iconst 2, .iadd, .iaload, .aload 0, .iload 3, .iconst 3, .iadd, .iaload, .aload 0, .iload 3, .iconst 4, .iadd, .iaload, .aload 0, .iload 3, .iconst 5, .iadd, .iaload, .aload 0, .iload 3, .iconst 6, .iadd, .iaload, .invokeinterface 41992 7, .aload 2, .aload 0, .iload 3, .iconst 1, .iadd, .iaload, .aload 0, .iload 3, .iconst 2, .iadd, .iaload, .aload 0, .iload 3, .iconst 3, .iadd, .iaload, .aload 0, .iload 3, .iconst 4, .iadd, .iaload, .aload 0, .iload 3, .iconst 5, .iadd, .iaload, .aload 0, .iload 3, .iconst 6, .iadd, .iaload, .invokeinterface 97376 7, .if_icmp .eq 32, .iconst 0, .freturn]
  | 13 => [.aload 1, .aload 0, .iload 3, .iconst 1, .iadd, .iaload, .invokeinterface 60169 2, .aload 2, .aload 0, .iload 3, .iconst 1, .iadd, .iaload, .invokeinterface 105313 2, .lcmp, .ifCond .eq 32, .iconst 0, .freturn]
  | 14 => [.aload 1, .invokeinterface 60424 1, .aload 2, .invokeinterface 105568 1, .if_icmp .eq 32, .iconst 0, .freturn]
  | 15 => [.aload 1, .aload 0, .iload 3, .iconst 1, .iadd, .iaload, .aload 0, .iload 3, .iconst 2, .iadd, .iaload, .invokeinterface 60680 3, .aload 2, .aload 0, .iload 3, .iconst 1, .iadd, .iaload, .aload 0, .iload 3, .iconst 2, .iadd, .iaload, .invokeinterface 105824 3, .if_icmp .eq 32, .iconst 0, .freturn]
  | 16 => [.aload 1, .aload 0, .iload 3, .iconst 1, .iadd, .iaload, .invokeinterface 61448 2, .aload 2, .aload 0, .iload 3, .iconst 1, .iadd, .iaload, .invokeinterface 106336 2, .if_icmp .eq 32, .iconst 0, .freturn]
  | 17 => [.aload 1, .aload 0, .iload 3, .iconst 1, .iadd, .iaload, .invokeinterface 61704 2, .aload 2, .aload 0, .iload 3, .iconst 1, .iadd, .iaload, .invokeinterface 106592 2, .if_icmp .eq 32, .iconst 0, .freturn]
  | 18 => [.aload 1, .aload 0, .iload 3, .iconst 1, .iadd, .iaload, .aload 0, .iload 3, .iconst 2, .iadd, .iaload, .aload 0, .iload 3, .iconst 3, .iadd, .iaload, .invokeinterface 62472 4, .aload 2, .aload 0, .iload 3, .iconst 1, .iadd, .iaload, .aload 0, .iload 3, .iconst 2, .iadd, .iaload, .aload 0, .iload 3, .iconst 3, .iadd, .iaload, .invokeinterface 107104 4, .if_icmp .eq 32, .iconst 0, .freturn]
  | 19 => [.aload 1, .aload 0, .iload 3, .iconst 1, .iadd, .iaload, .aload 0, .iload 3, .iconst 2, .iadd, .iaload, .aload 0, .iload 3, .iconst 3, .iadd, .iaload, .invokeinterface 63752 4, .aload 2, .aload 0, .iload 3, .iconst 1, .iadd, .iaload, .aload 0, .iload 3, .iconst 2, .iadd, .iaload, .aload 0, .iload 3, .iconst 3, .iadd, .iaload, .invokeinterface 107616 4, .if_icmp .eq 32, .iconst 0, .freturn]
  | 20 => [.aload 1, .aload 0, .iload 3, .iconst 1, .iadd, .iaload, .invokeinterface 64520 2, .aload 2, .aload 0, .iload 3, .iconst 1, .iadd, .iaload, .invokeinterface 107872 2, .if_icmp .eq 32, .iconst 0, .freturn]
  | 21 => [.aload 1, .aload 0, .iload 3, .iconst 1, .iadd, .iaload, .invokeinterface 67592 2, .aload 2, .aload 0, .iload 3, .iconst 1, .iadd, .iaload, .invokeinterface 108640 2, .if_icmp .eq 32, .iconst 0, .freturn]
  | 22 => [.aload 1, .aload 0, .iload 3, .iconst 1, .iadd, .iaload, .aload 0, .iload 3, .iconst 2, .iadd, .iaload, .invokeinterface 68872 3, .aload 2, .aload 0, .iload 3, .iconst 1, .iadd, .iaload, .aload 0, .iload 3, .iconst 2, .iadd, .iaload, .invokeinterface 108896 3, .if_icmp .eq 32, .iconst 0, .freturn]
  | 23 => [.aload 1, .aload 0, .iload 3, .iconst 1, .iadd, .iaload, .aload 0, .iload 3, .iconst 2, .iadd, .iaload, .invokeinterface 69640 3, .aload 2, .aload 0, .iload 3, .iconst 1, .iadd, .iaload, .aload 0, .iload 3, .iconst 2, .iadd, .iaload, .invokeinterface 109152 3, .if_icmp .eq 32, .iconst 0, .freturn]
  | 24 => [.aload 1, .aload 0, .iload 3, .iconst 1, .iadd, .iaload, .invokeinterface 70664 2, .aload 2, .aload 0, .iload 3, .iconst 1, .iadd, .iaload, .invokeinterface 109664 2, .if_icmp .eq 32, .iconst 0, .freturn]
  | 25 => [.aload 1, .aload 0, .iload 3, .iconst 1, .iadd, .iaload, .aload 0, .iload 3, .iconst 2, .iadd, .iaload, .invokeinterface 71432 3, .aload 2, .aload 0, .iload 3, .iconst 1, .iadd, .iaload, .aload 0, .iload 3, .iconst 2, .iadd, .iaload, .invokeinterface 109920 3, .if_icmp .eq 32, .iconst 0, .freturn]
  | 26 => [.aload 1, .aload 0, .iload 3, .iconst 1, .iadd, .iaload, .invokeinterface 72200 2, .aload 2, .aload 0, .iload 3, .iconst 1, .iadd, .iaload, .invokeinterface 110432 2, .if_icmp .eq 32, .iconst 0, .freturn]
  | 27 => [.aload 1, .aload 0, .iload 3, .iconst 1, .iadd, .iaload, .invokeinterface 76552 2, .aload 2, .aload 0, .iload 3, .iconst 1, .iadd, .iaload, .invokeinterface 111968 2, .if_icmp .eq 32, .iconst 0, .freturn]
  | 28 => [.aload 1, .invokeinterface 77064 1, .aload 2, .invokeinterface 112224 1, .if_icmp .eq 32, .iconst 0, .freturn]
  | 29 => [.aload 1, .aload 0, .iload 3, .iconst 1, .iadd, .iaload, .aload 0, .iload 3, .iconst 2, .iadd, .iaload, .aload 0, .iload 3, .iconst 3, .iadd, .iaload, .invokeinterface 78344 4, .aload 2, .aload 0, .iload 3, .iconst 1, .iadd, .iaload, .aload 0, .iload 3, .iconst 2, .iadd, .iaload, .aload 0, .iload 3, .iconst 3, .iadd, .iaload, .invokeinterface 112480 4, .if_icmp .eq 32, .iconst 0, .freturn]
  | 30 => [.aload 1, .aload 0, .iload 3, .iconst 1, .iadd, .iaload, .invokeinterface 78856 2, .aload 2, .aload 0, .iload 3, .iconst 1, .iadd, .iaload, .invokeinterface 112736 2, .if_icmp .eq 32, .iconst 0, .freturn]
  | 31 => [.aload 1, .aload 0, .iload 3, .iconst 1, .iadd, .iaload, .invokeinterface 80392 2, .aload 2, .aload 0, .iload 3, .iconst 1, .iadd, .iaload, .invokeinterface 113504 2, .if_icmp .eq 32, .iconst 0, .freturn]
  | 32 => [.iinc 3 7, .goto 1]
  | 33 => [.iconst 1, .freturn]
  | _ => []
/-- SchoolHouse.<init>()V -/
def B1 : Nat → List Instr := fun b => match b with
  | 0 => [.aload 0, .monitorexit, .aload 0, .goto_w 138, .dup, .invokeinterface 532 1, .if_acmp .eq 3, .aload 0, .goto_w 268, .dup, .aload 0, .ifnonnull 3, .invokeinterface 796 2, .if_acmp .eq 11, .aload 0, .goto_w 388, .dup, .invokeinterface 1060 1, .if_acmp .eq 19, .aload 0, .goto_w 517, .dup, .invokeinterface 1324 1, .if_acmp .eq 27, .aload 0, .goto_w 661, .dup, .aload 0, .ifnonnull 27, .aload 0, .ifnonnull 19, .invokeinterface 1588 3, .if_acmp .eq 35, .aload 0, .goto_w 912, .dup, .invokeinterface 2116 1, .if_acmp .eq 43, .aload 0, .goto_w 1035, .dup, .aload 0, .ifnonnull 43, .invokeinterface 2380 2, .if_acmp .eq 51, .aload 0, .goto_w 1162, .dup, .aload 0, .ifnonnull 27, .invokeinterface 2644 2, .if_acmp .eq 59, .aload 0, .goto_w 1298, .dup, .invokeinterface 2908 1, .jsr_w 67, .aload 0, .goto_w 1298, .dup, .invokeinterface 2908 1, .jsr_w 75, .aload 0, .iconst 24, .newarray .int, .if_acmp .eq 107, .aload 0, .iconst 24, .newarray .int, .if_acmp .eq 115, .aload 0, .iconst 24, .newarray .long, .if_acmp .eq 123, .aload 0, .ifnonnull 43, .aload 0, .ifnull 67, .invokeinterface 3140 2, .aload 0, .ifnonnull 35, .aload 0, .ifnull 67, .invokeinterface 4148 2, .aload 0, .ifnonnull 51, .aload 0, .ifnull 67, .invokeinterface 4428 2, .aload 0, .ifnonnull 59, .aload 0, .ifnull 67, .invokeinterface 5204 2, .return_]
  | _ => []
/-- SchoolHouse$Scanner.<init>()V -/
def B2 : Nat → List Instr := fun b => match b with
  | 0 => [.aload 0, .monitorexit, .aload 0, .iconst 2400, .newarray .byte, .if_acmp .eq 1027, .return_]
  | _ => []
/-- SchoolHouse$Reader.<init>(LSchoolHouse$Scanner;)V -/
def B3 : Nat → List Instr := fun b => match b with
  | 0 => [.aload 0, .monitorexit, .aload 0, .iconst 404, .newarray .long, .if_acmp .eq 2083, .aload 0, .iconst 404, .newarray .int, .if_acmp .eq 2091, .aload 0, .iconst 400, .newarray .long, .if_acmp .eq 2107, .aload 0, .iconst 400, .newarray .int, .if_acmp .eq 2115, .aload 0, .iconst 400, .newarray .int, .if_acmp .eq 2123, .aload 0, .aload 1, .if_acmp .eq 2051, .return_]
  | _ => []
/-- SchoolHouse$Rows.<init>()V -/
def B4 : Nat → List Instr := fun b => match b with
  | 0 => [.aload 0, .monitorexit, .aload 0, .iconst 64, .newarray .int, .jsr_w 3075, .aload 0, .iconst 256, .newarray .long, .jsr_w 3083, .return_]
  | _ => []
/-- SchoolHouse$People.<init>()V -/
def B5 : Nat → List Instr := fun b => match b with
  | 0 => [.aload 0, .monitorexit, .aload 0, .iconst 24, .newarray .int, .if_acmp .eq 4099, .aload 0, .iconst 24, .newarray .int, .if_acmp .eq 4107, .aload 0, .iconst 24, .newarray .int, .if_acmp .eq 4115, .aload 0, .iconst 192, .newarray .int, .if_acmp .eq 4123, .return_]
  | _ => []
/-- SchoolHouse$Machine.<init>(LSchoolHouse$People;LSchoolHouse$Rows;)V -/
def B6 : Nat → List Instr := fun b => match b with
  | 0 => [.aload 0, .monitorexit, .aload 0, .goto_w 771, .dup, .invokeinterface 1852 1, .if_acmp .eq 5139, .aload 0, .iconst 8, .newarray .int, .if_acmp .eq 5171, .aload 0, .iconst 8, .newarray .int, .if_acmp .eq 5179, .aload 0, .iconst 96, .newarray .int, .if_acmp .eq 5195, .aload 0, .iconst 96, .newarray .int, .if_acmp .eq 5203, .aload 0, .iconst 96, .newarray .int, .if_acmp .eq 5211, .aload 0, .iconst 96, .newarray .int, .if_acmp .eq 5219, .aload 0, .iconst 96, .newarray .int, .if_acmp .eq 5227, .aload 0, .iconst 96, .newarray .long, .if_acmp .eq 5235, .aload 0, .aload 1, .if_acmp .eq 5123, .aload 0, .aload 2, .if_acmp .eq 5131, .return_]
  | _ => []
/-- SchoolHouse$Values.<init>()V -/
def B7 : Nat → List Instr := fun b => match b with
  | 0 => [.aload 0, .monitorexit, .aload 0, .iconst 256, .newarray .int, .jsr_w 6147, .aload 0, .iconst 256, .newarray .long, .jsr_w 6155, .return_]
  | _ => []
/-- SchoolHouse$Timetable.<init>()V -/
def B8 : Nat → List Instr := fun b => match b with
  | 0 => [.aload 0, .monitorexit, .aload 0, .iconst 4, .jsr_w 7176, .aload 0, .iconst 10, .newarray .int, .if_acmp .eq 7187, .aload 0, .iconst 240, .newarray .int, .if_acmp .eq 7195, .aload 0, .iconst 37, .newarray .int, .if_acmp .eq 7203, .aload 0, .iconst 36, .newarray .int, .if_acmp .eq 7211, .aload 0, .iconst 6, .newarray .int, .if_acmp .eq 7219, .aload 0, .iconst 8, .newarray .int, .if_acmp .eq 7227, .aload 0, .iconst 10, .newarray .int, .if_acmp .eq 7235, .aload 0, .iconst 12, .newarray .int, .if_acmp .eq 7243, .aload 0, .iconst 36, .newarray .int, .if_acmp .eq 7259, .return_]
  | _ => []
/-- SchoolHouse$Cover.<init>(LSchoolHouse$Timetable;)V -/
def B9 : Nat → List Instr := fun b => match b with
  | 0 => [.aload 0, .monitorexit, .aload 0, .iconst 10, .newarray .int, .if_acmp .eq 8211, .aload 0, .iconst 36, .newarray .int, .if_acmp .eq 8219, .aload 0, .iconst 6, .newarray .int, .if_acmp .eq 8235, .aload 0, .iconst 6, .newarray .int, .if_acmp .eq 8251, .aload 0, .iconst 6, .newarray .int, .if_acmp .eq 8259, .aload 0, .aload 1, .if_acmp .eq 8195, .return_]
  | _ => []
/-- SchoolHouse$Choices.<init>(LSchoolHouse$People;)V -/
def B10 : Nat → List Instr := fun b => match b with
  | 0 => [.aload 0, .monitorexit, .aload 0, .iconst 192, .newarray .int, .if_acmp .eq 9235, .aload 0, .iconst 24, .newarray .int, .if_acmp .eq 9243, .aload 0, .iconst 192, .newarray .int, .if_acmp .eq 9251, .aload 0, .iconst 24, .newarray .int, .if_acmp .eq 9259, .aload 0, .iconst 24, .newarray .int, .if_acmp .eq 9275, .aload 0, .iconst 8, .newarray .int, .if_acmp .eq 9283, .aload 0, .iconst 24, .newarray .boolean, .if_acmp .eq 9291, .aload 0, .aload 1, .if_acmp .eq 9219, .return_]
  | _ => []
/-- SchoolHouse$Text.<init>()V -/
def B11 : Nat → List Instr := fun b => match b with
  | 0 => [.aload 0, .monitorexit, .aload 0, .iconst 7, .iconst 12, .multianewarray 37 2, .if_acmp .eq 10243, .aload 0, .iconst 7, .newarray .int, .if_acmp .eq 10251, .aload 0, .iconst 6, .newarray .int, .if_acmp .eq 10259, .aload 0, .iconst 10, .newarray .int, .if_acmp .eq 10267, .aload 0, .iconst 10, .newarray .int, .if_acmp .eq 10275, .aload 0, .iconst 8, .newarray .int, .if_acmp .eq 10283, .aload 0, .iconst 12, .newarray .int, .if_acmp .eq 10291, .aload 0, .iconst 12, .newarray .int, .if_acmp .eq 10299, .aload 0, .iconst 12, .newarray .int, .if_acmp .eq 10307, .aload 0, .iconst 8, .newarray .int, .if_acmp .eq 10315, .aload 0, .iconst 36, .newarray .int, .if_acmp .eq 10323, .aload 0, .iconst 12, .newarray .int, .if_acmp .eq 10339, .aload 0, .iconst 12, .newarray .int, .if_acmp .eq 10347, .aload 0, .iconst 12, .newarray .int, .if_acmp .eq 10355, .aload 0, .iconst 2400, .newarray .int, .if_acmp .eq 10371, .return_]
  | _ => []
/-- SchoolHouse$Timetable.open(LSchoolHouse$Text;)V -/
def B12 : Nat → List Instr := fun b => match b with
  | 0 => [.aload 0, .aload 1, .jsr_w 7171, .aload 0, .invokeinterface 3396 1, .return_]
  | _ => []
/-- SchoolHouse$Timetable.forget()V -/
def B13 : Nat → List Instr := fun b => match b with
  | 0 => [.aload 0, .ifnonnull 7187, .iconst 0, .invokeinterface 3588 2, .aload 0, .ifnonnull 7195, .iconst 0, .invokeinterface 3588 2, .aload 0, .invokeinterface 3908 1, .return_]
  | _ => []
/-- util/Arrays.fill([II)V -/
def B14 : Nat → List Instr := fun b => match b with
  | 0 => [.iconst 0, .istore 2, .aload 0, .arraylength, .istore 3, .goto 1]
  | 1 => [.iload 2, .iload 3, .if_icmp .ge 2, .aload 0, .iload 2, .iload 1, .iastore, .iinc 2 1, .goto 1]
  | 2 => [.return_]
  | _ => []
/-- SchoolHouse$Timetable.drop()V -/
def B15 : Nat → List Instr := fun b => match b with
  | 0 => [.aload 0, .iconst 0, .jsr_w 7276, .aload 0, .iconst 0, .jsr_w 7284, .return_]
  | _ => []
/-- SchoolHouse$Machine.open(LSchoolHouse$Text;)V -/
def B16 : Nat → List Instr := fun b => match b with
  | 0 => [.aload 0, .aload 1, .jsr_w 5147, .return_]
  | _ => []
/-- SchoolHouse$Cover.open(LSchoolHouse$Text;)V -/
def B17 : Nat → List Instr := fun b => match b with
  | 0 => [.aload 0, .aload 1, .jsr_w 8203, .aload 0, .invokeinterface 4684 1, .return_]
  | _ => []
/-- SchoolHouse$Cover.forget()V -/
def B18 : Nat → List Instr := fun b => match b with
  | 0 => [.aload 0, .ifnonnull 8211, .iconst 0, .invokeinterface 3588 2, .aload 0, .invokeinterface 4940 1, .return_]
  | _ => []
/-- SchoolHouse$Cover.uncover()V -/
def B19 : Nat → List Instr := fun b => match b with
  | 0 => [.aload 0, .iconst 0, .jsr_w 8228, .return_]
  | _ => []
/-- SchoolHouse$Choices.open(LSchoolHouse$Text;)V -/
def B20 : Nat → List Instr := fun b => match b with
  | 0 => [.aload 0, .aload 1, .jsr_w 9227, .aload 0, .ifnonnull 9243, .iconst 0, .invokeinterface 3588 2, .aload 0, .ifnonnull 9251, .iconst 0, .invokeinterface 3588 2, .aload 0, .ifnonnull 9259, .iconst (-9), .invokeinterface 3588 2, .aload 0, .iconst 0, .jsr_w 9268, .return_]
  | _ => []
/-- SchoolHouse.feed(IJ)I -/
def B21 : Nat → List Instr := fun b => match b with
  | 0 => [.iload 1, .iconst 1, .if_icmp .lt 1, .iload 1, .iconst 8, .if_icmp .le 2, .goto 1]
  | 1 => [.iconst (-1), .ireturn]
  | 2 => [.aload 0, .ifnonnull 3, .iload 1, .lload 2, .invokeinterface 5648 3, .ifCond .eq 3, .aload 0, .ifnonnull 3, .invokeinterface 5904 1, .goto 4]
  | 3 => [.iconst (-3), .goto 4]
  | 4 => [.ireturn]
  | _ => []
/-- SchoolHouse$Scanner.put(IJ)Z -/
def B22 : Nat → List Instr := fun b => match b with
  | 0 => [.iload 1, .ifCond .lt 1, .aload 0, .ifnull 1032, .iload 1, .iadd, .iconst 2400, .if_icmp .le 2, .goto 1]
  | 1 => [.iconst 0, .freturn]
  | 2 => [.iconst 0, .istore 4, .goto 3]
  | 3 => [.iload 4, .iload 1, .if_icmp .ge 4, .aload 0, .ifnonnull 1027, .aload 0, .ifnull 1032, .iload 4, .iadd, .lload 2, .iconst 8, .iload 4, .imul, .lshr, .l2i, .i2b, .bastore, .iinc 4 1, .goto 3]
  | 4 => [.aload 0, .dup, .ifnull 1032, .iload 1, .iadd, .jsr_w 1032, .iconst 1, .freturn]
  | _ => []
/-- SchoolHouse$Scanner.length()I -/
def B23 : Nat → List Instr := fun b => match b with
  | 0 => [.aload 0, .ifnull 1032, .ireturn]
  | _ => []
/-- SchoolHouse.read()I -/
def B24 : Nat → List Instr := fun b => match b with
  | 0 => [.aload 0, .ifnonnull 11, .aload 0, .ifnull 75, .invokeinterface 6424 2, .istore 1, .aload 0, .ifnonnull 3, .invokeinterface 32276 1, .iload 1, .ifCond .lt 1, .iconst (-10), .iload 1, .isub, .ireturn]
  | 1 => [.aload 0, .ifnull 67, .astore 2, .aload 0, .aload 0, .ifnull 75, .jsr_w 67, .aload 0, .aload 2, .jsr_w 75, .aload 0, .invokeinterface 32524 1, .aload 0, .ifnull 67, .iconst 6, .invokeinterface 14168 2, .ireturn]
  | _ => []
/-- SchoolHouse$Reader.readTo(LSchoolHouse$Text;)I -/
def B25 : Nat → List Instr := fun b => match b with
  | 0 => [.aload 0, .aload 1, .jsr_w 2059, .aload 0, .ifnull 2059, .invokeinterface 6748 1, .aload 0, .iconst (-1), .jsr_w 2064, .aload 0, .iconst 0, .jsr_w 2136, .aload 0, .iconst 0, .jsr_w 2128, .aload 0, .ifnonnull 2051, .invokeinterface 6932 1, .iconst 0, .istore 2, .goto 1]
  | 1 => [.iload 2, .iconst 2400, .if_icmp .ge 12, .aload 0, .invokeinterface 10520 1, .ifCond .eq 12, .aload 0, .ifnonnull 2051, .invokeinterface 11024 1, .ifCond .eq 12, .aload 0, .ifnonnull 2051, .jsr (-179), .invokeinterface 11536 2, .istore 3, .aload 0, .ifnonnull 2051, .iload 3, .ifCond .lt 2, .iconst 1, .goto 3]
  | 2 => [.iconst 0, .goto 3]
  | 3 => [.invokeinterface 7188 2, .iload 3, .tableswitch 11 0 6 #[4, 5, 6, 7, 8, 9, 10]]
  | 4 => [.aload 0, .invokeinterface 12828 1, .goto 11]
  | 5 => [.aload 0, .invokeinterface 15388 1, .goto 11]
  | 6 => [.aload 0, .invokeinterface 16156 1, .goto 11]
  | 7 => [.aload 0, .invokeinterface 16924 1, .goto 11]
  | 8 => [.aload 0, .invokeinterface 17180 1, .goto 11]
  | 9 => [.aload 0, .invokeinterface 18204 1, .goto 11]
  | 10 => [.aload 0, .invokeinterface 18460 1, .goto 11]
  | 11 => [.iinc 2 1, .goto 1]
  | 12 => [.aload 0, .invokeinterface 31772 1, .aload 0, .invokeinterface 10520 1, .ifCond .eq 13, .aload 0, .ifnull 2064, .goto 14]
  | 13 => [.aload 0, .ifnonnull 2051, .invokeinterface 10768 1, .goto 14]
  | 14 => [.ireturn]
  | _ => []
/-- SchoolHouse$Text.forget()V -/
def B26 : Nat → List Instr := fun b => match b with
  | 0 => [.aload 0, .ifnonnull 10251, .iconst 0, .invokeinterface 3588 2, .aload 0, .iconst 0, .jsr_w 10328, .aload 0, .iconst 0, .jsr_w 10360, .aload 0, .iconst 0, .jsr_w 10376, .return_]
  | _ => []
/-- SchoolHouse$Scanner.begin()V -/
def B27 : Nat → List Instr := fun b => match b with
  | 0 => [.aload 0, .iconst 0, .jsr_w 1040, .aload 0, .iconst (-1), .jsr_w 1048, .aload 0, .iconst 1, .invokeinterface 7188 2, .return_]
  | _ => []
/-- SchoolHouse$Scanner.pass(Z)V -/
def B28 : Nat → List Instr := fun b => match b with
  | 0 => [.iload 1, .ifCond .eq 1, .aload 0, .ifnull 1048, .ifCond .lt 3, .goto 1]
  | 1 => [.aload 0, .ifnull 1048, .ifCond .ge 2, .aload 0, .aload 0, .ifnull 1064, .jsr_w 1048, .goto 2]
  | 2 => [.aload 0, .iconst 5, .jsr_w 1056, .return_]
  | 3 => [.aload 0, .ifnull 1040, .aload 0, .ifnull 1032, .if_icmp .ge 5, .aload 0, .ifnonnull 1027, .aload 0, .ifnull 1040, .baload, .iconst 32, .if_icmp .eq 4, .aload 0, .ifnonnull 1027, .aload 0, .ifnull 1040, .baload, .iconst 10, .if_icmp .ne 5, .goto 4]
  | 4 => [.aload 0, .dup, .ifnull 1040, .iconst 1, .iadd, .jsr_w 1040, .goto 3]
  | 5 => [.aload 0, .aload 0, .ifnull 1040, .jsr_w 1064, .aload 0, .ifnull 1040, .aload 0, .ifnull 1032, .if_icmp .lt 6, .aload 0, .iconst 0, .jsr_w 1056, .goto 11]
  | 6 => [.aload 0, .aload 0, .ifnull 1040, .invokeinterface 7440 2, .ifCond .eq 7, .aload 0, .invokeinterface 7700 1, .goto 11]
  | 7 => [.aload 0, .aload 0, .ifnull 1040, .invokeinterface 7952 2, .ifCond .eq 8, .aload 0, .invokeinterface 8212 1, .goto 11]
  | 8 => [.aload 0, .aload 0, .ifnonnull 1027, .aload 0, .ifnull 1040, .baload, .iconst 255, .iand, .i2c, .jsr_w 1101, .aload 0, .jsr (-51), .aload 0, .ifnull 1101, .invokeinterface 8560 2, .ifCond .lt 9, .iconst 4, .goto 10]
  | 9 => [.iconst 5, .goto 10]
  | 10 => [.jsr_w 1056, .aload 0, .dup, .ifnull 1040, .iconst 1, .iadd, .jsr_w 1040, .goto 11]
  | 11 => [.return_]
  | _ => []
/-- SchoolHouse$Scanner.isLetter(I)Z -/
def B29 : Nat → List Instr := fun b => match b with
  | 0 => [.iload 1, .aload 0, .ifnull 1032, .if_icmp .ge 1, .aload 0, .ifnonnull 1027, .iload 1, .baload, .iconst 97, .if_icmp .lt 1, .aload 0, .ifnonnull 1027, .iload 1, .baload, .iconst 122, .if_icmp .gt 1, .iconst 1, .goto 2]
  | 1 => [.iconst 0, .goto 2]
  | 2 => [.freturn]
  | _ => []
/-- SchoolHouse$Scanner.takeWord()V -/
def B30 : Nat → List Instr := fun b => match b with
  | 0 => [.aload 0, .bipush 0, .jsr_w 1073, .goto 1]
  | 1 => [.aload 0, .ifnull 1040, .aload 0, .ifnull 1032, .if_icmp .ge 3, .aload 0, .aload 0, .ifnull 1040, .invokeinterface 7440 2, .ifCond .ne 2, .aload 0, .aload 0, .ifnull 1040, .invokeinterface 7952 2, .ifCond .eq 3, .goto 2]
  | 2 => [.aload 0, .aload 0, .ifnull 1073, .iconst 8, .lshl, .aload 0, .ifnonnull 1027, .aload 0, .ifnull 1040, .baload, .i2l, .lor, .jsr_w 1073, .aload 0, .dup, .ifnull 1040, .iconst 1, .iadd, .jsr_w 1040, .goto 1]
  | 3 => [.aload 0, .aload 0, .ifnull 1040, .aload 0, .ifnull 1064, .isub, .iconst 8, .if_icmp .gt 4, .iconst 1, .goto 5]
  | 4 => [.iconst 5, .goto 5]
  | 5 => [.jsr_w 1056, .return_]
  | _ => []
/-- SchoolHouse$Scanner.isDigit(I)Z -/
def B31 : Nat → List Instr := fun b => match b with
  | 0 => [.iload 1, .aload 0, .ifnull 1032, .if_icmp .ge 1, .aload 0, .ifnonnull 1027, .iload 1, .baload, .iconst 48, .if_icmp .lt 1, .aload 0, .ifnonnull 1027, .iload 1, .baload, .iconst 57, .if_icmp .gt 1, .iconst 1, .goto 2]
  | 1 => [.iconst 0, .goto 2]
  | 2 => [.freturn]
  | _ => []
/-- SchoolHouse$Scanner.takeNumber()V -/
def B32 : Nat → List Instr := fun b => match b with
  | 0 => [.aload 0, .bipush 0, .jsr_w 1081, .goto 1]
  | 1 => [.aload 0, .ifnull 1040, .aload 0, .ifnull 1032, .if_icmp .ge 2, .aload 0, .aload 0, .ifnull 1040, .invokeinterface 7952 2, .ifCond .eq 2, .aload 0, .aload 0, .ifnull 1081, .bipush 10, .lmul, .aload 0, .ifnonnull 1027, .aload 0, .ifnull 1040, .baload, .iconst 48, .isub, .i2l, .ladd, .jsr_w 1081, .aload 0, .dup, .ifnull 1040, .iconst 1, .iadd, .jsr_w 1040, .goto 1]
  | 2 => [.aload 0, .aload 0, .ifnull 1040, .aload 0, .ifnull 1064, .isub, .iconst 6, .if_icmp .gt 3, .iconst 2, .goto 4]
  | 3 => [.iconst 5, .goto 4]
  | 4 => [.jsr_w 1056, .aload 0, .ifnull 1040, .aload 0, .ifnull 1032, .if_icmp .ge 5, .aload 0, .ifnonnull 1027, .aload 0, .ifnull 1040, .baload, .iconst 46, .if_icmp .ne 5, .aload 0, .aload 0, .ifnull 1040, .iconst 1, .iadd, .invokeinterface 7952 2, .ifCond .ne 6, .goto 5]
  | 5 => [.return_]
  | 6 => [.aload 0, .dup, .ifnull 1040, .iconst 1, .iadd, .jsr_w 1040, .aload 0, .ifnull 1040, .istore 1, .goto 7]
  | 7 => [.aload 0, .ifnull 1040, .aload 0, .ifnull 1032, .if_icmp .ge 8, .aload 0, .aload 0, .ifnull 1040, .invokeinterface 7952 2, .ifCond .eq 8, .aload 0, .aload 0, .ifnull 1081, .bipush 10, .lmul, .aload 0, .ifnonnull 1027, .aload 0, .ifnull 1040, .baload, .iconst 48, .isub, .i2l, .ladd, .jsr_w 1081, .aload 0, .dup, .ifnull 1040, .iconst 1, .iadd, .jsr_w 1040, .goto 7]
  | 8 => [.aload 0, .aload 0, .ifnull 1040, .iload 1, .isub, .jsr_w 1088, .aload 0, .aload 0, .ifnull 1056, .iconst 2, .if_icmp .ne 9, .aload 0, .ifnull 1088, .iconst 4, .if_icmp .gt 9, .iconst 3, .goto 10]
  | 9 => [.iconst 5, .goto 10]
  | 10 => [.jsr_w 1056, .return_]
  | _ => []
/-- lang/String.indexOf(I)I -/
def B33 : Nat → List Instr := fun b => match b with
  | 0 => [.aload 0, .iload 1, .iconst 0, .invokeinterface 8816 3, .ireturn]
  | _ => []
/-- lang/String.indexOf(II)I -/
def B34 : Nat → List Instr := fun b => match b with
  | 0 => [.aload 0, .invokeinterface 9072 1, .ifCond .eq 1, .aload 0, .ifnonnull 13315, .iload 1, .iload 2, .aload 0, .invokeinterface 9328 1, .invokeinterface 9728 4, .goto 2]
  | 1 => [.aload 0, .ifnonnull 13315, .iload 1, .iload 2, .aload 0, .invokeinterface 9328 1, .athrow]
  | 2 => [.ireturn]
  | _ => []
/-- lang/String.isLatin1()Z -/
def B35 : Nat → List Instr := fun b => match b with
  | 0 => [.iconst 1, .ifCond .eq 1, .aload 0, .ifnonnull 13326, .ifCond .ne 1, .iconst 1, .goto 2]
  | 1 => [.iconst 0, .goto 2]
  | 2 => [.freturn]
  | _ => []
/-- lang/String.length()I -/
def B36 : Nat → List Instr := fun b => match b with
  | 0 => [.aload 0, .ifnonnull 13315, .arraylength, .aload 0, .invokeinterface 9584 1, .ishr, .ireturn]
  | _ => []
/-- lang/String.coder()B -/
def B37 : Nat → List Instr := fun b => match b with
  | 0 => [.iconst 1, .ifCond .eq 1, .aload 0, .ifnonnull 13326, .goto 2]
  | 1 => [.iconst 1, .goto 2]
  | 2 => [.fadd]
  | _ => []
/-- lang/StringLatin1.indexOf([BIII)I -/
def B38 : Nat → List Instr := fun b => match b with
  | 0 => [.iload 1, .invokeinterface 9984 1, .ifCond .ne 1, .iconst (-1), .ireturn]
  | 1 => [.iload 2, .iconst 0, .dup_x1, .istore 2, .iload 3, .aload 0, .arraylength, .dup_x2, .istore 3, .iload 2, .iload 3, .if_icmp .lt 2, .iconst (-1), .ireturn]
  | 2 => [.aload 0, .iload 1, .iload 2, .iload 3, .invokeinterface 10240 4, .ireturn]
  | _ => []
/-- lang/StringLatin1.canEncode(I)Z -/
def B39 : Nat → List Instr := fun b => match b with
  | 0 => [.iload 0, .ifCond .lt 1, .iload 0, .iconst 255, .if_icmp .gt 1, .iconst 1, .goto 2]
  | 1 => [.iconst 0, .goto 2]
  | 2 => [.freturn]
  | _ => []
/-- lang/StringLatin1.indexOfChar([BIII)I -/
def B40 : Nat → List Instr := fun b => match b with
  | 0 => [.iload 1, .i2b, .istore 4, .iload 2, .istore 5, .goto 1]
  | 1 => [.iload 5, .iload 3, .if_icmp .ge 3, .aload 0, .iload 5, .baload, .iload 4, .if_icmp .ne 2, .iload 5, .ireturn]
  | 2 => [.iinc 5 1, .goto 1]
  | 3 => [.iconst (-1), .ireturn]
  | _ => []
/-- SchoolHouse$Reader.stands()Z -/
def B41 : Nat → List Instr := fun b => match b with
  | 0 => [.aload 0, .ifnonnull 2051, .invokeinterface 10768 1, .ifCond .ge 1, .iconst 1, .goto 2]
  | 1 => [.iconst 0, .goto 2]
  | 2 => [.freturn]
  | _ => []
/-- SchoolHouse$Scanner.fault()I -/
def B42 : Nat → List Instr := fun b => match b with
  | 0 => [.aload 0, .ifnull 1048, .ireturn]
  | _ => []
/-- SchoolHouse$Scanner.kind()I -/
def B43 : Nat → List Instr := fun b => match b with
  | 0 => [.aload 0, .ifnull 1056, .ireturn]
  | _ => []
/-- SchoolHouse$Scanner.kind()I -/
def B44 : Nat → List Instr := fun b => match b with
  | 0 => [.aload 0, .ifnull 1056, .ireturn]
  | _ => []
/-- SchoolHouse$Scanner.find(Ljava/lang/String;)I -/
def B45 : Nat → List Instr := fun b => match b with
  | 0 => [.aload 0, .ifnull 1056, .iconst 1, .if_icmp .eq 1, .iconst (-1), .ireturn]
  | 1 => [.iconst 0, .istore 2, .bipush 0, .lstore 3, .iconst 0, .istore 5, .goto 2]
  | 2 => [.iload 5, .aload 1, .invokeinterface 9328 1, .if_icmp .ge 6, .aload 1, .iload 5, .invokeinterface 11888 2, .iconst 32, .if_icmp .eq 3, .lload 3, .iconst 8, .lshl, .aload 1, .iload 5, .invokeinterface 11888 2, .i2l, .lor, .lstore 3, .goto 5]
  | 3 => [.lload 3, .aload 0, .ifnull 1073, .lcmp, .ifCond .ne 4, .iload 2, .ireturn]
  | 4 => [.bipush 0, .lstore 3, .iinc 2 1, .goto 5]
  | 5 => [.iinc 5 1, .goto 2]
  | 6 => [.lload 3, .aload 0, .ifnull 1073, .lcmp, .ifCond .ne 7, .iload 2, .goto 8]
  | 7 => [.iconst (-1), .goto 8]
  | 8 => [.ireturn]
  | _ => []
/-- lang/String.charAt(I)C -/
def B46 : Nat → List Instr := fun b => match b with
  | 0 => [.aload 0, .invokeinterface 9072 1, .ifCond .eq 1, .aload 0, .ifnonnull 13315, .iload 1, .invokeinterface 12032 2, .fneg]
  | 1 => [.aload 0, .ifnonnull 13315, .iload 1, .athrow]
  | _ => []
/-- lang/StringLatin1.charAt([BI)C -/
def B47 : Nat → List Instr := fun b => match b with
  | 0 => [.iload 1, .aload 0, .arraylength, .invokeinterface 12292 2, .aload 0, .iload 1, .baload, .iconst 255, .iand, .i2c, .fneg]
  | _ => []
/-- lang/String.checkIndex(II)V -/
def B48 : Nat → List Instr := fun b => match b with
  | 0 => [.iload 0, .iload 1, .jsr 62, .invokeinterface 12544 3, .pop, .return_]
  | _ => []
/-- internal/util/Preconditions.checkIndex(IILjava/util/function/BiFunction;)I -/
def B49 : Nat → List Instr := fun b => match b with
  | 0 => [.iload 0, .ifCond .lt 1, .iload 0, .iload 1, .if_icmp .lt 2, .goto 1]
  | 1 => [.aload 2, .iload 0, .iload 1, .athrow]
  | 2 => [.iload 0, .ireturn]
  | _ => []
/-- SchoolHouse$Reader.subject()V -/
def B50 : Nat → List Instr := fun b => match b with
  | 0 => [.aload 0, .iconst 0, .invokeinterface 13080 2, .pop, .aload 0, .iconst 59, .invokeinterface 14876 2, .return_]
  | _ => []
/-- SchoolHouse$Reader.newName(I)I -/
def B51 : Nat → List Instr := fun b => match b with
  | 0 => [.aload 0, .invokeinterface 13336 1, .ifCond .eq 1, .aload 0, .ifnull 2059, .iload 1, .aload 0, .ifnonnull 2051, .invokeinterface 13585 1, .invokeinterface 13912 3, .goto 2]
  | 1 => [.iconst (-1), .goto 2]
  | 2 => [.istore 2, .aload 0, .ifnonnull 2051, .iload 2, .ifCond .lt 3, .iconst 1, .goto 4]
  | 3 => [.iconst 0, .goto 4]
  | 4 => [.invokeinterface 7188 2, .iload 2, .ireturn]
  | _ => []
/-- SchoolHouse$Reader.isName()Z -/
def B52 : Nat → List Instr := fun b => match b with
  | 0 => [.aload 0, .ifnonnull 2051, .invokeinterface 11024 1, .iconst 1, .if_icmp .ne 1, .aload 0, .ifnonnull 2051, .jsr (-179), .invokeinterface 11536 2, .ifCond .ge 1, .aload 0, .ifnonnull 2051, .jsr (-307), .invokeinterface 11536 2, .ifCond .ge 1, .aload 0, .ifnonnull 2051, .jsr (-435), .invokeinterface 11536 2, .ifCond .ge 1, .aload 0, .ifnonnull 2051, .jsr (-563), .invokeinterface 11536 2, .ifCond .ge 1, .aload 0, .ifnonnull 2051, .jsr (-691), .invokeinterface 11536 2, .ifCond .ge 1, .aload 0, .ifnonnull 2051, .jsr (-819), .invokeinterface 11536 2, .ifCond .ge 1, .iconst 1, .goto 2]
  | 1 => [.iconst 0, .goto 2]
  | 2 => [.freturn]
  | _ => []
/-- SchoolHouse$Scanner.word()J -/
def B53 : Nat → List Instr := fun b => match b with
  | 0 => [.aload 0, .ifnull 1073, .lreturn]
  | _ => []
/-- SchoolHouse$Text.tell(IJ)I -/
def B54 : Nat → List Instr := fun b => match b with
  | 0 => [.aload 0, .iload 1, .invokeinterface 14168 2, .iload 1, .invokeinterface 14336 1, .if_icmp .ge 1, .aload 0, .iload 1, .lload 2, .invokeinterface 14680 3, .ifCond .lt 2, .goto 1]
  | 1 => [.iconst (-1), .ireturn]
  | 2 => [.aload 0, .ifnonnull 10243, .iload 1, .aaload, .aload 0, .ifnonnull 10251, .iload 1, .iaload, .lload 2, .lastore, .aload 0, .ifnonnull 10251, .iload 1, .dup2, .iaload, .iconst 1, .iadd, .iastore, .aload 0, .ifnonnull 10251, .iload 1, .iaload, .iconst 1, .isub, .ireturn]
  | _ => []
/-- SchoolHouse$Text.howMany(I)I -/
def B55 : Nat → List Instr := fun b => match b with
  | 0 => [.iload 1, .ifCond .lt 1, .iload 1, .aload 0, .ifnonnull 10251, .arraylength, .if_icmp .ge 1, .aload 0, .ifnonnull 10251, .iload 1, .iaload, .goto 2]
  | 1 => [.iconst 0, .goto 2]
  | 2 => [.ireturn]
  | _ => []
/-- SchoolHouse$Text.most(I)I -/
def B56 : Nat → List Instr := fun b => match b with
  | 0 => [.iload 0, .tableswitch 8 0 6 #[1, 2, 3, 4, 5, 6, 7]]
  | 1 => [.iconst 12, .ireturn]
  | 2 => [.iconst 6, .ireturn]
  | 3 => [.iconst 10, .ireturn]
  | 4 => [.iconst 8, .ireturn]
  | 5 => [.iconst 12, .ireturn]
  | 6 => [.iconst 8, .ireturn]
  | 7 => [.iconst 12, .ireturn]
  | 8 => [.iconst 0, .ireturn]
  | _ => []
/-- SchoolHouse$Text.find(IJ)I -/
def B57 : Nat → List Instr := fun b => match b with
  | 0 => [.iconst 0, .istore 4, .goto 1]
  | 1 => [.iload 4, .aload 0, .iload 1, .invokeinterface 14168 2, .if_icmp .ge 3, .aload 0, .ifnonnull 10243, .iload 1, .aaload, .iload 4, .laload, .lload 2, .lcmp, .ifCond .ne 2, .iload 4, .ireturn]
  | 2 => [.iinc 4 1, .goto 1]
  | 3 => [.iconst (-1), .ireturn]
  | _ => []
/-- SchoolHouse$Reader.sign(C)V -/
def B58 : Nat → List Instr := fun b => match b with
  | 0 => [.aload 0, .ifnonnull 2051, .aload 0, .ifnonnull 2051, .iload 1, .invokeinterface 15120 2, .invokeinterface 7188 2, .return_]
  | _ => []
/-- SchoolHouse$Scanner.isSign(C)Z -/
def B59 : Nat → List Instr := fun b => match b with
  | 0 => [.aload 0, .ifnull 1056, .iconst 4, .if_icmp .ne 1, .aload 0, .ifnull 1101, .iload 1, .if_icmp .ne 1, .iconst 1, .goto 2]
  | 1 => [.iconst 0, .goto 2]
  | 2 => [.freturn]
  | _ => []
/-- SchoolHouse$Reader.room()V -/
def B60 : Nat → List Instr := fun b => match b with
  | 0 => [.aload 0, .iconst 1, .invokeinterface 13080 2, .istore 1, .aload 0, .iconst 99, .invokeinterface 15640 2, .istore 2, .aload 0, .iconst 59, .invokeinterface 14876 2, .aload 0, .invokeinterface 10520 1, .ifCond .eq 1, .aload 0, .ifnull 2059, .ifnonnull 10259, .iload 1, .iload 2, .iastore, .goto 1]
  | 1 => [.return_]
  | _ => []
/-- SchoolHouse$Reader.number(I)I -/
def B61 : Nat → List Instr := fun b => match b with
  | 0 => [.aload 0, .ifnonnull 2051, .invokeinterface 15888 1, .istore 2, .aload 0, .ifnonnull 2051, .aload 0, .ifnonnull 2051, .invokeinterface 11024 1, .iconst 2, .if_icmp .ne 1, .iload 2, .iconst 1, .if_icmp .lt 1, .iload 2, .iload 1, .if_icmp .gt 1, .iconst 1, .goto 2]
  | 1 => [.iconst 0, .goto 2]
  | 2 => [.invokeinterface 7188 2, .iload 2, .ireturn]
  | _ => []
/-- SchoolHouse$Scanner.whole()I -/
def B62 : Nat → List Instr := fun b => match b with
  | 0 => [.aload 0, .ifnull 1081, .l2i, .ireturn]
  | _ => []
/-- SchoolHouse$Reader.staff()V -/
def B63 : Nat → List Instr := fun b => match b with
  | 0 => [.aload 0, .iconst 2, .invokeinterface 13080 2, .istore 1, .aload 0, .ifnonnull 2051, .jsr (-307), .invokeinterface 11536 2, .istore 2, .aload 0, .ifnonnull 2051, .iload 2, .ifCond .lt 1, .iconst 1, .goto 2]
  | 1 => [.iconst 0, .goto 2]
  | 2 => [.invokeinterface 7188 2, .aload 0, .iconst 58, .invokeinterface 14876 2, .aload 0, .iconst 0, .invokeinterface 16408 2, .istore 3, .iconst 0, .istore 4, .goto 3]
  | 3 => [.iload 4, .iconst 12, .if_icmp .ge 4, .aload 0, .ifnonnull 2051, .iconst 44, .invokeinterface 15120 2, .ifCond .eq 4, .aload 0, .ifnonnull 2051, .iconst 1, .invokeinterface 7188 2, .aload 0, .iload 3, .invokeinterface 16408 2, .istore 3, .iinc 4 1, .goto 3]
  | 4 => [.aload 0, .iconst 59, .invokeinterface 14876 2, .aload 0, .invokeinterface 10520 1, .ifCond .eq 5, .aload 0, .ifnull 2059, .ifnonnull 10267, .iload 1, .iconst 2, .iload 2, .iadd, .iastore, .aload 0, .ifnull 2059, .ifnonnull 10275, .iload 1, .iload 3, .iastore, .goto 5]
  | 5 => [.return_]
  | _ => []
/-- SchoolHouse$Reader.addSubject(I)I -/
def B64 : Nat → List Instr := fun b => match b with
  | 0 => [.aload 0, .iconst 0, .invokeinterface 16664 2, .istore 2, .iload 2, .ifCond .lt 1, .iload 1, .iload 2, .ishr, .iconst 1, .iand, .ifCond .ne 1, .iconst 1, .goto 2]
  | 1 => [.iconst 0, .goto 2]
  | 2 => [.istore 3, .aload 0, .ifnonnull 2051, .iload 3, .invokeinterface 7188 2, .iload 3, .ifCond .eq 3, .iload 1, .iconst 1, .iload 2, .ishl, .ior, .goto 4]
  | 3 => [.iload 1, .goto 4]
  | 4 => [.ireturn]
  | _ => []
/-- SchoolHouse$Reader.told(I)I -/
def B65 : Nat → List Instr := fun b => match b with
  | 0 => [.aload 0, .invokeinterface 13336 1, .ifCond .eq 1, .aload 0, .ifnull 2059, .iload 1, .aload 0, .ifnonnull 2051, .invokeinterface 13585 1, .invokeinterface 14680 3, .goto 2]
  | 1 => [.iconst (-1), .goto 2]
  | 2 => [.ireturn]
  | _ => []
/-- SchoolHouse$Reader.group()V -/
def B66 : Nat → List Instr := fun b => match b with
  | 0 => [.aload 0, .iconst 3, .invokeinterface 13080 2, .istore 1, .aload 0, .iconst 99, .invokeinterface 15640 2, .istore 2, .aload 0, .iconst 59, .invokeinterface 14876 2, .aload 0, .invokeinterface 10520 1, .ifCond .eq 1, .aload 0, .ifnull 2059, .ifnonnull 10283, .iload 1, .iload 2, .iastore, .goto 1]
  | 1 => [.return_]
  | _ => []
/-- SchoolHouse$Reader.lesson()V -/
def B67 : Nat → List Instr := fun b => match b with
  | 0 => [.aload 0, .iconst 4, .invokeinterface 13080 2, .istore 1, .aload 0, .iconst 58, .invokeinterface 14876 2, .aload 0, .iconst 0, .invokeinterface 16664 2, .istore 2, .aload 0, .ifnonnull 2051, .iload 2, .ifCond .lt 1, .iconst 1, .goto 2]
  | 1 => [.iconst 0, .goto 2]
  | 2 => [.invokeinterface 7188 2, .aload 0, .iconst 3, .invokeinterface 16664 2, .istore 3, .aload 0, .ifnonnull 2051, .iload 3, .ifCond .lt 3, .iconst 1, .goto 4]
  | 3 => [.iconst 0, .goto 4]
  | 4 => [.invokeinterface 7188 2, .aload 0, .iconst 2, .invokeinterface 16664 2, .istore 4, .aload 0, .ifnonnull 2051, .iload 4, .ifCond .lt 5, .aload 0, .ifnull 2059, .iload 4, .iload 2, .invokeinterface 17496 3, .ifCond .eq 5, .iconst 1, .goto 6]
  | 5 => [.iconst 0, .goto 6]
  | 6 => [.invokeinterface 7188 2, .aload 0, .iconst 3, .invokeinterface 15640 2, .istore 5, .aload 0, .iconst 59, .invokeinterface 14876 2, .aload 0, .invokeinterface 10520 1, .ifCond .eq 7, .aload 0, .ifnull 2059, .ifnonnull 10291, .iload 1, .iload 2, .iastore, .aload 0, .ifnull 2059, .ifnonnull 10299, .iload 1, .iload 3, .iastore, .aload 0, .ifnull 2059, .ifnonnull 10307, .iload 1, .iload 4, .iastore, .aload 0, .ifnull 2059, .iload 1, .iload 5, .invokeinterface 18012 3, .goto 7]
  | 7 => [.return_]
  | _ => []
/-- SchoolHouse$Text.teaches(II)Z -/
def B68 : Nat → List Instr := fun b => match b with
  | 0 => [.aload 0, .iconst 2, .iload 1, .invokeinterface 17752 3, .ifCond .eq 1, .iload 2, .ifCond .lt 1, .aload 0, .ifnonnull 10275, .iload 1, .iaload, .iload 2, .ishr, .iconst 1, .iand, .iconst 1, .if_icmp .ne 1, .iconst 1, .goto 2]
  | 1 => [.iconst 0, .goto 2]
  | 2 => [.freturn]
  | _ => []
/-- SchoolHouse$Text.has(II)Z -/
def B69 : Nat → List Instr := fun b => match b with
  | 0 => [.iload 2, .ifCond .lt 1, .iload 2, .aload 0, .iload 1, .invokeinterface 14168 2, .if_icmp .ge 1, .iconst 1, .goto 2]
  | 1 => [.iconst 0, .goto 2]
  | 2 => [.freturn]
  | _ => []
/-- SchoolHouse$Text.addUnits(II)V -/
def B70 : Nat → List Instr := fun b => match b with
  | 0 => [.iconst 0, .istore 3, .goto 1]
  | 1 => [.iload 3, .iload 2, .if_icmp .ge 2, .aload 0, .ifnull 10328, .iconst 36, .if_icmp .ge 2, .aload 0, .ifnonnull 10323, .aload 0, .ifnull 10328, .iload 1, .iastore, .aload 0, .dup, .ifnull 10328, .iconst 1, .iadd, .jsr_w 10328, .iinc 3 1, .goto 1]
  | 2 => [.return_]
  | _ => []
/-- SchoolHouse$Reader.course()V -/
def B71 : Nat → List Instr := fun b => match b with
  | 0 => [.aload 0, .iconst 5, .invokeinterface 13080 2, .istore 1, .aload 0, .iconst 99, .invokeinterface 15640 2, .istore 2, .aload 0, .iconst 59, .invokeinterface 14876 2, .aload 0, .invokeinterface 10520 1, .ifCond .eq 1, .aload 0, .ifnull 2059, .ifnonnull 10315, .iload 1, .iload 2, .iastore, .goto 1]
  | 1 => [.return_]
  | _ => []
/-- SchoolHouse$Reader.rule()V -/
def B72 : Nat → List Instr := fun b => match b with
  | 0 => [.aload 0, .iconst 6, .invokeinterface 13080 2, .istore 1, .aload 0, .iconst 0, .jsr_w 2096, .aload 0, .iconst 40, .invokeinterface 14876 2, .aload 0, .ifnonnull 2051, .iconst 41, .invokeinterface 15120 2, .ifCond .ne 2, .aload 0, .invokeinterface 18716 1, .iconst 0, .istore 2, .goto 1]
  | 1 => [.iload 2, .iconst 4, .if_icmp .ge 2, .aload 0, .ifnonnull 2051, .iconst 44, .invokeinterface 15120 2, .ifCond .eq 2, .aload 0, .ifnonnull 2051, .iconst 1, .invokeinterface 7188 2, .aload 0, .invokeinterface 18716 1, .iinc 2 1, .goto 1]
  | 2 => [.aload 0, .iconst 41, .invokeinterface 14876 2, .aload 0, .invokeinterface 10520 1, .ifCond .ne 3, .return_]
  | 3 => [.aload 0, .ifnull 2059, .ifnonnull 10339, .iload 1, .aload 0, .ifnull 2059, .invokeinterface 19800 1, .iastore, .aload 0, .ifnull 2059, .ifnonnull 10347, .iload 1, .aload 0, .ifnull 2096, .iastore, .aload 0, .iconst 0, .invokeinterface 19996 2, .aload 0, .ifnull 2059, .iconst 0, .invokeinterface 21084 2, .aload 0, .ifnull 2059, .ifnonnull 10355, .iload 1, .aload 0, .ifnull 2096, .iastore, .iconst 0, .istore 2, .goto 4]
  | 4 => [.iload 2, .aload 0, .ifnull 2096, .if_icmp .ge 6, .aload 0, .ifnonnull 2091, .iload 2, .iaload, .ifCond .lt 5, .aload 0, .aload 0, .ifnonnull 2091, .iload 2, .iaload, .invokeinterface 31516 2, .goto 5]
  | 5 => [.iinc 2 1, .goto 4]
  | 6 => [.return_]
  | _ => []
/-- SchoolHouse$Reader.ruleName()V -/
def B73 : Nat → List Instr := fun b => match b with
  | 0 => [.aload 0, .invokeinterface 13336 1, .ifCond .eq 1, .aload 0, .ifnull 2096, .iconst 4, .if_icmp .ge 1, .aload 0, .aload 0, .ifnonnull 2051, .invokeinterface 13585 1, .invokeinterface 18968 2, .ifCond .ge 1, .iconst 1, .goto 2]
  | 1 => [.iconst 0, .goto 2]
  | 2 => [.istore 1, .iload 1, .ifCond .eq 3, .aload 0, .aload 0, .ifnonnull 2051, .invokeinterface 13585 1, .invokeinterface 19224 2, .pop, .goto 3]
  | 3 => [.aload 0, .ifnonnull 2051, .iload 1, .invokeinterface 7188 2, .return_]
  | _ => []
/-- SchoolHouse$Reader.findVariable(J)I -/
def B74 : Nat → List Instr := fun b => match b with
  | 0 => [.iconst 0, .istore 3, .goto 1]
  | 1 => [.iload 3, .aload 0, .ifnull 2096, .if_icmp .ge 3, .aload 0, .ifnonnull 2083, .iload 3, .laload, .lload 1, .lcmp, .ifCond .ne 2, .iload 3, .ireturn]
  | 2 => [.iinc 3 1, .goto 1]
  | 3 => [.iconst (-1), .ireturn]
  | _ => []
/-- SchoolHouse$Reader.tellVariable(J)I -/
def B75 : Nat → List Instr := fun b => match b with
  | 0 => [.aload 0, .lload 1, .iconst (-1), .invokeinterface 19480 3, .istore 3, .iload 3, .ifCond .lt 1, .aload 0, .ifnonnull 2091, .iload 3, .iconst (-1), .iastore, .goto 1]
  | 1 => [.iload 3, .ireturn]
  | _ => []
/-- SchoolHouse$Reader.useVariable(JI)I -/
def B76 : Nat → List Instr := fun b => match b with
  | 0 => [.aload 0, .lload 1, .invokeinterface 18968 2, .istore 4, .iload 4, .ifCond .ge 1, .aload 0, .ifnull 2096, .iconst 404, .if_icmp .lt 2, .goto 1]
  | 1 => [.iload 4, .ireturn]
  | 2 => [.aload 0, .ifnonnull 2083, .aload 0, .ifnull 2096, .lload 1, .lastore, .aload 0, .ifnonnull 2091, .aload 0, .ifnull 2096, .iload 3, .iastore, .aload 0, .dup, .ifnull 2096, .iconst 1, .iadd, .jsr_w 2096, .aload 0, .ifnull 2096, .iconst 1, .isub, .ireturn]
  | _ => []
/-- SchoolHouse$Text.codeLength()I -/
def B77 : Nat → List Instr := fun b => match b with
  | 0 => [.aload 0, .ifnull 10376, .ireturn]
  | _ => []
/-- SchoolHouse$Reader.block(I)V -/
def B78 : Nat → List Instr := fun b => match b with
  | 0 => [.aload 0, .iconst 123, .iload 1, .invokeinterface 20252 3, .iconst 0, .istore 2, .goto 1]
  | 1 => [.iload 2, .iconst 400, .if_icmp .gt 2, .aload 0, .invokeinterface 10520 1, .ifCond .eq 2, .aload 0, .ifnonnull 2051, .iconst 125, .invokeinterface 15120 2, .ifCond .ne 2, .aload 0, .iload 1, .iconst 1, .iadd, .invokeinterface 20508 2, .iinc 2 1, .goto 1]
  | 2 => [.aload 0, .iconst 125, .invokeinterface 14876 2, .return_]
  | _ => []
/-- SchoolHouse$Reader.open(CI)V -/
def B79 : Nat → List Instr := fun b => match b with
  | 0 => [.aload 0, .ifnonnull 2051, .iload 2, .iconst 12, .if_icmp .ge 1, .aload 0, .ifnonnull 2051, .iload 1, .invokeinterface 15120 2, .ifCond .eq 1, .iconst 1, .goto 2]
  | 1 => [.iconst 0, .goto 2]
  | 2 => [.invokeinterface 7188 2, .return_]
  | _ => []
/-- SchoolHouse$Reader.act(I)V -/
def B80 : Nat → List Instr := fun b => match b with
  | 0 => [.aload 0, .invokeinterface 20760 1, .ifCond .ne 1, .aload 0, .ifnonnull 2051, .iconst 0, .invokeinterface 7188 2, .goto 1]
  | 1 => [.aload 0, .ifnull 2059, .iconst 1, .invokeinterface 21084 2, .aload 0, .ifnonnull 2051, .jsr (-435), .invokeinterface 11536 2, .istore 2, .iload 2, .ifCond .ge 2, .aload 0, .iload 1, .invokeinterface 21276 2, .return_]
  | 2 => [.aload 0, .ifnonnull 2051, .iconst 1, .invokeinterface 7188 2, .iload 2, .tableswitch 8 0 4 #[3, 4, 5, 6, 7]]
  | 3 => [.aload 0, .iload 1, .invokeinterface 28700 2, .goto 9]
  | 4 => [.aload 0, .iload 1, .invokeinterface 29980 2, .goto 9]
  | 5 => [.aload 0, .iload 1, .invokeinterface 30236 2, .goto 9]
  | 6 => [.aload 0, .invokeinterface 30748 1, .goto 9]
  | 7 => [.aload 0, .iload 1, .invokeinterface 31004 2, .goto 9]
  | 8 => [.aload 0, .iload 1, .invokeinterface 31260 2, .goto 9]
  | 9 => [.return_]
  | _ => []
/-- SchoolHouse$Reader.countNode()Z -/
def B81 : Nat → List Instr := fun b => match b with
  | 0 => [.aload 0, .ifnull 2059, .dup, .ifnull 10360, .iconst 1, .iadd, .jsr_w 10360, .aload 0, .ifnull 2059, .ifnull 10360, .iconst 400, .if_icmp .gt 1, .iconst 1, .goto 2]
  | 1 => [.iconst 0, .goto 2]
  | 2 => [.freturn]
  | _ => []
/-- SchoolHouse$Text.emit(I)V -/
def B82 : Nat → List Instr := fun b => match b with
  | 0 => [.aload 0, .ifnull 10376, .iconst 2400, .if_icmp .lt 1, .return_]
  | 1 => [.aload 0, .ifnonnull 10371, .aload 0, .ifnull 10376, .iload 1, .iastore, .aload 0, .dup, .ifnull 10376, .iconst 1, .iadd, .jsr_w 10376, .return_]
  | _ => []
/-- SchoolHouse$Reader.nameAct(I)V -/
def B83 : Nat → List Instr := fun b => match b with
  | 0 => [.aload 0, .ifnonnull 2051, .invokeinterface 13585 1, .lstore 2, .aload 0, .ifnonnull 2051, .invokeinterface 21520 1, .istore 4, .aload 0, .ifnonnull 2051, .aload 0, .invokeinterface 13336 1, .invokeinterface 7188 2, .aload 0, .ifnonnull 2051, .iconst 91, .invokeinterface 15120 2, .ifCond .eq 1, .aload 0, .lload 2, .iload 4, .invokeinterface 19480 3, .istore 5, .aload 0, .iconst 91, .iload 1, .invokeinterface 20252 3, .aload 0, .iload 1, .iconst 1, .iadd, .invokeinterface 22044 2, .aload 0, .iconst 93, .invokeinterface 14876 2, .aload 0, .iconst 61, .invokeinterface 14876 2, .aload 0, .iload 1, .invokeinterface 22044 2, .aload 0, .iconst 7, .iload 5, .invokeinterface 23836 3, .goto 2]
  | 1 => [.aload 0, .iconst 61, .invokeinterface 14876 2, .aload 0, .lload 2, .invokeinterface 19224 2, .istore 5, .aload 0, .iload 1, .invokeinterface 22044 2, .aload 0, .iconst 6, .iload 5, .invokeinterface 23836 3, .goto 2]
  | 2 => [.aload 0, .iconst 59, .invokeinterface 14876 2, .return_]
  | _ => []
/-- SchoolHouse$Scanner.start()I -/
def B84 : Nat → List Instr := fun b => match b with
  | 0 => [.aload 0, .ifnull 1064, .ireturn]
  | _ => []
/-- SchoolHouse$Scanner.kind()I -/
def B85 : Nat → List Instr := fun b => match b with
  | 0 => [.aload 0, .ifnull 1056, .ireturn]
  | _ => []
/-- SchoolHouse$Reader.exp(I)V -/
def B86 : Nat → List Instr := fun b => match b with
  | 0 => [.aload 0, .ifnull 2136, .ifCond .ne 1, .aload 0, .iconst 0, .jsr_w 2072, .goto 1]
  | 1 => [.aload 0, .dup, .ifnull 2136, .iconst 1, .iadd, .jsr_w 2136, .aload 0, .iload 1, .invokeinterface 22300 2, .aload 0, .ifnonnull 2051, .jsr (-947), .invokeinterface 28432 2, .istore 2, .iload 2, .ifCond .lt 2, .aload 0, .ifnonnull 2051, .aload 0, .invokeinterface 23064 1, .invokeinterface 7188 2, .aload 0, .iload 1, .invokeinterface 22300 2, .aload 0, .iconst 9, .iload 2, .invokeinterface 23836 3, .goto 2]
  | 2 => [.aload 0, .dup, .ifnull 2136, .iconst 1, .isub, .jsr_w 2136, .return_]
  | _ => []
/-- SchoolHouse$Reader.sum(I)V -/
def B87 : Nat → List Instr := fun b => match b with
  | 0 => [.aload 0, .iload 1, .invokeinterface 22556 2, .iconst 0, .istore 2, .goto 1]
  | 1 => [.iload 2, .iconst 30, .if_icmp .ge 2, .aload 0, .ifnonnull 2051, .jsr (-1075), .invokeinterface 28432 2, .ifCond .lt 2, .iconst 0, .aload 0, .ifnonnull 2051, .jsr (-1075), .invokeinterface 28432 2, .iadd, .istore 3, .aload 0, .ifnonnull 2051, .aload 0, .invokeinterface 23064 1, .invokeinterface 7188 2, .aload 0, .iload 1, .invokeinterface 22556 2, .aload 0, .iconst 8, .iload 3, .invokeinterface 23836 3, .iinc 2 1, .goto 1]
  | 2 => [.return_]
  | _ => []
/-- SchoolHouse$Reader.term(I)V -/
def B88 : Nat → List Instr := fun b => match b with
  | 0 => [.aload 0, .iload 1, .invokeinterface 22812 2, .iconst 0, .istore 2, .goto 1]
  | 1 => [.iload 2, .iconst 30, .if_icmp .ge 2, .aload 0, .ifnonnull 2051, .jsr (-1203), .invokeinterface 28432 2, .ifCond .lt 2, .iconst 2, .aload 0, .ifnonnull 2051, .jsr (-1203), .invokeinterface 28432 2, .iadd, .istore 3, .aload 0, .ifnonnull 2051, .aload 0, .invokeinterface 23064 1, .invokeinterface 7188 2, .aload 0, .iload 1, .invokeinterface 22812 2, .aload 0, .iconst 8, .iload 3, .invokeinterface 23836 3, .iinc 2 1, .goto 1]
  | 2 => [.return_]
  | _ => []
/-- SchoolHouse$Reader.one(I)V -/
def B89 : Nat → List Instr := fun b => match b with
  | 0 => [.aload 0, .ifnonnull 2051, .iconst 45, .invokeinterface 15120 2, .ifCond .eq 3, .aload 0, .invokeinterface 23064 1, .ifCond .ne 1, .aload 0, .ifnonnull 2051, .iconst 0, .invokeinterface 7188 2, .goto 1]
  | 1 => [.aload 0, .iconst 45, .iload 1, .invokeinterface 20252 3, .aload 0, .invokeinterface 10520 1, .ifCond .eq 2, .aload 0, .iload 1, .iconst 1, .iadd, .invokeinterface 22812 2, .goto 2]
  | 2 => [.aload 0, .ifnull 2059, .iconst 10, .invokeinterface 21084 2, .return_]
  | 3 => [.aload 0, .iload 1, .invokeinterface 23324 2, .iconst 0, .istore 2, .goto 4]
  | 4 => [.iload 2, .iconst 30, .if_icmp .ge 6, .aload 0, .ifnonnull 2051, .iconst 91, .invokeinterface 15120 2, .ifCond .eq 6, .aload 0, .invokeinterface 23064 1, .ifCond .ne 5, .aload 0, .ifnonnull 2051, .iconst 0, .invokeinterface 7188 2, .goto 5]
  | 5 => [.aload 0, .iconst 91, .iconst 93, .iload 1, .invokeinterface 23580 4, .aload 0, .ifnull 2059, .iconst 11, .invokeinterface 21084 2, .iinc 2 1, .goto 4]
  | 6 => [.return_]
  | _ => []
/-- SchoolHouse$Reader.countExpNode()Z -/
def B90 : Nat → List Instr := fun b => match b with
  | 0 => [.aload 0, .dup, .ifnull 2072, .iconst 1, .iadd, .jsr_w 2072, .aload 0, .invokeinterface 20760 1, .ifCond .eq 1, .aload 0, .ifnull 2072, .iconst 30, .if_icmp .gt 1, .iconst 1, .goto 2]
  | 1 => [.iconst 0, .goto 2]
  | 2 => [.freturn]
  | _ => []
/-- SchoolHouse$Reader.base(I)V -/
def B91 : Nat → List Instr := fun b => match b with
  | 0 => [.aload 0, .ifnonnull 2051, .iconst 40, .invokeinterface 15120 2, .ifCond .eq 1, .aload 0, .iconst 40, .iconst 41, .iload 1, .invokeinterface 23580 4, .return_]
  | 1 => [.aload 0, .invokeinterface 23064 1, .ifCond .ne 2, .aload 0, .ifnonnull 2051, .iconst 0, .invokeinterface 7188 2, .goto 2]
  | 2 => [.aload 0, .ifnonnull 2051, .invokeinterface 11024 1, .istore 2, .aload 0, .ifnonnull 2051, .jsr (-691), .invokeinterface 11536 2, .istore 3, .iload 2, .iconst 2, .if_icmp .ne 3, .aload 0, .iconst 3, .aload 0, .ifnonnull 2051, .invokeinterface 15888 1, .invokeinterface 23836 3, .goto 6]
  | 3 => [.iload 2, .iconst 3, .if_icmp .ne 4, .aload 0, .aload 0, .ifnonnull 2051, .invokeinterface 24081 1, .aload 0, .ifnonnull 2051, .invokeinterface 24336 1, .invokeinterface 24577 2, .invokeinterface 27420 2, .goto 6]
  | 4 => [.aload 0, .ifnonnull 2051, .jsr (-1331), .invokeinterface 11536 2, .ifCond .ne 5, .aload 0, .ifnull 2059, .iconst 2, .invokeinterface 21084 2, .goto 6]
  | 5 => [.iload 3, .ifCond .ge 6, .aload 0, .iload 1, .invokeinterface 27676 2, .return_]
  | 6 => [.aload 0, .ifnonnull 2051, .iconst 1, .invokeinterface 7188 2, .iload 3, .ifCond .lt 7, .aload 0, .iload 3, .iload 1, .invokeinterface 28188 3, .goto 7]
  | 7 => [.return_]
  | _ => []
/-- SchoolHouse$Reader.inner(CCI)V -/
def B92 : Nat → List Instr := fun b => match b with
  | 0 => [.aload 0, .iload 1, .iload 3, .invokeinterface 20252 3, .aload 0, .invokeinterface 10520 1, .ifCond .eq 1, .aload 0, .iload 3, .iconst 1, .iadd, .invokeinterface 22044 2, .goto 1]
  | 1 => [.aload 0, .iload 2, .invokeinterface 14876 2, .return_]
  | _ => []
/-- SchoolHouse$Reader.emit(II)V -/
def B93 : Nat → List Instr := fun b => match b with
  | 0 => [.aload 0, .ifnull 2059, .iload 1, .invokeinterface 21084 2, .aload 0, .ifnull 2059, .iload 2, .invokeinterface 21084 2, .return_]
  | _ => []
/-- SchoolHouse$Scanner.digits()J -/
def B94 : Nat → List Instr := fun b => match b with
  | 0 => [.aload 0, .ifnull 1081, .lreturn]
  | _ => []
/-- SchoolHouse$Scanner.places()I -/
def B95 : Nat → List Instr := fun b => match b with
  | 0 => [.aload 0, .ifnull 1088, .ireturn]
  | _ => []
/-- SchoolHouse$Reals.decimal(JI)J -/
def B96 : Nat → List Instr := fun b => match b with
  | 0 => [.bipush 1, .lstore 3, .iconst 0, .istore 5, .goto 1]
  | 1 => [.iload 5, .iload 2, .if_icmp .ge 2, .lload 3, .bipush 10, .lmul, .lstore 3, .iinc 5 1, .goto 1]
  | 2 => [.lload 0, .invokeinterface 24833 1, .lload 3, .invokeinterface 24833 1, .invokeinterface 25601 2, .lreturn]
  | _ => []
/-- SchoolHouse$Reals.fromWhole(J)J -/
def B97 : Nat → List Instr := fun b => match b with
  | 0 => [.lload 0, .bipush (-9223372036854775808), .land, .lload 0, .swap, .iconst 0, .invokeinterface 25089 3, .lreturn]
  | _ => []
/-- SchoolHouse$Reals.nearest(JJI)J -/
def B98 : Nat → List Instr := fun b => match b with
  | 0 => [.lload 2, .bipush 0, .lcmp, .ifCond .gt 1, .lload 0, .lreturn]
  | 1 => [.lload 2, .invokeinterface 25344 1, .iconst 53, .isub, .iconst (-1074), .iload 4, .isub, .dup_x1, .istore 5, .iload 5, .iconst 63, .if_icmp .le 2, .lload 0, .lreturn]
  | 2 => [.iload 4, .iload 5, .iadd, .iconst 971, .if_icmp .le 3, .lload 0, .bipush 9218868437227405312, .lor, .lreturn]
  | 3 => [.iload 5, .ifCond .gt 4, .lload 2, .iload 5, .ineg, .lshl, .goto 5]
  | 4 => [.lload 2, .iload 5, .lushr, .goto 5]
  | 5 => [.lstore 6, .iload 5, .ifCond .le 7, .lload 2, .bipush 1, .iload 5, .lshl, .bipush 1, .lsub, .land, .lstore 8, .bipush 1, .iload 5, .iconst 1, .isub, .lshl, .lstore 10, .lload 8, .lload 10, .lcmp, .ifCond .gt 6, .lload 8, .lload 10, .lcmp, .ifCond .ne 7, .lload 6, .bipush 1, .land, .bipush 1, .lcmp, .ifCond .ne 7, .goto 6]
  | 6 => [.lload 6, .bipush 1, .ladd, .lstore 6, .goto 7]
  | 7 => [.iload 4, .iload 5, .iadd, .iconst (-1074), .isub, .i2l, .iconst 52, .lshl, .lload 6, .ladd, .lstore 8, .lload 0, .lload 8, .bipush 9218868437227405312, .dup2_x2, .lor, .lreturn]
  | _ => []
/-- SchoolHouse$Reals.width(J)I -/
def B99 : Nat → List Instr := fun b => match b with
  | 0 => [.iconst 0, .istore 2, .lload 0, .lstore 3, .iconst 32, .istore 5, .goto 1]
  | 1 => [.iload 5, .ifCond .le 3, .lload 3, .iload 5, .lushr, .bipush 0, .lcmp, .ifCond .eq 2, .lload 3, .iload 5, .lushr, .lstore 3, .iload 2, .iload 5, .iadd, .istore 2, .goto 2]
  | 2 => [.iload 5, .iconst 1, .ishr, .istore 5, .goto 1]
  | 3 => [.lload 3, .bipush 0, .lcmp, .ifCond .ne 4, .iconst 0, .goto 5]
  | 4 => [.iload 2, .iconst 1, .iadd, .goto 5]
  | 5 => [.ireturn]
  | _ => []
/-- SchoolHouse$Reals.divided(JJ)J -/
def B100 : Nat → List Instr := fun b => match b with
  | 0 => [.lload 0, .invokeinterface 25856 1, .ifCond .ne 1, .lload 2, .invokeinterface 25856 1, .ifCond .eq 2, .goto 1]
  | 1 => [.bipush 9221120237041090560, .lreturn]
  | 2 => [.lload 0, .lload 2, .lxor, .bipush (-9223372036854775808), .land, .lstore 4, .lload 0, .invokeinterface 26112 1, .ifCond .eq 5, .lload 2, .invokeinterface 26112 1, .ifCond .eq 3, .bipush 9221120237041090560, .goto 4]
  | 3 => [.lload 4, .bipush 9218868437227405312, .lor, .goto 4]
  | 4 => [.lreturn]
  | 5 => [.lload 2, .invokeinterface 26112 1, .ifCond .eq 6, .lload 4, .lreturn]
  | 6 => [.lload 2, .invokeinterface 26368 1, .ifCond .eq 9, .lload 0, .invokeinterface 26368 1, .ifCond .eq 7, .bipush 9221120237041090560, .goto 8]
  | 7 => [.lload 4, .bipush 9218868437227405312, .lor, .goto 8]
  | 8 => [.lreturn]
  | 9 => [.lload 0, .invokeinterface 26368 1, .ifCond .eq 10, .lload 4, .lreturn]
  | 10 => [.lload 2, .invokeinterface 26625 1, .lload 2, .invokeinterface 26880 1, .lshl, .lstore 6, .lload 0, .invokeinterface 26625 1, .lload 0, .invokeinterface 26880 1, .lshl, .lstore 8, .bipush 0, .lstore 10, .iconst 0, .istore 12, .goto 11]
  | 11 => [.iload 12, .iconst 6, .if_icmp .gt 12, .lload 6, .bipush 0, .lcmp, .ifCond .le 12, .lload 10, .iconst 10, .lshl, .lload 8, .lload 6, .ldiv, .ladd, .lstore 10, .lload 8, .lload 6, .lrem, .iconst 10, .lshl, .lstore 8, .iinc 12 1, .goto 11]
  | 12 => [.lload 4, .lload 10, .lload 8, .bipush 0, .lcmp, .ifCond .ne 13, .iconst 0, .goto 14]
  | 13 => [.iconst 1, .goto 14]
  | 14 => [.i2l, .lor, .lload 0, .invokeinterface 27136 1, .lload 0, .invokeinterface 26880 1, .isub, .lload 2, .invokeinterface 27136 1, .isub, .lload 2, .invokeinterface 26880 1, .iadd, .iconst 60, .isub, .invokeinterface 25089 3, .lreturn]
  | _ => []
/-- SchoolHouse$Reals.isNan(J)Z -/
def B101 : Nat → List Instr := fun b => match b with
  | 0 => [.lload 0, .bipush 9223372036854775807, .land, .bipush 9218868437227405312, .lcmp, .ifCond .le 1, .iconst 1, .goto 2]
  | 1 => [.iconst 0, .goto 2]
  | 2 => [.freturn]
  | _ => []
/-- SchoolHouse$Reals.isInfinite(J)Z -/
def B102 : Nat → List Instr := fun b => match b with
  | 0 => [.lload 0, .bipush 9223372036854775807, .land, .bipush 9218868437227405312, .lcmp, .ifCond .ne 1, .iconst 1, .goto 2]
  | 1 => [.iconst 0, .goto 2]
  | 2 => [.freturn]
  | _ => []
/-- SchoolHouse$Reals.isZero(J)Z -/
def B103 : Nat → List Instr := fun b => match b with
  | 0 => [.lload 0, .bipush 9223372036854775807, .land, .bipush 0, .lcmp, .ifCond .ne 1, .iconst 1, .goto 2]
  | 1 => [.iconst 0, .goto 2]
  | 2 => [.freturn]
  | _ => []
/-- SchoolHouse$Reals.digits(J)J -/
def B104 : Nat → List Instr := fun b => match b with
  | 0 => [.lload 0, .bipush 4503599627370495, .land, .lstore 2, .lload 0, .bipush 9218868437227405312, .land, .bipush 0, .lcmp, .ifCond .ne 1, .lload 2, .goto 2]
  | 1 => [.lload 2, .bipush 4503599627370496, .lor, .goto 2]
  | 2 => [.lreturn]
  | _ => []
/-- SchoolHouse$Reals.lack(J)I -/
def B105 : Nat → List Instr := fun b => match b with
  | 0 => [.iconst 53, .lload 0, .invokeinterface 26625 1, .invokeinterface 25344 1, .isub, .ireturn]
  | _ => []
/-- SchoolHouse$Reals.place(J)I -/
def B106 : Nat → List Instr := fun b => match b with
  | 0 => [.lload 0, .iconst 52, .lushr, .bipush 2047, .land, .l2i, .iconst 1, .dup_x1, .iconst 1, .isub, .iconst (-1074), .iadd, .ireturn]
  | _ => []
/-- SchoolHouse$Reader.emitReal(J)V -/
def B107 : Nat → List Instr := fun b => match b with
  | 0 => [.aload 0, .iconst 4, .lload 1, .iconst 32, .lshr, .l2i, .invokeinterface 23836 3, .aload 0, .ifnull 2059, .lload 1, .l2i, .invokeinterface 21084 2, .return_]
  | _ => []
/-- SchoolHouse$Reader.named(I)V -/
def B108 : Nat → List Instr := fun b => match b with
  | 0 => [.aload 0, .ifnonnull 2051, .invokeinterface 13585 1, .lstore 2, .aload 0, .ifnonnull 2051, .invokeinterface 21520 1, .istore 4, .aload 0, .ifnonnull 2051, .aload 0, .invokeinterface 13336 1, .invokeinterface 7188 2, .aload 0, .ifnonnull 2051, .iconst 40, .invokeinterface 15120 2, .ifCond .eq 1, .aload 0, .lload 2, .iload 4, .iload 1, .invokeinterface 27932 4, .goto 2]
  | 1 => [.aload 0, .iconst 5, .aload 0, .lload 2, .iload 4, .invokeinterface 19480 3, .invokeinterface 23836 3, .goto 2]
  | 2 => [.return_]
  | _ => []
/-- SchoolHouse$Reader.ruleCall(JII)V -/
def B109 : Nat → List Instr := fun b => match b with
  | 0 => [.aload 0, .iconst 40, .iload 4, .invokeinterface 20252 3, .iconst 0, .istore 5, .aload 0, .invokeinterface 10520 1, .ifCond .eq 2, .aload 0, .ifnonnull 2051, .iconst 41, .invokeinterface 15120 2, .ifCond .ne 2, .aload 0, .iload 4, .iconst 1, .iadd, .invokeinterface 22044 2, .iinc 5 1, .iconst 0, .istore 6, .goto 1]
  | 1 => [.iload 6, .iconst 30, .if_icmp .ge 2, .aload 0, .ifnonnull 2051, .iconst 44, .invokeinterface 15120 2, .ifCond .eq 2, .aload 0, .ifnonnull 2051, .iconst 1, .invokeinterface 7188 2, .aload 0, .iload 4, .iconst 1, .iadd, .invokeinterface 22044 2, .iinc 5 1, .iinc 6 1, .goto 1]
  | 2 => [.aload 0, .iconst 41, .invokeinterface 14876 2, .aload 0, .ifnull 2059, .iconst 13, .invokeinterface 21084 2, .aload 0, .ifnull 2128, .iconst 400, .if_icmp .ge 3, .aload 0, .ifnonnull 2107, .aload 0, .ifnull 2128, .lload 1, .lastore, .aload 0, .ifnonnull 2115, .aload 0, .ifnull 2128, .iload 3, .iastore, .aload 0, .ifnonnull 2123, .aload 0, .ifnull 2128, .aload 0, .ifnull 2059, .invokeinterface 19800 1, .iastore, .aload 0, .dup, .ifnull 2128, .iconst 1, .iadd, .jsr_w 2128, .goto 3]
  | 3 => [.aload 0, .iconst (-1), .iload 5, .invokeinterface 23836 3, .return_]
  | _ => []
/-- SchoolHouse$Reader.baseCall(II)V -/
def B110 : Nat → List Instr := fun b => match b with
  | 0 => [.aload 0, .iconst 40, .iload 2, .invokeinterface 20252 3, .aload 0, .invokeinterface 10520 1, .ifCond .eq 1, .aload 0, .iload 2, .iconst 1, .iadd, .invokeinterface 22044 2, .goto 1]
  | 1 => [.iload 1, .iconst 9, .if_icmp .lt 2, .aload 0, .iconst 44, .invokeinterface 14876 2, .aload 0, .invokeinterface 10520 1, .ifCond .eq 2, .aload 0, .iload 2, .iconst 1, .iadd, .invokeinterface 22044 2, .goto 2]
  | 2 => [.aload 0, .iconst 41, .invokeinterface 14876 2, .iload 1, .iconst 3, .if_icmp .gt 3, .aload 0, .iconst 12, .iload 1, .invokeinterface 23836 3, .goto 4]
  | 3 => [.aload 0, .ifnull 2059, .iconst 25, .iload 1, .iadd, .iconst 3, .isub, .iconst 1, .isub, .invokeinterface 21084 2, .goto 4]
  | 4 => [.return_]
  | _ => []
/-- SchoolHouse$Scanner.findSign(Ljava/lang/String;)I -/
def B111 : Nat → List Instr := fun b => match b with
  | 0 => [.aload 0, .ifnull 1056, .iconst 4, .if_icmp .ne 1, .aload 1, .aload 0, .ifnull 1101, .invokeinterface 8560 2, .goto 2]
  | 1 => [.iconst (-1), .goto 2]
  | 2 => [.ireturn]
  | _ => []
/-- SchoolHouse$Reader.ifAct(I)V -/
def B112 : Nat → List Instr := fun b => match b with
  | 0 => [.aload 0, .iload 1, .invokeinterface 22044 2, .aload 0, .iconst 16, .invokeinterface 28952 2, .istore 2, .aload 0, .iload 1, .invokeinterface 19996 2, .aload 0, .ifnonnull 2051, .jsr (-1459), .invokeinterface 11536 2, .ifCond .ne 1, .aload 0, .ifnonnull 2051, .iconst 1, .invokeinterface 7188 2, .aload 0, .iconst 15, .invokeinterface 28952 2, .istore 3, .aload 0, .iload 2, .invokeinterface 29468 2, .aload 0, .iload 1, .invokeinterface 19996 2, .aload 0, .iload 3, .invokeinterface 29468 2, .goto 2]
  | 1 => [.aload 0, .iload 2, .invokeinterface 29468 2, .goto 2]
  | 2 => [.return_]
  | _ => []
/-- SchoolHouse$Reader.emitHole(I)I -/
def B113 : Nat → List Instr := fun b => match b with
  | 0 => [.aload 0, .ifnull 2059, .iload 1, .invokeinterface 21084 2, .aload 0, .invokeinterface 29208 1, .ireturn]
  | _ => []
/-- SchoolHouse$Reader.hole()I -/
def B114 : Nat → List Instr := fun b => match b with
  | 0 => [.aload 0, .ifnull 2059, .iconst 0, .invokeinterface 21084 2, .aload 0, .ifnull 2059, .invokeinterface 19800 1, .iconst 1, .isub, .ireturn]
  | _ => []
/-- SchoolHouse$Reader.fill(I)V -/
def B115 : Nat → List Instr := fun b => match b with
  | 0 => [.aload 0, .ifnull 2059, .iload 1, .aload 0, .ifnull 2059, .invokeinterface 19800 1, .invokeinterface 29788 3, .return_]
  | _ => []
/-- SchoolHouse$Text.patch(II)V -/
def B116 : Nat → List Instr := fun b => match b with
  | 0 => [.iload 1, .ifCond .lt 1, .iload 1, .aload 0, .ifnull 10376, .if_icmp .ge 1, .aload 0, .ifnonnull 10371, .iload 1, .iload 2, .iastore, .goto 1]
  | 1 => [.return_]
  | _ => []
/-- SchoolHouse$Reader.forAct(I)V -/
def B117 : Nat → List Instr := fun b => match b with
  | 0 => [.aload 0, .ifnonnull 2051, .invokeinterface 13585 1, .lstore 2, .aload 0, .ifnonnull 2051, .aload 0, .invokeinterface 13336 1, .invokeinterface 7188 2, .aload 0, .lload 2, .invokeinterface 19224 2, .istore 4, .aload 0, .ifnonnull 2051, .aload 0, .ifnonnull 2051, .jsr (-1587), .invokeinterface 11536 2, .ifCond .ne 1, .iconst 1, .goto 2]
  | 1 => [.iconst 0, .goto 2]
  | 2 => [.invokeinterface 7188 2, .aload 0, .iload 1, .invokeinterface 22044 2, .aload 0, .ifnull 2059, .iconst 17, .invokeinterface 21084 2, .aload 0, .ifnull 2059, .invokeinterface 19800 1, .istore 5, .aload 0, .iconst 18, .iload 4, .invokeinterface 23836 3, .aload 0, .invokeinterface 29208 1, .istore 6, .aload 0, .iload 1, .invokeinterface 19996 2, .aload 0, .iconst 15, .iload 5, .invokeinterface 23836 3, .aload 0, .iload 6, .invokeinterface 29468 2, .return_]
  | _ => []
/-- SchoolHouse$Reader.tryAct(I)V -/
def B118 : Nat → List Instr := fun b => match b with
  | 0 => [.aload 0, .iconst 21, .invokeinterface 28952 2, .istore 2, .aload 0, .iload 1, .invokeinterface 19996 2, .aload 0, .ifnull 2059, .iconst 23, .invokeinterface 21084 2, .aload 0, .iload 2, .invokeinterface 29468 2, .iconst 0, .istore 3, .iconst 0, .istore 4, .goto 1]
  | 1 => [.iload 4, .iconst 7, .if_icmp .gt 2, .aload 0, .ifnonnull 2051, .jsr (-1715), .invokeinterface 11536 2, .ifCond .ne 2, .aload 0, .ifnonnull 2051, .iconst 1, .invokeinterface 7188 2, .aload 0, .iload 3, .invokeinterface 30488 2, .istore 5, .iload 3, .iconst 1, .iload 5, .ishl, .ior, .istore 3, .aload 0, .iconst 22, .iload 5, .invokeinterface 23836 3, .aload 0, .invokeinterface 29208 1, .istore 6, .aload 0, .iload 1, .invokeinterface 19996 2, .aload 0, .ifnull 2059, .iconst 23, .invokeinterface 21084 2, .aload 0, .iload 6, .invokeinterface 29468 2, .iinc 4 1, .goto 1]
  | 2 => [.aload 0, .ifnonnull 2051, .jsr (-1843), .invokeinterface 11536 2, .ifCond .ne 3, .aload 0, .ifnonnull 2051, .iconst 1, .invokeinterface 7188 2, .aload 0, .iload 1, .invokeinterface 19996 2, .goto 3]
  | 3 => [.aload 0, .ifnull 2059, .iconst 24, .invokeinterface 21084 2, .return_]
  | _ => []
/-- SchoolHouse$Reader.failure(I)I -/
def B119 : Nat → List Instr := fun b => match b with
  | 0 => [.aload 0, .ifnonnull 2051, .jsr (-563), .invokeinterface 11536 2, .iconst 1, .iadd, .istore 2, .aload 0, .ifnonnull 2051, .iload 2, .ifCond .le 1, .iload 1, .iload 2, .ishr, .iconst 1, .iand, .ifCond .ne 1, .iconst 1, .goto 2]
  | 1 => [.iconst 0, .goto 2]
  | 2 => [.invokeinterface 7188 2, .iload 2, .ireturn]
  | _ => []
/-- SchoolHouse$Reader.raiseAct()V -/
def B120 : Nat → List Instr := fun b => match b with
  | 0 => [.aload 0, .iconst 19, .aload 0, .iconst 0, .invokeinterface 30488 2, .invokeinterface 23836 3, .aload 0, .iconst 59, .invokeinterface 14876 2, .return_]
  | _ => []
/-- SchoolHouse$Reader.giveAct(I)V -/
def B121 : Nat → List Instr := fun b => match b with
  | 0 => [.aload 0, .iload 1, .invokeinterface 22044 2, .aload 0, .ifnull 2059, .iconst 14, .invokeinterface 21084 2, .aload 0, .iconst 59, .invokeinterface 14876 2, .return_]
  | _ => []
/-- SchoolHouse$Reader.copyAct(I)V -/
def B122 : Nat → List Instr := fun b => match b with
  | 0 => [.aload 0, .iload 1, .invokeinterface 22044 2, .iconst 0, .istore 2, .goto 1]
  | 1 => [.iload 2, .iconst 4, .if_icmp .ge 2, .aload 0, .iconst 44, .invokeinterface 14876 2, .aload 0, .iload 1, .invokeinterface 22044 2, .iinc 2 1, .goto 1]
  | 2 => [.aload 0, .ifnull 2059, .iconst 20, .invokeinterface 21084 2, .aload 0, .iconst 59, .invokeinterface 14876 2, .return_]
  | _ => []
/-- SchoolHouse$Reader.refuseLate(I)V -/
def B123 : Nat → List Instr := fun b => match b with
  | 0 => [.aload 0, .ifnull 2064, .ifCond .lt 1, .iload 1, .aload 0, .ifnull 2064, .if_icmp .ge 2, .goto 1]
  | 1 => [.aload 0, .iload 1, .jsr_w 2064, .goto 2]
  | 2 => [.return_]
  | _ => []
/-- SchoolHouse$Reader.linkCalls()V -/
def B124 : Nat → List Instr := fun b => match b with
  | 0 => [.iconst 0, .istore 1, .goto 1]
  | 1 => [.iload 1, .aload 0, .ifnull 2128, .if_icmp .ge 4, .aload 0, .ifnull 2059, .iconst 6, .aload 0, .ifnonnull 2107, .iload 1, .laload, .invokeinterface 14680 3, .istore 2, .aload 0, .ifnull 2059, .aload 0, .ifnonnull 2123, .iload 1, .iaload, .iconst 1, .iadd, .invokeinterface 32088 2, .istore 3, .iload 2, .ifCond .lt 2, .aload 0, .ifnull 2059, .ifnonnull 10347, .iload 2, .iaload, .iload 3, .if_icmp .eq 3, .goto 2]
  | 2 => [.aload 0, .aload 0, .ifnonnull 2115, .iload 1, .iaload, .invokeinterface 31516 2, .goto 3]
  | 3 => [.aload 0, .ifnull 2059, .aload 0, .ifnonnull 2123, .iload 1, .iaload, .iload 2, .invokeinterface 29788 3, .iinc 1 1, .goto 1]
  | 4 => [.return_]
  | _ => []
/-- SchoolHouse$Text.codeAt(I)I -/
def B125 : Nat → List Instr := fun b => match b with
  | 0 => [.iload 1, .ifCond .lt 1, .iload 1, .aload 0, .ifnull 10376, .if_icmp .ge 1, .aload 0, .ifnonnull 10371, .iload 1, .iaload, .goto 2]
  | 1 => [.iconst 0, .goto 2]
  | 2 => [.ireturn]
  | _ => []
/-- SchoolHouse$Scanner.wipe()V -/
def B126 : Nat → List Instr := fun b => match b with
  | 0 => [.aload 0, .iconst 0, .jsr_w 1032, .return_]
  | _ => []
/-- SchoolHouse.openSchool()V -/
def B127 : Nat → List Instr := fun b => match b with
  | 0 => [.aload 0, .ifnonnull 19, .invokeinterface 32804 1, .aload 0, .ifnonnull 27, .invokeinterface 33068 1, .iconst 0, .istore 1, .goto 1]
  | 1 => [.iload 1, .aload 0, .ifnull 67, .iconst 2, .invokeinterface 14168 2, .if_icmp .ge 2, .aload 0, .ifnonnull 27, .aload 0, .ifnull 67, .ifnonnull 10267, .iload 1, .iaload, .iload 1, .iconst (-9), .invokeinterface 33320 4, .pop, .iinc 1 1, .goto 1]
  | 2 => [.aload 0, .ifnonnull 35, .aload 0, .ifnull 67, .invokeinterface 4148 2, .aload 0, .ifnonnull 43, .aload 0, .ifnull 67, .invokeinterface 3140 2, .aload 0, .ifnonnull 51, .aload 0, .ifnull 67, .invokeinterface 4428 2, .aload 0, .ifnonnull 59, .aload 0, .ifnull 67, .invokeinterface 5204 2, .aload 0, .iconst 0, .jsr_w 80, .aload 0, .bipush 0, .jsr_w 89, .aload 0, .iconst 0, .jsr_w 96, .aload 0, .iconst 0, .jsr_w 128, .return_]
  | _ => []
/-- SchoolHouse$Rows.forget()V -/
def B128 : Nat → List Instr := fun b => match b with
  | 0 => [.aload 0, .iconst 0, .jsr_w 3088, .return_]
  | _ => []
/-- SchoolHouse$People.forget()V -/
def B129 : Nat → List Instr := fun b => match b with
  | 0 => [.aload 0, .iconst 0, .jsr_w 4128, .return_]
  | _ => []
/-- SchoolHouse$People.add(III)I -/
def B130 : Nat → List Instr := fun b => match b with
  | 0 => [.aload 0, .ifnull 4128, .iconst 24, .if_icmp .lt 1, .iconst (-1), .ireturn]
  | 1 => [.aload 0, .ifnonnull 4099, .aload 0, .ifnull 4128, .iload 1, .iastore, .aload 0, .ifnonnull 4107, .aload 0, .ifnull 4128, .iload 2, .iastore, .aload 0, .ifnonnull 4115, .aload 0, .ifnull 4128, .iload 3, .iastore, .iconst 0, .istore 4, .goto 2]
  | 2 => [.iload 4, .iconst 8, .if_icmp .ge 3, .aload 0, .ifnonnull 4123, .aload 0, .ifnull 4128, .iconst 8, .imul, .iload 4, .iadd, .iconst (-1), .iastore, .iinc 4 1, .goto 2]
  | 3 => [.aload 0, .dup, .ifnull 4128, .iconst 1, .iadd, .jsr_w 4128, .aload 0, .ifnull 4128, .iconst 1, .isub, .ireturn]
  | _ => []
/-- SchoolHouse.count(I)I -/
def B131 : Nat → List Instr := fun b => match b with
  | 0 => [.iload 1, .ifCond .lt 1, .iload 1, .iconst 12, .if_icmp .le 2, .goto 1]
  | 1 => [.iconst (-1), .ireturn]
  | 2 => [.iload 1, .tableswitch 9 7 12 #[3, 4, 5, 6, 7, 8]]
  | 3 => [.aload 0, .ifnull 67, .ifnull 10360, .ireturn]
  | 4 => [.aload 0, .ifnonnull 27, .invokeinterface 33832 1, .ireturn]
  | 5 => [.aload 0, .ifnull 67, .ifnull 10328, .ireturn]
  | 6 => [.aload 0, .ifnonnull 3, .invokeinterface 5904 1, .ireturn]
  | 7 => [.aload 0, .ifnonnull 19, .invokeinterface 34080 1, .ireturn]
  | 8 => [.aload 0, .ifnonnull 35, .invokeinterface 34352 1, .ireturn]
  | 9 => [.aload 0, .ifnull 67, .iload 1, .invokeinterface 14168 2, .ireturn]
  | _ => []
/-- SchoolHouse$People.howMany()I -/
def B132 : Nat → List Instr := fun b => match b with
  | 0 => [.aload 0, .ifnull 4128, .ireturn]
  | _ => []
/-- SchoolHouse$Rows.made()I -/
def B133 : Nat → List Instr := fun b => match b with
  | 0 => [.aload 0, .ifnull 3096, .ireturn]
  | _ => []
/-- SchoolHouse$Machine.failures()I -/
def B134 : Nat → List Instr := fun b => match b with
  | 0 => [.aload 0, .ifnull 5240, .ireturn]
  | _ => []
/-- SchoolHouse.pupil(II)I -/
def B135 : Nat → List Instr := fun b => match b with
  | 0 => [.aload 0, .ifnull 67, .iconst 3, .iload 1, .invokeinterface 17752 3, .ifCond .eq 1, .iload 2, .invokeinterface 34816 1, .ifCond .ne 2, .goto 1]
  | 1 => [.iconst (-1), .ireturn]
  | 2 => [.aload 0, .ifnonnull 27, .iload 1, .invokeinterface 35112 2, .aload 0, .ifnull 67, .ifnonnull 10283, .iload 1, .iaload, .if_icmp .lt 3, .iconst (-2), .ireturn]
  | 3 => [.aload 0, .ifnonnull 27, .invokeinterface 33832 1, .iconst 24, .if_icmp .lt 4, .iconst (-3), .ireturn]
  | 4 => [.aload 0, .iconst 0, .jsr_w 128, .aload 0, .ifnonnull 27, .iconst 0, .iload 2, .iload 1, .invokeinterface 33320 4, .ireturn]
  | _ => []
/-- SchoolHouse.isWorth(I)Z -/
def B136 : Nat → List Instr := fun b => match b with
  | 0 => [.iload 0, .iconst (-99), .if_icmp .lt 1, .iload 0, .iconst 99, .if_icmp .gt 1, .iconst 1, .goto 2]
  | 1 => [.iconst 0, .goto 2]
  | 2 => [.freturn]
  | _ => []
/-- SchoolHouse$People.inGroup(I)I -/
def B137 : Nat → List Instr := fun b => match b with
  | 0 => [.iconst 0, .istore 2, .iconst 0, .istore 3, .goto 1]
  | 1 => [.iload 3, .aload 0, .ifnull 4128, .if_icmp .ge 3, .aload 0, .iload 3, .invokeinterface 35368 2, .ifCond .eq 2, .aload 0, .ifnonnull 4115, .iload 3, .iaload, .iload 1, .if_icmp .ne 2, .iinc 2 1, .goto 2]
  | 2 => [.iinc 3 1, .goto 1]
  | 3 => [.iload 2, .ireturn]
  | _ => []
/-- SchoolHouse$People.isPupil(I)Z -/
def B138 : Nat → List Instr := fun b => match b with
  | 0 => [.aload 0, .iload 1, .invokeinterface 35624 2, .ifCond .ne 1, .iconst 1, .goto 2]
  | 1 => [.iconst 0, .goto 2]
  | 2 => [.freturn]
  | _ => []
/-- SchoolHouse$People.kindOf(I)I -/
def B139 : Nat → List Instr := fun b => match b with
  | 0 => [.aload 0, .iload 1, .i2l, .invokeinterface 35880 2, .ifCond .eq 1, .aload 0, .ifnonnull 4099, .iload 1, .iaload, .goto 2]
  | 1 => [.iconst (-1), .goto 2]
  | 2 => [.ireturn]
  | _ => []
/-- SchoolHouse$People.has(J)Z -/
def B140 : Nat → List Instr := fun b => match b with
  | 0 => [.lload 1, .bipush 0, .lcmp, .ifCond .lt 1, .lload 1, .aload 0, .ifnull 4128, .i2l, .lcmp, .ifCond .ge 1, .iconst 1, .goto 2]
  | 1 => [.iconst 0, .goto 2]
  | 2 => [.freturn]
  | _ => []
/-- SchoolHouse.parent(I)I -/
def B141 : Nat → List Instr := fun b => match b with
  | 0 => [.iload 1, .invokeinterface 34816 1, .ifCond .ne 1, .iconst (-1), .ireturn]
  | 1 => [.aload 0, .ifnonnull 27, .invokeinterface 33832 1, .iconst 24, .if_icmp .lt 2, .iconst (-3), .ireturn]
  | 2 => [.aload 0, .ifnonnull 27, .iconst 1, .iload 1, .iconst (-9), .invokeinterface 33320 4, .ireturn]
  | _ => []
/-- SchoolHouse.person(II)I -/
def B142 : Nat → List Instr := fun b => match b with
  | 0 => [.aload 0, .ifnonnull 27, .iload 1, .i2l, .invokeinterface 35880 2, .ifCond .eq 1, .iload 2, .ifCond .lt 1, .iload 2, .iconst 2, .if_icmp .le 2, .goto 1]
  | 1 => [.iconst (-100), .ireturn]
  | 2 => [.iload 2, .ifCond .ne 3, .aload 0, .ifnonnull 27, .iload 1, .invokeinterface 35624 2, .goto 5]
  | 3 => [.iload 2, .iconst 1, .if_icmp .ne 4, .aload 0, .ifnonnull 27, .iload 1, .invokeinterface 36648 2, .goto 5]
  | 4 => [.aload 0, .ifnonnull 27, .iload 1, .invokeinterface 36904 2, .goto 5]
  | 5 => [.ireturn]
  | _ => []
/-- SchoolHouse$People.worthOf(I)I -/
def B143 : Nat → List Instr := fun b => match b with
  | 0 => [.aload 0, .iload 1, .i2l, .invokeinterface 35880 2, .ifCond .eq 1, .aload 0, .ifnonnull 4107, .iload 1, .iaload, .goto 2]
  | 1 => [.iconst 0, .goto 2]
  | 2 => [.ireturn]
  | _ => []
/-- SchoolHouse$People.groupOf(I)I -/
def B144 : Nat → List Instr := fun b => match b with
  | 0 => [.aload 0, .iload 1, .i2l, .invokeinterface 35880 2, .ifCond .eq 1, .aload 0, .ifnonnull 4115, .iload 1, .iaload, .goto 2]
  | 1 => [.iconst (-9), .goto 2]
  | 2 => [.ireturn]
  | _ => []
/-- SchoolHouse.level(II)I -/
def B145 : Nat → List Instr := fun b => match b with
  | 0 => [.aload 0, .ifnonnull 27, .iload 1, .i2l, .invokeinterface 35880 2, .ifCond .eq 1, .iload 2, .invokeinterface 37376 1, .ifCond .ne 2, .goto 1]
  | 1 => [.iconst (-1), .ireturn]
  | 2 => [.aload 0, .ifnonnull 27, .iload 1, .iload 2, .invokeinterface 37672 3, .ireturn]
  | _ => []
/-- SchoolHouse$People.isThing(I)Z -/
def B146 : Nat → List Instr := fun b => match b with
  | 0 => [.iload 0, .ifCond .lt 1, .iload 0, .iconst 4, .if_icmp .ge 1, .iconst 1, .goto 2]
  | 1 => [.iconst 0, .goto 2]
  | 2 => [.freturn]
  | _ => []
/-- SchoolHouse$People.levelOf(II)I -/
def B147 : Nat → List Instr := fun b => match b with
  | 0 => [.iload 2, .invokeinterface 37888 1, .iload 2, .invokeinterface 38400 1, .iadd, .istore 3, .aload 0, .iload 1, .invokeinterface 35624 2, .tableswitch 7 1 4 #[1, 2, 3, 4]]
  | 1 => [.iload 2, .invokeinterface 38400 1, .ireturn]
  | 2 => [.iload 2, .invokeinterface 37888 1, .ireturn]
  | 3 => [.iload 3, .ireturn]
  | 4 => [.iconst 3, .iload 2, .invokeinterface 37888 1, .imul, .iload 3, .iadd, .aload 0, .iload 1, .invokeinterface 36648 2, .iconst 5, .if_icmp .le 5, .iconst 1, .goto 6]
  | 5 => [.iconst 0, .goto 6]
  | 6 => [.iadd, .ireturn]
  | 7 => [.iload 2, .invokeinterface 38144 1, .ireturn]
  | _ => []
/-- SchoolHouse$People.staff(I)I -/
def B148 : Nat → List Instr := fun b => match b with
  | 0 => [.iload 0, .invokeinterface 38144 1, .iload 0, .ifCond .eq 1, .iload 0, .iconst 2, .if_icmp .ne 2, .goto 1]
  | 1 => [.iconst 2, .goto 3]
  | 2 => [.iconst 0, .goto 3]
  | 3 => [.iadd, .ireturn]
  | _ => []
/-- SchoolHouse$People.member(I)I -/
def B149 : Nat → List Instr := fun b => match b with
  | 0 => [.iload 0, .iconst 1, .if_icmp .ne 1, .iconst 1, .goto 2]
  | 1 => [.iconst 0, .goto 2]
  | 2 => [.ireturn]
  | _ => []
/-- SchoolHouse$People.kin(I)I -/
def B150 : Nat → List Instr := fun b => match b with
  | 0 => [.iload 0, .invokeinterface 38144 1, .iload 0, .ifCond .eq 1, .iload 0, .iconst 3, .if_icmp .ne 2, .goto 1]
  | 1 => [.iconst 1, .goto 3]
  | 2 => [.iconst 0, .goto 3]
  | 3 => [.iadd, .ireturn]
  | _ => []
/-- SchoolHouse.marks(III)I -/
def B151 : Nat → List Instr := fun b => match b with
  | 0 => [.aload 0, .iload 1, .iload 2, .invokeinterface 38920 3, .ifCond .eq 1, .iload 3, .iconst (-1), .if_icmp .lt 1, .iload 3, .iconst 64, .if_icmp .le 2, .goto 1]
  | 1 => [.iconst (-1), .ireturn]
  | 2 => [.aload 0, .ifnonnull 27, .iload 1, .invokeinterface 35368 2, .ifCond .ne 3, .iconst (-2), .ireturn]
  | 3 => [.iconst (-1), .istore 4, .iload 3, .ifCond .lt 4, .aload 0, .ifnonnull 19, .iload 3, .bipush 0, .invokeinterface 39200 3, .istore 4, .iload 4, .ifCond .ge 4, .iconst (-3), .ireturn]
  | 4 => [.aload 0, .ifnonnull 27, .iload 1, .iload 2, .iload 4, .invokeinterface 39980 4, .iconst 0, .ireturn]
  | _ => []
/-- SchoolHouse.areThere(II)Z -/
def B152 : Nat → List Instr := fun b => match b with
  | 0 => [.aload 0, .ifnonnull 27, .iload 1, .i2l, .invokeinterface 35880 2, .ifCond .eq 1, .aload 0, .ifnull 67, .iconst 5, .iload 2, .invokeinterface 17752 3, .ifCond .eq 1, .iconst 1, .goto 2]
  | 1 => [.iconst 0, .goto 2]
  | 2 => [.freturn]
  | _ => []
/-- SchoolHouse$Rows.make(IJ)I -/
def B153 : Nat → List Instr := fun b => match b with
  | 0 => [.aload 0, .ifnull 3096, .iconst 6000, .if_icmp .ge 1, .iload 1, .ifCond .lt 1, .iload 1, .iconst 64, .if_icmp .le 2, .goto 1]
  | 1 => [.iconst (-1), .ireturn]
  | 2 => [.aload 0, .ifnull 3088, .iconst 2, .iadd, .aload 0, .ifnull 3075, .arraylength, .if_icmp .le 3, .aload 0, .aload 0, .ifnull 3075, .aload 0, .ifnull 3075, .arraylength, .iconst 2, .imul, .invokeinterface 39427 2, .jsr_w 3075, .goto 3]
  | 3 => [.aload 0, .ifnull 3075, .aload 0, .ifnull 3088, .iaload, .istore 4, .iload 4, .iload 1, .iadd, .aload 0, .ifnull 3083, .arraylength, .if_icmp .le 4, .aload 0, .aload 0, .ifnull 3083, .aload 0, .ifnull 3083, .arraylength, .iconst 2, .imul, .invokeinterface 39683 2, .jsr_w 3083, .goto 4]
  | 4 => [.iload 4, .istore 5, .goto 5]
  | 5 => [.iload 5, .iload 4, .iload 1, .iadd, .if_icmp .ge 6, .aload 0, .ifnull 3083, .iload 5, .lload 2, .lastore, .iinc 5 1, .goto 5]
  | 6 => [.aload 0, .dup, .ifnull 3096, .iconst 1, .iadd, .jsr_w 3096, .aload 0, .dup, .ifnull 3088, .iconst 1, .iadd, .jsr_w 3088, .aload 0, .ifnull 3075, .aload 0, .ifnull 3088, .iload 4, .iload 1, .iadd, .iastore, .aload 0, .ifnull 3088, .iconst 1, .isub, .ireturn]
  | _ => []
/-- util/Arrays.copyOf([II)[I -/
def B154 : Nat → List Instr := fun b => match b with
  | 0 => [.iload 1, .aload 0, .arraylength, .if_icmp .ne 1, .aload 0, .athrow]
  | 1 => [.iload 1, .newarray .int, .astore 2, .aload 0, .iconst 0, .aload 2, .iconst 0, .aload 0, .arraylength, .iload 1, .dup_x2, .monitorenter, .aload 2, .areturn]
  | _ => []
/-- util/Arrays.copyOf([JI)[J -/
def B155 : Nat → List Instr := fun b => match b with
  | 0 => [.iload 1, .aload 0, .arraylength, .if_icmp .ne 1, .aload 0, .athrow]
  | 1 => [.iload 1, .newarray .long, .astore 2, .aload 0, .iconst 0, .aload 2, .iconst 0, .aload 0, .arraylength, .iload 1, .dup_x2, .monitorenter, .aload 2, .areturn]
  | _ => []
/-- SchoolHouse$People.keepMarks(III)V -/
def B156 : Nat → List Instr := fun b => match b with
  | 0 => [.aload 0, .iload 1, .i2l, .invokeinterface 35880 2, .ifCond .eq 1, .iload 2, .ifCond .lt 1, .iload 2, .iconst 8, .if_icmp .ge 1, .aload 0, .ifnonnull 4123, .iload 1, .iconst 8, .imul, .iload 2, .iadd, .iload 3, .iastore, .goto 1]
  | 1 => [.return_]
  | _ => []
/-- SchoolHouse.mark(IIII)I -/
def B157 : Nat → List Instr := fun b => match b with
  | 0 => [.aload 0, .iload 1, .iload 2, .invokeinterface 38920 3, .ifCond .ne 1, .iconst (-1), .ireturn]
  | 1 => [.aload 0, .ifnonnull 27, .iload 1, .iload 2, .invokeinterface 40488 3, .istore 5, .aload 0, .ifnonnull 19, .iload 5, .iload 3, .i2l, .invokeinterface 40736 3, .ifCond .ne 2, .iconst (-2), .ireturn]
  | 2 => [.aload 0, .ifnonnull 19, .iload 5, .iload 3, .invokeinterface 41249 3, .l2i, .istore 6, .aload 0, .ifnonnull 19, .iload 5, .iload 3, .iload 4, .i2l, .invokeinterface 41508 4, .iload 6, .ireturn]
  | _ => []
/-- SchoolHouse$People.marksOf(II)I -/
def B158 : Nat → List Instr := fun b => match b with
  | 0 => [.aload 0, .iload 1, .i2l, .invokeinterface 35880 2, .ifCond .eq 1, .iload 2, .ifCond .lt 1, .iload 2, .iconst 8, .if_icmp .ge 1, .aload 0, .ifnonnull 4123, .iload 1, .iconst 8, .imul, .iload 2, .iadd, .iaload, .goto 2]
  | 1 => [.iconst (-1), .goto 2]
  | 2 => [.ireturn]
  | _ => []
/-- SchoolHouse$Rows.has(IJ)Z -/
def B159 : Nat → List Instr := fun b => match b with
  | 0 => [.lload 2, .bipush 0, .lcmp, .ifCond .lt 1, .lload 2, .aload 0, .iload 1, .invokeinterface 40992 2, .i2l, .lcmp, .ifCond .ge 1, .iconst 1, .goto 2]
  | 1 => [.iconst 0, .goto 2]
  | 2 => [.freturn]
  | _ => []
/-- SchoolHouse$Rows.size(I)I -/
def B160 : Nat → List Instr := fun b => match b with
  | 0 => [.iload 1, .ifCond .lt 1, .iload 1, .aload 0, .ifnull 3088, .if_icmp .ge 1, .aload 0, .ifnull 3075, .iload 1, .iconst 1, .iadd, .iaload, .aload 0, .ifnull 3075, .iload 1, .iaload, .isub, .goto 2]
  | 1 => [.iconst 0, .goto 2]
  | 2 => [.ireturn]
  | _ => []
/-- SchoolHouse$Rows.get(II)J -/
def B161 : Nat → List Instr := fun b => match b with
  | 0 => [.aload 0, .iload 1, .iload 2, .i2l, .invokeinterface 40736 3, .ifCond .eq 1, .aload 0, .ifnull 3083, .aload 0, .ifnull 3075, .iload 1, .iaload, .iload 2, .iadd, .laload, .goto 2]
  | 1 => [.bipush 0, .goto 2]
  | 2 => [.lreturn]
  | _ => []
/-- SchoolHouse$Rows.set(IIJ)V -/
def B162 : Nat → List Instr := fun b => match b with
  | 0 => [.aload 0, .iload 1, .iload 2, .i2l, .invokeinterface 40736 3, .ifCond .eq 1, .aload 0, .ifnull 3083, .aload 0, .ifnull 3075, .iload 1, .iaload, .iload 2, .iadd, .lload 3, .lastore, .goto 1]
  | 1 => [.return_]
  | _ => []
/-- SchoolHouse.markOf(III)I -/
def B163 : Nat → List Instr := fun b => match b with
  | 0 => [.aload 0, .iload 1, .iload 2, .invokeinterface 38920 3, .ifCond .ne 1, .iconst (-2000000000), .ireturn]
  | 1 => [.aload 0, .ifnonnull 27, .iload 1, .iload 2, .invokeinterface 40488 3, .istore 4, .iload 3, .iconst (-1), .if_icmp .ne 4, .iload 4, .ifCond .ge 2, .iconst (-2000000001), .goto 3]
  | 2 => [.aload 0, .ifnonnull 19, .iload 4, .invokeinterface 40992 2, .goto 3]
  | 3 => [.ireturn]
  | 4 => [.aload 0, .ifnonnull 19, .iload 4, .iload 3, .i2l, .invokeinterface 40736 3, .ifCond .eq 5, .aload 0, .ifnonnull 19, .iload 4, .iload 3, .invokeinterface 41249 3, .l2i, .goto 6]
  | 5 => [.iconst (-2000000001), .goto 6]
  | 6 => [.ireturn]
  | _ => []
/-- SchoolHouse.run(IIIIII)I -/
def B164 : Nat → List Instr := fun b => match b with
  | 0 => [.aload 0, .ifnull 67, .iconst 6, .iload 1, .invokeinterface 17752 3, .ifCond .eq 1, .iload 2, .invokeinterface 42240 1, .ifCond .ne 2, .goto 1]
  | 1 => [.iconst (-1), .ireturn]
  | 2 => [.aload 0, .ifnonnull 35, .iload 1, .iload 2, .iload 3, .iload 4, .iload 5, .iload 6, .invokeinterface 42544 7, .istore 7, .aload 0, .iload 7, .ifCond .ge 3, .iconst 0, .goto 4]
  | 3 => [.iload 7, .goto 4]
  | 4 => [.jsr_w 80, .aload 0, .aload 0, .ifnonnull 35, .invokeinterface 59697 1, .jsr_w 89, .aload 0, .aload 0, .ifnonnull 35, .invokeinterface 59952 1, .jsr_w 96, .iload 7, .ireturn]
  | _ => []
/-- SchoolHouse.isSteps(I)Z -/
def B165 : Nat → List Instr := fun b => match b with
  | 0 => [.iload 0, .iconst 1, .if_icmp .lt 1, .iload 0, .iconst 3000, .if_icmp .gt 1, .iconst 1, .goto 2]
  | 1 => [.iconst 0, .goto 2]
  | 2 => [.freturn]
  | _ => []
/-- SchoolHouse$Machine.begin(IIIIII)I -/
def B166 : Nat → List Instr := fun b => match b with
  | 0 => [.aload 0, .iconst 0, .jsr_w 5256, .aload 0, .iload 2, .jsr_w 5248, .aload 0, .bipush 0, .jsr_w 5281, .aload 0, .ifnull 5240, .iconst 10000, .if_icmp .lt 1, .iconst (-23), .ireturn]
  | 1 => [.aload 0, .iconst 100, .jsr_w 5272, .aload 0, .iconst 0, .jsr_w 5264, .aload 0, .iconst 0, .jsr_w 5184, .aload 0, .iconst (-1), .jsr_w 5160, .aload 0, .ifnonnull 5139, .iconst 0, .invokeinterface 42812 2, .aload 0, .ifnull 5147, .iconst 6, .iload 1, .invokeinterface 17752 3, .ifCond .eq 2, .aload 0, .ifnull 5147, .ifnonnull 10347, .iload 1, .iaload, .goto 3]
  | 2 => [.iconst 0, .goto 3]
  | 3 => [.istore 7, .iconst 0, .istore 8, .goto 4]
  | 4 => [.iload 8, .iload 7, .if_icmp .ge 9, .aload 0, .ifnonnull 5139, .iconst 1, .iload 8, .ifCond .ne 5, .iload 3, .i2l, .goto 8]
  | 5 => [.iload 8, .iconst 1, .if_icmp .ne 6, .iload 4, .i2l, .goto 8]
  | 6 => [.iload 8, .iconst 2, .if_icmp .ne 7, .iload 5, .i2l, .goto 8]
  | 7 => [.iload 6, .i2l, .goto 8]
  | 8 => [.invokeinterface 43068 3, .iinc 8 1, .goto 4]
  | 9 => [.aload 0, .iload 1, .iload 7, .invokeinterface 43316 3, .iconst 0, .istore 8, .goto 10]
  | 10 => [.iload 8, .iconst 4000000, .if_icmp .ge 13, .aload 0, .ifnull 5272, .iconst 100, .if_icmp .ne 13, .aload 0, .ifnull 5264, .ifCond .ne 11, .aload 0, .aload 0, .invokeinterface 44080 1, .invokeinterface 44340 2, .goto 12]
  | 11 => [.aload 0, .invokeinterface 59188 1, .goto 12]
  | 12 => [.iinc 8 1, .goto 10]
  | 13 => [.aload 0, .ifnull 5272, .iconst 100, .if_icmp .ne 14, .aload 0, .iconst (-20), .bipush 0, .invokeinterface 44852 3, .goto 14]
  | 14 => [.aload 0, .ifnull 5272, .ireturn]
  | _ => []
/-- SchoolHouse$Values.cutTo(I)V -/
def B167 : Nat → List Instr := fun b => match b with
  | 0 => [.iload 1, .ifCond .lt 1, .iload 1, .aload 0, .ifnull 6160, .if_icmp .ge 1, .aload 0, .iload 1, .jsr_w 6160, .goto 1]
  | 1 => [.return_]
  | _ => []
/-- SchoolHouse$Values.push(IJ)V -/
def B168 : Nat → List Instr := fun b => match b with
  | 0 => [.aload 0, .ifnull 6160, .aload 0, .ifnull 6147, .arraylength, .if_icmp .lt 1, .return_]
  | 1 => [.aload 0, .ifnull 6147, .aload 0, .ifnull 6160, .iload 1, .iastore, .aload 0, .ifnull 6155, .aload 0, .ifnull 6160, .lload 2, .lastore, .aload 0, .dup, .ifnull 6160, .iconst 1, .iadd, .jsr_w 6160, .return_]
  | _ => []
/-- SchoolHouse$Machine.enter(II)V -/
def B169 : Nat → List Instr := fun b => match b with
  | 0 => [.aload 0, .ifnull 5147, .iconst 6, .iload 1, .invokeinterface 17752 3, .ifCond .eq 1, .aload 0, .ifnull 5160, .iconst 1, .iadd, .iconst 8, .if_icmp .lt 2, .goto 1]
  | 1 => [.return_]
  | 2 => [.aload 0, .dup, .ifnull 5160, .iconst 1, .iadd, .jsr_w 5160, .aload 0, .ifnonnull 5171, .aload 0, .ifnull 5160, .aload 0, .ifnonnull 5139, .invokeinterface 43576 1, .iload 2, .isub, .iastore, .aload 0, .ifnonnull 5179, .aload 0, .ifnull 5160, .aload 0, .ifnull 5152, .iastore, .aload 0, .aload 0, .ifnull 5147, .ifnonnull 10339, .iload 1, .iaload, .jsr_w 5152, .aload 0, .ifnull 5147, .ifnonnull 10355, .iload 1, .iaload, .iload 2, .isub, .istore 3, .aload 0, .ifnonnull 5139, .iload 3, .iconst 64, .iadd, .invokeinterface 43836 2, .iconst 0, .istore 4, .goto 3]
  | 3 => [.iload 4, .iload 3, .if_icmp .ge 4, .aload 0, .ifnonnull 5139, .iconst 0, .bipush 0, .invokeinterface 43068 3, .iinc 4 1, .goto 3]
  | 4 => [.return_]
  | _ => []
/-- SchoolHouse$Values.height()I -/
def B170 : Nat → List Instr := fun b => match b with
  | 0 => [.aload 0, .ifnull 6160, .ireturn]
  | _ => []
/-- SchoolHouse$Values.roomFor(I)V -/
def B171 : Nat → List Instr := fun b => match b with
  | 0 => [.iload 1, .ifCond .lt 1, .aload 0, .ifnull 6160, .iload 1, .iadd, .aload 0, .ifnull 6147, .arraylength, .if_icmp .gt 2, .goto 1]
  | 1 => [.return_]
  | 2 => [.aload 0, .ifnull 6160, .iload 1, .iadd, .aload 0, .ifnull 6147, .arraylength, .iconst 2, .imul, .dup_x1, .istore 2, .aload 0, .aload 0, .ifnull 6147, .iload 2, .invokeinterface 39427 2, .jsr_w 6147, .aload 0, .aload 0, .ifnull 6155, .iload 2, .invokeinterface 39683 2, .jsr_w 6155, .return_]
  | _ => []
/-- SchoolHouse$Machine.operand()I -/
def B172 : Nat → List Instr := fun b => match b with
  | 0 => [.aload 0, .ifnull 5147, .aload 0, .ifnull 5152, .invokeinterface 32088 2, .istore 1, .aload 0, .dup, .ifnull 5152, .iconst 1, .iadd, .jsr_w 5152, .iload 1, .ireturn]
  | _ => []
/-- SchoolHouse$Machine.perform(I)V -/
def B173 : Nat → List Instr := fun b => match b with
  | 0 => [.iload 1, .tableswitch 33 1 31 #[1, 2, 3, 4, 5, 6, 7, 8, 9, 10, 11, 12, 13, 14, 15, 16, 17, 18, 19, 20, 21, 33, 22, 23, 24, 25, 26, 27, 30, 31, 32]]
  | 1 => [.aload 0, .invokeinterface 44592 1, .pop, .goto 34]
  | 2 => [.aload 0, .ifnonnull 5139, .iconst 0, .bipush 0, .invokeinterface 43068 3, .goto 34]
  | 3 => [.aload 0, .ifnonnull 5139, .iconst 1, .aload 0, .invokeinterface 44080 1, .i2l, .invokeinterface 43068 3, .goto 34]
  | 4 => [.aload 0, .invokeinterface 45108 1, .goto 34]
  | 5 => [.aload 0, .aload 0, .invokeinterface 44080 1, .invokeinterface 45364 2, .goto 34]
  | 6 => [.aload 0, .aload 0, .invokeinterface 44080 1, .invokeinterface 46388 2, .goto 34]
  | 7 => [.aload 0, .aload 0, .aload 0, .invokeinterface 44080 1, .invokeinterface 45616 2, .invokeinterface 47412 2, .goto 34]
  | 8 => [.aload 0, .aload 0, .invokeinterface 44080 1, .invokeinterface 49972 2, .goto 34]
  | 9 => [.aload 0, .aload 0, .invokeinterface 44080 1, .invokeinterface 52788 2, .goto 34]
  | 10 => [.aload 0, .invokeinterface 53812 1, .goto 34]
  | 11 => [.aload 0, .invokeinterface 54068 1, .goto 34]
  | 12 => [.aload 0, .aload 0, .invokeinterface 44080 1, .invokeinterface 54324 2, .goto 34]
  | 13 => [.aload 0, .invokeinterface 54580 1, .goto 34]
  | 14 => [.aload 0, .aload 0, .ifnonnull 5139, .iconst 0, .invokeinterface 46648 2, .aload 0, .ifnonnull 5139, .iconst 0, .invokeinterface 46905 2, .invokeinterface 54836 3, .goto 34]
  | 15 => [.aload 0, .aload 0, .invokeinterface 44080 1, .jsr_w 5152, .goto 34]
  | 16 => [.aload 0, .aload 0, .invokeinterface 44080 1, .invokeinterface 55348 2, .goto 34]
  | 17 => [.aload 0, .invokeinterface 55604 1, .goto 34]
  | 18 => [.aload 0, .invokeinterface 55860 1, .goto 34]
  | 19 => [.aload 0, .aload 0, .invokeinterface 44080 1, .invokeinterface 48180 2, .goto 34]
  | 20 => [.aload 0, .invokeinterface 56116 1, .goto 34]
  | 21 => [.aload 0, .aload 0, .invokeinterface 44080 1, .invokeinterface 56628 2, .goto 34]
  | 22 => [.aload 0, .invokeinterface 56884 1, .goto 34]
  | 23 => [.aload 0, .invokeinterface 57140 1, .goto 34]
  | 24 => [.aload 0, .invokeinterface 57396 1, .goto 34]
  | 25 => [.aload 0, .invokeinterface 57652 1, .goto 34]
  | 26 => [.aload 0, .invokeinterface 58164 1, .goto 34]
  | 27 => [.aload 0, .ifnonnull 5139, .iconst 1, .iconst 1, .aload 0, .ifnonnull 5139, .iconst 0, .invokeinterface 46648 2, .ifCond .ne 28, .bipush 1, .goto 29]
  | 28 => [.bipush 0, .goto 29]
  | 29 => [.invokeinterface 51260 4, .goto 34]
  | 30 => [.aload 0, .invokeinterface 58420 1, .goto 34]
  | 31 => [.aload 0, .invokeinterface 58676 1, .goto 34]
  | 32 => [.aload 0, .invokeinterface 58932 1, .goto 34]
  | 33 => [.aload 0, .iconst 0, .bipush 0, .invokeinterface 54836 3, .goto 34]
  | 34 => [.return_]
  | _ => []
/-- SchoolHouse$Machine.step()Z -/
def B174 : Nat → List Instr := fun b => match b with
  | 0 => [.aload 0, .ifnull 5256, .aload 0, .ifnull 5248, .if_icmp .lt 1, .aload 0, .iconst (-20), .bipush 0, .invokeinterface 44852 3, .iconst 0, .freturn]
  | 1 => [.aload 0, .dup, .ifnull 5256, .iconst 1, .iadd, .jsr_w 5256, .iconst 1, .freturn]
  | _ => []
/-- SchoolHouse$Machine.end(IJ)V -/
def B175 : Nat → List Instr := fun b => match b with
  | 0 => [.aload 0, .iload 1, .jsr_w 5272, .aload 0, .lload 2, .jsr_w 5281, .return_]
  | _ => []
/-- SchoolHouse$Machine.pushReal()V -/
def B176 : Nat → List Instr := fun b => match b with
  | 0 => [.aload 0, .invokeinterface 44080 1, .i2l, .lstore 1, .aload 0, .ifnonnull 5139, .iconst 2, .lload 1, .iconst 32, .lshl, .aload 0, .invokeinterface 44080 1, .i2l, .bipush 4294967295, .land, .lor, .invokeinterface 43068 3, .return_]
  | _ => []
/-- SchoolHouse$Machine.get(I)V -/
def B177 : Nat → List Instr := fun b => match b with
  | 0 => [.aload 0, .iload 1, .invokeinterface 45616 2, .istore 2, .aload 0, .ifnonnull 5139, .aload 0, .ifnonnull 5139, .iload 2, .invokeinterface 45880 2, .aload 0, .ifnonnull 5139, .iload 2, .invokeinterface 46137 2, .invokeinterface 43068 3, .return_]
  | _ => []
/-- SchoolHouse$Machine.variable(I)I -/
def B178 : Nat → List Instr := fun b => match b with
  | 0 => [.aload 0, .ifnull 5160, .ifCond .lt 1, .aload 0, .ifnull 5160, .iconst 8, .if_icmp .ge 1, .aload 0, .ifnonnull 5171, .aload 0, .ifnull 5160, .iaload, .iload 1, .iadd, .goto 2]
  | 1 => [.iconst (-1), .goto 2]
  | 2 => [.ireturn]
  | _ => []
/-- SchoolHouse$Values.kindAt(I)I -/
def B179 : Nat → List Instr := fun b => match b with
  | 0 => [.iload 1, .ifCond .lt 1, .iload 1, .aload 0, .ifnull 6160, .if_icmp .ge 1, .aload 0, .ifnull 6147, .iload 1, .iaload, .goto 2]
  | 1 => [.iconst 0, .goto 2]
  | 2 => [.ireturn]
  | _ => []
/-- SchoolHouse$Values.bitsAt(I)J -/
def B180 : Nat → List Instr := fun b => match b with
  | 0 => [.iload 1, .ifCond .lt 1, .iload 1, .aload 0, .ifnull 6160, .if_icmp .ge 1, .aload 0, .ifnull 6155, .iload 1, .laload, .goto 2]
  | 1 => [.bipush 0, .goto 2]
  | 2 => [.lreturn]
  | _ => []
/-- SchoolHouse$Machine.set(I)V -/
def B181 : Nat → List Instr := fun b => match b with
  | 0 => [.aload 0, .ifnonnull 5139, .aload 0, .iload 1, .invokeinterface 45616 2, .aload 0, .ifnonnull 5139, .iconst 0, .invokeinterface 46648 2, .aload 0, .ifnonnull 5139, .iconst 0, .invokeinterface 46905 2, .invokeinterface 47164 4, .aload 0, .ifnonnull 5139, .aload 0, .ifnonnull 5139, .invokeinterface 43576 1, .iconst 1, .isub, .invokeinterface 42812 2, .return_]
  | _ => []
/-- SchoolHouse$Values.kind(I)I -/
def B182 : Nat → List Instr := fun b => match b with
  | 0 => [.aload 0, .aload 0, .ifnull 6160, .iconst 1, .isub, .iload 1, .isub, .invokeinterface 45880 2, .ireturn]
  | _ => []
/-- SchoolHouse$Values.bits(I)J -/
def B183 : Nat → List Instr := fun b => match b with
  | 0 => [.aload 0, .aload 0, .ifnull 6160, .iconst 1, .isub, .iload 1, .isub, .invokeinterface 46137 2, .lreturn]
  | _ => []
/-- SchoolHouse$Values.setAt(IIJ)V -/
def B184 : Nat → List Instr := fun b => match b with
  | 0 => [.iload 1, .ifCond .lt 1, .iload 1, .aload 0, .ifnull 6160, .if_icmp .lt 2, .goto 1]
  | 1 => [.return_]
  | 2 => [.aload 0, .ifnull 6147, .iload 1, .iload 2, .iastore, .aload 0, .ifnull 6155, .iload 1, .lload 3, .lastore, .return_]
  | _ => []
/-- SchoolHouse$Machine.setItem(I)V -/
def B185 : Nat → List Instr := fun b => match b with
  | 0 => [.aload 0, .ifnonnull 5139, .iload 1, .invokeinterface 45880 2, .istore 2, .aload 0, .ifnonnull 5139, .iload 1, .invokeinterface 46137 2, .l2i, .istore 3, .aload 0, .aload 0, .iconst 1, .invokeinterface 47664 2, .invokeinterface 47920 2, .ifCond .ne 1, .aload 0, .iload 2, .invokeinterface 48384 1, .invokeinterface 47920 2, .ifCond .eq 2, .goto 1]
  | 1 => [.return_]
  | 2 => [.iload 2, .iconst 4, .isub, .istore 4, .iload 4, .ifCond .ne 3, .aload 0, .aload 0, .iconst 0, .invokeinterface 47664 2, .invokeinterface 47920 2, .ifCond .ne 4, .goto 3]
  | 3 => [.iload 4, .iconst 1, .if_icmp .ne 5, .aload 0, .aload 0, .iconst 0, .invokeinterface 48688 2, .invokeinterface 47920 2, .ifCond .eq 5, .goto 4]
  | 4 => [.return_]
  | 5 => [.aload 0, .aload 0, .iload 3, .i2l, .aload 0, .ifnonnull 5139, .iconst 1, .invokeinterface 46905 2, .invokeinterface 48944 3, .invokeinterface 47920 2, .ifCond .ne 6, .iload 4, .iconst 2, .if_icmp .lt 7, .aload 0, .aload 0, .iload 4, .invokeinterface 49200 2, .invokeinterface 47920 2, .ifCond .eq 7, .goto 6]
  | 6 => [.return_]
  | 7 => [.iload 4, .iconst 1, .if_icmp .ne 8, .aload 0, .iconst 0, .invokeinterface 49713 2, .goto 10]
  | 8 => [.aload 0, .ifnonnull 5139, .iconst 0, .invokeinterface 46648 2, .ifCond .ne 9, .bipush (-9), .goto 10]
  | 9 => [.aload 0, .ifnonnull 5139, .iconst 0, .invokeinterface 46905 2, .goto 10]
  | 10 => [.lstore 5, .aload 0, .ifnonnull 5131, .iload 3, .aload 0, .ifnonnull 5139, .iconst 1, .invokeinterface 46905 2, .l2i, .lload 5, .invokeinterface 41508 4, .aload 0, .ifnonnull 5139, .aload 0, .ifnonnull 5139, .invokeinterface 43576 1, .iconst 2, .isub, .invokeinterface 42812 2, .return_]
  | _ => []
/-- SchoolHouse$Machine.lackOfWhole(I)I -/
def B186 : Nat → List Instr := fun b => match b with
  | 0 => [.aload 0, .ifnonnull 5139, .iload 1, .invokeinterface 46648 2, .istore 2, .iload 2, .ifCond .ne 1, .iconst 3, .goto 3]
  | 1 => [.iload 2, .iconst 1, .if_icmp .eq 2, .iconst 4, .goto 3]
  | 2 => [.iconst 0, .goto 3]
  | 3 => [.ireturn]
  | _ => []
/-- SchoolHouse$Machine.fails(I)Z -/
def B187 : Nat → List Instr := fun b => match b with
  | 0 => [.iload 1, .ifCond .ne 1, .iconst 0, .freturn]
  | 1 => [.aload 0, .iload 1, .invokeinterface 48180 2, .iconst 1, .freturn]
  | _ => []
/-- SchoolHouse$Machine.fail(I)V -/
def B188 : Nat → List Instr := fun b => match b with
  | 0 => [.aload 0, .ifnull 5240, .iconst 10000, .if_icmp .lt 1, .aload 0, .iconst (-23), .bipush 0, .invokeinterface 44852 3, .return_]
  | 1 => [.aload 0, .dup, .ifnull 5240, .iconst 1, .iadd, .jsr_w 5240, .aload 0, .iload 1, .jsr_w 5264, .return_]
  | _ => []
/-- SchoolHouse$Machine.lackOfRow(I)I -/
def B189 : Nat → List Instr := fun b => match b with
  | 0 => [.iload 0, .ifCond .ne 1, .iconst 3, .goto 3]
  | 1 => [.iload 0, .iconst 4, .if_icmp .ge 2, .iconst 4, .goto 3]
  | 2 => [.iconst 0, .goto 3]
  | 3 => [.ireturn]
  | _ => []
/-- SchoolHouse$Machine.lackOfNumber(I)I -/
def B190 : Nat → List Instr := fun b => match b with
  | 0 => [.aload 0, .ifnonnull 5139, .iload 1, .invokeinterface 46648 2, .istore 2, .iload 2, .ifCond .ne 1, .iconst 3, .goto 3]
  | 1 => [.iload 2, .iconst 1, .if_icmp .eq 2, .iload 2, .iconst 2, .if_icmp .eq 2, .iconst 4, .goto 3]
  | 2 => [.iconst 0, .goto 3]
  | 3 => [.ireturn]
  | _ => []
/-- SchoolHouse$Machine.lackOfItem(JJ)I -/
def B191 : Nat → List Instr := fun b => match b with
  | 0 => [.aload 0, .ifnonnull 5131, .lload 1, .l2i, .lload 3, .invokeinterface 40736 3, .ifCond .eq 1, .iconst 0, .goto 2]
  | 1 => [.iconst 2, .goto 2]
  | 2 => [.ireturn]
  | _ => []
/-- SchoolHouse$Machine.lackOfPerson(I)I -/
def B192 : Nat → List Instr := fun b => match b with
  | 0 => [.aload 0, .ifnonnull 5139, .iconst 0, .invokeinterface 46648 2, .istore 2, .iload 2, .ifCond .ne 1, .iconst 0, .ireturn]
  | 1 => [.iload 2, .iconst 3, .if_icmp .eq 2, .iconst 4, .ireturn]
  | 2 => [.iload 1, .iconst 3, .if_icmp .ne 3, .aload 0, .ifnonnull 5123, .aload 0, .ifnonnull 5139, .iconst 0, .invokeinterface 46905 2, .l2i, .invokeinterface 49448 2, .ifCond .ne 3, .iconst 6, .goto 4]
  | 3 => [.iconst 0, .goto 4]
  | 4 => [.ireturn]
  | _ => []
/-- SchoolHouse$People.isTeacher(I)Z -/
def B193 : Nat → List Instr := fun b => match b with
  | 0 => [.aload 0, .iload 1, .invokeinterface 35624 2, .iconst 2, .if_icmp .lt 1, .iconst 1, .goto 2]
  | 1 => [.iconst 0, .goto 2]
  | 2 => [.freturn]
  | _ => []
/-- SchoolHouse$Machine.real(I)J -/
def B194 : Nat → List Instr := fun b => match b with
  | 0 => [.aload 0, .ifnonnull 5139, .iload 1, .invokeinterface 46648 2, .iconst 2, .if_icmp .ne 1, .aload 0, .ifnonnull 5139, .iload 1, .invokeinterface 46905 2, .goto 2]
  | 1 => [.aload 0, .ifnonnull 5139, .iload 1, .invokeinterface 46905 2, .invokeinterface 24833 1, .goto 2]
  | 2 => [.lreturn]
  | _ => []
/-- SchoolHouse$Machine.work(I)V -/
def B195 : Nat → List Instr := fun b => match b with
  | 0 => [.aload 0, .invokeinterface 50224 1, .ifCond .eq 1, .return_]
  | 1 => [.aload 0, .invokeinterface 50480 1, .ifCond .ne 2, .aload 0, .iload 1, .aload 0, .ifnonnull 5139, .iconst 1, .invokeinterface 46905 2, .aload 0, .ifnonnull 5139, .iconst 0, .invokeinterface 46905 2, .invokeinterface 50740 4, .return_]
  | 2 => [.aload 0, .iconst 1, .invokeinterface 49713 2, .lstore 2, .aload 0, .iconst 0, .invokeinterface 49713 2, .lstore 4, .iload 1, .ifCond .ne 3, .lload 2, .lload 4, .invokeinterface 51457 2, .lstore 6, .goto 8]
  | 3 => [.iload 1, .iconst 1, .if_icmp .ne 4, .lload 2, .lload 4, .invokeinterface 51969 1, .invokeinterface 51457 2, .lstore 6, .goto 8]
  | 4 => [.iload 1, .iconst 2, .if_icmp .ne 5, .lload 2, .lload 4, .invokeinterface 52225 2, .lstore 6, .goto 8]
  | 5 => [.iload 1, .iconst 3, .if_icmp .ne 6, .lload 2, .lload 4, .invokeinterface 25601 2, .goto 7]
  | 6 => [.lload 2, .lload 4, .invokeinterface 52481 2, .goto 7]
  | 7 => [.lstore 6, .goto 8]
  | 8 => [.aload 0, .ifnonnull 5139, .iconst 2, .iconst 2, .lload 6, .invokeinterface 51260 4, .return_]
  | _ => []
/-- SchoolHouse$Machine.failsAsNumbers()Z -/
def B196 : Nat → List Instr := fun b => match b with
  | 0 => [.aload 0, .aload 0, .iconst 1, .invokeinterface 48688 2, .invokeinterface 47920 2, .ifCond .ne 1, .aload 0, .aload 0, .iconst 0, .invokeinterface 48688 2, .invokeinterface 47920 2, .ifCond .eq 2, .goto 1]
  | 1 => [.iconst 1, .goto 3]
  | 2 => [.iconst 0, .goto 3]
  | 3 => [.freturn]
  | _ => []
/-- SchoolHouse$Machine.isRealWork()Z -/
def B197 : Nat → List Instr := fun b => match b with
  | 0 => [.aload 0, .ifnonnull 5139, .iconst 1, .invokeinterface 46648 2, .iconst 2, .if_icmp .eq 1, .aload 0, .ifnonnull 5139, .iconst 0, .invokeinterface 46648 2, .iconst 2, .if_icmp .ne 2, .goto 1]
  | 1 => [.iconst 1, .goto 3]
  | 2 => [.iconst 0, .goto 3]
  | 3 => [.freturn]
  | _ => []
/-- SchoolHouse$Machine.workWholes(IJJ)V -/
def B198 : Nat → List Instr := fun b => match b with
  | 0 => [.lload 4, .bipush 0, .lcmp, .ifCond .ne 2, .iload 1, .iconst 3, .if_icmp .eq 1, .iload 1, .iconst 4, .if_icmp .ne 2, .goto 1]
  | 1 => [.aload 0, .iconst 1, .invokeinterface 48180 2, .return_]
  | 2 => [.iload 1, .ifCond .ne 3, .lload 2, .lload 4, .ladd, .lstore 6, .goto 9]
  | 3 => [.iload 1, .iconst 1, .if_icmp .ne 4, .lload 2, .lload 4, .lsub, .lstore 6, .goto 9]
  | 4 => [.iload 1, .iconst 2, .if_icmp .ne 5, .lload 2, .lload 4, .lmul, .lstore 6, .goto 9]
  | 5 => [.lload 4, .bipush 0, .lcmp, .ifCond .ne 6, .bipush 0, .lstore 6, .goto 9]
  | 6 => [.iload 1, .iconst 3, .if_icmp .ne 7, .lload 2, .lload 4, .ldiv, .l2i, .i2l, .goto 8]
  | 7 => [.lload 2, .lload 4, .lrem, .goto 8]
  | 8 => [.lstore 6, .goto 9]
  | 9 => [.aload 0, .iconst 2, .lload 6, .invokeinterface 50996 3, .return_]
  | _ => []
/-- SchoolHouse$Machine.replaceExactly(IJ)V -/
def B199 : Nat → List Instr := fun b => match b with
  | 0 => [.lload 2, .lload 2, .l2i, .i2l, .lcmp, .ifCond .eq 1, .aload 0, .iconst 7, .invokeinterface 48180 2, .goto 2]
  | 1 => [.aload 0, .ifnonnull 5139, .iload 1, .iconst 1, .lload 2, .invokeinterface 51260 4, .goto 2]
  | 2 => [.return_]
  | _ => []
/-- SchoolHouse$Values.replace(IIJ)V -/
def B200 : Nat → List Instr := fun b => match b with
  | 0 => [.aload 0, .aload 0, .ifnull 6160, .iload 1, .isub, .invokeinterface 42812 2, .aload 0, .iload 2, .lload 3, .invokeinterface 43068 3, .return_]
  | _ => []
/-- SchoolHouse$Reals.plus(JJ)J -/
def B201 : Nat → List Instr := fun b => match b with
  | 0 => [.lload 0, .invokeinterface 25856 1, .ifCond .ne 1, .lload 2, .invokeinterface 25856 1, .ifCond .eq 2, .goto 1]
  | 1 => [.bipush 9221120237041090560, .lreturn]
  | 2 => [.lload 0, .invokeinterface 26112 1, .ifCond .eq 5, .lload 2, .invokeinterface 26112 1, .ifCond .eq 3, .lload 0, .lload 2, .lcmp, .ifCond .eq 3, .bipush 9221120237041090560, .goto 4]
  | 3 => [.lload 0, .goto 4]
  | 4 => [.lreturn]
  | 5 => [.lload 2, .invokeinterface 26112 1, .ifCond .eq 6, .lload 2, .lreturn]
  | 6 => [.lload 0, .invokeinterface 27136 1, .lload 2, .invokeinterface 27136 1, .dup_x1, .istore 4, .lload 0, .invokeinterface 26625 1, .iconst 8, .lshl, .iload 4, .lload 0, .invokeinterface 27136 1, .isub, .invokeinterface 51713 2, .lstore 5, .lload 2, .invokeinterface 26625 1, .iconst 8, .lshl, .iload 4, .lload 2, .invokeinterface 27136 1, .isub, .invokeinterface 51713 2, .lstore 7, .lload 0, .bipush 0, .lcmp, .ifCond .ge 7, .lload 5, .lneg, .goto 8]
  | 7 => [.lload 5, .goto 8]
  | 8 => [.lload 2, .bipush 0, .lcmp, .ifCond .ge 9, .lload 7, .lneg, .goto 10]
  | 9 => [.lload 7, .goto 10]
  | 10 => [.ladd, .lstore 9, .lload 9, .bipush 0, .lcmp, .ifCond .ne 11, .lload 0, .lload 2, .land, .bipush (-9223372036854775808), .land, .lreturn]
  | 11 => [.lload 9, .bipush (-9223372036854775808), .land, .lload 9, .swap, .iload 4, .iconst 8, .isub, .invokeinterface 25089 3, .lreturn]
  | _ => []
/-- SchoolHouse$Reals.jammed(JI)J -/
def B202 : Nat → List Instr := fun b => match b with
  | 0 => [.iload 2, .ifCond .gt 1, .lload 0, .lreturn]
  | 1 => [.iload 2, .iconst 62, .if_icmp .le 4, .lload 0, .bipush 0, .lcmp, .ifCond .ne 2, .bipush 0, .goto 3]
  | 2 => [.bipush 1, .goto 3]
  | 3 => [.lreturn]
  | 4 => [.lload 0, .iload 2, .lushr, .lload 0, .bipush 1, .iload 2, .lshl, .bipush 1, .lsub, .land, .bipush 0, .lcmp, .ifCond .ne 5, .iconst 0, .goto 6]
  | 5 => [.iconst 1, .goto 6]
  | 6 => [.i2l, .lor, .lreturn]
  | _ => []
/-- SchoolHouse$Reals.negated(J)J -/
def B203 : Nat → List Instr := fun b => match b with
  | 0 => [.lload 0, .invokeinterface 25856 1, .ifCond .eq 1, .bipush 9221120237041090560, .goto 2]
  | 1 => [.lload 0, .bipush (-9223372036854775808), .lxor, .goto 2]
  | 2 => [.lreturn]
  | _ => []
/-- SchoolHouse$Reals.times(JJ)J -/
def B204 : Nat → List Instr := fun b => match b with
  | 0 => [.lload 0, .invokeinterface 25856 1, .ifCond .ne 1, .lload 2, .invokeinterface 25856 1, .ifCond .eq 2, .goto 1]
  | 1 => [.bipush 9221120237041090560, .lreturn]
  | 2 => [.lload 0, .lload 2, .lxor, .bipush (-9223372036854775808), .land, .lstore 4, .lload 0, .invokeinterface 26112 1, .ifCond .ne 3, .lload 2, .invokeinterface 26112 1, .ifCond .eq 7, .goto 3]
  | 3 => [.lload 0, .invokeinterface 26368 1, .ifCond .ne 4, .lload 2, .invokeinterface 26368 1, .ifCond .eq 5, .goto 4]
  | 4 => [.bipush 9221120237041090560, .goto 6]
  | 5 => [.lload 4, .bipush 9218868437227405312, .lor, .goto 6]
  | 6 => [.lreturn]
  | 7 => [.lload 0, .invokeinterface 26368 1, .ifCond .ne 8, .lload 2, .invokeinterface 26368 1, .ifCond .eq 9, .goto 8]
  | 8 => [.lload 4, .lreturn]
  | 9 => [.lload 0, .invokeinterface 26625 1, .lload 0, .invokeinterface 26880 1, .lshl, .lstore 6, .lload 2, .invokeinterface 26625 1, .lload 2, .invokeinterface 26880 1, .lshl, .lstore 8, .lload 6, .bipush 134217727, .land, .lload 8, .bipush 134217727, .land, .lmul, .lstore 10, .lload 6, .iconst 27, .lshr, .lload 8, .bipush 134217727, .land, .lmul, .lload 6, .bipush 134217727, .land, .lload 8, .iconst 27, .lshr, .lmul, .ladd, .lload 10, .iconst 27, .lshr, .ladd, .lstore 12, .lload 6, .iconst 27, .lshr, .lload 8, .iconst 27, .lshr, .lmul, .iconst 10, .lshl, .lload 12, .iconst 17, .lshr, .ladd, .lstore 14, .lload 12, .bipush 131071, .land, .bipush 0, .lcmp, .ifCond .ne 10, .lload 10, .bipush 134217727, .land, .bipush 0, .lcmp, .ifCond .eq 11, .goto 10]
  | 10 => [.iconst 1, .goto 12]
  | 11 => [.iconst 0, .goto 12]
  | 12 => [.istore 16, .lload 4, .lload 14, .iload 16, .ifCond .eq 13, .iconst 1, .goto 14]
  | 13 => [.iconst 0, .goto 14]
  | 14 => [.i2l, .lor, .lload 0, .invokeinterface 27136 1, .lload 0, .invokeinterface 26880 1, .isub, .lload 2, .invokeinterface 27136 1, .iadd, .lload 2, .invokeinterface 26880 1, .isub, .iconst 44, .iadd, .invokeinterface 25089 3, .lreturn]
  | _ => []
/-- SchoolHouse$Reals.rest(JJ)J -/
def B205 : Nat → List Instr := fun b => match b with
  | 0 => [.lload 0, .invokeinterface 25856 1, .ifCond .ne 1, .lload 2, .invokeinterface 25856 1, .ifCond .ne 1, .lload 0, .invokeinterface 26112 1, .ifCond .ne 1, .lload 2, .invokeinterface 26368 1, .ifCond .eq 2, .goto 1]
  | 1 => [.bipush 9221120237041090560, .lreturn]
  | 2 => [.lload 2, .invokeinterface 26112 1, .ifCond .ne 3, .lload 0, .invokeinterface 26368 1, .ifCond .eq 4, .goto 3]
  | 3 => [.lload 0, .lreturn]
  | 4 => [.lload 0, .invokeinterface 27136 1, .lload 0, .invokeinterface 26880 1, .isub, .lload 2, .invokeinterface 27136 1, .isub, .lload 2, .invokeinterface 26880 1, .iadd, .istore 4, .lload 2, .invokeinterface 26625 1, .lload 2, .invokeinterface 26880 1, .lshl, .lstore 5, .lload 0, .invokeinterface 26625 1, .lload 0, .invokeinterface 26880 1, .lshl, .lstore 7, .iload 4, .ifCond .lt 5, .lload 5, .bipush 0, .lcmp, .ifCond .gt 6, .goto 5]
  | 5 => [.lload 0, .lreturn]
  | 6 => [.lload 7, .lload 5, .lrem, .lstore 7, .iload 4, .istore 9, .goto 7]
  | 7 => [.iload 9, .ifCond .le 8, .lload 7, .iload 9, .iconst 10, .dup_x2, .lshl, .lload 5, .lrem, .lstore 7, .iinc 9 (-10), .goto 7]
  | 8 => [.lload 0, .bipush (-9223372036854775808), .land, .lload 7, .lload 2, .invokeinterface 27136 1, .lload 2, .invokeinterface 26880 1, .isub, .invokeinterface 25089 3, .lreturn]
  | _ => []
/-- SchoolHouse$Machine.compare(I)V -/
def B206 : Nat → List Instr := fun b => match b with
  | 0 => [.aload 0, .invokeinterface 50224 1, .ifCond .eq 1, .return_]
  | 1 => [.aload 0, .ifnonnull 5139, .iconst 1, .invokeinterface 46905 2, .lstore 2, .aload 0, .ifnonnull 5139, .iconst 0, .invokeinterface 46905 2, .lstore 4, .aload 0, .invokeinterface 50480 1, .ifCond .eq 5, .iload 1, .ifCond .ne 2, .aload 0, .iconst 1, .invokeinterface 49713 2, .aload 0, .iconst 0, .invokeinterface 49713 2, .invokeinterface 52992 2, .goto 4]
  | 2 => [.iload 1, .iconst 1, .if_icmp .ne 3, .aload 0, .iconst 0, .invokeinterface 49713 2, .aload 0, .iconst 1, .invokeinterface 49713 2, .invokeinterface 52992 2, .goto 4]
  | 3 => [.aload 0, .iconst 1, .invokeinterface 49713 2, .aload 0, .iconst 0, .invokeinterface 49713 2, .invokeinterface 53504 2, .goto 4]
  | 4 => [.istore 6, .goto 12]
  | 5 => [.iload 1, .ifCond .ne 7, .lload 2, .lload 4, .lcmp, .ifCond .ge 6, .iconst 1, .goto 11]
  | 6 => [.iconst 0, .goto 11]
  | 7 => [.iload 1, .iconst 1, .if_icmp .ne 9, .lload 2, .lload 4, .lcmp, .ifCond .le 8, .iconst 1, .goto 11]
  | 8 => [.iconst 0, .goto 11]
  | 9 => [.lload 2, .lload 4, .lcmp, .ifCond .ne 10, .iconst 1, .goto 11]
  | 10 => [.iconst 0, .goto 11]
  | 11 => [.istore 6, .goto 12]
  | 12 => [.aload 0, .ifnonnull 5139, .iconst 2, .iconst 1, .iload 6, .ifCond .eq 13, .bipush 1, .goto 14]
  | 13 => [.bipush 0, .goto 14]
  | 14 => [.invokeinterface 51260 4, .return_]
  | _ => []
/-- SchoolHouse$Reals.isLess(JJ)Z -/
def B207 : Nat → List Instr := fun b => match b with
  | 0 => [.lload 0, .invokeinterface 25856 1, .ifCond .ne 1, .lload 2, .invokeinterface 25856 1, .ifCond .ne 1, .lload 0, .invokeinterface 53249 1, .lload 2, .invokeinterface 53249 1, .lcmp, .ifCond .ge 1, .iconst 1, .goto 2]
  | 1 => [.iconst 0, .goto 2]
  | 2 => [.freturn]
  | _ => []
/-- SchoolHouse$Reals.order(J)J -/
def B208 : Nat → List Instr := fun b => match b with
  | 0 => [.lload 0, .bipush 0, .lcmp, .ifCond .ge 1, .bipush (-9223372036854775808), .lload 0, .lsub, .goto 2]
  | 1 => [.lload 0, .goto 2]
  | 2 => [.lreturn]
  | _ => []
/-- SchoolHouse$Reals.isLike(JJ)Z -/
def B209 : Nat → List Instr := fun b => match b with
  | 0 => [.lload 0, .invokeinterface 25856 1, .ifCond .ne 1, .lload 2, .invokeinterface 25856 1, .ifCond .ne 1, .lload 0, .invokeinterface 53249 1, .lload 2, .invokeinterface 53249 1, .lcmp, .ifCond .ne 1, .iconst 1, .goto 2]
  | 1 => [.iconst 0, .goto 2]
  | 2 => [.freturn]
  | _ => []
/-- SchoolHouse$Machine.negate()V -/
def B210 : Nat → List Instr := fun b => match b with
  | 0 => [.aload 0, .aload 0, .iconst 0, .invokeinterface 48688 2, .invokeinterface 47920 2, .ifCond .eq 1, .return_]
  | 1 => [.aload 0, .ifnonnull 5139, .iconst 0, .invokeinterface 46648 2, .iconst 2, .if_icmp .ne 2, .aload 0, .ifnonnull 5139, .iconst 1, .iconst 2, .aload 0, .ifnonnull 5139, .iconst 0, .invokeinterface 46905 2, .invokeinterface 51969 1, .invokeinterface 51260 4, .goto 3]
  | 2 => [.aload 0, .iconst 1, .aload 0, .ifnonnull 5139, .iconst 0, .invokeinterface 46905 2, .lneg, .invokeinterface 50996 3, .goto 3]
  | 3 => [.return_]
  | _ => []
/-- SchoolHouse$Machine.item()V -/
def B211 : Nat → List Instr := fun b => match b with
  | 0 => [.aload 0, .aload 0, .iconst 0, .invokeinterface 47664 2, .invokeinterface 47920 2, .ifCond .ne 1, .aload 0, .aload 0, .ifnonnull 5139, .iconst 1, .invokeinterface 46648 2, .invokeinterface 48384 1, .invokeinterface 47920 2, .ifCond .eq 2, .goto 1]
  | 1 => [.return_]
  | 2 => [.aload 0, .aload 0, .aload 0, .ifnonnull 5139, .iconst 1, .invokeinterface 46905 2, .aload 0, .ifnonnull 5139, .iconst 0, .invokeinterface 46905 2, .invokeinterface 48944 3, .invokeinterface 47920 2, .ifCond .eq 3, .return_]
  | 3 => [.aload 0, .ifnonnull 5139, .iconst 1, .invokeinterface 46648 2, .iconst 4, .isub, .istore 1, .aload 0, .ifnonnull 5131, .aload 0, .ifnonnull 5139, .iconst 1, .invokeinterface 46905 2, .l2i, .aload 0, .ifnonnull 5139, .iconst 0, .invokeinterface 46905 2, .l2i, .invokeinterface 41249 3, .lstore 2, .iload 1, .ifCond .ne 4, .iconst 1, .goto 7]
  | 4 => [.iload 1, .iconst 1, .if_icmp .ne 5, .iconst 2, .goto 7]
  | 5 => [.lload 2, .bipush (-9), .lcmp, .ifCond .ne 6, .iconst 0, .goto 7]
  | 6 => [.iconst 3, .goto 7]
  | 7 => [.istore 4, .aload 0, .ifnonnull 5139, .iconst 2, .iload 4, .lload 2, .invokeinterface 51260 4, .return_]
  | _ => []
/-- SchoolHouse$Machine.makeRow(I)V -/
def B212 : Nat → List Instr := fun b => match b with
  | 0 => [.aload 0, .aload 0, .iconst 0, .invokeinterface 47664 2, .invokeinterface 47920 2, .ifCond .eq 1, .return_]
  | 1 => [.aload 0, .ifnonnull 5139, .iconst 0, .invokeinterface 46905 2, .lstore 2, .lload 2, .bipush 0, .lcmp, .ifCond .lt 2, .lload 2, .bipush 64, .lcmp, .ifCond .le 3, .goto 2]
  | 2 => [.aload 0, .iconst 5, .invokeinterface 48180 2, .return_]
  | 3 => [.aload 0, .ifnonnull 5131, .lload 2, .l2i, .iload 1, .iconst 2, .if_icmp .lt 4, .bipush (-9), .goto 5]
  | 4 => [.bipush 0, .goto 5]
  | 5 => [.invokeinterface 39200 3, .istore 4, .iload 4, .ifCond .ge 6, .aload 0, .iconst (-22), .bipush 0, .invokeinterface 44852 3, .goto 7]
  | 6 => [.aload 0, .ifnonnull 5139, .iconst 1, .iconst 4, .iload 1, .iadd, .iload 4, .i2l, .invokeinterface 51260 4, .goto 7]
  | 7 => [.return_]
  | _ => []
/-- SchoolHouse$Machine.call()V -/
def B213 : Nat → List Instr := fun b => match b with
  | 0 => [.aload 0, .invokeinterface 44080 1, .istore 1, .aload 0, .invokeinterface 44080 1, .istore 2, .aload 0, .invokeinterface 44592 1, .ifCond .ne 1, .return_]
  | 1 => [.aload 0, .ifnull 5160, .iconst 1, .iadd, .iconst 8, .if_icmp .lt 2, .aload 0, .iconst (-21), .bipush 0, .invokeinterface 44852 3, .goto 3]
  | 2 => [.aload 0, .iload 1, .iload 2, .invokeinterface 43316 3, .goto 3]
  | 3 => [.return_]
  | _ => []
/-- SchoolHouse$Machine.give(IJ)V -/
def B214 : Nat → List Instr := fun b => match b with
  | 0 => [.aload 0, .ifnull 5184, .ifCond .le 3, .aload 0, .ifnonnull 5211, .aload 0, .ifnull 5184, .iconst 1, .isub, .iaload, .aload 0, .ifnull 5160, .if_icmp .ne 3, .aload 0, .ifnull 5184, .iconst 1, .isub, .istore 4, .aload 0, .ifnonnull 5203, .iload 4, .iaload, .iconst 2, .if_icmp .ne 1, .goto 2]
  | 1 => [.aload 0, .ifnonnull 5139, .aload 0, .ifnonnull 5219, .iload 4, .iaload, .invokeinterface 42812 2, .aload 0, .iload 4, .iconst 8, .iload 1, .iadd, .lload 2, .invokeinterface 55092 4, .return_]
  | 2 => [.aload 0, .dup, .ifnull 5184, .iconst 1, .isub, .jsr_w 5184, .goto 0]
  | 3 => [.aload 0, .ifnull 5160, .ifCond .gt 4, .aload 0, .iload 1, .lload 2, .invokeinterface 44852 3, .return_]
  | 4 => [.aload 0, .ifnonnull 5139, .aload 0, .ifnonnull 5171, .aload 0, .ifnull 5160, .iaload, .invokeinterface 42812 2, .aload 0, .ifnonnull 5139, .iload 1, .lload 2, .invokeinterface 43068 3, .aload 0, .aload 0, .ifnonnull 5179, .aload 0, .ifnull 5160, .iaload, .jsr_w 5152, .aload 0, .dup, .ifnull 5160, .iconst 1, .isub, .jsr_w 5160, .return_]
  | _ => []
/-- SchoolHouse$Machine.enterAlways(IIJ)V -/
def B215 : Nat → List Instr := fun b => match b with
  | 0 => [.aload 0, .ifnonnull 5195, .iload 1, .iaload, .istore 5, .iconst 0, .istore 6, .goto 1]
  | 1 => [.iload 6, .iconst 7, .if_icmp .ge 2, .aload 0, .ifnull 5147, .iload 5, .invokeinterface 32088 2, .iconst 22, .if_icmp .ne 2, .aload 0, .ifnull 5147, .iload 5, .iconst 2, .iadd, .invokeinterface 32088 2, .istore 5, .iinc 6 1, .goto 1]
  | 2 => [.aload 0, .ifnonnull 5203, .iload 1, .iconst 2, .iastore, .aload 0, .ifnonnull 5227, .iload 1, .iload 2, .iastore, .aload 0, .ifnonnull 5235, .iload 1, .lload 3, .lastore, .aload 0, .iload 5, .jsr_w 5152, .return_]
  | _ => []
/-- SchoolHouse$Machine.unless(I)V -/
def B216 : Nat → List Instr := fun b => match b with
  | 0 => [.aload 0, .aload 0, .iconst 0, .invokeinterface 47664 2, .invokeinterface 47920 2, .ifCond .eq 1, .return_]
  | 1 => [.aload 0, .ifnonnull 5139, .iconst 0, .invokeinterface 46905 2, .bipush 0, .lcmp, .ifCond .ne 2, .aload 0, .iload 1, .jsr_w 5152, .goto 2]
  | 2 => [.aload 0, .ifnonnull 5139, .aload 0, .ifnonnull 5139, .invokeinterface 43576 1, .iconst 1, .isub, .invokeinterface 42812 2, .return_]
  | _ => []
/-- SchoolHouse$Machine.loop()V -/
def B217 : Nat → List Instr := fun b => match b with
  | 0 => [.aload 0, .aload 0, .iconst 0, .invokeinterface 47664 2, .invokeinterface 47920 2, .ifCond .ne 1, .aload 0, .ifnonnull 5139, .iconst 1, .bipush 0, .invokeinterface 43068 3, .goto 1]
  | 1 => [.return_]
  | _ => []
/-- SchoolHouse$Machine.round()V -/
def B218 : Nat → List Instr := fun b => match b with
  | 0 => [.aload 0, .invokeinterface 44080 1, .istore 1, .aload 0, .invokeinterface 44080 1, .istore 2, .aload 0, .ifnonnull 5139, .iconst 0, .invokeinterface 46905 2, .lstore 3, .lload 3, .aload 0, .ifnonnull 5139, .iconst 1, .invokeinterface 46905 2, .lcmp, .ifCond .lt 1, .aload 0, .ifnonnull 5139, .aload 0, .ifnonnull 5139, .invokeinterface 43576 1, .iconst 2, .isub, .invokeinterface 42812 2, .aload 0, .iload 2, .jsr_w 5152, .goto 2]
  | 1 => [.aload 0, .invokeinterface 44592 1, .ifCond .eq 2, .aload 0, .ifnonnull 5139, .aload 0, .iload 1, .invokeinterface 45616 2, .iconst 1, .lload 3, .invokeinterface 47164 4, .aload 0, .ifnonnull 5139, .iconst 1, .iconst 1, .lload 3, .bipush 1, .ladd, .invokeinterface 51260 4, .goto 2]
  | 2 => [.return_]
  | _ => []
/-- SchoolHouse$Machine.copy()V -/
def B219 : Nat → List Instr := fun b => match b with
  | 0 => [.aload 0, .aload 0, .iconst 3, .invokeinterface 47664 2, .invokeinterface 47920 2, .ifCond .ne 1, .aload 0, .aload 0, .iconst 1, .invokeinterface 47664 2, .invokeinterface 47920 2, .ifCond .ne 1, .aload 0, .aload 0, .iconst 0, .invokeinterface 47664 2, .invokeinterface 47920 2, .ifCond .ne 1, .aload 0, .aload 0, .invokeinterface 56368 1, .invokeinterface 47920 2, .ifCond .eq 2, .goto 1]
  | 1 => [.return_]
  | 2 => [.aload 0, .ifnonnull 5139, .iconst 4, .invokeinterface 46905 2, .l2i, .istore 1, .aload 0, .ifnonnull 5139, .iconst 2, .invokeinterface 46905 2, .l2i, .istore 2, .aload 0, .ifnonnull 5139, .iconst 3, .invokeinterface 46905 2, .l2i, .istore 3, .aload 0, .ifnonnull 5139, .iconst 1, .invokeinterface 46905 2, .l2i, .istore 4, .aload 0, .ifnonnull 5139, .iconst 0, .invokeinterface 46905 2, .l2i, .istore 5, .aload 0, .ifnonnull 5139, .iconst 2, .invokeinterface 46648 2, .iconst 7, .if_icmp .ne 3, .aload 0, .ifnonnull 5139, .iconst 4, .invokeinterface 46648 2, .iconst 7, .if_icmp .eq 3, .iconst 1, .goto 4]
  | 3 => [.iconst 0, .goto 4]
  | 4 => [.istore 6, .iload 1, .iload 2, .if_icmp .ne 5, .iload 3, .iload 4, .if_icmp .ge 5, .iconst 1, .goto 6]
  | 5 => [.iconst 0, .goto 6]
  | 6 => [.istore 7, .iconst 0, .istore 8, .goto 7]
  | 7 => [.iload 8, .iload 5, .if_icmp .ge 11, .iload 7, .ifCond .eq 8, .iload 5, .iconst 1, .isub, .iload 8, .isub, .goto 9]
  | 8 => [.iload 8, .goto 9]
  | 9 => [.istore 9, .aload 0, .ifnonnull 5131, .iload 1, .iload 3, .iload 9, .iadd, .invokeinterface 41249 3, .lstore 10, .iload 6, .ifCond .eq 10, .lload 10, .bipush (-9), .lcmp, .ifCond .eq 10, .aload 0, .ifnonnull 5123, .lload 10, .l2i, .invokeinterface 49448 2, .ifCond .ne 10, .aload 0, .iconst 6, .invokeinterface 48180 2, .return_]
  | 10 => [.aload 0, .ifnonnull 5131, .iload 2, .iload 4, .iload 9, .iadd, .lload 10, .invokeinterface 41508 4, .iinc 8 1, .goto 7]
  | 11 => [.aload 0, .ifnonnull 5139, .aload 0, .ifnonnull 5139, .invokeinterface 43576 1, .iconst 5, .isub, .invokeinterface 42812 2, .return_]
  | _ => []
/-- SchoolHouse$Machine.lackOfCopy()I -/
def B220 : Nat → List Instr := fun b => match b with
  | 0 => [.aload 0, .ifnonnull 5139, .iconst 4, .invokeinterface 46648 2, .istore 1, .aload 0, .ifnonnull 5139, .iconst 2, .invokeinterface 46648 2, .istore 2, .iload 1, .ifCond .eq 1, .iload 2, .ifCond .ne 2, .goto 1]
  | 1 => [.iconst 3, .ireturn]
  | 2 => [.iload 1, .iconst 4, .if_icmp .lt 3, .iload 2, .iconst 4, .if_icmp .lt 3, .iload 1, .iconst 6, .dup_x2, .iload 2, .iconst 6, .dup_x2, .if_icmp .eq 4, .goto 3]
  | 3 => [.iconst 6, .ireturn]
  | 4 => [.aload 0, .ifnonnull 5139, .iconst 3, .invokeinterface 46905 2, .lstore 3, .aload 0, .ifnonnull 5139, .iconst 1, .invokeinterface 46905 2, .lstore 5, .aload 0, .ifnonnull 5139, .iconst 0, .invokeinterface 46905 2, .lstore 7, .lload 3, .bipush 0, .lcmp, .ifCond .lt 5, .lload 5, .bipush 0, .lcmp, .ifCond .lt 5, .lload 7, .bipush 0, .lcmp, .ifCond .lt 5, .lload 3, .lload 7, .ladd, .aload 0, .ifnonnull 5131, .aload 0, .ifnonnull 5139, .iconst 4, .invokeinterface 46905 2, .l2i, .invokeinterface 40992 2, .i2l, .lcmp, .ifCond .gt 5, .lload 5, .lload 7, .ladd, .aload 0, .ifnonnull 5131, .aload 0, .ifnonnull 5139, .iconst 2, .invokeinterface 46905 2, .l2i, .invokeinterface 40992 2, .i2l, .lcmp, .ifCond .gt 5, .iconst 1, .goto 6]
  | 5 => [.iconst 0, .goto 6]
  | 6 => [.istore 9, .iload 9, .ifCond .eq 7, .iconst 0, .goto 8]
  | 7 => [.iconst 2, .goto 8]
  | 8 => [.ireturn]
  | _ => []
/-- SchoolHouse$Machine.enterTry(I)V -/
def B221 : Nat → List Instr := fun b => match b with
  | 0 => [.aload 0, .ifnull 5184, .iconst 96, .if_icmp .lt 1, .return_]
  | 1 => [.aload 0, .ifnonnull 5195, .aload 0, .ifnull 5184, .iload 1, .iastore, .aload 0, .ifnonnull 5203, .aload 0, .ifnull 5184, .iconst 0, .iastore, .aload 0, .ifnonnull 5211, .aload 0, .ifnull 5184, .aload 0, .ifnull 5160, .iastore, .aload 0, .ifnonnull 5219, .aload 0, .ifnull 5184, .aload 0, .ifnonnull 5139, .invokeinterface 43576 1, .iastore, .aload 0, .dup, .ifnull 5184, .iconst 1, .iadd, .jsr_w 5184, .return_]
  | _ => []
/-- SchoolHouse$Machine.leaveTry()V -/
def B222 : Nat → List Instr := fun b => match b with
  | 0 => [.aload 0, .ifnull 5184, .ifCond .le 1, .aload 0, .aload 0, .ifnull 5184, .iconst 1, .isub, .iconst 0, .bipush 0, .invokeinterface 55092 4, .goto 1]
  | 1 => [.return_]
  | _ => []
/-- SchoolHouse$Machine.finishTry()V -/
def B223 : Nat → List Instr := fun b => match b with
  | 0 => [.aload 0, .ifnull 5184, .ifCond .gt 1, .return_]
  | 1 => [.aload 0, .dup, .ifnull 5184, .iconst 1, .isub, .jsr_w 5184, .aload 0, .ifnonnull 5227, .aload 0, .ifnull 5184, .iaload, .istore 1, .iload 1, .iconst 8, .if_icmp .lt 2, .aload 0, .iload 1, .iconst 8, .isub, .aload 0, .ifnonnull 5235, .aload 0, .ifnull 5184, .laload, .invokeinterface 54836 3, .goto 3]
  | 2 => [.aload 0, .iload 1, .jsr_w 5264, .goto 3]
  | 3 => [.return_]
  | _ => []
/-- SchoolHouse$Machine.sizeOf()V -/
def B224 : Nat → List Instr := fun b => match b with
  | 0 => [.aload 0, .aload 0, .ifnonnull 5139, .iconst 0, .invokeinterface 46648 2, .invokeinterface 48384 1, .invokeinterface 47920 2, .ifCond .eq 1, .return_]
  | 1 => [.aload 0, .ifnonnull 5139, .iconst 1, .iconst 1, .aload 0, .ifnonnull 5131, .aload 0, .ifnonnull 5139, .iconst 0, .invokeinterface 46905 2, .l2i, .invokeinterface 40992 2, .i2l, .invokeinterface 51260 4, .return_]
  | _ => []
/-- SchoolHouse$Machine.asWhole()V -/
def B225 : Nat → List Instr := fun b => match b with
  | 0 => [.aload 0, .aload 0, .iconst 0, .invokeinterface 48688 2, .invokeinterface 47920 2, .ifCond .eq 1, .return_]
  | 1 => [.aload 0, .ifnonnull 5139, .iconst 0, .invokeinterface 46648 2, .iconst 2, .if_icmp .ne 2, .aload 0, .ifnonnull 5139, .iconst 1, .iconst 1, .aload 0, .ifnonnull 5139, .iconst 0, .invokeinterface 46905 2, .invokeinterface 57856 1, .i2l, .invokeinterface 51260 4, .goto 2]
  | 2 => [.return_]
  | _ => []
/-- SchoolHouse$Reals.toWhole(J)I -/
def B226 : Nat → List Instr := fun b => match b with
  | 0 => [.lload 0, .invokeinterface 25856 1, .ifCond .eq 1, .iconst 0, .ireturn]
  | 1 => [.lload 0, .invokeinterface 27136 1, .istore 2, .iload 2, .ifCond .lt 2, .bipush 9223372036854775807, .goto 4]
  | 2 => [.iload 2, .iconst (-63), .if_icmp .ge 3, .bipush 0, .goto 4]
  | 3 => [.lload 0, .invokeinterface 26625 1, .iload 2, .ineg, .lushr, .goto 4]
  | 4 => [.lstore 3, .lload 0, .bipush 0, .lcmp, .ifCond .ge 5, .lload 3, .lneg, .bipush (-2147483648), .dup2_x1, .goto 6]
  | 5 => [.lload 3, .bipush 2147483647, .dup2_x2, .goto 6]
  | 6 => [.l2i, .ireturn]
  | _ => []
/-- SchoolHouse$Machine.asReal()V -/
def B227 : Nat → List Instr := fun b => match b with
  | 0 => [.aload 0, .aload 0, .iconst 0, .invokeinterface 48688 2, .invokeinterface 47920 2, .ifCond .eq 1, .return_]
  | 1 => [.aload 0, .ifnonnull 5139, .iconst 1, .iconst 2, .aload 0, .iconst 0, .invokeinterface 49713 2, .invokeinterface 51260 4, .return_]
  | _ => []
/-- SchoolHouse$Machine.findPerson()V -/
def B228 : Nat → List Instr := fun b => match b with
  | 0 => [.aload 0, .aload 0, .iconst 0, .invokeinterface 47664 2, .invokeinterface 47920 2, .ifCond .eq 1, .return_]
  | 1 => [.aload 0, .ifnonnull 5123, .aload 0, .ifnonnull 5139, .iconst 0, .invokeinterface 46905 2, .invokeinterface 35880 2, .ifCond .eq 2, .aload 0, .ifnonnull 5139, .iconst 1, .iconst 3, .aload 0, .ifnonnull 5139, .iconst 0, .invokeinterface 46905 2, .invokeinterface 51260 4, .goto 3]
  | 2 => [.aload 0, .iconst 2, .invokeinterface 48180 2, .goto 3]
  | 3 => [.return_]
  | _ => []
/-- SchoolHouse$Machine.findLevel()V -/
def B229 : Nat → List Instr := fun b => match b with
  | 0 => [.aload 0, .ifnonnull 5139, .iconst 1, .invokeinterface 46648 2, .istore 1, .aload 0, .aload 0, .iconst 0, .invokeinterface 47664 2, .invokeinterface 47920 2, .ifCond .ne 4, .aload 0, .iload 1, .ifCond .ne 1, .iconst 3, .goto 3]
  | 1 => [.iload 1, .iconst 3, .if_icmp .eq 2, .iconst 4, .goto 3]
  | 2 => [.iconst 0, .goto 3]
  | 3 => [.invokeinterface 47920 2, .ifCond .eq 5, .goto 4]
  | 4 => [.return_]
  | 5 => [.aload 0, .ifnonnull 5139, .iconst 0, .invokeinterface 46905 2, .l2i, .istore 2, .iload 2, .invokeinterface 37376 1, .ifCond .eq 6, .aload 0, .ifnonnull 5139, .iconst 2, .iconst 1, .aload 0, .ifnonnull 5123, .aload 0, .ifnonnull 5139, .iconst 1, .invokeinterface 46905 2, .l2i, .iload 2, .invokeinterface 37672 3, .i2l, .invokeinterface 51260 4, .goto 7]
  | 6 => [.aload 0, .iconst 2, .invokeinterface 48180 2, .goto 7]
  | 7 => [.return_]
  | _ => []
/-- SchoolHouse$Machine.findMarks()V -/
def B230 : Nat → List Instr := fun b => match b with
  | 0 => [.aload 0, .aload 0, .iconst 1, .invokeinterface 47664 2, .invokeinterface 47920 2, .ifCond .ne 1, .aload 0, .aload 0, .iconst 0, .invokeinterface 47664 2, .invokeinterface 47920 2, .ifCond .eq 2, .goto 1]
  | 1 => [.return_]
  | 2 => [.aload 0, .ifnonnull 5139, .iconst 1, .invokeinterface 46905 2, .l2i, .istore 1, .aload 0, .ifnonnull 5139, .iconst 0, .invokeinterface 46905 2, .l2i, .istore 2, .aload 0, .ifnonnull 5123, .iload 1, .invokeinterface 35368 2, .ifCond .eq 3, .aload 0, .ifnull 5147, .iconst 5, .iload 2, .invokeinterface 17752 3, .ifCond .ne 4, .goto 3]
  | 3 => [.aload 0, .iconst 2, .invokeinterface 48180 2, .return_]
  | 4 => [.aload 0, .ifnonnull 5123, .iload 1, .iload 2, .invokeinterface 40488 3, .istore 3, .aload 0, .ifnonnull 5139, .iconst 2, .iload 3, .ifCond .ge 5, .iconst 0, .goto 6]
  | 5 => [.iconst 4, .goto 6]
  | 6 => [.iload 3, .iconst 0, .dup_x1, .i2l, .invokeinterface 51260 4, .return_]
  | _ => []
/-- SchoolHouse$Machine.passOn()V -/
def B231 : Nat → List Instr := fun b => match b with
  | 0 => [.aload 0, .ifnull 5264, .istore 1, .aload 0, .iconst 0, .jsr_w 5264, .goto 1]
  | 1 => [.aload 0, .ifnull 5184, .ifCond .le 8, .aload 0, .ifnull 5184, .iconst 1, .isub, .istore 2, .aload 0, .ifnonnull 5203, .iload 2, .iaload, .iconst 2, .if_icmp .ne 2, .goto 7]
  | 2 => [.aload 0, .aload 0, .ifnonnull 5211, .iload 2, .iaload, .jsr_w 5160, .aload 0, .ifnonnull 5139, .aload 0, .ifnonnull 5219, .iload 2, .iaload, .invokeinterface 42812 2, .aload 0, .ifnonnull 5203, .iload 2, .iaload, .ifCond .ne 3, .aload 0, .iload 1, .iload 2, .invokeinterface 59440 3, .goto 4]
  | 3 => [.iconst (-1), .goto 4]
  | 4 => [.istore 3, .iload 3, .ifCond .lt 5, .aload 0, .ifnonnull 5203, .iload 2, .iconst 1, .iastore, .aload 0, .iload 3, .jsr_w 5152, .goto 6]
  | 5 => [.aload 0, .iload 2, .iload 1, .bipush 0, .invokeinterface 55092 4, .goto 6]
  | 6 => [.return_]
  | 7 => [.aload 0, .dup, .ifnull 5184, .iconst 1, .isub, .jsr_w 5184, .goto 1]
  | 8 => [.aload 0, .iconst (-10), .iload 1, .isub, .bipush 0, .invokeinterface 44852 3, .return_]
  | _ => []
/-- SchoolHouse$Machine.blockOn(II)I -/
def B232 : Nat → List Instr := fun b => match b with
  | 0 => [.aload 0, .ifnonnull 5195, .iload 2, .iaload, .istore 3, .iconst 0, .istore 4, .goto 1]
  | 1 => [.iload 4, .iconst 7, .if_icmp .ge 3, .aload 0, .ifnull 5147, .iload 3, .invokeinterface 32088 2, .iconst 22, .if_icmp .ne 3, .aload 0, .ifnull 5147, .iload 3, .iconst 1, .iadd, .invokeinterface 32088 2, .iload 1, .if_icmp .ne 2, .iload 3, .iconst 3, .iadd, .ireturn]
  | 2 => [.aload 0, .ifnull 5147, .iload 3, .iconst 2, .iadd, .invokeinterface 32088 2, .istore 3, .iinc 4 1, .goto 1]
  | 3 => [.iconst (-1), .ireturn]
  | _ => []
/-- SchoolHouse$Machine.given()J -/
def B233 : Nat → List Instr := fun b => match b with
  | 0 => [.aload 0, .ifnull 5281, .lreturn]
  | _ => []
/-- SchoolHouse$Machine.stepsDone()I -/
def B234 : Nat → List Instr := fun b => match b with
  | 0 => [.aload 0, .ifnull 5256, .ireturn]
  | _ => []
/-- SchoolHouse.gave(I)J -/
def B235 : Nat → List Instr := fun b => match b with
  | 0 => [.iload 1, .iconst (-1), .if_icmp .ne 3, .aload 0, .ifnull 80, .iconst 1, .if_icmp .ne 1, .aload 0, .ifnull 89, .goto 2]
  | 1 => [.bipush 0, .goto 2]
  | 2 => [.lreturn]
  | 3 => [.iload 1, .iconst (-2), .if_icmp .ne 6, .aload 0, .ifnull 80, .iconst 2, .if_icmp .ne 4, .aload 0, .ifnull 89, .goto 5]
  | 4 => [.bipush 0, .goto 5]
  | 5 => [.lreturn]
  | 6 => [.iload 1, .iconst (-3), .if_icmp .ne 9, .aload 0, .ifnull 80, .iconst 3, .if_icmp .ne 7, .aload 0, .ifnull 89, .goto 8]
  | 7 => [.bipush 0, .goto 8]
  | 8 => [.lreturn]
  | 9 => [.aload 0, .ifnull 80, .iconst 4, .if_icmp .ge 10, .bipush 0, .lreturn]
  | 10 => [.aload 0, .ifnull 89, .l2i, .istore 2, .iload 1, .iconst (-4), .if_icmp .ne 11, .aload 0, .ifnonnull 19, .iload 2, .invokeinterface 40992 2, .i2l, .lreturn]
  | 11 => [.aload 0, .ifnonnull 19, .iload 2, .iload 1, .invokeinterface 41249 3, .lreturn]
  | _ => []
/-- SchoolHouse.steps()I -/
def B236 : Nat → List Instr := fun b => match b with
  | 0 => [.aload 0, .ifnull 96, .ireturn]
  | _ => []
/-- SchoolHouse.stand(II)I -/
def B237 : Nat → List Instr := fun b => match b with
  | 0 => [.aload 0, .ifnull 67, .iconst 6, .iload 1, .invokeinterface 17752 3, .ifCond .eq 1, .iload 2, .invokeinterface 42240 1, .ifCond .eq 1, .aload 0, .ifnull 67, .ifnonnull 10347, .iload 1, .iaload, .iconst 1, .if_icmp .eq 2, .goto 1]
  | 1 => [.iconst (-1), .ireturn]
  | 2 => [.aload 0, .iconst 0, .jsr_w 128, .iconst 0, .istore 3, .goto 3]
  | 3 => [.iload 3, .aload 0, .ifnonnull 27, .invokeinterface 33832 1, .if_icmp .ge 5, .aload 0, .ifnonnull 27, .iload 3, .invokeinterface 35368 2, .ifCond .eq 4, .aload 0, .iload 3, .aload 0, .ifnonnull 35, .iload 1, .iload 2, .iload 3, .iconst 0, .iconst 0, .iconst 0, .invokeinterface 42544 7, .invokeinterface 60940 3, .goto 4]
  | 4 => [.iinc 3 1, .goto 3]
  | 5 => [.aload 0, .ifnull 128, .ireturn]
  | _ => []
/-- SchoolHouse.place(II)V -/
def B238 : Nat → List Instr := fun b => match b with
  | 0 => [.iload 2, .iconst 1, .if_icmp .ne 1, .aload 0, .ifnonnull 35, .invokeinterface 59697 1, .invokeinterface 24833 1, .goto 2]
  | 1 => [.aload 0, .ifnonnull 35, .invokeinterface 59697 1, .goto 2]
  | 2 => [.lstore 3, .iload 2, .iconst 1, .if_icmp .eq 3, .iload 2, .iconst 2, .if_icmp .eq 3, .iconst 2, .goto 5]
  | 3 => [.lload 3, .invokeinterface 25856 1, .ifCond .eq 4, .iconst 1, .goto 5]
  | 4 => [.iconst 0, .goto 5]
  | 5 => [.istore 5, .aload 0, .ifnull 128, .istore 6, .iload 6, .iconst 24, .if_icmp .lt 6, .return_]
  | 6 => [.iload 6, .ifCond .le 7, .aload 0, .iload 5, .lload 3, .iload 6, .iconst 1, .isub, .invokeinterface 61192 4, .ifCond .eq 7, .aload 0, .ifnonnull 107, .iload 6, .aload 0, .ifnonnull 107, .iload 6, .iconst 1, .isub, .iaload, .iastore, .aload 0, .ifnonnull 115, .iload 6, .aload 0, .ifnonnull 115, .iload 6, .iconst 1, .isub, .iaload, .iastore, .aload 0, .ifnonnull 123, .iload 6, .aload 0, .ifnonnull 123, .iload 6, .iconst 1, .isub, .laload, .lastore, .iinc 6 (-1), .goto 6]
  | 7 => [.aload 0, .ifnonnull 107, .iload 6, .iload 1, .iastore, .aload 0, .ifnonnull 115, .iload 6, .iload 5, .iastore, .aload 0, .ifnonnull 123, .iload 6, .lload 3, .lastore, .aload 0, .dup, .ifnull 128, .iconst 1, .iadd, .jsr_w 128, .return_]
  | _ => []
/-- SchoolHouse.isAhead(IJI)Z -/
def B239 : Nat → List Instr := fun b => match b with
  | 0 => [.iload 1, .aload 0, .ifnonnull 115, .iload 4, .iaload, .if_icmp .eq 3, .iload 1, .aload 0, .ifnonnull 115, .iload 4, .iaload, .if_icmp .ge 1, .iconst 1, .goto 2]
  | 1 => [.iconst 0, .goto 2]
  | 2 => [.freturn]
  | 3 => [.iload 1, .ifCond .ne 4, .lload 2, .aload 0, .ifnonnull 123, .iload 4, .laload, .invokeinterface 52992 2, .ifCond .eq 4, .iconst 1, .goto 5]
  | 4 => [.iconst 0, .goto 5]
  | 5 => [.freturn]
  | _ => []
/-- SchoolHouse.standing(I)I -/
def B240 : Nat → List Instr := fun b => match b with
  | 0 => [.iload 1, .ifCond .lt 1, .iload 1, .aload 0, .ifnull 128, .if_icmp .ge 1, .aload 0, .ifnonnull 107, .iload 1, .iaload, .goto 2]
  | 1 => [.iconst (-1), .goto 2]
  | 2 => [.ireturn]
  | _ => []
/-- SchoolHouse.week(I)I -/
def B241 : Nat → List Instr := fun b => match b with
  | 0 => [.iload 1, .iconst 1, .if_icmp .lt 1, .iload 1, .iconst 4, .if_icmp .le 2, .goto 1]
  | 1 => [.iconst (-1), .ireturn]
  | 2 => [.aload 0, .ifnonnull 43, .invokeinterface 62016 1, .istore 2, .aload 0, .ifnonnull 43, .iload 1, .invokeinterface 62276 2, .aload 0, .ifnonnull 51, .invokeinterface 4684 1, .iload 2, .ireturn]
  | _ => []
/-- SchoolHouse$Timetable.daily()I -/
def B242 : Nat → List Instr := fun b => match b with
  | 0 => [.aload 0, .ifnull 7176, .ireturn]
  | _ => []
/-- SchoolHouse$Timetable.setDaily(I)V -/
def B243 : Nat → List Instr := fun b => match b with
  | 0 => [.aload 0, .iload 1, .jsr_w 7176, .aload 0, .invokeinterface 3396 1, .return_]
  | _ => []
/-- SchoolHouse.bar(III)I -/
def B244 : Nat → List Instr := fun b => match b with
  | 0 => [.aload 0, .iload 1, .iload 2, .iload 3, .invokeinterface 62728 4, .ifCond .ne 1, .iconst (-1), .ireturn]
  | 1 => [.aload 0, .ifnonnull 43, .iload 1, .iload 2, .iload 3, .iconst 1, .if_icmp .ne 2, .iconst 1, .goto 3]
  | 2 => [.iconst 0, .goto 3]
  | 3 => [.invokeinterface 63556 4, .iconst 0, .ireturn]
  | _ => []
/-- SchoolHouse.isStaffThere(III)Z -/
def B245 : Nat → List Instr := fun b => match b with
  | 0 => [.aload 0, .ifnull 67, .iconst 2, .iload 1, .invokeinterface 17752 3, .ifCond .eq 2, .aload 0, .ifnonnull 43, .iload 2, .invokeinterface 63040 2, .ifCond .eq 2, .iload 3, .ifCond .eq 1, .iload 3, .iconst 1, .if_icmp .ne 2, .goto 1]
  | 1 => [.iconst 1, .goto 3]
  | 2 => [.iconst 0, .goto 3]
  | 3 => [.freturn]
  | _ => []
/-- SchoolHouse$Timetable.hasPeriod(I)Z -/
def B246 : Nat → List Instr := fun b => match b with
  | 0 => [.iload 1, .ifCond .lt 1, .iload 1, .aload 0, .invokeinterface 63296 1, .if_icmp .ge 1, .iconst 1, .goto 2]
  | 1 => [.iconst 0, .goto 2]
  | 2 => [.freturn]
  | _ => []
/-- SchoolHouse$Timetable.periods()I -/
def B247 : Nat → List Instr := fun b => match b with
  | 0 => [.iconst 5, .aload 0, .ifnull 7176, .imul, .ireturn]
  | _ => []
/-- SchoolHouse$Timetable.setBarred(IIZ)V -/
def B248 : Nat → List Instr := fun b => match b with
  | 0 => [.aload 0, .invokeinterface 3908 1, .iload 1, .ifCond .lt 1, .iload 1, .iconst 10, .if_icmp .lt 2, .goto 1]
  | 1 => [.return_]
  | 2 => [.aload 0, .ifnonnull 7187, .iload 1, .iload 3, .ifCond .eq 3, .aload 0, .ifnonnull 7187, .iload 1, .iaload, .iconst 1, .iload 2, .ishl, .ior, .goto 4]
  | 3 => [.aload 0, .ifnonnull 7187, .iload 1, .iaload, .iconst 1, .iload 2, .ishl, .iconst (-1), .ixor, .iand, .goto 4]
  | 4 => [.iastore, .return_]
  | _ => []
/-- SchoolHouse.wish(III)I -/
def B249 : Nat → List Instr := fun b => match b with
  | 0 => [.aload 0, .ifnull 67, .iconst 4, .iload 1, .invokeinterface 17752 3, .ifCond .eq 1, .aload 0, .ifnonnull 43, .iload 2, .invokeinterface 63040 2, .ifCond .eq 1, .iload 3, .invokeinterface 34816 1, .ifCond .ne 2, .goto 1]
  | 1 => [.iconst (-100), .ireturn]
  | 2 => [.aload 0, .ifnonnull 43, .iload 1, .iload 2, .iload 3, .invokeinterface 64064 4, .ireturn]
  | _ => []
/-- SchoolHouse$Timetable.setWish(III)I -/
def B250 : Nat → List Instr := fun b => match b with
  | 0 => [.aload 0, .iload 1, .iload 2, .invokeinterface 64320 3, .istore 4, .aload 0, .invokeinterface 3908 1, .iload 1, .iconst 20, .imul, .iload 2, .iadd, .istore 5, .iload 5, .ifCond .lt 1, .iload 5, .aload 0, .ifnonnull 7195, .arraylength, .if_icmp .ge 1, .aload 0, .ifnonnull 7195, .iload 5, .iload 3, .iastore, .goto 1]
  | 1 => [.iload 4, .ireturn]
  | _ => []
/-- SchoolHouse$Timetable.wishOf(II)I -/
def B251 : Nat → List Instr := fun b => match b with
  | 0 => [.iload 1, .iconst 20, .imul, .iload 2, .iadd, .istore 3, .iload 3, .ifCond .lt 1, .iload 3, .aload 0, .ifnonnull 7195, .arraylength, .if_icmp .ge 1, .aload 0, .ifnonnull 7195, .iload 3, .iaload, .goto 2]
  | 1 => [.iconst 0, .goto 2]
  | 2 => [.ireturn]
  | _ => []
/-- SchoolHouse.build(I)I -/
def B252 : Nat → List Instr := fun b => match b with
  | 0 => [.iload 1, .iconst 1, .if_icmp .lt 1, .iload 1, .iconst 10000, .if_icmp .le 2, .goto 1]
  | 1 => [.iconst (-1), .ireturn]
  | 2 => [.aload 0, .ifnonnull 51, .invokeinterface 4940 1, .aload 0, .ifnonnull 43, .iload 1, .invokeinterface 64832 2, .ireturn]
  | _ => []
/-- SchoolHouse$Timetable.search(I)I -/
def B253 : Nat → List Instr := fun b => match b with
  | 0 => [.aload 0, .invokeinterface 65092 1, .aload 0, .invokeinterface 63296 1, .aload 0, .ifnull 7171, .iconst 1, .invokeinterface 14168 2, .imul, .istore 2, .iconst 0, .istore 3, .aload 0, .ifnull 7171, .ifnull 10328, .ifCond .ne 1, .aload 0, .invokeinterface 65604 1, .goto 1]
  | 1 => [.iconst 0, .istore 4, .iconst 0, .istore 5, .goto 2]
  | 2 => [.iload 5, .iconst 20037, .if_icmp .ge 6, .iload 3, .ifCond .lt 6, .iload 3, .aload 0, .ifnull 7171, .ifnull 10328, .if_icmp .ge 6, .iload 4, .ifCond .ne 6, .aload 0, .ifnonnull 7211, .iload 3, .iaload, .iload 2, .if_icmp .lt 3, .iinc 3 (-1), .iload 3, .ifCond .lt 5, .aload 0, .iload 3, .invokeinterface 65860 2, .goto 5]
  | 3 => [.aload 0, .ifnull 7288, .iload 1, .if_icmp .lt 4, .iconst 1, .istore 4, .goto 5]
  | 4 => [.aload 0, .iload 3, .invokeinterface 67136 2, .istore 3, .goto 5]
  | 5 => [.iinc 5 1, .goto 2]
  | 6 => [.iload 4, .ifCond .eq 7, .iconst 1, .goto 8]
  | 7 => [.iconst 0, .goto 8]
  | 8 => [.aload 0, .ifnull 7276, .ifCond .eq 9, .iconst 0, .goto 10]
  | 9 => [.iconst 2, .goto 10]
  | 10 => [.iadd, .ireturn]
  | _ => []
/-- SchoolHouse$Timetable.clear()V -/
def B254 : Nat → List Instr := fun b => match b with
  | 0 => [.aload 0, .invokeinterface 3908 1, .aload 0, .iconst 1, .jsr_w 7284, .aload 0, .iconst 0, .jsr_w 7288, .aload 0, .iconst 0, .jsr_w 7248, .aload 0, .ifnonnull 7211, .iconst 0, .iconst 0, .iastore, .aload 0, .ifnonnull 7219, .iconst 0, .invokeinterface 3588 2, .aload 0, .ifnonnull 7227, .iconst 0, .invokeinterface 3588 2, .aload 0, .ifnonnull 7235, .iconst 0, .invokeinterface 3588 2, .aload 0, .ifnonnull 7243, .iconst 0, .invokeinterface 3588 2, .aload 0, .ifnonnull 7203, .aload 0, .ifnull 7171, .ifnull 10328, .iconst 0, .iastore, .aload 0, .ifnull 7171, .ifnull 10328, .iconst 1, .isub, .istore 1, .goto 1]
  | 1 => [.iload 1, .ifCond .lt 2, .aload 0, .ifnonnull 7203, .iload 1, .aload 0, .ifnonnull 7203, .iload 1, .iconst 1, .iadd, .iaload, .aload 0, .aload 0, .ifnull 7171, .ifnonnull 10323, .iload 1, .iaload, .invokeinterface 65344 2, .iadd, .iastore, .iinc 1 (-1), .goto 1]
  | 2 => [.return_]
  | _ => []
/-- SchoolHouse$Timetable.leastWish(I)I -/
def B255 : Nat → List Instr := fun b => match b with
  | 0 => [.aload 0, .iload 1, .iconst 0, .invokeinterface 64320 3, .istore 2, .iconst 1, .istore 3, .goto 1]
  | 1 => [.iload 3, .aload 0, .invokeinterface 63296 1, .if_icmp .ge 2, .iload 2, .aload 0, .iload 1, .iload 3, .invokeinterface 64320 3, .dup_x2, .istore 2, .iinc 3 1, .goto 1]
  | 2 => [.iload 2, .ireturn]
  | _ => []
/-- SchoolHouse$Timetable.keep()V -/
def B256 : Nat → List Instr := fun b => match b with
  | 0 => [.aload 0, .iconst 1, .jsr_w 7276, .aload 0, .aload 0, .ifnull 7248, .jsr_w 7264, .iconst 0, .istore 1, .goto 1]
  | 1 => [.iload 1, .aload 0, .ifnull 7171, .ifnull 10328, .if_icmp .ge 2, .aload 0, .ifnonnull 7259, .iload 1, .aload 0, .ifnonnull 7211, .iload 1, .iaload, .iconst 1, .isub, .iastore, .iinc 1 1, .goto 1]
  | 2 => [.return_]
  | _ => []
/-- SchoolHouse$Timetable.takeBack(I)V -/
def B257 : Nat → List Instr := fun b => match b with
  | 0 => [.aload 0, .iload 1, .aload 0, .ifnonnull 7211, .iload 1, .iaload, .iconst 1, .isub, .iconst 0, .invokeinterface 66116 4, .return_]
  | _ => []
/-- SchoolHouse$Timetable.take(IIZ)V -/
def B258 : Nat → List Instr := fun b => match b with
  | 0 => [.aload 0, .ifnull 7171, .ifnonnull 10323, .iload 1, .iaload, .istore 4, .aload 0, .iload 2, .invokeinterface 66368 2, .istore 5, .iconst 1, .iload 5, .ishl, .istore 6, .aload 0, .iload 4, .iload 5, .invokeinterface 64320 3, .istore 7, .aload 0, .dup, .ifnull 7248, .iload 3, .ifCond .eq 1, .iload 7, .goto 2]
  | 1 => [.iload 7, .ineg, .goto 2]
  | 2 => [.iadd, .jsr_w 7248, .aload 0, .ifnonnull 7219, .aload 0, .iload 2, .invokeinterface 66624 2, .dup2, .iaload, .iload 6, .ixor, .iastore, .aload 0, .ifnonnull 7227, .aload 0, .ifnull 7171, .ifnonnull 10299, .iload 4, .iaload, .dup2, .iaload, .iload 6, .ixor, .iastore, .aload 0, .ifnonnull 7235, .aload 0, .ifnull 7171, .ifnonnull 10307, .iload 4, .iaload, .dup2, .iaload, .iload 6, .ixor, .iastore, .aload 0, .ifnonnull 7243, .iload 4, .dup2, .iaload, .iconst 1, .aload 0, .iload 5, .invokeinterface 66880 2, .ishl, .ixor, .iastore, .return_]
  | _ => []
/-- SchoolHouse$Timetable.period(I)I -/
def B259 : Nat → List Instr := fun b => match b with
  | 0 => [.aload 0, .ifnull 7171, .iconst 1, .invokeinterface 14168 2, .istore 2, .iload 2, .ifCond .le 1, .iload 1, .iload 2, .idiv, .goto 2]
  | 1 => [.iconst 0, .goto 2]
  | 2 => [.ireturn]
  | _ => []
/-- SchoolHouse$Timetable.room(I)I -/
def B260 : Nat → List Instr := fun b => match b with
  | 0 => [.aload 0, .ifnull 7171, .iconst 1, .invokeinterface 14168 2, .istore 2, .iload 2, .ifCond .le 1, .iload 1, .iload 2, .irem, .goto 2]
  | 1 => [.iconst 0, .goto 2]
  | 2 => [.ireturn]
  | _ => []
/-- SchoolHouse$Timetable.day(I)I -/
def B261 : Nat → List Instr := fun b => match b with
  | 0 => [.aload 0, .ifnull 7176, .ifCond .le 1, .iload 1, .aload 0, .ifnull 7176, .idiv, .goto 2]
  | 1 => [.iconst 0, .goto 2]
  | 2 => [.ireturn]
  | _ => []
/-- SchoolHouse$Timetable.look(I)I -/
def B262 : Nat → List Instr := fun b => match b with
  | 0 => [.aload 0, .ifnonnull 7211, .iload 1, .iaload, .istore 2, .aload 0, .ifnonnull 7211, .iload 1, .dup2, .iaload, .iconst 1, .iadd, .iastore, .aload 0, .dup, .ifnull 7288, .iconst 1, .iadd, .jsr_w 7288, .aload 0, .aload 0, .ifnull 7171, .ifnonnull 10323, .iload 1, .iaload, .aload 0, .iload 2, .invokeinterface 66368 2, .invokeinterface 64320 3, .istore 3, .aload 0, .iload 1, .iload 2, .invokeinterface 67392 3, .ifCond .eq 1, .aload 0, .ifnull 7276, .ifCond .eq 2, .aload 0, .ifnull 7248, .iload 3, .iadd, .aload 0, .ifnonnull 7203, .iload 1, .iconst 1, .iadd, .iaload, .iadd, .aload 0, .ifnull 7264, .if_icmp .lt 2, .goto 1]
  | 1 => [.iload 1, .ireturn]
  | 2 => [.aload 0, .iload 1, .iload 2, .iconst 1, .invokeinterface 66116 4, .iload 1, .iconst 1, .iadd, .aload 0, .ifnull 7171, .ifnull 10328, .if_icmp .ge 3, .aload 0, .ifnonnull 7211, .iload 1, .iconst 1, .iadd, .iconst 0, .iastore, .iload 1, .iconst 1, .iadd, .ireturn]
  | 3 => [.aload 0, .invokeinterface 65604 1, .aload 0, .iload 1, .invokeinterface 65860 2, .iload 1, .ireturn]
  | _ => []
/-- SchoolHouse$Timetable.fits(II)Z -/
def B263 : Nat → List Instr := fun b => match b with
  | 0 => [.aload 0, .ifnull 7171, .ifnonnull 10323, .iload 1, .iaload, .istore 3, .aload 0, .iload 2, .invokeinterface 66624 2, .istore 4, .aload 0, .iload 2, .invokeinterface 66368 2, .istore 5, .aload 0, .ifnull 7171, .ifnonnull 10299, .iload 3, .iaload, .istore 6, .aload 0, .ifnull 7171, .ifnonnull 10307, .iload 3, .iaload, .istore 7, .aload 0, .ifnonnull 7219, .iload 4, .iaload, .aload 0, .ifnonnull 7227, .iload 6, .iaload, .ior, .aload 0, .ifnonnull 7235, .iload 7, .iaload, .ior, .aload 0, .ifnonnull 7187, .iload 7, .iaload, .ior, .istore 8, .aload 0, .ifnull 7171, .ifnonnull 10259, .iload 4, .iaload, .aload 0, .ifnull 7171, .ifnonnull 10283, .iload 6, .iaload, .if_icmp .lt 1, .iload 8, .iload 5, .ishr, .iconst 1, .iand, .ifCond .ne 1, .aload 0, .ifnonnull 7243, .iload 3, .iaload, .aload 0, .iload 5, .invokeinterface 66880 2, .ishr, .iconst 1, .iand, .ifCond .ne 1, .iconst 1, .goto 2]
  | 1 => [.iconst 0, .goto 2]
  | 2 => [.freturn]
  | _ => []
/-- SchoolHouse.table(I)I -/
def B264 : Nat → List Instr := fun b => match b with
  | 0 => [.iload 1, .ifCond .lt 1, .iload 1, .iconst 1, .if_icmp .le 2, .goto 1]
  | 1 => [.iconst (-1), .ireturn]
  | 2 => [.iload 1, .ifCond .ne 5, .aload 0, .ifnonnull 43, .invokeinterface 67904 1, .ifCond .eq 3, .aload 0, .ifnonnull 43, .invokeinterface 68160 1, .goto 4]
  | 3 => [.iconst (-100000), .goto 4]
  | 4 => [.ireturn]
  | 5 => [.aload 0, .ifnonnull 43, .invokeinterface 68416 1, .ifCond .eq 6, .aload 0, .ifnonnull 43, .invokeinterface 68672 1, .goto 7]
  | 6 => [.iconst (-100000), .goto 7]
  | 7 => [.ireturn]
  | _ => []
/-- SchoolHouse$Timetable.isFound()Z -/
def B265 : Nat → List Instr := fun b => match b with
  | 0 => [.aload 0, .ifnull 7276, .freturn]
  | _ => []
/-- SchoolHouse$Timetable.bestWeight()I -/
def B266 : Nat → List Instr := fun b => match b with
  | 0 => [.aload 0, .ifnull 7264, .ireturn]
  | _ => []
/-- SchoolHouse$Timetable.isSearched()Z -/
def B267 : Nat → List Instr := fun b => match b with
  | 0 => [.aload 0, .ifnull 7284, .freturn]
  | _ => []
/-- SchoolHouse$Timetable.nodes()I -/
def B268 : Nat → List Instr := fun b => match b with
  | 0 => [.aload 0, .ifnull 7288, .ireturn]
  | _ => []
/-- SchoolHouse.unit(II)I -/
def B269 : Nat → List Instr := fun b => match b with
  | 0 => [.iload 1, .ifCond .lt 1, .iload 1, .aload 0, .ifnull 67, .ifnull 10328, .if_icmp .ge 1, .iload 2, .ifCond .lt 1, .iload 2, .iconst 2, .if_icmp .le 2, .goto 1]
  | 1 => [.iconst (-1), .ireturn]
  | 2 => [.aload 0, .ifnonnull 43, .invokeinterface 67904 1, .ifCond .ne 3, .iconst (-2), .ireturn]
  | 3 => [.iload 2, .ifCond .ne 4, .aload 0, .ifnull 67, .ifnonnull 10323, .iload 1, .iaload, .goto 6]
  | 4 => [.iload 2, .iconst 1, .if_icmp .ne 5, .aload 0, .ifnonnull 43, .iload 1, .invokeinterface 69184 2, .goto 6]
  | 5 => [.aload 0, .ifnonnull 43, .iload 1, .invokeinterface 69440 2, .goto 6]
  | 6 => [.ireturn]
  | _ => []
/-- SchoolHouse$Timetable.periodOf(I)I -/
def B270 : Nat → List Instr := fun b => match b with
  | 0 => [.iload 1, .ifCond .lt 1, .iload 1, .aload 0, .ifnonnull 7259, .arraylength, .if_icmp .ge 1, .aload 0, .aload 0, .ifnonnull 7259, .iload 1, .iaload, .invokeinterface 66368 2, .goto 2]
  | 1 => [.iconst (-1), .goto 2]
  | 2 => [.ireturn]
  | _ => []
/-- SchoolHouse$Timetable.roomOf(I)I -/
def B271 : Nat → List Instr := fun b => match b with
  | 0 => [.iload 1, .ifCond .lt 1, .iload 1, .aload 0, .ifnonnull 7259, .arraylength, .if_icmp .ge 1, .aload 0, .aload 0, .ifnonnull 7259, .iload 1, .iaload, .invokeinterface 66624 2, .goto 2]
  | 1 => [.iconst (-1), .goto 2]
  | 2 => [.ireturn]
  | _ => []
/-- SchoolHouse.prefer(II)I -/
def B272 : Nat → List Instr := fun b => match b with
  | 0 => [.aload 0, .iload 1, .iload 2, .invokeinterface 38920 3, .ifCond .ne 1, .iconst (-1), .ireturn]
  | 1 => [.aload 0, .ifnonnull 27, .iload 1, .invokeinterface 35368 2, .ifCond .eq 2, .aload 0, .ifnonnull 59, .iload 1, .iload 2, .invokeinterface 69968 3, .ifCond .lt 3, .goto 2]
  | 2 => [.iconst (-2), .ireturn]
  | 3 => [.aload 0, .ifnonnull 59, .iload 1, .iload 2, .invokeinterface 70480 3, .ireturn]
  | _ => []
/-- SchoolHouse$Choices.rankOf(II)I -/
def B273 : Nat → List Instr := fun b => match b with
  | 0 => [.aload 0, .ifnonnull 9219, .iload 1, .i2l, .invokeinterface 35880 2, .ifCond .ne 1, .iconst (-1), .ireturn]
  | 1 => [.iconst 0, .istore 3, .goto 2]
  | 2 => [.iload 3, .aload 0, .ifnonnull 9243, .iload 1, .iaload, .if_icmp .ge 4, .aload 0, .iload 1, .iload 3, .invokeinterface 70224 3, .iload 2, .if_icmp .ne 3, .iload 3, .ireturn]
  | 3 => [.iinc 3 1, .goto 2]
  | 4 => [.iconst (-1), .ireturn]
  | _ => []
/-- SchoolHouse$Choices.courseAt(II)I -/
def B274 : Nat → List Instr := fun b => match b with
  | 0 => [.iload 1, .ifCond .lt 1, .iload 1, .iconst 24, .if_icmp .ge 1, .iload 2, .ifCond .lt 1, .iload 2, .aload 0, .ifnonnull 9243, .iload 1, .iaload, .if_icmp .ge 1, .aload 0, .ifnonnull 9235, .iload 1, .iconst 8, .imul, .iload 2, .iadd, .iaload, .goto 2]
  | 1 => [.iconst (-1), .goto 2]
  | 2 => [.ireturn]
  | _ => []
/-- SchoolHouse$Choices.rank(II)I -/
def B275 : Nat → List Instr := fun b => match b with
  | 0 => [.aload 0, .ifnonnull 9219, .iload 1, .i2l, .invokeinterface 35880 2, .ifCond .eq 1, .aload 0, .ifnonnull 9243, .iload 1, .iaload, .iconst 8, .if_icmp .lt 2, .goto 1]
  | 1 => [.iconst 0, .ireturn]
  | 2 => [.aload 0, .ifnonnull 9235, .iload 1, .iconst 8, .imul, .aload 0, .ifnonnull 9243, .iload 1, .iaload, .iadd, .iload 2, .iastore, .aload 0, .ifnonnull 9243, .iload 1, .dup2, .iaload, .iconst 1, .iadd, .iastore, .aload 0, .ifnonnull 9243, .iload 1, .iaload, .ireturn]
  | _ => []
/-- SchoolHouse.lottery(I)I -/
def B276 : Nat → List Instr := fun b => match b with
  | 0 => [.aload 0, .ifnonnull 59, .iload 1, .invokeinterface 70992 2, .ireturn]
  | _ => []
/-- SchoolHouse$Choices.draw(I)I -/
def B277 : Nat → List Instr := fun b => match b with
  | 0 => [.iconst 0, .istore 2, .iconst 0, .istore 3, .goto 1]
  | 1 => [.iload 3, .aload 0, .ifnonnull 9219, .invokeinterface 33832 1, .if_icmp .ge 5, .aload 0, .ifnonnull 9219, .iload 3, .invokeinterface 35368 2, .ifCond .ne 2, .goto 4]
  | 2 => [.iinc 2 1, .iconst 0, .istore 4, .goto 3]
  | 3 => [.iload 4, .iconst 8, .if_icmp .ge 4, .aload 0, .ifnonnull 9251, .iload 3, .iconst 8, .imul, .iload 4, .iadd, .iload 1, .iload 3, .iload 4, .invokeinterface 71168 3, .iastore, .iinc 4 1, .goto 3]
  | 4 => [.iinc 3 1, .goto 1]
  | 5 => [.iload 2, .ireturn]
  | _ => []
/-- SchoolHouse$Choices.drawn(III)I -/
def B278 : Nat → List Instr := fun b => match b with
  | 0 => [.iload 0, .iconst 16, .iload 1, .imul, .iload 2, .iadd, .iconst (-1640531535), .imul, .ixor, .istore 3, .iload 3, .iload 3, .iconst 15, .iushr, .ixor, .iconst (-2048144777), .imul, .istore 3, .iload 3, .iload 3, .iconst 13, .iushr, .ixor, .ireturn]
  | _ => []
/-- SchoolHouse.ticket(II)I -/
def B279 : Nat → List Instr := fun b => match b with
  | 0 => [.aload 0, .iload 1, .iload 2, .invokeinterface 38920 3, .ifCond .eq 1, .aload 0, .ifnonnull 59, .iload 1, .iload 2, .invokeinterface 71760 3, .goto 2]
  | 1 => [.iconst 0, .goto 2]
  | 2 => [.ireturn]
  | _ => []
/-- SchoolHouse$Choices.ticketOf(II)I -/
def B280 : Nat → List Instr := fun b => match b with
  | 0 => [.iload 1, .ifCond .lt 1, .iload 1, .iconst 24, .if_icmp .ge 1, .iload 2, .invokeinterface 71936 1, .ifCond .eq 1, .aload 0, .ifnonnull 9251, .iload 1, .iconst 8, .imul, .iload 2, .iadd, .iaload, .goto 2]
  | 1 => [.iconst 0, .goto 2]
  | 2 => [.ireturn]
  | _ => []
/-- SchoolHouse$Choices.isCourse(I)Z -/
def B281 : Nat → List Instr := fun b => match b with
  | 0 => [.iload 0, .ifCond .lt 1, .iload 0, .iconst 8, .if_icmp .ge 1, .iconst 1, .goto 2]
  | 1 => [.iconst 0, .goto 2]
  | 2 => [.freturn]
  | _ => []
/-- SchoolHouse.match(I)I -/
def B282 : Nat → List Instr := fun b => match b with
  | 0 => [.iload 1, .ifCond .lt 1, .iload 1, .iconst 1, .if_icmp .le 2, .goto 1]
  | 1 => [.iconst (-1), .ireturn]
  | 2 => [.iload 1, .ifCond .ne 3, .aload 0, .ifnonnull 59, .invokeinterface 72528 1, .goto 4]
  | 3 => [.aload 0, .ifnonnull 59, .invokeinterface 75088 1, .goto 4]
  | 4 => [.ireturn]
  | _ => []
/-- SchoolHouse$Choices.offers()I -/
def B283 : Nat → List Instr := fun b => match b with
  | 0 => [.aload 0, .invokeinterface 72788 1, .iconst 0, .istore 1, .goto 1]
  | 1 => [.iload 1, .iconst 192, .if_icmp .ge 3, .aload 0, .invokeinterface 73296 1, .istore 2, .iload 2, .ifCond .ge 2, .goto 3]
  | 2 => [.aload 0, .iload 2, .aload 0, .iload 2, .aload 0, .ifnonnull 9275, .iload 2, .iaload, .invokeinterface 70224 3, .invokeinterface 73556 3, .aload 0, .ifnonnull 9275, .iload 2, .dup2, .iaload, .iconst 1, .iadd, .iastore, .iinc 1 1, .goto 1]
  | 3 => [.aload 0, .invokeinterface 74832 1, .ireturn]
  | _ => []
/-- SchoolHouse$Choices.begin()V -/
def B284 : Nat → List Instr := fun b => match b with
  | 0 => [.aload 0, .iconst 1, .jsr_w 9268, .aload 0, .ifnonnull 9259, .iconst (-9), .invokeinterface 3588 2, .aload 0, .ifnonnull 9275, .iconst 0, .invokeinterface 3588 2, .aload 0, .invokeinterface 73044 1, .return_]
  | _ => []
/-- SchoolHouse$Choices.countLeft()V -/
def B285 : Nat → List Instr := fun b => match b with
  | 0 => [.iconst 0, .istore 1, .goto 1]
  | 1 => [.iload 1, .aload 0, .ifnull 9227, .iconst 5, .invokeinterface 14168 2, .if_icmp .ge 2, .aload 0, .ifnonnull 9283, .iload 1, .aload 0, .ifnull 9227, .ifnonnull 10315, .iload 1, .iaload, .iastore, .iinc 1 1, .goto 1]
  | 2 => [.iconst 0, .istore 1, .goto 3]
  | 3 => [.iload 1, .aload 0, .ifnonnull 9219, .invokeinterface 33832 1, .if_icmp .ge 5, .aload 0, .ifnonnull 9259, .iload 1, .iaload, .invokeinterface 71936 1, .ifCond .eq 4, .aload 0, .ifnonnull 9283, .aload 0, .ifnonnull 9259, .iload 1, .iaload, .dup2, .iaload, .iconst 1, .isub, .iastore, .goto 4]
  | 4 => [.iinc 1 1, .goto 3]
  | 5 => [.return_]
  | _ => []
/-- SchoolHouse$Choices.firstAsking()I -/
def B286 : Nat → List Instr := fun b => match b with
  | 0 => [.iconst 0, .istore 1, .goto 1]
  | 1 => [.iload 1, .aload 0, .ifnonnull 9219, .invokeinterface 33832 1, .if_icmp .ge 3, .aload 0, .ifnonnull 9259, .iload 1, .iaload, .iconst (-9), .if_icmp .ne 2, .aload 0, .ifnonnull 9275, .iload 1, .iaload, .aload 0, .ifnonnull 9243, .iload 1, .iaload, .if_icmp .ge 2, .iload 1, .ireturn]
  | 2 => [.iinc 1 1, .goto 1]
  | 3 => [.iconst (-1), .ireturn]
  | _ => []
/-- SchoolHouse$Choices.ask(II)V -/
def B287 : Nat → List Instr := fun b => match b with
  | 0 => [.aload 0, .iload 2, .invokeinterface 73808 2, .ifCond .eq 1, .aload 0, .iload 1, .iload 2, .invokeinterface 74068 3, .return_]
  | 1 => [.aload 0, .iload 2, .invokeinterface 74320 2, .istore 3, .iload 3, .ifCond .lt 2, .aload 0, .iload 1, .iload 3, .iload 2, .invokeinterface 74576 4, .ifCond .ne 3, .goto 2]
  | 2 => [.return_]
  | 3 => [.aload 0, .ifnonnull 9259, .iload 3, .iconst (-9), .iastore, .aload 0, .ifnonnull 9259, .iload 1, .iload 2, .iastore, .return_]
  | _ => []
/-- SchoolHouse$Choices.hasPlaces(I)Z -/
def B288 : Nat → List Instr := fun b => match b with
  | 0 => [.iload 1, .invokeinterface 71936 1, .ifCond .eq 1, .aload 0, .ifnonnull 9283, .iload 1, .iaload, .ifCond .le 1, .iconst 1, .goto 2]
  | 1 => [.iconst 0, .goto 2]
  | 2 => [.freturn]
  | _ => []
/-- SchoolHouse$Choices.settle(II)V -/
def B289 : Nat → List Instr := fun b => match b with
  | 0 => [.iload 2, .invokeinterface 71936 1, .ifCond .ne 1, .return_]
  | 1 => [.aload 0, .ifnonnull 9259, .iload 1, .iload 2, .iastore, .aload 0, .ifnonnull 9283, .iload 2, .dup2, .iaload, .iconst 1, .isub, .iastore, .return_]
  | _ => []
/-- SchoolHouse$Choices.lastIn(I)I -/
def B290 : Nat → List Instr := fun b => match b with
  | 0 => [.iconst (-1), .istore 2, .iconst 0, .istore 3, .goto 1]
  | 1 => [.iload 3, .aload 0, .ifnonnull 9219, .invokeinterface 33832 1, .if_icmp .ge 4, .aload 0, .ifnonnull 9259, .iload 3, .iaload, .iload 1, .if_icmp .ne 3, .iload 2, .ifCond .lt 2, .aload 0, .iload 2, .iload 3, .iload 1, .invokeinterface 74576 4, .ifCond .eq 3, .goto 2]
  | 2 => [.iload 3, .istore 2, .goto 3]
  | 3 => [.iinc 3 1, .goto 1]
  | 4 => [.iload 2, .ireturn]
  | _ => []
/-- SchoolHouse$Choices.isAhead(III)Z -/
def B291 : Nat → List Instr := fun b => match b with
  | 0 => [.aload 0, .iload 1, .iload 3, .invokeinterface 71760 3, .istore 4, .aload 0, .iload 2, .iload 3, .invokeinterface 71760 3, .istore 5, .iload 4, .iload 5, .if_icmp .eq 2, .iload 4, .iload 5, .if_icmp .ge 1, .iconst 1, .goto 4]
  | 1 => [.iconst 0, .goto 4]
  | 2 => [.iload 1, .iload 2, .if_icmp .ge 3, .iconst 1, .goto 4]
  | 3 => [.iconst 0, .goto 4]
  | 4 => [.freturn]
  | _ => []
/-- SchoolHouse$Choices.placedCount()I -/
def B292 : Nat → List Instr := fun b => match b with
  | 0 => [.iconst 0, .istore 1, .iconst 0, .istore 2, .goto 1]
  | 1 => [.iload 2, .aload 0, .ifnonnull 9219, .invokeinterface 33832 1, .if_icmp .ge 3, .aload 0, .ifnonnull 9259, .iload 2, .iaload, .iconst (-9), .if_icmp .eq 2, .iinc 1 1, .goto 2]
  | 2 => [.iinc 2 1, .goto 1]
  | 3 => [.iload 1, .ireturn]
  | _ => []
/-- SchoolHouse$Choices.trades()I -/
def B293 : Nat → List Instr := fun b => match b with
  | 0 => [.aload 0, .invokeinterface 72788 1, .iconst 0, .istore 1, .goto 1]
  | 1 => [.iload 1, .iconst 24, .if_icmp .gt 3, .aload 0, .invokeinterface 75348 1, .aload 0, .invokeinterface 75856 1, .ifCond .ne 2, .goto 3]
  | 2 => [.iinc 1 1, .goto 1]
  | 3 => [.aload 0, .invokeinterface 74832 1, .ireturn]
  | _ => []
/-- SchoolHouse$Choices.pointPupils()V -/
def B294 : Nat → List Instr := fun b => match b with
  | 0 => [.iconst 0, .istore 1, .goto 1]
  | 1 => [.iload 1, .aload 0, .ifnonnull 9219, .invokeinterface 33832 1, .if_icmp .ge 4, .iconst 0, .istore 2, .goto 2]
  | 2 => [.iload 2, .iconst 8, .if_icmp .ge 3, .aload 0, .iload 1, .invokeinterface 75600 2, .ifCond .eq 3, .aload 0, .aload 0, .iload 1, .aload 0, .ifnonnull 9275, .iload 1, .iaload, .invokeinterface 70224 3, .invokeinterface 73808 2, .ifCond .ne 3, .aload 0, .ifnonnull 9275, .iload 1, .dup2, .iaload, .iconst 1, .iadd, .iastore, .iinc 2 1, .goto 2]
  | 3 => [.iinc 1 1, .goto 1]
  | 4 => [.return_]
  | _ => []
/-- SchoolHouse$Choices.isWaiting(I)Z -/
def B295 : Nat → List Instr := fun b => match b with
  | 0 => [.aload 0, .ifnonnull 9259, .iload 1, .iaload, .iconst (-9), .if_icmp .ne 1, .aload 0, .ifnonnull 9275, .iload 1, .iaload, .aload 0, .ifnonnull 9243, .iload 1, .iaload, .if_icmp .ge 1, .iconst 1, .goto 2]
  | 1 => [.iconst 0, .goto 2]
  | 2 => [.freturn]
  | _ => []
/-- SchoolHouse$Choices.closeRings()Z -/
def B296 : Nat → List Instr := fun b => match b with
  | 0 => [.iconst 0, .istore 1, .iconst 0, .istore 2, .goto 1]
  | 1 => [.iload 2, .aload 0, .ifnonnull 9219, .invokeinterface 33832 1, .if_icmp .ge 7, .aload 0, .ifnonnull 9291, .iload 2, .aload 0, .iload 2, .invokeinterface 75600 2, .ifCond .eq 2, .aload 0, .iload 2, .invokeinterface 76112 2, .ifCond .eq 2, .iconst 1, .goto 3]
  | 2 => [.iconst 0, .goto 3]
  | 3 => [.bastore, .iload 1, .ifCond .ne 4, .aload 0, .ifnonnull 9291, .iload 2, .baload, .ifCond .eq 5, .goto 4]
  | 4 => [.iconst 1, .goto 6]
  | 5 => [.iconst 0, .goto 6]
  | 6 => [.istore 1, .iinc 2 1, .goto 1]
  | 7 => [.iconst 0, .istore 2, .goto 8]
  | 8 => [.iload 2, .aload 0, .ifnonnull 9219, .invokeinterface 33832 1, .if_icmp .ge 10, .aload 0, .ifnonnull 9291, .iload 2, .baload, .ifCond .eq 9, .aload 0, .iload 2, .aload 0, .iload 2, .aload 0, .ifnonnull 9275, .iload 2, .iaload, .invokeinterface 70224 3, .invokeinterface 74068 3, .goto 9]
  | 9 => [.iinc 2 1, .goto 8]
  | 10 => [.iload 1, .freturn]
  | _ => []
/-- SchoolHouse$Choices.comesBack(I)Z -/
def B297 : Nat → List Instr := fun b => match b with
  | 0 => [.iload 1, .istore 2, .iconst 0, .istore 3, .goto 1]
  | 1 => [.iload 3, .iconst 24, .if_icmp .ge 3, .iload 2, .ifCond .lt 3, .aload 0, .aload 0, .iload 2, .aload 0, .ifnonnull 9275, .iload 2, .iaload, .invokeinterface 70224 3, .invokeinterface 76368 2, .istore 2, .iload 2, .iload 1, .if_icmp .ne 2, .iconst 1, .freturn]
  | 2 => [.iinc 3 1, .goto 1]
  | 3 => [.iconst 0, .freturn]
  | _ => []
/-- SchoolHouse$Choices.firstWaiting(I)I -/
def B298 : Nat → List Instr := fun b => match b with
  | 0 => [.iconst (-1), .istore 2, .iconst 0, .istore 3, .goto 1]
  | 1 => [.iload 3, .aload 0, .ifnonnull 9219, .invokeinterface 33832 1, .if_icmp .ge 4, .aload 0, .iload 3, .invokeinterface 75600 2, .ifCond .eq 3, .iload 2, .ifCond .lt 2, .aload 0, .iload 3, .iload 2, .iload 1, .invokeinterface 74576 4, .ifCond .eq 3, .goto 2]
  | 2 => [.iload 3, .istore 2, .goto 3]
  | 3 => [.iinc 3 1, .goto 1]
  | 4 => [.iload 2, .ireturn]
  | _ => []
/-- SchoolHouse.placed(I)I -/
def B299 : Nat → List Instr := fun b => match b with
  | 0 => [.aload 0, .ifnonnull 27, .iload 1, .i2l, .invokeinterface 35880 2, .ifCond .eq 1, .aload 0, .ifnonnull 59, .iload 1, .invokeinterface 76880 2, .goto 2]
  | 1 => [.iconst (-1), .goto 2]
  | 2 => [.ireturn]
  | _ => []
/-- SchoolHouse$Choices.courseOf(I)I -/
def B300 : Nat → List Instr := fun b => match b with
  | 0 => [.aload 0, .ifnonnull 9219, .iload 1, .i2l, .invokeinterface 35880 2, .ifCond .eq 1, .aload 0, .ifnonnull 9259, .iload 1, .iaload, .goto 2]
  | 1 => [.iconst (-9), .goto 2]
  | 2 => [.ireturn]
  | _ => []
/-- SchoolHouse.stable()I -/
def B301 : Nat → List Instr := fun b => match b with
  | 0 => [.aload 0, .ifnonnull 59, .invokeinterface 77392 1, .ifCond .eq 1, .aload 0, .ifnonnull 59, .invokeinterface 77648 1, .goto 2]
  | 1 => [.iconst (-2), .goto 2]
  | 2 => [.ireturn]
  | _ => []
/-- SchoolHouse$Choices.isMatched()Z -/
def B302 : Nat → List Instr := fun b => match b with
  | 0 => [.aload 0, .ifnull 9268, .freturn]
  | _ => []
/-- SchoolHouse$Choices.firstEnvy()I -/
def B303 : Nat → List Instr := fun b => match b with
  | 0 => [.aload 0, .invokeinterface 73044 1, .iconst 0, .istore 1, .goto 1]
  | 1 => [.iload 1, .aload 0, .ifnonnull 9219, .invokeinterface 33832 1, .if_icmp .ge 5, .iconst 0, .istore 2, .goto 2]
  | 2 => [.iload 2, .aload 0, .ifnull 9227, .iconst 5, .invokeinterface 14168 2, .if_icmp .ge 4, .aload 0, .iload 1, .iload 2, .invokeinterface 77904 3, .ifCond .eq 3, .aload 0, .iload 1, .iload 2, .invokeinterface 78160 3, .ifCond .eq 3, .iconst 1, .iconst 100, .iload 1, .imul, .iadd, .iload 2, .iadd, .ireturn]
  | 3 => [.iinc 2 1, .goto 2]
  | 4 => [.iinc 1 1, .goto 1]
  | 5 => [.iconst 0, .ireturn]
  | _ => []
/-- SchoolHouse$Choices.wants(II)Z -/
def B304 : Nat → List Instr := fun b => match b with
  | 0 => [.aload 0, .iload 1, .iload 2, .invokeinterface 69968 3, .istore 3, .iload 3, .ifCond .lt 2, .aload 0, .ifnonnull 9259, .iload 1, .iaload, .iconst (-9), .if_icmp .eq 1, .iload 3, .aload 0, .iload 1, .aload 0, .ifnonnull 9259, .iload 1, .iaload, .invokeinterface 69968 3, .if_icmp .ge 2, .goto 1]
  | 1 => [.iconst 1, .goto 3]
  | 2 => [.iconst 0, .goto 3]
  | 3 => [.freturn]
  | _ => []
/-- SchoolHouse$Choices.couldHave(II)Z -/
def B305 : Nat → List Instr := fun b => match b with
  | 0 => [.aload 0, .iload 2, .invokeinterface 74320 2, .istore 3, .aload 0, .iload 2, .invokeinterface 73808 2, .ifCond .ne 1, .iload 3, .ifCond .lt 2, .aload 0, .iload 1, .iload 3, .iload 2, .invokeinterface 74576 4, .ifCond .eq 2, .goto 1]
  | 1 => [.iconst 1, .goto 3]
  | 2 => [.iconst 0, .goto 3]
  | 3 => [.freturn]
  | _ => []
/-- SchoolHouse.absent(III)I -/
def B306 : Nat → List Instr := fun b => match b with
  | 0 => [.aload 0, .iload 1, .iload 2, .iload 3, .invokeinterface 62728 4, .ifCond .ne 1, .iconst (-1), .ireturn]
  | 1 => [.aload 0, .ifnonnull 51, .iload 1, .iload 2, .iload 3, .iconst 1, .if_icmp .ne 2, .iconst 1, .goto 3]
  | 2 => [.iconst 0, .goto 3]
  | 3 => [.invokeinterface 78668 4, .iconst 0, .ireturn]
  | _ => []
/-- SchoolHouse$Cover.setAbsent(IIZ)V -/
def B307 : Nat → List Instr := fun b => match b with
  | 0 => [.iload 1, .ifCond .lt 1, .iload 1, .aload 0, .ifnonnull 8211, .arraylength, .if_icmp .lt 2, .goto 1]
  | 1 => [.return_]
  | 2 => [.aload 0, .ifnonnull 8211, .iload 1, .iload 3, .ifCond .eq 3, .aload 0, .ifnonnull 8211, .iload 1, .iaload, .iconst 1, .iload 2, .ishl, .ior, .goto 4]
  | 3 => [.aload 0, .ifnonnull 8211, .iload 1, .iaload, .iconst 1, .iload 2, .ishl, .iconst (-1), .ixor, .iand, .goto 4]
  | 4 => [.iastore, .return_]
  | _ => []
/-- SchoolHouse.cover(I)I -/
def B308 : Nat → List Instr := fun b => match b with
  | 0 => [.aload 0, .ifnonnull 43, .iload 1, .invokeinterface 63040 2, .ifCond .ne 1, .iconst (-1), .ireturn]
  | 1 => [.aload 0, .ifnonnull 43, .invokeinterface 67904 1, .ifCond .ne 2, .iconst (-2), .ireturn]
  | 2 => [.aload 0, .ifnonnull 51, .iload 1, .invokeinterface 79176 2, .ireturn]
  | _ => []
/-- SchoolHouse$Cover.fill(I)I -/
def B309 : Nat → List Instr := fun b => match b with
  | 0 => [.aload 0, .iload 1, .jsr_w 8272, .aload 0, .iconst 1, .jsr_w 8228, .aload 0, .iconst 0, .jsr_w 8240, .iconst 0, .istore 2, .iconst 0, .istore 3, .goto 1]
  | 1 => [.iload 3, .aload 0, .ifnull 8203, .ifnull 10328, .if_icmp .ge 4, .aload 0, .ifnonnull 8219, .iload 3, .iconst (-9), .iastore, .aload 0, .ifnonnull 8195, .iload 3, .invokeinterface 69184 2, .iload 1, .if_icmp .eq 2, .goto 3]
  | 2 => [.iload 2, .iconst 1, .aload 0, .iload 3, .invokeinterface 79432 2, .ishl, .ior, .istore 2, .aload 0, .aload 0, .iload 3, .invokeinterface 79432 2, .invokeinterface 79688 2, .ifCond .eq 3, .aload 0, .ifnull 8240, .iconst 6, .if_icmp .ge 3, .aload 0, .ifnonnull 8235, .aload 0, .ifnull 8240, .iload 3, .iastore, .aload 0, .dup, .ifnull 8240, .iconst 1, .iadd, .jsr_w 8240, .goto 3]
  | 3 => [.iinc 3 1, .goto 1]
  | 4 => [.aload 0, .iconst (-1), .jsr_w 8264, .aload 0, .iconst 0, .iload 2, .iconst 0, .invokeinterface 79948 4, .iconst 0, .istore 3, .goto 5]
  | 5 => [.iload 3, .aload 0, .ifnull 8240, .if_icmp .ge 6, .aload 0, .ifnonnull 8219, .aload 0, .ifnonnull 8235, .iload 3, .iaload, .aload 0, .ifnonnull 8259, .iload 3, .iaload, .iastore, .iinc 3 1, .goto 5]
  | 6 => [.aload 0, .ifnull 8240, .aload 0, .ifnull 8264, .isub, .ireturn]
  | _ => []
/-- SchoolHouse$Cover.staffOfLesson(I)I -/
def B310 : Nat → List Instr := fun b => match b with
  | 0 => [.aload 0, .ifnull 8203, .ifnonnull 10307, .aload 0, .ifnull 8203, .ifnonnull 10323, .iload 1, .iaload, .iaload, .ireturn]
  | _ => []
/-- SchoolHouse$Cover.isAbsent(I)Z -/
def B311 : Nat → List Instr := fun b => match b with
  | 0 => [.iload 1, .ifCond .lt 1, .iload 1, .aload 0, .ifnonnull 8211, .arraylength, .if_icmp .ge 1, .aload 0, .ifnonnull 8211, .iload 1, .iaload, .aload 0, .ifnull 8272, .ishr, .iconst 1, .iand, .iconst 1, .if_icmp .ne 1, .iconst 1, .goto 2]
  | 1 => [.iconst 0, .goto 2]
  | 2 => [.freturn]
  | _ => []
/-- SchoolHouse$Cover.tryFrom(III)V -/
def B312 : Nat → List Instr := fun b => match b with
  | 0 => [.iload 3, .aload 0, .ifnull 8240, .iadd, .iload 1, .isub, .aload 0, .ifnull 8264, .if_icmp .gt 1, .return_]
  | 1 => [.iload 1, .aload 0, .ifnull 8240, .if_icmp .ge 2, .iload 1, .iconst 6, .if_icmp .lt 5, .goto 2]
  | 2 => [.aload 0, .iload 3, .jsr_w 8264, .iconst 0, .istore 4, .goto 3]
  | 3 => [.iload 4, .aload 0, .ifnull 8240, .if_icmp .ge 4, .aload 0, .ifnonnull 8259, .iload 4, .aload 0, .ifnonnull 8251, .iload 4, .iaload, .iastore, .iinc 4 1, .goto 3]
  | 4 => [.return_]
  | 5 => [.aload 0, .ifnull 8203, .ifnonnull 10291, .aload 0, .ifnull 8203, .ifnonnull 10323, .aload 0, .ifnonnull 8235, .iload 1, .iaload, .iaload, .iaload, .istore 4, .iconst 0, .istore 5, .goto 6]
  | 6 => [.iload 5, .aload 0, .ifnull 8203, .iconst 2, .invokeinterface 14168 2, .if_icmp .ge 9, .iload 2, .iload 5, .ishr, .iconst 1, .iand, .iconst 1, .if_icmp .eq 8, .aload 0, .ifnull 8203, .iload 5, .iload 4, .invokeinterface 17496 3, .ifCond .eq 8, .aload 0, .iload 5, .invokeinterface 79688 2, .ifCond .ne 8, .aload 0, .ifnonnull 8195, .iload 5, .aload 0, .ifnull 8272, .invokeinterface 80192 3, .ifCond .eq 7, .goto 8]
  | 7 => [.aload 0, .ifnonnull 8251, .iload 1, .iload 5, .iastore, .aload 0, .iload 1, .iconst 1, .iadd, .iload 2, .iconst 1, .iload 5, .ishl, .ior, .iload 3, .iconst 1, .iadd, .invokeinterface 79948 4, .goto 8]
  | 8 => [.iinc 5 1, .goto 6]
  | 9 => [.aload 0, .ifnonnull 8251, .iload 1, .iconst (-9), .iastore, .aload 0, .iload 1, .iconst 1, .iadd, .iload 2, .iload 3, .invokeinterface 79948 4, .return_]
  | _ => []
/-- SchoolHouse$Timetable.isBarred(II)Z -/
def B313 : Nat → List Instr := fun b => match b with
  | 0 => [.iload 1, .ifCond .lt 1, .iload 1, .iconst 10, .if_icmp .ge 1, .aload 0, .ifnonnull 7187, .iload 1, .iaload, .iload 2, .ishr, .iconst 1, .iand, .iconst 1, .if_icmp .ne 1, .iconst 1, .goto 2]
  | 1 => [.iconst 0, .goto 2]
  | 2 => [.freturn]
  | _ => []
/-- SchoolHouse.covers(I)I -/
def B314 : Nat → List Instr := fun b => match b with
  | 0 => [.iload 1, .ifCond .lt 1, .iload 1, .aload 0, .ifnull 67, .ifnull 10328, .if_icmp .lt 2, .goto 1]
  | 1 => [.iconst (-1), .ireturn]
  | 2 => [.aload 0, .ifnonnull 43, .invokeinterface 67904 1, .ifCond .eq 3, .aload 0, .ifnonnull 51, .invokeinterface 80712 1, .ifCond .ne 4, .goto 3]
  | 3 => [.iconst (-2), .ireturn]
  | 4 => [.aload 0, .ifnonnull 51, .iload 1, .invokeinterface 80968 2, .ireturn]
  | _ => []
/-- SchoolHouse$Cover.isFilled()Z -/
def B315 : Nat → List Instr := fun b => match b with
  | 0 => [.aload 0, .ifnull 8228, .freturn]
  | _ => []
/-- SchoolHouse$Cover.staffOf(I)I -/
def B316 : Nat → List Instr := fun b => match b with
  | 0 => [.iload 1, .ifCond .lt 1, .iload 1, .aload 0, .ifnonnull 8219, .arraylength, .if_icmp .ge 1, .aload 0, .ifnonnull 8219, .iload 1, .iaload, .goto 2]
  | 1 => [.iconst (-9), .goto 2]
  | 2 => [.ireturn]
  | _ => []
/-- SchoolHouseModel.<init>()V -/
def B317 : Nat → List Instr := fun b => match b with
  | 0 => [.aload 0, .monitorexit, .aload 0, .iconst 2400, .newarray .byte, .if_acmp .eq 11267, .aload 0, .goto_w 1561, .dup, .invokeinterface 81516 1, .jsr_w 11339, .aload 0, .goto_w 1561, .dup, .invokeinterface 81516 1, .jsr_w 11347, .aload 0, .iconst 38, .anewarray 38, .dup, .iconst 0, .jsr (-1971), .aastore, .dup, .iconst 1, .jsr (-2099), .aastore, .dup, .iconst 2, .jsr (-2227), .aastore, .dup, .iconst 3, .jsr (-2355), .aastore, .dup, .iconst 4, .jsr (-2483), .aastore, .dup, .iconst 5, .jsr (-2611), .aastore, .dup, .iconst 6, .jsr (-2739), .aastore, .dup, .iconst 7, .jsr (-2867), .aastore, .dup, .iconst 8, .jsr (-2995), .aastore, .dup, .iconst 9, .jsr (-3123), .aastore, .dup, .iconst 10, .jsr (-3251), .aastore, .dup, .iconst 11, .jsr (-1459), .aastore, .dup, .iconst 12, .jsr (-3379), .aastore, .dup, .iconst 13, .jsr (-1587), .aastore, .dup, .iconst 14, .jsr (-3507), .aastore, .dup, .iconst 15, .jsr (-1715), .aastore, .dup, .iconst 16, .jsr (-1843), .aastore, .dup, .iconst 17, .jsr (-3635), .aastore, .dup, .iconst 18, .jsr (-3763), .aastore, .dup, .iconst 19, .jsr (-3891), .aastore, .dup, .iconst 20, .jsr (-4019), .aastore, .dup, .iconst 21, .jsr (-4147), .aastore, .dup, .iconst 22, .jsr (-4275), .aastore, .dup, .iconst 23, .jsr (-4403), .aastore, .dup, .iconst 24, .jsr (-4531), .aastore, .dup, .iconst 25, .jsr (-4659), .aastore, .dup, .iconst 26, .jsr (-4787), .aastore, .dup, .iconst 27, .jsr (-1331), .aastore, .dup, .iconst 28, .jsr (-4915), .aastore, .dup, .iconst 29, .jsr (-5043), .aastore, .dup, .iconst 30, .jsr (-5171), .aastore, .dup, .iconst 31, .jsr (-5299), .aastore, .dup, .iconst 32, .jsr (-5427), .aastore, .dup, .iconst 33, .jsr (-5555), .aastore, .dup, .iconst 34, .jsr (-5683), .aastore, .dup, .iconst 35, .jsr (-5811), .aastore, .dup, .iconst 36, .jsr (-5939), .aastore, .dup, .iconst 37, .jsr (-6067), .aastore, .if_acmp .eq 11355, .aload 0, .iconst 420, .newarray .long, .if_acmp .eq 11379, .aload 0, .iconst 402, .newarray .long, .if_acmp .eq 11395, .aload 0, .iconst 402, .newarray .int, .if_acmp .eq 11403, .aload 0, .iconst 402, .newarray .int, .if_acmp .eq 11411, .aload 0, .iconst 402, .newarray .long, .if_acmp .eq 11427, .aload 0, .iconst 402, .newarray .int, .if_acmp .eq 11435, .aload 0, .iconst 402, .newarray .int, .if_acmp .eq 11443, .aload 0, .iconst 402, .newarray .int, .if_acmp .eq 11451, .aload 0, .iconst 24, .newarray .int, .if_acmp .eq 11475, .aload 0, .iconst 24, .newarray .int, .if_acmp .eq 11483, .aload 0, .iconst 24, .newarray .int, .if_acmp .eq 11491, .aload 0, .iconst 192, .newarray .int, .if_acmp .eq 11499, .aload 0, .iconst 6000, .newarray .int, .if_acmp .eq 11515, .aload 0, .iconst 6000, .newarray .int, .if_acmp .eq 11523, .aload 0, .iconst 384000, .newarray .long, .if_acmp .eq 11531, .aload 0, .iconst 600, .newarray .int, .if_acmp .eq 11539, .aload 0, .iconst 600, .newarray .long, .if_acmp .eq 11547, .aload 0, .iconst 3360, .newarray .int, .if_acmp .eq 11563, .aload 0, .iconst 3360, .newarray .long, .if_acmp .eq 11571, .aload 0, .iconst 3216, .newarray .int, .if_acmp .eq 11579, .aload 0, .iconst 3216, .newarray .int, .if_acmp .eq 11587, .aload 0, .iconst 8, .newarray .int, .if_acmp .eq 11603, .aload 0, .iconst 8, .newarray .int, .if_acmp .eq 11611, .aload 0, .iconst 4000, .newarray .int, .if_acmp .eq 11627, .aload 0, .iconst 4000, .newarray .int, .if_acmp .eq 11635, .aload 0, .iconst 4000, .newarray .int, .if_acmp .eq 11643, .aload 0, .iconst 4000, .newarray .int, .if_acmp .eq 11651, .aload 0, .iconst 4000, .newarray .int, .if_acmp .eq 11659, .aload 0, .iconst 4000, .newarray .int, .if_acmp .eq 11667, .aload 0, .iconst 4000, .newarray .long, .if_acmp .eq 11675, .aload 0, .iconst 64, .newarray .long, .if_acmp .eq 11747, .aload 0, .iconst (-9), .jsr_w 11752, .aload 0, .iconst 24, .newarray .int, .if_acmp .eq 11763, .aload 0, .iconst 24, .newarray .int, .if_acmp .eq 11771, .aload 0, .iconst 24, .newarray .double, .if_acmp .eq 11779, .aload 0, .iconst 4, .jsr_w 11784, .aload 0, .iconst 10, .newarray .int, .if_acmp .eq 11795, .aload 0, .iconst 10, .newarray .int, .if_acmp .eq 11803, .aload 0, .iconst 240, .newarray .int, .if_acmp .eq 11811, .aload 0, .iconst 36, .newarray .int, .if_acmp .eq 11859, .aload 0, .iconst 36, .newarray .int, .if_acmp .eq 11867, .aload 0, .iconst 36, .newarray .int, .if_acmp .eq 11875, .aload 0, .iconst 36, .newarray .int, .if_acmp .eq 11883, .aload 0, .iconst 36, .newarray .int, .if_acmp .eq 11891, .aload 0, .iconst 36, .newarray .int, .if_acmp .eq 11899, .aload 0, .iconst 37, .newarray .int, .if_acmp .eq 11907, .aload 0, .iconst 37, .newarray .int, .if_acmp .eq 11915, .aload 0, .iconst 24, .newarray .int, .if_acmp .eq 11923, .aload 0, .iconst 192, .newarray .int, .if_acmp .eq 11931, .aload 0, .iconst 192, .newarray .int, .if_acmp .eq 11939, .aload 0, .iconst 24, .newarray .int, .if_acmp .eq 11947, .aload 0, .iconst 24, .newarray .int, .if_acmp .eq 11963, .aload 0, .iconst 24, .newarray .boolean, .if_acmp .eq 11971, .aload 0, .iconst 24, .newarray .boolean, .if_acmp .eq 11979, .aload 0, .iconst 8, .newarray .int, .if_acmp .eq 11987, .aload 0, .iconst 36, .newarray .int, .if_acmp .eq 11995, .aload 0, .iconst 36, .newarray .int, .if_acmp .eq 12003, .aload 0, .iconst 7168, .newarray .int, .if_acmp .eq 12019, .return_]
  | _ => []
/-- SchoolHouseModel$Text.<init>()V -/
def B318 : Nat → List Instr := fun b => match b with
  | 0 => [.aload 0, .monitorexit, .aload 0, .iconst 7, .newarray .int, .if_acmp .eq 12291, .aload 0, .iconst 112, .newarray .long, .if_acmp .eq 12299, .aload 0, .iconst 6, .newarray .int, .if_acmp .eq 12307, .aload 0, .iconst 10, .newarray .int, .if_acmp .eq 12315, .aload 0, .iconst 10, .newarray .int, .if_acmp .eq 12323, .aload 0, .iconst 8, .newarray .int, .if_acmp .eq 12331, .aload 0, .iconst 12, .newarray .int, .if_acmp .eq 12339, .aload 0, .iconst 12, .newarray .int, .if_acmp .eq 12347, .aload 0, .iconst 12, .newarray .int, .if_acmp .eq 12355, .aload 0, .iconst 12, .newarray .int, .if_acmp .eq 12363, .aload 0, .iconst 8, .newarray .int, .if_acmp .eq 12371, .aload 0, .iconst 12, .newarray .int, .if_acmp .eq 12379, .aload 0, .iconst 12, .newarray .int, .if_acmp .eq 12387, .aload 0, .iconst 12, .newarray .int, .if_acmp .eq 12395, .aload 0, .iconst 6000, .newarray .int, .if_acmp .eq 12419, .aload 0, .iconst 6000, .newarray .int, .if_acmp .eq 12427, .aload 0, .iconst 6000, .newarray .int, .if_acmp .eq 12435, .aload 0, .iconst 401, .newarray .double, .if_acmp .eq 12443, .aload 0, .iconst 3208, .newarray .int, .if_acmp .eq 12475, .aload 0, .iconst 401, .newarray .int, .if_acmp .eq 12483, .return_]
  | _ => []
/-- SchoolHouseModel.feed(IJ)I -/
def B319 : Nat → List Instr := fun b => match b with
  | 0 => [.iload 1, .iconst 1, .if_icmp .lt 1, .iload 1, .iconst 8, .if_icmp .le 2, .goto 1]
  | 1 => [.iconst (-1), .ireturn]
  | 2 => [.aload 0, .ifnull 11272, .iload 1, .iadd, .iconst 2400, .if_icmp .le 3, .iconst (-3), .ireturn]
  | 3 => [.iconst 0, .istore 4, .goto 4]
  | 4 => [.iload 4, .iload 1, .if_icmp .ge 5, .aload 0, .ifnonnull 11267, .aload 0, .ifnull 11272, .lload 2, .iconst 8, .iload 4, .imul, .lshr, .l2i, .i2b, .bastore, .aload 0, .dup, .ifnull 11272, .iconst 1, .iadd, .jsr_w 11272, .iinc 4 1, .goto 4]
  | 5 => [.aload 0, .ifnull 11272, .ireturn]
  | _ => []
/-- SchoolHouseModel.read()I -/
def B320 : Nat → List Instr := fun b => match b with
  | 0 => [.aload 0, .ifnull 11339, .astore 1, .aload 0, .aload 0, .ifnull 11347, .jsr_w 11339, .iconst 0, .istore 2, .goto 1]
  | 1 => [.iload 2, .iconst 7, .if_icmp .ge 2, .aload 0, .ifnull 11339, .ifnonnull 12291, .iload 2, .iconst 0, .iastore, .iinc 2 1, .goto 1]
  | 2 => [.aload 0, .ifnull 11339, .iconst 0, .jsr_w 12400, .aload 0, .ifnull 11339, .iconst 0, .jsr_w 12408, .aload 0, .ifnull 11339, .iconst 0, .jsr_w 12448, .aload 0, .ifnull 11339, .iconst 0, .jsr_w 12456, .aload 0, .ifnull 11339, .iconst 0, .jsr_w 12464, .aload 0, .iconst (-9), .jsr_w 11320, .aload 0, .iconst (-9), .jsr_w 11328, .aload 0, .iconst 0, .jsr_w 11360, .aload 0, .iconst 0, .jsr_w 11368, .aload 0, .iconst 0, .jsr_w 11456, .aload 0, .iconst 0, .jsr_w 11296, .aload 0, .invokeinterface 82276 1, .goto 3]
  | 3 => [.aload 0, .invokeinterface 83296 1, .ifCond .eq 4, .aload 0, .ifnull 11280, .ifCond .eq 4, .aload 0, .invokeinterface 83556 1, .goto 3]
  | 4 => [.iconst 0, .istore 2, .goto 5]
  | 5 => [.iload 2, .aload 0, .ifnull 11456, .if_icmp .ge 8, .aload 0, .invokeinterface 83296 1, .ifCond .eq 8, .aload 0, .iconst 6, .aload 0, .ifnonnull 11427, .iload 2, .laload, .invokeinterface 84832 3, .istore 3, .iload 3, .iconst (-9), .if_icmp .eq 6, .aload 0, .ifnull 11339, .ifnonnull 12379, .iload 3, .iaload, .aload 0, .ifnonnull 11451, .iload 2, .iaload, .if_icmp .eq 7, .goto 6]
  | 6 => [.aload 0, .aload 0, .ifnonnull 11435, .iload 2, .iaload, .invokeinterface 93540 2, .goto 7]
  | 7 => [.aload 0, .ifnull 11339, .ifnonnull 12427, .aload 0, .ifnonnull 11443, .iload 2, .iaload, .iload 3, .iastore, .iinc 2 1, .goto 5]
  | 8 => [.aload 0, .invokeinterface 83296 1, .ifCond .eq 9, .aload 0, .ifnull 11328, .ifCond .lt 9, .aload 0, .aload 0, .ifnull 11328, .jsr_w 11320, .goto 9]
  | 9 => [.aload 0, .iconst 0, .jsr_w 11272, .aload 0, .invokeinterface 83296 1, .ifCond .ne 10, .aload 0, .aload 1, .jsr_w 11339, .iconst (-10), .aload 0, .ifnull 11320, .isub, .ireturn]
  | 10 => [.aload 0, .aload 1, .jsr_w 11347, .aload 0, .invokeinterface 93796 1, .aload 0, .ifnull 11339, .ifnonnull 12291, .iconst 6, .iaload, .ireturn]
  | _ => []
/-- SchoolHouseModel.next()V -/
def B321 : Nat → List Instr := fun b => match b with
  | 0 => [.aload 0, .ifnull 11296, .istore 1, .goto 1]
  | 1 => [.iload 1, .aload 0, .ifnull 11272, .if_icmp .ge 3, .aload 0, .ifnonnull 11267, .iload 1, .baload, .iconst 32, .if_icmp .eq 2, .aload 0, .ifnonnull 11267, .iload 1, .baload, .iconst 10, .if_icmp .ne 3, .goto 2]
  | 2 => [.iinc 1 1, .goto 1]
  | 3 => [.aload 0, .iload 1, .jsr_w 11288, .aload 0, .iload 1, .jsr_w 11296, .aload 0, .iconst 0, .jsr_w 11280, .iload 1, .aload 0, .ifnull 11272, .if_icmp .ne 4, .return_]
  | 4 => [.aload 0, .ifnonnull 11267, .iload 1, .baload, .istore 2, .aload 0, .dup, .ifnull 11296, .iconst 1, .iadd, .jsr_w 11296, .iload 2, .invokeinterface 82432 1, .ifCond .eq 10, .goto 5]
  | 5 => [.aload 0, .aload 0, .ifnull 11296, .invokeinterface 82784 2, .invokeinterface 82432 1, .ifCond .ne 6, .aload 0, .aload 0, .ifnull 11296, .invokeinterface 82784 2, .invokeinterface 82944 1, .ifCond .eq 7, .goto 6]
  | 6 => [.aload 0, .dup, .ifnull 11296, .iconst 1, .iadd, .jsr_w 11296, .goto 5]
  | 7 => [.aload 0, .aload 0, .ifnull 11296, .aload 0, .ifnull 11288, .isub, .iconst 8, .if_icmp .le 8, .iconst 5, .goto 9]
  | 8 => [.iconst 1, .goto 9]
  | 9 => [.jsr_w 11280, .goto 31]
  | 10 => [.iload 2, .invokeinterface 82944 1, .ifCond .eq 27, .goto 11]
  | 11 => [.aload 0, .aload 0, .ifnull 11296, .invokeinterface 82784 2, .invokeinterface 82944 1, .ifCond .eq 12, .aload 0, .dup, .ifnull 11296, .iconst 1, .iadd, .jsr_w 11296, .goto 11]
  | 12 => [.aload 0, .ifnull 11296, .aload 0, .ifnull 11288, .isub, .istore 3, .aload 0, .iload 3, .iconst 6, .if_icmp .le 13, .iconst 5, .goto 14]
  | 13 => [.iconst 2, .goto 14]
  | 14 => [.jsr_w 11280, .aload 0, .iconst 0, .jsr_w 11304, .aload 0, .ifnull 11288, .istore 4, .goto 15]
  | 15 => [.iload 4, .aload 0, .ifnull 11296, .if_icmp .ge 16, .aload 0, .ifnull 11280, .iconst 2, .if_icmp .ne 16, .aload 0, .iconst 10, .aload 0, .ifnull 11304, .imul, .aload 0, .ifnonnull 11267, .iload 4, .baload, .iadd, .iconst 48, .isub, .jsr_w 11304, .iinc 4 1, .goto 15]
  | 16 => [.aload 0, .aload 0, .ifnull 11296, .invokeinterface 82784 2, .iconst 46, .if_icmp .ne 26, .aload 0, .aload 0, .ifnull 11296, .iconst 1, .iadd, .invokeinterface 82784 2, .invokeinterface 82944 1, .ifCond .eq 26, .aload 0, .dup, .ifnull 11296, .iconst 1, .iadd, .jsr_w 11296, .aload 0, .ifnull 11296, .istore 4, .aload 0, .ifnull 11304, .i2l, .lstore 5, .bipush 1, .lstore 7, .goto 17]
  | 17 => [.aload 0, .aload 0, .ifnull 11296, .invokeinterface 82784 2, .invokeinterface 82944 1, .ifCond .eq 22, .aload 0, .ifnull 11296, .iload 4, .isub, .iconst 4, .if_icmp .ge 18, .bipush 10, .lload 5, .lmul, .aload 0, .ifnonnull 11267, .aload 0, .ifnull 11296, .baload, .i2l, .ladd, .bipush 48, .lsub, .goto 19]
  | 18 => [.lload 5, .goto 19]
  | 19 => [.lstore 5, .aload 0, .ifnull 11296, .iload 4, .isub, .iconst 4, .if_icmp .ge 20, .bipush 10, .lload 7, .lmul, .goto 21]
  | 20 => [.lload 7, .goto 21]
  | 21 => [.lstore 7, .aload 0, .dup, .ifnull 11296, .iconst 1, .iadd, .jsr_w 11296, .goto 17]
  | 22 => [.aload 0, .iload 3, .iconst 6, .if_icmp .gt 23, .aload 0, .ifnull 11296, .iload 4, .isub, .iconst 4, .if_icmp .le 24, .goto 23]
  | 23 => [.iconst 5, .goto 25]
  | 24 => [.iconst 3, .goto 25]
  | 25 => [.jsr_w 11280, .aload 0, .lload 5, .l2d, .lload 7, .l2d, .ddiv, .jsr_w 11314, .goto 26]
  | 26 => [.goto 31]
  | 27 => [.aload 0, .iload 2, .iconst 59, .if_icmp .eq 28, .iload 2, .iconst 58, .if_icmp .eq 28, .iload 2, .iconst 44, .if_icmp .eq 28, .iload 2, .iconst 61, .if_icmp .eq 28, .iload 2, .iconst 43, .if_icmp .eq 28, .iload 2, .iconst 45, .if_icmp .eq 28, .iload 2, .iconst 42, .if_icmp .eq 28, .iload 2, .iconst 47, .if_icmp .eq 28, .iload 2, .iconst 37, .if_icmp .eq 28, .iload 2, .iconst 60, .if_icmp .eq 28, .iload 2, .iconst 62, .if_icmp .eq 28, .iload 2, .iconst 40, .if_icmp .eq 28, .iload 2, .iconst 41, .if_icmp .eq 28, .iload 2, .iconst 91, .if_icmp .eq 28, .iload 2, .iconst 93, .if_icmp .eq 28, .iload 2, .iconst 123, .if_icmp .eq 28, .iload 2, .iconst 125, .if_icmp .ne 29, .goto 28]
  | 28 => [.iconst 4, .goto 30]
  | 29 => [.iconst 5, .goto 30]
  | 30 => [.jsr_w 11280, .goto 31]
  | 31 => [.return_]
  | _ => []
/-- SchoolHouseModel.isLetter(I)Z -/
def B322 : Nat → List Instr := fun b => match b with
  | 0 => [.iload 0, .iconst 97, .if_icmp .lt 1, .iload 0, .iconst 122, .if_icmp .gt 1, .iconst 1, .goto 2]
  | 1 => [.iconst 0, .goto 2]
  | 2 => [.freturn]
  | _ => []
/-- SchoolHouseModel.at(I)I -/
def B323 : Nat → List Instr := fun b => match b with
  | 0 => [.iload 1, .aload 0, .ifnull 11272, .if_icmp .ge 1, .aload 0, .ifnonnull 11267, .iload 1, .baload, .goto 2]
  | 1 => [.iconst 0, .goto 2]
  | 2 => [.ireturn]
  | _ => []
/-- SchoolHouseModel.isDigit(I)Z -/
def B324 : Nat → List Instr := fun b => match b with
  | 0 => [.iload 0, .iconst 48, .if_icmp .lt 1, .iload 0, .iconst 57, .if_icmp .gt 1, .iconst 1, .goto 2]
  | 1 => [.iconst 0, .goto 2]
  | 2 => [.freturn]
  | _ => []
/-- SchoolHouseModel.good()Z -/
def B325 : Nat → List Instr := fun b => match b with
  | 0 => [.aload 0, .ifnull 11320, .ifCond .ge 1, .iconst 1, .goto 2]
  | 1 => [.iconst 0, .goto 2]
  | 2 => [.freturn]
  | _ => []
/-- SchoolHouseModel.item()V -/
def B326 : Nat → List Instr := fun b => match b with
  | 0 => [.aload 0, .jsr (-1971), .invokeinterface 83808 2, .ifCond .eq 1, .aload 0, .invokeinterface 82276 1, .aload 0, .iconst 0, .iconst 12, .invokeinterface 84064 3, .pop, .aload 0, .iconst 59, .invokeinterface 85348 2, .goto 8]
  | 1 => [.aload 0, .jsr (-2099), .invokeinterface 83808 2, .ifCond .eq 2, .aload 0, .invokeinterface 82276 1, .aload 0, .iconst 1, .iconst 6, .invokeinterface 84064 3, .istore 1, .aload 0, .ifnull 11339, .ifnonnull 12307, .iload 1, .aload 0, .iconst 1, .iconst 99, .invokeinterface 85856 3, .iastore, .aload 0, .iconst 59, .invokeinterface 85348 2, .goto 8]
  | 2 => [.aload 0, .jsr (-2227), .invokeinterface 83808 2, .ifCond .eq 3, .aload 0, .invokeinterface 86116 1, .goto 8]
  | 3 => [.aload 0, .jsr (-2355), .invokeinterface 83808 2, .ifCond .eq 4, .aload 0, .invokeinterface 82276 1, .aload 0, .iconst 3, .iconst 8, .invokeinterface 84064 3, .istore 1, .aload 0, .ifnull 11339, .ifnonnull 12331, .iload 1, .aload 0, .iconst 1, .iconst 99, .invokeinterface 85856 3, .iastore, .aload 0, .iconst 59, .invokeinterface 85348 2, .goto 8]
  | 4 => [.aload 0, .jsr (-2483), .invokeinterface 83808 2, .ifCond .eq 5, .aload 0, .invokeinterface 86372 1, .goto 8]
  | 5 => [.aload 0, .jsr (-2611), .invokeinterface 83808 2, .ifCond .eq 6, .aload 0, .invokeinterface 82276 1, .aload 0, .iconst 5, .iconst 8, .invokeinterface 84064 3, .istore 1, .aload 0, .ifnull 11339, .ifnonnull 12371, .iload 1, .aload 0, .iconst 1, .iconst 99, .invokeinterface 85856 3, .iastore, .aload 0, .iconst 59, .invokeinterface 85348 2, .goto 8]
  | 6 => [.aload 0, .jsr (-2739), .invokeinterface 83808 2, .ifCond .eq 7, .aload 0, .invokeinterface 86884 1, .goto 8]
  | 7 => [.aload 0, .invokeinterface 85092 1, .goto 8]
  | 8 => [.return_]
  | _ => []
/-- SchoolHouseModel.isWord(Ljava/lang/String;)Z -/
def B327 : Nat → List Instr := fun b => match b with
  | 0 => [.aload 0, .ifnull 11280, .iconst 1, .if_icmp .ne 1, .aload 0, .ifnull 11296, .aload 0, .ifnull 11288, .isub, .aload 1, .invokeinterface 9328 1, .if_icmp .eq 2, .goto 1]
  | 1 => [.iconst 0, .freturn]
  | 2 => [.iconst 0, .istore 2, .goto 3]
  | 3 => [.iload 2, .aload 1, .invokeinterface 9328 1, .if_icmp .ge 5, .aload 0, .ifnonnull 11267, .aload 0, .ifnull 11288, .iload 2, .iadd, .baload, .aload 1, .iload 2, .invokeinterface 11888 2, .if_icmp .eq 4, .iconst 0, .freturn]
  | 4 => [.iinc 2 1, .goto 3]
  | 5 => [.iconst 1, .freturn]
  | _ => []
/-- SchoolHouseModel.fresh(II)I -/
def B328 : Nat → List Instr := fun b => match b with
  | 0 => [.aload 0, .invokeinterface 83296 1, .ifCond .eq 1, .aload 0, .invokeinterface 84320 1, .ifCond .eq 1, .aload 0, .ifnull 11339, .ifnonnull 12291, .iload 1, .iaload, .iload 2, .if_icmp .eq 1, .aload 0, .iload 1, .aload 0, .invokeinterface 84577 1, .invokeinterface 84832 3, .iconst (-9), .if_icmp .eq 2, .goto 1]
  | 1 => [.aload 0, .invokeinterface 85092 1, .iconst 0, .ireturn]
  | 2 => [.aload 0, .ifnull 11339, .ifnonnull 12299, .iconst 16, .iload 1, .imul, .aload 0, .ifnull 11339, .ifnonnull 12291, .iload 1, .iaload, .iadd, .aload 0, .invokeinterface 84577 1, .lastore, .aload 0, .ifnull 11339, .ifnonnull 12291, .iload 1, .dup2, .iaload, .iconst 1, .iadd, .iastore, .aload 0, .invokeinterface 82276 1, .aload 0, .ifnull 11339, .ifnonnull 12291, .iload 1, .iaload, .iconst 1, .isub, .ireturn]
  | _ => []
/-- SchoolHouseModel.isName()Z -/
def B329 : Nat → List Instr := fun b => match b with
  | 0 => [.aload 0, .ifnull 11280, .iconst 1, .if_icmp .eq 1, .iconst 0, .freturn]
  | 1 => [.iconst 0, .istore 1, .goto 2]
  | 2 => [.iload 1, .aload 0, .ifnonnull 11355, .arraylength, .if_icmp .ge 4, .aload 0, .aload 0, .ifnonnull 11355, .iload 1, .aaload, .invokeinterface 83808 2, .ifCond .eq 3, .iconst 0, .freturn]
  | 3 => [.iinc 1 1, .goto 2]
  | 4 => [.iconst 1, .freturn]
  | _ => []
/-- SchoolHouseModel.name()J -/
def B330 : Nat → List Instr := fun b => match b with
  | 0 => [.bipush 0, .lstore 1, .aload 0, .ifnull 11288, .istore 3, .goto 1]
  | 1 => [.iload 3, .aload 0, .ifnull 11296, .if_icmp .ge 2, .lload 1, .iconst 8, .lshl, .aload 0, .ifnonnull 11267, .iload 3, .baload, .i2l, .lor, .lstore 1, .iinc 3 1, .goto 1]
  | 2 => [.lload 1, .lreturn]
  | _ => []
/-- SchoolHouseModel.told(IJ)I -/
def B331 : Nat → List Instr := fun b => match b with
  | 0 => [.iconst 0, .istore 4, .goto 1]
  | 1 => [.iload 4, .aload 0, .ifnull 11339, .ifnonnull 12291, .iload 1, .iaload, .if_icmp .ge 3, .aload 0, .ifnull 11339, .ifnonnull 12299, .iconst 16, .iload 1, .imul, .iload 4, .iadd, .laload, .lload 2, .lcmp, .ifCond .ne 2, .iload 4, .ireturn]
  | 2 => [.iinc 4 1, .goto 1]
  | 3 => [.iconst (-9), .ireturn]
  | _ => []
/-- SchoolHouseModel.wrong()V -/
def B332 : Nat → List Instr := fun b => match b with
  | 0 => [.aload 0, .ifnull 11320, .ifCond .ge 1, .aload 0, .aload 0, .ifnull 11288, .jsr_w 11320, .goto 1]
  | 1 => [.return_]
  | _ => []
/-- SchoolHouseModel.sign(I)V -/
def B333 : Nat → List Instr := fun b => match b with
  | 0 => [.aload 0, .invokeinterface 83296 1, .ifCond .eq 1, .aload 0, .iload 1, .invokeinterface 85600 2, .ifCond .eq 1, .aload 0, .invokeinterface 82276 1, .goto 2]
  | 1 => [.aload 0, .invokeinterface 85092 1, .goto 2]
  | 2 => [.return_]
  | _ => []
/-- SchoolHouseModel.isSign(I)Z -/
def B334 : Nat → List Instr := fun b => match b with
  | 0 => [.aload 0, .ifnull 11280, .iconst 4, .if_icmp .ne 1, .aload 0, .ifnonnull 11267, .aload 0, .ifnull 11288, .baload, .iload 1, .if_icmp .ne 1, .iconst 1, .goto 2]
  | 1 => [.iconst 0, .goto 2]
  | 2 => [.freturn]
  | _ => []
/-- SchoolHouseModel.number(II)I -/
def B335 : Nat → List Instr := fun b => match b with
  | 0 => [.aload 0, .invokeinterface 83296 1, .ifCond .eq 1, .aload 0, .ifnull 11280, .iconst 2, .if_icmp .ne 1, .aload 0, .ifnull 11304, .iload 1, .if_icmp .lt 1, .aload 0, .ifnull 11304, .iload 2, .if_icmp .gt 1, .aload 0, .ifnull 11304, .istore 3, .aload 0, .invokeinterface 82276 1, .iload 3, .ireturn]
  | 1 => [.aload 0, .invokeinterface 85092 1, .iload 1, .ireturn]
  | _ => []
/-- SchoolHouseModel.staff()V -/
def B336 : Nat → List Instr := fun b => match b with
  | 0 => [.aload 0, .invokeinterface 82276 1, .aload 0, .iconst 2, .iconst 10, .invokeinterface 84064 3, .istore 1, .aload 0, .ifnull 11339, .ifnonnull 12315, .iload 1, .aload 0, .jsr (-2867), .invokeinterface 83808 2, .ifCond .eq 1, .iconst 2, .goto 3]
  | 1 => [.aload 0, .jsr (-2995), .invokeinterface 83808 2, .ifCond .eq 2, .iconst 3, .goto 3]
  | 2 => [.iconst 4, .goto 3]
  | 3 => [.iastore, .aload 0, .invokeinterface 83296 1, .ifCond .eq 4, .aload 0, .ifnull 11339, .ifnonnull 12315, .iload 1, .iaload, .iconst 4, .if_icmp .ne 4, .aload 0, .jsr (-3123), .invokeinterface 83808 2, .ifCond .ne 4, .aload 0, .invokeinterface 85092 1, .goto 4]
  | 4 => [.aload 0, .invokeinterface 83296 1, .ifCond .eq 5, .aload 0, .invokeinterface 82276 1, .goto 5]
  | 5 => [.aload 0, .iconst 58, .invokeinterface 85348 2, .aload 0, .ifnull 11339, .ifnonnull 12323, .iload 1, .iconst 0, .iastore, .iconst 1, .istore 2, .goto 6]
  | 6 => [.aload 0, .invokeinterface 83296 1, .ifCond .eq 15, .iload 2, .ifCond .eq 15, .aload 0, .invokeinterface 84320 1, .ifCond .eq 7, .aload 0, .iconst 0, .aload 0, .invokeinterface 84577 1, .invokeinterface 84832 3, .goto 8]
  | 7 => [.iconst (-9), .goto 8]
  | 8 => [.istore 3, .iload 3, .iconst (-9), .if_icmp .eq 9, .aload 0, .ifnull 11339, .ifnonnull 12323, .iload 1, .iaload, .iload 3, .ishr, .iconst 1, .iand, .iconst 1, .if_icmp .ne 10, .goto 9]
  | 9 => [.aload 0, .invokeinterface 85092 1, .goto 11]
  | 10 => [.aload 0, .ifnull 11339, .ifnonnull 12323, .iload 1, .dup2, .iaload, .iconst 1, .iload 3, .ishl, .ior, .iastore, .aload 0, .invokeinterface 82276 1, .goto 11]
  | 11 => [.aload 0, .invokeinterface 83296 1, .ifCond .eq 12, .aload 0, .iconst 44, .invokeinterface 85600 2, .ifCond .eq 12, .iconst 1, .goto 13]
  | 12 => [.iconst 0, .goto 13]
  | 13 => [.istore 2, .iload 2, .ifCond .eq 14, .aload 0, .invokeinterface 82276 1, .goto 14]
  | 14 => [.goto 6]
  | 15 => [.aload 0, .iconst 59, .invokeinterface 85348 2, .return_]
  | _ => []
/-- SchoolHouseModel.lesson()V -/
def B337 : Nat → List Instr := fun b => match b with
  | 0 => [.aload 0, .invokeinterface 82276 1, .aload 0, .iconst 4, .iconst 12, .invokeinterface 84064 3, .istore 1, .aload 0, .iconst 58, .invokeinterface 85348 2, .aload 0, .ifnull 11339, .ifnonnull 12339, .iload 1, .aload 0, .iconst 0, .invokeinterface 86624 2, .iastore, .aload 0, .ifnull 11339, .ifnonnull 12347, .iload 1, .aload 0, .iconst 3, .invokeinterface 86624 2, .iastore, .aload 0, .invokeinterface 83296 1, .ifCond .eq 1, .aload 0, .invokeinterface 84320 1, .ifCond .eq 1, .aload 0, .iconst 2, .aload 0, .invokeinterface 84577 1, .invokeinterface 84832 3, .goto 2]
  | 1 => [.iconst (-9), .goto 2]
  | 2 => [.istore 2, .iload 2, .iconst (-9), .if_icmp .eq 3, .aload 0, .ifnull 11339, .ifnonnull 12323, .iload 2, .iaload, .aload 0, .ifnull 11339, .ifnonnull 12339, .iload 1, .iaload, .ishr, .iconst 1, .iand, .ifCond .ne 4, .goto 3]
  | 3 => [.aload 0, .invokeinterface 85092 1, .goto 5]
  | 4 => [.aload 0, .ifnull 11339, .ifnonnull 12355, .iload 1, .iload 2, .iastore, .aload 0, .invokeinterface 82276 1, .goto 5]
  | 5 => [.aload 0, .ifnull 11339, .ifnonnull 12363, .iload 1, .aload 0, .iconst 1, .iconst 3, .invokeinterface 85856 3, .iastore, .aload 0, .iconst 59, .invokeinterface 85348 2, .return_]
  | _ => []
/-- SchoolHouseModel.old(I)I -/
def B338 : Nat → List Instr := fun b => match b with
  | 0 => [.aload 0, .invokeinterface 83296 1, .ifCond .eq 1, .aload 0, .invokeinterface 84320 1, .ifCond .eq 1, .aload 0, .iload 1, .aload 0, .invokeinterface 84577 1, .invokeinterface 84832 3, .goto 2]
  | 1 => [.iconst (-9), .goto 2]
  | 2 => [.istore 2, .iload 2, .iconst (-9), .if_icmp .ne 3, .aload 0, .invokeinterface 85092 1, .iconst 0, .ireturn]
  | 3 => [.aload 0, .invokeinterface 82276 1, .iload 2, .ireturn]
  | _ => []
/-- SchoolHouseModel.rule()V -/
def B339 : Nat → List Instr := fun b => match b with
  | 0 => [.aload 0, .invokeinterface 82276 1, .aload 0, .iconst 6, .iconst 12, .invokeinterface 84064 3, .istore 1, .aload 0, .iconst 0, .jsr_w 11384, .aload 0, .iconst 0, .jsr_w 11416, .aload 0, .ifnull 11339, .ifnonnull 12395, .iload 1, .aload 0, .ifnull 11339, .ifnull 12408, .iastore, .aload 0, .iconst 40, .invokeinterface 85348 2, .aload 0, .invokeinterface 83296 1, .ifCond .eq 2, .aload 0, .iconst 41, .invokeinterface 85600 2, .ifCond .ne 2, .aload 0, .invokeinterface 87140 1, .goto 1]
  | 1 => [.aload 0, .invokeinterface 83296 1, .ifCond .eq 2, .aload 0, .iconst 44, .invokeinterface 85600 2, .ifCond .eq 2, .aload 0, .invokeinterface 82276 1, .aload 0, .invokeinterface 87140 1, .goto 1]
  | 2 => [.aload 0, .ifnull 11339, .ifnonnull 12379, .iload 1, .aload 0, .ifnull 11384, .iastore, .aload 0, .iconst 41, .invokeinterface 85348 2, .aload 0, .invokeinterface 87908 1, .aload 0, .iconst 29, .iconst 0, .iconst 0, .invokeinterface 88928 4, .pop, .iconst 0, .istore 2, .goto 3]
  | 3 => [.iload 2, .aload 0, .ifnull 11416, .if_icmp .ge 5, .aload 0, .invokeinterface 83296 1, .ifCond .eq 5, .aload 0, .aload 0, .ifnonnull 11395, .iload 2, .laload, .invokeinterface 87392 2, .istore 3, .iload 3, .iconst (-9), .if_icmp .ne 4, .aload 0, .aload 0, .ifnonnull 11403, .iload 2, .iaload, .invokeinterface 93540 2, .goto 4]
  | 4 => [.aload 0, .ifnull 11339, .ifnonnull 12427, .aload 0, .ifnonnull 11411, .iload 2, .iaload, .iload 3, .iastore, .iinc 2 1, .goto 3]
  | 5 => [.aload 0, .ifnull 11339, .ifnonnull 12387, .iload 1, .aload 0, .ifnull 11384, .iastore, .return_]
  | _ => []
/-- SchoolHouseModel.parameter()V -/
def B340 : Nat → List Instr := fun b => match b with
  | 0 => [.aload 0, .invokeinterface 83296 1, .ifCond .eq 1, .aload 0, .invokeinterface 84320 1, .ifCond .eq 1, .aload 0, .ifnull 11384, .iconst 4, .if_icmp .eq 1, .aload 0, .aload 0, .invokeinterface 84577 1, .invokeinterface 87392 2, .iconst (-9), .if_icmp .eq 2, .goto 1]
  | 1 => [.aload 0, .invokeinterface 85092 1, .return_]
  | 2 => [.aload 0, .aload 0, .invokeinterface 84577 1, .invokeinterface 87648 2, .pop, .aload 0, .invokeinterface 82276 1, .return_]
  | _ => []
/-- SchoolHouseModel.slotOf(J)I -/
def B341 : Nat → List Instr := fun b => match b with
  | 0 => [.iconst 0, .istore 3, .goto 1]
  | 1 => [.iload 3, .aload 0, .ifnull 11384, .if_icmp .ge 3, .aload 0, .ifnonnull 11379, .iload 3, .laload, .lload 1, .lcmp, .ifCond .ne 2, .iload 3, .ireturn]
  | 2 => [.iinc 3 1, .goto 1]
  | 3 => [.iconst (-9), .ireturn]
  | _ => []
/-- SchoolHouseModel.slot(J)I -/
def B342 : Nat → List Instr := fun b => match b with
  | 0 => [.aload 0, .lload 1, .invokeinterface 87392 2, .istore 3, .iload 3, .iconst (-9), .if_icmp .ne 1, .aload 0, .ifnull 11384, .istore 3, .aload 0, .ifnonnull 11379, .aload 0, .ifnull 11384, .lload 1, .lastore, .aload 0, .dup, .ifnull 11384, .iconst 1, .iadd, .jsr_w 11384, .goto 1]
  | 1 => [.iload 3, .ireturn]
  | _ => []
/-- SchoolHouseModel.block()V -/
def B343 : Nat → List Instr := fun b => match b with
  | 0 => [.aload 0, .invokeinterface 88164 1, .aload 0, .iconst 123, .invokeinterface 85348 2, .goto 1]
  | 1 => [.aload 0, .invokeinterface 83296 1, .ifCond .eq 2, .aload 0, .iconst 125, .invokeinterface 85600 2, .ifCond .ne 2, .aload 0, .invokeinterface 88420 1, .goto 1]
  | 2 => [.aload 0, .iconst 125, .invokeinterface 85348 2, .aload 0, .dup, .ifnull 11360, .iconst 1, .isub, .jsr_w 11360, .return_]
  | _ => []
/-- SchoolHouseModel.deeper()V -/
def B344 : Nat → List Instr := fun b => match b with
  | 0 => [.aload 0, .invokeinterface 83296 1, .ifCond .eq 1, .aload 0, .ifnull 11360, .iconst 12, .if_icmp .ne 1, .aload 0, .invokeinterface 85092 1, .goto 1]
  | 1 => [.aload 0, .dup, .ifnull 11360, .iconst 1, .iadd, .jsr_w 11360, .return_]
  | _ => []
/-- SchoolHouseModel.act()V -/
def B345 : Nat → List Instr := fun b => match b with
  | 0 => [.aload 0, .invokeinterface 84320 1, .ifCond .ne 1, .aload 0, .jsr (-3251), .invokeinterface 83808 2, .ifCond .ne 1, .aload 0, .jsr (-3379), .invokeinterface 83808 2, .ifCond .ne 1, .aload 0, .jsr (-3507), .invokeinterface 83808 2, .ifCond .ne 1, .aload 0, .jsr (-3635), .invokeinterface 83808 2, .ifCond .ne 1, .aload 0, .jsr (-3763), .invokeinterface 83808 2, .ifCond .ne 1, .aload 0, .jsr (-3891), .invokeinterface 83808 2, .ifCond .ne 1, .aload 0, .invokeinterface 85092 1, .goto 1]
  | 1 => [.aload 0, .iconst 0, .invokeinterface 88676 2, .aload 0, .invokeinterface 83296 1, .ifCond .ne 2, .return_]
  | 2 => [.aload 0, .iconst 0, .iconst 0, .iconst 0, .invokeinterface 88928 4, .pop, .aload 0, .jsr (-3251), .invokeinterface 83808 2, .ifCond .eq 3, .aload 0, .invokeinterface 89188 1, .goto 13]
  | 3 => [.aload 0, .jsr (-3379), .invokeinterface 83808 2, .ifCond .eq 4, .aload 0, .invokeinterface 92260 1, .goto 13]
  | 4 => [.aload 0, .jsr (-3507), .invokeinterface 83808 2, .ifCond .eq 5, .aload 0, .invokeinterface 92772 1, .goto 13]
  | 5 => [.aload 0, .jsr (-3635), .invokeinterface 83808 2, .ifCond .eq 8, .aload 0, .invokeinterface 82276 1, .aload 0, .invokeinterface 93024 1, .istore 1, .iload 1, .iconst (-9), .if_icmp .ne 6, .aload 0, .invokeinterface 85092 1, .goto 7]
  | 6 => [.aload 0, .invokeinterface 82276 1, .goto 7]
  | 7 => [.aload 0, .iconst 59, .invokeinterface 85348 2, .aload 0, .iconst 26, .iload 1, .iconst 0, .invokeinterface 88928 4, .pop, .goto 13]
  | 8 => [.aload 0, .jsr (-3763), .invokeinterface 83808 2, .ifCond .eq 9, .aload 0, .invokeinterface 82276 1, .aload 0, .invokeinterface 89444 1, .aload 0, .iconst 59, .invokeinterface 85348 2, .aload 0, .iconst 27, .iconst 0, .iconst 0, .invokeinterface 88928 4, .pop, .goto 13]
  | 9 => [.aload 0, .jsr (-3891), .invokeinterface 83808 2, .ifCond .eq 12, .aload 0, .invokeinterface 82276 1, .aload 0, .invokeinterface 89444 1, .iconst 0, .istore 1, .goto 10]
  | 10 => [.iload 1, .iconst 4, .if_icmp .ge 11, .aload 0, .iconst 44, .invokeinterface 85348 2, .aload 0, .invokeinterface 89444 1, .iinc 1 1, .goto 10]
  | 11 => [.aload 0, .iconst 59, .invokeinterface 85348 2, .aload 0, .iconst 28, .iconst 0, .iconst 0, .invokeinterface 88928 4, .pop, .goto 13]
  | 12 => [.aload 0, .invokeinterface 93284 1, .goto 13]
  | 13 => [.return_]
  | _ => []
/-- SchoolHouseModel.node(Z)V -/
def B346 : Nat → List Instr := fun b => match b with
  | 0 => [.aload 0, .invokeinterface 83296 1, .ifCond .eq 2, .aload 0, .ifnull 11339, .ifnull 12400, .iconst 400, .if_icmp .eq 1, .iload 1, .ifCond .eq 2, .aload 0, .ifnull 11368, .iconst 30, .if_icmp .ne 2, .goto 1]
  | 1 => [.aload 0, .invokeinterface 85092 1, .goto 2]
  | 2 => [.aload 0, .invokeinterface 83296 1, .ifCond .eq 5, .aload 0, .ifnull 11339, .dup, .ifnull 12400, .iconst 1, .iadd, .jsr_w 12400, .aload 0, .dup, .ifnull 11368, .iload 1, .ifCond .eq 3, .iconst 1, .goto 4]
  | 3 => [.iconst 0, .goto 4]
  | 4 => [.iadd, .jsr_w 11368, .goto 5]
  | 5 => [.return_]
  | _ => []
/-- SchoolHouseModel.code(III)I -/
def B347 : Nat → List Instr := fun b => match b with
  | 0 => [.aload 0, .ifnull 11339, .ifnull 12408, .istore 4, .aload 0, .ifnull 11339, .dup, .ifnull 12408, .iconst 1, .iadd, .jsr_w 12408, .aload 0, .ifnull 11339, .ifnonnull 12419, .iload 4, .iload 1, .iastore, .aload 0, .ifnull 11339, .ifnonnull 12427, .iload 4, .iload 2, .iastore, .aload 0, .ifnull 11339, .ifnonnull 12435, .iload 4, .iload 3, .iastore, .iload 4, .ireturn]
  | _ => []
/-- SchoolHouseModel.choice()V -/
def B348 : Nat → List Instr := fun b => match b with
  | 0 => [.aload 0, .invokeinterface 82276 1, .aload 0, .invokeinterface 89444 1, .aload 0, .iconst 19, .iconst 0, .iconst 0, .invokeinterface 88928 4, .istore 1, .aload 0, .invokeinterface 87908 1, .aload 0, .invokeinterface 83296 1, .ifCond .eq 1, .aload 0, .jsr (-1459), .invokeinterface 83808 2, .ifCond .eq 1, .aload 0, .invokeinterface 82276 1, .aload 0, .iconst 20, .iconst 0, .iconst 0, .invokeinterface 88928 4, .istore 2, .aload 0, .ifnull 11339, .ifnonnull 12427, .iload 1, .aload 0, .ifnull 11339, .ifnull 12408, .iastore, .aload 0, .invokeinterface 87908 1, .aload 0, .ifnull 11339, .ifnonnull 12427, .iload 2, .aload 0, .ifnull 11339, .ifnull 12408, .iastore, .goto 2]
  | 1 => [.aload 0, .ifnull 11339, .ifnonnull 12427, .iload 1, .aload 0, .ifnull 11339, .ifnull 12408, .iastore, .goto 2]
  | 2 => [.return_]
  | _ => []
/-- SchoolHouseModel.whole()V -/
def B349 : Nat → List Instr := fun b => match b with
  | 0 => [.aload 0, .iconst 0, .jsr_w 11368, .aload 0, .invokeinterface 89700 1, .return_]
  | _ => []
/-- SchoolHouseModel.exp()V -/
def B350 : Nat → List Instr := fun b => match b with
  | 0 => [.aload 0, .invokeinterface 89956 1, .aload 0, .invokeinterface 83296 1, .ifCond .eq 3, .aload 0, .iconst 60, .invokeinterface 85600 2, .ifCond .ne 1, .aload 0, .iconst 62, .invokeinterface 85600 2, .ifCond .ne 1, .aload 0, .iconst 61, .invokeinterface 85600 2, .ifCond .eq 3, .goto 1]
  | 1 => [.aload 0, .ifnonnull 11267, .aload 0, .ifnull 11288, .baload, .istore 1, .aload 0, .iconst 1, .invokeinterface 88676 2, .aload 0, .invokeinterface 83296 1, .ifCond .eq 2, .aload 0, .invokeinterface 82276 1, .goto 2]
  | 2 => [.aload 0, .invokeinterface 89956 1, .aload 0, .iconst 8, .iload 1, .iconst 0, .invokeinterface 88928 4, .pop, .goto 3]
  | 3 => [.return_]
  | _ => []
/-- SchoolHouseModel.sum()V -/
def B351 : Nat → List Instr := fun b => match b with
  | 0 => [.aload 0, .invokeinterface 90212 1, .goto 1]
  | 1 => [.aload 0, .invokeinterface 83296 1, .ifCond .eq 4, .aload 0, .iconst 43, .invokeinterface 85600 2, .ifCond .ne 2, .aload 0, .iconst 45, .invokeinterface 85600 2, .ifCond .eq 4, .goto 2]
  | 2 => [.aload 0, .ifnonnull 11267, .aload 0, .ifnull 11288, .baload, .istore 1, .aload 0, .iconst 1, .invokeinterface 88676 2, .aload 0, .invokeinterface 83296 1, .ifCond .eq 3, .aload 0, .invokeinterface 82276 1, .goto 3]
  | 3 => [.aload 0, .invokeinterface 90212 1, .aload 0, .iconst 8, .iload 1, .iconst 0, .invokeinterface 88928 4, .pop, .goto 1]
  | 4 => [.return_]
  | _ => []
/-- SchoolHouseModel.term()V -/
def B352 : Nat → List Instr := fun b => match b with
  | 0 => [.aload 0, .invokeinterface 90468 1, .goto 1]
  | 1 => [.aload 0, .invokeinterface 83296 1, .ifCond .eq 4, .aload 0, .iconst 42, .invokeinterface 85600 2, .ifCond .ne 2, .aload 0, .iconst 47, .invokeinterface 85600 2, .ifCond .ne 2, .aload 0, .iconst 37, .invokeinterface 85600 2, .ifCond .eq 4, .goto 2]
  | 2 => [.aload 0, .ifnonnull 11267, .aload 0, .ifnull 11288, .baload, .istore 1, .aload 0, .iconst 1, .invokeinterface 88676 2, .aload 0, .invokeinterface 83296 1, .ifCond .eq 3, .aload 0, .invokeinterface 82276 1, .goto 3]
  | 3 => [.aload 0, .invokeinterface 90468 1, .aload 0, .iconst 8, .iload 1, .iconst 0, .invokeinterface 88928 4, .pop, .goto 1]
  | 4 => [.return_]
  | _ => []
/-- SchoolHouseModel.one()V -/
def B353 : Nat → List Instr := fun b => match b with
  | 0 => [.aload 0, .invokeinterface 83296 1, .ifCond .ne 1, .return_]
  | 1 => [.aload 0, .iconst 45, .invokeinterface 85600 2, .ifCond .eq 3, .aload 0, .iconst 1, .invokeinterface 88676 2, .aload 0, .invokeinterface 88164 1, .aload 0, .invokeinterface 83296 1, .ifCond .eq 2, .aload 0, .invokeinterface 82276 1, .goto 2]
  | 2 => [.aload 0, .invokeinterface 90468 1, .aload 0, .dup, .ifnull 11360, .iconst 1, .isub, .jsr_w 11360, .aload 0, .iconst 9, .iconst 0, .iconst 0, .invokeinterface 88928 4, .pop, .return_]
  | 3 => [.aload 0, .invokeinterface 90724 1, .goto 4]
  | 4 => [.aload 0, .invokeinterface 83296 1, .ifCond .eq 6, .aload 0, .iconst 91, .invokeinterface 85600 2, .ifCond .eq 6, .aload 0, .iconst 1, .invokeinterface 88676 2, .aload 0, .invokeinterface 88164 1, .aload 0, .invokeinterface 83296 1, .ifCond .eq 5, .aload 0, .invokeinterface 82276 1, .goto 5]
  | 5 => [.aload 0, .invokeinterface 89700 1, .aload 0, .iconst 93, .invokeinterface 85348 2, .aload 0, .dup, .ifnull 11360, .iconst 1, .isub, .jsr_w 11360, .aload 0, .iconst 10, .iconst 0, .iconst 0, .invokeinterface 88928 4, .pop, .goto 4]
  | 6 => [.return_]
  | _ => []
/-- SchoolHouseModel.base()V -/
def B354 : Nat → List Instr := fun b => match b with
  | 0 => [.aload 0, .ifnull 11280, .iconst 2, .if_icmp .ne 1, .aload 0, .iconst 1, .invokeinterface 88676 2, .aload 0, .iconst 1, .aload 0, .ifnull 11304, .iconst 0, .invokeinterface 88928 4, .pop, .aload 0, .invokeinterface 90980 1, .goto 7]
  | 1 => [.aload 0, .ifnull 11280, .iconst 3, .if_icmp .ne 3, .aload 0, .iconst 1, .invokeinterface 88676 2, .aload 0, .invokeinterface 83296 1, .ifCond .eq 2, .aload 0, .ifnull 11339, .ifnonnull 12443, .aload 0, .ifnull 11339, .ifnull 12448, .aload 0, .ifnull 11314, .dastore, .aload 0, .iconst 2, .aload 0, .ifnull 11339, .ifnull 12448, .iconst 0, .invokeinterface 88928 4, .pop, .aload 0, .ifnull 11339, .dup, .ifnull 12448, .iconst 1, .iadd, .jsr_w 12448, .goto 2]
  | 2 => [.aload 0, .invokeinterface 90980 1, .goto 7]
  | 3 => [.aload 0, .jsr (-1331), .invokeinterface 83808 2, .ifCond .eq 4, .aload 0, .iconst 1, .invokeinterface 88676 2, .aload 0, .iconst 3, .iconst 0, .iconst 0, .invokeinterface 88928 4, .pop, .aload 0, .invokeinterface 90980 1, .goto 7]
  | 4 => [.aload 0, .iconst 40, .invokeinterface 85600 2, .ifCond .eq 5, .aload 0, .iconst 1, .invokeinterface 91236 2, .goto 7]
  | 5 => [.aload 0, .invokeinterface 84320 1, .ifCond .eq 6, .aload 0, .invokeinterface 91492 1, .goto 7]
  | 6 => [.aload 0, .invokeinterface 92004 1, .goto 7]
  | 7 => [.return_]
  | _ => []
/-- SchoolHouseModel.step()V -/
def B355 : Nat → List Instr := fun b => match b with
  | 0 => [.aload 0, .invokeinterface 83296 1, .ifCond .eq 1, .aload 0, .invokeinterface 82276 1, .goto 1]
  | 1 => [.return_]
  | _ => []
/-- SchoolHouseModel.inside(I)V -/
def B356 : Nat → List Instr := fun b => match b with
  | 0 => [.aload 0, .invokeinterface 83296 1, .ifCond .eq 1, .aload 0, .iconst 40, .invokeinterface 85600 2, .ifCond .eq 1, .aload 0, .invokeinterface 88164 1, .goto 1]
  | 1 => [.aload 0, .iconst 40, .invokeinterface 85348 2, .iconst 0, .istore 2, .goto 2]
  | 2 => [.iload 2, .iload 1, .if_icmp .ge 4, .iload 2, .ifCond .le 3, .aload 0, .iconst 44, .invokeinterface 85348 2, .goto 3]
  | 3 => [.aload 0, .invokeinterface 89700 1, .iinc 2 1, .goto 2]
  | 4 => [.aload 0, .iconst 41, .invokeinterface 85348 2, .aload 0, .dup, .ifnull 11360, .iconst 1, .isub, .jsr_w 11360, .return_]
  | _ => []
/-- SchoolHouseModel.named()V -/
def B357 : Nat → List Instr := fun b => match b with
  | 0 => [.aload 0, .iconst 1, .invokeinterface 88676 2, .aload 0, .invokeinterface 84577 1, .lstore 1, .aload 0, .ifnull 11288, .istore 3, .aload 0, .invokeinterface 90980 1, .aload 0, .invokeinterface 83296 1, .ifCond .ne 1, .return_]
  | 1 => [.aload 0, .iconst 40, .invokeinterface 85600 2, .ifCond .ne 2, .aload 0, .lload 1, .iload 3, .aload 0, .iconst 4, .iconst 0, .iconst 0, .invokeinterface 88928 4, .invokeinterface 91748 4, .return_]
  | 2 => [.aload 0, .invokeinterface 88164 1, .aload 0, .iconst 40, .invokeinterface 85348 2, .iconst 0, .istore 4, .aload 0, .invokeinterface 83296 1, .ifCond .eq 4, .aload 0, .iconst 41, .invokeinterface 85600 2, .ifCond .ne 4, .aload 0, .invokeinterface 89700 1, .iconst 1, .istore 4, .goto 3]
  | 3 => [.aload 0, .invokeinterface 83296 1, .ifCond .eq 4, .aload 0, .iconst 44, .invokeinterface 85600 2, .ifCond .eq 4, .aload 0, .invokeinterface 82276 1, .aload 0, .invokeinterface 89700 1, .iinc 4 1, .goto 3]
  | 4 => [.aload 0, .iconst 41, .invokeinterface 85348 2, .aload 0, .dup, .ifnull 11360, .iconst 1, .isub, .jsr_w 11360, .aload 0, .invokeinterface 83296 1, .ifCond .eq 5, .aload 0, .ifnonnull 11427, .aload 0, .ifnull 11456, .lload 1, .lastore, .aload 0, .ifnonnull 11435, .aload 0, .ifnull 11456, .iload 3, .iastore, .aload 0, .ifnonnull 11451, .aload 0, .ifnull 11456, .iload 4, .iastore, .aload 0, .ifnonnull 11443, .aload 0, .ifnull 11456, .aload 0, .iconst 7, .iconst 0, .iconst 0, .invokeinterface 88928 4, .iastore, .aload 0, .dup, .ifnull 11456, .iconst 1, .iadd, .jsr_w 11456, .goto 5]
  | 5 => [.return_]
  | _ => []
/-- SchoolHouseModel.ref(JII)V -/
def B358 : Nat → List Instr := fun b => match b with
  | 0 => [.aload 0, .ifnonnull 11395, .aload 0, .ifnull 11416, .lload 1, .lastore, .aload 0, .ifnonnull 11403, .aload 0, .ifnull 11416, .iload 3, .iastore, .aload 0, .ifnonnull 11411, .aload 0, .ifnull 11416, .iload 4, .iastore, .aload 0, .dup, .ifnull 11416, .iconst 1, .iadd, .jsr_w 11416, .return_]
  | _ => []
/-- SchoolHouseModel.worded()V -/
def B359 : Nat → List Instr := fun b => match b with
  | 0 => [.aload 0, .jsr (-4915), .invokeinterface 83808 2, .ifCond .ne 1, .aload 0, .jsr (-5043), .invokeinterface 83808 2, .ifCond .ne 1, .aload 0, .jsr (-5171), .invokeinterface 83808 2, .ifCond .ne 1, .aload 0, .jsr (-5299), .invokeinterface 83808 2, .ifCond .eq 2, .goto 1]
  | 1 => [.iconst 11, .goto 10]
  | 2 => [.aload 0, .jsr (-4531), .invokeinterface 83808 2, .ifCond .eq 3, .iconst 12, .goto 10]
  | 3 => [.aload 0, .jsr (-5427), .invokeinterface 83808 2, .ifCond .eq 4, .iconst 13, .goto 10]
  | 4 => [.aload 0, .jsr (-5555), .invokeinterface 83808 2, .ifCond .eq 5, .iconst 14, .goto 10]
  | 5 => [.aload 0, .jsr (-5683), .invokeinterface 83808 2, .ifCond .eq 6, .iconst 15, .goto 10]
  | 6 => [.aload 0, .jsr (-5811), .invokeinterface 83808 2, .ifCond .eq 7, .iconst 16, .goto 10]
  | 7 => [.aload 0, .jsr (-5939), .invokeinterface 83808 2, .ifCond .eq 8, .iconst 17, .goto 10]
  | 8 => [.aload 0, .jsr (-6067), .invokeinterface 83808 2, .ifCond .eq 9, .iconst 18, .goto 10]
  | 9 => [.iconst (-9), .goto 10]
  | 10 => [.istore 1, .iload 1, .iconst (-9), .if_icmp .ne 11, .aload 0, .invokeinterface 85092 1, .return_]
  | 11 => [.aload 0, .jsr (-4915), .invokeinterface 83808 2, .ifCond .eq 12, .iconst 4, .goto 15]
  | 12 => [.aload 0, .jsr (-5043), .invokeinterface 83808 2, .ifCond .eq 13, .iconst 5, .goto 15]
  | 13 => [.aload 0, .jsr (-5171), .invokeinterface 83808 2, .ifCond .eq 14, .iconst 6, .goto 15]
  | 14 => [.iconst 7, .goto 15]
  | 15 => [.istore 2, .aload 0, .iconst 1, .invokeinterface 88676 2, .aload 0, .invokeinterface 90980 1, .aload 0, .iload 1, .iconst 17, .if_icmp .eq 16, .iload 1, .iconst 18, .if_icmp .ne 17, .goto 16]
  | 16 => [.iconst 2, .goto 18]
  | 17 => [.iconst 1, .goto 18]
  | 18 => [.invokeinterface 91236 2, .aload 0, .iload 1, .iload 2, .iconst 0, .invokeinterface 88928 4, .pop, .return_]
  | _ => []
/-- SchoolHouseModel.rounds()V -/
def B360 : Nat → List Instr := fun b => match b with
  | 0 => [.aload 0, .invokeinterface 82276 1, .aload 0, .invokeinterface 84320 1, .ifCond .ne 1, .aload 0, .invokeinterface 85092 1, .goto 1]
  | 1 => [.aload 0, .invokeinterface 83296 1, .ifCond .eq 2, .aload 0, .aload 0, .invokeinterface 84577 1, .invokeinterface 87648 2, .goto 3]
  | 2 => [.iconst 0, .goto 3]
  | 3 => [.istore 1, .aload 0, .invokeinterface 83296 1, .ifCond .eq 4, .aload 0, .invokeinterface 82276 1, .goto 4]
  | 4 => [.aload 0, .jsr (-1587), .invokeinterface 92516 2, .aload 0, .invokeinterface 89444 1, .aload 0, .ifnull 11339, .ifnull 12456, .istore 2, .aload 0, .ifnull 11339, .dup, .ifnull 12456, .iconst 1, .iadd, .jsr_w 12456, .aload 0, .iconst 21, .iload 2, .iconst 0, .invokeinterface 88928 4, .pop, .aload 0, .iconst 22, .iload 2, .iload 1, .invokeinterface 88928 4, .istore 3, .aload 0, .iconst 20, .iconst 0, .iconst 0, .invokeinterface 88928 4, .pop, .aload 0, .invokeinterface 87908 1, .aload 0, .iconst 20, .iload 3, .iconst 0, .invokeinterface 88928 4, .pop, .aload 0, .ifnull 11339, .ifnonnull 12427, .iload 3, .iconst 1, .iadd, .aload 0, .ifnull 11339, .ifnull 12408, .iastore, .return_]
  | _ => []
/-- SchoolHouseModel.word(Ljava/lang/String;)V -/
def B361 : Nat → List Instr := fun b => match b with
  | 0 => [.aload 0, .invokeinterface 83296 1, .ifCond .eq 1, .aload 0, .aload 1, .invokeinterface 83808 2, .ifCond .eq 1, .aload 0, .invokeinterface 82276 1, .goto 2]
  | 1 => [.aload 0, .invokeinterface 85092 1, .goto 2]
  | 2 => [.return_]
  | _ => []
/-- SchoolHouseModel.tries()V -/
def B362 : Nat → List Instr := fun b => match b with
  | 0 => [.aload 0, .invokeinterface 82276 1, .aload 0, .ifnull 11339, .ifnull 12464, .istore 1, .aload 0, .ifnull 11339, .dup, .ifnull 12464, .iconst 1, .iadd, .jsr_w 12464, .iconst 0, .istore 2, .goto 1]
  | 1 => [.iload 2, .iconst 8, .if_icmp .ge 2, .aload 0, .ifnull 11339, .ifnonnull 12475, .iconst 8, .iload 1, .imul, .iload 2, .iadd, .iconst (-9), .iastore, .iinc 2 1, .goto 1]
  | 2 => [.aload 0, .ifnull 11339, .ifnonnull 12483, .iload 1, .iconst (-9), .iastore, .aload 0, .iconst 23, .iload 1, .iconst 0, .invokeinterface 88928 4, .pop, .aload 0, .invokeinterface 87908 1, .aload 0, .iconst 24, .iload 1, .iconst 0, .invokeinterface 88928 4, .pop, .goto 3]
  | 3 => [.aload 0, .invokeinterface 83296 1, .ifCond .eq 7, .aload 0, .jsr (-1715), .invokeinterface 83808 2, .ifCond .eq 7, .aload 0, .invokeinterface 82276 1, .aload 0, .invokeinterface 93024 1, .istore 2, .iload 2, .iconst (-9), .if_icmp .eq 4, .aload 0, .ifnull 11339, .ifnonnull 12475, .iconst 8, .iload 1, .imul, .iload 2, .iadd, .iaload, .iconst (-9), .if_icmp .eq 5, .goto 4]
  | 4 => [.aload 0, .invokeinterface 85092 1, .goto 6]
  | 5 => [.aload 0, .invokeinterface 82276 1, .aload 0, .ifnull 11339, .ifnonnull 12475, .iconst 8, .iload 1, .imul, .iload 2, .iadd, .aload 0, .ifnull 11339, .ifnull 12408, .iastore, .goto 6]
  | 6 => [.aload 0, .invokeinterface 87908 1, .aload 0, .iconst 24, .iload 1, .iconst 0, .invokeinterface 88928 4, .pop, .goto 3]
  | 7 => [.aload 0, .invokeinterface 83296 1, .ifCond .eq 8, .aload 0, .jsr (-1843), .invokeinterface 83808 2, .ifCond .eq 8, .aload 0, .invokeinterface 82276 1, .aload 0, .ifnull 11339, .ifnonnull 12483, .iload 1, .aload 0, .ifnull 11339, .ifnull 12408, .iastore, .aload 0, .invokeinterface 87908 1, .aload 0, .iconst 25, .iload 1, .iconst 0, .invokeinterface 88928 4, .pop, .goto 8]
  | 8 => [.iconst 0, .istore 2, .goto 9]
  | 9 => [.iload 2, .aload 0, .ifnull 11339, .ifnull 12408, .if_icmp .ge 11, .aload 0, .ifnull 11339, .ifnonnull 12419, .iload 2, .iaload, .iconst 24, .if_icmp .ne 10, .aload 0, .ifnull 11339, .ifnonnull 12427, .iload 2, .iaload, .iload 1, .if_icmp .ne 10, .aload 0, .ifnull 11339, .ifnonnull 12435, .iload 2, .aload 0, .ifnull 11339, .ifnull 12408, .iastore, .goto 10]
  | 10 => [.iinc 2 1, .goto 9]
  | 11 => [.return_]
  | _ => []
/-- SchoolHouseModel.fail()I -/
def B363 : Nat → List Instr := fun b => match b with
  | 0 => [.aload 0, .jsr (-4019), .invokeinterface 83808 2, .ifCond .eq 1, .iconst 1, .goto 8]
  | 1 => [.aload 0, .jsr (-4147), .invokeinterface 83808 2, .ifCond .eq 2, .iconst 2, .goto 8]
  | 2 => [.aload 0, .jsr (-4275), .invokeinterface 83808 2, .ifCond .eq 3, .iconst 3, .goto 8]
  | 3 => [.aload 0, .jsr (-4403), .invokeinterface 83808 2, .ifCond .eq 4, .iconst 4, .goto 8]
  | 4 => [.aload 0, .jsr (-4531), .invokeinterface 83808 2, .ifCond .eq 5, .iconst 5, .goto 8]
  | 5 => [.aload 0, .jsr (-4659), .invokeinterface 83808 2, .ifCond .eq 6, .iconst 6, .goto 8]
  | 6 => [.aload 0, .jsr (-4787), .invokeinterface 83808 2, .ifCond .eq 7, .iconst 7, .goto 8]
  | 7 => [.iconst (-9), .goto 8]
  | 8 => [.ireturn]
  | _ => []
/-- SchoolHouseModel.assigned()V -/
def B364 : Nat → List Instr := fun b => match b with
  | 0 => [.aload 0, .invokeinterface 84577 1, .lstore 1, .aload 0, .ifnull 11288, .istore 3, .aload 0, .invokeinterface 82276 1, .aload 0, .iconst 91, .invokeinterface 85600 2, .ifCond .eq 1, .aload 0, .invokeinterface 88164 1, .aload 0, .invokeinterface 82276 1, .aload 0, .invokeinterface 89444 1, .aload 0, .iconst 93, .invokeinterface 85348 2, .aload 0, .dup, .ifnull 11360, .iconst 1, .isub, .jsr_w 11360, .aload 0, .iconst 61, .invokeinterface 85348 2, .aload 0, .invokeinterface 89444 1, .aload 0, .iconst 59, .invokeinterface 85348 2, .aload 0, .lload 1, .iload 3, .aload 0, .iconst 6, .iconst 0, .iconst 0, .invokeinterface 88928 4, .invokeinterface 91748 4, .return_]
  | 1 => [.aload 0, .iconst 61, .invokeinterface 85348 2, .aload 0, .invokeinterface 83296 1, .ifCond .eq 2, .aload 0, .lload 1, .invokeinterface 87648 2, .goto 3]
  | 2 => [.iconst 0, .goto 3]
  | 3 => [.istore 4, .aload 0, .invokeinterface 89444 1, .aload 0, .iconst 59, .invokeinterface 85348 2, .aload 0, .iconst 5, .iload 4, .iconst 0, .invokeinterface 88928 4, .pop, .return_]
  | _ => []
/-- SchoolHouseModel.late(I)V -/
def B365 : Nat → List Instr := fun b => match b with
  | 0 => [.aload 0, .aload 0, .ifnull 11328, .ifCond .lt 1, .iload 1, .aload 0, .ifnull 11328, .if_icmp .ge 2, .goto 1]
  | 1 => [.iload 1, .goto 3]
  | 2 => [.aload 0, .ifnull 11328, .goto 3]
  | 3 => [.jsr_w 11328, .return_]
  | _ => []
/-- SchoolHouseModel.begin()V -/
def B366 : Nat → List Instr := fun b => match b with
  | 0 => [.aload 0, .iconst 0, .jsr_w 11464, .iconst 0, .istore 1, .goto 1]
  | 1 => [.iload 1, .aload 0, .ifnull 11339, .ifnonnull 12291, .iconst 2, .iaload, .if_icmp .ge 2, .aload 0, .aload 0, .ifnull 11339, .ifnonnull 12315, .iload 1, .iaload, .iload 1, .iconst (-9), .invokeinterface 94048 4, .pop, .iinc 1 1, .goto 1]
  | 2 => [.aload 0, .iconst 0, .jsr_w 11688, .aload 0, .iconst 0, .jsr_w 11728, .aload 0, .iconst (-9), .jsr_w 11752, .iconst 0, .istore 1, .goto 3]
  | 3 => [.iload 1, .iconst 240, .if_icmp .ge 4, .aload 0, .ifnonnull 11811, .iload 1, .iconst 0, .iastore, .iinc 1 1, .goto 3]
  | 4 => [.iconst 0, .istore 1, .goto 5]
  | 5 => [.iload 1, .iconst 10, .if_icmp .ge 6, .aload 0, .ifnonnull 11795, .iload 1, .iconst 0, .iastore, .aload 0, .ifnonnull 11803, .iload 1, .iconst 0, .iastore, .iinc 1 1, .goto 5]
  | 6 => [.aload 0, .iconst 0, .jsr_w 11820, .aload 0, .iconst 0, .jsr_w 11828, .aload 0, .iconst 0, .jsr_w 11836, .aload 0, .iconst 0, .jsr_w 11956, .return_]
  | _ => []
/-- SchoolHouseModel.enter(III)I -/
def B367 : Nat → List Instr := fun b => match b with
  | 0 => [.aload 0, .ifnull 11464, .istore 4, .aload 0, .dup, .ifnull 11464, .iconst 1, .iadd, .jsr_w 11464, .aload 0, .ifnonnull 11475, .iload 4, .iload 1, .iastore, .aload 0, .ifnonnull 11483, .iload 4, .iload 2, .iastore, .aload 0, .ifnonnull 11491, .iload 4, .iload 3, .iastore, .iconst 0, .istore 5, .goto 1]
  | 1 => [.iload 5, .iconst 8, .if_icmp .ge 2, .aload 0, .ifnonnull 11499, .iconst 8, .iload 4, .imul, .iload 5, .iadd, .iconst (-9), .iastore, .iinc 5 1, .goto 1]
  | 2 => [.aload 0, .ifnonnull 11923, .iload 4, .iconst 0, .iastore, .iconst 0, .istore 5, .goto 3]
  | 3 => [.iload 5, .iconst 8, .if_icmp .ge 4, .aload 0, .ifnonnull 11939, .iconst 8, .iload 4, .imul, .iload 5, .iadd, .iconst 0, .iastore, .iinc 5 1, .goto 3]
  | 4 => [.aload 0, .ifnonnull 11947, .iload 4, .iconst (-9), .iastore, .iload 4, .ireturn]
  | _ => []
/-- SchoolHouseModel.pupil(II)I -/
def B368 : Nat → List Instr := fun b => match b with
  | 0 => [.iload 1, .iconst 0, .aload 0, .ifnull 11339, .ifnonnull 12291, .iconst 3, .iaload, .iconst 1, .isub, .invokeinterface 94464 3, .ifCond .eq 1, .iload 2, .iconst (-99), .iconst 99, .invokeinterface 94464 3, .ifCond .ne 2, .goto 1]
  | 1 => [.iconst (-1), .ireturn]
  | 2 => [.iconst 0, .istore 3, .iconst 0, .istore 4, .goto 3]
  | 3 => [.iload 4, .aload 0, .ifnull 11464, .if_icmp .ge 6, .iload 3, .aload 0, .ifnonnull 11475, .iload 4, .iaload, .ifCond .ne 4, .aload 0, .ifnonnull 11491, .iload 4, .iaload, .iload 1, .if_icmp .ne 4, .iconst 1, .goto 5]
  | 4 => [.iconst 0, .goto 5]
  | 5 => [.iadd, .istore 3, .iinc 4 1, .goto 3]
  | 6 => [.iload 3, .aload 0, .ifnull 11339, .ifnonnull 12331, .iload 1, .iaload, .if_icmp .lt 7, .iconst (-2), .ireturn]
  | 7 => [.aload 0, .ifnull 11464, .iconst 24, .if_icmp .ne 8, .iconst (-3), .ireturn]
  | 8 => [.aload 0, .iconst (-9), .jsr_w 11752, .aload 0, .iconst 0, .iload 2, .iload 1, .invokeinterface 94048 4, .ireturn]
  | _ => []
/-- SchoolHouseModel.in(III)Z -/
def B369 : Nat → List Instr := fun b => match b with
  | 0 => [.iload 0, .iload 1, .if_icmp .lt 1, .iload 0, .iload 2, .if_icmp .gt 1, .iconst 1, .goto 2]
  | 1 => [.iconst 0, .goto 2]
  | 2 => [.freturn]
  | _ => []
/-- SchoolHouseModel.parent(I)I -/
def B370 : Nat → List Instr := fun b => match b with
  | 0 => [.iload 1, .iconst (-99), .iconst 99, .invokeinterface 94464 3, .ifCond .ne 1, .iconst (-1), .ireturn]
  | 1 => [.aload 0, .ifnull 11464, .iconst 24, .if_icmp .ne 2, .iconst (-3), .goto 3]
  | 2 => [.aload 0, .iconst 1, .iload 1, .iconst (-9), .invokeinterface 94048 4, .goto 3]
  | 3 => [.ireturn]
  | _ => []
/-- SchoolHouseModel.person(II)I -/
def B371 : Nat → List Instr := fun b => match b with
  | 0 => [.aload 0, .iload 1, .invokeinterface 95328 2, .ifCond .eq 1, .iload 2, .iconst 0, .iconst 2, .invokeinterface 94464 3, .ifCond .ne 2, .goto 1]
  | 1 => [.iconst (-100), .ireturn]
  | 2 => [.iload 2, .ifCond .ne 3, .aload 0, .ifnonnull 11475, .iload 1, .iaload, .goto 5]
  | 3 => [.iload 2, .iconst 1, .if_icmp .ne 4, .aload 0, .ifnonnull 11483, .iload 1, .iaload, .goto 5]
  | 4 => [.aload 0, .ifnonnull 11491, .iload 1, .iaload, .goto 5]
  | 5 => [.ireturn]
  | _ => []
/-- SchoolHouseModel.isPerson(I)Z -/
def B372 : Nat → List Instr := fun b => match b with
  | 0 => [.iload 1, .iconst 0, .aload 0, .ifnull 11464, .iconst 1, .isub, .invokeinterface 94464 3, .freturn]
  | _ => []
/-- SchoolHouseModel.level(II)I -/
def B373 : Nat → List Instr := fun b => match b with
  | 0 => [.aload 0, .iload 1, .invokeinterface 95328 2, .ifCond .eq 1, .iload 2, .iconst 0, .iconst 3, .invokeinterface 94464 3, .ifCond .ne 2, .goto 1]
  | 1 => [.iconst (-1), .goto 3]
  | 2 => [.aload 0, .iload 1, .iload 2, .invokeinterface 95840 3, .goto 3]
  | 3 => [.ireturn]
  | _ => []
/-- SchoolHouseModel.levelOf(II)I -/
def B374 : Nat → List Instr := fun b => match b with
  | 0 => [.iload 2, .iconst 1, .if_icmp .ne 1, .iconst 1, .goto 2]
  | 1 => [.iconst 0, .goto 2]
  | 2 => [.istore 3, .iload 3, .iload 2, .ifCond .eq 3, .iload 2, .iconst 3, .if_icmp .ne 4, .goto 3]
  | 3 => [.iconst 1, .goto 5]
  | 4 => [.iconst 0, .goto 5]
  | 5 => [.iadd, .istore 4, .iload 3, .iload 2, .ifCond .eq 6, .iload 2, .iconst 2, .if_icmp .ne 7, .goto 6]
  | 6 => [.iconst 2, .goto 8]
  | 7 => [.iconst 0, .goto 8]
  | 8 => [.iadd, .istore 5, .aload 0, .ifnonnull 11475, .iload 1, .iaload, .istore 6, .iload 6, .ifCond .ne 9, .iload 3, .goto 15]
  | 9 => [.iload 6, .iconst 1, .if_icmp .ne 10, .iload 4, .goto 15]
  | 10 => [.iload 6, .iconst 2, .if_icmp .ne 11, .iload 5, .goto 15]
  | 11 => [.iload 6, .iconst 3, .if_icmp .ne 12, .iload 5, .iload 4, .iadd, .goto 15]
  | 12 => [.iconst 3, .iload 5, .imul, .iload 5, .iadd, .iload 4, .iadd, .aload 0, .ifnonnull 11483, .iload 1, .iaload, .iconst 5, .if_icmp .le 13, .iconst 1, .goto 14]
  | 13 => [.iconst 0, .goto 14]
  | 14 => [.iadd, .goto 15]
  | 15 => [.ireturn]
  | _ => []
/-- SchoolHouseModel.marks(III)I -/
def B375 : Nat → List Instr := fun b => match b with
  | 0 => [.aload 0, .iload 1, .invokeinterface 95328 2, .ifCond .eq 1, .aload 0, .iload 2, .invokeinterface 96352 2, .ifCond .eq 1, .iload 3, .iconst (-1), .iconst 64, .invokeinterface 94464 3, .ifCond .ne 2, .goto 1]
  | 1 => [.iconst (-1), .ireturn]
  | 2 => [.aload 0, .ifnonnull 11475, .iload 1, .iaload, .ifCond .eq 3, .iconst (-2), .ireturn]
  | 3 => [.iload 3, .ifCond .lt 4, .aload 0, .ifnull 11504, .iconst 6000, .if_icmp .ne 4, .iconst (-3), .ireturn]
  | 4 => [.aload 0, .ifnonnull 11499, .iconst 8, .iload 1, .imul, .iload 2, .iadd, .iload 3, .ifCond .ge 5, .iconst (-9), .goto 6]
  | 5 => [.aload 0, .iconst 4, .iload 3, .invokeinterface 96608 3, .goto 6]
  | 6 => [.iastore, .iconst 0, .ireturn]
  | _ => []
/-- SchoolHouseModel.isCourse(I)Z -/
def B376 : Nat → List Instr := fun b => match b with
  | 0 => [.iload 1, .iconst 0, .aload 0, .ifnull 11339, .ifnonnull 12291, .iconst 5, .iaload, .iconst 1, .isub, .invokeinterface 94464 3, .freturn]
  | _ => []
/-- SchoolHouseModel.newRow(II)I -/
def B377 : Nat → List Instr := fun b => match b with
  | 0 => [.aload 0, .ifnull 11504, .istore 3, .aload 0, .dup, .ifnull 11504, .iconst 1, .iadd, .jsr_w 11504, .aload 0, .ifnonnull 11515, .iload 3, .iload 1, .iastore, .aload 0, .ifnonnull 11523, .iload 3, .iload 2, .iastore, .iconst 0, .istore 4, .goto 1]
  | 1 => [.iload 4, .iload 2, .if_icmp .ge 4, .aload 0, .ifnonnull 11531, .iconst 64, .iload 3, .imul, .iload 4, .iadd, .iload 1, .iconst 5, .if_icmp .le 2, .bipush (-9), .goto 3]
  | 2 => [.bipush 0, .goto 3]
  | 3 => [.lastore, .iinc 4 1, .goto 1]
  | 4 => [.iload 3, .ireturn]
  | _ => []
/-- SchoolHouseModel.mark(IIII)I -/
def B378 : Nat → List Instr := fun b => match b with
  | 0 => [.aload 0, .iload 1, .invokeinterface 95328 2, .ifCond .eq 1, .aload 0, .iload 2, .invokeinterface 96352 2, .ifCond .ne 2, .goto 1]
  | 1 => [.iconst (-1), .ireturn]
  | 2 => [.aload 0, .ifnonnull 11499, .iconst 8, .iload 1, .imul, .iload 2, .iadd, .iaload, .istore 5, .aload 0, .ifnonnull 11475, .iload 1, .iaload, .ifCond .ne 3, .iload 5, .iconst (-9), .if_icmp .eq 3, .iload 3, .iconst 0, .aload 0, .ifnonnull 11523, .iload 5, .iaload, .iconst 1, .isub, .invokeinterface 94464 3, .ifCond .ne 4, .goto 3]
  | 3 => [.iconst (-2), .ireturn]
  | 4 => [.aload 0, .ifnonnull 11531, .iconst 64, .iload 5, .imul, .iload 3, .iadd, .laload, .l2i, .istore 6, .aload 0, .ifnonnull 11531, .iconst 64, .iload 5, .imul, .iload 3, .iadd, .iload 4, .i2l, .lastore, .iload 6, .ireturn]
  | _ => []
/-- SchoolHouseModel.markOf(III)I -/
def B379 : Nat → List Instr := fun b => match b with
  | 0 => [.aload 0, .iload 1, .invokeinterface 95328 2, .ifCond .eq 1, .aload 0, .iload 2, .invokeinterface 96352 2, .ifCond .ne 2, .goto 1]
  | 1 => [.iconst (-2000000000), .ireturn]
  | 2 => [.aload 0, .ifnonnull 11499, .iconst 8, .iload 1, .imul, .iload 2, .iadd, .iaload, .istore 4, .aload 0, .ifnonnull 11475, .iload 1, .iaload, .ifCond .ne 3, .iload 4, .iconst (-9), .if_icmp .eq 3, .iload 3, .iconst (-1), .aload 0, .ifnonnull 11523, .iload 4, .iaload, .iconst 1, .isub, .invokeinterface 94464 3, .ifCond .ne 4, .goto 3]
  | 3 => [.iconst (-2000000001), .ireturn]
  | 4 => [.iload 3, .ifCond .ge 5, .aload 0, .ifnonnull 11523, .iload 4, .iaload, .goto 6]
  | 5 => [.aload 0, .ifnonnull 11531, .iconst 64, .iload 4, .imul, .iload 3, .iadd, .laload, .l2i, .goto 6]
  | 6 => [.ireturn]
  | _ => []
/-- SchoolHouseModel.run(IIIIII)I -/
def B380 : Nat → List Instr := fun b => match b with
  | 0 => [.aload 0, .iload 1, .invokeinterface 97632 2, .ifCond .eq 1, .iload 2, .iconst 1, .iconst 3000, .invokeinterface 94464 3, .ifCond .ne 2, .goto 1]
  | 1 => [.iconst (-1), .goto 3]
  | 2 => [.aload 0, .iload 1, .iload 2, .iload 3, .iload 4, .iload 5, .iload 6, .invokeinterface 97888 7, .goto 3]
  | 3 => [.ireturn]
  | _ => []
/-- SchoolHouseModel.isRule(I)Z -/
def B381 : Nat → List Instr := fun b => match b with
  | 0 => [.iload 1, .iconst 0, .aload 0, .ifnull 11339, .ifnonnull 12291, .iconst 6, .iaload, .iconst 1, .isub, .invokeinterface 94464 3, .freturn]
  | _ => []
/-- SchoolHouseModel.runs(IIIIII)I -/
def B382 : Nat → List Instr := fun b => match b with
  | 0 => [.aload 0, .iload 2, .jsr_w 11696, .aload 0, .iconst 0, .jsr_w 11688, .aload 0, .iconst 0, .jsr_w 11552, .aload 0, .iconst 0, .jsr_w 11616, .aload 0, .iconst 1, .jsr_w 11592, .aload 0, .ifnonnull 11611, .iconst 0, .iconst 0, .iastore, .aload 0, .ifnonnull 11603, .iconst 0, .iconst 0, .iastore, .aload 0, .iconst 0, .jsr_w 11728, .aload 0, .bipush 0, .jsr_w 11737, .aload 0, .ifnull 11704, .iconst 10000, .if_icmp .ne 1, .aload 0, .iconst (-23), .jsr_w 11720, .aload 0, .ifnull 11720, .ireturn]
  | 1 => [.iconst 0, .istore 7, .goto 2]
  | 2 => [.iload 7, .aload 0, .ifnull 11339, .ifnonnull 12387, .iload 1, .iaload, .if_icmp .ge 12, .iload 7, .aload 0, .ifnull 11339, .ifnonnull 12379, .iload 1, .iaload, .if_icmp .ge 3, .iconst 1, .goto 4]
  | 3 => [.iconst 0, .goto 4]
  | 4 => [.istore 8, .aload 0, .ifnonnull 11563, .iload 7, .iload 8, .ifCond .eq 5, .iconst 1, .goto 6]
  | 5 => [.iconst 0, .goto 6]
  | 6 => [.iastore, .aload 0, .ifnonnull 11571, .iload 7, .iload 8, .ifCond .ne 7, .bipush 0, .goto 11]
  | 7 => [.iload 7, .ifCond .ne 8, .iload 3, .i2l, .goto 11]
  | 8 => [.iload 7, .iconst 1, .if_icmp .ne 9, .iload 4, .i2l, .goto 11]
  | 9 => [.iload 7, .iconst 2, .if_icmp .ne 10, .iload 5, .i2l, .goto 11]
  | 10 => [.iload 6, .i2l, .goto 11]
  | 11 => [.lastore, .iinc 7 1, .goto 2]
  | 12 => [.aload 0, .aload 0, .ifnull 11339, .ifnonnull 12395, .iload 1, .iaload, .jsr_w 11680, .aload 0, .iconst 1, .jsr_w 11716, .goto 13]
  | 13 => [.aload 0, .ifnull 11716, .ifCond .eq 14, .aload 0, .invokeinterface 98148 1, .goto 13]
  | 14 => [.aload 0, .ifnull 11720, .ireturn]
  | _ => []
/-- SchoolHouseModel.go()V -/
def B383 : Nat → List Instr := fun b => match b with
  | 0 => [.aload 0, .ifnull 11339, .ifnonnull 12419, .aload 0, .ifnull 11680, .iaload, .istore 1, .aload 0, .ifnull 11339, .ifnonnull 12427, .aload 0, .ifnull 11680, .iaload, .istore 2, .aload 0, .ifnull 11339, .ifnonnull 12435, .aload 0, .ifnull 11680, .iaload, .istore 3, .aload 0, .dup, .ifnull 11680, .iconst 1, .iadd, .jsr_w 11680, .iconst 420, .aload 0, .ifnull 11592, .iconst 1, .isub, .imul, .istore 4, .iconst 402, .aload 0, .ifnull 11592, .iconst 1, .isub, .imul, .iload 2, .iadd, .istore 5, .iload 1, .tableswitch 20 19 29 #[1, 5, 6, 8, 9, 10, 14, 16, 17, 19, 18]]
  | 1 => [.aload 0, .iconst 1, .invokeinterface 98400 2, .istore 6, .iload 6, .ifCond .eq 2, .aload 0, .iload 6, .invokeinterface 98912 2, .pop, .goto 21]
  | 2 => [.aload 0, .dup, .ifnull 11552, .iconst 1, .isub, .jsr_w 11552, .aload 0, .aload 0, .ifnonnull 11547, .aload 0, .ifnull 11552, .laload, .bipush 0, .lcmp, .ifCond .ne 3, .iload 2, .goto 4]
  | 3 => [.aload 0, .ifnull 11680, .goto 4]
  | 4 => [.jsr_w 11680, .goto 21]
  | 5 => [.aload 0, .iload 2, .jsr_w 11680, .goto 21]
  | 6 => [.aload 0, .iconst 1, .invokeinterface 98400 2, .istore 7, .iload 7, .ifCond .eq 7, .aload 0, .iload 7, .invokeinterface 98912 2, .pop, .goto 21]
  | 7 => [.aload 0, .dup, .ifnull 11552, .iconst 1, .isub, .jsr_w 11552, .aload 0, .ifnonnull 11579, .iload 5, .aload 0, .ifnonnull 11547, .aload 0, .ifnull 11552, .laload, .l2i, .iastore, .aload 0, .ifnonnull 11587, .iload 5, .iconst 0, .iastore, .goto 21]
  | 8 => [.aload 0, .ifnonnull 11587, .iload 5, .iaload, .aload 0, .ifnonnull 11579, .iload 5, .iaload, .if_icmp .ge 21, .aload 0, .invokeinterface 99936 1, .ifCond .eq 21, .aload 0, .ifnonnull 11563, .iload 4, .iload 3, .iadd, .iconst 1, .iastore, .aload 0, .ifnonnull 11571, .iload 4, .iload 3, .iadd, .aload 0, .ifnonnull 11587, .iload 5, .iaload, .i2l, .lastore, .aload 0, .ifnonnull 11587, .iload 5, .dup2, .iaload, .iconst 1, .iadd, .iastore, .aload 0, .dup, .ifnull 11680, .iconst 1, .iadd, .jsr_w 11680, .goto 21]
  | 9 => [.aload 0, .ifnonnull 11627, .aload 0, .ifnull 11616, .iload 2, .iastore, .aload 0, .ifnonnull 11635, .aload 0, .ifnull 11616, .aload 0, .ifnull 11592, .iconst 1, .isub, .iastore, .aload 0, .ifnonnull 11643, .aload 0, .ifnull 11616, .aload 0, .ifnull 11552, .iastore, .aload 0, .ifnonnull 11651, .aload 0, .ifnull 11616, .iconst 0, .iastore, .aload 0, .dup, .ifnull 11616, .iconst 1, .iadd, .jsr_w 11616, .goto 21]
  | 10 => [.aload 0, .ifnull 11339, .ifnonnull 12483, .iload 2, .iaload, .iconst (-9), .if_icmp .eq 11, .aload 0, .ifnonnull 11651, .aload 0, .ifnull 11616, .iconst 1, .isub, .iconst 2, .iastore, .aload 0, .ifnonnull 11659, .aload 0, .ifnull 11616, .iconst 1, .isub, .iconst 0, .iastore, .aload 0, .aload 0, .ifnull 11339, .ifnonnull 12483, .iload 2, .iaload, .jsr_w 11680, .goto 21]
  | 11 => [.aload 0, .dup, .ifnull 11616, .aload 0, .ifnull 11616, .ifCond .le 12, .aload 0, .ifnonnull 11635, .aload 0, .ifnull 11616, .iconst 1, .isub, .iaload, .aload 0, .ifnull 11592, .iconst 1, .isub, .if_icmp .ne 12, .aload 0, .ifnonnull 11627, .aload 0, .ifnull 11616, .iconst 1, .isub, .iaload, .iload 2, .if_icmp .ne 12, .iconst 1, .goto 13]
  | 12 => [.iconst 0, .goto 13]
  | 13 => [.isub, .jsr_w 11616, .aload 0, .iload 3, .jsr_w 11680, .goto 21]
  | 14 => [.aload 0, .dup, .ifnull 11616, .iconst 1, .isub, .jsr_w 11616, .aload 0, .ifnonnull 11659, .aload 0, .ifnull 11616, .iaload, .ifCond .le 15, .aload 0, .aload 0, .ifnonnull 11659, .aload 0, .ifnull 11616, .iaload, .iconst 1, .iconst 0, .bipush 0, .invokeinterface 99428 5, .goto 21]
  | 15 => [.aload 0, .ifnonnull 11659, .aload 0, .ifnull 11616, .iaload, .ifCond .ge 21, .aload 0, .iconst 0, .iconst 0, .aload 0, .ifnonnull 11667, .aload 0, .ifnull 11616, .iaload, .aload 0, .ifnonnull 11675, .aload 0, .ifnull 11616, .laload, .invokeinterface 99428 5, .goto 21]
  | 16 => [.aload 0, .iload 2, .invokeinterface 98912 2, .pop, .goto 21]
  | 17 => [.aload 0, .dup, .ifnull 11552, .iconst 1, .isub, .jsr_w 11552, .aload 0, .iconst 0, .iconst 0, .aload 0, .ifnonnull 11539, .aload 0, .ifnull 11552, .iaload, .aload 0, .ifnonnull 11547, .aload 0, .ifnull 11552, .laload, .invokeinterface 99428 5, .goto 21]
  | 18 => [.aload 0, .iconst 0, .iconst 0, .iconst 0, .bipush 0, .invokeinterface 99428 5, .goto 21]
  | 19 => [.aload 0, .invokeinterface 100196 1, .goto 21]
  | 20 => [.aload 0, .iload 1, .iload 2, .invokeinterface 101220 3, .goto 21]
  | 21 => [.return_]
  | _ => []
/-- SchoolHouseModel.notWhole(I)I -/
def B384 : Nat → List Instr := fun b => match b with
  | 0 => [.aload 0, .iload 1, .invokeinterface 98656 2, .ifCond .ne 1, .iconst 3, .goto 3]
  | 1 => [.aload 0, .iload 1, .invokeinterface 98656 2, .iconst 1, .if_icmp .eq 2, .iconst 4, .goto 3]
  | 2 => [.iconst 0, .goto 3]
  | 3 => [.ireturn]
  | _ => []
/-- SchoolHouseModel.kindAt(I)I -/
def B385 : Nat → List Instr := fun b => match b with
  | 0 => [.aload 0, .ifnonnull 11539, .aload 0, .ifnull 11552, .iload 1, .isub, .iaload, .ireturn]
  | _ => []
/-- SchoolHouseModel.fails(I)Z -/
def B386 : Nat → List Instr := fun b => match b with
  | 0 => [.aload 0, .ifnull 11704, .iconst 10000, .if_icmp .ne 1, .aload 0, .iconst (-23), .invokeinterface 99172 2, .goto 2]
  | 1 => [.aload 0, .dup, .ifnull 11704, .iconst 1, .iadd, .jsr_w 11704, .aload 0, .iload 1, .iconst 1, .iconst 0, .bipush 0, .invokeinterface 99428 5, .goto 2]
  | 2 => [.iconst 1, .freturn]
  | _ => []
/-- SchoolHouseModel.stop(I)V -/
def B387 : Nat → List Instr := fun b => match b with
  | 0 => [.aload 0, .iconst 0, .jsr_w 11716, .aload 0, .iload 1, .jsr_w 11720, .return_]
  | _ => []
/-- SchoolHouseModel.unwind(IZIJ)V -/
def B388 : Nat → List Instr := fun b => match b with
  | 0 => [.aload 0, .ifnull 11716, .ifCond .eq 16, .aload 0, .ifnull 11592, .iconst 1, .isub, .istore 6, .goto 1]
  | 1 => [.aload 0, .ifnull 11616, .ifCond .le 8, .aload 0, .ifnonnull 11635, .aload 0, .ifnull 11616, .iconst 1, .isub, .iaload, .iload 6, .if_icmp .ne 8, .aload 0, .ifnull 11616, .iconst 1, .isub, .istore 7, .aload 0, .ifnonnull 11627, .iload 7, .iaload, .istore 8, .aload 0, .ifnonnull 11651, .iload 7, .iaload, .istore 9, .iload 2, .ifCond .eq 4, .iload 9, .ifCond .ne 4, .aload 0, .ifnull 11339, .ifnonnull 12475, .iconst 8, .iload 8, .imul, .iload 1, .iadd, .iaload, .iconst (-9), .if_icmp .eq 4, .aload 0, .aload 0, .ifnonnull 11643, .iload 7, .iaload, .jsr_w 11552, .aload 0, .aload 0, .ifnull 11339, .ifnonnull 12475, .iconst 8, .iload 8, .imul, .iload 1, .iadd, .iaload, .jsr_w 11680, .aload 0, .ifnonnull 11651, .iload 7, .iconst 1, .iastore, .aload 0, .dup, .ifnull 11616, .aload 0, .ifnull 11339, .ifnonnull 12483, .iload 8, .iaload, .iconst (-9), .if_icmp .ne 2, .iconst 1, .goto 3]
  | 2 => [.iconst 0, .goto 3]
  | 3 => [.isub, .jsr_w 11616, .return_]
  | 4 => [.iload 9, .iconst 2, .if_icmp .ge 7, .aload 0, .ifnull 11339, .ifnonnull 12483, .iload 8, .iaload, .iconst (-9), .if_icmp .eq 7, .aload 0, .aload 0, .ifnonnull 11643, .iload 7, .iaload, .jsr_w 11552, .aload 0, .ifnonnull 11651, .iload 7, .iconst 2, .iastore, .aload 0, .ifnonnull 11659, .iload 7, .iload 2, .ifCond .eq 5, .iload 1, .goto 6]
  | 5 => [.iconst (-1), .goto 6]
  | 6 => [.iastore, .aload 0, .ifnonnull 11667, .iload 7, .iload 3, .iastore, .aload 0, .ifnonnull 11675, .iload 7, .lload 4, .lastore, .aload 0, .aload 0, .ifnull 11339, .ifnonnull 12483, .iload 8, .iaload, .jsr_w 11680, .return_]
  | 7 => [.aload 0, .dup, .ifnull 11616, .iconst 1, .isub, .jsr_w 11616, .goto 1]
  | 8 => [.aload 0, .dup, .ifnull 11592, .iconst 1, .isub, .jsr_w 11592, .aload 0, .ifnull 11592, .ifCond .ne 14, .aload 0, .iload 2, .ifCond .eq 9, .iconst (-10), .iload 1, .isub, .goto 11]
  | 9 => [.iload 3, .iconst 4, .if_icmp .ge 10, .iload 3, .goto 11]
  | 10 => [.aload 0, .ifnonnull 11515, .lload 4, .l2i, .iaload, .goto 11]
  | 11 => [.invokeinterface 99172 2, .aload 0, .iload 2, .ifCond .eq 12, .iconst 0, .goto 13]
  | 12 => [.iload 3, .goto 13]
  | 13 => [.jsr_w 11728, .aload 0, .lload 4, .jsr_w 11737, .return_]
  | 14 => [.aload 0, .aload 0, .ifnonnull 11611, .aload 0, .ifnull 11592, .iaload, .jsr_w 11552, .aload 0, .aload 0, .ifnonnull 11603, .aload 0, .ifnull 11592, .iaload, .jsr_w 11680, .iload 2, .ifCond .ne 15, .aload 0, .iload 3, .lload 4, .invokeinterface 99684 3, .return_]
  | 15 => [.goto 0]
  | 16 => [.return_]
  | _ => []
/-- SchoolHouseModel.push(IJ)V -/
def B389 : Nat → List Instr := fun b => match b with
  | 0 => [.aload 0, .ifnonnull 11539, .aload 0, .ifnull 11552, .iload 1, .iastore, .aload 0, .ifnonnull 11547, .aload 0, .ifnull 11552, .lload 2, .lastore, .aload 0, .dup, .ifnull 11552, .iconst 1, .iadd, .jsr_w 11552, .return_]
  | _ => []
/-- SchoolHouseModel.isStep()Z -/
def B390 : Nat → List Instr := fun b => match b with
  | 0 => [.aload 0, .ifnull 11688, .aload 0, .ifnull 11696, .if_icmp .ne 1, .aload 0, .iconst (-20), .invokeinterface 99172 2, .iconst 0, .freturn]
  | 1 => [.aload 0, .dup, .ifnull 11688, .iconst 1, .iadd, .jsr_w 11688, .iconst 1, .freturn]
  | _ => []
/-- SchoolHouseModel.copy()V -/
def B391 : Nat → List Instr := fun b => match b with
  | 0 => [.aload 0, .iconst 4, .invokeinterface 98400 2, .aload 0, .iconst 2, .invokeinterface 98400 2, .aload 0, .iconst 1, .invokeinterface 98400 2, .invokeinterface 100352 2, .invokeinterface 100352 2, .istore 1, .iload 1, .ifCond .ne 2, .aload 0, .iconst 5, .invokeinterface 98656 2, .ifCond .eq 1, .aload 0, .iconst 3, .invokeinterface 98656 2, .ifCond .ne 2, .goto 1]
  | 1 => [.iconst 3, .istore 1, .goto 2]
  | 2 => [.iload 1, .ifCond .ne 4, .aload 0, .iconst 5, .invokeinterface 98656 2, .iconst 4, .if_icmp .ne 3, .aload 0, .iconst 3, .invokeinterface 98656 2, .iconst 4, .if_icmp .eq 4, .goto 3]
  | 3 => [.iconst 6, .istore 1, .goto 4]
  | 4 => [.iload 1, .ifCond .eq 5, .aload 0, .iload 1, .invokeinterface 98912 2, .pop, .return_]
  | 5 => [.aload 0, .iconst 5, .invokeinterface 100705 2, .l2i, .istore 2, .aload 0, .iconst 3, .invokeinterface 100705 2, .l2i, .istore 3, .aload 0, .iconst 4, .invokeinterface 100705 2, .lstore 4, .aload 0, .iconst 2, .invokeinterface 100705 2, .lstore 6, .aload 0, .iconst 1, .invokeinterface 100705 2, .lstore 8, .aload 0, .ifnonnull 11515, .iload 2, .iaload, .aload 0, .ifnonnull 11515, .iload 3, .iaload, .if_icmp .eq 7, .aload 0, .ifnonnull 11515, .iload 2, .iaload, .iconst 6, .if_icmp .lt 6, .aload 0, .ifnonnull 11515, .iload 3, .iaload, .iconst 6, .if_icmp .ge 7, .goto 6]
  | 6 => [.aload 0, .iconst 6, .invokeinterface 98912 2, .pop, .return_]
  | 7 => [.lload 4, .bipush 0, .lcmp, .ifCond .lt 8, .lload 6, .bipush 0, .lcmp, .ifCond .lt 8, .lload 8, .bipush 0, .lcmp, .ifCond .lt 8, .lload 4, .lload 8, .ladd, .aload 0, .ifnonnull 11523, .iload 2, .iaload, .i2l, .lcmp, .ifCond .gt 8, .lload 6, .lload 8, .ladd, .aload 0, .ifnonnull 11523, .iload 3, .iaload, .i2l, .lcmp, .ifCond .le 9, .goto 8]
  | 8 => [.aload 0, .iconst 2, .invokeinterface 98912 2, .pop, .return_]
  | 9 => [.iconst 0, .istore 10, .goto 10]
  | 10 => [.iload 10, .i2l, .lload 8, .lcmp, .ifCond .ge 11, .aload 0, .ifnonnull 11747, .iload 10, .aload 0, .ifnonnull 11531, .iconst 64, .iload 2, .imul, .lload 4, .l2i, .iadd, .iload 10, .iadd, .laload, .lastore, .iinc 10 1, .goto 10]
  | 11 => [.iconst 0, .istore 10, .goto 12]
  | 12 => [.iload 10, .i2l, .lload 8, .lcmp, .ifCond .ge 14, .aload 0, .ifnonnull 11515, .iload 3, .iaload, .iconst 7, .if_icmp .ne 13, .aload 0, .ifnonnull 11747, .iload 10, .laload, .bipush (-9), .lcmp, .ifCond .eq 13, .aload 0, .aload 0, .ifnonnull 11747, .iload 10, .laload, .invokeinterface 100960 2, .ifCond .ne 13, .aload 0, .iconst 6, .invokeinterface 98912 2, .pop, .return_]
  | 13 => [.aload 0, .ifnonnull 11531, .iconst 64, .iload 3, .imul, .lload 6, .l2i, .iadd, .iload 10, .iadd, .aload 0, .ifnonnull 11747, .iload 10, .laload, .lastore, .iinc 10 1, .goto 12]
  | 14 => [.aload 0, .dup, .ifnull 11552, .iconst 5, .isub, .jsr_w 11552, .return_]
  | _ => []
/-- SchoolHouseModel.either(II)I -/
def B392 : Nat → List Instr := fun b => match b with
  | 0 => [.iload 0, .ifCond .eq 1, .iload 0, .goto 2]
  | 1 => [.iload 1, .goto 2]
  | 2 => [.ireturn]
  | _ => []
/-- SchoolHouseModel.valueAt(I)J -/
def B393 : Nat → List Instr := fun b => match b with
  | 0 => [.aload 0, .ifnonnull 11547, .aload 0, .ifnull 11552, .iload 1, .isub, .laload, .lreturn]
  | _ => []
/-- SchoolHouseModel.isTeacher(J)Z -/
def B394 : Nat → List Instr := fun b => match b with
  | 0 => [.lload 1, .bipush 0, .lcmp, .ifCond .lt 1, .aload 0, .ifnonnull 11475, .lload 1, .l2i, .iaload, .iconst 2, .if_icmp .lt 1, .iconst 1, .goto 2]
  | 1 => [.iconst 0, .goto 2]
  | 2 => [.freturn]
  | _ => []
/-- SchoolHouseModel.plain(II)V -/
def B395 : Nat → List Instr := fun b => match b with
  | 0 => [.iconst 420, .aload 0, .ifnull 11592, .iconst 1, .isub, .imul, .istore 3, .iload 1, .tableswitch 13 0 11 #[1, 2, 3, 4, 5, 6, 7, 8, 9, 10, 11, 12]]
  | 1 => [.aload 0, .invokeinterface 99936 1, .pop, .goto 14]
  | 2 => [.aload 0, .iconst 1, .iload 2, .i2l, .invokeinterface 99684 3, .goto 14]
  | 3 => [.aload 0, .iconst 2, .aload 0, .ifnull 11339, .ifnonnull 12443, .iload 2, .daload, .invokeinterface 101377 1, .invokeinterface 99684 3, .goto 14]
  | 4 => [.aload 0, .iconst 0, .bipush 0, .invokeinterface 99684 3, .goto 14]
  | 5 => [.aload 0, .aload 0, .ifnonnull 11563, .iload 3, .iload 2, .iadd, .iaload, .aload 0, .ifnonnull 11571, .iload 3, .iload 2, .iadd, .laload, .invokeinterface 99684 3, .goto 14]
  | 6 => [.aload 0, .dup, .ifnull 11552, .iconst 1, .isub, .jsr_w 11552, .aload 0, .ifnonnull 11563, .iload 3, .iload 2, .iadd, .aload 0, .ifnonnull 11539, .aload 0, .ifnull 11552, .iaload, .iastore, .aload 0, .ifnonnull 11571, .iload 3, .iload 2, .iadd, .aload 0, .ifnonnull 11547, .aload 0, .ifnull 11552, .laload, .lastore, .goto 14]
  | 7 => [.aload 0, .iload 2, .invokeinterface 102244 2, .goto 14]
  | 8 => [.aload 0, .iload 2, .invokeinterface 103012 2, .goto 14]
  | 9 => [.aload 0, .iload 2, .invokeinterface 103268 2, .goto 14]
  | 10 => [.aload 0, .invokeinterface 104036 1, .goto 14]
  | 11 => [.aload 0, .invokeinterface 104292 1, .goto 14]
  | 12 => [.aload 0, .iload 2, .invokeinterface 104804 2, .goto 14]
  | 13 => [.aload 0, .iload 1, .invokeinterface 105060 2, .goto 14]
  | 14 => [.return_]
  | _ => []
/-- SchoolHouseModel.bits(D)J -/
def B396 : Nat → List Instr := fun b => match b with
  | 0 => [.dload 0, .invokeinterface 101633 1, .lreturn]
  | _ => []
/-- lang/Double.doubleToLongBits(D)J -/
def B397 : Nat → List Instr := fun b => match b with
  | 0 => [.dload 0, .invokeinterface 101888 1, .ifCond .ne 1, .dload 0, .d2l, .lreturn]
  | 1 => [.bipush 9221120237041090560, .lreturn]
  | _ => []
/-- lang/Double.isNaN(D)Z -/
def B398 : Nat → List Instr := fun b => match b with
  | 0 => [.dload 0, .dload 0, .dcmp .l, .ifCond .eq 1, .iconst 1, .goto 2]
  | 1 => [.iconst 0, .goto 2]
  | 2 => [.freturn]
  | _ => []
/-- SchoolHouseModel.set(I)V -/
def B399 : Nat → List Instr := fun b => match b with
  | 0 => [.iconst 420, .aload 0, .ifnull 11592, .iconst 1, .isub, .imul, .iload 1, .iadd, .istore 2, .aload 0, .iconst 2, .invokeinterface 98400 2, .istore 3, .iload 3, .aload 0, .ifnonnull 11563, .iload 2, .iaload, .ifCond .ne 1, .iconst 3, .goto 3]
  | 1 => [.aload 0, .ifnonnull 11563, .iload 2, .iaload, .iconst 4, .if_icmp .eq 2, .iconst 4, .goto 3]
  | 2 => [.iconst 0, .goto 3]
  | 3 => [.invokeinterface 100352 2, .istore 3, .iload 3, .ifCond .eq 4, .aload 0, .iload 3, .invokeinterface 98912 2, .pop, .return_]
  | 4 => [.aload 0, .ifnonnull 11571, .iload 2, .laload, .l2i, .istore 4, .aload 0, .ifnonnull 11515, .iload 4, .iaload, .istore 5, .iload 5, .iconst 4, .if_icmp .ne 5, .aload 0, .iconst 1, .invokeinterface 98400 2, .goto 7]
  | 5 => [.iload 5, .iconst 5, .if_icmp .ne 6, .aload 0, .iconst 1, .invokeinterface 102496 2, .goto 7]
  | 6 => [.iconst 0, .goto 7]
  | 7 => [.istore 3, .iload 3, .ifCond .ne 9, .aload 0, .iconst 2, .invokeinterface 100705 2, .bipush 0, .lcmp, .ifCond .lt 8, .aload 0, .iconst 2, .invokeinterface 100705 2, .aload 0, .ifnonnull 11523, .iload 4, .iaload, .i2l, .lcmp, .ifCond .lt 9, .goto 8]
  | 8 => [.iconst 2, .istore 3, .goto 9]
  | 9 => [.iload 3, .ifCond .ne 10, .iload 5, .iconst 5, .if_icmp .le 10, .aload 0, .iconst 1, .invokeinterface 98656 2, .ifCond .eq 10, .aload 0, .iconst 1, .invokeinterface 98656 2, .iconst 3, .if_icmp .eq 10, .iconst 4, .istore 3, .goto 10]
  | 10 => [.iload 3, .ifCond .ne 11, .iload 5, .iconst 7, .if_icmp .ne 11, .aload 0, .iconst 1, .invokeinterface 98656 2, .iconst 3, .if_icmp .ne 11, .aload 0, .aload 0, .iconst 1, .invokeinterface 100705 2, .invokeinterface 100960 2, .ifCond .ne 11, .iconst 6, .istore 3, .goto 11]
  | 11 => [.iload 3, .ifCond .eq 12, .aload 0, .iload 3, .invokeinterface 98912 2, .pop, .return_]
  | 12 => [.aload 0, .ifnonnull 11531, .iconst 64, .iload 4, .imul, .aload 0, .iconst 2, .invokeinterface 100705 2, .l2i, .iadd, .iload 5, .iconst 5, .if_icmp .ne 13, .aload 0, .iconst 1, .invokeinterface 102754 2, .invokeinterface 101377 1, .goto 15]
  | 13 => [.aload 0, .iconst 1, .invokeinterface 98656 2, .ifCond .ne 14, .bipush (-9), .goto 15]
  | 14 => [.aload 0, .iconst 1, .invokeinterface 100705 2, .goto 15]
  | 15 => [.lastore, .aload 0, .dup, .ifnull 11552, .iconst 2, .isub, .jsr_w 11552, .return_]
  | _ => []
/-- SchoolHouseModel.notNumber(I)I -/
def B400 : Nat → List Instr := fun b => match b with
  | 0 => [.aload 0, .iload 1, .invokeinterface 98656 2, .ifCond .ne 1, .iconst 3, .goto 3]
  | 1 => [.aload 0, .iload 1, .invokeinterface 98656 2, .iconst 2, .if_icmp .le 2, .iconst 4, .goto 3]
  | 2 => [.iconst 0, .goto 3]
  | 3 => [.ireturn]
  | _ => []
/-- SchoolHouseModel.realAt(I)D -/
def B401 : Nat → List Instr := fun b => match b with
  | 0 => [.aload 0, .iload 1, .invokeinterface 98656 2, .iconst 1, .if_icmp .ne 1, .aload 0, .iload 1, .invokeinterface 100705 2, .l2d, .goto 2]
  | 1 => [.aload 0, .iload 1, .invokeinterface 100705 2, .f2d, .goto 2]
  | 2 => [.dreturn]
  | _ => []
/-- SchoolHouseModel.called(I)V -/
def B402 : Nat → List Instr := fun b => match b with
  | 0 => [.aload 0, .ifnull 11339, .ifnonnull 12379, .iload 1, .iaload, .istore 2, .aload 0, .invokeinterface 99936 1, .ifCond .ne 1, .return_]
  | 1 => [.aload 0, .ifnull 11592, .iconst 8, .if_icmp .ne 2, .aload 0, .iconst (-21), .invokeinterface 99172 2, .return_]
  | 2 => [.iconst 420, .aload 0, .ifnull 11592, .imul, .istore 3, .iconst 0, .istore 4, .goto 3]
  | 3 => [.iload 4, .aload 0, .ifnull 11339, .ifnonnull 12387, .iload 1, .iaload, .if_icmp .ge 4, .aload 0, .ifnonnull 11563, .iload 3, .iload 4, .iadd, .iconst 0, .iastore, .aload 0, .ifnonnull 11571, .iload 3, .iload 4, .iadd, .bipush 0, .lastore, .iinc 4 1, .goto 3]
  | 4 => [.iconst 0, .istore 4, .goto 5]
  | 5 => [.iload 4, .iload 2, .if_icmp .ge 6, .aload 0, .ifnonnull 11563, .iload 3, .iload 4, .iadd, .aload 0, .ifnonnull 11539, .aload 0, .ifnull 11552, .iload 2, .isub, .iload 4, .iadd, .iaload, .iastore, .aload 0, .ifnonnull 11571, .iload 3, .iload 4, .iadd, .aload 0, .ifnonnull 11547, .aload 0, .ifnull 11552, .iload 2, .isub, .iload 4, .iadd, .laload, .lastore, .iinc 4 1, .goto 5]
  | 6 => [.aload 0, .dup, .ifnull 11552, .iload 2, .isub, .jsr_w 11552, .aload 0, .ifnonnull 11611, .aload 0, .ifnull 11592, .aload 0, .ifnull 11552, .iastore, .aload 0, .ifnonnull 11603, .aload 0, .ifnull 11592, .aload 0, .ifnull 11680, .iastore, .aload 0, .dup, .ifnull 11592, .iconst 1, .iadd, .jsr_w 11592, .aload 0, .aload 0, .ifnull 11339, .ifnonnull 12395, .iload 1, .iaload, .jsr_w 11680, .return_]
  | _ => []
/-- SchoolHouseModel.binary(I)V -/
def B403 : Nat → List Instr := fun b => match b with
  | 0 => [.aload 0, .iconst 2, .invokeinterface 102496 2, .aload 0, .iconst 1, .invokeinterface 102496 2, .invokeinterface 100352 2, .istore 2, .iload 2, .ifCond .eq 1, .aload 0, .iload 2, .invokeinterface 98912 2, .pop, .return_]
  | 1 => [.iload 1, .iconst 60, .if_icmp .eq 2, .iload 1, .iconst 62, .if_icmp .eq 2, .iload 1, .iconst 61, .if_icmp .ne 3, .goto 2]
  | 2 => [.iconst 1, .goto 4]
  | 3 => [.iconst 0, .goto 4]
  | 4 => [.istore 3, .aload 0, .iconst 2, .invokeinterface 98656 2, .iconst 2, .if_icmp .eq 5, .aload 0, .iconst 1, .invokeinterface 98656 2, .iconst 2, .if_icmp .ne 20, .goto 5]
  | 5 => [.aload 0, .iconst 2, .invokeinterface 102754 2, .dstore 4, .aload 0, .iconst 1, .invokeinterface 102754 2, .dstore 6, .aload 0, .dup, .ifnull 11552, .iconst 2, .isub, .jsr_w 11552, .iload 3, .ifCond .eq 11, .aload 0, .iconst 1, .iload 1, .iconst 60, .if_icmp .ne 6, .dload 4, .dload 6, .dcmp .g, .ifCond .ge 9, .goto 8]
  | 6 => [.iload 1, .iconst 62, .if_icmp .ne 7, .dload 4, .dload 6, .dcmp .l, .ifCond .le 9, .goto 8]
  | 7 => [.dload 4, .dload 6, .dcmp .l, .ifCond .ne 9, .goto 8]
  | 8 => [.bipush 1, .goto 10]
  | 9 => [.bipush 0, .goto 10]
  | 10 => [.invokeinterface 99684 3, .goto 19]
  | 11 => [.aload 0, .iconst 2, .iload 1, .dload 4, .dload 6, .invokeinterface 103424 3, .ifCond .eq 12, .bipush 9221120237041090560, .goto 18]
  | 12 => [.iload 1, .iconst 43, .if_icmp .ne 13, .dload 4, .dload 6, .dadd, .goto 17]
  | 13 => [.iload 1, .iconst 45, .if_icmp .ne 14, .dload 4, .dload 6, .dsub, .goto 17]
  | 14 => [.iload 1, .iconst 42, .if_icmp .ne 15, .dload 4, .dload 6, .dmul, .goto 17]
  | 15 => [.iload 1, .iconst 47, .if_icmp .ne 16, .dload 4, .dload 6, .ddiv, .goto 17]
  | 16 => [.dload 4, .dload 6, .drem, .goto 17]
  | 17 => [.invokeinterface 101377 1, .goto 18]
  | 18 => [.invokeinterface 99684 3, .goto 19]
  | 19 => [.return_]
  | 20 => [.aload 0, .iconst 2, .invokeinterface 100705 2, .lstore 4, .aload 0, .iconst 1, .invokeinterface 100705 2, .lstore 6, .iload 3, .ifCond .eq 26, .aload 0, .dup, .ifnull 11552, .iconst 2, .isub, .jsr_w 11552, .aload 0, .iconst 1, .iload 1, .iconst 60, .if_icmp .ne 21, .lload 4, .lload 6, .lcmp, .ifCond .ge 24, .goto 23]
  | 21 => [.iload 1, .iconst 62, .if_icmp .ne 22, .lload 4, .lload 6, .lcmp, .ifCond .le 24, .goto 23]
  | 22 => [.lload 4, .lload 6, .lcmp, .ifCond .ne 24, .goto 23]
  | 23 => [.bipush 1, .goto 25]
  | 24 => [.bipush 0, .goto 25]
  | 25 => [.invokeinterface 99684 3, .return_]
  | 26 => [.iload 1, .iconst 47, .if_icmp .eq 27, .iload 1, .iconst 37, .if_icmp .ne 28, .goto 27]
  | 27 => [.lload 6, .bipush 0, .lcmp, .ifCond .ne 28, .aload 0, .iconst 1, .invokeinterface 98912 2, .pop, .return_]
  | 28 => [.iload 1, .iconst 43, .if_icmp .ne 29, .lload 4, .lload 6, .ladd, .goto 33]
  | 29 => [.iload 1, .iconst 45, .if_icmp .ne 30, .lload 4, .lload 6, .lsub, .goto 33]
  | 30 => [.iload 1, .iconst 42, .if_icmp .ne 31, .lload 4, .lload 6, .lmul, .goto 33]
  | 31 => [.iload 1, .iconst 47, .if_icmp .ne 32, .lload 4, .lload 6, .ldiv, .l2i, .i2l, .goto 33]
  | 32 => [.lload 4, .lload 6, .lrem, .goto 33]
  | 33 => [.lstore 8, .lload 8, .lload 8, .l2i, .i2l, .lcmp, .ifCond .eq 34, .aload 0, .iconst 7, .invokeinterface 98912 2, .pop, .return_]
  | 34 => [.aload 0, .dup, .ifnull 11552, .iconst 2, .isub, .jsr_w 11552, .aload 0, .iconst 1, .lload 8, .invokeinterface 99684 3, .return_]
  | _ => []
/-- SchoolHouseModel.isNoReal(IDD)Z -/
def B404 : Nat → List Instr := fun b => match b with
  | 0 => [.dload 1, .dload 1, .dcmp .l, .ifCond .ne 1, .dload 3, .dload 3, .dcmp .l, .ifCond .eq 2, .goto 1]
  | 1 => [.iconst 1, .freturn]
  | 2 => [.dload 1, .invokeinterface 103680 1, .ifCond .eq 3, .dload 3, .invokeinterface 103680 1, .ifCond .eq 3, .iconst 1, .goto 4]
  | 3 => [.iconst 0, .goto 4]
  | 4 => [.istore 5, .iload 0, .tableswitch 20 42 47 #[11, 5, 20, 8, 20, 16]]
  | 5 => [.iload 5, .ifCond .eq 6, .dload 1, .dload 3, .dcmp .l, .ifCond .eq 6, .iconst 1, .goto 7]
  | 6 => [.iconst 0, .goto 7]
  | 7 => [.freturn]
  | 8 => [.iload 5, .ifCond .eq 9, .dload 1, .dload 3, .dcmp .l, .ifCond .ne 9, .iconst 1, .goto 10]
  | 9 => [.iconst 0, .goto 10]
  | 10 => [.freturn]
  | 11 => [.dload 1, .invokeinterface 103680 1, .ifCond .eq 12, .dload 3, .sipush 0, .dcmp .l, .ifCond .eq 13, .goto 12]
  | 12 => [.dload 3, .invokeinterface 103680 1, .ifCond .eq 14, .dload 1, .sipush 0, .dcmp .l, .ifCond .ne 14, .goto 13]
  | 13 => [.iconst 1, .goto 15]
  | 14 => [.iconst 0, .goto 15]
  | 15 => [.freturn]
  | 16 => [.iload 5, .ifCond .ne 17, .dload 1, .sipush 0, .dcmp .l, .ifCond .ne 18, .dload 3, .sipush 0, .dcmp .l, .ifCond .ne 18, .goto 17]
  | 17 => [.iconst 1, .goto 19]
  | 18 => [.iconst 0, .goto 19]
  | 19 => [.freturn]
  | 20 => [.dload 1, .invokeinterface 103680 1, .ifCond .ne 21, .dload 3, .sipush 0, .dcmp .l, .ifCond .ne 22, .goto 21]
  | 21 => [.iconst 1, .goto 23]
  | 22 => [.iconst 0, .goto 23]
  | 23 => [.freturn]
  | _ => []
/-- SchoolHouseModel.isEndlessReal(D)Z -/
def B405 : Nat → List Instr := fun b => match b with
  | 0 => [.dload 0, .sipush 9218868437227405311, .dcmp .l, .ifCond .gt 1, .dload 0, .sipush (-4503599627370497), .dcmp .g, .ifCond .ge 2, .goto 1]
  | 1 => [.iconst 1, .goto 3]
  | 2 => [.iconst 0, .goto 3]
  | 3 => [.freturn]
  | _ => []
/-- SchoolHouseModel.minus()V -/
def B406 : Nat → List Instr := fun b => match b with
  | 0 => [.aload 0, .iconst 1, .invokeinterface 102496 2, .istore 1, .iload 1, .ifCond .ne 1, .aload 0, .iconst 1, .invokeinterface 98656 2, .iconst 1, .if_icmp .ne 1, .aload 0, .iconst 1, .invokeinterface 100705 2, .bipush (-2147483648), .lcmp, .ifCond .ne 1, .iconst 7, .istore 1, .goto 1]
  | 1 => [.iload 1, .ifCond .eq 2, .aload 0, .iload 1, .invokeinterface 98912 2, .pop, .return_]
  | 2 => [.aload 0, .iconst 1, .invokeinterface 98656 2, .iconst 2, .if_icmp .ne 3, .iconst 43, .aload 0, .iconst 1, .invokeinterface 102754 2, .sipush 0, .invokeinterface 103424 3, .ifCond .eq 3, .iconst 1, .goto 4]
  | 3 => [.iconst 0, .goto 4]
  | 4 => [.istore 2, .aload 0, .ifnonnull 11547, .aload 0, .ifnull 11552, .iconst 1, .isub, .aload 0, .iconst 1, .invokeinterface 98656 2, .iconst 1, .if_icmp .ne 5, .aload 0, .iconst 1, .invokeinterface 100705 2, .lneg, .goto 7]
  | 5 => [.iload 2, .ifCond .eq 6, .aload 0, .iconst 1, .invokeinterface 100705 2, .goto 7]
  | 6 => [.aload 0, .iconst 1, .invokeinterface 100705 2, .f2d, .dneg, .invokeinterface 101377 1, .goto 7]
  | 7 => [.lastore, .return_]
  | _ => []
/-- SchoolHouseModel.index()V -/
def B407 : Nat → List Instr := fun b => match b with
  | 0 => [.aload 0, .iconst 1, .invokeinterface 98400 2, .istore 1, .iload 1, .aload 0, .iconst 2, .invokeinterface 98656 2, .ifCond .ne 1, .iconst 3, .goto 3]
  | 1 => [.aload 0, .iconst 2, .invokeinterface 98656 2, .iconst 4, .if_icmp .eq 2, .iconst 4, .goto 3]
  | 2 => [.iconst 0, .goto 3]
  | 3 => [.invokeinterface 100352 2, .istore 1, .iload 1, .ifCond .ne 5, .aload 0, .iconst 1, .invokeinterface 100705 2, .bipush 0, .lcmp, .ifCond .lt 4, .aload 0, .iconst 1, .invokeinterface 100705 2, .aload 0, .ifnonnull 11523, .aload 0, .iconst 2, .invokeinterface 100705 2, .l2i, .iaload, .i2l, .lcmp, .ifCond .lt 5, .goto 4]
  | 4 => [.iconst 2, .istore 1, .goto 5]
  | 5 => [.iload 1, .ifCond .eq 6, .aload 0, .iload 1, .invokeinterface 98912 2, .pop, .return_]
  | 6 => [.aload 0, .iconst 1, .invokeinterface 100705 2, .l2i, .istore 2, .aload 0, .iconst 2, .invokeinterface 100705 2, .l2i, .istore 3, .aload 0, .dup, .ifnull 11552, .iconst 2, .isub, .jsr_w 11552, .aload 0, .iload 3, .iload 2, .invokeinterface 104548 3, .return_]
  | _ => []
/-- SchoolHouseModel.pushItem(II)V -/
def B408 : Nat → List Instr := fun b => match b with
  | 0 => [.aload 0, .ifnonnull 11531, .iconst 64, .iload 1, .imul, .iload 2, .iadd, .laload, .lstore 3, .aload 0, .ifnonnull 11515, .iload 1, .iaload, .istore 5, .aload 0, .iload 5, .iconst 4, .if_icmp .ne 1, .iconst 1, .goto 4]
  | 1 => [.iload 5, .iconst 5, .if_icmp .ne 2, .iconst 2, .goto 4]
  | 2 => [.lload 3, .bipush (-9), .lcmp, .ifCond .ne 3, .iconst 0, .goto 4]
  | 3 => [.iconst 3, .goto 4]
  | 4 => [.iload 5, .iconst 5, .if_icmp .le 5, .lload 3, .bipush (-9), .lcmp, .ifCond .ne 5, .bipush 0, .goto 6]
  | 5 => [.lload 3, .goto 6]
  | 6 => [.invokeinterface 99684 3, .return_]
  | _ => []
/-- SchoolHouseModel.made(I)V -/
def B409 : Nat → List Instr := fun b => match b with
  | 0 => [.aload 0, .iconst 1, .invokeinterface 98400 2, .iconst 0, .invokeinterface 100352 2, .istore 2, .iload 2, .ifCond .ne 2, .aload 0, .iconst 1, .invokeinterface 100705 2, .bipush 0, .lcmp, .ifCond .lt 1, .aload 0, .iconst 1, .invokeinterface 100705 2, .bipush 64, .lcmp, .ifCond .le 2, .goto 1]
  | 1 => [.iconst 5, .istore 2, .goto 2]
  | 2 => [.iload 2, .ifCond .eq 3, .aload 0, .iload 2, .invokeinterface 98912 2, .pop, .goto 5]
  | 3 => [.aload 0, .ifnull 11504, .iconst 6000, .if_icmp .ne 4, .aload 0, .iconst (-22), .invokeinterface 99172 2, .goto 5]
  | 4 => [.aload 0, .iconst 1, .invokeinterface 100705 2, .l2i, .istore 3, .aload 0, .dup, .ifnull 11552, .iconst 1, .isub, .jsr_w 11552, .aload 0, .iconst 4, .aload 0, .iload 1, .iload 3, .invokeinterface 96608 3, .i2l, .invokeinterface 99684 3, .goto 5]
  | 5 => [.return_]
  | _ => []
/-- SchoolHouseModel.asked(I)V -/
def B410 : Nat → List Instr := fun b => match b with
  | 0 => [.iload 1, .tableswitch 21 12 17 #[1, 5, 6, 7, 10, 14]]
  | 1 => [.aload 0, .iconst 1, .invokeinterface 98656 2, .ifCond .ne 2, .iconst 3, .goto 4]
  | 2 => [.aload 0, .iconst 1, .invokeinterface 98656 2, .iconst 4, .if_icmp .eq 3, .iconst 4, .goto 4]
  | 3 => [.iconst 0, .goto 4]
  | 4 => [.istore 2, .iload 2, .ifCond .ne 28, .aload 0, .ifnonnull 11547, .aload 0, .ifnull 11552, .iconst 1, .isub, .aload 0, .ifnonnull 11523, .aload 0, .iconst 1, .invokeinterface 100705 2, .l2i, .iaload, .i2l, .lastore, .aload 0, .ifnonnull 11539, .aload 0, .ifnull 11552, .iconst 1, .isub, .iconst 1, .iastore, .goto 28]
  | 5 => [.aload 0, .iconst 1, .invokeinterface 102496 2, .istore 2, .iload 2, .ifCond .ne 28, .aload 0, .iconst 1, .invokeinterface 98656 2, .iconst 2, .if_icmp .ne 28, .aload 0, .ifnonnull 11547, .aload 0, .ifnull 11552, .iconst 1, .isub, .aload 0, .iconst 1, .invokeinterface 100705 2, .f2d, .d2i, .i2l, .lastore, .aload 0, .ifnonnull 11539, .aload 0, .ifnull 11552, .iconst 1, .isub, .iconst 1, .iastore, .goto 28]
  | 6 => [.aload 0, .iconst 1, .invokeinterface 102496 2, .istore 2, .iload 2, .ifCond .ne 28, .aload 0, .iconst 1, .invokeinterface 98656 2, .iconst 1, .if_icmp .ne 28, .aload 0, .ifnonnull 11547, .aload 0, .ifnull 11552, .iconst 1, .isub, .aload 0, .iconst 1, .invokeinterface 100705 2, .l2d, .invokeinterface 101377 1, .lastore, .aload 0, .ifnonnull 11539, .aload 0, .ifnull 11552, .iconst 1, .isub, .iconst 2, .iastore, .goto 28]
  | 7 => [.iconst 0, .istore 2, .aload 0, .ifnonnull 11547, .aload 0, .ifnull 11552, .iconst 1, .isub, .aload 0, .iconst 1, .invokeinterface 98656 2, .ifCond .ne 8, .bipush 1, .goto 9]
  | 8 => [.bipush 0, .goto 9]
  | 9 => [.lastore, .aload 0, .ifnonnull 11539, .aload 0, .ifnull 11552, .iconst 1, .isub, .iconst 1, .iastore, .goto 28]
  | 10 => [.aload 0, .iconst 1, .invokeinterface 98400 2, .istore 2, .iload 2, .ifCond .ne 12, .aload 0, .iconst 1, .invokeinterface 100705 2, .bipush 0, .lcmp, .ifCond .lt 11, .aload 0, .iconst 1, .invokeinterface 100705 2, .aload 0, .ifnull 11464, .i2l, .lcmp, .ifCond .lt 12, .goto 11]
  | 11 => [.iconst 2, .goto 13]
  | 12 => [.iload 2, .goto 13]
  | 13 => [.istore 2, .iload 2, .ifCond .ne 28, .aload 0, .ifnonnull 11539, .aload 0, .ifnull 11552, .iconst 1, .isub, .iconst 3, .iastore, .goto 28]
  | 14 => [.aload 0, .iconst 1, .invokeinterface 98400 2, .aload 0, .iconst 2, .invokeinterface 98656 2, .ifCond .ne 15, .iconst 3, .goto 17]
  | 15 => [.aload 0, .iconst 2, .invokeinterface 98656 2, .iconst 3, .if_icmp .eq 16, .iconst 4, .goto 17]
  | 16 => [.iconst 0, .goto 17]
  | 17 => [.invokeinterface 100352 2, .istore 2, .iload 2, .ifCond .ne 19, .aload 0, .iconst 1, .invokeinterface 100705 2, .bipush 0, .lcmp, .ifCond .lt 18, .aload 0, .iconst 1, .invokeinterface 100705 2, .bipush 3, .lcmp, .ifCond .le 19, .goto 18]
  | 18 => [.iconst 2, .goto 20]
  | 19 => [.iload 2, .goto 20]
  | 20 => [.istore 2, .iload 2, .ifCond .ne 28, .aload 0, .aload 0, .iconst 2, .invokeinterface 100705 2, .l2i, .aload 0, .iconst 1, .invokeinterface 100705 2, .l2i, .invokeinterface 95840 3, .istore 3, .aload 0, .dup, .ifnull 11552, .iconst 2, .isub, .jsr_w 11552, .aload 0, .iconst 1, .iload 3, .i2l, .invokeinterface 99684 3, .goto 28]
  | 21 => [.aload 0, .iconst 2, .invokeinterface 98400 2, .aload 0, .iconst 1, .invokeinterface 98400 2, .invokeinterface 100352 2, .istore 2, .iload 2, .ifCond .ne 23, .aload 0, .iconst 2, .invokeinterface 100705 2, .bipush 0, .lcmp, .ifCond .lt 22, .aload 0, .iconst 2, .invokeinterface 100705 2, .aload 0, .ifnull 11464, .i2l, .lcmp, .ifCond .ge 22, .aload 0, .ifnonnull 11475, .aload 0, .iconst 2, .invokeinterface 100705 2, .l2i, .iaload, .ifCond .ne 22, .aload 0, .iconst 1, .invokeinterface 100705 2, .bipush 0, .lcmp, .ifCond .lt 22, .aload 0, .iconst 1, .invokeinterface 100705 2, .aload 0, .ifnull 11339, .ifnonnull 12291, .iconst 5, .iaload, .i2l, .lcmp, .ifCond .lt 23, .goto 22]
  | 22 => [.iconst 2, .istore 2, .goto 23]
  | 23 => [.iload 2, .ifCond .ne 28, .aload 0, .ifnonnull 11499, .iconst 8, .aload 0, .iconst 2, .invokeinterface 100705 2, .l2i, .imul, .aload 0, .iconst 1, .invokeinterface 100705 2, .l2i, .iadd, .iaload, .istore 3, .aload 0, .dup, .ifnull 11552, .iconst 2, .isub, .jsr_w 11552, .aload 0, .iload 3, .iconst (-9), .if_icmp .ne 24, .iconst 0, .goto 25]
  | 24 => [.iconst 4, .goto 25]
  | 25 => [.iload 3, .iconst (-9), .if_icmp .ne 26, .bipush 0, .goto 27]
  | 26 => [.iload 3, .i2l, .goto 27]
  | 27 => [.invokeinterface 99684 3, .goto 28]
  | 28 => [.iload 2, .ifCond .eq 29, .aload 0, .iload 2, .invokeinterface 98912 2, .pop, .goto 29]
  | 29 => [.return_]
  | _ => []
/-- SchoolHouseModel.gave(I)J -/
def B411 : Nat → List Instr := fun b => match b with
  | 0 => [.iload 1, .iconst (-1), .if_icmp .ne 3, .aload 0, .ifnull 11728, .iconst 1, .if_icmp .ne 1, .aload 0, .ifnull 11737, .goto 2]
  | 1 => [.bipush 0, .goto 2]
  | 2 => [.lreturn]
  | 3 => [.iload 1, .iconst (-2), .if_icmp .ne 6, .aload 0, .ifnull 11728, .iconst 2, .if_icmp .ne 4, .aload 0, .ifnull 11737, .goto 5]
  | 4 => [.bipush 0, .goto 5]
  | 5 => [.lreturn]
  | 6 => [.iload 1, .iconst (-3), .if_icmp .ne 9, .aload 0, .ifnull 11728, .iconst 3, .if_icmp .ne 7, .aload 0, .ifnull 11737, .goto 8]
  | 7 => [.bipush 0, .goto 8]
  | 8 => [.lreturn]
  | 9 => [.aload 0, .ifnull 11728, .iconst 4, .if_icmp .eq 10, .bipush 0, .lreturn]
  | 10 => [.aload 0, .ifnull 11737, .l2i, .istore 2, .iload 1, .iconst (-4), .if_icmp .ne 11, .aload 0, .ifnonnull 11523, .iload 2, .iaload, .i2l, .goto 13]
  | 11 => [.iload 1, .ifCond .lt 12, .iload 1, .aload 0, .ifnonnull 11523, .iload 2, .iaload, .if_icmp .ge 12, .aload 0, .ifnonnull 11531, .iconst 64, .iload 2, .imul, .iload 1, .iadd, .laload, .goto 13]
  | 12 => [.bipush 0, .goto 13]
  | 13 => [.lreturn]
  | _ => []
/-- SchoolHouseModel.steps()I -/
def B412 : Nat → List Instr := fun b => match b with
  | 0 => [.aload 0, .ifnull 11688, .ireturn]
  | _ => []
/-- SchoolHouseModel.stand(II)I -/
def B413 : Nat → List Instr := fun b => match b with
  | 0 => [.aload 0, .iload 1, .invokeinterface 97632 2, .ifCond .eq 1, .iload 2, .iconst 1, .iconst 3000, .invokeinterface 94464 3, .ifCond .eq 1, .aload 0, .ifnull 11339, .ifnonnull 12379, .iload 1, .iaload, .iconst 1, .if_icmp .eq 2, .goto 1]
  | 1 => [.iconst (-1), .ireturn]
  | 2 => [.aload 0, .ifnull 11728, .istore 3, .aload 0, .ifnull 11737, .lstore 4, .aload 0, .ifnull 11688, .istore 6, .iconst 0, .istore 7, .iconst 0, .istore 8, .goto 3]
  | 3 => [.iload 8, .aload 0, .ifnull 11464, .if_icmp .ge 13, .aload 0, .ifnonnull 11475, .iload 8, .iaload, .ifCond .ne 12, .aload 0, .iload 1, .iload 2, .iload 8, .iconst 0, .iconst 0, .iconst 0, .invokeinterface 97888 7, .pop, .aload 0, .ifnull 11728, .iconst 1, .if_icmp .ne 4, .aload 0, .ifnull 11737, .l2d, .goto 5]
  | 4 => [.aload 0, .ifnull 11737, .f2d, .goto 5]
  | 5 => [.dstore 9, .aload 0, .ifnonnull 11771, .iload 8, .aload 0, .ifnull 11720, .ifCond .lt 6, .aload 0, .ifnull 11728, .iconst 1, .if_icmp .eq 7, .aload 0, .ifnull 11728, .iconst 2, .if_icmp .eq 7, .goto 6]
  | 6 => [.iconst 2, .goto 9]
  | 7 => [.dload 9, .dload 9, .dcmp .l, .ifCond .eq 8, .iconst 1, .goto 9]
  | 8 => [.iconst 0, .goto 9]
  | 9 => [.iastore, .aload 0, .ifnonnull 11779, .iload 8, .dload 9, .dastore, .iload 7, .istore 11, .goto 10]
  | 10 => [.iload 11, .ifCond .le 11, .aload 0, .iload 8, .aload 0, .ifnonnull 11763, .iload 11, .iconst 1, .isub, .iaload, .invokeinterface 106080 3, .ifCond .eq 11, .aload 0, .ifnonnull 11763, .iload 11, .aload 0, .ifnonnull 11763, .iload 11, .iconst 1, .isub, .iaload, .iastore, .iinc 11 (-1), .goto 10]
  | 11 => [.aload 0, .ifnonnull 11763, .iload 11, .iload 8, .iastore, .iinc 7 1, .goto 12]
  | 12 => [.iinc 8 1, .goto 3]
  | 13 => [.aload 0, .iload 3, .jsr_w 11728, .aload 0, .lload 4, .jsr_w 11737, .aload 0, .iload 6, .jsr_w 11688, .aload 0, .iload 7, .jsr_w 11752, .iload 7, .ireturn]
  | _ => []
/-- SchoolHouseModel.isAhead(II)Z -/
def B414 : Nat → List Instr := fun b => match b with
  | 0 => [.aload 0, .ifnonnull 11771, .iload 1, .iaload, .aload 0, .ifnonnull 11771, .iload 2, .iaload, .if_icmp .eq 3, .aload 0, .ifnonnull 11771, .iload 1, .iaload, .aload 0, .ifnonnull 11771, .iload 2, .iaload, .if_icmp .ge 1, .iconst 1, .goto 2]
  | 1 => [.iconst 0, .goto 2]
  | 2 => [.freturn]
  | 3 => [.aload 0, .ifnonnull 11771, .iload 1, .iaload, .ifCond .ne 5, .aload 0, .ifnonnull 11779, .iload 1, .daload, .aload 0, .ifnonnull 11779, .iload 2, .daload, .dcmp .l, .ifCond .eq 5, .aload 0, .ifnonnull 11779, .iload 1, .daload, .aload 0, .ifnonnull 11779, .iload 2, .daload, .dcmp .g, .ifCond .ge 4, .iconst 1, .goto 7]
  | 4 => [.iconst 0, .goto 7]
  | 5 => [.iload 1, .iload 2, .if_icmp .ge 6, .iconst 1, .goto 7]
  | 6 => [.iconst 0, .goto 7]
  | 7 => [.freturn]
  | _ => []
/-- SchoolHouseModel.standing(I)I -/
def B415 : Nat → List Instr := fun b => match b with
  | 0 => [.iload 1, .iconst 0, .aload 0, .ifnull 11752, .iconst 1, .isub, .invokeinterface 94464 3, .ifCond .eq 1, .aload 0, .ifnonnull 11763, .iload 1, .iaload, .goto 2]
  | 1 => [.iconst (-1), .goto 2]
  | 2 => [.ireturn]
  | _ => []
/-- SchoolHouseModel.week(I)I -/
def B416 : Nat → List Instr := fun b => match b with
  | 0 => [.iload 1, .iconst 1, .iconst 4, .invokeinterface 94464 3, .ifCond .ne 1, .iconst (-1), .ireturn]
  | 1 => [.aload 0, .ifnull 11784, .istore 2, .aload 0, .iload 1, .jsr_w 11784, .aload 0, .invokeinterface 106852 1, .iconst 0, .istore 3, .goto 2]
  | 2 => [.iload 3, .iconst 10, .if_icmp .ge 3, .aload 0, .ifnonnull 11795, .iload 3, .iconst 0, .iastore, .aload 0, .ifnonnull 11803, .iload 3, .iconst 0, .iastore, .iinc 3 1, .goto 2]
  | 3 => [.iconst 0, .istore 3, .goto 4]
  | 4 => [.iload 3, .iconst 240, .if_icmp .ge 5, .aload 0, .ifnonnull 11811, .iload 3, .iconst 0, .iastore, .iinc 3 1, .goto 4]
  | 5 => [.iload 2, .ireturn]
  | _ => []
/-- SchoolHouseModel.noTable()V -/
def B417 : Nat → List Instr := fun b => match b with
  | 0 => [.aload 0, .iconst 0, .jsr_w 11820, .aload 0, .iconst 0, .jsr_w 11828, .aload 0, .iconst 0, .jsr_w 11836, .return_]
  | _ => []
/-- SchoolHouseModel.bar(III)I -/
def B418 : Nat → List Instr := fun b => match b with
  | 0 => [.aload 0, .iload 1, .iload 2, .iload 3, .invokeinterface 107360 4, .ifCond .ne 1, .iconst (-1), .ireturn]
  | 1 => [.aload 0, .ifnonnull 11795, .iload 1, .aload 0, .ifnonnull 11795, .iload 1, .iaload, .iconst 1, .iload 2, .ishl, .iconst (-1), .ixor, .iand, .iload 3, .iload 2, .ishl, .ior, .iastore, .aload 0, .invokeinterface 106852 1, .iconst 0, .ireturn]
  | _ => []
/-- SchoolHouseModel.isStaffAt(III)Z -/
def B419 : Nat → List Instr := fun b => match b with
  | 0 => [.iload 1, .iconst 0, .aload 0, .ifnull 11339, .ifnonnull 12291, .iconst 2, .iaload, .iconst 1, .isub, .invokeinterface 94464 3, .ifCond .eq 1, .iload 2, .iconst 0, .iconst 5, .aload 0, .ifnull 11784, .imul, .iconst 1, .isub, .invokeinterface 94464 3, .ifCond .eq 1, .iload 3, .iconst 0, .iconst 1, .invokeinterface 94464 3, .ifCond .eq 1, .iconst 1, .goto 2]
  | 1 => [.iconst 0, .goto 2]
  | 2 => [.freturn]
  | _ => []
/-- SchoolHouseModel.wish(III)I -/
def B420 : Nat → List Instr := fun b => match b with
  | 0 => [.iload 1, .iconst 0, .aload 0, .ifnull 11339, .ifnonnull 12291, .iconst 4, .iaload, .iconst 1, .isub, .invokeinterface 94464 3, .ifCond .eq 1, .iload 2, .iconst 0, .iconst 5, .aload 0, .ifnull 11784, .imul, .iconst 1, .isub, .invokeinterface 94464 3, .ifCond .eq 1, .iload 3, .iconst (-99), .iconst 99, .invokeinterface 94464 3, .ifCond .ne 2, .goto 1]
  | 1 => [.iconst (-100), .ireturn]
  | 2 => [.aload 0, .ifnonnull 11811, .iconst 20, .iload 1, .imul, .iload 2, .iadd, .iaload, .istore 4, .aload 0, .ifnonnull 11811, .iconst 20, .iload 1, .imul, .iload 2, .iadd, .iload 3, .iastore, .aload 0, .invokeinterface 106852 1, .iload 4, .ireturn]
  | _ => []
/-- SchoolHouseModel.build(I)I -/
def B421 : Nat → List Instr := fun b => match b with
  | 0 => [.iload 1, .iconst 1, .iconst 10000, .invokeinterface 94464 3, .ifCond .ne 1, .iconst (-1), .ireturn]
  | 1 => [.aload 0, .invokeinterface 108128 1, .istore 2, .aload 0, .ifnull 11339, .ifnonnull 12291, .iconst 1, .iaload, .istore 3, .iconst 5, .aload 0, .ifnull 11784, .imul, .iload 3, .imul, .istore 4, .aload 0, .iconst 0, .jsr_w 11840, .aload 0, .iload 2, .ifCond .ne 2, .iconst 1, .goto 3]
  | 2 => [.iconst 0, .goto 3]
  | 3 => [.jsr_w 11820, .aload 0, .iconst 1, .jsr_w 11828, .aload 0, .iconst 0, .jsr_w 11836, .aload 0, .iconst 0, .jsr_w 11848, .aload 0, .ifnonnull 11907, .iload 2, .iconst 0, .iastore, .iload 2, .iconst 1, .isub, .istore 5, .goto 4]
  | 4 => [.iload 5, .ifCond .lt 9, .iconst 100, .istore 6, .iconst 0, .istore 7, .goto 5]
  | 5 => [.iload 7, .iconst 5, .aload 0, .ifnull 11784, .imul, .if_icmp .ge 8, .aload 0, .ifnonnull 11811, .iconst 20, .aload 0, .ifnonnull 11875, .iload 5, .iaload, .imul, .iload 7, .iadd, .iaload, .istore 8, .iload 8, .iload 6, .if_icmp .ge 6, .iload 8, .goto 7]
  | 6 => [.iload 6, .goto 7]
  | 7 => [.istore 6, .iinc 7 1, .goto 5]
  | 8 => [.aload 0, .ifnonnull 11907, .iload 5, .aload 0, .ifnonnull 11907, .iload 5, .iconst 1, .iadd, .iaload, .iload 6, .iadd, .iastore, .iinc 5 (-1), .goto 4]
  | 9 => [.aload 0, .ifnonnull 11915, .iconst 0, .iconst 0, .iastore, .iconst 0, .istore 5, .aload 0, .ifnonnull 11899, .iconst 0, .iconst (-1), .iastore, .goto 10]
  | 10 => [.iload 5, .ifCond .lt 20, .iload 2, .ifCond .le 20, .aload 0, .ifnonnull 11899, .iload 5, .dup2, .iaload, .iconst 1, .iadd, .iastore, .aload 0, .ifnonnull 11899, .iload 5, .iaload, .iload 4, .if_icmp .lt 11, .iinc 5 (-1), .goto 10]
  | 11 => [.aload 0, .ifnull 11840, .iload 1, .if_icmp .ne 14, .aload 0, .ifnull 11820, .ifCond .eq 12, .iconst 1, .goto 13]
  | 12 => [.iconst 3, .goto 13]
  | 13 => [.ireturn]
  | 14 => [.aload 0, .dup, .ifnull 11840, .iconst 1, .iadd, .jsr_w 11840, .aload 0, .ifnonnull 11899, .iload 5, .iaload, .iload 3, .idiv, .istore 6, .aload 0, .ifnonnull 11899, .iload 5, .iaload, .iload 3, .irem, .istore 7, .aload 0, .ifnonnull 11915, .iload 5, .iaload, .aload 0, .ifnonnull 11811, .iconst 20, .aload 0, .ifnonnull 11875, .iload 5, .iaload, .imul, .iload 6, .iadd, .iaload, .iadd, .istore 8, .aload 0, .iload 5, .iload 6, .iload 7, .invokeinterface 108384 4, .ifCond .eq 19, .aload 0, .ifnull 11820, .ifCond .eq 15, .iload 8, .aload 0, .ifnonnull 11907, .iload 5, .iconst 1, .iadd, .iaload, .iadd, .aload 0, .ifnull 11848, .if_icmp .ge 19, .goto 15]
  | 15 => [.aload 0, .ifnonnull 11883, .iload 5, .iload 6, .iastore, .aload 0, .ifnonnull 11891, .iload 5, .iload 7, .iastore, .aload 0, .ifnonnull 11915, .iload 5, .iconst 1, .iadd, .iload 8, .iastore, .iload 5, .iload 2, .iconst 1, .isub, .if_icmp .ne 18, .aload 0, .iconst 1, .jsr_w 11820, .aload 0, .iload 8, .jsr_w 11848, .iconst 0, .istore 9, .goto 16]
  | 16 => [.iload 9, .iload 2, .if_icmp .ge 17, .aload 0, .ifnonnull 11859, .iload 9, .aload 0, .ifnonnull 11883, .iload 9, .iaload, .iastore, .aload 0, .ifnonnull 11867, .iload 9, .aload 0, .ifnonnull 11891, .iload 9, .iaload, .iastore, .iinc 9 1, .goto 16]
  | 17 => [.goto 19]
  | 18 => [.iinc 5 1, .aload 0, .ifnonnull 11899, .iload 5, .iconst (-1), .iastore, .goto 19]
  | 19 => [.goto 10]
  | 20 => [.aload 0, .ifnull 11820, .ifCond .eq 21, .iconst 0, .goto 22]
  | 21 => [.iconst 2, .goto 22]
  | 22 => [.ireturn]
  | _ => []
/-- SchoolHouseModel.units()I -/
def B422 : Nat → List Instr := fun b => match b with
  | 0 => [.iconst 0, .istore 1, .iconst 0, .istore 2, .goto 1]
  | 1 => [.iload 2, .aload 0, .ifnull 11339, .ifnonnull 12291, .iconst 4, .iaload, .if_icmp .ge 4, .iconst 0, .istore 3, .goto 2]
  | 2 => [.iload 3, .aload 0, .ifnull 11339, .ifnonnull 12363, .iload 2, .iaload, .if_icmp .ge 3, .aload 0, .ifnonnull 11875, .iload 1, .iload 2, .iastore, .iinc 1 1, .iinc 3 1, .goto 2]
  | 3 => [.iinc 2 1, .goto 1]
  | 4 => [.iload 1, .ireturn]
  | _ => []
/-- SchoolHouseModel.isFit(III)Z -/
def B423 : Nat → List Instr := fun b => match b with
  | 0 => [.aload 0, .ifnonnull 11875, .iload 1, .iaload, .istore 4, .aload 0, .ifnull 11339, .ifnonnull 12355, .iload 4, .iaload, .istore 5, .aload 0, .ifnull 11339, .ifnonnull 12307, .iload 3, .iaload, .aload 0, .ifnull 11339, .ifnonnull 12331, .aload 0, .ifnull 11339, .ifnonnull 12347, .iload 4, .iaload, .iaload, .if_icmp .lt 1, .aload 0, .ifnonnull 11795, .iload 5, .iaload, .iload 2, .ishr, .iconst 1, .iand, .ifCond .ne 1, .iconst 1, .goto 2]
  | 1 => [.iconst 0, .goto 2]
  | 2 => [.istore 6, .iconst 0, .istore 7, .goto 3]
  | 3 => [.iload 7, .iload 1, .if_icmp .ge 10, .iload 6, .ifCond .eq 10, .aload 0, .ifnonnull 11875, .iload 7, .iaload, .istore 8, .aload 0, .ifnonnull 11883, .iload 7, .iaload, .iload 2, .if_icmp .ne 4, .iconst 1, .goto 5]
  | 4 => [.iconst 0, .goto 5]
  | 5 => [.istore 9, .iload 9, .ifCond .eq 6, .aload 0, .ifnonnull 11891, .iload 7, .iaload, .iload 3, .if_icmp .eq 8, .aload 0, .ifnull 11339, .ifnonnull 12347, .iload 8, .iaload, .aload 0, .ifnull 11339, .ifnonnull 12347, .iload 4, .iaload, .if_icmp .eq 8, .aload 0, .ifnull 11339, .ifnonnull 12355, .iload 8, .iaload, .iload 5, .if_icmp .eq 8, .goto 6]
  | 6 => [.iload 8, .iload 4, .if_icmp .ne 7, .aload 0, .ifnonnull 11883, .iload 7, .iaload, .aload 0, .ifnull 11784, .idiv, .iload 2, .aload 0, .ifnull 11784, .idiv, .if_icmp .eq 8, .goto 7]
  | 7 => [.iconst 1, .goto 9]
  | 8 => [.iconst 0, .goto 9]
  | 9 => [.istore 6, .iinc 7 1, .goto 3]
  | 10 => [.iload 6, .freturn]
  | _ => []
/-- SchoolHouseModel.table(I)I -/
def B424 : Nat → List Instr := fun b => match b with
  | 0 => [.iload 1, .iconst 0, .iconst 1, .invokeinterface 94464 3, .ifCond .ne 1, .iconst (-1), .ireturn]
  | 1 => [.iload 1, .iconst 1, .if_icmp .ne 4, .aload 0, .ifnull 11828, .ifCond .eq 2, .aload 0, .ifnull 11840, .goto 3]
  | 2 => [.iconst (-100000), .goto 3]
  | 3 => [.ireturn]
  | 4 => [.aload 0, .ifnull 11820, .ifCond .eq 5, .aload 0, .ifnull 11848, .goto 6]
  | 5 => [.iconst (-100000), .goto 6]
  | 6 => [.ireturn]
  | _ => []
/-- SchoolHouseModel.unit(II)I -/
def B425 : Nat → List Instr := fun b => match b with
  | 0 => [.iload 1, .iconst 0, .aload 0, .invokeinterface 108128 1, .iconst 1, .isub, .invokeinterface 94464 3, .ifCond .eq 1, .iload 2, .iconst 0, .iconst 2, .invokeinterface 94464 3, .ifCond .ne 2, .goto 1]
  | 1 => [.iconst (-1), .ireturn]
  | 2 => [.aload 0, .ifnull 11820, .ifCond .ne 3, .iconst (-2), .ireturn]
  | 3 => [.iload 2, .ifCond .ne 4, .aload 0, .ifnonnull 11875, .iload 1, .iaload, .goto 6]
  | 4 => [.iload 2, .iconst 1, .if_icmp .ne 5, .aload 0, .ifnonnull 11859, .iload 1, .iaload, .goto 6]
  | 5 => [.aload 0, .ifnonnull 11867, .iload 1, .iaload, .goto 6]
  | 6 => [.ireturn]
  | _ => []
/-- SchoolHouseModel.prefer(II)I -/
def B426 : Nat → List Instr := fun b => match b with
  | 0 => [.aload 0, .iload 1, .invokeinterface 95328 2, .ifCond .eq 1, .aload 0, .iload 2, .invokeinterface 96352 2, .ifCond .ne 2, .goto 1]
  | 1 => [.iconst (-1), .ireturn]
  | 2 => [.aload 0, .ifnonnull 11475, .iload 1, .iaload, .ifCond .ne 3, .aload 0, .iload 1, .iload 2, .invokeinterface 109408 3, .iconst (-9), .if_icmp .eq 4, .goto 3]
  | 3 => [.iconst (-2), .ireturn]
  | 4 => [.aload 0, .ifnonnull 11931, .iconst 8, .iload 1, .imul, .aload 0, .ifnonnull 11923, .iload 1, .iaload, .iadd, .iload 2, .iastore, .aload 0, .ifnonnull 11923, .iload 1, .dup2, .iaload, .iconst 1, .iadd, .iastore, .aload 0, .ifnonnull 11923, .iload 1, .iaload, .ireturn]
  | _ => []
/-- SchoolHouseModel.rankOf(II)I -/
def B427 : Nat → List Instr := fun b => match b with
  | 0 => [.iconst 0, .istore 3, .goto 1]
  | 1 => [.iload 3, .aload 0, .ifnonnull 11923, .iload 1, .iaload, .if_icmp .ge 3, .aload 0, .ifnonnull 11931, .iconst 8, .iload 1, .imul, .iload 3, .iadd, .iaload, .iload 2, .if_icmp .ne 2, .iload 3, .ireturn]
  | 2 => [.iinc 3 1, .goto 1]
  | 3 => [.iconst (-9), .ireturn]
  | _ => []
/-- SchoolHouseModel.lottery(I)I -/
def B428 : Nat → List Instr := fun b => match b with
  | 0 => [.iconst 0, .istore 2, .iconst 0, .istore 3, .goto 1]
  | 1 => [.iload 3, .aload 0, .ifnull 11464, .if_icmp .ge 5, .aload 0, .ifnonnull 11475, .iload 3, .iaload, .ifCond .ne 4, .iconst 0, .istore 4, .goto 2]
  | 2 => [.iload 4, .aload 0, .ifnull 11339, .ifnonnull 12291, .iconst 5, .iaload, .if_icmp .ge 3, .iload 1, .iconst 16, .iload 3, .imul, .iload 4, .iadd, .iconst (-1640531535), .imul, .ixor, .istore 5, .iload 5, .iload 5, .iconst 15, .iushr, .ixor, .iconst (-2048144777), .imul, .istore 5, .aload 0, .ifnonnull 11939, .iconst 8, .iload 3, .imul, .iload 4, .iadd, .iload 5, .iload 5, .iconst 13, .iushr, .ixor, .iastore, .iinc 4 1, .goto 2]
  | 3 => [.iinc 2 1, .goto 4]
  | 4 => [.iinc 3 1, .goto 1]
  | 5 => [.iload 2, .ireturn]
  | _ => []
/-- SchoolHouseModel.ticket(II)I -/
def B429 : Nat → List Instr := fun b => match b with
  | 0 => [.aload 0, .iload 1, .invokeinterface 110176 2, .ifCond .eq 1, .aload 0, .iload 2, .invokeinterface 96352 2, .ifCond .eq 1, .aload 0, .ifnonnull 11939, .iconst 8, .iload 1, .imul, .iload 2, .iadd, .iaload, .goto 2]
  | 1 => [.iconst 0, .goto 2]
  | 2 => [.ireturn]
  | _ => []
/-- SchoolHouseModel.isPupil(I)Z -/
def B430 : Nat → List Instr := fun b => match b with
  | 0 => [.aload 0, .iload 1, .invokeinterface 95328 2, .ifCond .eq 1, .aload 0, .ifnonnull 11475, .iload 1, .iaload, .ifCond .ne 1, .iconst 1, .goto 2]
  | 1 => [.iconst 0, .goto 2]
  | 2 => [.freturn]
  | _ => []
/-- SchoolHouseModel.match(I)I -/
def B431 : Nat → List Instr := fun b => match b with
  | 0 => [.iload 1, .iconst 0, .iconst 1, .invokeinterface 94464 3, .ifCond .ne 1, .iconst (-1), .ireturn]
  | 1 => [.iconst 0, .istore 2, .goto 2]
  | 2 => [.iload 2, .aload 0, .ifnull 11464, .if_icmp .ge 3, .aload 0, .ifnonnull 11947, .iload 2, .iconst (-9), .iastore, .aload 0, .ifnonnull 11963, .iload 2, .iconst 0, .iastore, .iinc 2 1, .goto 2]
  | 3 => [.iload 1, .ifCond .ne 4, .aload 0, .invokeinterface 110692 1, .goto 5]
  | 4 => [.aload 0, .invokeinterface 111460 1, .goto 5]
  | 5 => [.aload 0, .iconst 1, .jsr_w 11956, .iconst 0, .istore 2, .iconst 0, .istore 3, .goto 6]
  | 6 => [.iload 3, .aload 0, .ifnull 11464, .if_icmp .ge 9, .iload 2, .aload 0, .ifnonnull 11947, .iload 3, .iaload, .iconst (-9), .if_icmp .eq 7, .iconst 1, .goto 8]
  | 7 => [.iconst 0, .goto 8]
  | 8 => [.iadd, .istore 2, .iinc 3 1, .goto 6]
  | 9 => [.iload 2, .ireturn]
  | _ => []
/-- SchoolHouseModel.offers()V -/
def B432 : Nat → List Instr := fun b => match b with
  | 0 => [.iconst 1, .istore 1, .goto 1]
  | 1 => [.iload 1, .ifCond .eq 9, .iconst 0, .istore 1, .iconst 0, .istore 2, .goto 2]
  | 2 => [.iload 2, .aload 0, .ifnull 11464, .if_icmp .ge 8, .aload 0, .ifnonnull 11475, .iload 2, .iaload, .ifCond .ne 7, .aload 0, .ifnonnull 11947, .iload 2, .iaload, .iconst (-9), .if_icmp .ne 7, .aload 0, .ifnonnull 11963, .iload 2, .iaload, .aload 0, .ifnonnull 11923, .iload 2, .iaload, .if_icmp .ge 7, .aload 0, .ifnonnull 11931, .iconst 8, .iload 2, .imul, .aload 0, .ifnonnull 11963, .iload 2, .iaload, .iadd, .iaload, .istore 3, .aload 0, .ifnonnull 11963, .iload 2, .dup2, .iaload, .iconst 1, .iadd, .iastore, .aload 0, .ifnonnull 11947, .iload 2, .iload 3, .iastore, .iconst 1, .istore 1, .aload 0, .iload 3, .invokeinterface 110944 2, .aload 0, .ifnull 11339, .ifnonnull 12371, .iload 3, .iaload, .if_icmp .le 7, .iload 2, .istore 4, .iconst 0, .istore 5, .goto 3]
  | 3 => [.iload 5, .aload 0, .ifnull 11464, .if_icmp .ge 6, .aload 0, .ifnonnull 11947, .iload 5, .iaload, .iload 3, .if_icmp .ne 4, .aload 0, .iload 4, .iload 5, .iload 3, .invokeinterface 111200 4, .ifCond .eq 4, .iload 5, .goto 5]
  | 4 => [.iload 4, .goto 5]
  | 5 => [.istore 4, .iinc 5 1, .goto 3]
  | 6 => [.aload 0, .ifnonnull 11947, .iload 4, .iconst (-9), .iastore, .goto 7]
  | 7 => [.iinc 2 1, .goto 2]
  | 8 => [.goto 1]
  | 9 => [.return_]
  | _ => []
/-- SchoolHouseModel.held(I)I -/
def B433 : Nat → List Instr := fun b => match b with
  | 0 => [.iconst 0, .istore 2, .iconst 0, .istore 3, .goto 1]
  | 1 => [.iload 3, .aload 0, .ifnull 11464, .if_icmp .ge 4, .iload 2, .aload 0, .ifnonnull 11947, .iload 3, .iaload, .iload 1, .if_icmp .ne 2, .iconst 1, .goto 3]
  | 2 => [.iconst 0, .goto 3]
  | 3 => [.iadd, .istore 2, .iinc 3 1, .goto 1]
  | 4 => [.iload 2, .ireturn]
  | _ => []
/-- SchoolHouseModel.isBefore(III)Z -/
def B434 : Nat → List Instr := fun b => match b with
  | 0 => [.aload 0, .ifnonnull 11939, .iconst 8, .iload 1, .imul, .iload 3, .iadd, .iaload, .istore 4, .aload 0, .ifnonnull 11939, .iconst 8, .iload 2, .imul, .iload 3, .iadd, .iaload, .istore 5, .iload 4, .iload 5, .if_icmp .lt 1, .iload 4, .iload 5, .if_icmp .ne 2, .iload 1, .iload 2, .if_icmp .ge 2, .goto 1]
  | 1 => [.iconst 1, .goto 3]
  | 2 => [.iconst 0, .goto 3]
  | 3 => [.freturn]
  | _ => []
/-- SchoolHouseModel.trades()V -/
def B435 : Nat → List Instr := fun b => match b with
  | 0 => [.iconst 0, .istore 1, .goto 1]
  | 1 => [.iload 1, .aload 0, .ifnull 11464, .if_icmp .ge 4, .aload 0, .ifnonnull 11971, .iload 1, .aload 0, .ifnonnull 11475, .iload 1, .iaload, .ifCond .eq 2, .iconst 1, .goto 3]
  | 2 => [.iconst 0, .goto 3]
  | 3 => [.bastore, .iinc 1 1, .goto 1]
  | 4 => [.iconst 1, .istore 1, .goto 5]
  | 5 => [.iload 1, .ifCond .eq 35, .iconst 0, .istore 1, .iconst 0, .istore 2, .goto 6]
  | 6 => [.iload 2, .aload 0, .ifnull 11464, .if_icmp .ge 9, .aload 0, .ifnonnull 11963, .iload 2, .aload 0, .ifnonnull 11947, .iload 2, .iaload, .iconst (-9), .if_icmp .ne 7, .aload 0, .ifnonnull 11971, .iload 2, .baload, .ifCond .ne 7, .aload 0, .iload 2, .invokeinterface 111712 2, .goto 8]
  | 7 => [.iconst (-9), .goto 8]
  | 8 => [.iastore, .iinc 2 1, .goto 6]
  | 9 => [.iconst 0, .istore 2, .goto 10]
  | 10 => [.iload 2, .aload 0, .ifnull 11464, .if_icmp .ge 14, .aload 0, .ifnonnull 11971, .iload 2, .aload 0, .ifnonnull 11971, .iload 2, .baload, .ifCond .ne 11, .aload 0, .ifnonnull 11947, .iload 2, .iaload, .iconst (-9), .if_icmp .ne 12, .aload 0, .ifnonnull 11963, .iload 2, .iaload, .iconst (-9), .if_icmp .ne 12, .goto 11]
  | 11 => [.iconst 1, .goto 13]
  | 12 => [.iconst 0, .goto 13]
  | 13 => [.bastore, .aload 0, .ifnonnull 11979, .iload 2, .iconst 0, .bastore, .iinc 2 1, .goto 10]
  | 14 => [.iconst 0, .istore 2, .goto 15]
  | 15 => [.iload 2, .aload 0, .ifnull 11339, .ifnonnull 12291, .iconst 5, .iaload, .if_icmp .ge 23, .aload 0, .ifnonnull 11987, .iload 2, .iconst (-9), .iastore, .iconst 0, .istore 3, .goto 16]
  | 16 => [.iload 3, .aload 0, .ifnull 11464, .if_icmp .ge 22, .aload 0, .ifnonnull 11947, .iload 3, .iaload, .iconst (-9), .if_icmp .ne 17, .aload 0, .ifnonnull 11971, .iload 3, .baload, .ifCond .ne 17, .iconst 1, .goto 18]
  | 17 => [.iconst 0, .goto 18]
  | 18 => [.istore 4, .aload 0, .ifnonnull 11987, .iload 2, .iload 4, .ifCond .eq 20, .aload 0, .ifnonnull 11987, .iload 2, .iaload, .iconst (-9), .if_icmp .eq 19, .aload 0, .iload 3, .aload 0, .ifnonnull 11987, .iload 2, .iaload, .iload 2, .invokeinterface 111200 4, .ifCond .eq 20, .goto 19]
  | 19 => [.iload 3, .goto 21]
  | 20 => [.aload 0, .ifnonnull 11987, .iload 2, .iaload, .goto 21]
  | 21 => [.iastore, .iinc 3 1, .goto 16]
  | 22 => [.iinc 2 1, .goto 15]
  | 23 => [.iconst 0, .istore 2, .goto 24]
  | 24 => [.iload 2, .aload 0, .ifnull 11464, .if_icmp .ge 31, .aload 0, .ifnonnull 11963, .iload 2, .iaload, .iconst (-9), .if_icmp .ne 25, .iconst (-9), .goto 26]
  | 25 => [.aload 0, .ifnonnull 11987, .aload 0, .ifnonnull 11963, .iload 2, .iaload, .iaload, .goto 26]
  | 26 => [.istore 3, .iconst 0, .istore 4, .goto 27]
  | 27 => [.iload 4, .iconst 24, .if_icmp .ge 28, .iload 3, .iconst (-9), .if_icmp .eq 28, .iload 3, .iload 2, .if_icmp .eq 28, .aload 0, .ifnonnull 11987, .aload 0, .ifnonnull 11963, .iload 3, .iaload, .iaload, .istore 3, .iinc 4 1, .goto 27]
  | 28 => [.aload 0, .ifnonnull 11979, .iload 2, .iload 3, .iconst (-9), .if_icmp .eq 29, .iload 3, .iload 2, .if_icmp .ne 29, .iconst 1, .goto 30]
  | 29 => [.iconst 0, .goto 30]
  | 30 => [.bastore, .iinc 2 1, .goto 24]
  | 31 => [.iconst 0, .istore 2, .goto 32]
  | 32 => [.iload 2, .aload 0, .ifnull 11464, .if_icmp .ge 34, .aload 0, .ifnonnull 11979, .iload 2, .baload, .ifCond .eq 33, .aload 0, .ifnonnull 11947, .iload 2, .aload 0, .ifnonnull 11963, .iload 2, .iaload, .iastore, .iconst 1, .istore 1, .goto 33]
  | 33 => [.iinc 2 1, .goto 32]
  | 34 => [.goto 5]
  | 35 => [.return_]
  | _ => []
/-- SchoolHouseModel.wanted(I)I -/
def B436 : Nat → List Instr := fun b => match b with
  | 0 => [.iconst 0, .istore 2, .goto 1]
  | 1 => [.iload 2, .aload 0, .ifnonnull 11923, .iload 1, .iaload, .if_icmp .ge 3, .aload 0, .ifnonnull 11931, .iconst 8, .iload 1, .imul, .iload 2, .iadd, .iaload, .istore 3, .aload 0, .iload 3, .invokeinterface 110944 2, .aload 0, .ifnull 11339, .ifnonnull 12371, .iload 3, .iaload, .if_icmp .ge 2, .iload 3, .ireturn]
  | 2 => [.iinc 2 1, .goto 1]
  | 3 => [.iconst (-9), .ireturn]
  | _ => []
/-- SchoolHouseModel.placed(I)I -/
def B437 : Nat → List Instr := fun b => match b with
  | 0 => [.aload 0, .iload 1, .invokeinterface 95328 2, .ifCond .eq 1, .aload 0, .ifnonnull 11947, .iload 1, .iaload, .goto 2]
  | 1 => [.iconst (-1), .goto 2]
  | 2 => [.ireturn]
  | _ => []
/-- SchoolHouseModel.stable()I -/
def B438 : Nat → List Instr := fun b => match b with
  | 0 => [.aload 0, .ifnull 11956, .ifCond .ne 1, .iconst (-2), .ireturn]
  | 1 => [.iconst 0, .istore 1, .goto 2]
  | 2 => [.iload 1, .aload 0, .ifnull 11464, .if_icmp .ge 15, .iconst 0, .istore 2, .goto 3]
  | 3 => [.iload 2, .aload 0, .ifnull 11339, .ifnonnull 12291, .iconst 5, .iaload, .if_icmp .ge 14, .aload 0, .ifnonnull 11475, .iload 1, .iaload, .ifCond .ne 14, .aload 0, .iload 1, .iload 2, .invokeinterface 109408 3, .istore 3, .aload 0, .ifnonnull 11947, .iload 1, .iaload, .iconst (-9), .if_icmp .ne 4, .iconst 99, .goto 5]
  | 4 => [.aload 0, .iload 1, .aload 0, .ifnonnull 11947, .iload 1, .iaload, .invokeinterface 109408 3, .goto 5]
  | 5 => [.istore 4, .iload 3, .iconst (-9), .if_icmp .eq 13, .iload 3, .iload 4, .if_icmp .ge 13, .aload 0, .iload 2, .invokeinterface 110944 2, .aload 0, .ifnull 11339, .ifnonnull 12371, .iload 2, .iaload, .if_icmp .ge 6, .iconst 1, .goto 7]
  | 6 => [.iconst 0, .goto 7]
  | 7 => [.istore 5, .iconst 0, .istore 6, .goto 8]
  | 8 => [.iload 6, .aload 0, .ifnull 11464, .if_icmp .ge 12, .iload 5, .ifCond .ne 9, .aload 0, .ifnonnull 11947, .iload 6, .iaload, .iload 2, .if_icmp .ne 10, .aload 0, .iload 1, .iload 6, .iload 2, .invokeinterface 111200 4, .ifCond .eq 10, .goto 9]
  | 9 => [.iconst 1, .goto 11]
  | 10 => [.iconst 0, .goto 11]
  | 11 => [.istore 5, .iinc 6 1, .goto 8]
  | 12 => [.iload 5, .ifCond .eq 13, .iconst 1, .iconst 100, .iload 1, .imul, .iadd, .iload 2, .iadd, .ireturn]
  | 13 => [.iinc 2 1, .goto 3]
  | 14 => [.iinc 1 1, .goto 2]
  | 15 => [.iconst 0, .ireturn]
  | _ => []
/-- SchoolHouseModel.absent(III)I -/
def B439 : Nat → List Instr := fun b => match b with
  | 0 => [.aload 0, .iload 1, .iload 2, .iload 3, .invokeinterface 107360 4, .ifCond .ne 1, .iconst (-1), .ireturn]
  | 1 => [.aload 0, .ifnonnull 11803, .iload 1, .aload 0, .ifnonnull 11803, .iload 1, .iaload, .iconst 1, .iload 2, .ishl, .iconst (-1), .ixor, .iand, .iload 3, .iload 2, .ishl, .ior, .iastore, .iconst 0, .ireturn]
  | _ => []
/-- SchoolHouseModel.cover(I)I -/
def B440 : Nat → List Instr := fun b => match b with
  | 0 => [.iload 1, .iconst 0, .iconst 5, .aload 0, .ifnull 11784, .imul, .iconst 1, .isub, .invokeinterface 94464 3, .ifCond .ne 1, .iconst (-1), .ireturn]
  | 1 => [.aload 0, .ifnull 11820, .ifCond .ne 2, .iconst (-2), .ireturn]
  | 2 => [.aload 0, .iconst 0, .jsr_w 12008, .aload 0, .invokeinterface 108128 1, .istore 2, .iconst 0, .istore 3, .goto 3]
  | 3 => [.iload 3, .iload 2, .if_icmp .ge 5, .aload 0, .ifnonnull 11995, .iload 3, .iconst (-9), .iastore, .aload 0, .ifnonnull 11859, .iload 3, .iaload, .iload 1, .if_icmp .ne 4, .aload 0, .ifnonnull 11803, .aload 0, .ifnull 11339, .ifnonnull 12355, .aload 0, .ifnonnull 11875, .iload 3, .iaload, .iaload, .iaload, .iload 1, .ishr, .iconst 1, .iand, .iconst 1, .if_icmp .ne 4, .aload 0, .ifnonnull 12003, .aload 0, .ifnull 12008, .iload 3, .iastore, .aload 0, .dup, .ifnull 12008, .iconst 1, .iadd, .jsr_w 12008, .goto 4]
  | 4 => [.iinc 3 1, .goto 3]
  | 5 => [.aload 0, .iload 1, .invokeinterface 112992 2, .istore 3, .aload 0, .ifnull 12008, .istore 4, .goto 6]
  | 6 => [.iload 4, .ifCond .lt 16, .iconst 0, .istore 5, .goto 7]
  | 7 => [.iload 5, .iconst 1024, .if_icmp .ge 15, .iload 4, .aload 0, .ifnull 12008, .if_icmp .ne 8, .iconst 0, .goto 9]
  | 8 => [.aload 0, .ifnonnull 12019, .iconst 1024, .iload 4, .iconst 1, .iadd, .imul, .iload 5, .iadd, .iaload, .goto 9]
  | 9 => [.istore 6, .iconst 0, .istore 7, .goto 10]
  | 10 => [.iload 7, .iconst 10, .if_icmp .ge 14, .iload 4, .aload 0, .ifnull 12008, .if_icmp .ge 14, .iload 5, .iload 7, .ishr, .iconst 1, .iand, .iconst 1, .if_icmp .ne 13, .aload 0, .iload 7, .aload 0, .ifnonnull 12003, .iload 4, .iaload, .invokeinterface 113248 3, .ifCond .eq 13, .iconst 1, .aload 0, .ifnonnull 12019, .iconst 1024, .iload 4, .iconst 1, .iadd, .imul, .iload 5, .iconst 1, .iload 7, .ishl, .ixor, .iadd, .iaload, .iadd, .istore 8, .iload 8, .iload 6, .if_icmp .le 11, .iload 8, .goto 12]
  | 11 => [.iload 6, .goto 12]
  | 12 => [.istore 6, .goto 13]
  | 13 => [.iinc 7 1, .goto 10]
  | 14 => [.aload 0, .ifnonnull 12019, .iconst 1024, .iload 4, .imul, .iload 5, .iadd, .iload 6, .iastore, .iinc 5 1, .goto 7]
  | 15 => [.iinc 4 (-1), .goto 6]
  | 16 => [.aload 0, .ifnonnull 12019, .iload 3, .iaload, .istore 4, .iload 4, .istore 5, .iconst 0, .istore 6, .goto 17]
  | 17 => [.iload 6, .aload 0, .ifnull 12008, .if_icmp .ge 21, .aload 0, .ifnonnull 12003, .iload 6, .iaload, .istore 7, .iconst 0, .istore 8, .goto 18]
  | 18 => [.iload 8, .iconst 10, .if_icmp .ge 20, .aload 0, .ifnonnull 11995, .iload 7, .iaload, .iconst (-9), .if_icmp .ne 20, .iload 3, .iload 8, .ishr, .iconst 1, .iand, .iconst 1, .if_icmp .ne 19, .aload 0, .iload 8, .iload 7, .invokeinterface 113248 3, .ifCond .eq 19, .iconst 1, .aload 0, .ifnonnull 12019, .iconst 1024, .iload 6, .iconst 1, .iadd, .imul, .iload 3, .iconst 1, .iload 8, .ishl, .ixor, .iadd, .iaload, .iadd, .iload 5, .if_icmp .ne 19, .aload 0, .ifnonnull 11995, .iload 7, .iload 8, .iastore, .iload 3, .iconst 1, .iload 8, .ishl, .ixor, .istore 3, .iinc 5 (-1), .goto 19]
  | 19 => [.iinc 8 1, .goto 18]
  | 20 => [.iinc 6 1, .goto 17]
  | 21 => [.aload 0, .iconst 1, .jsr_w 11836, .aload 0, .ifnull 12008, .iload 4, .isub, .ireturn]
  | _ => []
/-- SchoolHouseModel.freeAt(I)I -/
def B441 : Nat → List Instr := fun b => match b with
  | 0 => [.iconst 0, .istore 2, .iconst 0, .istore 3, .goto 1]
  | 1 => [.iload 3, .aload 0, .ifnull 11339, .ifnonnull 12291, .iconst 2, .iaload, .if_icmp .ge 11, .aload 0, .ifnonnull 11803, .iload 3, .iaload, .iload 1, .ishr, .iconst 1, .iand, .ifCond .ne 2, .aload 0, .ifnonnull 11795, .iload 3, .iaload, .iload 1, .ishr, .iconst 1, .iand, .ifCond .ne 2, .iconst 1, .goto 3]
  | 2 => [.iconst 0, .goto 3]
  | 3 => [.istore 4, .iconst 0, .istore 5, .goto 4]
  | 4 => [.iload 5, .aload 0, .invokeinterface 108128 1, .if_icmp .ge 8, .iload 4, .ifCond .eq 6, .aload 0, .ifnonnull 11859, .iload 5, .iaload, .iload 1, .if_icmp .ne 5, .aload 0, .ifnull 11339, .ifnonnull 12355, .aload 0, .ifnonnull 11875, .iload 5, .iaload, .iaload, .iload 3, .if_icmp .eq 6, .goto 5]
  | 5 => [.iconst 1, .goto 7]
  | 6 => [.iconst 0, .goto 7]
  | 7 => [.istore 4, .iinc 5 1, .goto 4]
  | 8 => [.iload 2, .iload 4, .ifCond .eq 9, .iconst 1, .iload 3, .ishl, .goto 10]
  | 9 => [.iconst 0, .goto 10]
  | 10 => [.ior, .istore 2, .iinc 3 1, .goto 1]
  | 11 => [.iload 2, .ireturn]
  | _ => []
/-- SchoolHouseModel.teaches(II)Z -/
def B442 : Nat → List Instr := fun b => match b with
  | 0 => [.aload 0, .ifnull 11339, .ifnonnull 12323, .iload 1, .iaload, .aload 0, .ifnull 11339, .ifnonnull 12339, .aload 0, .ifnonnull 11875, .iload 2, .iaload, .iaload, .ishr, .iconst 1, .iand, .iconst 1, .if_icmp .ne 1, .iconst 1, .goto 2]
  | 1 => [.iconst 0, .goto 2]
  | 2 => [.freturn]
  | _ => []
/-- SchoolHouseModel.covers(I)I -/
def B443 : Nat → List Instr := fun b => match b with
  | 0 => [.iload 1, .iconst 0, .aload 0, .invokeinterface 108128 1, .iconst 1, .isub, .invokeinterface 94464 3, .ifCond .ne 1, .iconst (-1), .ireturn]
  | 1 => [.aload 0, .ifnull 11836, .ifCond .eq 2, .aload 0, .ifnonnull 11995, .iload 1, .iaload, .goto 3]
  | 2 => [.iconst (-2), .goto 3]
  | 3 => [.ireturn]
  | _ => []
/-- SchoolHouseModel.count(I)I -/
def B444 : Nat → List Instr := fun b => match b with
  | 0 => [.iload 1, .ifCond .lt 1, .iload 1, .iconst 7, .if_icmp .ge 1, .aload 0, .ifnull 11339, .ifnonnull 12291, .iload 1, .iaload, .ireturn]
  | 1 => [.iload 1, .iconst 7, .if_icmp .ne 2, .aload 0, .ifnull 11339, .ifnull 12400, .goto 8]
  | 2 => [.iload 1, .iconst 8, .if_icmp .ne 3, .aload 0, .ifnull 11464, .goto 8]
  | 3 => [.iload 1, .iconst 9, .if_icmp .ne 4, .aload 0, .invokeinterface 108128 1, .goto 8]
  | 4 => [.iload 1, .iconst 10, .if_icmp .ne 5, .aload 0, .ifnull 11272, .goto 8]
  | 5 => [.iload 1, .iconst 11, .if_icmp .ne 6, .aload 0, .ifnull 11504, .goto 8]
  | 6 => [.iload 1, .iconst 12, .if_icmp .ne 7, .aload 0, .ifnull 11704, .goto 8]
  | 7 => [.iconst (-1), .goto 8]
  | 8 => [.ireturn]
  | _ => []
def blk (k : Nat) : Nat → List Instr := if k < 222 then (if k < 111 then (if k < 55 then (if k < 27 then (if k < 13 then (if k < 6 then (if k < 3 then (if k < 1 then (B0) else (if k < 2 then (B1) else (B2))) else (if k < 4 then (B3) else (if k < 5 then (B4) else (B5)))) else (if k < 9 then (if k < 7 then (B6) else (if k < 8 then (B7) else (B8))) else (if k < 11 then (if k < 10 then (B9) else (B10)) else (if k < 12 then (B11) else (B12))))) else (if k < 20 then (if k < 16 then (if k < 14 then (B13) else (if k < 15 then (B14) else (B15))) else (if k < 18 then (if k < 17 then (B16) else (B17)) else (if k < 19 then (B18) else (B19)))) else (if k < 23 then (if k < 21 then (B20) else (if k < 22 then (B21) else (B22))) else (if k < 25 then (if k < 24 then (B23) else (B24)) else (if k < 26 then (B25) else (B26)))))) else (if k < 41 then (if k < 34 then (if k < 30 then (if k < 28 then (B27) else (if k < 29 then (B28) else (B29))) else (if k < 32 then (if k < 31 then (B30) else (B31)) else (if k < 33 then (B32) else (B33)))) else (if k < 37 then (if k < 35 then (B34) else (if k < 36 then (B35) else (B36))) else (if k < 39 then (if k < 38 then (B37) else (B38)) else (if k < 40 then (B39) else (B40))))) else (if k < 48 then (if k < 44 then (if k < 42 then (B41) else (if k < 43 then (B42) else (B43))) else (if k < 46 then (if k < 45 then (B44) else (B45)) else (if k < 47 then (B46) else (B47)))) else (if k < 51 then (if k < 49 then (B48) else (if k < 50 then (B49) else (B50))) else (if k < 53 then (if k < 52 then (B51) else (B52)) else (if k < 54 then (B53) else (B54))))))) else (if k < 83 then (if k < 69 then (if k < 62 then (if k < 58 then (if k < 56 then (B55) else (if k < 57 then (B56) else (B57))) else (if k < 60 then (if k < 59 then (B58) else (B59)) else (if k < 61 then (B60) else (B61)))) else (if k < 65 then (if k < 63 then (B62) else (if k < 64 then (B63) else (B64))) else (if k < 67 then (if k < 66 then (B65) else (B66)) else (if k < 68 then (B67) else (B68))))) else (if k < 76 then (if k < 72 then (if k < 70 then (B69) else (if k < 71 then (B70) else (B71))) else (if k < 74 then (if k < 73 then (B72) else (B73)) else (if k < 75 then (B74) else (B75)))) else (if k < 79 then (if k < 77 then (B76) else (if k < 78 then (B77) else (B78))) else (if k < 81 then (if k < 80 then (B79) else (B80)) else (if k < 82 then (B81) else (B82)))))) else (if k < 97 then (if k < 90 then (if k < 86 then (if k < 84 then (B83) else (if k < 85 then (B84) else (B85))) else (if k < 88 then (if k < 87 then (B86) else (B87)) else (if k < 89 then (B88) else (B89)))) else (if k < 93 then (if k < 91 then (B90) else (if k < 92 then (B91) else (B92))) else (if k < 95 then (if k < 94 then (B93) else (B94)) else (if k < 96 then (B95) else (B96))))) else (if k < 104 then (if k < 100 then (if k < 98 then (B97) else (if k < 99 then (B98) else (B99))) else (if k < 102 then (if k < 101 then (B100) else (B101)) else (if k < 103 then (B102) else (B103)))) else (if k < 107 then (if k < 105 then (B104) else (if k < 106 then (B105) else (B106))) else (if k < 109 then (if k < 108 then (B107) else (B108)) else (if k < 110 then (B109) else (B110)))))))) else (if k < 166 then (if k < 138 then (if k < 124 then (if k < 117 then (if k < 114 then (if k < 112 then (B111) else (if k < 113 then (B112) else (B113))) else (if k < 115 then (B114) else (if k < 116 then (B115) else (B116)))) else (if k < 120 then (if k < 118 then (B117) else (if k < 119 then (B118) else (B119))) else (if k < 122 then (if k < 121 then (B120) else (B121)) else (if k < 123 then (B122) else (B123))))) else (if k < 131 then (if k < 127 then (if k < 125 then (B124) else (if k < 126 then (B125) else (B126))) else (if k < 129 then (if k < 128 then (B127) else (B128)) else (if k < 130 then (B129) else (B130)))) else (if k < 134 then (if k < 132 then (B131) else (if k < 133 then (B132) else (B133))) else (if k < 136 then (if k < 135 then (B134) else (B135)) else (if k < 137 then (B136) else (B137)))))) else (if k < 152 then (if k < 145 then (if k < 141 then (if k < 139 then (B138) else (if k < 140 then (B139) else (B140))) else (if k < 143 then (if k < 142 then (B141) else (B142)) else (if k < 144 then (B143) else (B144)))) else (if k < 148 then (if k < 146 then (B145) else (if k < 147 then (B146) else (B147))) else (if k < 150 then (if k < 149 then (B148) else (B149)) else (if k < 151 then (B150) else (B151))))) else (if k < 159 then (if k < 155 then (if k < 153 then (B152) else (if k < 154 then (B153) else (B154))) else (if k < 157 then (if k < 156 then (B155) else (B156)) else (if k < 158 then (B157) else (B158)))) else (if k < 162 then (if k < 160 then (B159) else (if k < 161 then (B160) else (B161))) else (if k < 164 then (if k < 163 then (B162) else (B163)) else (if k < 165 then (B164) else (B165))))))) else (if k < 194 then (if k < 180 then (if k < 173 then (if k < 169 then (if k < 167 then (B166) else (if k < 168 then (B167) else (B168))) else (if k < 171 then (if k < 170 then (B169) else (B170)) else (if k < 172 then (B171) else (B172)))) else (if k < 176 then (if k < 174 then (B173) else (if k < 175 then (B174) else (B175))) else (if k < 178 then (if k < 177 then (B176) else (B177)) else (if k < 179 then (B178) else (B179))))) else (if k < 187 then (if k < 183 then (if k < 181 then (B180) else (if k < 182 then (B181) else (B182))) else (if k < 185 then (if k < 184 then (B183) else (B184)) else (if k < 186 then (B185) else (B186)))) else (if k < 190 then (if k < 188 then (B187) else (if k < 189 then (B188) else (B189))) else (if k < 192 then (if k < 191 then (B190) else (B191)) else (if k < 193 then (B192) else (B193)))))) else (if k < 208 then (if k < 201 then (if k < 197 then (if k < 195 then (B194) else (if k < 196 then (B195) else (B196))) else (if k < 199 then (if k < 198 then (B197) else (B198)) else (if k < 200 then (B199) else (B200)))) else (if k < 204 then (if k < 202 then (B201) else (if k < 203 then (B202) else (B203))) else (if k < 206 then (if k < 205 then (B204) else (B205)) else (if k < 207 then (B206) else (B207))))) else (if k < 215 then (if k < 211 then (if k < 209 then (B208) else (if k < 210 then (B209) else (B210))) else (if k < 213 then (if k < 212 then (B211) else (B212)) else (if k < 214 then (B213) else (B214)))) else (if k < 218 then (if k < 216 then (B215) else (if k < 217 then (B216) else (B217))) else (if k < 220 then (if k < 219 then (B218) else (B219)) else (if k < 221 then (B220) else (B221))))))))) else (if k < 333 then (if k < 277 then (if k < 249 then (if k < 235 then (if k < 228 then (if k < 225 then (if k < 223 then (B222) else (if k < 224 then (B223) else (B224))) else (if k < 226 then (B225) else (if k < 227 then (B226) else (B227)))) else (if k < 231 then (if k < 229 then (B228) else (if k < 230 then (B229) else (B230))) else (if k < 233 then (if k < 232 then (B231) else (B232)) else (if k < 234 then (B233) else (B234))))) else (if k < 242 then (if k < 238 then (if k < 236 then (B235) else (if k < 237 then (B236) else (B237))) else (if k < 240 then (if k < 239 then (B238) else (B239)) else (if k < 241 then (B240) else (B241)))) else (if k < 245 then (if k < 243 then (B242) else (if k < 244 then (B243) else (B244))) else (if k < 247 then (if k < 246 then (B245) else (B246)) else (if k < 248 then (B247) else (B248)))))) else (if k < 263 then (if k < 256 then (if k < 252 then (if k < 250 then (B249) else (if k < 251 then (B250) else (B251))) else (if k < 254 then (if k < 253 then (B252) else (B253)) else (if k < 255 then (B254) else (B255)))) else (if k < 259 then (if k < 257 then (B256) else (if k < 258 then (B257) else (B258))) else (if k < 261 then (if k < 260 then (B259) else (B260)) else (if k < 262 then (B261) else (B262))))) else (if k < 270 then (if k < 266 then (if k < 264 then (B263) else (if k < 265 then (B264) else (B265))) else (if k < 268 then (if k < 267 then (B266) else (B267)) else (if k < 269 then (B268) else (B269)))) else (if k < 273 then (if k < 271 then (B270) else (if k < 272 then (B271) else (B272))) else (if k < 275 then (if k < 274 then (B273) else (B274)) else (if k < 276 then (B275) else (B276))))))) else (if k < 305 then (if k < 291 then (if k < 284 then (if k < 280 then (if k < 278 then (B277) else (if k < 279 then (B278) else (B279))) else (if k < 282 then (if k < 281 then (B280) else (B281)) else (if k < 283 then (B282) else (B283)))) else (if k < 287 then (if k < 285 then (B284) else (if k < 286 then (B285) else (B286))) else (if k < 289 then (if k < 288 then (B287) else (B288)) else (if k < 290 then (B289) else (B290))))) else (if k < 298 then (if k < 294 then (if k < 292 then (B291) else (if k < 293 then (B292) else (B293))) else (if k < 296 then (if k < 295 then (B294) else (B295)) else (if k < 297 then (B296) else (B297)))) else (if k < 301 then (if k < 299 then (B298) else (if k < 300 then (B299) else (B300))) else (if k < 303 then (if k < 302 then (B301) else (B302)) else (if k < 304 then (B303) else (B304)))))) else (if k < 319 then (if k < 312 then (if k < 308 then (if k < 306 then (B305) else (if k < 307 then (B306) else (B307))) else (if k < 310 then (if k < 309 then (B308) else (B309)) else (if k < 311 then (B310) else (B311)))) else (if k < 315 then (if k < 313 then (B312) else (if k < 314 then (B313) else (B314))) else (if k < 317 then (if k < 316 then (B315) else (B316)) else (if k < 318 then (B317) else (B318))))) else (if k < 326 then (if k < 322 then (if k < 320 then (B319) else (if k < 321 then (B320) else (B321))) else (if k < 324 then (if k < 323 then (B322) else (B323)) else (if k < 325 then (B324) else (B325)))) else (if k < 329 then (if k < 327 then (B326) else (if k < 328 then (B327) else (B328))) else (if k < 331 then (if k < 330 then (B329) else (B330)) else (if k < 332 then (B331) else (B332)))))))) else (if k < 389 then (if k < 361 then (if k < 347 then (if k < 340 then (if k < 336 then (if k < 334 then (B333) else (if k < 335 then (B334) else (B335))) else (if k < 338 then (if k < 337 then (B336) else (B337)) else (if k < 339 then (B338) else (B339)))) else (if k < 343 then (if k < 341 then (B340) else (if k < 342 then (B341) else (B342))) else (if k < 345 then (if k < 344 then (B343) else (B344)) else (if k < 346 then (B345) else (B346))))) else (if k < 354 then (if k < 350 then (if k < 348 then (B347) else (if k < 349 then (B348) else (B349))) else (if k < 352 then (if k < 351 then (B350) else (B351)) else (if k < 353 then (B352) else (B353)))) else (if k < 357 then (if k < 355 then (B354) else (if k < 356 then (B355) else (B356))) else (if k < 359 then (if k < 358 then (B357) else (B358)) else (if k < 360 then (B359) else (B360)))))) else (if k < 375 then (if k < 368 then (if k < 364 then (if k < 362 then (B361) else (if k < 363 then (B362) else (B363))) else (if k < 366 then (if k < 365 then (B364) else (B365)) else (if k < 367 then (B366) else (B367)))) else (if k < 371 then (if k < 369 then (B368) else (if k < 370 then (B369) else (B370))) else (if k < 373 then (if k < 372 then (B371) else (B372)) else (if k < 374 then (B373) else (B374))))) else (if k < 382 then (if k < 378 then (if k < 376 then (B375) else (if k < 377 then (B376) else (B377))) else (if k < 380 then (if k < 379 then (B378) else (B379)) else (if k < 381 then (B380) else (B381)))) else (if k < 385 then (if k < 383 then (B382) else (if k < 384 then (B383) else (B384))) else (if k < 387 then (if k < 386 then (B385) else (B386)) else (if k < 388 then (B387) else (B388))))))) else (if k < 417 then (if k < 403 then (if k < 396 then (if k < 392 then (if k < 390 then (B389) else (if k < 391 then (B390) else (B391))) else (if k < 394 then (if k < 393 then (B392) else (B393)) else (if k < 395 then (B394) else (B395)))) else (if k < 399 then (if k < 397 then (B396) else (if k < 398 then (B397) else (B398))) else (if k < 401 then (if k < 400 then (B399) else (B400)) else (if k < 402 then (B401) else (B402))))) else (if k < 410 then (if k < 406 then (if k < 404 then (B403) else (if k < 405 then (B404) else (B405))) else (if k < 408 then (if k < 407 then (B406) else (B407)) else (if k < 409 then (B408) else (B409)))) else (if k < 413 then (if k < 411 then (B410) else (if k < 412 then (B411) else (B412))) else (if k < 415 then (if k < 414 then (B413) else (B414)) else (if k < 416 then (B415) else (B416)))))) else (if k < 431 then (if k < 424 then (if k < 420 then (if k < 418 then (B417) else (if k < 419 then (B418) else (B419))) else (if k < 422 then (if k < 421 then (B420) else (B421)) else (if k < 423 then (B422) else (B423)))) else (if k < 427 then (if k < 425 then (B424) else (if k < 426 then (B425) else (B426))) else (if k < 429 then (if k < 428 then (B427) else (B428)) else (if k < 430 then (B429) else (B430))))) else (if k < 438 then (if k < 434 then (if k < 432 then (B431) else (if k < 433 then (B432) else (B433))) else (if k < 436 then (if k < 435 then (B434) else (B435)) else (if k < 437 then (B436) else (B437)))) else (if k < 441 then (if k < 439 then (B438) else (if k < 440 then (B439) else (B440))) else (if k < 443 then (if k < 442 then (B441) else (B442)) else (if k < 444 then (B443) else (B444)))))))))
def ml (k : Nat) : Nat := if k < 222 then (if k < 111 then (if k < 55 then (if k < 27 then (if k < 13 then (if k < 6 then (if k < 3 then (if k < 1 then (4) else (if k < 2 then (1) else (1))) else (if k < 4 then (2) else (if k < 5 then (1) else (1)))) else (if k < 9 then (if k < 7 then (3) else (if k < 8 then (1) else (1))) else (if k < 11 then (if k < 10 then (2) else (2)) else (if k < 12 then (1) else (2))))) else (if k < 20 then (if k < 16 then (if k < 14 then (1) else (if k < 15 then (4) else (1))) else (if k < 18 then (if k < 17 then (2) else (2)) else (if k < 19 then (1) else (1)))) else (if k < 23 then (if k < 21 then (2) else (if k < 22 then (4) else (5))) else (if k < 25 then (if k < 24 then (1) else (3)) else (if k < 26 then (4) else (1)))))) else (if k < 41 then (if k < 34 then (if k < 30 then (if k < 28 then (1) else (if k < 29 then (2) else (2))) else (if k < 32 then (if k < 31 then (1) else (2)) else (if k < 33 then (2) else (2)))) else (if k < 37 then (if k < 35 then (3) else (if k < 36 then (1) else (1))) else (if k < 39 then (if k < 38 then (1) else (4)) else (if k < 40 then (1) else (6))))) else (if k < 48 then (if k < 44 then (if k < 42 then (1) else (if k < 43 then (1) else (1))) else (if k < 46 then (if k < 45 then (1) else (6)) else (if k < 47 then (2) else (2)))) else (if k < 51 then (if k < 49 then (2) else (if k < 50 then (3) else (1))) else (if k < 53 then (if k < 52 then (3) else (1)) else (if k < 54 then (1) else (4))))))) else (if k < 83 then (if k < 69 then (if k < 62 then (if k < 58 then (if k < 56 then (2) else (if k < 57 then (1) else (5))) else (if k < 60 then (if k < 59 then (2) else (2)) else (if k < 61 then (3) else (3)))) else (if k < 65 then (if k < 63 then (1) else (if k < 64 then (5) else (4))) else (if k < 67 then (if k < 66 then (2) else (3)) else (if k < 68 then (6) else (3))))) else (if k < 76 then (if k < 72 then (if k < 70 then (3) else (if k < 71 then (4) else (3))) else (if k < 74 then (if k < 73 then (3) else (2)) else (if k < 75 then (4) else (4)))) else (if k < 79 then (if k < 77 then (5) else (if k < 78 then (1) else (3))) else (if k < 81 then (if k < 80 then (3) else (3)) else (if k < 82 then (1) else (2)))))) else (if k < 97 then (if k < 90 then (if k < 86 then (if k < 84 then (6) else (if k < 85 then (1) else (1))) else (if k < 88 then (if k < 87 then (3) else (4)) else (if k < 89 then (4) else (3)))) else (if k < 93 then (if k < 91 then (1) else (if k < 92 then (4) else (4))) else (if k < 95 then (if k < 94 then (3) else (1)) else (if k < 96 then (1) else (6))))) else (if k < 104 then (if k < 100 then (if k < 98 then (2) else (if k < 99 then (12) else (6))) else (if k < 102 then (if k < 101 then (13) else (2)) else (if k < 103 then (2) else (2)))) else (if k < 107 then (if k < 105 then (4) else (if k < 106 then (2) else (2))) else (if k < 109 then (if k < 108 then (3) else (5)) else (if k < 110 then (7) else (3)))))))) else (if k < 166 then (if k < 138 then (if k < 124 then (if k < 117 then (if k < 114 then (if k < 112 then (2) else (if k < 113 then (4) else (2))) else (if k < 115 then (1) else (if k < 116 then (2) else (3)))) else (if k < 120 then (if k < 118 then (7) else (if k < 119 then (7) else (3))) else (if k < 122 then (if k < 121 then (1) else (2)) else (if k < 123 then (3) else (2))))) else (if k < 131 then (if k < 127 then (if k < 125 then (4) else (if k < 126 then (2) else (1))) else (if k < 129 then (if k < 128 then (2) else (1)) else (if k < 130 then (1) else (5)))) else (if k < 134 then (if k < 132 then (2) else (if k < 133 then (1) else (1))) else (if k < 136 then (if k < 135 then (1) else (3)) else (if k < 137 then (1) else (4)))))) else (if k < 152 then (if k < 145 then (if k < 141 then (if k < 139 then (2) else (if k < 140 then (2) else (3))) else (if k < 143 then (if k < 142 then (2) else (3)) else (if k < 144 then (2) else (2)))) else (if k < 148 then (if k < 146 then (3) else (if k < 147 then (1) else (4))) else (if k < 150 then (if k < 149 then (1) else (1)) else (if k < 151 then (1) else (5))))) else (if k < 159 then (if k < 155 then (if k < 153 then (3) else (if k < 154 then (6) else (3))) else (if k < 157 then (if k < 156 then (3) else (4)) else (if k < 158 then (7) else (3)))) else (if k < 162 then (if k < 160 then (4) else (if k < 161 then (2) else (3))) else (if k < 164 then (if k < 163 then (5) else (5)) else (if k < 165 then (8) else (1))))))) else (if k < 194 then (if k < 180 then (if k < 173 then (if k < 169 then (if k < 167 then (9) else (if k < 168 then (2) else (4))) else (if k < 171 then (if k < 170 then (5) else (1)) else (if k < 172 then (3) else (2)))) else (if k < 176 then (if k < 174 then (2) else (if k < 175 then (1) else (4))) else (if k < 178 then (if k < 177 then (3) else (3)) else (if k < 179 then (2) else (2))))) else (if k < 187 then (if k < 183 then (if k < 181 then (2) else (if k < 182 then (2) else (2))) else (if k < 185 then (if k < 184 then (2) else (5)) else (if k < 186 then (7) else (3)))) else (if k < 190 then (if k < 188 then (2) else (if k < 189 then (2) else (1))) else (if k < 192 then (if k < 191 then (3) else (5)) else (if k < 193 then (3) else (2)))))) else (if k < 208 then (if k < 201 then (if k < 197 then (if k < 195 then (2) else (if k < 196 then (8) else (1))) else (if k < 199 then (if k < 198 then (1) else (8)) else (if k < 200 then (4) else (5)))) else (if k < 204 then (if k < 202 then (11) else (if k < 203 then (3) else (2))) else (if k < 206 then (if k < 205 then (17) else (10)) else (if k < 207 then (7) else (4))))) else (if k < 215 then (if k < 211 then (if k < 209 then (2) else (if k < 210 then (4) else (1))) else (if k < 213 then (if k < 212 then (5) else (5)) else (if k < 214 then (3) else (5)))) else (if k < 218 then (if k < 216 then (7) else (if k < 217 then (2) else (1))) else (if k < 220 then (if k < 219 then (5) else (12)) else (if k < 221 then (10) else (2))))))))) else (if k < 333 then (if k < 277 then (if k < 249 then (if k < 235 then (if k < 228 then (if k < 225 then (if k < 223 then (1) else (if k < 224 then (2) else (1))) else (if k < 226 then (1) else (if k < 227 then (5) else (1)))) else (if k < 231 then (if k < 229 then (1) else (if k < 230 then (3) else (4))) else (if k < 233 then (if k < 232 then (4) else (5)) else (if k < 234 then (1) else (1))))) else (if k < 242 then (if k < 238 then (if k < 236 then (3) else (if k < 237 then (1) else (4))) else (if k < 240 then (if k < 239 then (7) else (5)) else (if k < 241 then (2) else (3)))) else (if k < 245 then (if k < 243 then (1) else (if k < 244 then (2) else (4))) else (if k < 247 then (if k < 246 then (4) else (2)) else (if k < 248 then (1) else (4)))))) else (if k < 263 then (if k < 256 then (if k < 252 then (if k < 250 then (4) else (if k < 251 then (6) else (4))) else (if k < 254 then (if k < 253 then (2) else (6)) else (if k < 255 then (2) else (4)))) else (if k < 259 then (if k < 257 then (2) else (if k < 258 then (2) else (8))) else (if k < 261 then (if k < 260 then (3) else (3)) else (if k < 262 then (2) else (4))))) else (if k < 270 then (if k < 266 then (if k < 264 then (9) else (if k < 265 then (2) else (1))) else (if k < 268 then (if k < 267 then (1) else (1)) else (if k < 269 then (1) else (3)))) else (if k < 273 then (if k < 271 then (2) else (if k < 272 then (2) else (3))) else (if k < 275 then (if k < 274 then (4) else (3)) else (if k < 276 then (3) else (2))))))) else (if k < 305 then (if k < 291 then (if k < 284 then (if k < 280 then (if k < 278 then (5) else (if k < 279 then (4) else (3))) else (if k < 282 then (if k < 281 then (3) else (1)) else (if k < 283 then (2) else (3)))) else (if k < 287 then (if k < 285 then (1) else (if k < 286 then (2) else (2))) else (if k < 289 then (if k < 288 then (4) else (2)) else (if k < 290 then (3) else (4))))) else (if k < 298 then (if k < 294 then (if k < 292 then (6) else (if k < 293 then (3) else (2))) else (if k < 296 then (if k < 295 then (3) else (2)) else (if k < 297 then (3) else (4)))) else (if k < 301 then (if k < 299 then (4) else (if k < 300 then (2) else (2))) else (if k < 303 then (if k < 302 then (1) else (1)) else (if k < 304 then (3) else (4)))))) else (if k < 319 then (if k < 312 then (if k < 308 then (if k < 306 then (4) else (if k < 307 then (4) else (4))) else (if k < 310 then (if k < 309 then (2) else (4)) else (if k < 311 then (2) else (2)))) else (if k < 315 then (if k < 313 then (6) else (if k < 314 then (3) else (2))) else (if k < 317 then (if k < 316 then (1) else (2)) else (if k < 318 then (1) else (1))))) else (if k < 326 then (if k < 322 then (if k < 320 then (5) else (if k < 321 then (4) else (9))) else (if k < 324 then (if k < 323 then (1) else (2)) else (if k < 325 then (1) else (1)))) else (if k < 329 then (if k < 327 then (2) else (if k < 328 then (3) else (3))) else (if k < 331 then (if k < 330 then (2) else (4)) else (if k < 332 then (5) else (1)))))))) else (if k < 389 then (if k < 361 then (if k < 347 then (if k < 340 then (if k < 336 then (if k < 334 then (2) else (if k < 335 then (2) else (4))) else (if k < 338 then (if k < 337 then (4) else (3)) else (if k < 339 then (3) else (4)))) else (if k < 343 then (if k < 341 then (1) else (if k < 342 then (4) else (4))) else (if k < 345 then (if k < 344 then (1) else (1)) else (if k < 346 then (2) else (2))))) else (if k < 354 then (if k < 350 then (if k < 348 then (5) else (if k < 349 then (3) else (1))) else (if k < 352 then (if k < 351 then (2) else (2)) else (if k < 353 then (2) else (1)))) else (if k < 357 then (if k < 355 then (1) else (if k < 356 then (1) else (3))) else (if k < 359 then (if k < 358 then (5) else (5)) else (if k < 360 then (3) else (4)))))) else (if k < 375 then (if k < 368 then (if k < 364 then (if k < 362 then (2) else (if k < 363 then (3) else (1))) else (if k < 366 then (if k < 365 then (5) else (2)) else (if k < 367 then (2) else (6)))) else (if k < 371 then (if k < 369 then (5) else (if k < 370 then (3) else (2))) else (if k < 373 then (if k < 372 then (3) else (2)) else (if k < 374 then (3) else (7))))) else (if k < 382 then (if k < 378 then (if k < 376 then (4) else (if k < 377 then (2) else (5))) else (if k < 380 then (if k < 379 then (7) else (5)) else (if k < 381 then (7) else (2)))) else (if k < 385 then (if k < 383 then (9) else (if k < 384 then (8) else (2))) else (if k < 387 then (if k < 386 then (2) else (2)) else (if k < 388 then (2) else (10))))))) else (if k < 417 then (if k < 403 then (if k < 396 then (if k < 392 then (if k < 390 then (4) else (if k < 391 then (1) else (11))) else (if k < 394 then (if k < 393 then (2) else (2)) else (if k < 395 then (3) else (4)))) else (if k < 399 then (if k < 397 then (2) else (if k < 398 then (2) else (2))) else (if k < 401 then (if k < 400 then (6) else (2)) else (if k < 402 then (2) else (5))))) else (if k < 410 then (if k < 406 then (if k < 404 then (10) else (if k < 405 then (6) else (2))) else (if k < 408 then (if k < 407 then (3) else (4)) else (if k < 409 then (6) else (4)))) else (if k < 413 then (if k < 411 then (4) else (if k < 412 then (3) else (1))) else (if k < 415 then (if k < 414 then (12) else (3)) else (if k < 416 then (2) else (4)))))) else (if k < 431 then (if k < 424 then (if k < 420 then (if k < 418 then (1) else (if k < 419 then (4) else (4))) else (if k < 422 then (if k < 421 then (5) else (10)) else (if k < 423 then (4) else (10)))) else (if k < 427 then (if k < 425 then (2) else (if k < 426 then (3) else (3))) else (if k < 429 then (if k < 428 then (4) else (6)) else (if k < 430 then (3) else (2))))) else (if k < 438 then (if k < 434 then (if k < 432 then (4) else (if k < 433 then (6) else (4))) else (if k < 436 then (if k < 435 then (6) else (5)) else (if k < 437 then (4) else (2)))) else (if k < 441 then (if k < 439 then (7) else (if k < 440 then (4) else (9))) else (if k < 443 then (if k < 442 then (6) else (3)) else (if k < 444 then (2) else (2)))))))))
theorem bt0 : blk 0 = B0 := rfl
theorem bt1 : blk 1 = B1 := rfl
theorem bt2 : blk 2 = B2 := rfl
theorem bt3 : blk 3 = B3 := rfl
theorem bt4 : blk 4 = B4 := rfl
theorem bt5 : blk 5 = B5 := rfl
theorem bt6 : blk 6 = B6 := rfl
theorem bt7 : blk 7 = B7 := rfl
theorem bt8 : blk 8 = B8 := rfl
theorem bt9 : blk 9 = B9 := rfl
theorem bt10 : blk 10 = B10 := rfl
theorem bt11 : blk 11 = B11 := rfl
theorem bt12 : blk 12 = B12 := rfl
theorem bt13 : blk 13 = B13 := rfl
theorem bt14 : blk 14 = B14 := rfl
theorem bt15 : blk 15 = B15 := rfl
theorem bt16 : blk 16 = B16 := rfl
theorem bt17 : blk 17 = B17 := rfl
theorem bt18 : blk 18 = B18 := rfl
theorem bt19 : blk 19 = B19 := rfl
theorem bt20 : blk 20 = B20 := rfl
theorem bt21 : blk 21 = B21 := rfl
theorem bt22 : blk 22 = B22 := rfl
theorem bt23 : blk 23 = B23 := rfl
theorem bt24 : blk 24 = B24 := rfl
theorem bt25 : blk 25 = B25 := rfl
theorem bt26 : blk 26 = B26 := rfl
theorem bt27 : blk 27 = B27 := rfl
theorem bt28 : blk 28 = B28 := rfl
theorem bt29 : blk 29 = B29 := rfl
theorem bt30 : blk 30 = B30 := rfl
theorem bt31 : blk 31 = B31 := rfl
theorem bt32 : blk 32 = B32 := rfl
theorem bt33 : blk 33 = B33 := rfl
theorem bt34 : blk 34 = B34 := rfl
theorem bt35 : blk 35 = B35 := rfl
theorem bt36 : blk 36 = B36 := rfl
theorem bt37 : blk 37 = B37 := rfl
theorem bt38 : blk 38 = B38 := rfl
theorem bt39 : blk 39 = B39 := rfl
theorem bt40 : blk 40 = B40 := rfl
theorem bt41 : blk 41 = B41 := rfl
theorem bt42 : blk 42 = B42 := rfl
theorem bt43 : blk 43 = B43 := rfl
theorem bt44 : blk 44 = B44 := rfl
theorem bt45 : blk 45 = B45 := rfl
theorem bt46 : blk 46 = B46 := rfl
theorem bt47 : blk 47 = B47 := rfl
theorem bt48 : blk 48 = B48 := rfl
theorem bt49 : blk 49 = B49 := rfl
theorem bt50 : blk 50 = B50 := rfl
theorem bt51 : blk 51 = B51 := rfl
theorem bt52 : blk 52 = B52 := rfl
theorem bt53 : blk 53 = B53 := rfl
theorem bt54 : blk 54 = B54 := rfl
theorem bt55 : blk 55 = B55 := rfl
theorem bt56 : blk 56 = B56 := rfl
theorem bt57 : blk 57 = B57 := rfl
theorem bt58 : blk 58 = B58 := rfl
theorem bt59 : blk 59 = B59 := rfl
theorem bt60 : blk 60 = B60 := rfl
theorem bt61 : blk 61 = B61 := rfl
theorem bt62 : blk 62 = B62 := rfl
theorem bt63 : blk 63 = B63 := rfl
theorem bt64 : blk 64 = B64 := rfl
theorem bt65 : blk 65 = B65 := rfl
theorem bt66 : blk 66 = B66 := rfl
theorem bt67 : blk 67 = B67 := rfl
theorem bt68 : blk 68 = B68 := rfl
theorem bt69 : blk 69 = B69 := rfl
theorem bt70 : blk 70 = B70 := rfl
theorem bt71 : blk 71 = B71 := rfl
theorem bt72 : blk 72 = B72 := rfl
theorem bt73 : blk 73 = B73 := rfl
theorem bt74 : blk 74 = B74 := rfl
theorem bt75 : blk 75 = B75 := rfl
theorem bt76 : blk 76 = B76 := rfl
theorem bt77 : blk 77 = B77 := rfl
theorem bt78 : blk 78 = B78 := rfl
theorem bt79 : blk 79 = B79 := rfl
theorem bt80 : blk 80 = B80 := rfl
theorem bt81 : blk 81 = B81 := rfl
theorem bt82 : blk 82 = B82 := rfl
theorem bt83 : blk 83 = B83 := rfl
theorem bt84 : blk 84 = B84 := rfl
theorem bt85 : blk 85 = B85 := rfl
theorem bt86 : blk 86 = B86 := rfl
theorem bt87 : blk 87 = B87 := rfl
theorem bt88 : blk 88 = B88 := rfl
theorem bt89 : blk 89 = B89 := rfl
theorem bt90 : blk 90 = B90 := rfl
theorem bt91 : blk 91 = B91 := rfl
theorem bt92 : blk 92 = B92 := rfl
theorem bt93 : blk 93 = B93 := rfl
theorem bt94 : blk 94 = B94 := rfl
theorem bt95 : blk 95 = B95 := rfl
theorem bt96 : blk 96 = B96 := rfl
theorem bt97 : blk 97 = B97 := rfl
theorem bt98 : blk 98 = B98 := rfl
theorem bt99 : blk 99 = B99 := rfl
theorem bt100 : blk 100 = B100 := rfl
theorem bt101 : blk 101 = B101 := rfl
theorem bt102 : blk 102 = B102 := rfl
theorem bt103 : blk 103 = B103 := rfl
theorem bt104 : blk 104 = B104 := rfl
theorem bt105 : blk 105 = B105 := rfl
theorem bt106 : blk 106 = B106 := rfl
theorem bt107 : blk 107 = B107 := rfl
theorem bt108 : blk 108 = B108 := rfl
theorem bt109 : blk 109 = B109 := rfl
theorem bt110 : blk 110 = B110 := rfl
theorem bt111 : blk 111 = B111 := rfl
theorem bt112 : blk 112 = B112 := rfl
theorem bt113 : blk 113 = B113 := rfl
theorem bt114 : blk 114 = B114 := rfl
theorem bt115 : blk 115 = B115 := rfl
theorem bt116 : blk 116 = B116 := rfl
theorem bt117 : blk 117 = B117 := rfl
theorem bt118 : blk 118 = B118 := rfl
theorem bt119 : blk 119 = B119 := rfl
theorem bt120 : blk 120 = B120 := rfl
theorem bt121 : blk 121 = B121 := rfl
theorem bt122 : blk 122 = B122 := rfl
theorem bt123 : blk 123 = B123 := rfl
theorem bt124 : blk 124 = B124 := rfl
theorem bt125 : blk 125 = B125 := rfl
theorem bt126 : blk 126 = B126 := rfl
theorem bt127 : blk 127 = B127 := rfl
theorem bt128 : blk 128 = B128 := rfl
theorem bt129 : blk 129 = B129 := rfl
theorem bt130 : blk 130 = B130 := rfl
theorem bt131 : blk 131 = B131 := rfl
theorem bt132 : blk 132 = B132 := rfl
theorem bt133 : blk 133 = B133 := rfl
theorem bt134 : blk 134 = B134 := rfl
theorem bt135 : blk 135 = B135 := rfl
theorem bt136 : blk 136 = B136 := rfl
theorem bt137 : blk 137 = B137 := rfl
theorem bt138 : blk 138 = B138 := rfl
theorem bt139 : blk 139 = B139 := rfl
theorem bt140 : blk 140 = B140 := rfl
theorem bt141 : blk 141 = B141 := rfl
theorem bt142 : blk 142 = B142 := rfl
theorem bt143 : blk 143 = B143 := rfl
theorem bt144 : blk 144 = B144 := rfl
theorem bt145 : blk 145 = B145 := rfl
theorem bt146 : blk 146 = B146 := rfl
theorem bt147 : blk 147 = B147 := rfl
theorem bt148 : blk 148 = B148 := rfl
theorem bt149 : blk 149 = B149 := rfl
theorem bt150 : blk 150 = B150 := rfl
theorem bt151 : blk 151 = B151 := rfl
theorem bt152 : blk 152 = B152 := rfl
theorem bt153 : blk 153 = B153 := rfl
theorem bt154 : blk 154 = B154 := rfl
theorem bt155 : blk 155 = B155 := rfl
theorem bt156 : blk 156 = B156 := rfl
theorem bt157 : blk 157 = B157 := rfl
theorem bt158 : blk 158 = B158 := rfl
theorem bt159 : blk 159 = B159 := rfl
theorem bt160 : blk 160 = B160 := rfl
theorem bt161 : blk 161 = B161 := rfl
theorem bt162 : blk 162 = B162 := rfl
theorem bt163 : blk 163 = B163 := rfl
theorem bt164 : blk 164 = B164 := rfl
theorem bt165 : blk 165 = B165 := rfl
theorem bt166 : blk 166 = B166 := rfl
theorem bt167 : blk 167 = B167 := rfl
theorem bt168 : blk 168 = B168 := rfl
theorem bt169 : blk 169 = B169 := rfl
theorem bt170 : blk 170 = B170 := rfl
theorem bt171 : blk 171 = B171 := rfl
theorem bt172 : blk 172 = B172 := rfl
theorem bt173 : blk 173 = B173 := rfl
theorem bt174 : blk 174 = B174 := rfl
theorem bt175 : blk 175 = B175 := rfl
theorem bt176 : blk 176 = B176 := rfl
theorem bt177 : blk 177 = B177 := rfl
theorem bt178 : blk 178 = B178 := rfl
theorem bt179 : blk 179 = B179 := rfl
theorem bt180 : blk 180 = B180 := rfl
theorem bt181 : blk 181 = B181 := rfl
theorem bt182 : blk 182 = B182 := rfl
theorem bt183 : blk 183 = B183 := rfl
theorem bt184 : blk 184 = B184 := rfl
theorem bt185 : blk 185 = B185 := rfl
theorem bt186 : blk 186 = B186 := rfl
theorem bt187 : blk 187 = B187 := rfl
theorem bt188 : blk 188 = B188 := rfl
theorem bt189 : blk 189 = B189 := rfl
theorem bt190 : blk 190 = B190 := rfl
theorem bt191 : blk 191 = B191 := rfl
theorem bt192 : blk 192 = B192 := rfl
theorem bt193 : blk 193 = B193 := rfl
theorem bt194 : blk 194 = B194 := rfl
theorem bt195 : blk 195 = B195 := rfl
theorem bt196 : blk 196 = B196 := rfl
theorem bt197 : blk 197 = B197 := rfl
theorem bt198 : blk 198 = B198 := rfl
theorem bt199 : blk 199 = B199 := rfl
theorem bt200 : blk 200 = B200 := rfl
theorem bt201 : blk 201 = B201 := rfl
theorem bt202 : blk 202 = B202 := rfl
theorem bt203 : blk 203 = B203 := rfl
theorem bt204 : blk 204 = B204 := rfl
theorem bt205 : blk 205 = B205 := rfl
theorem bt206 : blk 206 = B206 := rfl
theorem bt207 : blk 207 = B207 := rfl
theorem bt208 : blk 208 = B208 := rfl
theorem bt209 : blk 209 = B209 := rfl
theorem bt210 : blk 210 = B210 := rfl
theorem bt211 : blk 211 = B211 := rfl
theorem bt212 : blk 212 = B212 := rfl
theorem bt213 : blk 213 = B213 := rfl
theorem bt214 : blk 214 = B214 := rfl
theorem bt215 : blk 215 = B215 := rfl
theorem bt216 : blk 216 = B216 := rfl
theorem bt217 : blk 217 = B217 := rfl
theorem bt218 : blk 218 = B218 := rfl
theorem bt219 : blk 219 = B219 := rfl
theorem bt220 : blk 220 = B220 := rfl
theorem bt221 : blk 221 = B221 := rfl
theorem bt222 : blk 222 = B222 := rfl
theorem bt223 : blk 223 = B223 := rfl
theorem bt224 : blk 224 = B224 := rfl
theorem bt225 : blk 225 = B225 := rfl
theorem bt226 : blk 226 = B226 := rfl
theorem bt227 : blk 227 = B227 := rfl
theorem bt228 : blk 228 = B228 := rfl
theorem bt229 : blk 229 = B229 := rfl
theorem bt230 : blk 230 = B230 := rfl
theorem bt231 : blk 231 = B231 := rfl
theorem bt232 : blk 232 = B232 := rfl
theorem bt233 : blk 233 = B233 := rfl
theorem bt234 : blk 234 = B234 := rfl
theorem bt235 : blk 235 = B235 := rfl
theorem bt236 : blk 236 = B236 := rfl
theorem bt237 : blk 237 = B237 := rfl
theorem bt238 : blk 238 = B238 := rfl
theorem bt239 : blk 239 = B239 := rfl
theorem bt240 : blk 240 = B240 := rfl
theorem bt241 : blk 241 = B241 := rfl
theorem bt242 : blk 242 = B242 := rfl
theorem bt243 : blk 243 = B243 := rfl
theorem bt244 : blk 244 = B244 := rfl
theorem bt245 : blk 245 = B245 := rfl
theorem bt246 : blk 246 = B246 := rfl
theorem bt247 : blk 247 = B247 := rfl
theorem bt248 : blk 248 = B248 := rfl
theorem bt249 : blk 249 = B249 := rfl
theorem bt250 : blk 250 = B250 := rfl
theorem bt251 : blk 251 = B251 := rfl
theorem bt252 : blk 252 = B252 := rfl
theorem bt253 : blk 253 = B253 := rfl
theorem bt254 : blk 254 = B254 := rfl
theorem bt255 : blk 255 = B255 := rfl
theorem bt256 : blk 256 = B256 := rfl
theorem bt257 : blk 257 = B257 := rfl
theorem bt258 : blk 258 = B258 := rfl
theorem bt259 : blk 259 = B259 := rfl
theorem bt260 : blk 260 = B260 := rfl
theorem bt261 : blk 261 = B261 := rfl
theorem bt262 : blk 262 = B262 := rfl
theorem bt263 : blk 263 = B263 := rfl
theorem bt264 : blk 264 = B264 := rfl
theorem bt265 : blk 265 = B265 := rfl
theorem bt266 : blk 266 = B266 := rfl
theorem bt267 : blk 267 = B267 := rfl
theorem bt268 : blk 268 = B268 := rfl
theorem bt269 : blk 269 = B269 := rfl
theorem bt270 : blk 270 = B270 := rfl
theorem bt271 : blk 271 = B271 := rfl
theorem bt272 : blk 272 = B272 := rfl
theorem bt273 : blk 273 = B273 := rfl
theorem bt274 : blk 274 = B274 := rfl
theorem bt275 : blk 275 = B275 := rfl
theorem bt276 : blk 276 = B276 := rfl
theorem bt277 : blk 277 = B277 := rfl
theorem bt278 : blk 278 = B278 := rfl
theorem bt279 : blk 279 = B279 := rfl
theorem bt280 : blk 280 = B280 := rfl
theorem bt281 : blk 281 = B281 := rfl
theorem bt282 : blk 282 = B282 := rfl
theorem bt283 : blk 283 = B283 := rfl
theorem bt284 : blk 284 = B284 := rfl
theorem bt285 : blk 285 = B285 := rfl
theorem bt286 : blk 286 = B286 := rfl
theorem bt287 : blk 287 = B287 := rfl
theorem bt288 : blk 288 = B288 := rfl
theorem bt289 : blk 289 = B289 := rfl
theorem bt290 : blk 290 = B290 := rfl
theorem bt291 : blk 291 = B291 := rfl
theorem bt292 : blk 292 = B292 := rfl
theorem bt293 : blk 293 = B293 := rfl
theorem bt294 : blk 294 = B294 := rfl
theorem bt295 : blk 295 = B295 := rfl
theorem bt296 : blk 296 = B296 := rfl
theorem bt297 : blk 297 = B297 := rfl
theorem bt298 : blk 298 = B298 := rfl
theorem bt299 : blk 299 = B299 := rfl
theorem bt300 : blk 300 = B300 := rfl
theorem bt301 : blk 301 = B301 := rfl
theorem bt302 : blk 302 = B302 := rfl
theorem bt303 : blk 303 = B303 := rfl
theorem bt304 : blk 304 = B304 := rfl
theorem bt305 : blk 305 = B305 := rfl
theorem bt306 : blk 306 = B306 := rfl
theorem bt307 : blk 307 = B307 := rfl
theorem bt308 : blk 308 = B308 := rfl
theorem bt309 : blk 309 = B309 := rfl
theorem bt310 : blk 310 = B310 := rfl
theorem bt311 : blk 311 = B311 := rfl
theorem bt312 : blk 312 = B312 := rfl
theorem bt313 : blk 313 = B313 := rfl
theorem bt314 : blk 314 = B314 := rfl
theorem bt315 : blk 315 = B315 := rfl
theorem bt316 : blk 316 = B316 := rfl
theorem bt317 : blk 317 = B317 := rfl
theorem bt318 : blk 318 = B318 := rfl
theorem bt319 : blk 319 = B319 := rfl
theorem bt320 : blk 320 = B320 := rfl
theorem bt321 : blk 321 = B321 := rfl
theorem bt322 : blk 322 = B322 := rfl
theorem bt323 : blk 323 = B323 := rfl
theorem bt324 : blk 324 = B324 := rfl
theorem bt325 : blk 325 = B325 := rfl
theorem bt326 : blk 326 = B326 := rfl
theorem bt327 : blk 327 = B327 := rfl
theorem bt328 : blk 328 = B328 := rfl
theorem bt329 : blk 329 = B329 := rfl
theorem bt330 : blk 330 = B330 := rfl
theorem bt331 : blk 331 = B331 := rfl
theorem bt332 : blk 332 = B332 := rfl
theorem bt333 : blk 333 = B333 := rfl
theorem bt334 : blk 334 = B334 := rfl
theorem bt335 : blk 335 = B335 := rfl
theorem bt336 : blk 336 = B336 := rfl
theorem bt337 : blk 337 = B337 := rfl
theorem bt338 : blk 338 = B338 := rfl
theorem bt339 : blk 339 = B339 := rfl
theorem bt340 : blk 340 = B340 := rfl
theorem bt341 : blk 341 = B341 := rfl
theorem bt342 : blk 342 = B342 := rfl
theorem bt343 : blk 343 = B343 := rfl
theorem bt344 : blk 344 = B344 := rfl
theorem bt345 : blk 345 = B345 := rfl
theorem bt346 : blk 346 = B346 := rfl
theorem bt347 : blk 347 = B347 := rfl
theorem bt348 : blk 348 = B348 := rfl
theorem bt349 : blk 349 = B349 := rfl
theorem bt350 : blk 350 = B350 := rfl
theorem bt351 : blk 351 = B351 := rfl
theorem bt352 : blk 352 = B352 := rfl
theorem bt353 : blk 353 = B353 := rfl
theorem bt354 : blk 354 = B354 := rfl
theorem bt355 : blk 355 = B355 := rfl
theorem bt356 : blk 356 = B356 := rfl
theorem bt357 : blk 357 = B357 := rfl
theorem bt358 : blk 358 = B358 := rfl
theorem bt359 : blk 359 = B359 := rfl
theorem bt360 : blk 360 = B360 := rfl
theorem bt361 : blk 361 = B361 := rfl
theorem bt362 : blk 362 = B362 := rfl
theorem bt363 : blk 363 = B363 := rfl
theorem bt364 : blk 364 = B364 := rfl
theorem bt365 : blk 365 = B365 := rfl
theorem bt366 : blk 366 = B366 := rfl
theorem bt367 : blk 367 = B367 := rfl
theorem bt368 : blk 368 = B368 := rfl
theorem bt369 : blk 369 = B369 := rfl
theorem bt370 : blk 370 = B370 := rfl
theorem bt371 : blk 371 = B371 := rfl
theorem bt372 : blk 372 = B372 := rfl
theorem bt373 : blk 373 = B373 := rfl
theorem bt374 : blk 374 = B374 := rfl
theorem bt375 : blk 375 = B375 := rfl
theorem bt376 : blk 376 = B376 := rfl
theorem bt377 : blk 377 = B377 := rfl
theorem bt378 : blk 378 = B378 := rfl
theorem bt379 : blk 379 = B379 := rfl
theorem bt380 : blk 380 = B380 := rfl
theorem bt381 : blk 381 = B381 := rfl
theorem bt382 : blk 382 = B382 := rfl
theorem bt383 : blk 383 = B383 := rfl
theorem bt384 : blk 384 = B384 := rfl
theorem bt385 : blk 385 = B385 := rfl
theorem bt386 : blk 386 = B386 := rfl
theorem bt387 : blk 387 = B387 := rfl
theorem bt388 : blk 388 = B388 := rfl
theorem bt389 : blk 389 = B389 := rfl
theorem bt390 : blk 390 = B390 := rfl
theorem bt391 : blk 391 = B391 := rfl
theorem bt392 : blk 392 = B392 := rfl
theorem bt393 : blk 393 = B393 := rfl
theorem bt394 : blk 394 = B394 := rfl
theorem bt395 : blk 395 = B395 := rfl
theorem bt396 : blk 396 = B396 := rfl
theorem bt397 : blk 397 = B397 := rfl
theorem bt398 : blk 398 = B398 := rfl
theorem bt399 : blk 399 = B399 := rfl
theorem bt400 : blk 400 = B400 := rfl
theorem bt401 : blk 401 = B401 := rfl
theorem bt402 : blk 402 = B402 := rfl
theorem bt403 : blk 403 = B403 := rfl
theorem bt404 : blk 404 = B404 := rfl
theorem bt405 : blk 405 = B405 := rfl
theorem bt406 : blk 406 = B406 := rfl
theorem bt407 : blk 407 = B407 := rfl
theorem bt408 : blk 408 = B408 := rfl
theorem bt409 : blk 409 = B409 := rfl
theorem bt410 : blk 410 = B410 := rfl
theorem bt411 : blk 411 = B411 := rfl
theorem bt412 : blk 412 = B412 := rfl
theorem bt413 : blk 413 = B413 := rfl
theorem bt414 : blk 414 = B414 := rfl
theorem bt415 : blk 415 = B415 := rfl
theorem bt416 : blk 416 = B416 := rfl
theorem bt417 : blk 417 = B417 := rfl
theorem bt418 : blk 418 = B418 := rfl
theorem bt419 : blk 419 = B419 := rfl
theorem bt420 : blk 420 = B420 := rfl
theorem bt421 : blk 421 = B421 := rfl
theorem bt422 : blk 422 = B422 := rfl
theorem bt423 : blk 423 = B423 := rfl
theorem bt424 : blk 424 = B424 := rfl
theorem bt425 : blk 425 = B425 := rfl
theorem bt426 : blk 426 = B426 := rfl
theorem bt427 : blk 427 = B427 := rfl
theorem bt428 : blk 428 = B428 := rfl
theorem bt429 : blk 429 = B429 := rfl
theorem bt430 : blk 430 = B430 := rfl
theorem bt431 : blk 431 = B431 := rfl
theorem bt432 : blk 432 = B432 := rfl
theorem bt433 : blk 433 = B433 := rfl
theorem bt434 : blk 434 = B434 := rfl
theorem bt435 : blk 435 = B435 := rfl
theorem bt436 : blk 436 = B436 := rfl
theorem bt437 : blk 437 = B437 := rfl
theorem bt438 : blk 438 = B438 := rfl
theorem bt439 : blk 439 = B439 := rfl
theorem bt440 : blk 440 = B440 := rfl
theorem bt441 : blk 441 = B441 := rfl
theorem bt442 : blk 442 = B442 := rfl
theorem bt443 : blk 443 = B443 := rfl
theorem bt444 : blk 444 = B444 := rfl
theorem ml0 : ml 0 = 4 := rfl
theorem ml1 : ml 1 = 1 := rfl
theorem ml2 : ml 2 = 1 := rfl
theorem ml3 : ml 3 = 2 := rfl
theorem ml4 : ml 4 = 1 := rfl
theorem ml5 : ml 5 = 1 := rfl
theorem ml6 : ml 6 = 3 := rfl
theorem ml7 : ml 7 = 1 := rfl
theorem ml8 : ml 8 = 1 := rfl
theorem ml9 : ml 9 = 2 := rfl
theorem ml10 : ml 10 = 2 := rfl
theorem ml11 : ml 11 = 1 := rfl
theorem ml12 : ml 12 = 2 := rfl
theorem ml13 : ml 13 = 1 := rfl
theorem ml14 : ml 14 = 4 := rfl
theorem ml15 : ml 15 = 1 := rfl
theorem ml16 : ml 16 = 2 := rfl
theorem ml17 : ml 17 = 2 := rfl
theorem ml18 : ml 18 = 1 := rfl
theorem ml19 : ml 19 = 1 := rfl
theorem ml20 : ml 20 = 2 := rfl
theorem ml21 : ml 21 = 4 := rfl
theorem ml22 : ml 22 = 5 := rfl
theorem ml23 : ml 23 = 1 := rfl
theorem ml24 : ml 24 = 3 := rfl
theorem ml25 : ml 25 = 4 := rfl
theorem ml26 : ml 26 = 1 := rfl
theorem ml27 : ml 27 = 1 := rfl
theorem ml28 : ml 28 = 2 := rfl
theorem ml29 : ml 29 = 2 := rfl
theorem ml30 : ml 30 = 1 := rfl
theorem ml31 : ml 31 = 2 := rfl
theorem ml32 : ml 32 = 2 := rfl
theorem ml33 : ml 33 = 2 := rfl
theorem ml34 : ml 34 = 3 := rfl
theorem ml35 : ml 35 = 1 := rfl
theorem ml36 : ml 36 = 1 := rfl
theorem ml37 : ml 37 = 1 := rfl
theorem ml38 : ml 38 = 4 := rfl
theorem ml39 : ml 39 = 1 := rfl
theorem ml40 : ml 40 = 6 := rfl
theorem ml41 : ml 41 = 1 := rfl
theorem ml42 : ml 42 = 1 := rfl
theorem ml43 : ml 43 = 1 := rfl
theorem ml44 : ml 44 = 1 := rfl
theorem ml45 : ml 45 = 6 := rfl
theorem ml46 : ml 46 = 2 := rfl
theorem ml47 : ml 47 = 2 := rfl
theorem ml48 : ml 48 = 2 := rfl
theorem ml49 : ml 49 = 3 := rfl
theorem ml50 : ml 50 = 1 := rfl
theorem ml51 : ml 51 = 3 := rfl
theorem ml52 : ml 52 = 1 := rfl
theorem ml53 : ml 53 = 1 := rfl
theorem ml54 : ml 54 = 4 := rfl
theorem ml55 : ml 55 = 2 := rfl
theorem ml56 : ml 56 = 1 := rfl
theorem ml57 : ml 57 = 5 := rfl
theorem ml58 : ml 58 = 2 := rfl
theorem ml59 : ml 59 = 2 := rfl
theorem ml60 : ml 60 = 3 := rfl
theorem ml61 : ml 61 = 3 := rfl
theorem ml62 : ml 62 = 1 := rfl
theorem ml63 : ml 63 = 5 := rfl
theorem ml64 : ml 64 = 4 := rfl
theorem ml65 : ml 65 = 2 := rfl
theorem ml66 : ml 66 = 3 := rfl
theorem ml67 : ml 67 = 6 := rfl
theorem ml68 : ml 68 = 3 := rfl
theorem ml69 : ml 69 = 3 := rfl
theorem ml70 : ml 70 = 4 := rfl
theorem ml71 : ml 71 = 3 := rfl
theorem ml72 : ml 72 = 3 := rfl
theorem ml73 : ml 73 = 2 := rfl
theorem ml74 : ml 74 = 4 := rfl
theorem ml75 : ml 75 = 4 := rfl
theorem ml76 : ml 76 = 5 := rfl
theorem ml77 : ml 77 = 1 := rfl
theorem ml78 : ml 78 = 3 := rfl
theorem ml79 : ml 79 = 3 := rfl
theorem ml80 : ml 80 = 3 := rfl
theorem ml81 : ml 81 = 1 := rfl
theorem ml82 : ml 82 = 2 := rfl
theorem ml83 : ml 83 = 6 := rfl
theorem ml84 : ml 84 = 1 := rfl
theorem ml85 : ml 85 = 1 := rfl
theorem ml86 : ml 86 = 3 := rfl
theorem ml87 : ml 87 = 4 := rfl
theorem ml88 : ml 88 = 4 := rfl
theorem ml89 : ml 89 = 3 := rfl
theorem ml90 : ml 90 = 1 := rfl
theorem ml91 : ml 91 = 4 := rfl
theorem ml92 : ml 92 = 4 := rfl
theorem ml93 : ml 93 = 3 := rfl
theorem ml94 : ml 94 = 1 := rfl
theorem ml95 : ml 95 = 1 := rfl
theorem ml96 : ml 96 = 6 := rfl
theorem ml97 : ml 97 = 2 := rfl
theorem ml98 : ml 98 = 12 := rfl
theorem ml99 : ml 99 = 6 := rfl
theorem ml100 : ml 100 = 13 := rfl
theorem ml101 : ml 101 = 2 := rfl
theorem ml102 : ml 102 = 2 := rfl
theorem ml103 : ml 103 = 2 := rfl
theorem ml104 : ml 104 = 4 := rfl
theorem ml105 : ml 105 = 2 := rfl
theorem ml106 : ml 106 = 2 := rfl
theorem ml107 : ml 107 = 3 := rfl
theorem ml108 : ml 108 = 5 := rfl
theorem ml109 : ml 109 = 7 := rfl
theorem ml110 : ml 110 = 3 := rfl
theorem ml111 : ml 111 = 2 := rfl
theorem ml112 : ml 112 = 4 := rfl
theorem ml113 : ml 113 = 2 := rfl
theorem ml114 : ml 114 = 1 := rfl
theorem ml115 : ml 115 = 2 := rfl
theorem ml116 : ml 116 = 3 := rfl
theorem ml117 : ml 117 = 7 := rfl
theorem ml118 : ml 118 = 7 := rfl
theorem ml119 : ml 119 = 3 := rfl
theorem ml120 : ml 120 = 1 := rfl
theorem ml121 : ml 121 = 2 := rfl
theorem ml122 : ml 122 = 3 := rfl
theorem ml123 : ml 123 = 2 := rfl
theorem ml124 : ml 124 = 4 := rfl
theorem ml125 : ml 125 = 2 := rfl
theorem ml126 : ml 126 = 1 := rfl
theorem ml127 : ml 127 = 2 := rfl
theorem ml128 : ml 128 = 1 := rfl
theorem ml129 : ml 129 = 1 := rfl
theorem ml130 : ml 130 = 5 := rfl
theorem ml131 : ml 131 = 2 := rfl
theorem ml132 : ml 132 = 1 := rfl
theorem ml133 : ml 133 = 1 := rfl
theorem ml134 : ml 134 = 1 := rfl
theorem ml135 : ml 135 = 3 := rfl
theorem ml136 : ml 136 = 1 := rfl
theorem ml137 : ml 137 = 4 := rfl
theorem ml138 : ml 138 = 2 := rfl
theorem ml139 : ml 139 = 2 := rfl
theorem ml140 : ml 140 = 3 := rfl
theorem ml141 : ml 141 = 2 := rfl
theorem ml142 : ml 142 = 3 := rfl
theorem ml143 : ml 143 = 2 := rfl
theorem ml144 : ml 144 = 2 := rfl
theorem ml145 : ml 145 = 3 := rfl
theorem ml146 : ml 146 = 1 := rfl
theorem ml147 : ml 147 = 4 := rfl
theorem ml148 : ml 148 = 1 := rfl
theorem ml149 : ml 149 = 1 := rfl
theorem ml150 : ml 150 = 1 := rfl
theorem ml151 : ml 151 = 5 := rfl
theorem ml152 : ml 152 = 3 := rfl
theorem ml153 : ml 153 = 6 := rfl
theorem ml154 : ml 154 = 3 := rfl
theorem ml155 : ml 155 = 3 := rfl
theorem ml156 : ml 156 = 4 := rfl
theorem ml157 : ml 157 = 7 := rfl
theorem ml158 : ml 158 = 3 := rfl
theorem ml159 : ml 159 = 4 := rfl
theorem ml160 : ml 160 = 2 := rfl
theorem ml161 : ml 161 = 3 := rfl
theorem ml162 : ml 162 = 5 := rfl
theorem ml163 : ml 163 = 5 := rfl
theorem ml164 : ml 164 = 8 := rfl
theorem ml165 : ml 165 = 1 := rfl
theorem ml166 : ml 166 = 9 := rfl
theorem ml167 : ml 167 = 2 := rfl
theorem ml168 : ml 168 = 4 := rfl
theorem ml169 : ml 169 = 5 := rfl
theorem ml170 : ml 170 = 1 := rfl
theorem ml171 : ml 171 = 3 := rfl
theorem ml172 : ml 172 = 2 := rfl
theorem ml173 : ml 173 = 2 := rfl
theorem ml174 : ml 174 = 1 := rfl
theorem ml175 : ml 175 = 4 := rfl
theorem ml176 : ml 176 = 3 := rfl
theorem ml177 : ml 177 = 3 := rfl
theorem ml178 : ml 178 = 2 := rfl
theorem ml179 : ml 179 = 2 := rfl
theorem ml180 : ml 180 = 2 := rfl
theorem ml181 : ml 181 = 2 := rfl
theorem ml182 : ml 182 = 2 := rfl
theorem ml183 : ml 183 = 2 := rfl
theorem ml184 : ml 184 = 5 := rfl
theorem ml185 : ml 185 = 7 := rfl
theorem ml186 : ml 186 = 3 := rfl
theorem ml187 : ml 187 = 2 := rfl
theorem ml188 : ml 188 = 2 := rfl
theorem ml189 : ml 189 = 1 := rfl
theorem ml190 : ml 190 = 3 := rfl
theorem ml191 : ml 191 = 5 := rfl
theorem ml192 : ml 192 = 3 := rfl
theorem ml193 : ml 193 = 2 := rfl
theorem ml194 : ml 194 = 2 := rfl
theorem ml195 : ml 195 = 8 := rfl
theorem ml196 : ml 196 = 1 := rfl
theorem ml197 : ml 197 = 1 := rfl
theorem ml198 : ml 198 = 8 := rfl
theorem ml199 : ml 199 = 4 := rfl
theorem ml200 : ml 200 = 5 := rfl
theorem ml201 : ml 201 = 11 := rfl
theorem ml202 : ml 202 = 3 := rfl
theorem ml203 : ml 203 = 2 := rfl
theorem ml204 : ml 204 = 17 := rfl
theorem ml205 : ml 205 = 10 := rfl
theorem ml206 : ml 206 = 7 := rfl
theorem ml207 : ml 207 = 4 := rfl
theorem ml208 : ml 208 = 2 := rfl
theorem ml209 : ml 209 = 4 := rfl
theorem ml210 : ml 210 = 1 := rfl
theorem ml211 : ml 211 = 5 := rfl
theorem ml212 : ml 212 = 5 := rfl
theorem ml213 : ml 213 = 3 := rfl
theorem ml214 : ml 214 = 5 := rfl
theorem ml215 : ml 215 = 7 := rfl
theorem ml216 : ml 216 = 2 := rfl
theorem ml217 : ml 217 = 1 := rfl
theorem ml218 : ml 218 = 5 := rfl
theorem ml219 : ml 219 = 12 := rfl
theorem ml220 : ml 220 = 10 := rfl
theorem ml221 : ml 221 = 2 := rfl
theorem ml222 : ml 222 = 1 := rfl
theorem ml223 : ml 223 = 2 := rfl
theorem ml224 : ml 224 = 1 := rfl
theorem ml225 : ml 225 = 1 := rfl
theorem ml226 : ml 226 = 5 := rfl
theorem ml227 : ml 227 = 1 := rfl
theorem ml228 : ml 228 = 1 := rfl
theorem ml229 : ml 229 = 3 := rfl
theorem ml230 : ml 230 = 4 := rfl
theorem ml231 : ml 231 = 4 := rfl
theorem ml232 : ml 232 = 5 := rfl
theorem ml233 : ml 233 = 1 := rfl
theorem ml234 : ml 234 = 1 := rfl
theorem ml235 : ml 235 = 3 := rfl
theorem ml236 : ml 236 = 1 := rfl
theorem ml237 : ml 237 = 4 := rfl
theorem ml238 : ml 238 = 7 := rfl
theorem ml239 : ml 239 = 5 := rfl
theorem ml240 : ml 240 = 2 := rfl
theorem ml241 : ml 241 = 3 := rfl
theorem ml242 : ml 242 = 1 := rfl
theorem ml243 : ml 243 = 2 := rfl
theorem ml244 : ml 244 = 4 := rfl
theorem ml245 : ml 245 = 4 := rfl
theorem ml246 : ml 246 = 2 := rfl
theorem ml247 : ml 247 = 1 := rfl
theorem ml248 : ml 248 = 4 := rfl
theorem ml249 : ml 249 = 4 := rfl
theorem ml250 : ml 250 = 6 := rfl
theorem ml251 : ml 251 = 4 := rfl
theorem ml252 : ml 252 = 2 := rfl
theorem ml253 : ml 253 = 6 := rfl
theorem ml254 : ml 254 = 2 := rfl
theorem ml255 : ml 255 = 4 := rfl
theorem ml256 : ml 256 = 2 := rfl
theorem ml257 : ml 257 = 2 := rfl
theorem ml258 : ml 258 = 8 := rfl
theorem ml259 : ml 259 = 3 := rfl
theorem ml260 : ml 260 = 3 := rfl
theorem ml261 : ml 261 = 2 := rfl
theorem ml262 : ml 262 = 4 := rfl
theorem ml263 : ml 263 = 9 := rfl
theorem ml264 : ml 264 = 2 := rfl
theorem ml265 : ml 265 = 1 := rfl
theorem ml266 : ml 266 = 1 := rfl
theorem ml267 : ml 267 = 1 := rfl
theorem ml268 : ml 268 = 1 := rfl
theorem ml269 : ml 269 = 3 := rfl
theorem ml270 : ml 270 = 2 := rfl
theorem ml271 : ml 271 = 2 := rfl
theorem ml272 : ml 272 = 3 := rfl
theorem ml273 : ml 273 = 4 := rfl
theorem ml274 : ml 274 = 3 := rfl
theorem ml275 : ml 275 = 3 := rfl
theorem ml276 : ml 276 = 2 := rfl
theorem ml277 : ml 277 = 5 := rfl
theorem ml278 : ml 278 = 4 := rfl
theorem ml279 : ml 279 = 3 := rfl
theorem ml280 : ml 280 = 3 := rfl
theorem ml281 : ml 281 = 1 := rfl
theorem ml282 : ml 282 = 2 := rfl
theorem ml283 : ml 283 = 3 := rfl
theorem ml284 : ml 284 = 1 := rfl
theorem ml285 : ml 285 = 2 := rfl
theorem ml286 : ml 286 = 2 := rfl
theorem ml287 : ml 287 = 4 := rfl
theorem ml288 : ml 288 = 2 := rfl
theorem ml289 : ml 289 = 3 := rfl
theorem ml290 : ml 290 = 4 := rfl
theorem ml291 : ml 291 = 6 := rfl
theorem ml292 : ml 292 = 3 := rfl
theorem ml293 : ml 293 = 2 := rfl
theorem ml294 : ml 294 = 3 := rfl
theorem ml295 : ml 295 = 2 := rfl
theorem ml296 : ml 296 = 3 := rfl
theorem ml297 : ml 297 = 4 := rfl
theorem ml298 : ml 298 = 4 := rfl
theorem ml299 : ml 299 = 2 := rfl
theorem ml300 : ml 300 = 2 := rfl
theorem ml301 : ml 301 = 1 := rfl
theorem ml302 : ml 302 = 1 := rfl
theorem ml303 : ml 303 = 3 := rfl
theorem ml304 : ml 304 = 4 := rfl
theorem ml305 : ml 305 = 4 := rfl
theorem ml306 : ml 306 = 4 := rfl
theorem ml307 : ml 307 = 4 := rfl
theorem ml308 : ml 308 = 2 := rfl
theorem ml309 : ml 309 = 4 := rfl
theorem ml310 : ml 310 = 2 := rfl
theorem ml311 : ml 311 = 2 := rfl
theorem ml312 : ml 312 = 6 := rfl
theorem ml313 : ml 313 = 3 := rfl
theorem ml314 : ml 314 = 2 := rfl
theorem ml315 : ml 315 = 1 := rfl
theorem ml316 : ml 316 = 2 := rfl
theorem ml317 : ml 317 = 1 := rfl
theorem ml318 : ml 318 = 1 := rfl
theorem ml319 : ml 319 = 5 := rfl
theorem ml320 : ml 320 = 4 := rfl
theorem ml321 : ml 321 = 9 := rfl
theorem ml322 : ml 322 = 1 := rfl
theorem ml323 : ml 323 = 2 := rfl
theorem ml324 : ml 324 = 1 := rfl
theorem ml325 : ml 325 = 1 := rfl
theorem ml326 : ml 326 = 2 := rfl
theorem ml327 : ml 327 = 3 := rfl
theorem ml328 : ml 328 = 3 := rfl
theorem ml329 : ml 329 = 2 := rfl
theorem ml330 : ml 330 = 4 := rfl
theorem ml331 : ml 331 = 5 := rfl
theorem ml332 : ml 332 = 1 := rfl
theorem ml333 : ml 333 = 2 := rfl
theorem ml334 : ml 334 = 2 := rfl
theorem ml335 : ml 335 = 4 := rfl
theorem ml336 : ml 336 = 4 := rfl
theorem ml337 : ml 337 = 3 := rfl
theorem ml338 : ml 338 = 3 := rfl
theorem ml339 : ml 339 = 4 := rfl
theorem ml340 : ml 340 = 1 := rfl
theorem ml341 : ml 341 = 4 := rfl
theorem ml342 : ml 342 = 4 := rfl
theorem ml343 : ml 343 = 1 := rfl
theorem ml344 : ml 344 = 1 := rfl
theorem ml345 : ml 345 = 2 := rfl
theorem ml346 : ml 346 = 2 := rfl
theorem ml347 : ml 347 = 5 := rfl
theorem ml348 : ml 348 = 3 := rfl
theorem ml349 : ml 349 = 1 := rfl
theorem ml350 : ml 350 = 2 := rfl
theorem ml351 : ml 351 = 2 := rfl
theorem ml352 : ml 352 = 2 := rfl
theorem ml353 : ml 353 = 1 := rfl
theorem ml354 : ml 354 = 1 := rfl
theorem ml355 : ml 355 = 1 := rfl
theorem ml356 : ml 356 = 3 := rfl
theorem ml357 : ml 357 = 5 := rfl
theorem ml358 : ml 358 = 5 := rfl
theorem ml359 : ml 359 = 3 := rfl
theorem ml360 : ml 360 = 4 := rfl
theorem ml361 : ml 361 = 2 := rfl
theorem ml362 : ml 362 = 3 := rfl
theorem ml363 : ml 363 = 1 := rfl
theorem ml364 : ml 364 = 5 := rfl
theorem ml365 : ml 365 = 2 := rfl
theorem ml366 : ml 366 = 2 := rfl
theorem ml367 : ml 367 = 6 := rfl
theorem ml368 : ml 368 = 5 := rfl
theorem ml369 : ml 369 = 3 := rfl
theorem ml370 : ml 370 = 2 := rfl
theorem ml371 : ml 371 = 3 := rfl
theorem ml372 : ml 372 = 2 := rfl
theorem ml373 : ml 373 = 3 := rfl
theorem ml374 : ml 374 = 7 := rfl
theorem ml375 : ml 375 = 4 := rfl
theorem ml376 : ml 376 = 2 := rfl
theorem ml377 : ml 377 = 5 := rfl
theorem ml378 : ml 378 = 7 := rfl
theorem ml379 : ml 379 = 5 := rfl
theorem ml380 : ml 380 = 7 := rfl
theorem ml381 : ml 381 = 2 := rfl
theorem ml382 : ml 382 = 9 := rfl
theorem ml383 : ml 383 = 8 := rfl
theorem ml384 : ml 384 = 2 := rfl
theorem ml385 : ml 385 = 2 := rfl
theorem ml386 : ml 386 = 2 := rfl
theorem ml387 : ml 387 = 2 := rfl
theorem ml388 : ml 388 = 10 := rfl
theorem ml389 : ml 389 = 4 := rfl
theorem ml390 : ml 390 = 1 := rfl
theorem ml391 : ml 391 = 11 := rfl
theorem ml392 : ml 392 = 2 := rfl
theorem ml393 : ml 393 = 2 := rfl
theorem ml394 : ml 394 = 3 := rfl
theorem ml395 : ml 395 = 4 := rfl
theorem ml396 : ml 396 = 2 := rfl
theorem ml397 : ml 397 = 2 := rfl
theorem ml398 : ml 398 = 2 := rfl
theorem ml399 : ml 399 = 6 := rfl
theorem ml400 : ml 400 = 2 := rfl
theorem ml401 : ml 401 = 2 := rfl
theorem ml402 : ml 402 = 5 := rfl
theorem ml403 : ml 403 = 10 := rfl
theorem ml404 : ml 404 = 6 := rfl
theorem ml405 : ml 405 = 2 := rfl
theorem ml406 : ml 406 = 3 := rfl
theorem ml407 : ml 407 = 4 := rfl
theorem ml408 : ml 408 = 6 := rfl
theorem ml409 : ml 409 = 4 := rfl
theorem ml410 : ml 410 = 4 := rfl
theorem ml411 : ml 411 = 3 := rfl
theorem ml412 : ml 412 = 1 := rfl
theorem ml413 : ml 413 = 12 := rfl
theorem ml414 : ml 414 = 3 := rfl
theorem ml415 : ml 415 = 2 := rfl
theorem ml416 : ml 416 = 4 := rfl
theorem ml417 : ml 417 = 1 := rfl
theorem ml418 : ml 418 = 4 := rfl
theorem ml419 : ml 419 = 4 := rfl
theorem ml420 : ml 420 = 5 := rfl
theorem ml421 : ml 421 = 10 := rfl
theorem ml422 : ml 422 = 4 := rfl
theorem ml423 : ml 423 = 10 := rfl
theorem ml424 : ml 424 = 2 := rfl
theorem ml425 : ml 425 = 3 := rfl
theorem ml426 : ml 426 = 3 := rfl
theorem ml427 : ml 427 = 4 := rfl
theorem ml428 : ml 428 = 6 := rfl
theorem ml429 : ml 429 = 3 := rfl
theorem ml430 : ml 430 = 2 := rfl
theorem ml431 : ml 431 = 4 := rfl
theorem ml432 : ml 432 = 6 := rfl
theorem ml433 : ml 433 = 4 := rfl
theorem ml434 : ml 434 = 6 := rfl
theorem ml435 : ml 435 = 5 := rfl
theorem ml436 : ml 436 = 4 := rfl
theorem ml437 : ml 437 = 2 := rfl
theorem ml438 : ml 438 = 7 := rfl
theorem ml439 : ml 439 = 4 := rfl
theorem ml440 : ml 440 = 9 := rfl
theorem ml441 : ml 441 = 6 := rfl
theorem ml442 : ml 442 = 3 := rfl
theorem ml443 : ml 443 = 2 := rfl
theorem ml444 : ml 444 = 2 := rfl
