/-! THE PURE SIDE, 14b: great negative numbers by name: printed by wip/tools/genneg.py -/
def NV_179 : Int := -179
theorem NV_179_e : NV_179 = -179 := rfl
def NV_307 : Int := -307
theorem NV_307_e : NV_307 = -307 := rfl
def NV_435 : Int := -435
theorem NV_435_e : NV_435 = -435 := rfl
def NV_563 : Int := -563
theorem NV_563_e : NV_563 = -563 := rfl
def NV_691 : Int := -691
theorem NV_691_e : NV_691 = -691 := rfl
def NV_819 : Int := -819
theorem NV_819_e : NV_819 = -819 := rfl
def NV_947 : Int := -947
theorem NV_947_e : NV_947 = -947 := rfl
def NV_1074 : Int := -1074
theorem NV_1074_e : NV_1074 = -1074 := rfl
def NV_1075 : Int := -1075
theorem NV_1075_e : NV_1075 = -1075 := rfl
def NV_1203 : Int := -1203
theorem NV_1203_e : NV_1203 = -1203 := rfl
def NV_1331 : Int := -1331
theorem NV_1331_e : NV_1331 = -1331 := rfl
def NV_1459 : Int := -1459
theorem NV_1459_e : NV_1459 = -1459 := rfl
def NV_1587 : Int := -1587
theorem NV_1587_e : NV_1587 = -1587 := rfl
def NV_1715 : Int := -1715
theorem NV_1715_e : NV_1715 = -1715 := rfl
def NV_1843 : Int := -1843
theorem NV_1843_e : NV_1843 = -1843 := rfl
def NV_1971 : Int := -1971
theorem NV_1971_e : NV_1971 = -1971 := rfl
def NV_2099 : Int := -2099
theorem NV_2099_e : NV_2099 = -2099 := rfl
def NV_2227 : Int := -2227
theorem NV_2227_e : NV_2227 = -2227 := rfl
def NV_2355 : Int := -2355
theorem NV_2355_e : NV_2355 = -2355 := rfl
def NV_2483 : Int := -2483
theorem NV_2483_e : NV_2483 = -2483 := rfl
def NV_2611 : Int := -2611
theorem NV_2611_e : NV_2611 = -2611 := rfl
def NV_2739 : Int := -2739
theorem NV_2739_e : NV_2739 = -2739 := rfl
def NV_2867 : Int := -2867
theorem NV_2867_e : NV_2867 = -2867 := rfl
def NV_2995 : Int := -2995
theorem NV_2995_e : NV_2995 = -2995 := rfl
def NV_3123 : Int := -3123
theorem NV_3123_e : NV_3123 = -3123 := rfl
def NV_3251 : Int := -3251
theorem NV_3251_e : NV_3251 = -3251 := rfl
def NV_3379 : Int := -3379
theorem NV_3379_e : NV_3379 = -3379 := rfl
def NV_3507 : Int := -3507
theorem NV_3507_e : NV_3507 = -3507 := rfl
def NV_3635 : Int := -3635
theorem NV_3635_e : NV_3635 = -3635 := rfl
def NV_3763 : Int := -3763
theorem NV_3763_e : NV_3763 = -3763 := rfl
def NV_3891 : Int := -3891
theorem NV_3891_e : NV_3891 = -3891 := rfl
def NV_4019 : Int := -4019
theorem NV_4019_e : NV_4019 = -4019 := rfl
def NV_4147 : Int := -4147
theorem NV_4147_e : NV_4147 = -4147 := rfl
def NV_4275 : Int := -4275
theorem NV_4275_e : NV_4275 = -4275 := rfl
def NV_4403 : Int := -4403
theorem NV_4403_e : NV_4403 = -4403 := rfl
def NV_4531 : Int := -4531
theorem NV_4531_e : NV_4531 = -4531 := rfl
def NV_4659 : Int := -4659
theorem NV_4659_e : NV_4659 = -4659 := rfl
def NV_4787 : Int := -4787
theorem NV_4787_e : NV_4787 = -4787 := rfl
def NV_4915 : Int := -4915
theorem NV_4915_e : NV_4915 = -4915 := rfl
def NV_5043 : Int := -5043
theorem NV_5043_e : NV_5043 = -5043 := rfl
def NV_5171 : Int := -5171
theorem NV_5171_e : NV_5171 = -5171 := rfl
def NV_5299 : Int := -5299
theorem NV_5299_e : NV_5299 = -5299 := rfl
def NV_5427 : Int := -5427
theorem NV_5427_e : NV_5427 = -5427 := rfl
def NV_5555 : Int := -5555
theorem NV_5555_e : NV_5555 = -5555 := rfl
def NV_5683 : Int := -5683
theorem NV_5683_e : NV_5683 = -5683 := rfl
def NV_5811 : Int := -5811
theorem NV_5811_e : NV_5811 = -5811 := rfl
def NV_5939 : Int := -5939
theorem NV_5939_e : NV_5939 = -5939 := rfl
def NV_6067 : Int := -6067
theorem NV_6067_e : NV_6067 = -6067 := rfl
def NV_100000 : Int := -100000
theorem NV_100000_e : NV_100000 = -100000 := rfl
def NV_1640531535 : Int := -1640531535
theorem NV_1640531535_e : NV_1640531535 = -1640531535 := rfl
def NV_2000000000 : Int := -2000000000
theorem NV_2000000000_e : NV_2000000000 = -2000000000 := rfl
def NV_2000000001 : Int := -2000000001
theorem NV_2000000001_e : NV_2000000001 = -2000000001 := rfl
def NV_2048144777 : Int := -2048144777
theorem NV_2048144777_e : NV_2048144777 = -2048144777 := rfl
def NV_2147483648 : Int := -2147483648
theorem NV_2147483648_e : NV_2147483648 = -2147483648 := rfl
def NV_4503599627370497 : Int := -4503599627370497
theorem NV_4503599627370497_e : NV_4503599627370497 = -4503599627370497 := rfl
def NV_9223372036854775808 : Int := -9223372036854775808
theorem NV_9223372036854775808_e : NV_9223372036854775808 = -9223372036854775808 := rfl
theorem n25_1 : blk 25 1 = [.iload 2, .iconst 2400, .if_icmp .ge 12, .aload 0, .invokeinterface 10520 1, .ifCond .eq 12, .aload 0, .ifnonnull 2051, .invokeinterface 11024 1, .ifCond .eq 12, .aload 0, .ifnonnull 2051, .jsr NV_179, .invokeinterface 11536 2, .istore 3, .aload 0, .ifnonnull 2051, .iload 3, .ifCond .lt 2, .iconst 1, .goto 3] := rfl
theorem n52_0 : blk 52 0 = [.aload 0, .ifnonnull 2051, .invokeinterface 11024 1, .iconst 1, .if_icmp .ne 1, .aload 0, .ifnonnull 2051, .jsr NV_179, .invokeinterface 11536 2, .ifCond .ge 1, .aload 0, .ifnonnull 2051, .jsr NV_307, .invokeinterface 11536 2, .ifCond .ge 1, .aload 0, .ifnonnull 2051, .jsr NV_435, .invokeinterface 11536 2, .ifCond .ge 1, .aload 0, .ifnonnull 2051, .jsr NV_563, .invokeinterface 11536 2, .ifCond .ge 1, .aload 0, .ifnonnull 2051, .jsr NV_691, .invokeinterface 11536 2, .ifCond .ge 1, .aload 0, .ifnonnull 2051, .jsr NV_819, .invokeinterface 11536 2, .ifCond .ge 1, .iconst 1, .goto 2] := rfl
theorem n63_0 : blk 63 0 = [.aload 0, .iconst 2, .invokeinterface 13080 2, .istore 1, .aload 0, .ifnonnull 2051, .jsr NV_307, .invokeinterface 11536 2, .istore 2, .aload 0, .ifnonnull 2051, .iload 2, .ifCond .lt 1, .iconst 1, .goto 2] := rfl
theorem n80_1 : blk 80 1 = [.aload 0, .ifnull 2059, .iconst 1, .invokeinterface 21084 2, .aload 0, .ifnonnull 2051, .jsr NV_435, .invokeinterface 11536 2, .istore 2, .iload 2, .ifCond .ge 2, .aload 0, .iload 1, .invokeinterface 21276 2, .return_] := rfl
theorem n86_1 : blk 86 1 = [.aload 0, .dup, .ifnull 2136, .iconst 1, .iadd, .jsr_w 2136, .aload 0, .iload 1, .invokeinterface 22300 2, .aload 0, .ifnonnull 2051, .jsr NV_947, .invokeinterface 28432 2, .istore 2, .iload 2, .ifCond .lt 2, .aload 0, .ifnonnull 2051, .aload 0, .invokeinterface 23064 1, .invokeinterface 7188 2, .aload 0, .iload 1, .invokeinterface 22300 2, .aload 0, .iconst 9, .iload 2, .invokeinterface 23836 3, .goto 2] := rfl
theorem n87_1 : blk 87 1 = [.iload 2, .iconst 30, .if_icmp .ge 2, .aload 0, .ifnonnull 2051, .jsr NV_1075, .invokeinterface 28432 2, .ifCond .lt 2, .iconst 0, .aload 0, .ifnonnull 2051, .jsr NV_1075, .invokeinterface 28432 2, .iadd, .istore 3, .aload 0, .ifnonnull 2051, .aload 0, .invokeinterface 23064 1, .invokeinterface 7188 2, .aload 0, .iload 1, .invokeinterface 22556 2, .aload 0, .iconst 8, .iload 3, .invokeinterface 23836 3, .iinc 2 1, .goto 1] := rfl
theorem n88_1 : blk 88 1 = [.iload 2, .iconst 30, .if_icmp .ge 2, .aload 0, .ifnonnull 2051, .jsr NV_1203, .invokeinterface 28432 2, .ifCond .lt 2, .iconst 2, .aload 0, .ifnonnull 2051, .jsr NV_1203, .invokeinterface 28432 2, .iadd, .istore 3, .aload 0, .ifnonnull 2051, .aload 0, .invokeinterface 23064 1, .invokeinterface 7188 2, .aload 0, .iload 1, .invokeinterface 22812 2, .aload 0, .iconst 8, .iload 3, .invokeinterface 23836 3, .iinc 2 1, .goto 1] := rfl
theorem n91_2 : blk 91 2 = [.aload 0, .ifnonnull 2051, .invokeinterface 11024 1, .istore 2, .aload 0, .ifnonnull 2051, .jsr NV_691, .invokeinterface 11536 2, .istore 3, .iload 2, .iconst 2, .if_icmp .ne 3, .aload 0, .iconst 3, .aload 0, .ifnonnull 2051, .invokeinterface 15888 1, .invokeinterface 23836 3, .goto 6] := rfl
theorem n91_4 : blk 91 4 = [.aload 0, .ifnonnull 2051, .jsr NV_1331, .invokeinterface 11536 2, .ifCond .ne 5, .aload 0, .ifnull 2059, .iconst 2, .invokeinterface 21084 2, .goto 6] := rfl
theorem n97_0 : blk 97 0 = [.lload 0, .bipush NV_9223372036854775808, .land, .lload 0, .swap, .iconst 0, .invokeinterface 25089 3, .lreturn] := rfl
theorem n98_1 : blk 98 1 = [.lload 2, .invokeinterface 25344 1, .iconst 53, .isub, .iconst NV_1074, .iload 4, .isub, .dup_x1, .istore 5, .iload 5, .iconst 63, .if_icmp .le 2, .lload 0, .lreturn] := rfl
theorem n98_7 : blk 98 7 = [.iload 4, .iload 5, .iadd, .iconst NV_1074, .isub, .i2l, .iconst 52, .lshl, .lload 6, .ladd, .lstore 8, .lload 0, .lload 8, .bipush 9218868437227405312, .dup2_x2, .lor, .lreturn] := rfl
theorem n100_2 : blk 100 2 = [.lload 0, .lload 2, .lxor, .bipush NV_9223372036854775808, .land, .lstore 4, .lload 0, .invokeinterface 26112 1, .ifCond .eq 5, .lload 2, .invokeinterface 26112 1, .ifCond .eq 3, .bipush 9221120237041090560, .goto 4] := rfl
theorem n106_0 : blk 106 0 = [.lload 0, .iconst 52, .lushr, .bipush 2047, .land, .l2i, .iconst 1, .dup_x1, .iconst 1, .isub, .iconst NV_1074, .iadd, .ireturn] := rfl
theorem n112_0 : blk 112 0 = [.aload 0, .iload 1, .invokeinterface 22044 2, .aload 0, .iconst 16, .invokeinterface 28952 2, .istore 2, .aload 0, .iload 1, .invokeinterface 19996 2, .aload 0, .ifnonnull 2051, .jsr NV_1459, .invokeinterface 11536 2, .ifCond .ne 1, .aload 0, .ifnonnull 2051, .iconst 1, .invokeinterface 7188 2, .aload 0, .iconst 15, .invokeinterface 28952 2, .istore 3, .aload 0, .iload 2, .invokeinterface 29468 2, .aload 0, .iload 1, .invokeinterface 19996 2, .aload 0, .iload 3, .invokeinterface 29468 2, .goto 2] := rfl
theorem n117_0 : blk 117 0 = [.aload 0, .ifnonnull 2051, .invokeinterface 13585 1, .lstore 2, .aload 0, .ifnonnull 2051, .aload 0, .invokeinterface 13336 1, .invokeinterface 7188 2, .aload 0, .lload 2, .invokeinterface 19224 2, .istore 4, .aload 0, .ifnonnull 2051, .aload 0, .ifnonnull 2051, .jsr NV_1587, .invokeinterface 11536 2, .ifCond .ne 1, .iconst 1, .goto 2] := rfl
theorem n118_1 : blk 118 1 = [.iload 4, .iconst 7, .if_icmp .gt 2, .aload 0, .ifnonnull 2051, .jsr NV_1715, .invokeinterface 11536 2, .ifCond .ne 2, .aload 0, .ifnonnull 2051, .iconst 1, .invokeinterface 7188 2, .aload 0, .iload 3, .invokeinterface 30488 2, .istore 5, .iload 3, .iconst 1, .iload 5, .ishl, .ior, .istore 3, .aload 0, .iconst 22, .iload 5, .invokeinterface 23836 3, .aload 0, .invokeinterface 29208 1, .istore 6, .aload 0, .iload 1, .invokeinterface 19996 2, .aload 0, .ifnull 2059, .iconst 23, .invokeinterface 21084 2, .aload 0, .iload 6, .invokeinterface 29468 2, .iinc 4 1, .goto 1] := rfl
theorem n118_2 : blk 118 2 = [.aload 0, .ifnonnull 2051, .jsr NV_1843, .invokeinterface 11536 2, .ifCond .ne 3, .aload 0, .ifnonnull 2051, .iconst 1, .invokeinterface 7188 2, .aload 0, .iload 1, .invokeinterface 19996 2, .goto 3] := rfl
theorem n119_0 : blk 119 0 = [.aload 0, .ifnonnull 2051, .jsr NV_563, .invokeinterface 11536 2, .iconst 1, .iadd, .istore 2, .aload 0, .ifnonnull 2051, .iload 2, .ifCond .le 1, .iload 1, .iload 2, .ishr, .iconst 1, .iand, .ifCond .ne 1, .iconst 1, .goto 2] := rfl
theorem n163_0 : blk 163 0 = [.aload 0, .iload 1, .iload 2, .invokeinterface 38920 3, .ifCond .ne 1, .iconst NV_2000000000, .ireturn] := rfl
theorem n163_1 : blk 163 1 = [.aload 0, .ifnonnull 27, .iload 1, .iload 2, .invokeinterface 40488 3, .istore 4, .iload 3, .iconst (-1), .if_icmp .ne 4, .iload 4, .ifCond .ge 2, .iconst NV_2000000001, .goto 3] := rfl
theorem n163_5 : blk 163 5 = [.iconst NV_2000000001, .goto 6] := rfl
theorem n201_10 : blk 201 10 = [.ladd, .lstore 9, .lload 9, .bipush 0, .lcmp, .ifCond .ne 11, .lload 0, .lload 2, .land, .bipush NV_9223372036854775808, .land, .lreturn] := rfl
theorem n201_11 : blk 201 11 = [.lload 9, .bipush NV_9223372036854775808, .land, .lload 9, .swap, .iload 4, .iconst 8, .isub, .invokeinterface 25089 3, .lreturn] := rfl
theorem n203_1 : blk 203 1 = [.lload 0, .bipush NV_9223372036854775808, .lxor, .goto 2] := rfl
theorem n204_2 : blk 204 2 = [.lload 0, .lload 2, .lxor, .bipush NV_9223372036854775808, .land, .lstore 4, .lload 0, .invokeinterface 26112 1, .ifCond .ne 3, .lload 2, .invokeinterface 26112 1, .ifCond .eq 7, .goto 3] := rfl
theorem n205_8 : blk 205 8 = [.lload 0, .bipush NV_9223372036854775808, .land, .lload 7, .lload 2, .invokeinterface 27136 1, .lload 2, .invokeinterface 26880 1, .isub, .invokeinterface 25089 3, .lreturn] := rfl
theorem n208_0 : blk 208 0 = [.lload 0, .bipush 0, .lcmp, .ifCond .ge 1, .bipush NV_9223372036854775808, .lload 0, .lsub, .goto 2] := rfl
theorem n226_4 : blk 226 4 = [.lstore 3, .lload 0, .bipush 0, .lcmp, .ifCond .ge 5, .lload 3, .lneg, .bipush NV_2147483648, .dup2_x1, .goto 6] := rfl
theorem n264_3 : blk 264 3 = [.iconst NV_100000, .goto 4] := rfl
theorem n264_6 : blk 264 6 = [.iconst NV_100000, .goto 7] := rfl
theorem n278_0 : blk 278 0 = [.iload 0, .iconst 16, .iload 1, .imul, .iload 2, .iadd, .iconst NV_1640531535, .imul, .ixor, .istore 3, .iload 3, .iload 3, .iconst 15, .iushr, .ixor, .iconst NV_2048144777, .imul, .istore 3, .iload 3, .iload 3, .iconst 13, .iushr, .ixor, .ireturn] := rfl
theorem n317_0 : blk 317 0 = [.aload 0, .monitorexit, .aload 0, .iconst 2400, .newarray .byte, .if_acmp .eq 11267, .aload 0, .goto_w 1561, .dup, .invokeinterface 81516 1, .jsr_w 11339, .aload 0, .goto_w 1561, .dup, .invokeinterface 81516 1, .jsr_w 11347, .aload 0, .iconst 38, .anewarray 38, .dup, .iconst 0, .jsr NV_1971, .aastore, .dup, .iconst 1, .jsr NV_2099, .aastore, .dup, .iconst 2, .jsr NV_2227, .aastore, .dup, .iconst 3, .jsr NV_2355, .aastore, .dup, .iconst 4, .jsr NV_2483, .aastore, .dup, .iconst 5, .jsr NV_2611, .aastore, .dup, .iconst 6, .jsr NV_2739, .aastore, .dup, .iconst 7, .jsr NV_2867, .aastore, .dup, .iconst 8, .jsr NV_2995, .aastore, .dup, .iconst 9, .jsr NV_3123, .aastore, .dup, .iconst 10, .jsr NV_3251, .aastore, .dup, .iconst 11, .jsr NV_1459, .aastore, .dup, .iconst 12, .jsr NV_3379, .aastore, .dup, .iconst 13, .jsr NV_1587, .aastore, .dup, .iconst 14, .jsr NV_3507, .aastore, .dup, .iconst 15, .jsr NV_1715, .aastore, .dup, .iconst 16, .jsr NV_1843, .aastore, .dup, .iconst 17, .jsr NV_3635, .aastore, .dup, .iconst 18, .jsr NV_3763, .aastore, .dup, .iconst 19, .jsr NV_3891, .aastore, .dup, .iconst 20, .jsr NV_4019, .aastore, .dup, .iconst 21, .jsr NV_4147, .aastore, .dup, .iconst 22, .jsr NV_4275, .aastore, .dup, .iconst 23, .jsr NV_4403, .aastore, .dup, .iconst 24, .jsr NV_4531, .aastore, .dup, .iconst 25, .jsr NV_4659, .aastore, .dup, .iconst 26, .jsr NV_4787, .aastore, .dup, .iconst 27, .jsr NV_1331, .aastore, .dup, .iconst 28, .jsr NV_4915, .aastore, .dup, .iconst 29, .jsr NV_5043, .aastore, .dup, .iconst 30, .jsr NV_5171, .aastore, .dup, .iconst 31, .jsr NV_5299, .aastore, .dup, .iconst 32, .jsr NV_5427, .aastore, .dup, .iconst 33, .jsr NV_5555, .aastore, .dup, .iconst 34, .jsr NV_5683, .aastore, .dup, .iconst 35, .jsr NV_5811, .aastore, .dup, .iconst 36, .jsr NV_5939, .aastore, .dup, .iconst 37, .jsr NV_6067, .aastore, .if_acmp .eq 11355, .aload 0, .iconst 420, .newarray .long, .if_acmp .eq 11379, .aload 0, .iconst 402, .newarray .long, .if_acmp .eq 11395, .aload 0, .iconst 402, .newarray .int, .if_acmp .eq 11403, .aload 0, .iconst 402, .newarray .int, .if_acmp .eq 11411, .aload 0, .iconst 402, .newarray .long, .if_acmp .eq 11427, .aload 0, .iconst 402, .newarray .int, .if_acmp .eq 11435, .aload 0, .iconst 402, .newarray .int, .if_acmp .eq 11443, .aload 0, .iconst 402, .newarray .int, .if_acmp .eq 11451, .aload 0, .iconst 24, .newarray .int, .if_acmp .eq 11475, .aload 0, .iconst 24, .newarray .int, .if_acmp .eq 11483, .aload 0, .iconst 24, .newarray .int, .if_acmp .eq 11491, .aload 0, .iconst 192, .newarray .int, .if_acmp .eq 11499, .aload 0, .iconst 6000, .newarray .int, .if_acmp .eq 11515, .aload 0, .iconst 6000, .newarray .int, .if_acmp .eq 11523, .aload 0, .iconst 384000, .newarray .long, .if_acmp .eq 11531, .aload 0, .iconst 600, .newarray .int, .if_acmp .eq 11539, .aload 0, .iconst 600, .newarray .long, .if_acmp .eq 11547, .aload 0, .iconst 3360, .newarray .int, .if_acmp .eq 11563, .aload 0, .iconst 3360, .newarray .long, .if_acmp .eq 11571, .aload 0, .iconst 3216, .newarray .int, .if_acmp .eq 11579, .aload 0, .iconst 3216, .newarray .int, .if_acmp .eq 11587, .aload 0, .iconst 8, .newarray .int, .if_acmp .eq 11603, .aload 0, .iconst 8, .newarray .int, .if_acmp .eq 11611, .aload 0, .iconst 4000, .newarray .int, .if_acmp .eq 11627, .aload 0, .iconst 4000, .newarray .int, .if_acmp .eq 11635, .aload 0, .iconst 4000, .newarray .int, .if_acmp .eq 11643, .aload 0, .iconst 4000, .newarray .int, .if_acmp .eq 11651, .aload 0, .iconst 4000, .newarray .int, .if_acmp .eq 11659, .aload 0, .iconst 4000, .newarray .int, .if_acmp .eq 11667, .aload 0, .iconst 4000, .newarray .long, .if_acmp .eq 11675, .aload 0, .iconst 64, .newarray .long, .if_acmp .eq 11747, .aload 0, .iconst (-9), .jsr_w 11752, .aload 0, .iconst 24, .newarray .int, .if_acmp .eq 11763, .aload 0, .iconst 24, .newarray .int, .if_acmp .eq 11771, .aload 0, .iconst 24, .newarray .double, .if_acmp .eq 11779, .aload 0, .iconst 4, .jsr_w 11784, .aload 0, .iconst 10, .newarray .int, .if_acmp .eq 11795, .aload 0, .iconst 10, .newarray .int, .if_acmp .eq 11803, .aload 0, .iconst 240, .newarray .int, .if_acmp .eq 11811, .aload 0, .iconst 36, .newarray .int, .if_acmp .eq 11859, .aload 0, .iconst 36, .newarray .int, .if_acmp .eq 11867, .aload 0, .iconst 36, .newarray .int, .if_acmp .eq 11875, .aload 0, .iconst 36, .newarray .int, .if_acmp .eq 11883, .aload 0, .iconst 36, .newarray .int, .if_acmp .eq 11891, .aload 0, .iconst 36, .newarray .int, .if_acmp .eq 11899, .aload 0, .iconst 37, .newarray .int, .if_acmp .eq 11907, .aload 0, .iconst 37, .newarray .int, .if_acmp .eq 11915, .aload 0, .iconst 24, .newarray .int, .if_acmp .eq 11923, .aload 0, .iconst 192, .newarray .int, .if_acmp .eq 11931, .aload 0, .iconst 192, .newarray .int, .if_acmp .eq 11939, .aload 0, .iconst 24, .newarray .int, .if_acmp .eq 11947, .aload 0, .iconst 24, .newarray .int, .if_acmp .eq 11963, .aload 0, .iconst 24, .newarray .boolean, .if_acmp .eq 11971, .aload 0, .iconst 24, .newarray .boolean, .if_acmp .eq 11979, .aload 0, .iconst 8, .newarray .int, .if_acmp .eq 11987, .aload 0, .iconst 36, .newarray .int, .if_acmp .eq 11995, .aload 0, .iconst 36, .newarray .int, .if_acmp .eq 12003, .aload 0, .iconst 7168, .newarray .int, .if_acmp .eq 12019, .return_] := rfl
theorem n326_0 : blk 326 0 = [.aload 0, .jsr NV_1971, .invokeinterface 83808 2, .ifCond .eq 1, .aload 0, .invokeinterface 82276 1, .aload 0, .iconst 0, .iconst 12, .invokeinterface 84064 3, .pop, .aload 0, .iconst 59, .invokeinterface 85348 2, .goto 8] := rfl
theorem n326_1 : blk 326 1 = [.aload 0, .jsr NV_2099, .invokeinterface 83808 2, .ifCond .eq 2, .aload 0, .invokeinterface 82276 1, .aload 0, .iconst 1, .iconst 6, .invokeinterface 84064 3, .istore 1, .aload 0, .ifnull 11339, .ifnonnull 12307, .iload 1, .aload 0, .iconst 1, .iconst 99, .invokeinterface 85856 3, .iastore, .aload 0, .iconst 59, .invokeinterface 85348 2, .goto 8] := rfl
theorem n326_2 : blk 326 2 = [.aload 0, .jsr NV_2227, .invokeinterface 83808 2, .ifCond .eq 3, .aload 0, .invokeinterface 86116 1, .goto 8] := rfl
theorem n326_3 : blk 326 3 = [.aload 0, .jsr NV_2355, .invokeinterface 83808 2, .ifCond .eq 4, .aload 0, .invokeinterface 82276 1, .aload 0, .iconst 3, .iconst 8, .invokeinterface 84064 3, .istore 1, .aload 0, .ifnull 11339, .ifnonnull 12331, .iload 1, .aload 0, .iconst 1, .iconst 99, .invokeinterface 85856 3, .iastore, .aload 0, .iconst 59, .invokeinterface 85348 2, .goto 8] := rfl
theorem n326_4 : blk 326 4 = [.aload 0, .jsr NV_2483, .invokeinterface 83808 2, .ifCond .eq 5, .aload 0, .invokeinterface 86372 1, .goto 8] := rfl
theorem n326_5 : blk 326 5 = [.aload 0, .jsr NV_2611, .invokeinterface 83808 2, .ifCond .eq 6, .aload 0, .invokeinterface 82276 1, .aload 0, .iconst 5, .iconst 8, .invokeinterface 84064 3, .istore 1, .aload 0, .ifnull 11339, .ifnonnull 12371, .iload 1, .aload 0, .iconst 1, .iconst 99, .invokeinterface 85856 3, .iastore, .aload 0, .iconst 59, .invokeinterface 85348 2, .goto 8] := rfl
theorem n326_6 : blk 326 6 = [.aload 0, .jsr NV_2739, .invokeinterface 83808 2, .ifCond .eq 7, .aload 0, .invokeinterface 86884 1, .goto 8] := rfl
theorem n336_0 : blk 336 0 = [.aload 0, .invokeinterface 82276 1, .aload 0, .iconst 2, .iconst 10, .invokeinterface 84064 3, .istore 1, .aload 0, .ifnull 11339, .ifnonnull 12315, .iload 1, .aload 0, .jsr NV_2867, .invokeinterface 83808 2, .ifCond .eq 1, .iconst 2, .goto 3] := rfl
theorem n336_1 : blk 336 1 = [.aload 0, .jsr NV_2995, .invokeinterface 83808 2, .ifCond .eq 2, .iconst 3, .goto 3] := rfl
theorem n336_3 : blk 336 3 = [.iastore, .aload 0, .invokeinterface 83296 1, .ifCond .eq 4, .aload 0, .ifnull 11339, .ifnonnull 12315, .iload 1, .iaload, .iconst 4, .if_icmp .ne 4, .aload 0, .jsr NV_3123, .invokeinterface 83808 2, .ifCond .ne 4, .aload 0, .invokeinterface 85092 1, .goto 4] := rfl
theorem n345_0 : blk 345 0 = [.aload 0, .invokeinterface 84320 1, .ifCond .ne 1, .aload 0, .jsr NV_3251, .invokeinterface 83808 2, .ifCond .ne 1, .aload 0, .jsr NV_3379, .invokeinterface 83808 2, .ifCond .ne 1, .aload 0, .jsr NV_3507, .invokeinterface 83808 2, .ifCond .ne 1, .aload 0, .jsr NV_3635, .invokeinterface 83808 2, .ifCond .ne 1, .aload 0, .jsr NV_3763, .invokeinterface 83808 2, .ifCond .ne 1, .aload 0, .jsr NV_3891, .invokeinterface 83808 2, .ifCond .ne 1, .aload 0, .invokeinterface 85092 1, .goto 1] := rfl
theorem n345_2 : blk 345 2 = [.aload 0, .iconst 0, .iconst 0, .iconst 0, .invokeinterface 88928 4, .pop, .aload 0, .jsr NV_3251, .invokeinterface 83808 2, .ifCond .eq 3, .aload 0, .invokeinterface 89188 1, .goto 13] := rfl
theorem n345_3 : blk 345 3 = [.aload 0, .jsr NV_3379, .invokeinterface 83808 2, .ifCond .eq 4, .aload 0, .invokeinterface 92260 1, .goto 13] := rfl
theorem n345_4 : blk 345 4 = [.aload 0, .jsr NV_3507, .invokeinterface 83808 2, .ifCond .eq 5, .aload 0, .invokeinterface 92772 1, .goto 13] := rfl
theorem n345_5 : blk 345 5 = [.aload 0, .jsr NV_3635, .invokeinterface 83808 2, .ifCond .eq 8, .aload 0, .invokeinterface 82276 1, .aload 0, .invokeinterface 93024 1, .istore 1, .iload 1, .iconst (-9), .if_icmp .ne 6, .aload 0, .invokeinterface 85092 1, .goto 7] := rfl
theorem n345_8 : blk 345 8 = [.aload 0, .jsr NV_3763, .invokeinterface 83808 2, .ifCond .eq 9, .aload 0, .invokeinterface 82276 1, .aload 0, .invokeinterface 89444 1, .aload 0, .iconst 59, .invokeinterface 85348 2, .aload 0, .iconst 27, .iconst 0, .iconst 0, .invokeinterface 88928 4, .pop, .goto 13] := rfl
theorem n345_9 : blk 345 9 = [.aload 0, .jsr NV_3891, .invokeinterface 83808 2, .ifCond .eq 12, .aload 0, .invokeinterface 82276 1, .aload 0, .invokeinterface 89444 1, .iconst 0, .istore 1, .goto 10] := rfl
theorem n348_0 : blk 348 0 = [.aload 0, .invokeinterface 82276 1, .aload 0, .invokeinterface 89444 1, .aload 0, .iconst 19, .iconst 0, .iconst 0, .invokeinterface 88928 4, .istore 1, .aload 0, .invokeinterface 87908 1, .aload 0, .invokeinterface 83296 1, .ifCond .eq 1, .aload 0, .jsr NV_1459, .invokeinterface 83808 2, .ifCond .eq 1, .aload 0, .invokeinterface 82276 1, .aload 0, .iconst 20, .iconst 0, .iconst 0, .invokeinterface 88928 4, .istore 2, .aload 0, .ifnull 11339, .ifnonnull 12427, .iload 1, .aload 0, .ifnull 11339, .ifnull 12408, .iastore, .aload 0, .invokeinterface 87908 1, .aload 0, .ifnull 11339, .ifnonnull 12427, .iload 2, .aload 0, .ifnull 11339, .ifnull 12408, .iastore, .goto 2] := rfl
theorem n354_3 : blk 354 3 = [.aload 0, .jsr NV_1331, .invokeinterface 83808 2, .ifCond .eq 4, .aload 0, .iconst 1, .invokeinterface 88676 2, .aload 0, .iconst 3, .iconst 0, .iconst 0, .invokeinterface 88928 4, .pop, .aload 0, .invokeinterface 90980 1, .goto 7] := rfl
theorem n359_0 : blk 359 0 = [.aload 0, .jsr NV_4915, .invokeinterface 83808 2, .ifCond .ne 1, .aload 0, .jsr NV_5043, .invokeinterface 83808 2, .ifCond .ne 1, .aload 0, .jsr NV_5171, .invokeinterface 83808 2, .ifCond .ne 1, .aload 0, .jsr NV_5299, .invokeinterface 83808 2, .ifCond .eq 2, .goto 1] := rfl
theorem n359_2 : blk 359 2 = [.aload 0, .jsr NV_4531, .invokeinterface 83808 2, .ifCond .eq 3, .iconst 12, .goto 10] := rfl
theorem n359_3 : blk 359 3 = [.aload 0, .jsr NV_5427, .invokeinterface 83808 2, .ifCond .eq 4, .iconst 13, .goto 10] := rfl
theorem n359_4 : blk 359 4 = [.aload 0, .jsr NV_5555, .invokeinterface 83808 2, .ifCond .eq 5, .iconst 14, .goto 10] := rfl
theorem n359_5 : blk 359 5 = [.aload 0, .jsr NV_5683, .invokeinterface 83808 2, .ifCond .eq 6, .iconst 15, .goto 10] := rfl
theorem n359_6 : blk 359 6 = [.aload 0, .jsr NV_5811, .invokeinterface 83808 2, .ifCond .eq 7, .iconst 16, .goto 10] := rfl
theorem n359_7 : blk 359 7 = [.aload 0, .jsr NV_5939, .invokeinterface 83808 2, .ifCond .eq 8, .iconst 17, .goto 10] := rfl
theorem n359_8 : blk 359 8 = [.aload 0, .jsr NV_6067, .invokeinterface 83808 2, .ifCond .eq 9, .iconst 18, .goto 10] := rfl
theorem n359_11 : blk 359 11 = [.aload 0, .jsr NV_4915, .invokeinterface 83808 2, .ifCond .eq 12, .iconst 4, .goto 15] := rfl
theorem n359_12 : blk 359 12 = [.aload 0, .jsr NV_5043, .invokeinterface 83808 2, .ifCond .eq 13, .iconst 5, .goto 15] := rfl
theorem n359_13 : blk 359 13 = [.aload 0, .jsr NV_5171, .invokeinterface 83808 2, .ifCond .eq 14, .iconst 6, .goto 15] := rfl
theorem n360_4 : blk 360 4 = [.aload 0, .jsr NV_1587, .invokeinterface 92516 2, .aload 0, .invokeinterface 89444 1, .aload 0, .ifnull 11339, .ifnull 12456, .istore 2, .aload 0, .ifnull 11339, .dup, .ifnull 12456, .iconst 1, .iadd, .jsr_w 12456, .aload 0, .iconst 21, .iload 2, .iconst 0, .invokeinterface 88928 4, .pop, .aload 0, .iconst 22, .iload 2, .iload 1, .invokeinterface 88928 4, .istore 3, .aload 0, .iconst 20, .iconst 0, .iconst 0, .invokeinterface 88928 4, .pop, .aload 0, .invokeinterface 87908 1, .aload 0, .iconst 20, .iload 3, .iconst 0, .invokeinterface 88928 4, .pop, .aload 0, .ifnull 11339, .ifnonnull 12427, .iload 3, .iconst 1, .iadd, .aload 0, .ifnull 11339, .ifnull 12408, .iastore, .return_] := rfl
theorem n362_3 : blk 362 3 = [.aload 0, .invokeinterface 83296 1, .ifCond .eq 7, .aload 0, .jsr NV_1715, .invokeinterface 83808 2, .ifCond .eq 7, .aload 0, .invokeinterface 82276 1, .aload 0, .invokeinterface 93024 1, .istore 2, .iload 2, .iconst (-9), .if_icmp .eq 4, .aload 0, .ifnull 11339, .ifnonnull 12475, .iconst 8, .iload 1, .imul, .iload 2, .iadd, .iaload, .iconst (-9), .if_icmp .eq 5, .goto 4] := rfl
theorem n362_7 : blk 362 7 = [.aload 0, .invokeinterface 83296 1, .ifCond .eq 8, .aload 0, .jsr NV_1843, .invokeinterface 83808 2, .ifCond .eq 8, .aload 0, .invokeinterface 82276 1, .aload 0, .ifnull 11339, .ifnonnull 12483, .iload 1, .aload 0, .ifnull 11339, .ifnull 12408, .iastore, .aload 0, .invokeinterface 87908 1, .aload 0, .iconst 25, .iload 1, .iconst 0, .invokeinterface 88928 4, .pop, .goto 8] := rfl
theorem n363_0 : blk 363 0 = [.aload 0, .jsr NV_4019, .invokeinterface 83808 2, .ifCond .eq 1, .iconst 1, .goto 8] := rfl
theorem n363_1 : blk 363 1 = [.aload 0, .jsr NV_4147, .invokeinterface 83808 2, .ifCond .eq 2, .iconst 2, .goto 8] := rfl
theorem n363_2 : blk 363 2 = [.aload 0, .jsr NV_4275, .invokeinterface 83808 2, .ifCond .eq 3, .iconst 3, .goto 8] := rfl
theorem n363_3 : blk 363 3 = [.aload 0, .jsr NV_4403, .invokeinterface 83808 2, .ifCond .eq 4, .iconst 4, .goto 8] := rfl
theorem n363_4 : blk 363 4 = [.aload 0, .jsr NV_4531, .invokeinterface 83808 2, .ifCond .eq 5, .iconst 5, .goto 8] := rfl
theorem n363_5 : blk 363 5 = [.aload 0, .jsr NV_4659, .invokeinterface 83808 2, .ifCond .eq 6, .iconst 6, .goto 8] := rfl
theorem n363_6 : blk 363 6 = [.aload 0, .jsr NV_4787, .invokeinterface 83808 2, .ifCond .eq 7, .iconst 7, .goto 8] := rfl
theorem n379_1 : blk 379 1 = [.iconst NV_2000000000, .ireturn] := rfl
theorem n379_3 : blk 379 3 = [.iconst NV_2000000001, .ireturn] := rfl
theorem n405_0 : blk 405 0 = [.dload 0, .sipush 9218868437227405311, .dcmp .l, .ifCond .gt 1, .dload 0, .sipush NV_4503599627370497, .dcmp .g, .ifCond .ge 2, .goto 1] := rfl
theorem n406_0 : blk 406 0 = [.aload 0, .iconst 1, .invokeinterface 102496 2, .istore 1, .iload 1, .ifCond .ne 1, .aload 0, .iconst 1, .invokeinterface 98656 2, .iconst 1, .if_icmp .ne 1, .aload 0, .iconst 1, .invokeinterface 100705 2, .bipush NV_2147483648, .lcmp, .ifCond .ne 1, .iconst 7, .istore 1, .goto 1] := rfl
theorem n424_2 : blk 424 2 = [.iconst NV_100000, .goto 3] := rfl
theorem n424_5 : blk 424 5 = [.iconst NV_100000, .goto 6] := rfl
theorem n428_2 : blk 428 2 = [.iload 4, .aload 0, .ifnull 11339, .ifnonnull 12291, .iconst 5, .iaload, .if_icmp .ge 3, .iload 1, .iconst 16, .iload 3, .imul, .iload 4, .iadd, .iconst NV_1640531535, .imul, .ixor, .istore 5, .iload 5, .iload 5, .iconst 15, .iushr, .ixor, .iconst NV_2048144777, .imul, .istore 5, .aload 0, .ifnonnull 11939, .iconst 8, .iload 3, .imul, .iload 4, .iadd, .iload 5, .iload 5, .iconst 13, .iushr, .ixor, .iastore, .iinc 4 1, .goto 2] := rfl
