/-! 08.checka: the numbered instructions checked by the kernel: printed by wip/tools/genchk.py -/
set_option maxRecDepth 100000 in
theorem okB_1 : OKB 1 := OKB.of (by decide +kernel)
set_option maxRecDepth 100000 in
theorem okM_1 : okM 1 = true := by decide +kernel
set_option maxRecDepth 100000 in
theorem okB_2 : OKB 2 := OKB.of (by decide +kernel)
set_option maxRecDepth 100000 in
theorem okM_2 : okM 2 = true := by decide +kernel
set_option maxRecDepth 100000 in
theorem okB_3 : OKB 3 := OKB.of (by decide +kernel)
set_option maxRecDepth 100000 in
theorem okM_3 : okM 3 = true := by decide +kernel
set_option maxRecDepth 100000 in
theorem okB_4 : OKB 4 := OKB.of (by decide +kernel)
set_option maxRecDepth 100000 in
theorem okM_4 : okM 4 = true := by decide +kernel
set_option maxRecDepth 100000 in
theorem okB_5 : OKB 5 := OKB.of (by decide +kernel)
set_option maxRecDepth 100000 in
theorem okM_5 : okM 5 = true := by decide +kernel
set_option maxRecDepth 100000 in
theorem okB_6 : OKB 6 := OKB.of (by decide +kernel)
set_option maxRecDepth 100000 in
theorem okM_6 : okM 6 = true := by decide +kernel
set_option maxRecDepth 100000 in
theorem okB_7 : OKB 7 := OKB.of (by decide +kernel)
set_option maxRecDepth 100000 in
theorem okM_7 : okM 7 = true := by decide +kernel
set_option maxRecDepth 100000 in
theorem okB_8 : OKB 8 := OKB.of (by decide +kernel)
set_option maxRecDepth 100000 in
theorem okM_8 : okM 8 = true := by decide +kernel
set_option maxRecDepth 100000 in
theorem okB_9 : OKB 9 := OKB.of (by decide +kernel)
set_option maxRecDepth 100000 in
theorem okM_9 : okM 9 = true := by decide +kernel
set_option maxRecDepth 100000 in
theorem okB_10 : OKB 10 := OKB.of (by decide +kernel)
set_option maxRecDepth 100000 in
theorem okM_10 : okM 10 = true := by decide +kernel
set_option maxRecDepth 100000 in
theorem okB_11 : OKB 11 := OKB.of (by decide +kernel)
set_option maxRecDepth 100000 in
theorem okM_11 : okM 11 = true := by decide +kernel
set_option maxRecDepth 100000 in
theorem okB_12 : OKB 12 := OKB.of (by decide +kernel)
set_option maxRecDepth 100000 in
theorem okM_12 : okM 12 = true := by decide +kernel
set_option maxRecDepth 100000 in
theorem okB_13 : OKB 13 := OKB.of (by decide +kernel)
set_option maxRecDepth 100000 in
theorem okM_13 : okM 13 = true := by decide +kernel
set_option maxRecDepth 100000 in
theorem okB_14 : OKB 14 := OKB.of (by decide +kernel)
set_option maxRecDepth 100000 in
theorem okM_14 : okM 14 = true := by decide +kernel
set_option maxRecDepth 100000 in
theorem okB_15 : OKB 15 := OKB.of (by decide +kernel)
set_option maxRecDepth 100000 in
theorem okM_15 : okM 15 = true := by decide +kernel
set_option maxRecDepth 100000 in
theorem okB_16 : OKB 16 := OKB.of (by decide +kernel)
set_option maxRecDepth 100000 in
theorem okM_16 : okM 16 = true := by decide +kernel
set_option maxRecDepth 100000 in
theorem okB_17 : OKB 17 := OKB.of (by decide +kernel)
set_option maxRecDepth 100000 in
theorem okM_17 : okM 17 = true := by decide +kernel
set_option maxRecDepth 100000 in
theorem okB_18 : OKB 18 := OKB.of (by decide +kernel)
set_option maxRecDepth 100000 in
theorem okM_18 : okM 18 = true := by decide +kernel
set_option maxRecDepth 100000 in
theorem okB_19 : OKB 19 := OKB.of (by decide +kernel)
set_option maxRecDepth 100000 in
theorem okM_19 : okM 19 = true := by decide +kernel
set_option maxRecDepth 100000 in
theorem okB_20 : OKB 20 := OKB.of (by decide +kernel)
set_option maxRecDepth 100000 in
theorem okM_20 : okM 20 = true := by decide +kernel
set_option maxRecDepth 100000 in
theorem okB_21 : OKB 21 := OKB.of (by decide +kernel)
set_option maxRecDepth 100000 in
theorem okM_21 : okM 21 = true := by decide +kernel
set_option maxRecDepth 100000 in
theorem okB_22 : OKB 22 := OKB.of (by decide +kernel)
set_option maxRecDepth 100000 in
theorem okM_22 : okM 22 = true := by decide +kernel
set_option maxRecDepth 100000 in
theorem okB_23 : OKB 23 := OKB.of (by decide +kernel)
set_option maxRecDepth 100000 in
theorem okM_23 : okM 23 = true := by decide +kernel
set_option maxRecDepth 100000 in
theorem okB_24 : OKB 24 := OKB.of (by decide +kernel)
set_option maxRecDepth 100000 in
theorem okM_24 : okM 24 = true := by decide +kernel
set_option maxRecDepth 100000 in
theorem okB_25 : OKB 25 := OKB.of (by decide +kernel)
set_option maxRecDepth 100000 in
theorem okM_25 : okM 25 = true := by decide +kernel
set_option maxRecDepth 100000 in
theorem okB_26 : OKB 26 := OKB.of (by decide +kernel)
set_option maxRecDepth 100000 in
theorem okM_26 : okM 26 = true := by decide +kernel
set_option maxRecDepth 100000 in
theorem okB_27 : OKB 27 := OKB.of (by decide +kernel)
set_option maxRecDepth 100000 in
theorem okM_27 : okM 27 = true := by decide +kernel
set_option maxRecDepth 100000 in
theorem okB_28 : OKB 28 := OKB.of (by decide +kernel)
set_option maxRecDepth 100000 in
theorem okM_28 : okM 28 = true := by decide +kernel
set_option maxRecDepth 100000 in
theorem okB_29 : OKB 29 := OKB.of (by decide +kernel)
set_option maxRecDepth 100000 in
theorem okM_29 : okM 29 = true := by decide +kernel
set_option maxRecDepth 100000 in
theorem okB_30 : OKB 30 := OKB.of (by decide +kernel)
set_option maxRecDepth 100000 in
theorem okM_30 : okM 30 = true := by decide +kernel
set_option maxRecDepth 100000 in
theorem okB_31 : OKB 31 := OKB.of (by decide +kernel)
set_option maxRecDepth 100000 in
theorem okM_31 : okM 31 = true := by decide +kernel
set_option maxRecDepth 100000 in
theorem okB_33 : OKB 33 := OKB.of (by decide +kernel)
set_option maxRecDepth 100000 in
theorem okM_33 : okM 33 = true := by decide +kernel
set_option maxRecDepth 100000 in
theorem okB_34 : OKB 34 := OKB.of (by decide +kernel)
set_option maxRecDepth 100000 in
theorem okM_34 : okM 34 = true := by decide +kernel
set_option maxRecDepth 100000 in
theorem okB_35 : OKB 35 := OKB.of (by decide +kernel)
set_option maxRecDepth 100000 in
theorem okM_35 : okM 35 = true := by decide +kernel
set_option maxRecDepth 100000 in
theorem okB_36 : OKB 36 := OKB.of (by decide +kernel)
set_option maxRecDepth 100000 in
theorem okM_36 : okM 36 = true := by decide +kernel
set_option maxRecDepth 100000 in
theorem okB_37 : OKB 37 := OKB.of (by decide +kernel)
set_option maxRecDepth 100000 in
theorem okM_37 : okM 37 = true := by decide +kernel
set_option maxRecDepth 100000 in
theorem okB_38 : OKB 38 := OKB.of (by decide +kernel)
set_option maxRecDepth 100000 in
theorem okM_38 : okM 38 = true := by decide +kernel
set_option maxRecDepth 100000 in
theorem okB_39 : OKB 39 := OKB.of (by decide +kernel)
set_option maxRecDepth 100000 in
theorem okM_39 : okM 39 = true := by decide +kernel
set_option maxRecDepth 100000 in
theorem okB_40 : OKB 40 := OKB.of (by decide +kernel)
set_option maxRecDepth 100000 in
theorem okM_40 : okM 40 = true := by decide +kernel
set_option maxRecDepth 100000 in
theorem okB_41 : OKB 41 := OKB.of (by decide +kernel)
set_option maxRecDepth 100000 in
theorem okM_41 : okM 41 = true := by decide +kernel
set_option maxRecDepth 100000 in
theorem okB_42 : OKB 42 := OKB.of (by decide +kernel)
set_option maxRecDepth 100000 in
theorem okM_42 : okM 42 = true := by decide +kernel
set_option maxRecDepth 100000 in
theorem okB_43 : OKB 43 := OKB.of (by decide +kernel)
set_option maxRecDepth 100000 in
theorem okM_43 : okM 43 = true := by decide +kernel
set_option maxRecDepth 100000 in
theorem okB_44 : OKB 44 := OKB.of (by decide +kernel)
set_option maxRecDepth 100000 in
theorem okM_44 : okM 44 = true := by decide +kernel
set_option maxRecDepth 100000 in
theorem okB_45 : OKB 45 := OKB.of (by decide +kernel)
set_option maxRecDepth 100000 in
theorem okM_45 : okM 45 = true := by decide +kernel
set_option maxRecDepth 100000 in
theorem okB_46 : OKB 46 := OKB.of (by decide +kernel)
set_option maxRecDepth 100000 in
theorem okM_46 : okM 46 = true := by decide +kernel
set_option maxRecDepth 100000 in
theorem okB_47 : OKB 47 := OKB.of (by decide +kernel)
set_option maxRecDepth 100000 in
theorem okM_47 : okM 47 = true := by decide +kernel
set_option maxRecDepth 100000 in
theorem okB_48 : OKB 48 := OKB.of (by decide +kernel)
set_option maxRecDepth 100000 in
theorem okM_48 : okM 48 = true := by decide +kernel
set_option maxRecDepth 100000 in
theorem okB_49 : OKB 49 := OKB.of (by decide +kernel)
set_option maxRecDepth 100000 in
theorem okM_49 : okM 49 = true := by decide +kernel
set_option maxRecDepth 100000 in
theorem okB_50 : OKB 50 := OKB.of (by decide +kernel)
set_option maxRecDepth 100000 in
theorem okM_50 : okM 50 = true := by decide +kernel
set_option maxRecDepth 100000 in
theorem okB_51 : OKB 51 := OKB.of (by decide +kernel)
set_option maxRecDepth 100000 in
theorem okM_51 : okM 51 = true := by decide +kernel
set_option maxRecDepth 100000 in
theorem okB_52 : OKB 52 := OKB.of (by decide +kernel)
set_option maxRecDepth 100000 in
theorem okM_52 : okM 52 = true := by decide +kernel
set_option maxRecDepth 100000 in
theorem okB_53 : OKB 53 := OKB.of (by decide +kernel)
set_option maxRecDepth 100000 in
theorem okM_53 : okM 53 = true := by decide +kernel
set_option maxRecDepth 100000 in
theorem okB_54 : OKB 54 := OKB.of (by decide +kernel)
set_option maxRecDepth 100000 in
theorem okM_54 : okM 54 = true := by decide +kernel
set_option maxRecDepth 100000 in
theorem okB_55 : OKB 55 := OKB.of (by decide +kernel)
set_option maxRecDepth 100000 in
theorem okM_55 : okM 55 = true := by decide +kernel
set_option maxRecDepth 100000 in
theorem okB_56 : OKB 56 := OKB.of (by decide +kernel)
set_option maxRecDepth 100000 in
theorem okM_56 : okM 56 = true := by decide +kernel
set_option maxRecDepth 100000 in
theorem okB_57 : OKB 57 := OKB.of (by decide +kernel)
set_option maxRecDepth 100000 in
theorem okM_57 : okM 57 = true := by decide +kernel
set_option maxRecDepth 100000 in
theorem okB_58 : OKB 58 := OKB.of (by decide +kernel)
set_option maxRecDepth 100000 in
theorem okM_58 : okM 58 = true := by decide +kernel
set_option maxRecDepth 100000 in
theorem okB_59 : OKB 59 := OKB.of (by decide +kernel)
set_option maxRecDepth 100000 in
theorem okM_59 : okM 59 = true := by decide +kernel
set_option maxRecDepth 100000 in
theorem okB_60 : OKB 60 := OKB.of (by decide +kernel)
set_option maxRecDepth 100000 in
theorem okM_60 : okM 60 = true := by decide +kernel
set_option maxRecDepth 100000 in
theorem okB_61 : OKB 61 := OKB.of (by decide +kernel)
set_option maxRecDepth 100000 in
theorem okM_61 : okM 61 = true := by decide +kernel
set_option maxRecDepth 100000 in
theorem okB_62 : OKB 62 := OKB.of (by decide +kernel)
set_option maxRecDepth 100000 in
theorem okM_62 : okM 62 = true := by decide +kernel
set_option maxRecDepth 100000 in
theorem okB_63 : OKB 63 := OKB.of (by decide +kernel)
set_option maxRecDepth 100000 in
theorem okM_63 : okM 63 = true := by decide +kernel
set_option maxRecDepth 100000 in
theorem okB_64 : OKB 64 := OKB.of (by decide +kernel)
set_option maxRecDepth 100000 in
theorem okM_64 : okM 64 = true := by decide +kernel
set_option maxRecDepth 100000 in
theorem okB_65 : OKB 65 := OKB.of (by decide +kernel)
set_option maxRecDepth 100000 in
theorem okM_65 : okM 65 = true := by decide +kernel
set_option maxRecDepth 100000 in
theorem okB_66 : OKB 66 := OKB.of (by decide +kernel)
set_option maxRecDepth 100000 in
theorem okM_66 : okM 66 = true := by decide +kernel
set_option maxRecDepth 100000 in
theorem okB_67 : OKB 67 := OKB.of (by decide +kernel)
set_option maxRecDepth 100000 in
theorem okM_67 : okM 67 = true := by decide +kernel
set_option maxRecDepth 100000 in
theorem okB_68 : OKB 68 := OKB.of (by decide +kernel)
set_option maxRecDepth 100000 in
theorem okM_68 : okM 68 = true := by decide +kernel
set_option maxRecDepth 100000 in
theorem okB_69 : OKB 69 := OKB.of (by decide +kernel)
set_option maxRecDepth 100000 in
theorem okM_69 : okM 69 = true := by decide +kernel
set_option maxRecDepth 100000 in
theorem okB_70 : OKB 70 := OKB.of (by decide +kernel)
set_option maxRecDepth 100000 in
theorem okM_70 : okM 70 = true := by decide +kernel
set_option maxRecDepth 100000 in
theorem okB_71 : OKB 71 := OKB.of (by decide +kernel)
set_option maxRecDepth 100000 in
theorem okM_71 : okM 71 = true := by decide +kernel
set_option maxRecDepth 100000 in
theorem okB_72 : OKB 72 := OKB.of (by decide +kernel)
set_option maxRecDepth 100000 in
theorem okM_72 : okM 72 = true := by decide +kernel
set_option maxRecDepth 100000 in
theorem okB_73 : OKB 73 := OKB.of (by decide +kernel)
set_option maxRecDepth 100000 in
theorem okM_73 : okM 73 = true := by decide +kernel
set_option maxRecDepth 100000 in
theorem okB_74 : OKB 74 := OKB.of (by decide +kernel)
set_option maxRecDepth 100000 in
theorem okM_74 : okM 74 = true := by decide +kernel
set_option maxRecDepth 100000 in
theorem okB_75 : OKB 75 := OKB.of (by decide +kernel)
set_option maxRecDepth 100000 in
theorem okM_75 : okM 75 = true := by decide +kernel
set_option maxRecDepth 100000 in
theorem okB_76 : OKB 76 := OKB.of (by decide +kernel)
set_option maxRecDepth 100000 in
theorem okM_76 : okM 76 = true := by decide +kernel
set_option maxRecDepth 100000 in
theorem okB_77 : OKB 77 := OKB.of (by decide +kernel)
set_option maxRecDepth 100000 in
theorem okM_77 : okM 77 = true := by decide +kernel
set_option maxRecDepth 100000 in
theorem okB_78 : OKB 78 := OKB.of (by decide +kernel)
set_option maxRecDepth 100000 in
theorem okM_78 : okM 78 = true := by decide +kernel
set_option maxRecDepth 100000 in
theorem okB_79 : OKB 79 := OKB.of (by decide +kernel)
set_option maxRecDepth 100000 in
theorem okM_79 : okM 79 = true := by decide +kernel
set_option maxRecDepth 100000 in
theorem okB_80 : OKB 80 := OKB.of (by decide +kernel)
set_option maxRecDepth 100000 in
theorem okM_80 : okM 80 = true := by decide +kernel
set_option maxRecDepth 100000 in
theorem okB_81 : OKB 81 := OKB.of (by decide +kernel)
set_option maxRecDepth 100000 in
theorem okM_81 : okM 81 = true := by decide +kernel
set_option maxRecDepth 100000 in
theorem okB_82 : OKB 82 := OKB.of (by decide +kernel)
set_option maxRecDepth 100000 in
theorem okM_82 : okM 82 = true := by decide +kernel
set_option maxRecDepth 100000 in
theorem okB_83 : OKB 83 := OKB.of (by decide +kernel)
set_option maxRecDepth 100000 in
theorem okM_83 : okM 83 = true := by decide +kernel
set_option maxRecDepth 100000 in
theorem okB_84 : OKB 84 := OKB.of (by decide +kernel)
set_option maxRecDepth 100000 in
theorem okM_84 : okM 84 = true := by decide +kernel
set_option maxRecDepth 100000 in
theorem okB_85 : OKB 85 := OKB.of (by decide +kernel)
set_option maxRecDepth 100000 in
theorem okM_85 : okM 85 = true := by decide +kernel
set_option maxRecDepth 100000 in
theorem okB_86 : OKB 86 := OKB.of (by decide +kernel)
set_option maxRecDepth 100000 in
theorem okM_86 : okM 86 = true := by decide +kernel
set_option maxRecDepth 100000 in
theorem okB_87 : OKB 87 := OKB.of (by decide +kernel)
set_option maxRecDepth 100000 in
theorem okM_87 : okM 87 = true := by decide +kernel
set_option maxRecDepth 100000 in
theorem okB_88 : OKB 88 := OKB.of (by decide +kernel)
set_option maxRecDepth 100000 in
theorem okM_88 : okM 88 = true := by decide +kernel
set_option maxRecDepth 100000 in
theorem okB_89 : OKB 89 := OKB.of (by decide +kernel)
set_option maxRecDepth 100000 in
theorem okM_89 : okM 89 = true := by decide +kernel
set_option maxRecDepth 100000 in
theorem okB_90 : OKB 90 := OKB.of (by decide +kernel)
set_option maxRecDepth 100000 in
theorem okM_90 : okM 90 = true := by decide +kernel
set_option maxRecDepth 100000 in
theorem okB_91 : OKB 91 := OKB.of (by decide +kernel)
set_option maxRecDepth 100000 in
theorem okM_91 : okM 91 = true := by decide +kernel
set_option maxRecDepth 100000 in
theorem okB_92 : OKB 92 := OKB.of (by decide +kernel)
set_option maxRecDepth 100000 in
theorem okM_92 : okM 92 = true := by decide +kernel
set_option maxRecDepth 100000 in
theorem okB_93 : OKB 93 := OKB.of (by decide +kernel)
set_option maxRecDepth 100000 in
theorem okM_93 : okM 93 = true := by decide +kernel
set_option maxRecDepth 100000 in
theorem okB_94 : OKB 94 := OKB.of (by decide +kernel)
set_option maxRecDepth 100000 in
theorem okM_94 : okM 94 = true := by decide +kernel
set_option maxRecDepth 100000 in
theorem okB_95 : OKB 95 := OKB.of (by decide +kernel)
set_option maxRecDepth 100000 in
theorem okM_95 : okM 95 = true := by decide +kernel
set_option maxRecDepth 100000 in
theorem okB_96 : OKB 96 := OKB.of (by decide +kernel)
set_option maxRecDepth 100000 in
theorem okM_96 : okM 96 = true := by decide +kernel
set_option maxRecDepth 100000 in
theorem okB_97 : OKB 97 := OKB.of (by decide +kernel)
set_option maxRecDepth 100000 in
theorem okM_97 : okM 97 = true := by decide +kernel
set_option maxRecDepth 100000 in
theorem okB_98 : OKB 98 := OKB.of (by decide +kernel)
set_option maxRecDepth 100000 in
theorem okM_98 : okM 98 = true := by decide +kernel
set_option maxRecDepth 100000 in
theorem okB_99 : OKB 99 := OKB.of (by decide +kernel)
set_option maxRecDepth 100000 in
theorem okM_99 : okM 99 = true := by decide +kernel
set_option maxRecDepth 100000 in
theorem okB_100 : OKB 100 := OKB.of (by decide +kernel)
set_option maxRecDepth 100000 in
theorem okM_100 : okM 100 = true := by decide +kernel
set_option maxRecDepth 100000 in
theorem okB_101 : OKB 101 := OKB.of (by decide +kernel)
set_option maxRecDepth 100000 in
theorem okM_101 : okM 101 = true := by decide +kernel
set_option maxRecDepth 100000 in
theorem okB_102 : OKB 102 := OKB.of (by decide +kernel)
set_option maxRecDepth 100000 in
theorem okM_102 : okM 102 = true := by decide +kernel
set_option maxRecDepth 100000 in
theorem okB_103 : OKB 103 := OKB.of (by decide +kernel)
set_option maxRecDepth 100000 in
theorem okM_103 : okM 103 = true := by decide +kernel
set_option maxRecDepth 100000 in
theorem okB_104 : OKB 104 := OKB.of (by decide +kernel)
set_option maxRecDepth 100000 in
theorem okM_104 : okM 104 = true := by decide +kernel
set_option maxRecDepth 100000 in
theorem okB_105 : OKB 105 := OKB.of (by decide +kernel)
set_option maxRecDepth 100000 in
theorem okM_105 : okM 105 = true := by decide +kernel
set_option maxRecDepth 100000 in
theorem okB_106 : OKB 106 := OKB.of (by decide +kernel)
set_option maxRecDepth 100000 in
theorem okM_106 : okM 106 = true := by decide +kernel
set_option maxRecDepth 100000 in
theorem okB_107 : OKB 107 := OKB.of (by decide +kernel)
set_option maxRecDepth 100000 in
theorem okM_107 : okM 107 = true := by decide +kernel
set_option maxRecDepth 100000 in
theorem okB_108 : OKB 108 := OKB.of (by decide +kernel)
set_option maxRecDepth 100000 in
theorem okM_108 : okM 108 = true := by decide +kernel
set_option maxRecDepth 100000 in
theorem okB_109 : OKB 109 := OKB.of (by decide +kernel)
set_option maxRecDepth 100000 in
theorem okM_109 : okM 109 = true := by decide +kernel
set_option maxRecDepth 100000 in
theorem okB_110 : OKB 110 := OKB.of (by decide +kernel)
set_option maxRecDepth 100000 in
theorem okM_110 : okM 110 = true := by decide +kernel
set_option maxRecDepth 100000 in
theorem okB_111 : OKB 111 := OKB.of (by decide +kernel)
set_option maxRecDepth 100000 in
theorem okM_111 : okM 111 = true := by decide +kernel
set_option maxRecDepth 100000 in
theorem okB_112 : OKB 112 := OKB.of (by decide +kernel)
set_option maxRecDepth 100000 in
theorem okM_112 : okM 112 = true := by decide +kernel
set_option maxRecDepth 100000 in
theorem okB_113 : OKB 113 := OKB.of (by decide +kernel)
set_option maxRecDepth 100000 in
theorem okM_113 : okM 113 = true := by decide +kernel
set_option maxRecDepth 100000 in
theorem okB_114 : OKB 114 := OKB.of (by decide +kernel)
set_option maxRecDepth 100000 in
theorem okM_114 : okM 114 = true := by decide +kernel
set_option maxRecDepth 100000 in
theorem okB_115 : OKB 115 := OKB.of (by decide +kernel)
set_option maxRecDepth 100000 in
theorem okM_115 : okM 115 = true := by decide +kernel
set_option maxRecDepth 100000 in
theorem okB_116 : OKB 116 := OKB.of (by decide +kernel)
set_option maxRecDepth 100000 in
theorem okM_116 : okM 116 = true := by decide +kernel
set_option maxRecDepth 100000 in
theorem okB_117 : OKB 117 := OKB.of (by decide +kernel)
set_option maxRecDepth 100000 in
theorem okM_117 : okM 117 = true := by decide +kernel
set_option maxRecDepth 100000 in
theorem okB_118 : OKB 118 := OKB.of (by decide +kernel)
set_option maxRecDepth 100000 in
theorem okM_118 : okM 118 = true := by decide +kernel
set_option maxRecDepth 100000 in
theorem okB_119 : OKB 119 := OKB.of (by decide +kernel)
set_option maxRecDepth 100000 in
theorem okM_119 : okM 119 = true := by decide +kernel
set_option maxRecDepth 100000 in
theorem okB_120 : OKB 120 := OKB.of (by decide +kernel)
set_option maxRecDepth 100000 in
theorem okM_120 : okM 120 = true := by decide +kernel
set_option maxRecDepth 100000 in
theorem okB_121 : OKB 121 := OKB.of (by decide +kernel)
set_option maxRecDepth 100000 in
theorem okM_121 : okM 121 = true := by decide +kernel
set_option maxRecDepth 100000 in
theorem okB_122 : OKB 122 := OKB.of (by decide +kernel)
set_option maxRecDepth 100000 in
theorem okM_122 : okM 122 = true := by decide +kernel
set_option maxRecDepth 100000 in
theorem okB_123 : OKB 123 := OKB.of (by decide +kernel)
set_option maxRecDepth 100000 in
theorem okM_123 : okM 123 = true := by decide +kernel
set_option maxRecDepth 100000 in
theorem okB_124 : OKB 124 := OKB.of (by decide +kernel)
set_option maxRecDepth 100000 in
theorem okM_124 : okM 124 = true := by decide +kernel
set_option maxRecDepth 100000 in
theorem okB_125 : OKB 125 := OKB.of (by decide +kernel)
set_option maxRecDepth 100000 in
theorem okM_125 : okM 125 = true := by decide +kernel
set_option maxRecDepth 100000 in
theorem okB_126 : OKB 126 := OKB.of (by decide +kernel)
set_option maxRecDepth 100000 in
theorem okM_126 : okM 126 = true := by decide +kernel
set_option maxRecDepth 100000 in
theorem okB_127 : OKB 127 := OKB.of (by decide +kernel)
set_option maxRecDepth 100000 in
theorem okM_127 : okM 127 = true := by decide +kernel
set_option maxRecDepth 100000 in
theorem okB_128 : OKB 128 := OKB.of (by decide +kernel)
set_option maxRecDepth 100000 in
theorem okM_128 : okM 128 = true := by decide +kernel
set_option maxRecDepth 100000 in
theorem okB_129 : OKB 129 := OKB.of (by decide +kernel)
set_option maxRecDepth 100000 in
theorem okM_129 : okM 129 = true := by decide +kernel
set_option maxRecDepth 100000 in
theorem okB_130 : OKB 130 := OKB.of (by decide +kernel)
set_option maxRecDepth 100000 in
theorem okM_130 : okM 130 = true := by decide +kernel
set_option maxRecDepth 100000 in
theorem okB_131 : OKB 131 := OKB.of (by decide +kernel)
set_option maxRecDepth 100000 in
theorem okM_131 : okM 131 = true := by decide +kernel
set_option maxRecDepth 100000 in
theorem okB_132 : OKB 132 := OKB.of (by decide +kernel)
set_option maxRecDepth 100000 in
theorem okM_132 : okM 132 = true := by decide +kernel
set_option maxRecDepth 100000 in
theorem okB_133 : OKB 133 := OKB.of (by decide +kernel)
set_option maxRecDepth 100000 in
theorem okM_133 : okM 133 = true := by decide +kernel
set_option maxRecDepth 100000 in
theorem okB_134 : OKB 134 := OKB.of (by decide +kernel)
set_option maxRecDepth 100000 in
theorem okM_134 : okM 134 = true := by decide +kernel
set_option maxRecDepth 100000 in
theorem okB_135 : OKB 135 := OKB.of (by decide +kernel)
set_option maxRecDepth 100000 in
theorem okM_135 : okM 135 = true := by decide +kernel
set_option maxRecDepth 100000 in
theorem okB_136 : OKB 136 := OKB.of (by decide +kernel)
set_option maxRecDepth 100000 in
theorem okM_136 : okM 136 = true := by decide +kernel
set_option maxRecDepth 100000 in
theorem okB_137 : OKB 137 := OKB.of (by decide +kernel)
set_option maxRecDepth 100000 in
theorem okM_137 : okM 137 = true := by decide +kernel
set_option maxRecDepth 100000 in
theorem okB_138 : OKB 138 := OKB.of (by decide +kernel)
set_option maxRecDepth 100000 in
theorem okM_138 : okM 138 = true := by decide +kernel
set_option maxRecDepth 100000 in
theorem okB_139 : OKB 139 := OKB.of (by decide +kernel)
set_option maxRecDepth 100000 in
theorem okM_139 : okM 139 = true := by decide +kernel
set_option maxRecDepth 100000 in
theorem okB_140 : OKB 140 := OKB.of (by decide +kernel)
set_option maxRecDepth 100000 in
theorem okM_140 : okM 140 = true := by decide +kernel
set_option maxRecDepth 100000 in
theorem okB_141 : OKB 141 := OKB.of (by decide +kernel)
set_option maxRecDepth 100000 in
theorem okM_141 : okM 141 = true := by decide +kernel
set_option maxRecDepth 100000 in
theorem okB_142 : OKB 142 := OKB.of (by decide +kernel)
set_option maxRecDepth 100000 in
theorem okM_142 : okM 142 = true := by decide +kernel
set_option maxRecDepth 100000 in
theorem okB_143 : OKB 143 := OKB.of (by decide +kernel)
set_option maxRecDepth 100000 in
theorem okM_143 : okM 143 = true := by decide +kernel
set_option maxRecDepth 100000 in
theorem okB_144 : OKB 144 := OKB.of (by decide +kernel)
set_option maxRecDepth 100000 in
theorem okM_144 : okM 144 = true := by decide +kernel
set_option maxRecDepth 100000 in
theorem okB_145 : OKB 145 := OKB.of (by decide +kernel)
set_option maxRecDepth 100000 in
theorem okM_145 : okM 145 = true := by decide +kernel
set_option maxRecDepth 100000 in
theorem okB_146 : OKB 146 := OKB.of (by decide +kernel)
set_option maxRecDepth 100000 in
theorem okM_146 : okM 146 = true := by decide +kernel
set_option maxRecDepth 100000 in
theorem okB_147 : OKB 147 := OKB.of (by decide +kernel)
set_option maxRecDepth 100000 in
theorem okM_147 : okM 147 = true := by decide +kernel
set_option maxRecDepth 100000 in
theorem okB_148 : OKB 148 := OKB.of (by decide +kernel)
set_option maxRecDepth 100000 in
theorem okM_148 : okM 148 = true := by decide +kernel
set_option maxRecDepth 100000 in
theorem okB_149 : OKB 149 := OKB.of (by decide +kernel)
set_option maxRecDepth 100000 in
theorem okM_149 : okM 149 = true := by decide +kernel
set_option maxRecDepth 100000 in
theorem okB_150 : OKB 150 := OKB.of (by decide +kernel)
set_option maxRecDepth 100000 in
theorem okM_150 : okM 150 = true := by decide +kernel
set_option maxRecDepth 100000 in
theorem okB_151 : OKB 151 := OKB.of (by decide +kernel)
set_option maxRecDepth 100000 in
theorem okM_151 : okM 151 = true := by decide +kernel
set_option maxRecDepth 100000 in
theorem okB_152 : OKB 152 := OKB.of (by decide +kernel)
set_option maxRecDepth 100000 in
theorem okM_152 : okM 152 = true := by decide +kernel
set_option maxRecDepth 100000 in
theorem okB_153 : OKB 153 := OKB.of (by decide +kernel)
set_option maxRecDepth 100000 in
theorem okM_153 : okM 153 = true := by decide +kernel
set_option maxRecDepth 100000 in
theorem okB_154 : OKB 154 := OKB.of (by decide +kernel)
set_option maxRecDepth 100000 in
theorem okM_154 : okM 154 = true := by decide +kernel
set_option maxRecDepth 100000 in
theorem okB_155 : OKB 155 := OKB.of (by decide +kernel)
set_option maxRecDepth 100000 in
theorem okM_155 : okM 155 = true := by decide +kernel
set_option maxRecDepth 100000 in
theorem okB_156 : OKB 156 := OKB.of (by decide +kernel)
set_option maxRecDepth 100000 in
theorem okM_156 : okM 156 = true := by decide +kernel
set_option maxRecDepth 100000 in
theorem okB_157 : OKB 157 := OKB.of (by decide +kernel)
set_option maxRecDepth 100000 in
theorem okM_157 : okM 157 = true := by decide +kernel
set_option maxRecDepth 100000 in
theorem okB_158 : OKB 158 := OKB.of (by decide +kernel)
set_option maxRecDepth 100000 in
theorem okM_158 : okM 158 = true := by decide +kernel
set_option maxRecDepth 100000 in
theorem okB_159 : OKB 159 := OKB.of (by decide +kernel)
set_option maxRecDepth 100000 in
theorem okM_159 : okM 159 = true := by decide +kernel
set_option maxRecDepth 100000 in
theorem okB_160 : OKB 160 := OKB.of (by decide +kernel)
set_option maxRecDepth 100000 in
theorem okM_160 : okM 160 = true := by decide +kernel
set_option maxRecDepth 100000 in
theorem okB_161 : OKB 161 := OKB.of (by decide +kernel)
set_option maxRecDepth 100000 in
theorem okM_161 : okM 161 = true := by decide +kernel
set_option maxRecDepth 100000 in
theorem okB_162 : OKB 162 := OKB.of (by decide +kernel)
set_option maxRecDepth 100000 in
theorem okM_162 : okM 162 = true := by decide +kernel
set_option maxRecDepth 100000 in
theorem okB_163 : OKB 163 := OKB.of (by decide +kernel)
set_option maxRecDepth 100000 in
theorem okM_163 : okM 163 = true := by decide +kernel
set_option maxRecDepth 100000 in
theorem okB_164 : OKB 164 := OKB.of (by decide +kernel)
set_option maxRecDepth 100000 in
theorem okM_164 : okM 164 = true := by decide +kernel
set_option maxRecDepth 100000 in
theorem okB_165 : OKB 165 := OKB.of (by decide +kernel)
set_option maxRecDepth 100000 in
theorem okM_165 : okM 165 = true := by decide +kernel
set_option maxRecDepth 100000 in
theorem okB_166 : OKB 166 := OKB.of (by decide +kernel)
set_option maxRecDepth 100000 in
theorem okM_166 : okM 166 = true := by decide +kernel
set_option maxRecDepth 100000 in
theorem okB_167 : OKB 167 := OKB.of (by decide +kernel)
set_option maxRecDepth 100000 in
theorem okM_167 : okM 167 = true := by decide +kernel
set_option maxRecDepth 100000 in
theorem okB_168 : OKB 168 := OKB.of (by decide +kernel)
set_option maxRecDepth 100000 in
theorem okM_168 : okM 168 = true := by decide +kernel
set_option maxRecDepth 100000 in
theorem okB_169 : OKB 169 := OKB.of (by decide +kernel)
set_option maxRecDepth 100000 in
theorem okM_169 : okM 169 = true := by decide +kernel
set_option maxRecDepth 100000 in
theorem okB_170 : OKB 170 := OKB.of (by decide +kernel)
set_option maxRecDepth 100000 in
theorem okM_170 : okM 170 = true := by decide +kernel
set_option maxRecDepth 100000 in
theorem okB_171 : OKB 171 := OKB.of (by decide +kernel)
set_option maxRecDepth 100000 in
theorem okM_171 : okM 171 = true := by decide +kernel
set_option maxRecDepth 100000 in
theorem okB_172 : OKB 172 := OKB.of (by decide +kernel)
set_option maxRecDepth 100000 in
theorem okM_172 : okM 172 = true := by decide +kernel
set_option maxRecDepth 100000 in
theorem okB_174 : OKB 174 := OKB.of (by decide +kernel)
set_option maxRecDepth 100000 in
theorem okM_174 : okM 174 = true := by decide +kernel
set_option maxRecDepth 100000 in
theorem okB_175 : OKB 175 := OKB.of (by decide +kernel)
set_option maxRecDepth 100000 in
theorem okM_175 : okM 175 = true := by decide +kernel
set_option maxRecDepth 100000 in
theorem okB_176 : OKB 176 := OKB.of (by decide +kernel)
set_option maxRecDepth 100000 in
theorem okM_176 : okM 176 = true := by decide +kernel
set_option maxRecDepth 100000 in
theorem okB_177 : OKB 177 := OKB.of (by decide +kernel)
set_option maxRecDepth 100000 in
theorem okM_177 : okM 177 = true := by decide +kernel
set_option maxRecDepth 100000 in
theorem okB_178 : OKB 178 := OKB.of (by decide +kernel)
set_option maxRecDepth 100000 in
theorem okM_178 : okM 178 = true := by decide +kernel
set_option maxRecDepth 100000 in
theorem okB_179 : OKB 179 := OKB.of (by decide +kernel)
set_option maxRecDepth 100000 in
theorem okM_179 : okM 179 = true := by decide +kernel
set_option maxRecDepth 100000 in
theorem okB_180 : OKB 180 := OKB.of (by decide +kernel)
set_option maxRecDepth 100000 in
theorem okM_180 : okM 180 = true := by decide +kernel
set_option maxRecDepth 100000 in
theorem okB_181 : OKB 181 := OKB.of (by decide +kernel)
set_option maxRecDepth 100000 in
theorem okM_181 : okM 181 = true := by decide +kernel
set_option maxRecDepth 100000 in
theorem okB_182 : OKB 182 := OKB.of (by decide +kernel)
set_option maxRecDepth 100000 in
theorem okM_182 : okM 182 = true := by decide +kernel
set_option maxRecDepth 100000 in
theorem okB_183 : OKB 183 := OKB.of (by decide +kernel)
set_option maxRecDepth 100000 in
theorem okM_183 : okM 183 = true := by decide +kernel
set_option maxRecDepth 100000 in
theorem okB_184 : OKB 184 := OKB.of (by decide +kernel)
set_option maxRecDepth 100000 in
theorem okM_184 : okM 184 = true := by decide +kernel
set_option maxRecDepth 100000 in
theorem okB_185 : OKB 185 := OKB.of (by decide +kernel)
set_option maxRecDepth 100000 in
theorem okM_185 : okM 185 = true := by decide +kernel
set_option maxRecDepth 100000 in
theorem okB_186 : OKB 186 := OKB.of (by decide +kernel)
set_option maxRecDepth 100000 in
theorem okM_186 : okM 186 = true := by decide +kernel
set_option maxRecDepth 100000 in
theorem okB_187 : OKB 187 := OKB.of (by decide +kernel)
set_option maxRecDepth 100000 in
theorem okM_187 : okM 187 = true := by decide +kernel
set_option maxRecDepth 100000 in
theorem okB_188 : OKB 188 := OKB.of (by decide +kernel)
set_option maxRecDepth 100000 in
theorem okM_188 : okM 188 = true := by decide +kernel
set_option maxRecDepth 100000 in
theorem okB_189 : OKB 189 := OKB.of (by decide +kernel)
set_option maxRecDepth 100000 in
theorem okM_189 : okM 189 = true := by decide +kernel
set_option maxRecDepth 100000 in
theorem okB_190 : OKB 190 := OKB.of (by decide +kernel)
set_option maxRecDepth 100000 in
theorem okM_190 : okM 190 = true := by decide +kernel
set_option maxRecDepth 100000 in
theorem okB_191 : OKB 191 := OKB.of (by decide +kernel)
set_option maxRecDepth 100000 in
theorem okM_191 : okM 191 = true := by decide +kernel
set_option maxRecDepth 100000 in
theorem okB_192 : OKB 192 := OKB.of (by decide +kernel)
set_option maxRecDepth 100000 in
theorem okM_192 : okM 192 = true := by decide +kernel
set_option maxRecDepth 100000 in
theorem okB_193 : OKB 193 := OKB.of (by decide +kernel)
set_option maxRecDepth 100000 in
theorem okM_193 : okM 193 = true := by decide +kernel
set_option maxRecDepth 100000 in
theorem okB_194 : OKB 194 := OKB.of (by decide +kernel)
set_option maxRecDepth 100000 in
theorem okM_194 : okM 194 = true := by decide +kernel
set_option maxRecDepth 100000 in
theorem okB_195 : OKB 195 := OKB.of (by decide +kernel)
set_option maxRecDepth 100000 in
theorem okM_195 : okM 195 = true := by decide +kernel
set_option maxRecDepth 100000 in
theorem okB_196 : OKB 196 := OKB.of (by decide +kernel)
set_option maxRecDepth 100000 in
theorem okM_196 : okM 196 = true := by decide +kernel
set_option maxRecDepth 100000 in
theorem okB_197 : OKB 197 := OKB.of (by decide +kernel)
set_option maxRecDepth 100000 in
theorem okM_197 : okM 197 = true := by decide +kernel
set_option maxRecDepth 100000 in
theorem okB_198 : OKB 198 := OKB.of (by decide +kernel)
set_option maxRecDepth 100000 in
theorem okM_198 : okM 198 = true := by decide +kernel
set_option maxRecDepth 100000 in
theorem okB_199 : OKB 199 := OKB.of (by decide +kernel)
set_option maxRecDepth 100000 in
theorem okM_199 : okM 199 = true := by decide +kernel
set_option maxRecDepth 100000 in
theorem okB_200 : OKB 200 := OKB.of (by decide +kernel)
set_option maxRecDepth 100000 in
theorem okM_200 : okM 200 = true := by decide +kernel
set_option maxRecDepth 100000 in
theorem okB_201 : OKB 201 := OKB.of (by decide +kernel)
set_option maxRecDepth 100000 in
theorem okM_201 : okM 201 = true := by decide +kernel
set_option maxRecDepth 100000 in
theorem okB_202 : OKB 202 := OKB.of (by decide +kernel)
set_option maxRecDepth 100000 in
theorem okM_202 : okM 202 = true := by decide +kernel
set_option maxRecDepth 100000 in
theorem okB_203 : OKB 203 := OKB.of (by decide +kernel)
set_option maxRecDepth 100000 in
theorem okM_203 : okM 203 = true := by decide +kernel
set_option maxRecDepth 100000 in
theorem okB_205 : OKB 205 := OKB.of (by decide +kernel)
set_option maxRecDepth 100000 in
theorem okM_205 : okM 205 = true := by decide +kernel
set_option maxRecDepth 100000 in
theorem okB_206 : OKB 206 := OKB.of (by decide +kernel)
set_option maxRecDepth 100000 in
theorem okM_206 : okM 206 = true := by decide +kernel
set_option maxRecDepth 100000 in
theorem okB_207 : OKB 207 := OKB.of (by decide +kernel)
set_option maxRecDepth 100000 in
theorem okM_207 : okM 207 = true := by decide +kernel
set_option maxRecDepth 100000 in
theorem okB_208 : OKB 208 := OKB.of (by decide +kernel)
set_option maxRecDepth 100000 in
theorem okM_208 : okM 208 = true := by decide +kernel
set_option maxRecDepth 100000 in
theorem okB_209 : OKB 209 := OKB.of (by decide +kernel)
set_option maxRecDepth 100000 in
theorem okM_209 : okM 209 = true := by decide +kernel
set_option maxRecDepth 100000 in
theorem okB_210 : OKB 210 := OKB.of (by decide +kernel)
set_option maxRecDepth 100000 in
theorem okM_210 : okM 210 = true := by decide +kernel
set_option maxRecDepth 100000 in
theorem okB_211 : OKB 211 := OKB.of (by decide +kernel)
set_option maxRecDepth 100000 in
theorem okM_211 : okM 211 = true := by decide +kernel
set_option maxRecDepth 100000 in
theorem okB_212 : OKB 212 := OKB.of (by decide +kernel)
set_option maxRecDepth 100000 in
theorem okM_212 : okM 212 = true := by decide +kernel
set_option maxRecDepth 100000 in
theorem okB_213 : OKB 213 := OKB.of (by decide +kernel)
set_option maxRecDepth 100000 in
theorem okM_213 : okM 213 = true := by decide +kernel
set_option maxRecDepth 100000 in
theorem okB_214 : OKB 214 := OKB.of (by decide +kernel)
set_option maxRecDepth 100000 in
theorem okM_214 : okM 214 = true := by decide +kernel
