/-! 08.checka: the numbered instructions checked by the kernel: printed by wip/tools/genchk.py -/
set_option maxRecDepth 100000 in
theorem okB_1 : OKB 1 := OKB.of (by decide +kernel)
set_option maxRecDepth 100000 in
theorem okM_1 : OM 1 := ⟨rfl, by decide +kernel⟩
set_option maxRecDepth 100000 in
theorem okB_2 : OKB 2 := OKB.of (by decide +kernel)
set_option maxRecDepth 100000 in
theorem okM_2 : OM 2 := ⟨rfl, by decide +kernel⟩
set_option maxRecDepth 100000 in
theorem okB_3 : OKB 3 := OKB.of (by decide +kernel)
set_option maxRecDepth 100000 in
theorem okM_3 : OM 3 := ⟨rfl, by decide +kernel⟩
set_option maxRecDepth 100000 in
theorem okB_4 : OKB 4 := OKB.of (by decide +kernel)
set_option maxRecDepth 100000 in
theorem okM_4 : OM 4 := ⟨rfl, by decide +kernel⟩
set_option maxRecDepth 100000 in
theorem okB_5 : OKB 5 := OKB.of (by decide +kernel)
set_option maxRecDepth 100000 in
theorem okM_5 : OM 5 := ⟨rfl, by decide +kernel⟩
set_option maxRecDepth 100000 in
theorem okB_6 : OKB 6 := OKB.of (by decide +kernel)
set_option maxRecDepth 100000 in
theorem okM_6 : OM 6 := ⟨rfl, by decide +kernel⟩
set_option maxRecDepth 100000 in
theorem okB_7 : OKB 7 := OKB.of (by decide +kernel)
set_option maxRecDepth 100000 in
theorem okM_7 : OM 7 := ⟨rfl, by decide +kernel⟩
set_option maxRecDepth 100000 in
theorem okB_8 : OKB 8 := OKB.of (by decide +kernel)
set_option maxRecDepth 100000 in
theorem okM_8 : OM 8 := ⟨rfl, by decide +kernel⟩
set_option maxRecDepth 100000 in
theorem okB_9 : OKB 9 := OKB.of (by decide +kernel)
set_option maxRecDepth 100000 in
theorem okM_9 : OM 9 := ⟨rfl, by decide +kernel⟩
set_option maxRecDepth 100000 in
theorem okB_10 : OKB 10 := OKB.of (by decide +kernel)
set_option maxRecDepth 100000 in
theorem okM_10 : OM 10 := ⟨rfl, by decide +kernel⟩
set_option maxRecDepth 100000 in
theorem okB_11 : OKB 11 := OKB.of (by decide +kernel)
set_option maxRecDepth 100000 in
theorem okM_11 : OM 11 := ⟨rfl, by decide +kernel⟩
set_option maxRecDepth 100000 in
theorem okB_12 : OKB 12 := OKB.of (by decide +kernel)
set_option maxRecDepth 100000 in
theorem okM_12 : OM 12 := ⟨rfl, by decide +kernel⟩
set_option maxRecDepth 100000 in
theorem okB_13 : OKB 13 := OKB.of (by decide +kernel)
set_option maxRecDepth 100000 in
theorem okM_13 : OM 13 := ⟨rfl, by decide +kernel⟩
set_option maxRecDepth 100000 in
theorem okB_14 : OKB 14 := OKB.of (by decide +kernel)
set_option maxRecDepth 100000 in
theorem okM_14 : OM 14 := ⟨rfl, by decide +kernel⟩
set_option maxRecDepth 100000 in
theorem okB_15 : OKB 15 := OKB.of (by decide +kernel)
set_option maxRecDepth 100000 in
theorem okM_15 : OM 15 := ⟨rfl, by decide +kernel⟩
set_option maxRecDepth 100000 in
theorem okB_16 : OKB 16 := OKB.of (by decide +kernel)
set_option maxRecDepth 100000 in
theorem okM_16 : OM 16 := ⟨rfl, by decide +kernel⟩
set_option maxRecDepth 100000 in
theorem okB_17 : OKB 17 := OKB.of (by decide +kernel)
set_option maxRecDepth 100000 in
theorem okM_17 : OM 17 := ⟨rfl, by decide +kernel⟩
set_option maxRecDepth 100000 in
theorem okB_18 : OKB 18 := OKB.of (by decide +kernel)
set_option maxRecDepth 100000 in
theorem okM_18 : OM 18 := ⟨rfl, by decide +kernel⟩
set_option maxRecDepth 100000 in
theorem okB_19 : OKB 19 := OKB.of (by decide +kernel)
set_option maxRecDepth 100000 in
theorem okM_19 : OM 19 := ⟨rfl, by decide +kernel⟩
set_option maxRecDepth 100000 in
theorem okB_20 : OKB 20 := OKB.of (by decide +kernel)
set_option maxRecDepth 100000 in
theorem okM_20 : OM 20 := ⟨rfl, by decide +kernel⟩
set_option maxRecDepth 100000 in
theorem okB_21 : OKB 21 := OKB.of (by decide +kernel)
set_option maxRecDepth 100000 in
theorem okM_21 : OM 21 := ⟨rfl, by decide +kernel⟩
set_option maxRecDepth 100000 in
theorem okB_22 : OKB 22 := OKB.of (by decide +kernel)
set_option maxRecDepth 100000 in
theorem okM_22 : OM 22 := ⟨rfl, by decide +kernel⟩
set_option maxRecDepth 100000 in
theorem okB_23 : OKB 23 := OKB.of (by decide +kernel)
set_option maxRecDepth 100000 in
theorem okM_23 : OM 23 := ⟨rfl, by decide +kernel⟩
set_option maxRecDepth 100000 in
theorem okB_24 : OKB 24 := OKB.of (by decide +kernel)
set_option maxRecDepth 100000 in
theorem okM_24 : OM 24 := ⟨rfl, by decide +kernel⟩
set_option maxRecDepth 100000 in
theorem okB_25 : OKB 25 := OKB.of (by decide +kernel)
set_option maxRecDepth 100000 in
theorem okM_25 : OM 25 := ⟨rfl, by decide +kernel⟩
set_option maxRecDepth 100000 in
theorem okB_26 : OKB 26 := OKB.of (by decide +kernel)
set_option maxRecDepth 100000 in
theorem okM_26 : OM 26 := ⟨rfl, by decide +kernel⟩
set_option maxRecDepth 100000 in
theorem okB_27 : OKB 27 := OKB.of (by decide +kernel)
set_option maxRecDepth 100000 in
theorem okM_27 : OM 27 := ⟨rfl, by decide +kernel⟩
set_option maxRecDepth 100000 in
theorem okB_28 : OKB 28 := OKB.of (by decide +kernel)
set_option maxRecDepth 100000 in
theorem okM_28 : OM 28 := ⟨rfl, by decide +kernel⟩
set_option maxRecDepth 100000 in
theorem okB_29 : OKB 29 := OKB.of (by decide +kernel)
set_option maxRecDepth 100000 in
theorem okM_29 : OM 29 := ⟨rfl, by decide +kernel⟩
set_option maxRecDepth 100000 in
theorem okB_30 : OKB 30 := OKB.of (by decide +kernel)
set_option maxRecDepth 100000 in
theorem okM_30 : OM 30 := ⟨rfl, by decide +kernel⟩
set_option maxRecDepth 100000 in
theorem okB_31 : OKB 31 := OKB.of (by decide +kernel)
set_option maxRecDepth 100000 in
theorem okM_31 : OM 31 := ⟨rfl, by decide +kernel⟩
set_option maxRecDepth 100000 in
theorem okB_33 : OKB 33 := OKB.of (by decide +kernel)
set_option maxRecDepth 100000 in
theorem okM_33 : OM 33 := ⟨rfl, by decide +kernel⟩
set_option maxRecDepth 100000 in
theorem okB_34 : OKB 34 := OKB.of (by decide +kernel)
set_option maxRecDepth 100000 in
theorem okM_34 : OM 34 := ⟨rfl, by decide +kernel⟩
set_option maxRecDepth 100000 in
theorem okB_35 : OKB 35 := OKB.of (by decide +kernel)
set_option maxRecDepth 100000 in
theorem okM_35 : OM 35 := ⟨rfl, by decide +kernel⟩
set_option maxRecDepth 100000 in
theorem okB_36 : OKB 36 := OKB.of (by decide +kernel)
set_option maxRecDepth 100000 in
theorem okM_36 : OM 36 := ⟨rfl, by decide +kernel⟩
set_option maxRecDepth 100000 in
theorem okB_37 : OKB 37 := OKB.of (by decide +kernel)
set_option maxRecDepth 100000 in
theorem okM_37 : OM 37 := ⟨rfl, by decide +kernel⟩
set_option maxRecDepth 100000 in
theorem okB_38 : OKB 38 := OKB.of (by decide +kernel)
set_option maxRecDepth 100000 in
theorem okM_38 : OM 38 := ⟨rfl, by decide +kernel⟩
set_option maxRecDepth 100000 in
theorem okB_39 : OKB 39 := OKB.of (by decide +kernel)
set_option maxRecDepth 100000 in
theorem okM_39 : OM 39 := ⟨rfl, by decide +kernel⟩
set_option maxRecDepth 100000 in
theorem okB_40 : OKB 40 := OKB.of (by decide +kernel)
set_option maxRecDepth 100000 in
theorem okM_40 : OM 40 := ⟨rfl, by decide +kernel⟩
set_option maxRecDepth 100000 in
theorem okB_41 : OKB 41 := OKB.of (by decide +kernel)
set_option maxRecDepth 100000 in
theorem okM_41 : OM 41 := ⟨rfl, by decide +kernel⟩
set_option maxRecDepth 100000 in
theorem okB_42 : OKB 42 := OKB.of (by decide +kernel)
set_option maxRecDepth 100000 in
theorem okM_42 : OM 42 := ⟨rfl, by decide +kernel⟩
set_option maxRecDepth 100000 in
theorem okB_43 : OKB 43 := OKB.of (by decide +kernel)
set_option maxRecDepth 100000 in
theorem okM_43 : OM 43 := ⟨rfl, by decide +kernel⟩
set_option maxRecDepth 100000 in
theorem okB_44 : OKB 44 := OKB.of (by decide +kernel)
set_option maxRecDepth 100000 in
theorem okM_44 : OM 44 := ⟨rfl, by decide +kernel⟩
set_option maxRecDepth 100000 in
theorem okB_45 : OKB 45 := OKB.of (by decide +kernel)
set_option maxRecDepth 100000 in
theorem okM_45 : OM 45 := ⟨rfl, by decide +kernel⟩
set_option maxRecDepth 100000 in
theorem okB_46 : OKB 46 := OKB.of (by decide +kernel)
set_option maxRecDepth 100000 in
theorem okM_46 : OM 46 := ⟨rfl, by decide +kernel⟩
set_option maxRecDepth 100000 in
theorem okB_47 : OKB 47 := OKB.of (by decide +kernel)
set_option maxRecDepth 100000 in
theorem okM_47 : OM 47 := ⟨rfl, by decide +kernel⟩
set_option maxRecDepth 100000 in
theorem okB_48 : OKB 48 := OKB.of (by decide +kernel)
set_option maxRecDepth 100000 in
theorem okM_48 : OM 48 := ⟨rfl, by decide +kernel⟩
set_option maxRecDepth 100000 in
theorem okB_49 : OKB 49 := OKB.of (by decide +kernel)
set_option maxRecDepth 100000 in
theorem okM_49 : OM 49 := ⟨rfl, by decide +kernel⟩
set_option maxRecDepth 100000 in
theorem okB_50 : OKB 50 := OKB.of (by decide +kernel)
set_option maxRecDepth 100000 in
theorem okM_50 : OM 50 := ⟨rfl, by decide +kernel⟩
set_option maxRecDepth 100000 in
theorem okB_51 : OKB 51 := OKB.of (by decide +kernel)
set_option maxRecDepth 100000 in
theorem okM_51 : OM 51 := ⟨rfl, by decide +kernel⟩
set_option maxRecDepth 100000 in
theorem okB_52 : OKB 52 := OKB.of (by decide +kernel)
set_option maxRecDepth 100000 in
theorem okM_52 : OM 52 := ⟨rfl, by decide +kernel⟩
set_option maxRecDepth 100000 in
theorem okB_53 : OKB 53 := OKB.of (by decide +kernel)
set_option maxRecDepth 100000 in
theorem okM_53 : OM 53 := ⟨rfl, by decide +kernel⟩
set_option maxRecDepth 100000 in
theorem okB_54 : OKB 54 := OKB.of (by decide +kernel)
set_option maxRecDepth 100000 in
theorem okM_54 : OM 54 := ⟨rfl, by decide +kernel⟩
set_option maxRecDepth 100000 in
theorem okB_55 : OKB 55 := OKB.of (by decide +kernel)
set_option maxRecDepth 100000 in
theorem okM_55 : OM 55 := ⟨rfl, by decide +kernel⟩
set_option maxRecDepth 100000 in
theorem okB_56 : OKB 56 := OKB.of (by decide +kernel)
set_option maxRecDepth 100000 in
theorem okM_56 : OM 56 := ⟨rfl, by decide +kernel⟩
set_option maxRecDepth 100000 in
theorem okB_57 : OKB 57 := OKB.of (by decide +kernel)
set_option maxRecDepth 100000 in
theorem okM_57 : OM 57 := ⟨rfl, by decide +kernel⟩
set_option maxRecDepth 100000 in
theorem okB_58 : OKB 58 := OKB.of (by decide +kernel)
set_option maxRecDepth 100000 in
theorem okM_58 : OM 58 := ⟨rfl, by decide +kernel⟩
set_option maxRecDepth 100000 in
theorem okB_59 : OKB 59 := OKB.of (by decide +kernel)
set_option maxRecDepth 100000 in
theorem okM_59 : OM 59 := ⟨rfl, by decide +kernel⟩
set_option maxRecDepth 100000 in
theorem okB_60 : OKB 60 := OKB.of (by decide +kernel)
set_option maxRecDepth 100000 in
theorem okM_60 : OM 60 := ⟨rfl, by decide +kernel⟩
set_option maxRecDepth 100000 in
theorem okB_61 : OKB 61 := OKB.of (by decide +kernel)
set_option maxRecDepth 100000 in
theorem okM_61 : OM 61 := ⟨rfl, by decide +kernel⟩
set_option maxRecDepth 100000 in
theorem okB_62 : OKB 62 := OKB.of (by decide +kernel)
set_option maxRecDepth 100000 in
theorem okM_62 : OM 62 := ⟨rfl, by decide +kernel⟩
set_option maxRecDepth 100000 in
theorem okB_63 : OKB 63 := OKB.of (by decide +kernel)
set_option maxRecDepth 100000 in
theorem okM_63 : OM 63 := ⟨rfl, by decide +kernel⟩
set_option maxRecDepth 100000 in
theorem okB_64 : OKB 64 := OKB.of (by decide +kernel)
set_option maxRecDepth 100000 in
theorem okM_64 : OM 64 := ⟨rfl, by decide +kernel⟩
set_option maxRecDepth 100000 in
theorem okB_65 : OKB 65 := OKB.of (by decide +kernel)
set_option maxRecDepth 100000 in
theorem okM_65 : OM 65 := ⟨rfl, by decide +kernel⟩
set_option maxRecDepth 100000 in
theorem okB_66 : OKB 66 := OKB.of (by decide +kernel)
set_option maxRecDepth 100000 in
theorem okM_66 : OM 66 := ⟨rfl, by decide +kernel⟩
set_option maxRecDepth 100000 in
theorem okB_67 : OKB 67 := OKB.of (by decide +kernel)
set_option maxRecDepth 100000 in
theorem okM_67 : OM 67 := ⟨rfl, by decide +kernel⟩
set_option maxRecDepth 100000 in
theorem okB_68 : OKB 68 := OKB.of (by decide +kernel)
set_option maxRecDepth 100000 in
theorem okM_68 : OM 68 := ⟨rfl, by decide +kernel⟩
set_option maxRecDepth 100000 in
theorem okB_69 : OKB 69 := OKB.of (by decide +kernel)
set_option maxRecDepth 100000 in
theorem okM_69 : OM 69 := ⟨rfl, by decide +kernel⟩
set_option maxRecDepth 100000 in
theorem okB_70 : OKB 70 := OKB.of (by decide +kernel)
set_option maxRecDepth 100000 in
theorem okM_70 : OM 70 := ⟨rfl, by decide +kernel⟩
set_option maxRecDepth 100000 in
theorem okB_71 : OKB 71 := OKB.of (by decide +kernel)
set_option maxRecDepth 100000 in
theorem okM_71 : OM 71 := ⟨rfl, by decide +kernel⟩
set_option maxRecDepth 100000 in
theorem okB_72 : OKB 72 := OKB.of (by decide +kernel)
set_option maxRecDepth 100000 in
theorem okM_72 : OM 72 := ⟨rfl, by decide +kernel⟩
set_option maxRecDepth 100000 in
theorem okB_73 : OKB 73 := OKB.of (by decide +kernel)
set_option maxRecDepth 100000 in
theorem okM_73 : OM 73 := ⟨rfl, by decide +kernel⟩
set_option maxRecDepth 100000 in
theorem okB_74 : OKB 74 := OKB.of (by decide +kernel)
set_option maxRecDepth 100000 in
theorem okM_74 : OM 74 := ⟨rfl, by decide +kernel⟩
set_option maxRecDepth 100000 in
theorem okB_75 : OKB 75 := OKB.of (by decide +kernel)
set_option maxRecDepth 100000 in
theorem okM_75 : OM 75 := ⟨rfl, by decide +kernel⟩
set_option maxRecDepth 100000 in
theorem okB_76 : OKB 76 := OKB.of (by decide +kernel)
set_option maxRecDepth 100000 in
theorem okM_76 : OM 76 := ⟨rfl, by decide +kernel⟩
set_option maxRecDepth 100000 in
theorem okB_77 : OKB 77 := OKB.of (by decide +kernel)
set_option maxRecDepth 100000 in
theorem okM_77 : OM 77 := ⟨rfl, by decide +kernel⟩
set_option maxRecDepth 100000 in
theorem okB_78 : OKB 78 := OKB.of (by decide +kernel)
set_option maxRecDepth 100000 in
theorem okM_78 : OM 78 := ⟨rfl, by decide +kernel⟩
set_option maxRecDepth 100000 in
theorem okB_79 : OKB 79 := OKB.of (by decide +kernel)
set_option maxRecDepth 100000 in
theorem okM_79 : OM 79 := ⟨rfl, by decide +kernel⟩
set_option maxRecDepth 100000 in
theorem okB_80 : OKB 80 := OKB.of (by decide +kernel)
set_option maxRecDepth 100000 in
theorem okM_80 : OM 80 := ⟨rfl, by decide +kernel⟩
set_option maxRecDepth 100000 in
theorem okB_81 : OKB 81 := OKB.of (by decide +kernel)
set_option maxRecDepth 100000 in
theorem okM_81 : OM 81 := ⟨rfl, by decide +kernel⟩
set_option maxRecDepth 100000 in
theorem okB_82 : OKB 82 := OKB.of (by decide +kernel)
set_option maxRecDepth 100000 in
theorem okM_82 : OM 82 := ⟨rfl, by decide +kernel⟩
set_option maxRecDepth 100000 in
theorem okB_83 : OKB 83 := OKB.of (by decide +kernel)
set_option maxRecDepth 100000 in
theorem okM_83 : OM 83 := ⟨rfl, by decide +kernel⟩
set_option maxRecDepth 100000 in
theorem okB_84 : OKB 84 := OKB.of (by decide +kernel)
set_option maxRecDepth 100000 in
theorem okM_84 : OM 84 := ⟨rfl, by decide +kernel⟩
set_option maxRecDepth 100000 in
theorem okB_85 : OKB 85 := OKB.of (by decide +kernel)
set_option maxRecDepth 100000 in
theorem okM_85 : OM 85 := ⟨rfl, by decide +kernel⟩
set_option maxRecDepth 100000 in
theorem okB_86 : OKB 86 := OKB.of (by decide +kernel)
set_option maxRecDepth 100000 in
theorem okM_86 : OM 86 := ⟨rfl, by decide +kernel⟩
set_option maxRecDepth 100000 in
theorem okB_87 : OKB 87 := OKB.of (by decide +kernel)
set_option maxRecDepth 100000 in
theorem okM_87 : OM 87 := ⟨rfl, by decide +kernel⟩
set_option maxRecDepth 100000 in
theorem okB_88 : OKB 88 := OKB.of (by decide +kernel)
set_option maxRecDepth 100000 in
theorem okM_88 : OM 88 := ⟨rfl, by decide +kernel⟩
set_option maxRecDepth 100000 in
theorem okB_89 : OKB 89 := OKB.of (by decide +kernel)
set_option maxRecDepth 100000 in
theorem okM_89 : OM 89 := ⟨rfl, by decide +kernel⟩
set_option maxRecDepth 100000 in
theorem okB_90 : OKB 90 := OKB.of (by decide +kernel)
set_option maxRecDepth 100000 in
theorem okM_90 : OM 90 := ⟨rfl, by decide +kernel⟩
set_option maxRecDepth 100000 in
theorem okB_91 : OKB 91 := OKB.of (by decide +kernel)
set_option maxRecDepth 100000 in
theorem okM_91 : OM 91 := ⟨rfl, by decide +kernel⟩
set_option maxRecDepth 100000 in
theorem okB_92 : OKB 92 := OKB.of (by decide +kernel)
set_option maxRecDepth 100000 in
theorem okM_92 : OM 92 := ⟨rfl, by decide +kernel⟩
set_option maxRecDepth 100000 in
theorem okB_93 : OKB 93 := OKB.of (by decide +kernel)
set_option maxRecDepth 100000 in
theorem okM_93 : OM 93 := ⟨rfl, by decide +kernel⟩
set_option maxRecDepth 100000 in
theorem okB_94 : OKB 94 := OKB.of (by decide +kernel)
set_option maxRecDepth 100000 in
theorem okM_94 : OM 94 := ⟨rfl, by decide +kernel⟩
set_option maxRecDepth 100000 in
theorem okB_95 : OKB 95 := OKB.of (by decide +kernel)
set_option maxRecDepth 100000 in
theorem okM_95 : OM 95 := ⟨rfl, by decide +kernel⟩
set_option maxRecDepth 100000 in
theorem okB_96 : OKB 96 := OKB.of (by decide +kernel)
set_option maxRecDepth 100000 in
theorem okM_96 : OM 96 := ⟨rfl, by decide +kernel⟩
set_option maxRecDepth 100000 in
theorem okB_97 : OKB 97 := OKB.of (by decide +kernel)
set_option maxRecDepth 100000 in
theorem okM_97 : OM 97 := ⟨rfl, by decide +kernel⟩
set_option maxRecDepth 100000 in
theorem okB_98 : OKB 98 := OKB.of (by decide +kernel)
set_option maxRecDepth 100000 in
theorem okM_98 : OM 98 := ⟨rfl, by decide +kernel⟩
set_option maxRecDepth 100000 in
theorem okB_99 : OKB 99 := OKB.of (by decide +kernel)
set_option maxRecDepth 100000 in
theorem okM_99 : OM 99 := ⟨rfl, by decide +kernel⟩
set_option maxRecDepth 100000 in
theorem okB_100 : OKB 100 := OKB.of (by decide +kernel)
set_option maxRecDepth 100000 in
theorem okM_100 : OM 100 := ⟨rfl, by decide +kernel⟩
set_option maxRecDepth 100000 in
theorem okB_101 : OKB 101 := OKB.of (by decide +kernel)
set_option maxRecDepth 100000 in
theorem okM_101 : OM 101 := ⟨rfl, by decide +kernel⟩
set_option maxRecDepth 100000 in
theorem okB_102 : OKB 102 := OKB.of (by decide +kernel)
set_option maxRecDepth 100000 in
theorem okM_102 : OM 102 := ⟨rfl, by decide +kernel⟩
set_option maxRecDepth 100000 in
theorem okB_103 : OKB 103 := OKB.of (by decide +kernel)
set_option maxRecDepth 100000 in
theorem okM_103 : OM 103 := ⟨rfl, by decide +kernel⟩
set_option maxRecDepth 100000 in
theorem okB_104 : OKB 104 := OKB.of (by decide +kernel)
set_option maxRecDepth 100000 in
theorem okM_104 : OM 104 := ⟨rfl, by decide +kernel⟩
set_option maxRecDepth 100000 in
theorem okB_105 : OKB 105 := OKB.of (by decide +kernel)
set_option maxRecDepth 100000 in
theorem okM_105 : OM 105 := ⟨rfl, by decide +kernel⟩
set_option maxRecDepth 100000 in
theorem okB_106 : OKB 106 := OKB.of (by decide +kernel)
set_option maxRecDepth 100000 in
theorem okM_106 : OM 106 := ⟨rfl, by decide +kernel⟩
set_option maxRecDepth 100000 in
theorem okB_107 : OKB 107 := OKB.of (by decide +kernel)
set_option maxRecDepth 100000 in
theorem okM_107 : OM 107 := ⟨rfl, by decide +kernel⟩
set_option maxRecDepth 100000 in
theorem okB_108 : OKB 108 := OKB.of (by decide +kernel)
set_option maxRecDepth 100000 in
theorem okM_108 : OM 108 := ⟨rfl, by decide +kernel⟩
set_option maxRecDepth 100000 in
theorem okB_109 : OKB 109 := OKB.of (by decide +kernel)
set_option maxRecDepth 100000 in
theorem okM_109 : OM 109 := ⟨rfl, by decide +kernel⟩
set_option maxRecDepth 100000 in
theorem okB_110 : OKB 110 := OKB.of (by decide +kernel)
set_option maxRecDepth 100000 in
theorem okM_110 : OM 110 := ⟨rfl, by decide +kernel⟩
set_option maxRecDepth 100000 in
theorem okB_111 : OKB 111 := OKB.of (by decide +kernel)
set_option maxRecDepth 100000 in
theorem okM_111 : OM 111 := ⟨rfl, by decide +kernel⟩
set_option maxRecDepth 100000 in
theorem okB_112 : OKB 112 := OKB.of (by decide +kernel)
set_option maxRecDepth 100000 in
theorem okM_112 : OM 112 := ⟨rfl, by decide +kernel⟩
set_option maxRecDepth 100000 in
theorem okB_113 : OKB 113 := OKB.of (by decide +kernel)
set_option maxRecDepth 100000 in
theorem okM_113 : OM 113 := ⟨rfl, by decide +kernel⟩
set_option maxRecDepth 100000 in
theorem okB_114 : OKB 114 := OKB.of (by decide +kernel)
set_option maxRecDepth 100000 in
theorem okM_114 : OM 114 := ⟨rfl, by decide +kernel⟩
set_option maxRecDepth 100000 in
theorem okB_115 : OKB 115 := OKB.of (by decide +kernel)
set_option maxRecDepth 100000 in
theorem okM_115 : OM 115 := ⟨rfl, by decide +kernel⟩
set_option maxRecDepth 100000 in
theorem okB_116 : OKB 116 := OKB.of (by decide +kernel)
set_option maxRecDepth 100000 in
theorem okM_116 : OM 116 := ⟨rfl, by decide +kernel⟩
set_option maxRecDepth 100000 in
theorem okB_117 : OKB 117 := OKB.of (by decide +kernel)
set_option maxRecDepth 100000 in
theorem okM_117 : OM 117 := ⟨rfl, by decide +kernel⟩
set_option maxRecDepth 100000 in
theorem okB_118 : OKB 118 := OKB.of (by decide +kernel)
set_option maxRecDepth 100000 in
theorem okM_118 : OM 118 := ⟨rfl, by decide +kernel⟩
set_option maxRecDepth 100000 in
theorem okB_119 : OKB 119 := OKB.of (by decide +kernel)
set_option maxRecDepth 100000 in
theorem okM_119 : OM 119 := ⟨rfl, by decide +kernel⟩
set_option maxRecDepth 100000 in
theorem okB_120 : OKB 120 := OKB.of (by decide +kernel)
set_option maxRecDepth 100000 in
theorem okM_120 : OM 120 := ⟨rfl, by decide +kernel⟩
set_option maxRecDepth 100000 in
theorem okB_121 : OKB 121 := OKB.of (by decide +kernel)
set_option maxRecDepth 100000 in
theorem okM_121 : OM 121 := ⟨rfl, by decide +kernel⟩
set_option maxRecDepth 100000 in
theorem okB_122 : OKB 122 := OKB.of (by decide +kernel)
set_option maxRecDepth 100000 in
theorem okM_122 : OM 122 := ⟨rfl, by decide +kernel⟩
set_option maxRecDepth 100000 in
theorem okB_123 : OKB 123 := OKB.of (by decide +kernel)
set_option maxRecDepth 100000 in
theorem okM_123 : OM 123 := ⟨rfl, by decide +kernel⟩
set_option maxRecDepth 100000 in
theorem okB_124 : OKB 124 := OKB.of (by decide +kernel)
set_option maxRecDepth 100000 in
theorem okM_124 : OM 124 := ⟨rfl, by decide +kernel⟩
set_option maxRecDepth 100000 in
theorem okB_125 : OKB 125 := OKB.of (by decide +kernel)
set_option maxRecDepth 100000 in
theorem okM_125 : OM 125 := ⟨rfl, by decide +kernel⟩
set_option maxRecDepth 100000 in
theorem okB_126 : OKB 126 := OKB.of (by decide +kernel)
set_option maxRecDepth 100000 in
theorem okM_126 : OM 126 := ⟨rfl, by decide +kernel⟩
set_option maxRecDepth 100000 in
theorem okB_127 : OKB 127 := OKB.of (by decide +kernel)
set_option maxRecDepth 100000 in
theorem okM_127 : OM 127 := ⟨rfl, by decide +kernel⟩
set_option maxRecDepth 100000 in
theorem okB_128 : OKB 128 := OKB.of (by decide +kernel)
set_option maxRecDepth 100000 in
theorem okM_128 : OM 128 := ⟨rfl, by decide +kernel⟩
set_option maxRecDepth 100000 in
theorem okB_129 : OKB 129 := OKB.of (by decide +kernel)
set_option maxRecDepth 100000 in
theorem okM_129 : OM 129 := ⟨rfl, by decide +kernel⟩
set_option maxRecDepth 100000 in
theorem okB_130 : OKB 130 := OKB.of (by decide +kernel)
set_option maxRecDepth 100000 in
theorem okM_130 : OM 130 := ⟨rfl, by decide +kernel⟩
set_option maxRecDepth 100000 in
theorem okB_131 : OKB 131 := OKB.of (by decide +kernel)
set_option maxRecDepth 100000 in
theorem okM_131 : OM 131 := ⟨rfl, by decide +kernel⟩
set_option maxRecDepth 100000 in
theorem okB_132 : OKB 132 := OKB.of (by decide +kernel)
set_option maxRecDepth 100000 in
theorem okM_132 : OM 132 := ⟨rfl, by decide +kernel⟩
set_option maxRecDepth 100000 in
theorem okB_133 : OKB 133 := OKB.of (by decide +kernel)
set_option maxRecDepth 100000 in
theorem okM_133 : OM 133 := ⟨rfl, by decide +kernel⟩
set_option maxRecDepth 100000 in
theorem okB_134 : OKB 134 := OKB.of (by decide +kernel)
set_option maxRecDepth 100000 in
theorem okM_134 : OM 134 := ⟨rfl, by decide +kernel⟩
set_option maxRecDepth 100000 in
theorem okB_135 : OKB 135 := OKB.of (by decide +kernel)
set_option maxRecDepth 100000 in
theorem okM_135 : OM 135 := ⟨rfl, by decide +kernel⟩
set_option maxRecDepth 100000 in
theorem okB_136 : OKB 136 := OKB.of (by decide +kernel)
set_option maxRecDepth 100000 in
theorem okM_136 : OM 136 := ⟨rfl, by decide +kernel⟩
set_option maxRecDepth 100000 in
theorem okB_137 : OKB 137 := OKB.of (by decide +kernel)
set_option maxRecDepth 100000 in
theorem okM_137 : OM 137 := ⟨rfl, by decide +kernel⟩
set_option maxRecDepth 100000 in
theorem okB_138 : OKB 138 := OKB.of (by decide +kernel)
set_option maxRecDepth 100000 in
theorem okM_138 : OM 138 := ⟨rfl, by decide +kernel⟩
set_option maxRecDepth 100000 in
theorem okB_139 : OKB 139 := OKB.of (by decide +kernel)
set_option maxRecDepth 100000 in
theorem okM_139 : OM 139 := ⟨rfl, by decide +kernel⟩
set_option maxRecDepth 100000 in
theorem okB_140 : OKB 140 := OKB.of (by decide +kernel)
set_option maxRecDepth 100000 in
theorem okM_140 : OM 140 := ⟨rfl, by decide +kernel⟩
set_option maxRecDepth 100000 in
theorem okB_141 : OKB 141 := OKB.of (by decide +kernel)
set_option maxRecDepth 100000 in
theorem okM_141 : OM 141 := ⟨rfl, by decide +kernel⟩
set_option maxRecDepth 100000 in
theorem okB_142 : OKB 142 := OKB.of (by decide +kernel)
set_option maxRecDepth 100000 in
theorem okM_142 : OM 142 := ⟨rfl, by decide +kernel⟩
set_option maxRecDepth 100000 in
theorem okB_143 : OKB 143 := OKB.of (by decide +kernel)
set_option maxRecDepth 100000 in
theorem okM_143 : OM 143 := ⟨rfl, by decide +kernel⟩
set_option maxRecDepth 100000 in
theorem okB_144 : OKB 144 := OKB.of (by decide +kernel)
set_option maxRecDepth 100000 in
theorem okM_144 : OM 144 := ⟨rfl, by decide +kernel⟩
set_option maxRecDepth 100000 in
theorem okB_145 : OKB 145 := OKB.of (by decide +kernel)
set_option maxRecDepth 100000 in
theorem okM_145 : OM 145 := ⟨rfl, by decide +kernel⟩
set_option maxRecDepth 100000 in
theorem okB_146 : OKB 146 := OKB.of (by decide +kernel)
set_option maxRecDepth 100000 in
theorem okM_146 : OM 146 := ⟨rfl, by decide +kernel⟩
set_option maxRecDepth 100000 in
theorem okB_147 : OKB 147 := OKB.of (by decide +kernel)
set_option maxRecDepth 100000 in
theorem okM_147 : OM 147 := ⟨rfl, by decide +kernel⟩
set_option maxRecDepth 100000 in
theorem okB_148 : OKB 148 := OKB.of (by decide +kernel)
set_option maxRecDepth 100000 in
theorem okM_148 : OM 148 := ⟨rfl, by decide +kernel⟩
set_option maxRecDepth 100000 in
theorem okB_149 : OKB 149 := OKB.of (by decide +kernel)
set_option maxRecDepth 100000 in
theorem okM_149 : OM 149 := ⟨rfl, by decide +kernel⟩
set_option maxRecDepth 100000 in
theorem okB_150 : OKB 150 := OKB.of (by decide +kernel)
set_option maxRecDepth 100000 in
theorem okM_150 : OM 150 := ⟨rfl, by decide +kernel⟩
set_option maxRecDepth 100000 in
theorem okB_151 : OKB 151 := OKB.of (by decide +kernel)
set_option maxRecDepth 100000 in
theorem okM_151 : OM 151 := ⟨rfl, by decide +kernel⟩
set_option maxRecDepth 100000 in
theorem okB_152 : OKB 152 := OKB.of (by decide +kernel)
set_option maxRecDepth 100000 in
theorem okM_152 : OM 152 := ⟨rfl, by decide +kernel⟩
set_option maxRecDepth 100000 in
theorem okB_153 : OKB 153 := OKB.of (by decide +kernel)
set_option maxRecDepth 100000 in
theorem okM_153 : OM 153 := ⟨rfl, by decide +kernel⟩
set_option maxRecDepth 100000 in
theorem okB_154 : OKB 154 := OKB.of (by decide +kernel)
set_option maxRecDepth 100000 in
theorem okM_154 : OM 154 := ⟨rfl, by decide +kernel⟩
set_option maxRecDepth 100000 in
theorem okB_155 : OKB 155 := OKB.of (by decide +kernel)
set_option maxRecDepth 100000 in
theorem okM_155 : OM 155 := ⟨rfl, by decide +kernel⟩
set_option maxRecDepth 100000 in
theorem okB_156 : OKB 156 := OKB.of (by decide +kernel)
set_option maxRecDepth 100000 in
theorem okM_156 : OM 156 := ⟨rfl, by decide +kernel⟩
set_option maxRecDepth 100000 in
theorem okB_157 : OKB 157 := OKB.of (by decide +kernel)
set_option maxRecDepth 100000 in
theorem okM_157 : OM 157 := ⟨rfl, by decide +kernel⟩
set_option maxRecDepth 100000 in
theorem okB_158 : OKB 158 := OKB.of (by decide +kernel)
set_option maxRecDepth 100000 in
theorem okM_158 : OM 158 := ⟨rfl, by decide +kernel⟩
set_option maxRecDepth 100000 in
theorem okB_159 : OKB 159 := OKB.of (by decide +kernel)
set_option maxRecDepth 100000 in
theorem okM_159 : OM 159 := ⟨rfl, by decide +kernel⟩
set_option maxRecDepth 100000 in
theorem okB_160 : OKB 160 := OKB.of (by decide +kernel)
set_option maxRecDepth 100000 in
theorem okM_160 : OM 160 := ⟨rfl, by decide +kernel⟩
set_option maxRecDepth 100000 in
theorem okB_161 : OKB 161 := OKB.of (by decide +kernel)
set_option maxRecDepth 100000 in
theorem okM_161 : OM 161 := ⟨rfl, by decide +kernel⟩
set_option maxRecDepth 100000 in
theorem okB_162 : OKB 162 := OKB.of (by decide +kernel)
set_option maxRecDepth 100000 in
theorem okM_162 : OM 162 := ⟨rfl, by decide +kernel⟩
set_option maxRecDepth 100000 in
theorem okB_163 : OKB 163 := OKB.of (by decide +kernel)
set_option maxRecDepth 100000 in
theorem okM_163 : OM 163 := ⟨rfl, by decide +kernel⟩
set_option maxRecDepth 100000 in
theorem okB_164 : OKB 164 := OKB.of (by decide +kernel)
set_option maxRecDepth 100000 in
theorem okM_164 : OM 164 := ⟨rfl, by decide +kernel⟩
set_option maxRecDepth 100000 in
theorem okB_165 : OKB 165 := OKB.of (by decide +kernel)
set_option maxRecDepth 100000 in
theorem okM_165 : OM 165 := ⟨rfl, by decide +kernel⟩
set_option maxRecDepth 100000 in
theorem okB_166 : OKB 166 := OKB.of (by decide +kernel)
set_option maxRecDepth 100000 in
theorem okM_166 : OM 166 := ⟨rfl, by decide +kernel⟩
set_option maxRecDepth 100000 in
theorem okB_167 : OKB 167 := OKB.of (by decide +kernel)
set_option maxRecDepth 100000 in
theorem okM_167 : OM 167 := ⟨rfl, by decide +kernel⟩
set_option maxRecDepth 100000 in
theorem okB_168 : OKB 168 := OKB.of (by decide +kernel)
set_option maxRecDepth 100000 in
theorem okM_168 : OM 168 := ⟨rfl, by decide +kernel⟩
set_option maxRecDepth 100000 in
theorem okB_169 : OKB 169 := OKB.of (by decide +kernel)
set_option maxRecDepth 100000 in
theorem okM_169 : OM 169 := ⟨rfl, by decide +kernel⟩
set_option maxRecDepth 100000 in
theorem okB_170 : OKB 170 := OKB.of (by decide +kernel)
set_option maxRecDepth 100000 in
theorem okM_170 : OM 170 := ⟨rfl, by decide +kernel⟩
set_option maxRecDepth 100000 in
theorem okB_171 : OKB 171 := OKB.of (by decide +kernel)
set_option maxRecDepth 100000 in
theorem okM_171 : OM 171 := ⟨rfl, by decide +kernel⟩
set_option maxRecDepth 100000 in
theorem okB_172 : OKB 172 := OKB.of (by decide +kernel)
set_option maxRecDepth 100000 in
theorem okM_172 : OM 172 := ⟨rfl, by decide +kernel⟩
set_option maxRecDepth 100000 in
theorem okB_174 : OKB 174 := OKB.of (by decide +kernel)
set_option maxRecDepth 100000 in
theorem okM_174 : OM 174 := ⟨rfl, by decide +kernel⟩
set_option maxRecDepth 100000 in
theorem okB_175 : OKB 175 := OKB.of (by decide +kernel)
set_option maxRecDepth 100000 in
theorem okM_175 : OM 175 := ⟨rfl, by decide +kernel⟩
set_option maxRecDepth 100000 in
theorem okB_176 : OKB 176 := OKB.of (by decide +kernel)
set_option maxRecDepth 100000 in
theorem okM_176 : OM 176 := ⟨rfl, by decide +kernel⟩
set_option maxRecDepth 100000 in
theorem okB_177 : OKB 177 := OKB.of (by decide +kernel)
set_option maxRecDepth 100000 in
theorem okM_177 : OM 177 := ⟨rfl, by decide +kernel⟩
set_option maxRecDepth 100000 in
theorem okB_178 : OKB 178 := OKB.of (by decide +kernel)
set_option maxRecDepth 100000 in
theorem okM_178 : OM 178 := ⟨rfl, by decide +kernel⟩
set_option maxRecDepth 100000 in
theorem okB_179 : OKB 179 := OKB.of (by decide +kernel)
set_option maxRecDepth 100000 in
theorem okM_179 : OM 179 := ⟨rfl, by decide +kernel⟩
set_option maxRecDepth 100000 in
theorem okB_180 : OKB 180 := OKB.of (by decide +kernel)
set_option maxRecDepth 100000 in
theorem okM_180 : OM 180 := ⟨rfl, by decide +kernel⟩
set_option maxRecDepth 100000 in
theorem okB_181 : OKB 181 := OKB.of (by decide +kernel)
set_option maxRecDepth 100000 in
theorem okM_181 : OM 181 := ⟨rfl, by decide +kernel⟩
set_option maxRecDepth 100000 in
theorem okB_182 : OKB 182 := OKB.of (by decide +kernel)
set_option maxRecDepth 100000 in
theorem okM_182 : OM 182 := ⟨rfl, by decide +kernel⟩
set_option maxRecDepth 100000 in
theorem okB_183 : OKB 183 := OKB.of (by decide +kernel)
set_option maxRecDepth 100000 in
theorem okM_183 : OM 183 := ⟨rfl, by decide +kernel⟩
set_option maxRecDepth 100000 in
theorem okB_184 : OKB 184 := OKB.of (by decide +kernel)
set_option maxRecDepth 100000 in
theorem okM_184 : OM 184 := ⟨rfl, by decide +kernel⟩
set_option maxRecDepth 100000 in
theorem okB_185 : OKB 185 := OKB.of (by decide +kernel)
set_option maxRecDepth 100000 in
theorem okM_185 : OM 185 := ⟨rfl, by decide +kernel⟩
set_option maxRecDepth 100000 in
theorem okB_186 : OKB 186 := OKB.of (by decide +kernel)
set_option maxRecDepth 100000 in
theorem okM_186 : OM 186 := ⟨rfl, by decide +kernel⟩
set_option maxRecDepth 100000 in
theorem okB_187 : OKB 187 := OKB.of (by decide +kernel)
set_option maxRecDepth 100000 in
theorem okM_187 : OM 187 := ⟨rfl, by decide +kernel⟩
set_option maxRecDepth 100000 in
theorem okB_188 : OKB 188 := OKB.of (by decide +kernel)
set_option maxRecDepth 100000 in
theorem okM_188 : OM 188 := ⟨rfl, by decide +kernel⟩
set_option maxRecDepth 100000 in
theorem okB_189 : OKB 189 := OKB.of (by decide +kernel)
set_option maxRecDepth 100000 in
theorem okM_189 : OM 189 := ⟨rfl, by decide +kernel⟩
set_option maxRecDepth 100000 in
theorem okB_190 : OKB 190 := OKB.of (by decide +kernel)
set_option maxRecDepth 100000 in
theorem okM_190 : OM 190 := ⟨rfl, by decide +kernel⟩
set_option maxRecDepth 100000 in
theorem okB_191 : OKB 191 := OKB.of (by decide +kernel)
set_option maxRecDepth 100000 in
theorem okM_191 : OM 191 := ⟨rfl, by decide +kernel⟩
set_option maxRecDepth 100000 in
theorem okB_192 : OKB 192 := OKB.of (by decide +kernel)
set_option maxRecDepth 100000 in
theorem okM_192 : OM 192 := ⟨rfl, by decide +kernel⟩
set_option maxRecDepth 100000 in
theorem okB_193 : OKB 193 := OKB.of (by decide +kernel)
set_option maxRecDepth 100000 in
theorem okM_193 : OM 193 := ⟨rfl, by decide +kernel⟩
set_option maxRecDepth 100000 in
theorem okB_194 : OKB 194 := OKB.of (by decide +kernel)
set_option maxRecDepth 100000 in
theorem okM_194 : OM 194 := ⟨rfl, by decide +kernel⟩
set_option maxRecDepth 100000 in
theorem okB_195 : OKB 195 := OKB.of (by decide +kernel)
set_option maxRecDepth 100000 in
theorem okM_195 : OM 195 := ⟨rfl, by decide +kernel⟩
set_option maxRecDepth 100000 in
theorem okB_196 : OKB 196 := OKB.of (by decide +kernel)
set_option maxRecDepth 100000 in
theorem okM_196 : OM 196 := ⟨rfl, by decide +kernel⟩
set_option maxRecDepth 100000 in
theorem okB_197 : OKB 197 := OKB.of (by decide +kernel)
set_option maxRecDepth 100000 in
theorem okM_197 : OM 197 := ⟨rfl, by decide +kernel⟩
set_option maxRecDepth 100000 in
theorem okB_198 : OKB 198 := OKB.of (by decide +kernel)
set_option maxRecDepth 100000 in
theorem okM_198 : OM 198 := ⟨rfl, by decide +kernel⟩
set_option maxRecDepth 100000 in
theorem okB_199 : OKB 199 := OKB.of (by decide +kernel)
set_option maxRecDepth 100000 in
theorem okM_199 : OM 199 := ⟨rfl, by decide +kernel⟩
set_option maxRecDepth 100000 in
theorem okB_200 : OKB 200 := OKB.of (by decide +kernel)
set_option maxRecDepth 100000 in
theorem okM_200 : OM 200 := ⟨rfl, by decide +kernel⟩
set_option maxRecDepth 100000 in
theorem okB_201 : OKB 201 := OKB.of (by decide +kernel)
set_option maxRecDepth 100000 in
theorem okM_201 : OM 201 := ⟨rfl, by decide +kernel⟩
set_option maxRecDepth 100000 in
theorem okB_202 : OKB 202 := OKB.of (by decide +kernel)
set_option maxRecDepth 100000 in
theorem okM_202 : OM 202 := ⟨rfl, by decide +kernel⟩
set_option maxRecDepth 100000 in
theorem okB_203 : OKB 203 := OKB.of (by decide +kernel)
set_option maxRecDepth 100000 in
theorem okM_203 : OM 203 := ⟨rfl, by decide +kernel⟩
set_option maxRecDepth 100000 in
theorem okB_205 : OKB 205 := OKB.of (by decide +kernel)
set_option maxRecDepth 100000 in
theorem okM_205 : OM 205 := ⟨rfl, by decide +kernel⟩
set_option maxRecDepth 100000 in
theorem okB_206 : OKB 206 := OKB.of (by decide +kernel)
set_option maxRecDepth 100000 in
theorem okM_206 : OM 206 := ⟨rfl, by decide +kernel⟩
set_option maxRecDepth 100000 in
theorem okB_207 : OKB 207 := OKB.of (by decide +kernel)
set_option maxRecDepth 100000 in
theorem okM_207 : OM 207 := ⟨rfl, by decide +kernel⟩
set_option maxRecDepth 100000 in
theorem okB_208 : OKB 208 := OKB.of (by decide +kernel)
set_option maxRecDepth 100000 in
theorem okM_208 : OM 208 := ⟨rfl, by decide +kernel⟩
set_option maxRecDepth 100000 in
theorem okB_209 : OKB 209 := OKB.of (by decide +kernel)
set_option maxRecDepth 100000 in
theorem okM_209 : OM 209 := ⟨rfl, by decide +kernel⟩
set_option maxRecDepth 100000 in
theorem okB_210 : OKB 210 := OKB.of (by decide +kernel)
set_option maxRecDepth 100000 in
theorem okM_210 : OM 210 := ⟨rfl, by decide +kernel⟩
set_option maxRecDepth 100000 in
theorem okB_211 : OKB 211 := OKB.of (by decide +kernel)
set_option maxRecDepth 100000 in
theorem okM_211 : OM 211 := ⟨rfl, by decide +kernel⟩
set_option maxRecDepth 100000 in
theorem okB_212 : OKB 212 := OKB.of (by decide +kernel)
set_option maxRecDepth 100000 in
theorem okM_212 : OM 212 := ⟨rfl, by decide +kernel⟩
set_option maxRecDepth 100000 in
theorem okB_213 : OKB 213 := OKB.of (by decide +kernel)
set_option maxRecDepth 100000 in
theorem okM_213 : OM 213 := ⟨rfl, by decide +kernel⟩
set_option maxRecDepth 100000 in
theorem okB_214 : OKB 214 := OKB.of (by decide +kernel)
set_option maxRecDepth 100000 in
theorem okM_214 : OM 214 := ⟨rfl, by decide +kernel⟩
