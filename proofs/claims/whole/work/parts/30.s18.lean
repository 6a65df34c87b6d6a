/-! THE PURE SIDE, 5: constructors, printed by wip/tools/genc.py -/
theorem c2_129 {d : Nat} {h : HV} {S : Int} {Q : Int → HV → Prop} (hs : h 0 0 = 3) (hl : h 0 1 = S) (hQ : ∀ h' : HV, h' 0 0 = 4 → h' 0 1 = S + 2400 → h' 129 0 = 227 → (∀ i, i ≠ 0 → h' 129 i = h 129 i) → h' 227 (-1) = 2400 → (∀ i, i ≠ -1 → h' 227 i = 0) → (∀ a, a ≠ 0 → a ≠ 129 → a ≠ 227 → h' a = h a) → Q 0 h') : Sp f0 d 2 [(3, 129)] h Q := by
  unfold Sp
  apply G_in
  simp only [en2, b2_0, x_aload0, x_iconst, x_new_35, x_obj, x_pc_1027, x_return, klp_0, klp_1, klp_2, klp_3, klp_9, f0_n]
  repeat' refine And.intro ?_ ?_
  all_goals first
    | decide
    | exact fun _ => trivial
    | refine hQ _ ?_ ?_ ?_ ?_ ?_ ?_ ?_
  all_goals first
    | (simp [hset_v, alc_v, hs, hl]; done)
    | (simp [hset_v, alc_v, hs, hl]; omega)
    | (intro i; intros; simp_all [hset_v, alc_v]; done)
    | (intro a; intros; funext b; simp_all [hset_v, alc_v]; done)
theorem c3_258 {d : Nat} {h : HV} {S : Int} {Q : Int → HV → Prop} (hs : h 0 0 = 5) (hl : h 0 1 = S) (hQ : ∀ h' : HV, h' 0 0 = 10 → h' 0 1 = S + 2008 → h' 258 0 = 129 → h' 258 4 = 353 → h' 258 5 = 416 → h' 258 7 = 481 → h' 258 8 = 544 → h' 258 9 = 608 → (∀ i, i ≠ 0 → i ≠ 4 → i ≠ 5 → i ≠ 7 → i ≠ 8 → i ≠ 9 → h' 258 i = h 258 i) → h' 353 (-1) = 404 → (∀ i, i ≠ -1 → h' 353 i = 0) → h' 416 (-1) = 404 → (∀ i, i ≠ -1 → h' 416 i = 0) → h' 481 (-1) = 400 → (∀ i, i ≠ -1 → h' 481 i = 0) → h' 544 (-1) = 400 → (∀ i, i ≠ -1 → h' 544 i = 0) → h' 608 (-1) = 400 → (∀ i, i ≠ -1 → h' 608 i = 0) → (∀ a, a ≠ 0 → a ≠ 258 → a ≠ 353 → a ≠ 416 → a ≠ 481 → a ≠ 544 → a ≠ 608 → h' a = h a) → Q 0 h') : Sp f0 d 3 [(3, 258), (3, 129)] h Q := by
  unfold Sp
  apply G_in
  simp only [en3, b3_0, x_aload0, x_aload1, x_iconst, x_new_32, x_new_33, x_obj, x_pc_2051, x_pc_2083, x_pc_2091, x_pc_2107, x_pc_2115, x_pc_2123, x_return, klp_0, klp_1, klp_2, klp_3, klp_9, f0_n]
  repeat' refine And.intro ?_ ?_
  all_goals first
    | decide
    | exact fun _ => trivial
    | refine hQ _ ?_ ?_ ?_ ?_ ?_ ?_ ?_ ?_ ?_ ?_ ?_ ?_ ?_ ?_ ?_ ?_ ?_ ?_ ?_ ?_
  all_goals first
    | (simp [hset_v, alc_v, hs, hl]; done)
    | (simp [hset_v, alc_v, hs, hl]; omega)
    | (intro i; intros; simp_all [hset_v, alc_v]; done)
    | (intro a; intros; funext b; simp_all [hset_v, alc_v]; done)
theorem c4_643 {d : Nat} {h : HV} {S : Int} {Q : Int → HV → Prop} (hs : h 0 0 = 11) (hl : h 0 1 = S) (hQ : ∀ h' : HV, h' 0 0 = 13 → h' 0 1 = S + 320 → h' 643 0 = 736 → h' 643 1 = 801 → (∀ i, i ≠ 0 → i ≠ 1 → h' 643 i = h 643 i) → h' 736 (-1) = 64 → (∀ i, i ≠ -1 → h' 736 i = 0) → h' 801 (-1) = 256 → (∀ i, i ≠ -1 → h' 801 i = 0) → (∀ a, a ≠ 0 → a ≠ 643 → a ≠ 736 → a ≠ 801 → h' a = h a) → Q 0 h') : Sp f0 d 4 [(3, 643)] h Q := by
  unfold Sp
  apply G_in
  simp only [en4, b4_0, x_aload0, x_iconst, x_new_32, x_new_33, x_obj, x_pf_3075, x_pf_3083, x_return, klp_0, klp_1, klp_2, klp_3, klp_9, f0_n]
  repeat' refine And.intro ?_ ?_
  all_goals first
    | decide
    | exact fun _ => trivial
    | refine hQ _ ?_ ?_ ?_ ?_ ?_ ?_ ?_ ?_ ?_ ?_
  all_goals first
    | (simp [hset_v, alc_v, hs, hl]; done)
    | (simp [hset_v, alc_v, hs, hl]; omega)
    | (intro i; intros; simp_all [hset_v, alc_v]; done)
    | (intro a; intros; funext b; simp_all [hset_v, alc_v]; done)
theorem c5_836 {d : Nat} {h : HV} {S : Int} {Q : Int → HV → Prop} (hs : h 0 0 = 14) (hl : h 0 1 = S) (hQ : ∀ h' : HV, h' 0 0 = 18 → h' 0 1 = S + 264 → h' 836 0 = 928 → h' 836 1 = 992 → h' 836 2 = 1056 → h' 836 3 = 1120 → (∀ i, i ≠ 0 → i ≠ 1 → i ≠ 2 → i ≠ 3 → h' 836 i = h 836 i) → h' 928 (-1) = 24 → (∀ i, i ≠ -1 → h' 928 i = 0) → h' 992 (-1) = 24 → (∀ i, i ≠ -1 → h' 992 i = 0) → h' 1056 (-1) = 24 → (∀ i, i ≠ -1 → h' 1056 i = 0) → h' 1120 (-1) = 192 → (∀ i, i ≠ -1 → h' 1120 i = 0) → (∀ a, a ≠ 0 → a ≠ 836 → a ≠ 928 → a ≠ 992 → a ≠ 1056 → a ≠ 1120 → h' a = h a) → Q 0 h') : Sp f0 d 5 [(3, 836)] h Q := by
  unfold Sp
  apply G_in
  simp only [en5, b5_0, x_aload0, x_iconst, x_new_32, x_obj, x_pc_4099, x_pc_4107, x_pc_4115, x_pc_4123, x_return, klp_0, klp_1, klp_2, klp_3, klp_9, f0_n]
  repeat' refine And.intro ?_ ?_
  all_goals first
    | decide
    | exact fun _ => trivial
    | refine hQ _ ?_ ?_ ?_ ?_ ?_ ?_ ?_ ?_ ?_ ?_ ?_ ?_ ?_ ?_ ?_ ?_
  all_goals first
    | (simp [hset_v, alc_v, hs, hl]; done)
    | (simp [hset_v, alc_v, hs, hl]; omega)
    | (intro i; intros; simp_all [hset_v, alc_v]; done)
    | (intro a; intros; funext b; simp_all [hset_v, alc_v]; done)
theorem c7_1222 {d : Nat} {h : HV} {S : Int} {Q : Int → HV → Prop} (hs : h 0 0 = 20) (hl : h 0 1 = S) (hQ : ∀ h' : HV, h' 0 0 = 22 → h' 0 1 = S + 512 → h' 1222 0 = 1312 → h' 1222 1 = 1377 → (∀ i, i ≠ 0 → i ≠ 1 → h' 1222 i = h 1222 i) → h' 1312 (-1) = 256 → (∀ i, i ≠ -1 → h' 1312 i = 0) → h' 1377 (-1) = 256 → (∀ i, i ≠ -1 → h' 1377 i = 0) → (∀ a, a ≠ 0 → a ≠ 1222 → a ≠ 1312 → a ≠ 1377 → h' a = h a) → Q 0 h') : Sp f0 d 7 [(3, 1222)] h Q := by
  unfold Sp
  apply G_in
  simp only [en7, b7_0, x_aload0, x_iconst, x_new_32, x_new_33, x_obj, x_pf_6147, x_pf_6155, x_return, klp_0, klp_1, klp_2, klp_3, klp_9, f0_n]
  repeat' refine And.intro ?_ ?_
  all_goals first
    | decide
    | exact fun _ => trivial
    | refine hQ _ ?_ ?_ ?_ ?_ ?_ ?_ ?_ ?_ ?_ ?_
  all_goals first
    | (simp [hset_v, alc_v, hs, hl]; done)
    | (simp [hset_v, alc_v, hs, hl]; omega)
    | (intro i; intros; simp_all [hset_v, alc_v]; done)
    | (intro a; intros; funext b; simp_all [hset_v, alc_v]; done)
theorem c8_1927 {d : Nat} {h : HV} {S : Int} {Q : Int → HV → Prop} (hs : h 0 0 = 31) (hl : h 0 1 = S) (hQ : ∀ h' : HV, h' 0 0 = 40 → h' 0 1 = S + 395 → h' 1927 1 = 4 → h' 1927 2 = 2016 → h' 1927 3 = 2080 → h' 1927 4 = 2144 → h' 1927 5 = 2208 → h' 1927 6 = 2272 → h' 1927 7 = 2336 → h' 1927 8 = 2400 → h' 1927 9 = 2464 → h' 1927 11 = 2528 → (∀ i, i ≠ 1 → i ≠ 2 → i ≠ 3 → i ≠ 4 → i ≠ 5 → i ≠ 6 → i ≠ 7 → i ≠ 8 → i ≠ 9 → i ≠ 11 → h' 1927 i = h 1927 i) → h' 2016 (-1) = 10 → (∀ i, i ≠ -1 → h' 2016 i = 0) → h' 2080 (-1) = 240 → (∀ i, i ≠ -1 → h' 2080 i = 0) → h' 2144 (-1) = 37 → (∀ i, i ≠ -1 → h' 2144 i = 0) → h' 2208 (-1) = 36 → (∀ i, i ≠ -1 → h' 2208 i = 0) → h' 2272 (-1) = 6 → (∀ i, i ≠ -1 → h' 2272 i = 0) → h' 2336 (-1) = 8 → (∀ i, i ≠ -1 → h' 2336 i = 0) → h' 2400 (-1) = 10 → (∀ i, i ≠ -1 → h' 2400 i = 0) → h' 2464 (-1) = 12 → (∀ i, i ≠ -1 → h' 2464 i = 0) → h' 2528 (-1) = 36 → (∀ i, i ≠ -1 → h' 2528 i = 0) → (∀ a, a ≠ 0 → a ≠ 1927 → a ≠ 2016 → a ≠ 2080 → a ≠ 2144 → a ≠ 2208 → a ≠ 2272 → a ≠ 2336 → a ≠ 2400 → a ≠ 2464 → a ≠ 2528 → h' a = h a) → Q 0 h') : Sp f0 d 8 [(3, 1927)] h Q := by
  unfold Sp
  apply G_in
  simp only [en8, b8_0, x_aload0, x_iconst, x_new_32, x_obj, x_pc_7187, x_pc_7195, x_pc_7203, x_pc_7211, x_pc_7219, x_pc_7227, x_pc_7235, x_pc_7243, x_pc_7259, x_pf_7176, x_return, klp_0, klp_1, klp_2, klp_3, klp_9, f0_n]
  repeat' refine And.intro ?_ ?_
  all_goals first
    | decide
    | exact fun _ => trivial
    | refine hQ _ ?_ ?_ ?_ ?_ ?_ ?_ ?_ ?_ ?_ ?_ ?_ ?_ ?_ ?_ ?_ ?_ ?_ ?_ ?_ ?_ ?_ ?_ ?_ ?_ ?_ ?_ ?_ ?_ ?_ ?_ ?_ ?_
  all_goals first
    | (simp [hset_v, alc_v, hs, hl]; done)
    | (simp [hset_v, alc_v, hs, hl]; omega)
    | (intro i; intros; simp_all [hset_v, alc_v]; done)
    | (intro a; intros; funext b; simp_all [hset_v, alc_v]; done)
theorem c9_2568 {d : Nat} {h : HV} {S : Int} {Q : Int → HV → Prop} (hs : h 0 0 = 41) (hl : h 0 1 = S) (hQ : ∀ h' : HV, h' 0 0 = 46 → h' 0 1 = S + 64 → h' 2568 0 = 1927 → h' 2568 2 = 2656 → h' 2568 3 = 2720 → h' 2568 5 = 2784 → h' 2568 7 = 2848 → h' 2568 8 = 2912 → (∀ i, i ≠ 0 → i ≠ 2 → i ≠ 3 → i ≠ 5 → i ≠ 7 → i ≠ 8 → h' 2568 i = h 2568 i) → h' 2656 (-1) = 10 → (∀ i, i ≠ -1 → h' 2656 i = 0) → h' 2720 (-1) = 36 → (∀ i, i ≠ -1 → h' 2720 i = 0) → h' 2784 (-1) = 6 → (∀ i, i ≠ -1 → h' 2784 i = 0) → h' 2848 (-1) = 6 → (∀ i, i ≠ -1 → h' 2848 i = 0) → h' 2912 (-1) = 6 → (∀ i, i ≠ -1 → h' 2912 i = 0) → (∀ a, a ≠ 0 → a ≠ 2568 → a ≠ 2656 → a ≠ 2720 → a ≠ 2784 → a ≠ 2848 → a ≠ 2912 → h' a = h a) → Q 0 h') : Sp f0 d 9 [(3, 2568), (3, 1927)] h Q := by
  unfold Sp
  apply G_in
  simp only [en9, b9_0, x_aload0, x_aload1, x_iconst, x_new_32, x_obj, x_pc_8195, x_pc_8211, x_pc_8219, x_pc_8235, x_pc_8251, x_pc_8259, x_return, klp_0, klp_1, klp_2, klp_3, klp_9, f0_n]
  repeat' refine And.intro ?_ ?_
  all_goals first
    | decide
    | exact fun _ => trivial
    | refine hQ _ ?_ ?_ ?_ ?_ ?_ ?_ ?_ ?_ ?_ ?_ ?_ ?_ ?_ ?_ ?_ ?_ ?_ ?_ ?_ ?_
  all_goals first
    | (simp [hset_v, alc_v, hs, hl]; done)
    | (simp [hset_v, alc_v, hs, hl]; omega)
    | (intro i; intros; simp_all [hset_v, alc_v]; done)
    | (intro a; intros; funext b; simp_all [hset_v, alc_v]; done)
theorem c10_2953 {d : Nat} {h : HV} {S : Int} {Q : Int → HV → Prop} (hs : h 0 0 = 47) (hl : h 0 1 = S) (hQ : ∀ h' : HV, h' 0 0 = 54 → h' 0 1 = S + 488 → h' 2953 0 = 836 → h' 2953 2 = 3040 → h' 2953 3 = 3104 → h' 2953 4 = 3168 → h' 2953 5 = 3232 → h' 2953 7 = 3296 → h' 2953 8 = 3360 → h' 2953 9 = 3428 → (∀ i, i ≠ 0 → i ≠ 2 → i ≠ 3 → i ≠ 4 → i ≠ 5 → i ≠ 7 → i ≠ 8 → i ≠ 9 → h' 2953 i = h 2953 i) → h' 3040 (-1) = 192 → (∀ i, i ≠ -1 → h' 3040 i = 0) → h' 3104 (-1) = 24 → (∀ i, i ≠ -1 → h' 3104 i = 0) → h' 3168 (-1) = 192 → (∀ i, i ≠ -1 → h' 3168 i = 0) → h' 3232 (-1) = 24 → (∀ i, i ≠ -1 → h' 3232 i = 0) → h' 3296 (-1) = 24 → (∀ i, i ≠ -1 → h' 3296 i = 0) → h' 3360 (-1) = 8 → (∀ i, i ≠ -1 → h' 3360 i = 0) → h' 3428 (-1) = 24 → (∀ i, i ≠ -1 → h' 3428 i = 0) → (∀ a, a ≠ 0 → a ≠ 2953 → a ≠ 3040 → a ≠ 3104 → a ≠ 3168 → a ≠ 3232 → a ≠ 3296 → a ≠ 3360 → a ≠ 3428 → h' a = h a) → Q 0 h') : Sp f0 d 10 [(3, 2953), (3, 836)] h Q := by
  unfold Sp
  apply G_in
  simp only [en10, b10_0, x_aload0, x_aload1, x_iconst, x_new_32, x_new_36, x_obj, x_pc_9219, x_pc_9235, x_pc_9243, x_pc_9251, x_pc_9259, x_pc_9275, x_pc_9283, x_pc_9291, x_return, klp_0, klp_1, klp_2, klp_3, klp_9, f0_n]
  repeat' refine And.intro ?_ ?_
  all_goals first
    | decide
    | exact fun _ => trivial
    | refine hQ _ ?_ ?_ ?_ ?_ ?_ ?_ ?_ ?_ ?_ ?_ ?_ ?_ ?_ ?_ ?_ ?_ ?_ ?_ ?_ ?_ ?_ ?_ ?_ ?_ ?_ ?_
  all_goals first
    | (simp [hset_v, alc_v, hs, hl]; done)
    | (simp [hset_v, alc_v, hs, hl]; omega)
    | (intro i; intros; simp_all [hset_v, alc_v]; done)
    | (intro a; intros; funext b; simp_all [hset_v, alc_v]; done)
theorem c11_3466 {d : Nat} {h : HV} {S : Int} {Q : Int → HV → Prop} (hs : h 0 0 = 55) (hl : h 0 1 = S) (hQ : ∀ h' : HV, h' 0 0 = 77 → h' 0 1 = S + 2648 → h' 3466 0 = 3557 → h' 3466 1 = 4064 → h' 3466 2 = 4128 → h' 3466 3 = 4192 → h' 3466 4 = 4256 → h' 3466 5 = 4320 → h' 3466 6 = 4384 → h' 3466 7 = 4448 → h' 3466 8 = 4512 → h' 3466 9 = 4576 → h' 3466 10 = 4640 → h' 3466 12 = 4704 → h' 3466 13 = 4768 → h' 3466 14 = 4832 → h' 3466 16 = 4896 → (∀ i, i ≠ 0 → i ≠ 1 → i ≠ 2 → i ≠ 3 → i ≠ 4 → i ≠ 5 → i ≠ 6 → i ≠ 7 → i ≠ 8 → i ≠ 9 → i ≠ 10 → i ≠ 12 → i ≠ 13 → i ≠ 14 → i ≠ 16 → h' 3466 i = h 3466 i) → h' 3557 (-1) = 7 → (∀ i, i ≠ -1 → h' 3557 i = 0) → h' 3617 (-1) = 12 → (∀ i, i ≠ -1 → h' 3617 i = 0) → h' 3681 (-1) = 12 → (∀ i, i ≠ -1 → h' 3681 i = 0) → h' 3745 (-1) = 12 → (∀ i, i ≠ -1 → h' 3745 i = 0) → h' 3809 (-1) = 12 → (∀ i, i ≠ -1 → h' 3809 i = 0) → h' 3873 (-1) = 12 → (∀ i, i ≠ -1 → h' 3873 i = 0) → h' 3937 (-1) = 12 → (∀ i, i ≠ -1 → h' 3937 i = 0) → h' 4001 (-1) = 12 → (∀ i, i ≠ -1 → h' 4001 i = 0) → h' 4064 (-1) = 7 → (∀ i, i ≠ -1 → h' 4064 i = 0) → h' 4128 (-1) = 6 → (∀ i, i ≠ -1 → h' 4128 i = 0) → h' 4192 (-1) = 10 → (∀ i, i ≠ -1 → h' 4192 i = 0) → h' 4256 (-1) = 10 → (∀ i, i ≠ -1 → h' 4256 i = 0) → h' 4320 (-1) = 8 → (∀ i, i ≠ -1 → h' 4320 i = 0) → h' 4384 (-1) = 12 → (∀ i, i ≠ -1 → h' 4384 i = 0) → h' 4448 (-1) = 12 → (∀ i, i ≠ -1 → h' 4448 i = 0) → h' 4512 (-1) = 12 → (∀ i, i ≠ -1 → h' 4512 i = 0) → h' 4576 (-1) = 8 → (∀ i, i ≠ -1 → h' 4576 i = 0) → h' 4640 (-1) = 36 → (∀ i, i ≠ -1 → h' 4640 i = 0) → h' 4704 (-1) = 12 → (∀ i, i ≠ -1 → h' 4704 i = 0) → h' 4768 (-1) = 12 → (∀ i, i ≠ -1 → h' 4768 i = 0) → h' 4832 (-1) = 12 → (∀ i, i ≠ -1 → h' 4832 i = 0) → h' 4896 (-1) = 2400 → (∀ i, i ≠ -1 → h' 4896 i = 0) → (∀ a, a ≠ 0 → a ≠ 3466 → a ≠ 3557 → a ≠ 3617 → a ≠ 3681 → a ≠ 3745 → a ≠ 3809 → a ≠ 3873 → a ≠ 3937 → a ≠ 4001 → a ≠ 4064 → a ≠ 4128 → a ≠ 4192 → a ≠ 4256 → a ≠ 4320 → a ≠ 4384 → a ≠ 4448 → a ≠ 4512 → a ≠ 4576 → a ≠ 4640 → a ≠ 4704 → a ≠ 4768 → a ≠ 4832 → a ≠ 4896 → h' a = h a) → Q 0 h') : Sp f0 d 11 [(3, 3466)] h Q := by
  unfold Sp
  apply G_in
  simp only [en11, b11_0, x_aload0, x_iconst, x_mna, x_new_32, x_obj, x_pc_10243, x_pc_10251, x_pc_10259, x_pc_10267, x_pc_10275, x_pc_10283, x_pc_10291, x_pc_10299, x_pc_10307, x_pc_10315, x_pc_10323, x_pc_10339, x_pc_10347, x_pc_10355, x_pc_10371, x_return, klp_0, klp_1, klp_2, klp_3, klp_9, f0_n]
  repeat' refine And.intro ?_ ?_
  all_goals first
    | decide
    | exact fun _ => trivial
    | refine hQ _ ?_ ?_ ?_ ?_ ?_ ?_ ?_ ?_ ?_ ?_ ?_ ?_ ?_ ?_ ?_ ?_ ?_ ?_ ?_ ?_ ?_ ?_ ?_ ?_ ?_ ?_ ?_ ?_ ?_ ?_ ?_ ?_ ?_ ?_ ?_ ?_ ?_ ?_ ?_ ?_ ?_ ?_ ?_ ?_ ?_ ?_ ?_ ?_ ?_ ?_ ?_ ?_ ?_ ?_ ?_ ?_ ?_ ?_ ?_ ?_ ?_ ?_ ?_
  all_goals first
    | (simp [hset_v, alc_v, hs, hl]; done)
    | (simp [hset_v, alc_v, hs, hl]; omega)
    | (intro i; intros; simp_all [hset_v, alc_v]; done)
    | (intro a; intros; funext b; simp_all [hset_v, alc_v]; done)
theorem c11_4938 {d : Nat} {h : HV} {S : Int} {Q : Int → HV → Prop} (hs : h 0 0 = 78) (hl : h 0 1 = S) (hQ : ∀ h' : HV, h' 0 0 = 100 → h' 0 1 = S + 2648 → h' 4938 0 = 5029 → h' 4938 1 = 5536 → h' 4938 2 = 5600 → h' 4938 3 = 5664 → h' 4938 4 = 5728 → h' 4938 5 = 5792 → h' 4938 6 = 5856 → h' 4938 7 = 5920 → h' 4938 8 = 5984 → h' 4938 9 = 6048 → h' 4938 10 = 6112 → h' 4938 12 = 6176 → h' 4938 13 = 6240 → h' 4938 14 = 6304 → h' 4938 16 = 6368 → (∀ i, i ≠ 0 → i ≠ 1 → i ≠ 2 → i ≠ 3 → i ≠ 4 → i ≠ 5 → i ≠ 6 → i ≠ 7 → i ≠ 8 → i ≠ 9 → i ≠ 10 → i ≠ 12 → i ≠ 13 → i ≠ 14 → i ≠ 16 → h' 4938 i = h 4938 i) → h' 5029 (-1) = 7 → (∀ i, i ≠ -1 → h' 5029 i = 0) → h' 5089 (-1) = 12 → (∀ i, i ≠ -1 → h' 5089 i = 0) → h' 5153 (-1) = 12 → (∀ i, i ≠ -1 → h' 5153 i = 0) → h' 5217 (-1) = 12 → (∀ i, i ≠ -1 → h' 5217 i = 0) → h' 5281 (-1) = 12 → (∀ i, i ≠ -1 → h' 5281 i = 0) → h' 5345 (-1) = 12 → (∀ i, i ≠ -1 → h' 5345 i = 0) → h' 5409 (-1) = 12 → (∀ i, i ≠ -1 → h' 5409 i = 0) → h' 5473 (-1) = 12 → (∀ i, i ≠ -1 → h' 5473 i = 0) → h' 5536 (-1) = 7 → (∀ i, i ≠ -1 → h' 5536 i = 0) → h' 5600 (-1) = 6 → (∀ i, i ≠ -1 → h' 5600 i = 0) → h' 5664 (-1) = 10 → (∀ i, i ≠ -1 → h' 5664 i = 0) → h' 5728 (-1) = 10 → (∀ i, i ≠ -1 → h' 5728 i = 0) → h' 5792 (-1) = 8 → (∀ i, i ≠ -1 → h' 5792 i = 0) → h' 5856 (-1) = 12 → (∀ i, i ≠ -1 → h' 5856 i = 0) → h' 5920 (-1) = 12 → (∀ i, i ≠ -1 → h' 5920 i = 0) → h' 5984 (-1) = 12 → (∀ i, i ≠ -1 → h' 5984 i = 0) → h' 6048 (-1) = 8 → (∀ i, i ≠ -1 → h' 6048 i = 0) → h' 6112 (-1) = 36 → (∀ i, i ≠ -1 → h' 6112 i = 0) → h' 6176 (-1) = 12 → (∀ i, i ≠ -1 → h' 6176 i = 0) → h' 6240 (-1) = 12 → (∀ i, i ≠ -1 → h' 6240 i = 0) → h' 6304 (-1) = 12 → (∀ i, i ≠ -1 → h' 6304 i = 0) → h' 6368 (-1) = 2400 → (∀ i, i ≠ -1 → h' 6368 i = 0) → (∀ a, a ≠ 0 → a ≠ 4938 → a ≠ 5029 → a ≠ 5089 → a ≠ 5153 → a ≠ 5217 → a ≠ 5281 → a ≠ 5345 → a ≠ 5409 → a ≠ 5473 → a ≠ 5536 → a ≠ 5600 → a ≠ 5664 → a ≠ 5728 → a ≠ 5792 → a ≠ 5856 → a ≠ 5920 → a ≠ 5984 → a ≠ 6048 → a ≠ 6112 → a ≠ 6176 → a ≠ 6240 → a ≠ 6304 → a ≠ 6368 → h' a = h a) → Q 0 h') : Sp f0 d 11 [(3, 4938)] h Q := by
  unfold Sp
  apply G_in
  simp only [en11, b11_0, x_aload0, x_iconst, x_mna, x_new_32, x_obj, x_pc_10243, x_pc_10251, x_pc_10259, x_pc_10267, x_pc_10275, x_pc_10283, x_pc_10291, x_pc_10299, x_pc_10307, x_pc_10315, x_pc_10323, x_pc_10339, x_pc_10347, x_pc_10355, x_pc_10371, x_return, klp_0, klp_1, klp_2, klp_3, klp_9, f0_n]
  repeat' refine And.intro ?_ ?_
  all_goals first
    | decide
    | exact fun _ => trivial
    | refine hQ _ ?_ ?_ ?_ ?_ ?_ ?_ ?_ ?_ ?_ ?_ ?_ ?_ ?_ ?_ ?_ ?_ ?_ ?_ ?_ ?_ ?_ ?_ ?_ ?_ ?_ ?_ ?_ ?_ ?_ ?_ ?_ ?_ ?_ ?_ ?_ ?_ ?_ ?_ ?_ ?_ ?_ ?_ ?_ ?_ ?_ ?_ ?_ ?_ ?_ ?_ ?_ ?_ ?_ ?_ ?_ ?_ ?_ ?_ ?_ ?_ ?_ ?_ ?_
  all_goals first
    | (simp [hset_v, alc_v, hs, hl]; done)
    | (simp [hset_v, alc_v, hs, hl]; omega)
    | (intro i; intros; simp_all [hset_v, alc_v]; done)
    | (intro a; intros; funext b; simp_all [hset_v, alc_v]; done)
