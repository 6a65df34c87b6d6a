/-! THE PURE SIDE, 5: constructors, printed by wip/tools/genc.py -/
theorem c2_129 {d : Nat} {h : HV} {S : Int} {Q : Int → HV → Prop} (hs : h 0 0 = 3) (hl : h 0 1 = S) (hQ : ∀ h' : HV, h' 0 0 = 4 → h' 0 1 = S + 2400 → h' 129 0 = 227 → (∀ i, i ≠ 0 → h' 129 i = h 129 i) → h' 227 (-1) = 2400 → (∀ i, i ≠ -1 → h' 227 i = 0) → (∀ a, a ≠ 0 → a ≠ 129 → a ≠ 227 → h' a = h a) → Q 0 h') : Sp f0 d 2 [(3, 129)] h Q := by
  unfold Sp
  apply G_in
  simp only [en2, b2_0, x_aload0, x_iconst, x_new_35, x_obj, x_pc_1027, x_return, klp_0, klp_1, klp_2, klp_3, klp_9, f0_n]
  repeat' refine And.intro ?_ ?_
  all_goals first
    | decide
    | exact fun _ => trivial
    | refine hQ _ ?_ ?_ ?_ ?_ ?_ ?_ ?_
  all_goals first
    | (simp [hset_v, alc_v, hs, hl]; done)
    | (simp [hset_v, alc_v, hs, hl]; omega)
    | (intro i; intros; simp_all [hset_v, alc_v]; done)
    | (intro a; intros; funext b; simp_all [hset_v, alc_v]; done)
theorem c3_258 {d : Nat} {h : HV} {S : Int} {Q : Int → HV → Prop} (hs : h 0 0 = 5) (hl : h 0 1 = S) (hQ : ∀ h' : HV, h' 0 0 = 10 → h' 0 1 = S + 2008 → h' 258 0 = 129 → h' 258 4 = 353 → h' 258 5 = 416 → h' 258 7 = 481 → h' 258 8 = 544 → h' 258 9 = 608 → (∀ i, i ≠ 0 → i ≠ 4 → i ≠ 5 → i ≠ 7 → i ≠ 8 → i ≠ 9 → h' 258 i = h 258 i) → h' 353 (-1) = 404 → (∀ i, i ≠ -1 → h' 353 i = 0) → h' 416 (-1) = 404 → (∀ i, i ≠ -1 → h' 416 i = 0) → h' 481 (-1) = 400 → (∀ i, i ≠ -1 → h' 481 i = 0) → h' 544 (-1) = 400 → (∀ i, i ≠ -1 → h' 544 i = 0) → h' 608 (-1) = 400 → (∀ i, i ≠ -1 → h' 608 i = 0) → (∀ a, a ≠ 0 → a ≠ 258 → a ≠ 353 → a ≠ 416 → a ≠ 481 → a ≠ 544 → a ≠ 608 → h' a = h a) → Q 0 h') : Sp f0 d 3 [(3, 258), (3, 129)] h Q := by
  unfold Sp
  apply G_in
  simp only [en3, b3_0, x_aload0, x_aload1, x_iconst, x_new_32, x_new_33, x_obj, x_pc_2051, x_pc_2083, x_pc_2091, x_pc_2107, x_pc_2115, x_pc_2123, x_return, klp_0, klp_1, klp_2, klp_3, klp_9, f0_n]
  repeat' refine And.intro ?_ ?_
  all_goals first
    | decide
    | exact fun _ => trivial
    | refine hQ _ ?_ ?_ ?_ ?_ ?_ ?_ ?_ ?_ ?_ ?_ ?_ ?_ ?_ ?_ ?_ ?_ ?_ ?_ ?_ ?_
  all_goals first
    | (simp [hset_v, alc_v, hs, hl]; done)
    | (simp [hset_v, alc_v, hs, hl]; omega)
    | (intro i; intros; simp_all [hset_v, alc_v]; done)
    | (intro a; intros; funext b; simp_all [hset_v, alc_v]; done)
theorem c4_643 {d : Nat} {h : HV} {S : Int} {Q : Int → HV → Prop} (hs : h 0 0 = 11) (hl : h 0 1 = S) (hQ : ∀ h' : HV, h' 0 0 = 13 → h' 0 1 = S + 320 → h' 643 0 = 736 → h' 643 1 = 801 → (∀ i, i ≠ 0 → i ≠ 1 → h' 643 i = h 643 i) → h' 736 (-1) = 64 → (∀ i, i ≠ -1 → h' 736 i = 0) → h' 801 (-1) = 256 → (∀ i, i ≠ -1 → h' 801 i = 0) → (∀ a, a ≠ 0 → a ≠ 643 → a ≠ 736 → a ≠ 801 → h' a = h a) → Q 0 h') : Sp f0 d 4 [(3, 643)] h Q := by
  unfold Sp
  apply G_in
  simp only [en4, b4_0, x_aload0, x_iconst, x_new_32, x_new_33, x_obj, x_pf_3075, x_pf_3083, x_return, klp_0, klp_1, klp_2, klp_3, klp_9, f0_n]
  repeat' refine And.intro ?_ ?_
  all_goals first
    | decide
    | exact fun _ => trivial
    | refine hQ _ ?_ ?_ ?_ ?_ ?_ ?_ ?_ ?_ ?_ ?_
  all_goals first
    | (simp [hset_v, alc_v, hs, hl]; done)
    | (simp [hset_v, alc_v, hs, hl]; omega)
    | (intro i; intros; simp_all [hset_v, alc_v]; done)
    | (intro a; intros; funext b; simp_all [hset_v, alc_v]; done)
theorem c5_836 {d : Nat} {h : HV} {S : Int} {Q : Int → HV → Prop} (hs : h 0 0 = 14) (hl : h 0 1 = S) (hQ : ∀ h' : HV, h' 0 0 = 18 → h' 0 1 = S + 264 → h' 836 0 = 928 → h' 836 1 = 992 → h' 836 2 = 1056 → h' 836 3 = 1120 → (∀ i, i ≠ 0 → i ≠ 1 → i ≠ 2 → i ≠ 3 → h' 836 i = h 836 i) → h' 928 (-1) = 24 → (∀ i, i ≠ -1 → h' 928 i = 0) → h' 992 (-1) = 24 → (∀ i, i ≠ -1 → h' 992 i = 0) → h' 1056 (-1) = 24 → (∀ i, i ≠ -1 → h' 1056 i = 0) → h' 1120 (-1) = 192 → (∀ i, i ≠ -1 → h' 1120 i = 0) → (∀ a, a ≠ 0 → a ≠ 836 → a ≠ 928 → a ≠ 992 → a ≠ 1056 → a ≠ 1120 → h' a = h a) → Q 0 h') : Sp f0 d 5 [(3, 836)] h Q := by
  unfold Sp
  apply G_in
  simp only [en5, b5_0, x_aload0, x_iconst, x_new_32, x_obj, x_pc_4099, x_pc_4107, x_pc_4115, x_pc_4123, x_return, klp_0, klp_1, klp_2, klp_3, klp_9, f0_n]
  repeat' refine And.intro ?_ ?_
  all_goals first
    | decide
    | exact fun _ => trivial
    | refine hQ _ ?_ ?_ ?_ ?_ ?_ ?_ ?_ ?_ ?_ ?_ ?_ ?_ ?_ ?_ ?_ ?_
  all_goals first
    | (simp [hset_v, alc_v, hs, hl]; done)
    | (simp [hset_v, alc_v, hs, hl]; omega)
    | (intro i; intros; simp_all [hset_v, alc_v]; done)
    | (intro a; intros; funext b; simp_all [hset_v, alc_v]; done)
theorem c7_1222 {d : Nat} {h : HV} {S : Int} {Q : Int → HV → Prop} (hs : h 0 0 = 20) (hl : h 0 1 = S) (hQ : ∀ h' : HV, h' 0 0 = 22 → h' 0 1 = S + 512 → h' 1222 0 = 1312 → h' 1222 1 = 1377 → (∀ i, i ≠ 0 → i ≠ 1 → h' 1222 i = h 1222 i) → h' 1312 (-1) = 256 → (∀ i, i ≠ -1 → h' 1312 i = 0) → h' 1377 (-1) = 256 → (∀ i, i ≠ -1 → h' 1377 i = 0) → (∀ a, a ≠ 0 → a ≠ 1222 → a ≠ 1312 → a ≠ 1377 → h' a = h a) → Q 0 h') : Sp f0 d 7 [(3, 1222)] h Q := by
  unfold Sp
  apply G_in
  simp only [en7, b7_0, x_aload0, x_iconst, x_new_32, x_new_33, x_obj, x_pf_6147, x_pf_6155, x_return, klp_0, klp_1, klp_2, klp_3, klp_9, f0_n]
  repeat' refine And.intro ?_ ?_
  all_goals first
    | decide
    | exact fun _ => trivial
    | refine hQ _ ?_ ?_ ?_ ?_ ?_ ?_ ?_ ?_ ?_ ?_
  all_goals first
    | (simp [hset_v, alc_v, hs, hl]; done)
    | (simp [hset_v, alc_v, hs, hl]; omega)
    | (intro i; intros; simp_all [hset_v, alc_v]; done)
    | (intro a; intros; funext b; simp_all [hset_v, alc_v]; done)
theorem c8_1927 {d : Nat} {h : HV} {S : Int} {Q : Int → HV → Prop} (hs : h 0 0 = 31) (hl : h 0 1 = S) (hQ : ∀ h' : HV, h' 0 0 = 40 → h' 0 1 = S + 395 → h' 1927 1 = 4 → h' 1927 2 = 2016 → h' 1927 3 = 2080 → h' 1927 4 = 2144 → h' 1927 5 = 2208 → h' 1927 6 = 2272 → h' 1927 7 = 2336 → h' 1927 8 = 2400 → h' 1927 9 = 2464 → h' 1927 11 = 2528 → (∀ i, i ≠ 1 → i ≠ 2 → i ≠ 3 → i ≠ 4 → i ≠ 5 → i ≠ 6 → i ≠ 7 → i ≠ 8 → i ≠ 9 → i ≠ 11 → h' 1927 i = h 1927 i) → h' 2016 (-1) = 10 → (∀ i, i ≠ -1 → h' 2016 i = 0) → h' 2080 (-1) = 240 → (∀ i, i ≠ -1 → h' 2080 i = 0) → h' 2144 (-1) = 37 → (∀ i, i ≠ -1 → h' 2144 i = 0) → h' 2208 (-1) = 36 → (∀ i, i ≠ -1 → h' 2208 i = 0) → h' 2272 (-1) = 6 → (∀ i, i ≠ -1 → h' 2272 i = 0) → h' 2336 (-1) = 8 → (∀ i, i ≠ -1 → h' 2336 i = 0) → h' 2400 (-1) = 10 → (∀ i, i ≠ -1 → h' 2400 i = 0) → h' 2464 (-1) = 12 → (∀ i, i ≠ -1 → h' 2464 i = 0) → h' 2528 (-1) = 36 → (∀ i, i ≠ -1 → h' 2528 i = 0) → (∀ a, a ≠ 0 → a ≠ 1927 → a ≠ 2016 → a ≠ 2080 → a ≠ 2144 → a ≠ 2208 → a ≠ 2272 → a ≠ 2336 → a ≠ 2400 → a ≠ 2464 → a ≠ 2528 → h' a = h a) → Q 0 h') : Sp f0 d 8 [(3, 1927)] h Q := by
  unfold Sp
  apply G_in
  simp only [en8, b8_0, x_aload0, x_iconst, x_new_32, x_obj, x_pc_7187, x_pc_7195, x_pc_7203, x_pc_7211, x_pc_7219, x_pc_7227, x_pc_7235, x_pc_7243, x_pc_7259, x_pf_7176, x_return, klp_0, klp_1, klp_2, klp_3, klp_9, f0_n]
  repeat' refine And.intro ?_ ?_
  all_goals first
    | decide
    | exact fun _ => trivial
    | refine hQ _ ?_ ?_ ?_ ?_ ?_ ?_ ?_ ?_ ?_ ?_ ?_ ?_ ?_ ?_ ?_ ?_ ?_ ?_ ?_ ?_ ?_ ?_ ?_ ?_ ?_ ?_ ?_ ?_ ?_ ?_ ?_ ?_
  all_goals first
    | (simp [hset_v, alc_v, hs, hl]; done)
    | (simp [hset_v, alc_v, hs, hl]; omega)
    | (intro i; intros; simp_all [hset_v, alc_v]; done)
    | (intro a; intros; funext b; simp_all [hset_v, alc_v]; done)
theorem c9_2568 {d : Nat} {h : HV} {S : Int} {Q : Int → HV → Prop} (hs : h 0 0 = 41) (hl : h 0 1 = S) (hQ : ∀ h' : HV, h' 0 0 = 46 → h' 0 1 = S + 64 → h' 2568 0 = 1927 → h' 2568 2 = 2656 → h' 2568 3 = 2720 → h' 2568 5 = 2784 → h' 2568 7 = 2848 → h' 2568 8 = 2912 → (∀ i, i ≠ 0 → i ≠ 2 → i ≠ 3 → i ≠ 5 → i ≠ 7 → i ≠ 8 → h' 2568 i = h 2568 i) → h' 2656 (-1) = 10 → (∀ i, i ≠ -1 → h' 2656 i = 0) → h' 2720 (-1) = 36 → (∀ i, i ≠ -1 → h' 2720 i = 0) → h' 2784 (-1) = 6 → (∀ i, i ≠ -1 → h' 2784 i = 0) → h' 2848 (-1) = 6 → (∀ i, i ≠ -1 → h' 2848 i = 0) → h' 2912 (-1) = 6 → (∀ i, i ≠ -1 → h' 2912 i = 0) → (∀ a, a ≠ 0 → a ≠ 2568 → a ≠ 2656 → a ≠ 2720 → a ≠ 2784 → a ≠ 2848 → a ≠ 2912 → h' a = h a) → Q 0 h') : Sp f0 d 9 [(3, 2568), (3, 1927)] h Q := by
  unfold Sp
  apply G_in
  simp only [en9, b9_0, x_aload0, x_aload1, x_iconst, x_new_32, x_obj, x_pc_8195, x_pc_8211, x_pc_8219, x_pc_8235, x_pc_8251, x_pc_8259, x_return, klp_0, klp_1, klp_2, klp_3, klp_9, f0_n]
  repeat' refine And.intro ?_ ?_
  all_goals first
    | decide
    | exact fun _ => trivial
    | refine hQ _ ?_ ?_ ?_ ?_ ?_ ?_ ?_ ?_ ?_ ?_ ?_ ?_ ?_ ?_ ?_ ?_ ?_ ?_ ?_ ?_
  all_goals first
    | (simp [hset_v, alc_v, hs, hl]; done)
    | (simp [hset_v, alc_v, hs, hl]; omega)
    | (intro i; intros; simp_all [hset_v, alc_v]; done)
    | (intro a; intros; funext b; simp_all [hset_v, alc_v]; done)
theorem c10_2953 {d : Nat} {h : HV} {S : Int} {Q : Int → HV → Prop} (hs : h 0 0 = 47) (hl : h 0 1 = S) (hQ : ∀ h' : HV, h' 0 0 = 54 → h' 0 1 = S + 488 → h' 2953 0 = 836 → h' 2953 2 = 3040 → h' 2953 3 = 3104 → h' 2953 4 = 3168 → h' 2953 5 = 3232 → h' 2953 7 = 3296 → h' 2953 8 = 3360 → h' 2953 9 = 3428 → (∀ i, i ≠ 0 → i ≠ 2 → i ≠ 3 → i ≠ 4 → i ≠ 5 → i ≠ 7 → i ≠ 8 → i ≠ 9 → h' 2953 i = h 2953 i) → h' 3040 (-1) = 192 → (∀ i, i ≠ -1 → h' 3040 i = 0) → h' 3104 (-1) = 24 → (∀ i, i ≠ -1 → h' 3104 i = 0) → h' 3168 (-1) = 192 → (∀ i, i ≠ -1 → h' 3168 i = 0) → h' 3232 (-1) = 24 → (∀ i, i ≠ -1 → h' 3232 i = 0) → h' 3296 (-1) = 24 → (∀ i, i ≠ -1 → h' 3296 i = 0) → h' 3360 (-1) = 8 → (∀ i, i ≠ -1 → h' 3360 i = 0) → h' 3428 (-1) = 24 → (∀ i, i ≠ -1 → h' 3428 i = 0) → (∀ a, a ≠ 0 → a ≠ 2953 → a ≠ 3040 → a ≠ 3104 → a ≠ 3168 → a ≠ 3232 → a ≠ 3296 → a ≠ 3360 → a ≠ 3428 → h' a = h a) → Q 0 h') : Sp f0 d 10 [(3, 2953), (3, 836)] h Q := by
  unfold Sp
  apply G_in
  simp only [en10, b10_0, x_aload0, x_aload1, x_iconst, x_new_32, x_new_36, x_obj, x_pc_9219, x_pc_9235, x_pc_9243, x_pc_9251, x_pc_9259, x_pc_9275, x_pc_9283, x_pc_9291, x_return, klp_0, klp_1, klp_2, klp_3, klp_9, f0_n]
  repeat' refine And.intro ?_ ?_
  all_goals first
    | decide
    | exact fun _ => trivial
    | refine hQ _ ?_ ?_ ?_ ?_ ?_ ?_ ?_ ?_ ?_ ?_ ?_ ?_ ?_ ?_ ?_ ?_ ?_ ?_ ?_ ?_ ?_ ?_ ?_ ?_ ?_ ?_
  all_goals first
    | (simp [hset_v, alc_v, hs, hl]; done)
    | (simp [hset_v, alc_v, hs, hl]; omega)
    | (intro i; intros; simp_all [hset_v, alc_v]; done)
    | (intro a; intros; funext b; simp_all [hset_v, alc_v]; done)
