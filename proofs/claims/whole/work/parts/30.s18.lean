/-! THE PURE SIDE, 5: constructors, printed by wip/tools/genc.py -/
theorem c4_643 {d : Nat} {h : HV} {S : Int} {Q : Int → HV → Prop} (hs : h 0 0 = 11) (hl : h 0 1 = S) (hQ : ∀ h' : HV, h' 0 0 = 13 → h' 0 1 = S + 320 → h' 643 0 = 736 → h' 643 1 = 801 → (∀ i, i ≠ 0 → i ≠ 1 → h' 643 i = h 643 i) → h' 736 (-1) = 64 → (∀ i, i ≠ -1 → h' 736 i = 0) → h' 801 (-1) = 256 → (∀ i, i ≠ -1 → h' 801 i = 0) → (∀ a, a ≠ 0 → a ≠ 643 → a ≠ 736 → a ≠ 801 → h' a = h a) → Q 0 h') : Sp f0 d 4 [(3, 643)] h Q := by
  unfold Sp
  apply G_in
  simp only [en4, b4_0, x_aload0, x_iconst, x_new_32, x_new_33, x_obj, x_pf_3075, x_pf_3083, x_return, klp_0, klp_1, klp_2, klp_3, klp_9, f0_n]
  repeat' refine And.intro ?_ ?_
  all_goals first
    | decide
    | exact fun _ => trivial
    | refine hQ _ ?_ ?_ ?_ ?_ ?_ ?_ ?_ ?_ ?_ ?_
  all_goals first
    | (simp [hset_v, alc_v, hs, hl]; done)
    | (simp [hset_v, alc_v, hs, hl]; omega)
    | (intro i; intros; simp_all [hset_v, alc_v]; done)
    | (intro a; intros; funext b; simp_all [hset_v, alc_v]; done)
theorem c7_1222 {d : Nat} {h : HV} {S : Int} {Q : Int → HV → Prop} (hs : h 0 0 = 20) (hl : h 0 1 = S) (hQ : ∀ h' : HV, h' 0 0 = 22 → h' 0 1 = S + 512 → h' 1222 0 = 1312 → h' 1222 1 = 1377 → (∀ i, i ≠ 0 → i ≠ 1 → h' 1222 i = h 1222 i) → h' 1312 (-1) = 256 → (∀ i, i ≠ -1 → h' 1312 i = 0) → h' 1377 (-1) = 256 → (∀ i, i ≠ -1 → h' 1377 i = 0) → (∀ a, a ≠ 0 → a ≠ 1222 → a ≠ 1312 → a ≠ 1377 → h' a = h a) → Q 0 h') : Sp f0 d 7 [(3, 1222)] h Q := by
  unfold Sp
  apply G_in
  simp only [en7, b7_0, x_aload0, x_iconst, x_new_32, x_new_33, x_obj, x_pf_6147, x_pf_6155, x_return, klp_0, klp_1, klp_2, klp_3, klp_9, f0_n]
  repeat' refine And.intro ?_ ?_
  all_goals first
    | decide
    | exact fun _ => trivial
    | refine hQ _ ?_ ?_ ?_ ?_ ?_ ?_ ?_ ?_ ?_ ?_
  all_goals first
    | (simp [hset_v, alc_v, hs, hl]; done)
    | (simp [hset_v, alc_v, hs, hl]; omega)
    | (intro i; intros; simp_all [hset_v, alc_v]; done)
    | (intro a; intros; funext b; simp_all [hset_v, alc_v]; done)
