/-! THE PURE SIDE, 4: constructors -/
theorem rd_f0 (h : HV) (o i : Int) : rd f0 h o i = h o i := rfl
theorem f0_n (o i : Int) : (f0 o i = none) = True := eq_true rfl
/-- Scanner.<init> -/
theorem c2 {d : Nat} {o : Int} {h : HV} {Q : Int → HV → Prop} (ho : o ≠ 0 ∧ o % 64 = 1) (hQ : Q 0 (hset (alc h 35 2400 2400) o 0 (64 * h 0 0 + 35))) : Sp f0 d 2 [(3, o)] h Q := by
  unfold Sp
  apply G_in
  simp only [en2, b2_0, x_aload0, x_iconst, x_new_35, x_obj, x_pc_1027, x_return, klp_0, klp_1, klp_2, klp_3, klp_9, f0_n]
  refine ⟨⟨ho.1, by omega, by decide⟩, ⟨by decide, by decide, fun _ => trivial⟩, ⟨ho.1, ho.2, trivial, trivial, trivial⟩, hQ⟩
theorem hset_v (h : HV) (o i v a b : Int) : hset h o i v a b = if a = o ∧ b = i then v else h a b := rfl
theorem alc_v (h : HV) (kd n sl a b : Int) : alc h kd n sl a b = if a = 64 * h 0 0 + kd then (if b = -1 then n else 0) else if a = 0 ∧ b = 0 then h 0 0 + 1 else if a = 0 ∧ b = 1 then h 0 1 + sl else h a b := rfl
/-- People.<init>, as the 5th made thing -/
theorem c5 {d : Nat} {h : HV} {S : Int} {Q : Int → HV → Prop} (hs : h 0 0 = 6) (hl : h 0 1 = S) (hQ : ∀ h' : HV, h' 0 0 = 10 → h' 0 1 = S + 264 → h' 324 0 = 416 → h' 324 1 = 480 → h' 324 2 = 544 → h' 324 3 = 608 → h' 324 4 = h 324 4 → h' 416 (-1) = 24 → h' 480 (-1) = 24 → h' 544 (-1) = 24 → h' 608 (-1) = 192 → (∀ a, a ≠ 0 → a ≠ 324 → a ≠ 416 → a ≠ 480 → a ≠ 544 → a ≠ 608 → h' a = h a) → Q 0 h') : Sp f0 d 5 [(3, 324)] h Q := by
  unfold Sp
  apply G_in
  simp only [en5, b5_0, x_aload0, x_iconst, x_new_32, x_obj, x_pc_4099, x_pc_4107, x_pc_4115, x_pc_4123, x_return, klp_0, klp_1, klp_2, klp_3, klp_9, f0_n]
  refine ⟨⟨by decide, by decide, by decide⟩, ⟨by decide, by decide, fun _ => trivial⟩, ⟨by decide, by decide, trivial, trivial, trivial⟩, ⟨by decide, by decide, fun _ => trivial⟩, ⟨by decide, by decide, trivial, trivial, trivial⟩, ⟨by decide, by decide, fun _ => trivial⟩, ⟨by decide, by decide, trivial, trivial, trivial⟩, ⟨by decide, by decide, fun _ => trivial⟩, ⟨by decide, by decide, trivial, trivial, trivial⟩, hQ _ ?_ ?_ ?_ ?_ ?_ ?_ ?_ ?_ ?_ ?_ ?_ ?_⟩
  all_goals try (simp [hset_v, alc_v, hs, hl]; done)
  · simp [hset_v, alc_v, hs, hl]; omega
  · intro a h1 h2 h3 h4 h5 h6
    funext b
    simp [hset_v, alc_v, hs, h1, h2, h3, h4, h5, h6]
