/-! THE PURE SIDE, 3: small methods of the JDK -/
/-- places 0 .. n-1 of a filled with v -/
def fillH (h : HV) (a n v : Int) : HV := fun o i => if o = a ∧ 0 ≤ i ∧ i < n then v else h o i
theorem fillH_0 (h : HV) (a v : Int) : fillH h a 0 v = h := by
  funext o i
  unfold fillH
  rw [if_neg (by omega)]
theorem fillH_s (h : HV) {a j v : Int} (hj : 0 ≤ j) : hset (fillH h a j v) a j v = fillH h a (j + 1) v := by
  funext o i
  unfold hset fillH
  by_cases h1 : o = a ∧ i = j
  · rw [if_pos h1, if_pos (by omega)]
  · rw [if_neg h1]
    by_cases h2 : o = a ∧ 0 ≤ i ∧ i < j
    · rw [if_pos h2, if_pos (by omega)]
    · rw [if_neg h2, if_neg (by omega)]
theorem rd_neg {fz : Int → Int → Option Int} {h h' : HV} {o i : Int} (e : h' o i = h o i) : rd fz h' o i = rd fz h o i := by
  unfold rd
  cases fz o i with
  | some v => rfl
  | none => exact e
theorem fill_lp {fz : Int → Int → Option Int} {d : Nat} {a v n : Int} {h : HV} {Q : Int → HV → Prop} (ha : a % 64 = 32) (hn : n = rd fz h a (-1)) (hn1 : n ≤ 2147483647) (hQ : Q 0 (fillH h a n v)) : ∀ (m : Nat) (j : Int), 0 ≤ j → j + m = n → G fz d 14 1 [(3, a), (0, v), (0, j), (0, n)] [] (fillH h a j v) Q
  | 0, j, h0, hm => by
    have e : j = n := by omega
    subst e
    apply G_in
    simp only [b14_1, x_iload2, x_iload3, x_if_icmp_ge_2]
    refine ⟨fun _ => ?_, fun hc => absurd (Int.le_refl _) hc⟩
    apply G_in
    simp only [b14_2, x_return]
    exact hQ
  | m + 1, j, h0, hm => by
    apply G_in
    simp only [b14_1, x_iload2, x_iload3, x_if_icmp_ge_2, x_aload0, x_iload1, x_iastore, x_iinc2, x_goto_1]
    refine ⟨fun hc => ?_, fun hc => ⟨⟨ha, h0, ?_⟩, ?_⟩⟩
    · have hc : n ≤ j := hc
      omega
    · rw [rd_neg (h := h) (by unfold fillH; rw [if_neg (by omega)]), ← hn]
      omega
    · rw [fillH_s h h0, w32_id (by omega)]
      exact fill_lp ha hn hn1 hQ m (j + 1) (by omega) (by omega)
theorem fill_sp {fz : Int → Int → Option Int} {d : Nat} {a v n : Int} {h : HV} {Q : Int → HV → Prop} (ha : a % 64 = 32) (hn : n = rd fz h a (-1)) (hn0 : 0 ≤ n) (hn1 : n ≤ 2147483647) (hQ : Q 0 (fillH h a n v)) : Sp fz d 14 [(3, a), (0, v)] h Q := by
  unfold Sp
  apply G_in
  simp only [en14, b14_0, x_iconst, x_istore2, x_aload0, x_alen, x_istore3, x_goto_1, klp_0]
  refine ⟨by omega, ?_⟩
  rw [← hn]
  have := fill_lp (fz := fz) (d := d) ha hn hn1 hQ n.toNat 0 (by omega) (by omega)
  rw [fillH_0] at this
  exact this
