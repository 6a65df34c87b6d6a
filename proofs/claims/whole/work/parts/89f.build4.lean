/-! THE PURE SIDE, 76: build, the class looks at a place: printed by wip/tools/gen89f.py -/
def RelE (h K : HV) (nd fd bw : Int) (bt : Int → Int) : Prop := BKp h K ∧ K 1927 14 = 1 ∧ K 1927 15 = nd ∧ K 1927 13 = fd ∧ (fd = 0 ∨ fd = 1) ∧ (fd ≠ 0 → K 1927 12 = bw ∧ ∀ u, 0 ≤ u → u < h (h 64 8) 11 → K 2528 u = bt u) ∧ (∀ u, 0 ≤ u → u ≤ h (h 64 8) 11 → K 2144 u = leU h u)
def RelM (h K : HV) (i : Int) (nx : Int → Int) : Prop := K 1927 10 = smU h nx i.toNat ∧ MB 6 (K 2272) (fun u => rooF h (nx u - 1)) (fun u => perF h (nx u - 1)) i ∧ MB 8 (K 2336) (grU h) (fun u => perF h (nx u - 1)) i ∧ MB 10 (K 2400) (stU h) (fun u => perF h (nx u - 1)) i ∧ MB 12 (K 2464) (lsU h) (fun u => dyF h (perF h (nx u - 1))) i
def RelN (h K : HV) (i : Int) (nx : Int → Int) : Prop := ∀ u, 0 ≤ u → u ≤ i → K 2208 u = nx u
theorem fc_iff {h K : HV} {i v : Int} {nx : Int → Int} (S : SBd h) (M : RelM h K i nx) (hi : 0 ≤ i ∧ i < h (h 64 8) 11) (hv : 0 ≤ v ∧ v < plB h) : fcU h K i v ↔ fiK h nx i v i.toNat = 1 := by
  have ub := un_b4 S hi
  have pb := pv_b S hv
  have D := S.2.2.1
  have X1 := rtx_1 S.1
  obtain ⟨p, hp⟩ : ∃ p : Nat, perF h v = p := ⟨(perF h v).toNat, by omega⟩
  obtain ⟨q, hq⟩ : ∃ q : Nat, dyF h (perF h v) = q := ⟨(dyF h (perF h v)).toNat, by omega⟩
  have p32 : p < 32 := by omega
  have q32 : q < 32 := by omega
  have R := M.2.1 (rooF h v) p (by omega) (by omega) p32
  have G := M.2.2.1 (grU h i) p (by omega) (by omega) p32
  have T := M.2.2.2.1 (stU h i) p (by omega) (by omega) p32
  have L := M.2.2.2.2 (lsU h i) q (by omega) (by omega) q32
  unfold fcU
  rw [fi_t]
  show _ ↔ (h (h 64 8 + 854) (grU h i) ≤ h (h 64 8 + 662) (rooF h v) ∧ i_and (i_shr (h 2016 (stU h i)) (perF h v)) 1 = 0) ∧ _
  rw [hq, hp, gb_t p32, gb_t p32, gb_t q32, gb_or, gb_or, gb_or]
  constructor
  · rintro ⟨c1, c2, c3⟩
    have z : gb (K 2272 (rooF h v)) p = false ∧ gb (K 2336 (grU h i)) p = false ∧ gb (K 2400 (stU h i)) p = false ∧ gb (h 2016 (stU h i)) p = false := by
      revert c2
      cases gb (K 2272 (rooF h v)) p <;> cases gb (K 2336 (grU h i)) p <;> cases gb (K 2400 (stU h i)) p <;> cases gb (h 2016 (stU h i)) p <;> simp
    have z3 : gb (K 2464 (lsU h i)) q = false := by
      revert c3
      cases gb (K 2464 (lsU h i)) q <;> simp
    refine ⟨⟨c1, by rw [z.2.2.2]; rfl⟩, fun u u0 u1 => ⟨fun e => ⟨fun w => ?_, fun w => ?_, fun w => ?_⟩, fun e w => ?_⟩⟩
    · have := R.2 ⟨u, ⟨u0, by omega⟩, w, e.trans hp⟩
      rw [z.1] at this; exact absurd this (by decide)
    · have := G.2 ⟨u, ⟨u0, by omega⟩, w, e.trans hp⟩
      rw [z.2.1] at this; exact absurd this (by decide)
    · have := T.2 ⟨u, ⟨u0, by omega⟩, w, e.trans hp⟩
      rw [z.2.2.1] at this; exact absurd this (by decide)
    · have := L.2 ⟨u, ⟨u0, by omega⟩, e, w.trans hq⟩
      rw [z3] at this; exact absurd this (by decide)
  · rintro ⟨⟨c1, c2⟩, c3⟩
    have z1 : gb (K 2272 (rooF h v)) p = false := by
      cases hx : gb (K 2272 (rooF h v)) p with
      | false => rfl
      | true =>
        obtain ⟨u, a, b, c⟩ := R.1 hx
        exact absurd b ((c3 u a.1 (by omega)).1 (c.trans hp.symm)).1
    have z2 : gb (K 2336 (grU h i)) p = false := by
      cases hx : gb (K 2336 (grU h i)) p with
      | false => rfl
      | true =>
        obtain ⟨u, a, b, c⟩ := G.1 hx
        exact absurd b ((c3 u a.1 (by omega)).1 (c.trans hp.symm)).2.1
    have z3 : gb (K 2400 (stU h i)) p = false := by
      cases hx : gb (K 2400 (stU h i)) p with
      | false => rfl
      | true =>
        obtain ⟨u, a, b, c⟩ := T.1 hx
        exact absurd b ((c3 u a.1 (by omega)).1 (c.trans hp.symm)).2.2
    have z4 : gb (K 2464 (lsU h i)) q = false := by
      cases hx : gb (K 2464 (lsU h i)) q with
      | false => rfl
      | true =>
        obtain ⟨u, a, b, c⟩ := L.1 hx
        exact absurd (c.trans hq.symm) ((c3 u a.1 (by omega)).2 b)
    have z5 : gb (h 2016 (stU h i)) p = false := by
      revert c2
      cases gb (h 2016 (stU h i)) p <;> simp
    rw [z1, z2, z3, z4, z5]
    exact ⟨c1, rfl, rfl⟩
theorem tk_f {h K : HV} {u v w : Int} : (∀ a, a ≠ 1927 → a ≠ 2272 → a ≠ 2336 → a ≠ 2400 → a ≠ 2464 → tkB h K u v w a = K a) ∧ (∀ s, s ≠ 10 → tkB h K u v w 1927 s = K 1927 s) ∧ tkB h K u v w 1927 10 = w ∧ (∀ r, tkB h K u v w 2272 r = if r = rooF h v then i_xor (K 2272 r) (i_shl 1 (perF h v)) else K 2272 r) ∧ (∀ r, tkB h K u v w 2336 r = if r = grU h u then i_xor (K 2336 r) (i_shl 1 (perF h v)) else K 2336 r) ∧ (∀ r, tkB h K u v w 2400 r = if r = stU h u then i_xor (K 2400 r) (i_shl 1 (perF h v)) else K 2400 r) ∧ (∀ r, tkB h K u v w 2464 r = if r = lsU h u then i_xor (K 2464 r) (i_shl 1 (dyF h (perF h v))) else K 2464 r) := by
  unfold tkB
  have g : ∀ (M : HV) (o x y r : Int), hset M o x y o r = if r = x then y else M o r := fun M o x y r => by
    rw [hset_v]
    by_cases q : r = x
    · rw [if_pos ⟨rfl, q⟩, if_pos q]
    · rw [if_neg (fun w => q w.2), if_neg q]
  refine ⟨fun a a1 a2 a3 a4 a5 => by rw [hs_ne a5, hs_ne a4, hs_ne a3, hs_ne a2, hs_ne a1], fun s hs => ?_, ?_, fun r => ?_, fun r => ?_, fun r => ?_, fun r => ?_⟩
  · rw [hs_ne (by decide), hs_ne (by decide), hs_ne (by decide), hs_ne (by decide), g, if_neg hs]
  · rw [hs_ne (by decide), hs_ne (by decide), hs_ne (by decide), hs_ne (by decide), g, if_pos rfl]
  · rw [hs_ne (by decide), hs_ne (by decide), hs_ne (by decide), g, hs_ne (by decide)]
    split
    · rename_i q; rw [q]
    · rfl
  · rw [hs_ne (by decide), hs_ne (by decide), g, hs_ne (by decide), hs_ne (by decide)]
    split
    · rename_i q; rw [q]
    · rfl
  · rw [hs_ne (by decide), g, hs_ne (by decide), hs_ne (by decide), hs_ne (by decide)]
    split
    · rename_i q; rw [q]
    · rfl
  · rw [g, hs_ne (by decide), hs_ne (by decide), hs_ne (by decide), hs_ne (by decide)]
    split
    · rename_i q; rw [q]
    · rfl
theorem re_tk {h K : HV} {nd fd bw u v w : Int} {bt : Int → Int} (E : RelE h K nd fd bw bt) : RelE h (tkB h K u v w) nd fd bw bt := by
  obtain ⟨F, e1, e2, e3, e4, e5, e6⟩ := E
  obtain ⟨t1, t2, _⟩ := tk_f (h := h) (K := K) (u := u) (v := v) (w := w)
  refine ⟨⟨fun a q => by rw [t1 a q.1 q.2.2.2.1 q.2.2.2.2.1 q.2.2.2.2.2.1 q.2.2.2.2.2.2.1]; exact F.1 a q, fun s a b c d e => by rw [t2 s a]; exact F.2 s a b c d e⟩, by rw [t2 _ (by decide)]; exact e1, by rw [t2 _ (by decide)]; exact e2, by rw [t2 _ (by decide)]; exact e3, e4, fun w => ?_, fun u a b => by rw [t1 _ (by decide) (by decide) (by decide) (by decide) (by decide)]; exact e6 u a b⟩
  rw [t2 _ (by decide), t1 2528 (by decide) (by decide) (by decide) (by decide) (by decide)]
  exact e5 w
theorem rn_tk {h K : HV} {i u v w : Int} {nx : Int → Int} (E : RelN h K i nx) : RelN h (tkB h K u v w) i nx := fun x a b => by
  rw [(tk_f (h := h) (K := K) (u := u) (v := v) (w := w)).1 _ (by decide) (by decide) (by decide) (by decide) (by decide)]
  exact E x a b
theorem rm_on {h K : HV} {i v : Int} {nx nx' : Int → Int} (S : SBd h) (M : RelM h K i nx) (hi : 0 ≤ i ∧ i < h (h 64 8) 11) (hv : 0 ≤ v ∧ v < plB h) (W : PWU h nx' (i + 1)) (e : ∀ u, 0 ≤ u → u < i → nx' u = nx u) (ei : nx' i = v + 1) : RelM h (tkB h K i v (K 1927 10 + wiU h i v)) (i + 1) nx' := by
  obtain ⟨_, t2, t3, t4, t5, t6, t7⟩ := tk_f (h := h) (K := K) (u := i) (v := v) (w := K 1927 10 + wiU h i v)
  obtain ⟨m1, m2, m3, m4, m5⟩ := M
  have pb := pv_b S hv
  have D := S.2.2.1
  have ev : nx' i - 1 = v := by omega
  obtain ⟨p, hp⟩ : ∃ p : Nat, perF h v = p := ⟨(perF h v).toNat, by omega⟩
  obtain ⟨q, hq⟩ : ∃ q : Nat, dyF h (perF h v) = q := ⟨(dyF h (perF h v)).toNat, by omega⟩
  have cp := fun (u : Int) (u0 : 0 ≤ u) (u1 : u < i) => W.2 u i u0 u1 (by omega)
  have e1 : ∀ u, 0 ≤ u → u < i → (fun u => perF h (nx' u - 1)) u = (fun u => perF h (nx u - 1)) u := fun u a b => by show perF h (nx' u - 1) = perF h (nx u - 1); rw [e u a b]
  refine ⟨?_, ?_, ?_, ?_, ?_⟩
  · rw [t3, m1, show (i + 1).toNat = i.toNat + 1 by omega]
    have := sm_c (h := h) (nx := nx) (nx' := nx') (k := i.toNat) (fun u a b => e u a (by omega))
    unfold smU at this ⊢
    rw [sumI, this, show ((i.toNat : Nat) : Int) = i by omega, ev]
  · refine MB_on (s := p) (MB_c m2 (fun u a b => by show rooF h (nx' u - 1) = rooF h (nx u - 1); rw [e u a b]) e1) hi.1 (by omega) (by show perF h (nx' i - 1) = p; rw [ev, hp]) (fun r => ?_) (fun u a b w => ?_)
    · show _ = if r = rooF h (nx' i - 1) then _ else _
      rw [ev, t4, hp]
    · exact ((cp u a b).1 w.2).1 w.1
  · refine MB_on (s := p) (MB_c m3 (fun u a b => rfl) e1) hi.1 (by omega) (by show perF h (nx' i - 1) = p; rw [ev, hp]) (fun r => ?_) (fun u a b w => ?_)
    · rw [t5, hp]
    · exact ((cp u a b).1 w.2).2.1 w.1
  · refine MB_on (s := p) (MB_c m4 (fun u a b => rfl) e1) hi.1 (by omega) (by show perF h (nx' i - 1) = p; rw [ev, hp]) (fun r => ?_) (fun u a b w => ?_)
    · rw [t6, hp]
    · exact ((cp u a b).1 w.2).2.2 w.1
  · refine MB_on (s := q) (MB_c m5 (fun u a b => rfl) (fun u a b => by show dyF h (perF h (nx' u - 1)) = dyF h (perF h (nx u - 1)); rw [e u a b])) hi.1 (by omega) (by show dyF h (perF h (nx' i - 1)) = q; rw [ev, hq]) (fun r => ?_) (fun u a b w => ?_)
    · rw [t7, hq]
    · exact (cp u a b).2 w.1 w.2
theorem rm_off {h K : HV} {i : Int} {nx : Int → Int} (S : SBd h) (M : RelM h K (i + 1) nx) (hi : 0 ≤ i ∧ i < h (h 64 8) 11) (W : PWU h nx (i + 1)) : RelM h (tkB h K i (nx i - 1) (K 1927 10 - wiU h i (nx i - 1))) i nx := by
  obtain ⟨_, t2, t3, t4, t5, t6, t7⟩ := tk_f (h := h) (K := K) (u := i) (v := nx i - 1) (w := K 1927 10 - wiU h i (nx i - 1))
  obtain ⟨m1, m2, m3, m4, m5⟩ := M
  have nb := W.1 i hi.1 (by omega)
  have pb := pv_b S (v := nx i - 1) (by omega)
  have D := S.2.2.1
  obtain ⟨p, hp⟩ : ∃ p : Nat, perF h (nx i - 1) = p := ⟨(perF h (nx i - 1)).toNat, by omega⟩
  obtain ⟨q, hq⟩ : ∃ q : Nat, dyF h (perF h (nx i - 1)) = q := ⟨(dyF h (perF h (nx i - 1))).toNat, by omega⟩
  have cp := fun (u : Int) (u0 : 0 ≤ u) (u1 : u < i) => W.2 u i u0 u1 (by omega)
  refine ⟨?_, ?_, ?_, ?_, ?_⟩
  · rw [t3, m1, show (i + 1).toNat = i.toNat + 1 by omega]
    unfold smU
    rw [sumI, show ((i.toNat : Nat) : Int) = i by omega]
    omega
  · refine MB_off (s := p) m2 hi.1 (by omega) hp (fun r => ?_) (fun u a b w => ?_)
    · rw [t4, hp]
    · exact ((cp u a b).1 w.2).1 w.1
  · refine MB_off (s := p) m3 hi.1 (by omega) hp (fun r => ?_) (fun u a b w => ?_)
    · rw [t5, hp]
    · exact ((cp u a b).1 w.2).2.1 w.1
  · refine MB_off (s := p) m4 hi.1 (by omega) hp (fun r => ?_) (fun u a b w => ?_)
    · rw [t6, hp]
    · exact ((cp u a b).1 w.2).2.2 w.1
  · refine MB_off (s := q) m5 hi.1 (by omega) hq (fun r => ?_) (fun u a b w => ?_)
    · rw [t7, hq]
    · exact (cp u a b).2 w.1 w.2
theorem rm_c {h K K' : HV} {i : Int} {nx nx' : Int → Int} (i0 : 0 ≤ i) (M : RelM h K i nx) (e10 : K' 1927 10 = K 1927 10) (e1 : K' 2272 = K 2272) (e2 : K' 2336 = K 2336) (e3 : K' 2400 = K 2400) (e4 : K' 2464 = K 2464) (en : ∀ u, 0 ≤ u → u < i → nx' u = nx u) : RelM h K' i nx' := by
  obtain ⟨m1, m2, m3, m4, m5⟩ := M
  have p1 : ∀ u, 0 ≤ u → u < i → (fun u => perF h (nx' u - 1)) u = (fun u => perF h (nx u - 1)) u := fun u a b => by show perF h (nx' u - 1) = perF h (nx u - 1); rw [en u a b]
  refine ⟨by rw [e10, m1, sm_c (fun u a b => en u a (by omega))], ?_, ?_, ?_, ?_⟩
  · rw [e1]; exact MB_c m2 (fun u a b => by show rooF h (nx' u - 1) = rooF h (nx u - 1); rw [en u a b]) p1
  · rw [e2]; exact MB_c m3 (fun _ _ _ => rfl) p1
  · rw [e3]; exact MB_c m4 (fun _ _ _ => rfl) p1
  · rw [e4]; exact MB_c m5 (fun _ _ _ => rfl) (fun u a b => by show dyF h (perF h (nx' u - 1)) = dyF h (perF h (nx u - 1)); rw [en u a b])
theorem k257 {d : Nat} {h K : HV} {Q : Int → HV → Prop} (S : SBd h) (F : BKp h K) {u n : Int} (hu : 0 ≤ u ∧ u < h (h 64 8) 11) (hn : K 2208 u = n) (hv : 1 ≤ n ∧ n ≤ plB h) (hw : -4000 ≤ K 1927 10 ∧ K 1927 10 ≤ 4000) : Sp fz1 (d + 3) 257 [(3, 1927), (0, u)] K Q = Q 0 (tkB h K u (n - 1) (K 1927 10 - wiU h u (n - 1))) := by
  have hN := S.2.1.1
  have pb := pv_b S (v := n - 1) (by omega)
  have r := fun (d : Nat) (Q : Int → HV → Prop) => (k258 (d := d) (Q := Q) S F hu (v := n - 1) (by omega) hw).2
  simp (implicitDefEqProofs := false) (disch := omega) only [sp257, b257_0, x_aload0, y_call258, x_gc_7211, x_iaload, x_iconst, x_iload1, x_isub, x_return, klp_0, klp_1, klp_2, klp_3, klp_9, KC_0, KC_1, KC_2, KC_3, KC_4, ne_eq, not_false_eq_true, not_true_eq_false, true_and, and_true, and_self, implies_true, eq_self, true_imp_iff, false_implies, Int.reduceEq, Int.reduceNe, Int.reduceMod, Int.reduceMul, Int.reduceAdd, Int.reduceSub, Int.reduceLT, Int.reduceLE, Nat.reduceAdd, Nat.reduceLeDiff, Nat.reduceLT, Nat.reduceSub, reduceIte, wds_n, wds_0, wds_1, wds_2, wds_3, or_true, true_or, or_false, false_or, or_self, false_and, and_false, d_pos, d_s1, d_s2, d_s3, d_s4, d_s5, d_s6, d_s7, d_s8, Classical.not_not, z1927_5, z2208_l, hn, r, le_T, le_F, lt_T, lt_F, w32_T]
theorem k256 {d : Nat} {h K : HV} {Q : Int → HV → Prop} (S : SBd h) (F : BKp h K) {nx : Int → Int} (N : ∀ u, 0 ≤ u → u < h (h 64 8) 11 → K 2208 u = nx u ∧ 0 ≤ nx u ∧ nx u ≤ 200)
    (ex : ∀ K2 : HV, (∀ a, a ≠ 1927 → a ≠ 2528 → K2 a = K a) → (∀ s, K2 1927 s = if s = 12 then K 1927 10 else if s = 13 then 1 else K 1927 s) → (∀ u, 0 ≤ u → u < h (h 64 8) 11 → K2 2528 u = nx u - 1) → Q 0 K2) : Sp fz1 d 256 [(3, 1927)] K Q := by
  have hN := S.2.1.1
  have hT := S.1.1
  obtain ⟨M, hM⟩ : ∃ M, M = hset (hset K 1927 13 1) 1927 12 (K 1927 10) := ⟨_, rfl⟩
  have m7 : ∀ s, M 1927 s = if s = 12 then K 1927 10 else if s = 13 then 1 else K 1927 s := fun s => by
    rw [hM, hset_v, hset_v]
    by_cases a : s = 12
    · rw [if_pos ⟨rfl, a⟩, if_pos a]
    · rw [if_neg (fun w => a w.2), if_neg a]
      by_cases b : s = 13
      · rw [if_pos ⟨rfl, b⟩, if_pos b]
      · rw [if_neg (fun w => b w.2), if_neg b]
  have e10 : hset K 1927 13 1 1927 10 = K 1927 10 := by rw [hset_v, if_neg (by omega)]
  simp (implicitDefEqProofs := false) (disch := omega) only [sp256, b256_0, x_aload0, x_gf_7248, x_goto_1, x_iconst, x_istore1, x_pf_7264, x_pf_7276, klp_0, klp_1, klp_2, klp_3, klp_9, KC_0, KC_1, KC_2, KC_3, KC_4, ne_eq, not_false_eq_true, not_true_eq_false, true_and, and_true, and_self, implies_true, eq_self, true_imp_iff, false_implies, Int.reduceEq, Int.reduceNe, Int.reduceMod, Int.reduceMul, Int.reduceAdd, Int.reduceSub, Int.reduceLT, Int.reduceLE, Nat.reduceAdd, Nat.reduceLeDiff, Nat.reduceLT, Nat.reduceSub, reduceIte, wds_n, wds_0, wds_1, wds_2, wds_3, or_true, true_or, or_false, false_or, or_self, false_and, and_false, d_pos, d_s1, d_s2, d_s3, d_s4, d_s5, d_s6, d_s7, d_s8, Classical.not_not, e10, ← hM]
  refine forG (N := (h (h 64 8) 11).toNat) (I := fun j ls h' => ls = [(3, 1927), (0, (j : Int))] ∧ (∀ a, a ≠ 2528 → h' a = M a) ∧ ∀ u, 0 ≤ u → u < (j : Int) → h' 2528 u = nx u - 1) ?_ ?_ (j := 0) (Nat.zero_le _) ⟨rfl, fun _ _ => rfl, fun u a b => by omega⟩
  · rintro j ls h' hj ⟨rfl, fr, vl⟩ n2
    have jI : 0 ≤ (j : Int) ∧ (j : Int) < h (h 64 8) 11 := by omega
    have t0 : h' 1927 0 = h 64 8 := by rw [fr _ (by decide), m7, if_neg (by decide), if_neg (by decide)]; exact bk_0 S F
    have tU : h' (h 64 8) = h (h 64 8) := by rw [fr _ (by rcases hT with w | w <;> omega), hM, hs_ne (by rcases hT with w | w <;> omega), hs_ne (by rcases hT with w | w <;> omega)]; exact bk_U S F
    obtain ⟨nj, nb⟩ := N j jI.1 jI.2
    have tn : h' 2208 j = nx j := by rw [fr _ (by decide), hM, hs_ne (by decide), hs_ne (by decide)]; exact nj
    refine G_in ?_
    simp (implicitDefEqProofs := false) (disch := omega) only [b256_1, x_aload0, x_gc_7211, x_gc_7259, x_gf_10328, x_gf_7171, x_goto_1, x_iaload, x_iastore, x_iconst, x_if_icmp_ge_2, x_iinc1, x_iload1, x_isub, klp_0, klp_1, klp_2, klp_3, klp_9, KC_0, KC_1, KC_2, KC_3, KC_4, ne_eq, not_false_eq_true, not_true_eq_false, true_and, and_true, and_self, implies_true, eq_self, true_imp_iff, false_implies, Int.reduceEq, Int.reduceNe, Int.reduceMod, Int.reduceMul, Int.reduceAdd, Int.reduceSub, Int.reduceLT, Int.reduceLE, Nat.reduceAdd, Nat.reduceLeDiff, Nat.reduceLT, Nat.reduceSub, reduceIte, wds_n, wds_0, wds_1, wds_2, wds_3, or_true, true_or, or_false, false_or, or_self, false_and, and_false, d_pos, d_s1, d_s2, d_s3, d_s4, d_s5, d_s6, d_s7, d_s8, Classical.not_not, t0, TC_0 hT, TC_k hT, tU, z1927_5, z2208_l, z1927_11, z2528_l, tn, le_T, le_F, lt_T, lt_F, w32_T]
    refine n2 _ _ ⟨rfl, fun a ha => by rw [hs_ne ha, fr a ha], fun u a b => ?_⟩
    rw [hset_v]
    by_cases q : u = j
    · rw [if_pos ⟨rfl, q⟩, q]
    · rw [if_neg (fun w => q w.2)]
      exact vl u a (by omega)
  · rintro ls h' ⟨rfl, fr, vl⟩
    have t0 : h' 1927 0 = h 64 8 := by rw [fr _ (by decide), m7, if_neg (by decide), if_neg (by decide)]; exact bk_0 S F
    have tU : h' (h 64 8) = h (h 64 8) := by rw [fr _ (by rcases hT with w | w <;> omega), hM, hs_ne (by rcases hT with w | w <;> omega), hs_ne (by rcases hT with w | w <;> omega)]; exact bk_U S F
    refine G_in ?_
    simp (implicitDefEqProofs := false) (disch := omega) only [b256_1, b256_2, q256_2, x_aload0, x_gc_7211, x_gc_7259, x_gf_10328, x_gf_7171, x_goto_1, x_iaload, x_iastore, x_iconst, x_if_icmp_ge_2, x_iinc1, x_iload1, x_isub, x_return, klp_0, klp_1, klp_2, klp_3, klp_9, KC_0, KC_1, KC_2, KC_3, KC_4, ne_eq, not_false_eq_true, not_true_eq_false, true_and, and_true, and_self, implies_true, eq_self, true_imp_iff, false_implies, Int.reduceEq, Int.reduceNe, Int.reduceMod, Int.reduceMul, Int.reduceAdd, Int.reduceSub, Int.reduceLT, Int.reduceLE, Nat.reduceAdd, Nat.reduceLeDiff, Nat.reduceLT, Nat.reduceSub, reduceIte, wds_n, wds_0, wds_1, wds_2, wds_3, or_true, true_or, or_false, false_or, or_self, false_and, and_false, d_pos, d_s1, d_s2, d_s3, d_s4, d_s5, d_s6, d_s7, d_s8, Classical.not_not, t0, TC_0 hT, TC_k hT, tU, le_T, le_F, lt_T, lt_F, w32_T]
    exact ex h' (fun a a1 a2 => by rw [fr a a2, hM, hs_ne a1, hs_ne a1]) (fun s => by rw [fr _ (by decide)]; exact m7 s) (fun u a b => vl u a (by omega))
