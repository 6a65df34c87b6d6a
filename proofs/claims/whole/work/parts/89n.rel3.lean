/-! THE PURE SIDE, 84: the other operations keep the relation: printed by wip/tools/gen89n.py -/
theorem op_wishW {d : Nat} {h : HV} {l p w : Int} (X : RTx h) (B : RTb h) : Sp fz1 (d + 3) 249 [(3, 64), (0, l), (0, p), (0, w)] h (fun x h1 => h1 50 = h 50 ∧ Sp fz1 (d + 3) 420 [(3, 6603), (0, l), (0, p), (0, w)] h1 (fun y h2 => x = y ∧ RTb h2 ∧ (∀ a, a ≠ 1927 → a ≠ 2080 → a ≠ 11808 → a ≠ 6603 → h2 a = h a) ∧ (h2 = h ∨ NoTab h h2) ∧ ∀ i, h2 2080 i = h 2080 i ∨ -99 ≤ h2 2080 i ∧ h2 2080 i ≤ 99)) := by
  have X2 := rtx_4 X
  have hT := X.1
  have hS := X.2.1
  obtain ⟨b1, b2, b3, b4⟩ := B
  by_cases hg : (0 ≤ l ∧ l < h (h 64 8 + 598) 4) ∧ (0 ≤ p ∧ p < 5 * h 1927 1) ∧ (-99 ≤ w ∧ w ≤ 99)
  · have hl : 0 ≤ l ∧ l < 12 := by omega
    have hp : 0 ≤ p ∧ p < 20 := by omega
    rw [s249 hT b2 hg hl hp]
    have e1 : ∀ a, a ≠ 1927 → a ≠ 2080 → hset (hset (hset h 1927 13 0) 1927 14 0) 2080 (l * 20 + p) w a = h a := fun a q1 q2 => by rw [hs_ne q2, hs_ne q1, hs_ne q1]
    have e2 : hset (hset (hset h 1927 13 0) 1927 14 0) 2080 (l * 20 + p) w 6603 = h 6603 := e1 _ (by decide) (by decide)
    have e3 : hset (hset (hset h 1927 13 0) 1927 14 0) 2080 (l * 20 + p) w (h 6603 9 + 84) = h (h 6603 9 + 84) := e1 _ (by rcases hS with q | q <;> omega) (by rcases hS with q | q <;> omega)
    refine ⟨e1 _ (by decide) (by decide), ?_⟩
    rw [s420 (by rw [e2]; exact hS) (by rw [e2, e3]; omega) (by rw [e2]; omega) (by rw [e2, e3]; omega) hl hp]
    rw [e1 11808 (by decide) (by decide), show 20 * l + p = l * 20 + p by omega, b4 (l * 20 + p) (by omega) (by omega)]
    refine ⟨rfl, ⟨?_, ?_, ?_, ?_⟩, ?_, .inr ?_, fun i => ?_⟩
    · simp (implicitDefEqProofs := false) only [hset_v, Int.reduceEq, false_and, true_and, and_false, if_false]; exact b1
    · simp (implicitDefEqProofs := false) only [hset_v, Int.reduceEq, false_and, true_and, and_false, if_false]; exact b2
    · intro s' q1 q2
      simp (implicitDefEqProofs := false) only [hset_v, Int.reduceEq, false_and, true_and, and_false, if_false]
      exact b3 s' q1 q2
    · intro i q1 q2
      simp (implicitDefEqProofs := false) only [hset_v, Int.reduceEq, false_and, true_and, and_false, if_false]
      split
      · rfl
      · exact b4 i q1 q2
    · intro a q1 q2 q3 q4
      rw [hs_ne q4, hs_ne q4, hs_ne q4, hs_ne q3, e1 a q1 q2]
    · refine ⟨?_, ?_, ?_, ?_, ?_, fun i q1 q2 => ?_, fun i q1 q2 q3 => ?_⟩
      all_goals simp (implicitDefEqProofs := false) only [hset_v, Int.reduceEq, false_and, true_and, and_false, and_true, if_false, if_true]
      · rw [if_neg q2, if_neg q1]
      · rw [if_neg q3, if_neg q2, if_neg q1]
    · simp (implicitDefEqProofs := false) only [hset_v, Int.reduceEq, false_and, true_and, and_false, if_false]
      split
      · exact .inr hg.2.2
      · exact .inl rfl
  · rw [s249n hT b2 hg]
    refine ⟨rfl, ?_⟩
    rw [s420n hS (by omega) (by omega) (by rw [X2.1, b1]; exact hg)]
    exact ⟨rfl, ⟨b1, b2, b3, b4⟩, fun _ _ _ _ _ => rfl, .inl rfl, fun _ => .inl rfl⟩
theorem op_markW {d : Nat} {h : HV} {p c k v : Int} (X : RTx h) (P : RPp h) (W : RRw h) (M : RMk h) : Sp fz1 (d + 3) 157 [(3, 64), (0, p), (0, c), (0, k), (0, v)] h (fun x h1 => h1 50 = h 50 ∧ Sp fz1 (d + 3) 378 [(3, 6603), (0, p), (0, c), (0, k), (0, v)] h1 (fun y h2 => x = y ∧ RRw h2 ∧ (∀ a, a ≠ h 643 1 → a ≠ 10401 → h2 a = h a) ∧ h2 (h 643 1) (-1) = h (h 643 1) (-1) ∧ ∀ r i, 0 ≤ r → r < h 643 2 → 0 ≤ i → i < rwZ h r → rwZ h2 r = rwZ h r ∧ (rwI h2 r i = rwI h r i ∨ rwI h2 r i = v ∧ h 10272 (r + rb h) = 4))) := by
  have X5 := rtx_5 X
  have P2 := P.2.1
  have P1 := P.1
  have R := W.1
  have I := R.it
  have S := R.st
  by_cases hg : (0 ≤ p ∧ p < h 836 4) ∧ 0 ≤ c ∧ c < h (h 64 8 + 598) 5
  · have hg2 : (0 ≤ p ∧ p < h 6603 25) ∧ 0 ≤ c ∧ c < h (h 6603 9 + 84) 5 := by rw [P1, X5.1]; exact hg
    have hc8 : 0 ≤ c ∧ c < 8 := by omega
    have q := P.2.2 p hg.1.1 hg.1.2
    have e8 : p * 8 + c = 8 * p + c := by omega
    rcases M p hg.1.1 hg.1.2 c hc8.1 hc8.2 with ⟨m1, m2⟩ | ⟨m0, m1, m2, m3⟩
    · rw [s157x X.1 R hg P2.2 hg.1 hc8 (by rw [e8]) (by omega)]
      refine ⟨rfl, ?_⟩
      rw [s378k (d := d + 1) X.2.1 (by omega) (by omega) hg2 hc8 m2]
      exact ⟨rfl, W, fun _ _ _ => rfl, rfl, fun _ _ _ _ _ _ => ⟨rfl, .inl rfl⟩⟩
    · have z := R.z m1.1 m1.2
      have w := W.2.2 _ m1.1 m1.2
      have r1 := R.2.2.1
      have br : 0 ≤ h 1120 (8 * p + c) + rb h ∧ h 1120 (8 * p + c) + rb h < 6000 := by unfold rb; omega
      have hk0 : h 10016 p = 0 := by rw [q.1]; exact m0
      by_cases hx : 0 ≤ k ∧ k < rwZ h (h 1120 (8 * p + c))
      · have e1 : ∀ a, a ≠ h 643 1 → itH h (h 1120 (8 * p + c)) k v a = h a := fun a ha => itH_ne ha
        rw [s157a X.1 R hg P2.2 hg.1 hc8 (by rw [e8]) ⟨hx.1, m1, hx.2⟩]
        refine ⟨e1 _ (by omega), ?_⟩
        have T : h 6603 9 + 84 ≠ h 643 1 := by rcases X.2.1 with t | t <;> omega
        have a1 := e1 6603 (by omega)
        have a2 := e1 10016 (by omega)
        have a3 := e1 10208 (by omega)
        have a4 := e1 10336 (by omega)
        have a5 := e1 10401 (by omega)
        have a6 := e1 (h 6603 9 + 84) T
        rw [s378b (d := d + 1) (r := h 1120 (8 * p + c) + rb h) (by rw [a1]; exact X.2.1) (by rw [a1, a6]; omega) (by rw [a1]; omega) (by rw [a1, a6]; exact hg2) hc8 (by rw [a2]; exact hk0) (by rw [a3]; exact m2) (by omega) br (by rw [a4, w.1]; exact z) (by rw [a4, w.1]; exact hx), a5, w.2 k hx.1 hx.2]
        refine ⟨rfl, RRw_it W m1 hx, fun a q1 q2 => by rw [hs_ne q2, e1 a q1], ?_, ?_⟩
        · rw [hs_ne (by omega)]
          unfold itH
          rw [hset_v, if_neg]
          intro z
          have := (R.2.2.2.2.2.2 (h 1120 (8 * p + c)) m1.1 m1.2).2.2.2
          omega
        · intro r i r0 r1 i0 i1
          have n4 : ∀ a, a ≠ 10401 → (hset (itH h (h 1120 (8 * p + c)) k v) 10401 (64 * (h 1120 (8 * p + c) + rb h) + k) v) a = itH h (h 1120 (8 * p + c)) k v a := fun a q => hs_ne q
          have g3 : ∀ r i, rwI (hset (itH h (h 1120 (8 * p + c)) k v) 10401 (64 * (h 1120 (8 * p + c) + rb h) + k) v) r i = rwI (itH h (h 1120 (8 * p + c)) k v) r i := fun r i => by
            unfold rwI
            rw [n4 643 (by decide), e1 643 (by omega), n4 (h 643 1) (by omega), n4 (h 643 0) (by omega)]
          have g4 : rwZ (hset (itH h (h 1120 (8 * p + c)) k v) 10401 (64 * (h 1120 (8 * p + c) + rb h) + k) v) r = rwZ (itH h (h 1120 (8 * p + c)) k v) r := by
            unfold rwZ
            rw [n4 643 (by decide), e1 643 (by omega), n4 (h 643 0) (by omega)]
          rw [g3, g4, itH_z R, itH_i R m1 hx ⟨r0, r1⟩ ⟨i0, i1⟩]
          refine ⟨rfl, ?_⟩
          split
          · rename_i z
            exact .inr ⟨rfl, by rw [z.1]; exact m3⟩
          · exact .inl rfl
      · rw [s157x X.1 R hg P2.2 hg.1 hc8 (by rw [e8]) (by omega)]
        refine ⟨rfl, ?_⟩
        rw [s378x (d := d + 1) X.2.1 (by omega) (by omega) hg2 hc8 hk0 m2 (by omega) br (by rw [w.1]; exact hx) (by rw [w.1]; exact z)]
        exact ⟨rfl, W, fun _ _ _ => rfl, rfl, fun _ _ _ _ _ _ => ⟨rfl, .inl rfl⟩⟩
  · rw [s157n X.1 R hg]
    refine ⟨rfl, ?_⟩
    rw [s378n (d := d + 1) X.2.1 (by omega) (by omega) (by rw [P1, X5.1]; exact hg)]
    exact ⟨rfl, W, fun _ _ _ => rfl, rfl, fun _ _ _ _ _ _ => ⟨rfl, .inl rfl⟩⟩
theorem g_Mk {h h2 : HV} (d1 : h2 643 = h 643) (d10 : h2 10272 = h 10272) (e0 : h2 836 4 = h 836 4) (e1 : h2 1120 = h 1120) (e2 : h2 10208 = h 10208) (e3 : h2 928 = h 928) (R : RMk h) : RMk h2 := by
  have b1 : rb h2 = rb h := by unfold rb; rw [d1]
  unfold RMk
  rw [b1, d1, d10, e0, e1, e2, e3]; exact R
theorem g_Gv {h h2 : HV} (d1 : h2 643 = h 643) (e0 : h2 64 10 = h 64 10) (e1 : h2 64 11 = h 64 11) (e2 : h2 6603 58 = h 6603 58) (e3 : h2 6603 59 = h 6603 59) (R : RGv h) : RGv h2 := by
  have b1 : rb h2 = rb h := by unfold rb; rw [d1]
  unfold RGv
  rw [b1, d1, e0, e1, e2, e3]; exact R
theorem g_Vl {h h2 : HV} (d1 : h2 643 = h 643) (d2 : h2 1222 = h 1222) (d3 : h2 0 = h 0) (d6 : h2 (h 1222 0) = h (h 1222 0)) (d7 : h2 (h 1222 1) = h (h 1222 1)) (R : RVl h) : RVl h2 := by
  unfold RVl
  rw [d1, d2, d3, d6, d7]; exact R
theorem g_Rm {h h2 : HV} (d1 : h2 643 = h 643) (d2 : h2 1222 = h 1222) (d3 : h2 0 = h 0) (d4 : h2 (h 643 0) (-1) = h (h 643 0) (-1)) (d5 : h2 (h 643 1) (-1) = h (h 643 1) (-1)) (d6 : h2 (h 1222 0) = h (h 1222 0)) (d7 : h2 (h 1222 1) = h (h 1222 1)) (R : RRm h) : RRm h2 := by
  unfold RRm rm
  rw [d1, d2, d3, d4, d5, d6, d7]; exact R
theorem ch_both {h : HV} {k w g : Int} (P : RPp h) (C : RCh h) (X : RTx h) (hc : h 836 4 < 24) : RCh (bothH h k w g) := by
  have T1 : ∀ a, a ≠ 836 ∧ a ≠ 1120 ∧ a ≠ 1056 ∧ a ≠ 992 ∧ a ≠ 928 ∧ a ≠ 12576 ∧ a ≠ 12512 ∧ a ≠ 12384 ∧ a ≠ 10208 ∧ a ≠ 10144 ∧ a ≠ 10080 ∧ a ≠ 10016 ∧ a ≠ 6603 → bothH h k w g a = h a := fun a q => by
    unfold bothH
    rw [entH_ne q.2.2.2.2.2.1 q.2.2.2.2.2.2.1 q.2.2.2.2.2.2.2.1 q.2.2.2.2.2.2.2.2.1 q.2.2.2.2.2.2.2.2.2.1 q.2.2.2.2.2.2.2.2.2.2.1 q.2.2.2.2.2.2.2.2.2.2.2.1 q.2.2.2.2.2.2.2.2.2.2.2.2, addH_ne q.1 q.2.1 q.2.2.1 q.2.2.2.1 q.2.2.2.2.1]
  obtain ⟨p1, p2, p3⟩ := P
  have a25 : addH h k w g 6603 25 = h 836 4 := by rw [both_25, p1]
  have b4 : bothH h k w g 836 4 = h 836 4 + 1 := by unfold bothH; rw [entH_ne (by decide) (by decide) (by decide) (by decide) (by decide) (by decide) (by decide) (by decide), addH_v]; simp (implicitDefEqProofs := false) only [true_and, if_true]
  have v1 : ∀ p, bothH h k w g 928 p = if p = h 836 4 then k else h 928 p := fun p => by unfold bothH; rw [entH_ne (by decide) (by decide) (by decide) (by decide) (by decide) (by decide) (by decide) (by decide), addH_v]; simp (implicitDefEqProofs := false) only [Int.reduceEq, false_and, true_and, if_false]
  have w1 : ∀ p, bothH h k w g 12384 p = if p = h 836 4 then 0 else h 12384 p := fun p => by unfold bothH; rw [entH_v, a25, addH_ne (by decide) (by decide) (by decide) (by decide) (by decide)]; simp (implicitDefEqProofs := false) only [Int.reduceEq, false_and, true_and, if_false]
  have w2 : ∀ p, bothH h k w g 12576 p = if p = h 836 4 then -9 else h 12576 p := fun p => by unfold bothH; rw [entH_v, a25, addH_ne (by decide) (by decide) (by decide) (by decide) (by decide)]; simp (implicitDefEqProofs := false) only [Int.reduceEq, false_and, true_and, if_false]
  have w3 : ∀ i, bothH h k w g 12512 i = if 8 * h 836 4 ≤ i ∧ i < 8 * h 836 4 + 8 then 0 else h 12512 i := fun i => by unfold bothH; rw [entH_v, a25, addH_ne (by decide) (by decide) (by decide) (by decide) (by decide)]; simp (implicitDefEqProofs := false) only [Int.reduceEq, false_and, true_and, if_false]
  have w86 : bothH h k w g 6603 86 = h 6603 86 := by unfold bothH; rw [entH_v, addH_ne (by decide) (by decide) (by decide) (by decide) (by decide)]; simp (implicitDefEqProofs := false) only [Int.reduceEq, false_and, true_and, and_false, if_false]
  obtain ⟨c1, c2, c3, c4, c5⟩ := C
  have X5 := rtx_5 X
  have t1 : bothH h k w g (h 64 8 + 598) = h (h 64 8 + 598) := T1 _ (by rcases X.1 with w | w <;> omega)
  unfold RCh
  rw [T1 64 (by decide), t1, T1 3104 (by decide), T1 12448 (by decide), T1 3040 (by decide), T1 3168 (by decide), T1 3232 (by decide), T1 2953 (by decide), w86, b4]
  refine ⟨fun p q0 q1 => ?_, fun p q0 q1 => c2 p (by omega) q1, fun p i j q0 q1 => ?_, c4, c5⟩
  · rw [w1, w2, v1]
    by_cases e : p = h 836 4
    · obtain ⟨n1, n2, n3⟩ := c2 p (by omega) (by omega)
      rw [if_pos e, if_pos e, if_pos e, n1, n3]
      refine ⟨rfl, by decide, fun k a b => by omega, fun c a b => ?_, fun _ => ⟨rfl, fun c a b => n2 c a (by omega)⟩, rfl⟩
      rw [w3, if_pos (by omega)]
      exact (n2 c a (by omega)).symm
    · rw [if_neg e, if_neg e, if_neg e]
      obtain ⟨m1, m2, m3, m4, m5, m6⟩ := c1 p q0 (by omega)
      refine ⟨m1, m2, m3, fun c a b => ?_, m5, m6⟩
      rw [w3, if_neg (by omega)]
      exact m4 c a b
  · by_cases e : p = h 836 4
    · intro a b c
      have := (c2 p (by omega) (by omega)).1
      omega
    · exact c3 p i j q0 (by omega)
theorem mk_both {h : HV} {k w g : Int} (P : RPp h) (W : RRw h) (M : RMk h) (hc : h 836 4 < 24) : RMk (bothH h k w g) := by
  obtain ⟨p1, p2, p3⟩ := P
  have T1 : ∀ a, a ≠ 836 ∧ a ≠ 1120 ∧ a ≠ 1056 ∧ a ≠ 992 ∧ a ≠ 928 ∧ a ≠ 12576 ∧ a ≠ 12512 ∧ a ≠ 12384 ∧ a ≠ 10208 ∧ a ≠ 10144 ∧ a ≠ 10080 ∧ a ≠ 10016 ∧ a ≠ 6603 → bothH h k w g a = h a := fun a q => by
    unfold bothH
    rw [entH_ne q.2.2.2.2.2.1 q.2.2.2.2.2.2.1 q.2.2.2.2.2.2.2.1 q.2.2.2.2.2.2.2.2.1 q.2.2.2.2.2.2.2.2.2.1 q.2.2.2.2.2.2.2.2.2.2.1 q.2.2.2.2.2.2.2.2.2.2.2.1 q.2.2.2.2.2.2.2.2.2.2.2.2, addH_ne q.1 q.2.1 q.2.2.1 q.2.2.2.1 q.2.2.2.2.1]
  have a25 : addH h k w g 6603 25 = h 836 4 := by rw [both_25, p1]
  have b4 : bothH h k w g 836 4 = h 836 4 + 1 := by unfold bothH; rw [entH_ne (by decide) (by decide) (by decide) (by decide) (by decide) (by decide) (by decide) (by decide), addH_v]; simp (implicitDefEqProofs := false) only [true_and, if_true]
  have v1 : ∀ p, bothH h k w g 928 p = if p = h 836 4 then k else h 928 p := fun p => by unfold bothH; rw [entH_ne (by decide) (by decide) (by decide) (by decide) (by decide) (by decide) (by decide) (by decide), addH_v]; simp (implicitDefEqProofs := false) only [Int.reduceEq, false_and, true_and, if_false]
  have v2 : ∀ i, bothH h k w g 1120 i = if h 836 4 * 8 ≤ i ∧ i < h 836 4 * 8 + 8 then -1 else h 1120 i := fun i => by unfold bothH; rw [entH_ne (by decide) (by decide) (by decide) (by decide) (by decide) (by decide) (by decide) (by decide), addH_v]; simp (implicitDefEqProofs := false) only [Int.reduceEq, false_and, true_and, if_false]
  have w3 : ∀ i, bothH h k w g 10208 i = if 8 * h 836 4 ≤ i ∧ i < 8 * h 836 4 + 8 then -9 else h 10208 i := fun i => by unfold bothH; rw [entH_v, a25, addH_ne (by decide) (by decide) (by decide) (by decide) (by decide)]; simp (implicitDefEqProofs := false) only [Int.reduceEq, false_and, true_and, if_false]
  have br : rb (bothH h k w g) = rb h := by unfold rb; rw [T1 643 (by decide)]
  unfold RMk
  rw [br, T1 643 (by decide), T1 10272 (by decide), b4]
  intro p q0 q1 c c0 c1
  rw [v1, v2, w3]
  by_cases e : p = h 836 4
  · rw [if_pos (show h 836 4 * 8 ≤ 8 * p + c ∧ 8 * p + c < h 836 4 * 8 + 8 by omega), if_pos (show 8 * h 836 4 ≤ 8 * p + c ∧ 8 * p + c < 8 * h 836 4 + 8 by omega)]
    exact .inl ⟨rfl, rfl⟩
  · rw [if_neg (show ¬ (h 836 4 * 8 ≤ 8 * p + c ∧ 8 * p + c < h 836 4 * 8 + 8) by omega), if_neg (show ¬ (8 * h 836 4 ≤ 8 * p + c ∧ 8 * p + c < 8 * h 836 4 + 8) by omega), if_neg e]
    exact M p q0 (by omega) c c0 c1
theorem pc_both {h : HV} {k w g : Int} (P : RPp h) (C : RCh h) (X : RTx h) (PC : RPc h) (hc : h 836 4 < 24) : RPc (bothH h k w g) := by
  have T1 : ∀ a, a ≠ 836 ∧ a ≠ 1120 ∧ a ≠ 1056 ∧ a ≠ 992 ∧ a ≠ 928 ∧ a ≠ 12576 ∧ a ≠ 12512 ∧ a ≠ 12384 ∧ a ≠ 10208 ∧ a ≠ 10144 ∧ a ≠ 10080 ∧ a ≠ 10016 ∧ a ≠ 6603 → bothH h k w g a = h a := fun a q => by
    unfold bothH
    rw [entH_ne q.2.2.2.2.2.1 q.2.2.2.2.2.2.1 q.2.2.2.2.2.2.2.1 q.2.2.2.2.2.2.2.2.1 q.2.2.2.2.2.2.2.2.2.1 q.2.2.2.2.2.2.2.2.2.2.1 q.2.2.2.2.2.2.2.2.2.2.2.1 q.2.2.2.2.2.2.2.2.2.2.2.2, addH_ne q.1 q.2.1 q.2.2.1 q.2.2.2.1 q.2.2.2.2.1]
  have b4 : bothH h k w g 836 4 = h 836 4 + 1 := by unfold bothH; rw [entH_ne (by decide) (by decide) (by decide) (by decide) (by decide) (by decide) (by decide) (by decide), addH_v]; simp (implicitDefEqProofs := false) only [true_and, if_true]
  have w9 : bothH h k w g 6603 9 = h 6603 9 := by unfold bothH; rw [entH_v, addH_ne (by decide) (by decide) (by decide) (by decide) (by decide)]; simp (implicitDefEqProofs := false) only [Int.reduceEq, false_and, true_and, and_false, if_false]
  have t1 : bothH h k w g (h 64 8 + 598) = h (h 64 8 + 598) := T1 _ (by rcases X.1 with w | w <;> omega)
  have t2 : bothH h k w g (h 64 8 + 1110) = h (h 64 8 + 1110) := T1 _ (by rcases X.1 with w | w <;> omega)
  have t3 : bothH h k w g (h 6603 9 + 724) = h (h 6603 9 + 724) := T1 _ (by rcases X.2.1 with w | w <;> omega)
  unfold RPc
  rw [T1 64 (by decide), w9, t1, t2, t3, T1 2953 (by decide), T1 3232 (by decide), b4]
  refine ⟨PC.1, PC.2.1, fun p p0 p1 => ?_⟩
  by_cases e : p = h 836 4
  · exact .inl (C.2.1 p (by omega) (by omega)).2.2
  · exact PC.2.2 p p0 (by omega)
theorem st_parent {d : Nat} {h : HV} {w : Int} (R : RB h) : Sp fz1 (d + 1) 141 [(3, 64), (0, w)] h (fun x h1 => h1 50 = h 50 ∧ Sp fz1 (d + 1) 370 [(3, 6603), (0, w)] h1 (fun y h2 => x = y ∧ RB h2 ∧ UF h h2 ∧ h2 50 = h 50)) := by
  have RR := R
  obtain ⟨RX, RG, RU, RL, RM, RTP, RP, RB, RW, RA, RT, RI, RV, RAB, RSD, RCH, RPC, RRW, RMK, RGV, RMI, RVL, RRM, RIT⟩ := R
  refine (op_parent RP).imp fun x h1 ⟨s, H⟩ => ⟨s, H.imp fun y h2 ⟨q, c1, w1⟩ => ?_⟩
  subst q
  rcases w1 with w1 | ⟨hc, w1⟩
  · subst w1
    exact ⟨rfl, RR, uf_rfl _, rfl⟩
  subst w1
  have e : ∀ a, a ≠ 836 ∧ a ≠ 1120 ∧ a ≠ 1056 ∧ a ≠ 992 ∧ a ≠ 928 ∧ a ≠ 12576 ∧ a ≠ 12512 ∧ a ≠ 12384 ∧ a ≠ 10208 ∧ a ≠ 10144 ∧ a ≠ 10080 ∧ a ≠ 10016 ∧ a ≠ 6603 → bothH h 1 w (-9) a = h a := fun a q => by
    unfold bothH
    rw [entH_ne q.2.2.2.2.2.1 q.2.2.2.2.2.2.1 q.2.2.2.2.2.2.2.1 q.2.2.2.2.2.2.2.2.1 q.2.2.2.2.2.2.2.2.2.1 q.2.2.2.2.2.2.2.2.2.2.1 q.2.2.2.2.2.2.2.2.2.2.2.1 q.2.2.2.2.2.2.2.2.2.2.2.2, addH_ne q.1 q.2.1 q.2.2.1 q.2.2.2.1 q.2.2.2.2.1]
  have s6603 : ∀ s, s ≠ 25 → bothH h 1 w (-9) 6603 s = h 6603 s := fun s hs => by
    unfold bothH
    rw [entH_v, addH_ne (by decide) (by decide) (by decide) (by decide) (by decide)]
    simp (implicitDefEqProofs := false) only [Int.reduceEq, false_and, true_and, if_false]
    rw [if_neg hs]
  have CH2 := ch_both (k := 1) (w := w) (g := -9) RP RCH RX hc
  have b9 : ∀ p, 0 ≤ p → p < h 836 4 → bothH h 1 w (-9) 928 p = h 928 p := fun p p0 p1 => by
    unfold bothH
    rw [entH_ne (by decide) (by decide) (by decide) (by decide) (by decide) (by decide) (by decide) (by decide), addH_v]
    simp (implicitDefEqProofs := false) only [Int.reduceEq, false_and, true_and, if_false]
    rw [if_neg (by omega)]
  have b4 : bothH h 1 w (-9) 836 4 = h 836 4 + 1 := by unfold bothH; rw [entH_ne (by decide) (by decide) (by decide) (by decide) (by decide) (by decide) (by decide) (by decide), addH_v]; simp (implicitDefEqProofs := false) only [true_and, if_true]
  have MK2 := mk_both (k := 1) (w := w) (g := -9) RP RRW RMK hc
  have PC2 := pc_both (k := 1) (w := w) (g := -9) RP RCH RX RPC hc
  have DNe : ∀ a, DN a → bothH h 1 w (-9) a = h a := fun a q => e a (by unfold DN at q; omega)
  have D := dyf_of RRW RVL DNe (s6603 30 (by decide))
  have UU := uf_of RVL DNe (congrFun (e 64 (by decide)) 8) (congrFun (e 64 (by decide)) 9) (s6603 9 (by decide)) (s6603 10 (by decide))
  have F := uf_tx RX UU
  exact ⟨rfl, ⟨(f_X F RX), (f_G F RG), (f_U F RU), (f_L F RL), (f_M F RM), (f_TP (congrFun (e 129 (by decide)) 1) (s6603 1 (by decide)) (e 6691 (by decide)) (e 227 (by decide)) RTP), c1, (f_B (s6603 65 (by decide)) (congrFun (e 1927 (by decide)) 1) (e 11680 (by decide)) (e 2016 (by decide)) (e 11808 (by decide)) (e 2080 (by decide)) RB), (f_W (e 2080 (by decide)) RW), (f_A (fun s a b => congrFun (e 1927 (by decide)) s) (fun s a b c => s6603 s (by omega)) RA), (f_T F (congrFun (e 1927 (by decide)) 0) (congrFun (e 1927 (by decide)) 13) (e 11872 (by decide)) (e 11936 (by decide)) (e 2528 (by decide)) RT), (f_I F (congrFun (e 1927 (by decide)) 13) (e 2528 (by decide)) RI), (f_V F (congrFun (e 2568 (by decide)) 4) (congrFun (e 1927 (by decide)) 13) (s6603 71 (by decide)) (e 12896 (by decide)) (e 2720 (by decide)) RV), (f_Ab (e 11744 (by decide)) (e 2656 (by decide)) RAB), (f_Sd (congrFun (e 64 (by decide)) 16) (s6603 61 (by decide)) (e 11488 (by decide)) (e 6432 (by decide)) RSD), CH2, PC2, (f_Rw D RRW), MK2, (f_Gv D (congrFun (e 64 (by decide)) 10) (congrFun (e 64 (by decide)) 11) (s6603 58 (by decide)) (s6603 59 (by decide)) RGV), (f_Mi F (s6603 55 (by decide)) (congrFun (e 1157 (by decide)) 15) (congrFun (e 64 (by decide)) 12) (s6603 53 (by decide)) (congrFun (e 2568 (by decide)) 1) RMI), (f_Vl D RVL), (f_Rm D RRM), (f_Itm D (by rw [b4]; omega) b9 RIT)⟩, UU, (e 50 (by decide))⟩
