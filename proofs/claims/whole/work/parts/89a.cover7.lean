/-! THE PURE SIDE, 71: cover, both halves: printed by wip/tools/gen89a.py -/
def msC (t : Nat → Nat → Int) (n m : Nat) : Nat → Nat
  | 0 => m
  | k + 1 => if chC t (n - 1 - k) (msC t n m k) < 0 then msC t n m k else msC t n m k ^^^ 2 ^ (chC t (n - 1 - k) (msC t n m k)).toNat
theorem ms_s (t : Nat → Nat → Int) (n m : Nat) : ∀ k : Nat, msC t (n + 1) m (k + 1) = msC t n (if chC t n m < 0 then m else m ^^^ 2 ^ (chC t n m).toNat) k
  | 0 => rfl
  | k + 1 => by
    have ih := ms_s t n m k
    rw [msC, ih, show n + 1 - 1 - (k + 1) = n - 1 - k by omega]
    rfl
theorem pa_ms (t : Nat → Nat → Int) : ∀ (k n m : Nat), k < n → paC t n m k = chC t (n - 1 - k) (msC t n m k)
  | 0, n + 1, m, h => rfl
  | k + 1, n + 1, m, h => by
    rw [ms_s, show n + 1 - 1 - (k + 1) = n - 1 - k by omega, ← pa_ms t k n _ (by omega)]
    rfl
  | k, 0, m, h => by omega
theorem ms_lt {t : Nat → Nat → Int} {n m : Nat} (hm : m < 1024) : ∀ k : Nat, msC t n m k < 1024
  | 0 => hm
  | k + 1 => by
    have ih := ms_lt (t := t) (n := n) hm k
    rw [msC]
    split
    · exact ih
    · exact xor_lt ih (by rcases chC_b (t := t) (r := n - 1 - k) (m := msC t n m k) with w | w <;> omega)
theorem lp440c {d : Nat} {K H : HV} {Q : Int → HV → Prop} {p l2 l4 : Int} {i m : Nat} (C : CvK K) (O : RvO K H p) (D : DPs K H p 0) (hi : i < nO K p) (hm : m < 1024) (hu9 : H 12896 (arO K p (K (K 64 8) 11).toNat i) = -9)
    (nx : ∀ H' : HV, (∀ a, a ≠ 12896 → H' a = H a) → (∀ x, H' 12896 x = if x = arO K p (K (K 64 8) 11).toNat i then chC (tO K p) (nO K p - 1 - i) m else H 12896 x) → ∀ z, G fz1 (d + 1) 440 20 [(3, 6603), (0, p), (0, l2), (0, ((if chC (tO K p) (nO K p - 1 - i) m < 0 then m else m ^^^ 2 ^ (chC (tO K p) (nO K p - 1 - i) m).toNat : Nat) : Int)), (0, l4), (0, FCv (tO K p) (nO K p - 1 - i) (if chC (tO K p) (nO K p - 1 - i) m < 0 then m else m ^^^ 2 ^ (chC (tO K p) (nO K p - 1 - i) m).toNat)), (0, (i : Int)), (0, arO K p (K (K 64 8) 11).toNat i), z] [] H' Q) : ∀ (k s : Nat), s + k = 10 → (∀ s', s' < s → okF (tO K p (nO K p - 1 - i)) m s' = 1 → wC (tO K p) (nO K p - 1 - i) m s' ≠ FCv (tO K p) (nO K p - 1 - i + 1) m) → G fz1 (d + 1) 440 18 [(3, 6603), (0, p), (0, l2), (0, (m : Int)), (0, l4), (0, FCv (tO K p) (nO K p - 1 - i + 1) m), (0, (i : Int)), (0, arO K p (K (K 64 8) 11).toNat i), (0, (s : Int))] [] H Q := by
  have n6 := no_6 (p := p) C
  have te := fun (s : Nat) (hs : s < 10) (d : Nat) (Q : Int → HV → Prop) => te_row (d := d) (Q := Q) C O hi hs
  have ab := ar_b (h := K) (p := p) (K (K 64 8) 11).toNat i (by omega) (by show (i : Int) < (nO K p : Int); omega)
  have hN := C.2.1.1
  have vx := fun (m' : Nat) (hm' : m' < 1024) => D (i + 1) m' (Nat.zero_le _) (by omega) hm'
  have ci : (((i + 1 : Nat)) : Int) = (i : Int) + 1 := by omega
  rw [ci, show nO K p - (i + 1) = nO K p - 1 - i by omega] at vx
  have cf := ch_first (t := tO K p) (r := nO K p - 1 - i) (m := m)
  have fbm := FCv_b (t := tO K p) (nO K p - 1 - i + 1) m
  have uI : 0 ≤ arO K p (K (K 64 8) 11).toNat i ∧ arO K p (K (K 64 8) 11).toNat i < 36 := by omega
  have r6 : nO K p - 1 - i ≤ 6 := by omega
  generalize arO K p (K (K 64 8) 11).toNat i = u at *
  generalize hr : nO K p - 1 - i = r at *
  intro k
  induction k with
  | zero =>
    intro s hs none
    have ch : chC (tO K p) r m = -9 ∧ FCv (tO K p) (r + 1) m = FCv (tO K p) r m := by
      rcases cf with ⟨c1, c2, _⟩ | ⟨c1, c2, c3, c4, _⟩
      · exact ⟨c1, c2⟩
      · exact absurd c4 (none _ (by omega) c3)
    rw [ch.1, if_pos (by decide)] at nx
    rw [ch.2]
    refine G_in ?_
    simp (implicitDefEqProofs := false) (disch := omega) only [b440_18, x_aload0, y_call442, x_gc_11995, x_gc_12019, x_goto_19, x_iadd, x_iaload, x_iand, x_iastore, x_iconst, x_ifCond_eq_19, x_if_icmp_ge_20, x_if_icmp_ne_19, x_if_icmp_ne_20, x_iinc5, x_iload3, x_iload5, x_iload6, x_iload7, x_iload8, x_imul, x_ishl, x_ishr, x_istore3, x_ixor, klp_0, klp_1, klp_2, klp_3, klp_9, KC_0, KC_1, KC_2, KC_3, KC_4, ne_eq, not_false_eq_true, not_true_eq_false, true_and, and_true, and_self, implies_true, eq_self, true_imp_iff, false_implies, Int.reduceEq, Int.reduceNe, Int.reduceMod, Int.reduceMul, Int.reduceAdd, Int.reduceSub, Int.reduceLT, Int.reduceLE, Nat.reduceAdd, Nat.reduceLeDiff, Nat.reduceLT, Nat.reduceSub, reduceIte, wds_n, wds_0, wds_1, wds_2, wds_3, or_true, true_or, or_false, false_or, or_self, false_and, and_false, d_pos, d_s1, d_s2, d_s3, d_s4, d_s5, d_s6, d_s7, d_s8, Classical.not_not, le_T, le_F, lt_T, lt_F, w32_T]
    refine nx H (fun _ _ => rfl) (fun x => ?_) _
    by_cases q : x = u
    · rw [if_pos q, q]; exact hu9
    · rw [if_neg q]
  | succ k ih =>
    intro s hs none
    have s10 : s < 10 := by omega
    have bt := bit_t (m := m) (s := s) (by omega) (by omega)
    have bx := bit_xor (m := m) (s := s) hm s10
    have bl := xor_lt hm s10
    have v := vx (m ^^^ 2 ^ s) bl
    have fb := FCv_b (t := tO K p) r (m ^^^ 2 ^ s)
    have t0 := te s s10
    have next : (okF (tO K p r) m s = 1 → wC (tO K p) r m s ≠ FCv (tO K p) (r + 1) m) → G fz1 (d + 1) 440 18 [(3, 6603), (0, p), (0, l2), (0, (m : Int)), (0, l4), (0, FCv (tO K p) (r + 1) m), (0, (i : Int)), (0, u), (0, ((s + 1 : Nat) : Int))] [] H Q := fun no => ih (s + 1) (by omega) (fun s' h1 h2 => by
      by_cases q : s' = s
      · rw [q] at h2 ⊢; exact no h2
      · exact none s' (by omega) h2)
    refine G_in ?_
    by_cases c1 : m.testBit s = true
    · rw [if_pos c1] at bt
      by_cases c2 : tO K p r s = 1
      · have ok : okF (tO K p r) m s = 1 := by unfold okF; rw [if_pos ⟨c1, c2⟩]
        have e2 : (if tO K p r s = 1 then (1 : Int) else 0) = 1 := if_pos c2
        have wE : wC (tO K p) r m s = 1 + FCv (tO K p) r (m ^^^ 2 ^ s) := rfl
        by_cases c3 : 1 + FCv (tO K p) r (m ^^^ 2 ^ s) = FCv (tO K p) (r + 1) m
        · have ch : chC (tO K p) r m = s := by
            rcases cf with ⟨_, _, c⟩ | ⟨d1, d2, d3, d4, d5⟩
            · exact absurd (wE.trans c3) (c s s10 ok)
            · by_cases q : (s : Int) < chC (tO K p) r m
              · exact absurd (wE.trans c3) (d5 s q ok)
              · by_cases q2 : chC (tO K p) r m < s
                · exact absurd d4 (none _ (by omega) d3)
                · omega
          rw [ch, if_neg (by omega), show ((s : Int)).toNat = s by omega] at nx
          have nxH := nx (hset H 12896 u s) (fun a ha => hs_ne ha) (fun x => by
            rw [hset_v]
            by_cases q : x = u
            · rw [if_pos ⟨rfl, q⟩, if_pos q]
            · rw [if_neg (fun w => q w.2), if_neg q])
          have fin : G fz1 (d + 1) 440 18 [(3, 6603), (0, p), (0, l2), (0, ((m ^^^ 2 ^ s : Nat) : Int)), (0, l4), (0, FCv (tO K p) r (m ^^^ 2 ^ s)), (0, (i : Int)), (0, u), (0, (s : Int) + 1)] [] (hset H 12896 u s) Q := by
            have r9 : hset H 12896 u s 12896 u = s := by rw [hset_v, if_pos ⟨rfl, rfl⟩]
            have s9 : ¬ (s : Int) = -9 := by omega
            refine G_in ?_
            by_cases q : s = 9
            · have q2 : (s : Int) + 1 = 10 := by omega
              simp (implicitDefEqProofs := false) (disch := omega) only [b440_18, x_aload0, y_call442, x_gc_11995, x_gc_12019, x_goto_19, x_iadd, x_iaload, x_iand, x_iastore, x_iconst, x_ifCond_eq_19, x_if_icmp_ge_20, x_if_icmp_ne_19, x_if_icmp_ne_20, x_iinc5, x_iload3, x_iload5, x_iload6, x_iload7, x_iload8, x_imul, x_ishl, x_ishr, x_istore3, x_ixor, klp_0, klp_1, klp_2, klp_3, klp_9, KC_0, KC_1, KC_2, KC_3, KC_4, ne_eq, not_false_eq_true, not_true_eq_false, true_and, and_true, and_self, implies_true, eq_self, true_imp_iff, false_implies, Int.reduceEq, Int.reduceNe, Int.reduceMod, Int.reduceMul, Int.reduceAdd, Int.reduceSub, Int.reduceLT, Int.reduceLE, Nat.reduceAdd, Nat.reduceLeDiff, Nat.reduceLT, Nat.reduceSub, reduceIte, wds_n, wds_0, wds_1, wds_2, wds_3, or_true, true_or, or_false, false_or, or_self, false_and, and_false, d_pos, d_s1, d_s2, d_s3, d_s4, d_s5, d_s6, d_s7, d_s8, Classical.not_not, q2, le_T, le_F, lt_T, lt_F, w32_T]
              rw [← q2]
              exact nxH _
            · simp (implicitDefEqProofs := false) (disch := omega) only [b440_18, x_aload0, y_call442, x_gc_11995, x_gc_12019, x_goto_19, x_iadd, x_iaload, x_iand, x_iastore, x_iconst, x_ifCond_eq_19, x_if_icmp_ge_20, x_if_icmp_ne_19, x_if_icmp_ne_20, x_iinc5, x_iload3, x_iload5, x_iload6, x_iload7, x_iload8, x_imul, x_ishl, x_ishr, x_istore3, x_ixor, klp_0, klp_1, klp_2, klp_3, klp_9, KC_0, KC_1, KC_2, KC_3, KC_4, ne_eq, not_false_eq_true, not_true_eq_false, true_and, and_true, and_self, implies_true, eq_self, true_imp_iff, false_implies, Int.reduceEq, Int.reduceNe, Int.reduceMod, Int.reduceMul, Int.reduceAdd, Int.reduceSub, Int.reduceLT, Int.reduceLE, Nat.reduceAdd, Nat.reduceLeDiff, Nat.reduceLT, Nat.reduceSub, reduceIte, wds_n, wds_0, wds_1, wds_2, wds_3, or_true, true_or, or_false, false_or, or_self, false_and, and_false, d_pos, d_s1, d_s2, d_s3, d_s4, d_s5, d_s6, d_s7, d_s8, Classical.not_not, z6603_91, z12896_l, r9, s9, le_T, le_F, lt_T, lt_F, w32_T]
              exact nxH _
          have fE : FCv (tO K p) (r + 1) m - 1 = FCv (tO K p) r (m ^^^ 2 ^ s) := by
            rw [← c3]
            generalize FCv (tO K p) r (m ^^^ 2 ^ s) = x
            omega
          generalize FCv (tO K p) r (m ^^^ 2 ^ s) = f at *
          generalize m ^^^ 2 ^ s = m2 at *
          simp (implicitDefEqProofs := false) (disch := omega) only [b440_18, b440_19, q440_19, x_aload0, y_call442, x_gc_11995, x_gc_12019, x_goto_18, x_goto_19, x_iadd, x_iaload, x_iand, x_iastore, x_iconst, x_ifCond_eq_19, x_if_icmp_ge_20, x_if_icmp_ne_19, x_if_icmp_ne_20, x_iinc5, x_iinc8, x_iload3, x_iload5, x_iload6, x_iload7, x_iload8, x_imul, x_ishl, x_ishr, x_istore3, x_ixor, klp_0, klp_1, klp_2, klp_3, klp_9, KC_0, KC_1, KC_2, KC_3, KC_4, ne_eq, not_false_eq_true, not_true_eq_false, true_and, and_true, and_self, implies_true, eq_self, true_imp_iff, false_implies, Int.reduceEq, Int.reduceNe, Int.reduceMod, Int.reduceMul, Int.reduceAdd, Int.reduceSub, Int.reduceLT, Int.reduceLE, Nat.reduceAdd, Nat.reduceLeDiff, Nat.reduceLT, Nat.reduceSub, reduceIte, wds_n, wds_0, wds_1, wds_2, wds_3, or_true, true_or, or_false, false_or, or_self, false_and, and_false, d_pos, d_s1, d_s2, d_s3, d_s4, d_s5, d_s6, d_s7, d_s8, Classical.not_not, z6603_91, z12896_l, hu9, bt, t0, e2, z6603_94, z13024_l, bx, v, eq_true c3, le_T, le_F, lt_T, lt_F, w32_T]
          have fE2 : FCv (tO K p) (r + 1) m + -1 = f := by omega
          first
          | exact fin
          | (rw [fE2]; exact fin)
          | (rw [fE]; exact fin)
        · generalize FCv (tO K p) r (m ^^^ 2 ^ s) = f at *
          generalize m ^^^ 2 ^ s = m2 at *
          simp (implicitDefEqProofs := false) (disch := omega) only [b440_18, b440_19, q440_19, x_aload0, y_call442, x_gc_11995, x_gc_12019, x_goto_18, x_goto_19, x_iadd, x_iaload, x_iand, x_iastore, x_iconst, x_ifCond_eq_19, x_if_icmp_ge_20, x_if_icmp_ne_19, x_if_icmp_ne_20, x_iinc5, x_iinc8, x_iload3, x_iload5, x_iload6, x_iload7, x_iload8, x_imul, x_ishl, x_ishr, x_istore3, x_ixor, klp_0, klp_1, klp_2, klp_3, klp_9, KC_0, KC_1, KC_2, KC_3, KC_4, ne_eq, not_false_eq_true, not_true_eq_false, true_and, and_true, and_self, implies_true, eq_self, true_imp_iff, false_implies, Int.reduceEq, Int.reduceNe, Int.reduceMod, Int.reduceMul, Int.reduceAdd, Int.reduceSub, Int.reduceLT, Int.reduceLE, Nat.reduceAdd, Nat.reduceLeDiff, Nat.reduceLT, Nat.reduceSub, reduceIte, wds_n, wds_0, wds_1, wds_2, wds_3, or_true, true_or, or_false, false_or, or_self, false_and, and_false, d_pos, d_s1, d_s2, d_s3, d_s4, d_s5, d_s6, d_s7, d_s8, Classical.not_not, z6603_91, z12896_l, hu9, bt, t0, e2, z6603_94, z13024_l, bx, v, c3, le_T, le_F, lt_T, lt_F, w32_T]
          exact next (fun _ => by rw [wE]; exact c3)
      · have e2 : (if tO K p r s = 1 then (1 : Int) else 0) = 0 := if_neg c2
        simp (implicitDefEqProofs := false) (disch := omega) only [b440_18, b440_19, q440_19, x_aload0, y_call442, x_gc_11995, x_gc_12019, x_goto_18, x_goto_19, x_iadd, x_iaload, x_iand, x_iastore, x_iconst, x_ifCond_eq_19, x_if_icmp_ge_20, x_if_icmp_ne_19, x_if_icmp_ne_20, x_iinc5, x_iinc8, x_iload3, x_iload5, x_iload6, x_iload7, x_iload8, x_imul, x_ishl, x_ishr, x_istore3, x_ixor, klp_0, klp_1, klp_2, klp_3, klp_9, KC_0, KC_1, KC_2, KC_3, KC_4, ne_eq, not_false_eq_true, not_true_eq_false, true_and, and_true, and_self, implies_true, eq_self, true_imp_iff, false_implies, Int.reduceEq, Int.reduceNe, Int.reduceMod, Int.reduceMul, Int.reduceAdd, Int.reduceSub, Int.reduceLT, Int.reduceLE, Nat.reduceAdd, Nat.reduceLeDiff, Nat.reduceLT, Nat.reduceSub, reduceIte, wds_n, wds_0, wds_1, wds_2, wds_3, or_true, true_or, or_false, false_or, or_self, false_and, and_false, d_pos, d_s1, d_s2, d_s3, d_s4, d_s5, d_s6, d_s7, d_s8, Classical.not_not, z6603_91, z12896_l, hu9, bt, t0, e2, le_T, le_F, lt_T, lt_F, w32_T]
        exact next (fun w => by
          unfold okF at w
          rw [if_neg (fun z => c2 z.2)] at w
          omega)
    · rw [if_neg c1] at bt
      simp (implicitDefEqProofs := false) (disch := omega) only [b440_18, b440_19, q440_19, x_aload0, y_call442, x_gc_11995, x_gc_12019, x_goto_18, x_goto_19, x_iadd, x_iaload, x_iand, x_iastore, x_iconst, x_ifCond_eq_19, x_if_icmp_ge_20, x_if_icmp_ne_19, x_if_icmp_ne_20, x_iinc5, x_iinc8, x_iload3, x_iload5, x_iload6, x_iload7, x_iload8, x_imul, x_ishl, x_ishr, x_istore3, x_ixor, klp_0, klp_1, klp_2, klp_3, klp_9, KC_0, KC_1, KC_2, KC_3, KC_4, ne_eq, not_false_eq_true, not_true_eq_false, true_and, and_true, and_self, implies_true, eq_self, true_imp_iff, false_implies, Int.reduceEq, Int.reduceNe, Int.reduceMod, Int.reduceMul, Int.reduceAdd, Int.reduceSub, Int.reduceLT, Int.reduceLE, Nat.reduceAdd, Nat.reduceLeDiff, Nat.reduceLT, Nat.reduceSub, reduceIte, wds_n, wds_0, wds_1, wds_2, wds_3, or_true, true_or, or_false, false_or, or_self, false_and, and_false, d_pos, d_s1, d_s2, d_s3, d_s4, d_s5, d_s6, d_s7, d_s8, Classical.not_not, z6603_91, z12896_l, hu9, bt, le_T, le_F, lt_T, lt_F, w32_T]
      exact next (fun w => by
        unfold okF at w
        rw [if_neg (fun z => c1 z.1)] at w
        omega)
theorem co_far {h : HV} {p : Int} {n N : Nat} {t : Nat → Nat → Int} {m : Nat} {u : Int} : ∀ k : Nat, (∀ i : Nat, i < k → u ≠ arO h p N i) → coA h p n N t m k u = -9
  | 0, _ => rfl
  | k + 1, hu => by rw [coA, if_neg (hu k (by omega))]; exact co_far k (fun i hi => hu i (by omega))
theorem lp440f {d : Nat} {K H0 : HV} {Q : Int → HV → Prop} {p l2 l4 : Int} {y7 y8 : AV} (C : CvK K) (hp : mO K p < 1024) (O0 : RvO K H0 p) (D0 : DPs K H0 p 0) (N0 : ∀ u, 0 ≤ u → u < K (K 64 8) 11 → H0 12896 u = -9)
    (nx : ∀ H : HV, (∀ a, a ≠ 12896 → H a = H0 a) → (∀ u, 0 ≤ u → u < K (K 64 8) 11 → H 12896 u = cO K p (nO K p) u) → ∀ y3 y5 y6 y7 y8, G fz1 (d + 1) 440 21 [(3, 6603), (0, p), (0, l2), y3, (0, l4), y5, y6, y7, y8] [] H Q) : G fz1 (d + 1) 440 17 [(3, 6603), (0, p), (0, l2), (0, (mO K p : Int)), (0, l4), (0, FCv (tO K p) (nO K p) (mO K p)), (0, 0), y7, y8] [] H0 Q := by
  have n6 := no_6 (p := p) C
  have hN := C.2.1.1
  refine forG (N := nO K p) (I := fun i ls h' => (∃ a b, ls = [(3, 6603), (0, p), (0, l2), (0, (msC (tO K p) (nO K p) (mO K p) i : Int)), (0, l4), (0, FCv (tO K p) (nO K p - i) (msC (tO K p) (nO K p) (mO K p) i)), (0, (i : Int)), a, b]) ∧ (∀ a, a ≠ 12896 → h' a = H0 a) ∧ ∀ u, 0 ≤ u → u < K (K 64 8) 11 → h' 12896 u = cO K p i u) ?_ ?_ (j := 0) (Nat.zero_le _) ⟨⟨_, _, rfl⟩, fun _ _ => rfl, fun u a b => N0 u a b⟩
  · rintro i ls h' hi ⟨⟨a, b, rfl⟩, fr, vl⟩ n2
    have O : RvO K h' p := rvo_f O0 (fun a _ q => fr a q)
    have D : DPs K h' p 0 := fun i' m' a1 a2 a3 => by rw [fr _ (by decide)]; exact D0 i' m' a1 a2 a3
    have o6 := O.2.1
    have oi := O.2.2 i hi
    have ab := ar_b (h := K) (p := p) (K (K 64 8) 11).toNat i (by omega) (by show (i : Int) < (nO K p : Int); omega)
    have ml := ms_lt (t := tO K p) (n := nO K p) hp i
    have rE : nO K p - i = nO K p - 1 - i + 1 := by omega
    have u9 : h' 12896 (arO K p (K (K 64 8) 11).toNat i) = -9 := by
      rw [vl _ ab.1.1 (by omega)]
      exact co_far i (fun j hj w => by
        have := ar_lt (h := K) (p := p) (K (K 64 8) 11).toNat j i (by omega) (by omega) (by show (i : Int) < (nO K p : Int); omega)
        omega)
    refine G_in ?_
    simp (implicitDefEqProofs := false) (disch := omega) only [b440_17, q440_17, x_aload0, x_gc_12003, x_gf_12008, x_goto_18, x_iaload, x_iconst, x_if_icmp_ge_21, x_iload6, x_istore7, x_istore8, klp_0, klp_1, klp_2, klp_3, klp_9, KC_0, KC_1, KC_2, KC_3, KC_4, ne_eq, not_false_eq_true, not_true_eq_false, true_and, and_true, and_self, implies_true, eq_self, true_imp_iff, false_implies, Int.reduceEq, Int.reduceNe, Int.reduceMod, Int.reduceMul, Int.reduceAdd, Int.reduceSub, Int.reduceLT, Int.reduceLE, Nat.reduceAdd, Nat.reduceLeDiff, Nat.reduceLT, Nat.reduceSub, reduceIte, wds_n, wds_0, wds_1, wds_2, wds_3, or_true, true_or, or_false, false_or, or_self, false_and, and_false, d_pos, d_s1, d_s2, d_s3, d_s4, d_s5, d_s6, d_s7, d_s8, Classical.not_not, o6, z6603_92, z12960_l, oi, le_T, le_F, lt_T, lt_F, w32_T]
    rw [rE]
    refine lp440c (i := i) C O D hi ml u9 (fun H' f1 f2 z => ?_) 10 0 (by decide) (fun s' h => by omega)
    refine G_in ?_
    simp (implicitDefEqProofs := false) (disch := omega) only [b440_20, q440_20, x_goto_17, x_iinc6, klp_0, klp_1, klp_2, klp_3, klp_9, KC_0, KC_1, KC_2, KC_3, KC_4, ne_eq, not_false_eq_true, not_true_eq_false, true_and, and_true, and_self, implies_true, eq_self, true_imp_iff, false_implies, Int.reduceEq, Int.reduceNe, Int.reduceMod, Int.reduceMul, Int.reduceAdd, Int.reduceSub, Int.reduceLT, Int.reduceLE, Nat.reduceAdd, Nat.reduceLeDiff, Nat.reduceLT, Nat.reduceSub, reduceIte, wds_n, wds_0, wds_1, wds_2, wds_3, or_true, true_or, or_false, false_or, or_self, false_and, and_false, d_pos, d_s1, d_s2, d_s3, d_s4, d_s5, d_s6, d_s7, d_s8, Classical.not_not, le_T, le_F, lt_T, lt_F, w32_T]
    refine n2 _ _ ⟨⟨(0, arO K p (K (K 64 8) 11).toNat i), z, ?_⟩, fun a ha => by rw [f1 a ha, fr a ha], fun u u0 u1 => ?_⟩
    · rw [show nO K p - (i + 1) = nO K p - 1 - i by omega]
      rfl
    · rw [f2]
      unfold cO
      rw [coA, pa_ms _ _ _ _ hi]
      by_cases q : u = arO K p (K (K 64 8) 11).toNat i
      · rw [if_pos q, if_pos q]
      · rw [if_neg q, if_neg q]
        exact vl u u0 u1
  · rintro ls h' ⟨⟨a, b, rfl⟩, fr, vl⟩
    have o6 : h' 6603 93 = nO K p := by rw [fr _ (by decide)]; exact O0.2.1
    refine G_in ?_
    simp (implicitDefEqProofs := false) (disch := omega) only [b440_17, q440_17, x_aload0, x_gc_12003, x_gf_12008, x_goto_18, x_iaload, x_iconst, x_if_icmp_ge_21, x_iload6, x_istore7, x_istore8, klp_0, klp_1, klp_2, klp_3, klp_9, KC_0, KC_1, KC_2, KC_3, KC_4, ne_eq, not_false_eq_true, not_true_eq_false, true_and, and_true, and_self, implies_true, eq_self, true_imp_iff, false_implies, Int.reduceEq, Int.reduceNe, Int.reduceMod, Int.reduceMul, Int.reduceAdd, Int.reduceSub, Int.reduceLT, Int.reduceLE, Nat.reduceAdd, Nat.reduceLeDiff, Nat.reduceLT, Nat.reduceSub, reduceIte, wds_n, wds_0, wds_1, wds_2, wds_3, or_true, true_or, or_false, false_or, or_self, false_and, and_false, d_pos, d_s1, d_s2, d_s3, d_s4, d_s5, d_s6, d_s7, d_s8, Classical.not_not, o6, le_T, le_F, lt_T, lt_F, w32_T]
    exact nx h' fr vl _ _ _ _ _
