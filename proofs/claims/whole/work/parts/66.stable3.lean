/-! THE PURE SIDE, 47: stable, both sides alike: printed by wip/tools/gen66.py -/
theorem bf_iff {t : Int → Int} {a b : Int} : bfF t a b ≠ 0 ↔ t a < t b ∨ t a = t b ∧ a < b := by
  unfold bfF
  by_cases q : t a < t b ∨ t a = t b ∧ a < b
  · rw [if_pos q]; exact ⟨fun _ => q, fun _ => by decide⟩
  · rw [if_neg q]; exact ⟨fun w => absurd rfl w, fun w => absurd w q⟩
theorem bf_one {t : Int → Int} {a b : Int} : bfF t a b = 1 ↔ t a < t b ∨ t a = t b ∧ a < b := by
  have := bfF_b t a b
  rw [← bf_iff]
  omega
theorem lsF_max {pl t : Int → Int} {c : Int} : ∀ n : Nat, (lsF pl t c n = -1 ∧ ∀ q : Int, 0 ≤ q → q < (n : Int) → pl q ≠ c) ∨ (0 ≤ lsF pl t c n ∧ lsF pl t c n < n ∧ pl (lsF pl t c n) = c ∧ ∀ q : Int, 0 ≤ q → q < (n : Int) → pl q = c → q = lsF pl t c n ∨ (t q < t (lsF pl t c n) ∨ t q = t (lsF pl t c n) ∧ q < lsF pl t c n))
  | 0 => .inl ⟨rfl, fun q a b => by omega⟩
  | n + 1 => by
    have ih := lsF_max (pl := pl) (t := t) (c := c) n
    rw [lsF]
    rcases ih with ⟨e, f⟩ | ⟨e1, e2, e3, f⟩
    · by_cases hp : pl n = c
      · rw [if_pos ⟨hp, .inl (by omega)⟩]
        refine .inr ⟨by omega, by omega, hp, fun q q0 q1 qc => ?_⟩
        by_cases e4 : q = n
        · exact .inl e4
        · exact absurd qc (f q q0 (by omega))
      · rw [if_neg (fun w => hp w.1)]
        refine .inl ⟨e, fun q q0 q1 => ?_⟩
        by_cases e4 : q = n
        · rw [e4]; exact hp
        · exact f q q0 (by omega)
    · by_cases hp : pl n = c
      · by_cases hb : bfF t (lsF pl t c n) n = 1
        · rw [if_pos ⟨hp, .inr hb⟩]
          rw [bf_one] at hb
          refine .inr ⟨by omega, by omega, hp, fun q q0 q1 qc => ?_⟩
          by_cases e4 : q = n
          · exact .inl e4
          · right
            rcases f q q0 (by omega) qc with e5 | e5
            · rw [e5]; exact hb
            · omega
        · rw [if_neg (fun w => w.2.elim (fun x => by omega) hb)]
          rw [bf_one] at hb
          refine .inr ⟨e1, by omega, e3, fun q q0 q1 qc => ?_⟩
          by_cases e4 : q = n
          · right
            rw [e4]
            omega
          · exact f q q0 (by omega) qc
      · rw [if_neg (fun w => hp w.1)]
        refine .inr ⟨e1, by omega, e3, fun q q0 q1 qc => ?_⟩
        by_cases e4 : q = n
        · rw [e4] at qc; exact absurd qc hp
        · exact f q q0 (by omega) qc
theorem okR_iff {h : HV} {r c : Int} : ∀ n : Nat, okR h r c n ≠ 0 ↔ (sumI (fun p => isE (h 12576 p) c) (h 6603 25).toNat < h (h 6603 9 + 724) c ∨ ∃ q : Int, 0 ≤ q ∧ q < (n : Int) ∧ h 12576 q = c ∧ bfF (fun p => h 12512 (8 * p + c)) r q ≠ 0)
  | 0 => by
    rw [okR]
    by_cases q : sumI (fun p => isE (h 12576 p) c) (h 6603 25).toNat < h (h 6603 9 + 724) c
    · rw [if_pos q]; exact ⟨fun _ => .inl q, fun _ => by decide⟩
    · rw [if_neg q]
      refine ⟨fun w => absurd rfl w, fun w => ?_⟩
      rcases w with w | ⟨x, x0, x1, _⟩
      · exact absurd w q
      · omega
  | n + 1 => by
    have ih := okR_iff (h := h) (r := r) (c := c) n
    rw [okR]
    by_cases q : okR h r c n ≠ 0 ∨ h 12576 n = c ∧ bfF (fun p => h 12512 (8 * p + c)) r n ≠ 0
    · rw [if_pos q]
      refine ⟨fun _ => ?_, fun _ => by decide⟩
      rcases q with q | q
      · rcases ih.1 q with w | ⟨x, x0, x1, x2⟩
        · exact .inl w
        · exact .inr ⟨x, x0, by omega, x2⟩
      · exact .inr ⟨n, by omega, by omega, q⟩
    · rw [if_neg q]
      refine ⟨fun w => absurd rfl w, fun w => ?_⟩
      exfalso
      apply q
      rcases w with w | ⟨x, x0, x1, x2⟩
      · exact .inl (ih.2 (.inl w))
      · by_cases e : x = n
        · rw [e] at x2; exact .inr x2
        · exact .inl (ih.2 (.inr ⟨x, x0, by omega, x2⟩))
theorem seC_0 {e : Int → Int} : ∀ (n : Nat) (c : Int), (∀ i, c ≤ i → i < c + n → e i = 0) → seC e n c = 0
  | 0, _, _ => rfl
  | n + 1, c, h => by
    rw [seC, if_neg (fun w => w (h c (Int.le_refl _) (by omega)))]
    exact seC_0 n (c + 1) (fun i a b => h i (by omega) (by omega))
theorem rk_both {h : HV} (C : RCh h) {p c : Int} (hp : 0 ≤ p ∧ p < h 836 4) : (rkC h p c = rkR h p c ∧ 0 ≤ rkC h p c ∧ rkC h p c < 9) ∨ (rkC h p c = -1 ∧ rkR h p c = -9) := by
  obtain ⟨c1, c2, c3, c4, c5, c6⟩ := C.1 p hp.1 hp.2
  unfold rkC rkR
  rw [c1]
  rcases fnx_both (f := fun k => h 3040 (p * 8 + k)) (g := fun k => h 12448 (8 * p + k)) (c := c) (d1 := -1) (d2 := -9) (h 3104 p).toNat 0 (fun i q1 q2 => by
        show h 3040 (p * 8 + i) = h 12448 (8 * p + i)
        rw [(c3 i q1 (by omega)).1, show p * 8 = 8 * p by omega]) with ⟨f1, f2, f3, f4⟩ | ⟨f1, f2, f3⟩
  · exact .inl ⟨f1, f2, by omega⟩
  · exact .inr ⟨f1, f2⟩
theorem bf_c {t s : Int → Int} {a b : Int} (h1 : t a = s a) (h2 : t b = s b) : bfF t a b = bfF s a b := by
  unfold bfF
  rw [h1, h2]
theorem en_eq {h : HV} (P : RPp h) (C : RCh h) {r c : Int} (hr : 0 ≤ r ∧ r < h 836 4) (hc : 0 ≤ c ∧ c < h (h 64 8 + 598) 5) (L : h 3360 c = h (h 6603 9 + 724) c - sumI (fun p => isE (h 3232 p) c) (h 836 4).toNat) : enC h r c = enR h r c := by
  have P2 := P.2.1
  have hR : (wnF h r c ≠ 0) ↔ (rkR h r c ≠ -9 ∧ rkR h r c < owR h r) := by
    have a1 := rk_both C (c := c) hr
    have a2 := rk_both C (c := h 3232 r) hr
    have c6 := (C.1 r hr.1 hr.2).2.2.2.2.2
    unfold wnF owR
    rw [c6]
    by_cases hp : h 3232 r = -9
    · rw [if_pos hp]
      by_cases q : 0 ≤ rkC h r c ∧ (h 3232 r = -9 ∨ rkC h r c < rkC h r (h 3232 r))
      · rw [if_pos q]; exact ⟨fun _ => by omega, fun _ => by decide⟩
      · rw [if_neg q]; exact ⟨fun w => absurd rfl w, fun w => absurd ⟨by omega, .inl hp⟩ q⟩
    · rw [if_neg hp]
      by_cases q : 0 ≤ rkC h r c ∧ (h 3232 r = -9 ∨ rkC h r c < rkC h r (h 3232 r))
      · rw [if_pos q]; exact ⟨fun _ => by omega, fun _ => by decide⟩
      · rw [if_neg q]; exact ⟨fun w => absurd rfl w, fun w => absurd ⟨by omega, .inr (by omega)⟩ q⟩
  have hK : (cdF h r c ≠ 0) ↔ (okR h r c (h 6603 25).toNat ≠ 0) := by
    rw [okR_iff, P.1]
    have es : sumI (fun p => isE (h 12576 p) c) (h 836 4).toNat = sumI (fun p => isE (h 3232 p) c) (h 836 4).toNat := sumI_c _ (fun i q1 q2 => by
      show isE (h 12576 i) c = isE (h 3232 i) c
      rw [(C.1 i q1 (by omega)).2.2.2.2.2])
    have tk : ∀ q, 0 ≤ q → q < h 836 4 → h 3168 (q * 8 + c) = h 12512 (8 * q + c) := fun q q0 q1 => by
      rw [(C.1 q q0 q1).2.2.2.1 c hc.1 hc.2, show q * 8 = 8 * q by omega]
    have lm := lsF_max (pl := h 3232) (t := fun p => h 3168 (p * 8 + c)) (c := c) (h 836 4).toNat
    rw [es]
    have lE : lsC h c = lsF (h 3232) (fun p => h 3168 (p * 8 + c)) c (h 836 4).toNat := rfl
    rw [← lE] at lm
    unfold cdF
    by_cases h0 : 0 < h 3360 c
    · rw [if_pos h0]; exact ⟨fun _ => .inl (by omega), fun _ => by decide⟩
    · rw [if_neg h0]
      rcases lm with ⟨e, f⟩ | ⟨e1, e2, e3, f⟩
      · rw [if_pos (by omega)]
        refine ⟨fun w => absurd rfl w, fun w => ?_⟩
        rcases w with w | ⟨x, x0, x1, x2, x3⟩
        · omega
        · rw [(C.1 x x0 (by omega)).2.2.2.2.2] at x2
          exact absurd x2 (f x x0 x1)
      · rw [if_neg (by omega)]
        by_cases hb : bfF (fun q => h 3168 (q * 8 + c)) r (lsC h c) = 0
        · rw [if_pos hb]
          refine ⟨fun w => absurd rfl w, fun w => ?_⟩
          rcases w with w | ⟨x, x0, x1, x2, x3⟩
          · omega
          · exfalso
            rw [(C.1 x x0 (by omega)).2.2.2.2.2] at x2
            rw [← bf_c (t := fun q => h 3168 (q * 8 + c)) (s := fun p => h 12512 (8 * p + c)) (tk r hr.1 hr.2) (tk x x0 (by omega)), bf_iff] at x3
            have nb : ¬ (h 3168 (r * 8 + c) < h 3168 (lsC h c * 8 + c) ∨ h 3168 (r * 8 + c) = h 3168 (lsC h c * 8 + c) ∧ r < lsC h c) := fun w => (bf_iff (t := fun q => h 3168 (q * 8 + c))).2 w hb
            have fx := f x x0 x1 x2
            change (h 3168 (r * 8 + c) < h 3168 (x * 8 + c) ∨ h 3168 (r * 8 + c) = h 3168 (x * 8 + c) ∧ r < x) at x3
            change x = lsC h c ∨ (h 3168 (x * 8 + c) < h 3168 (lsC h c * 8 + c) ∨ h 3168 (x * 8 + c) = h 3168 (lsC h c * 8 + c) ∧ x < lsC h c) at fx
            rcases fx with fx | fx
            · rw [fx] at x3; exact nb x3
            · omega
        · rw [if_neg hb]
          refine ⟨fun _ => .inr ⟨lsC h c, e1, e2, ?_, ?_⟩, fun _ => by decide⟩
          · rw [(C.1 _ e1 (by omega)).2.2.2.2.2]; exact e3
          · rw [← bf_c (t := fun q => h 3168 (q * 8 + c)) (s := fun p => h 12512 (8 * p + c)) (tk r hr.1 hr.2) (tk _ e1 (by omega))]
            exact hb
  unfold enC enR
  by_cases q : wnF h r c ≠ 0 ∧ cdF h r c ≠ 0
  · rw [if_pos q, if_pos ⟨hR.1 q.1, hK.1 q.2⟩]
  · rw [if_neg q, if_neg (fun w => q ⟨hR.2 w.1, hK.2 w.2⟩)]
theorem lf_X {h H : HV} (X : RTx h) (e : ∀ a, a ≠ 3360 → H a = h a) : RTx H := by
  have T1 : h 64 8 + 598 ≠ 3360 := by rcases X.1 with w | w <;> omega
  have T2 : h 6603 9 + 84 ≠ 3360 := by rcases X.2.1 with w | w <;> omega
  unfold RTx
  rw [e 64 (by decide), e 6603 (by decide), e _ T1, e _ T2]
  exact X
theorem lf_P {h H : HV} (P : RPp h) (e : ∀ a, a ≠ 3360 → H a = h a) : RPp H := by
  unfold RPp
  rw [e 836 (by decide), e 6603 (by decide), e 10016 (by decide), e 928 (by decide), e 10080 (by decide), e 992 (by decide), e 10144 (by decide), e 1056 (by decide)]
  exact P
theorem lf_C {h H : HV} (X : RTx h) (C : RCh h) (e : ∀ a, a ≠ 3360 → H a = h a) : RCh H := by
  have T1 : h 64 8 + 598 ≠ 3360 := by rcases X.1 with w | w <;> omega
  unfold RCh
  rw [e 64 (by decide), e _ T1, e 836 (by decide), e 6603 (by decide), e 12384 (by decide), e 3104 (by decide), e 12448 (by decide), e 3040 (by decide), e 12512 (by decide), e 3168 (by decide), e 928 (by decide), e 12576 (by decide), e 3232 (by decide), e 2953 (by decide)]
  exact C
theorem st_eq {h : HV} (X : RTx h) (P : RPp h) (C : RCh h) (L : ∀ c, 0 ≤ c → c < h (h 64 8 + 598) 5 → h 3360 c = h (h 6603 9 + 724) c - sumI (fun p => isE (h 3232 p) c) (h 836 4).toNat) : stC h = stR h := by
  have X5 := rtx_5 X
  have P2 := P.2.1
  unfold stC stR
  rw [P.1, X5.1]
  refine seC_c _ _ (fun r r0 r1 => ?_)
  obtain ⟨k1, k2, k3, k4⟩ := P.2.2 r r0 (by omega)
  show seC (enC h r) _ 0 = if h 10016 r = 0 then seC (enR h r) _ 0 else 0
  by_cases hk : h 10016 r = 0
  · rw [if_pos hk]
    exact seC_c _ _ (fun c c0 c1 => en_eq P C ⟨r0, by omega⟩ ⟨c0, by omega⟩ (L c c0 (by omega)))
  · rw [if_neg hk]
    refine seC_0 _ _ (fun c c0 c1 => ?_)
    have z := ((C.1 r r0 (by omega)).2.2.2.2.1 (by rw [← k1]; exact hk)).1
    have rz : rkC h r c = -1 := by unfold rkC; rw [z]; rfl
    unfold enC
    rw [if_neg (fun w => w.1 (by unfold wnF; rw [if_neg (fun q => by omega)]))]
theorem s302e {d : Nat} {h : HV} {Q : Int → HV → Prop}  (hf : 0 ≤ h 2953 6 ∧ h 2953 6 ≤ 1) : Sp fz1 d 302 [(3, 2953)] h Q = Q (h 2953 6) h := by
  simp (implicitDefEqProofs := false) (disch := omega) only [sp302, b302_0, x_aload0, x_freturn, x_gf_9268, klp_0, klp_1, klp_2, klp_3, klp_9, KC_0, KC_1, KC_2, KC_3, KC_4, ne_eq, not_false_eq_true, not_true_eq_false, true_and, and_true, and_self, implies_true, eq_self, true_imp_iff, false_implies, Int.reduceEq, Int.reduceNe, Int.reduceMod, Int.reduceMul, Int.reduceAdd, Int.reduceSub, Int.reduceLT, Int.reduceLE, Nat.reduceAdd, Nat.reduceLeDiff, Nat.reduceLT, Nat.reduceSub, reduceIte, wds_n, wds_0, wds_1, wds_2, wds_3, or_true, true_or, or_false, false_or, or_self, false_and, and_false, d_pos, d_s1, d_s2, d_s3, d_s4, d_s5, d_s6, d_s7, d_s8, Classical.not_not, mod2_T, le_sub1, le_T, le_F, lt_T, lt_F, eq_F, w32_T, bz0, bz1, lc_le, lc_ge, lc_lt, lc_gt, lc_eq] <;> first | rfl | (rw [if_pos (by omega)] <;> rfl) | (rw [if_neg (by omega)] <;> rfl) | (exfalso; omega)
theorem s301n {d : Nat} {h : HV} {Q : Int → HV → Prop}  (hf : 0 ≤ h 2953 6 ∧ h 2953 6 ≤ 1) (h0 : h 2953 6 = 0) : Sp fz1 (d + 6) 301 [(3, 64)] h Q = Q (-2) h := by
  simp (implicitDefEqProofs := false) (disch := omega) only [sp301, b301_0, b301_1, b301_2, q301_1, q301_2, x_aload0, y_call302, y_call303, x_gc_59, x_goto_2, x_iconst, x_ifCond_eq_1, x_ireturn, klp_0, klp_1, klp_2, klp_3, klp_9, KC_0, KC_1, KC_2, KC_3, KC_4, ne_eq, not_false_eq_true, not_true_eq_false, true_and, and_true, and_self, implies_true, eq_self, true_imp_iff, false_implies, Int.reduceEq, Int.reduceNe, Int.reduceMod, Int.reduceMul, Int.reduceAdd, Int.reduceSub, Int.reduceLT, Int.reduceLE, Nat.reduceAdd, Nat.reduceLeDiff, Nat.reduceLT, Nat.reduceSub, reduceIte, wds_n, wds_0, wds_1, wds_2, wds_3, or_true, true_or, or_false, false_or, or_self, false_and, and_false, d_pos, d_s1, d_s2, d_s3, d_s4, d_s5, d_s6, d_s7, d_s8, Classical.not_not, z64_7, s302e hf, eq_true h0, le_sub1, le_T, le_F, lt_T, lt_F, eq_F, w32_T, bz0, bz1, lc_le, lc_ge, lc_lt, lc_gt, lc_eq] <;> first | rfl | (rw [if_pos (by omega)] <;> rfl) | (rw [if_neg (by omega)] <;> rfl) | (exfalso; omega)
theorem s301a {d : Nat} {h : HV} {Q : Int → HV → Prop}  (X : RTx h) (h24 : 0 ≤ h 836 4 ∧ h 836 4 ≤ 24) (C : RPc h) (hn : ∀ r, 0 ≤ r → r < h 836 4 → 0 ≤ h 3104 r ∧ h 3104 r ≤ 8) (hf : 0 ≤ h 2953 6 ∧ h 2953 6 ≤ 1) (h0 : ¬ h 2953 6 = 0) : Sp fz1 (d + 6) 301 [(3, 64)] h Q = Q (stC (lfH h (h (h 64 8 + 598) 5) (h 836 4).toNat)) (lfH h (h (h 64 8 + 598) 5) (h 836 4).toNat) := by
  simp (implicitDefEqProofs := false) (disch := omega) only [sp301, b301_0, b301_1, b301_2, q301_1, q301_2, x_aload0, y_call302, y_call303, x_gc_59, x_goto_2, x_iconst, x_ifCond_eq_1, x_ireturn, klp_0, klp_1, klp_2, klp_3, klp_9, KC_0, KC_1, KC_2, KC_3, KC_4, ne_eq, not_false_eq_true, not_true_eq_false, true_and, and_true, and_self, implies_true, eq_self, true_imp_iff, false_implies, Int.reduceEq, Int.reduceNe, Int.reduceMod, Int.reduceMul, Int.reduceAdd, Int.reduceSub, Int.reduceLT, Int.reduceLE, Nat.reduceAdd, Nat.reduceLeDiff, Nat.reduceLT, Nat.reduceSub, reduceIte, wds_n, wds_0, wds_1, wds_2, wds_3, or_true, true_or, or_false, false_or, or_self, false_and, and_false, d_pos, d_s1, d_s2, d_s3, d_s4, d_s5, d_s6, d_s7, d_s8, Classical.not_not, z64_7, s302e hf, h0, s303 X h24 C hn, le_sub1, le_T, le_F, lt_T, lt_F, eq_F, w32_T, bz0, bz1, lc_le, lc_ge, lc_lt, lc_gt, lc_eq] <;> first | rfl | (rw [if_pos (by omega)] <;> rfl) | (rw [if_neg (by omega)] <;> rfl) | (exfalso; omega)
theorem op_stable {d : Nat} {h : HV} (X : RTx h) (P : RPp h) (C : RCh h) (K : RPc h) : Sp fz1 (d + 6) 301 [(3, 64)] h (fun x h1 => h1 50 = h 50 ∧ Sp fz1 (d + 6) 438 [(3, 6603)] h1 (fun y h2 => x = y ∧ (∀ a, a ≠ 3360 → h2 a = h a))) := by
  have c4 := C.2.2.2
  by_cases h0 : h 2953 6 = 0
  · rw [s301n c4.2 h0]
    refine ⟨rfl, ?_⟩
    rw [s438n (by rw [c4.1]; exact h0)]
    exact ⟨rfl, fun _ _ => rfl⟩
  · have hn : ∀ r, 0 ≤ r → r < h 836 4 → 0 ≤ h 3104 r ∧ h 3104 r ≤ 8 := fun r r0 r1 => (C.1 r r0 r1).2.1
    rw [s301a X P.2.1 K hn c4.2 h0]
    have e : ∀ a, a ≠ 3360 → lfH h (h (h 64 8 + 598) 5) (h 836 4).toNat a = h a := fun a ha => lfH_ne ha
    have T1 : h 64 8 + 598 ≠ 3360 := by rcases X.1 with w | w <;> omega
    have T3 : h 6603 9 + 724 ≠ 3360 := by rcases X.2.1 with w | w <;> omega
    have L : ∀ c, 0 ≤ c → c < h (h 64 8 + 598) 5 → lfH h (h (h 64 8 + 598) 5) (h 836 4).toNat 3360 c = h (h 6603 9 + 724) c - sumI (fun p => isE (h 3232 p) c) (h 836 4).toNat := fun c c0 c1 => by
      rw [lfH_v, if_pos ⟨rfl, c0, c1⟩, (K.2.1 c c0 c1).2.2]
    have XH := lf_X X e
    have PH := lf_P P e
    have CH := lf_C X C e
    refine ⟨e _ (by decide), ?_⟩
    generalize lfH h (h (h 64 8 + 598) 5) (h 836 4).toNat = H at *
    have a64 := e 64 (by decide)
    have a836 := e 836 (by decide)
    have a6603 := e 6603 (by decide)
    have X5 := rtx_5 XH
    have PH2 := PH.2.1
    rw [s438 (d := d + 5) XH.2.1 (by omega) (by rw [PH.1]; exact PH2) (fun r r0 r1 => by rw [PH.1] at r1; rw [(CH.1 r r0 r1).1]; exact (CH.1 r r0 r1).2.1) (by rw [CH.2.2.2.1, e 2953 (by decide)]; exact h0)]
    refine ⟨st_eq XH PH CH (fun c c0 c1 => ?_), e⟩
    rw [a64, e _ T1] at c1
    rw [L c c0 c1, a6603, e _ T3, a836, e 3232 (by decide)]
