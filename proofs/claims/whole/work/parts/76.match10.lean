/-! THE PURE SIDE, 57: match, a round of the reference is an offer of the pure machine; all its offers: printed by wip/tools/gen76.py -/
def abR (h : HV) (p : Nat) : Int := h 12576 p
def akR (h : HV) (p : Nat) : Nat := (h 12640 p).toNat
theorem or432 {h K K1 K2 : HV} {p : Nat} {c : Int} (h24 : 0 ≤ h 836 4 ∧ h 836 4 ≤ 24) (hp : (p : Int) < h 836 4) (h1 : K 12576 p = -9) (h2 : 0 ≤ K 12640 p ∧ K 12640 p < h 3104 p) (hc : h 3040 ((p : Int) * 8 + K 12640 p) = c) (c0 : 0 ≤ c) (cpE : ((cpA h c : Nat) : Int) = h (h 6603 9 + 724) c)
    (A0 : ∀ x : Nat, (x : Int) < h 836 4 → 0 ≤ K 12640 x) (ka : ∀ x : Int, K2 12640 x = if x = p then K 12640 p + 1 else K 12640 x) (e1 : ∀ x : Int, K1 12576 x = if x = p then c else K 12576 x)
    (tk : ∀ x : Int, 0 ≤ x → x < h 836 4 → K1 12512 (8 * x + c) = h 3168 (x * 8 + c))
    (I : OI (h 836 4).toNat (rcA h) (rkA h) (cpA h) (btA h) (abR K) (akR K))
    (out : (sumI (fun x => isE (K1 12576 x) c) (h 836 4).toNat ≤ h (h 6603 9 + 724) c ∧ ∀ x : Int, K2 12576 x = K1 12576 x) ∨ (¬ sumI (fun x => isE (K1 12576 x) c) (h 836 4).toNat ≤ h (h 6603 9 + 724) c ∧ ∀ x : Int, K2 12576 x = if x = wsR K1 c p (h 836 4).toNat then -9 else K1 12576 x)) :
    OS (h 836 4).toNat (rcA h) (rkA h) (cpA h) (btA h) (abR K) (akR K) (abR K2) (akR K2) := by
  have e : rkA h p (akR K p) = c := by
    unfold rkA akR
    rw [show (((K 12640 p).toNat : Nat) : Int) = K 12640 p by omega]
    exact hc
  have hdE : ((hd (h 836 4).toNat (abR K) c : Nat) : Int) = sumI (fun p => isE (K 12576 p) c) (h 836 4).toNat := hd_sum (pl := K 12576) (h 836 4).toNat
  have hle := I.2.2.1 c (by omega)
  have s1 : sumI (fun x => isE (K1 12576 x) c) (h 836 4).toNat = sumI (fun x => isE (K 12576 x) c) (h 836 4).toNat + 1 := by
    have s2 := cnt_upd (g := K 12576) (p := p) (c := c) (i := c) (n := (h 836 4).toNat) (by omega) (by omega)
    rw [h1, show isE (-9) c = 0 by rw [isE, if_neg (by omega)], show isE c c = 1 by rw [isE, if_pos rfl]] at s2
    rw [sumI_c (f := fun x => isE (K1 12576 x) c) (g := fun x => isE (if x = (p : Int) then c else K 12576 x) c) _ (fun x _ _ => by show isE (K1 12576 x) c = isE (if x = (p : Int) then c else K 12576 x) c; rw [e1]), s2]
    omega
  rw [s1] at out
  refine ⟨p, by omega, h1, by unfold akR rcA; omega, fun x hx => ?_, ?_⟩
  · unfold akR
    rw [ka]
    by_cases q : x = p
    · rw [if_pos (by omega), if_pos q]; omega
    · rw [if_neg (by omega), if_neg q]
  · rw [e]
    rcases out with ⟨o1, o2⟩ | ⟨o1, o2⟩
    · refine .inl ⟨by omega, fun x hx => ?_⟩
      unfold abR
      rw [o2, e1]
      by_cases q : x = p
      · rw [if_pos (by omega), if_pos q]
      · rw [if_neg (by omega), if_neg q]
    · have wm := wrF_max (pl := K1 12576) (t := fun x => K1 12512 (8 * x + c)) (c := c) (p := p) (by rw [e1, if_pos rfl]) (h 836 4).toNat
      have wE : wsR K1 c p (h 836 4).toNat = wrF (K1 12576) (fun x => K1 12512 (8 * x + c)) c p (h 836 4).toNat := rfl
      rw [← wE] at wm
      generalize wsR K1 c p (h 836 4).toNat = w at *
      obtain ⟨w1, w2, w3, w4⟩ := wm
      have w24 : 0 ≤ w ∧ w < h 836 4 := by omega
      have tkw := tk w w24.1 w24.2
      have tkp := tk p (by omega) hp
      change _ ∨ (K1 12512 (8 * (p : Int) + c) < K1 12512 (8 * w + c) ∨ K1 12512 (8 * (p : Int) + c) = K1 12512 (8 * w + c) ∧ (p : Int) < w) at w3
      have oth : ∀ q : Nat, q < (h 836 4).toNat → K 12576 q = c → (q : Int) = w ∨ btA h c q w.toNat := fun q hq hqc => by
        have qp : (q : Int) ≠ p := fun z => by rw [z] at hqc; omega
        have f := w4 q (by omega) (by omega) (by rw [e1, if_neg qp]; exact hqc)
        change _ ∨ (K1 12512 (8 * (q : Int) + c) < K1 12512 (8 * w + c) ∨ K1 12512 (8 * (q : Int) + c) = K1 12512 (8 * w + c) ∧ (q : Int) < w) at f
        rcases f with f | f
        · exact .inl f
        · right
          unfold btA
          rw [bf_iff, show ((w.toNat : Nat) : Int) = w by omega]
          show h 3168 ((q : Int) * 8 + c) < h 3168 (w * 8 + c) ∨ h 3168 ((q : Int) * 8 + c) = h 3168 (w * 8 + c) ∧ (q : Int) < w
          rw [← tk q (by omega) (by omega), ← tkw]
          exact f
      by_cases hwp : w = p
      · refine .inr (.inl ⟨by omega, fun q hq hqc => ?_, fun x hx => ?_⟩)
        · unfold abR at hqc
          rcases oth q hq hqc with f | f
          · rw [f, hwp] at hqc; omega
          · rw [show w.toNat = p by omega] at f
            exact f
        · unfold abR
          rw [o2, e1, hwp]
          by_cases q : x = p
          · rw [if_pos (by omega), q, h1]
          · rw [if_neg (by omega), if_neg (by omega)]
      · have hw : K 12576 w = c := by rw [e1, if_neg hwp] at w2; exact w2
        have wN : ((w.toNat : Nat) : Int) = w := by omega
        refine .inr (.inr ⟨by omega, w.toNat, by omega, by unfold abR; rw [wN]; exact hw, ?_, fun q hq hqc hqw => ?_, fun x hx => ?_⟩)
        · unfold btA
          rw [bf_iff, wN]
          show h 3168 ((p : Int) * 8 + c) < h 3168 (w * 8 + c) ∨ h 3168 ((p : Int) * 8 + c) = h 3168 (w * 8 + c) ∧ (p : Int) < w
          rw [← tkp, ← tkw]
          rcases w3 with w3 | w3
          · exact absurd w3.symm hwp
          · exact w3
        · rcases oth q hq hqc with f | f
          · exact absurd (by omega) hqw
          · exact f
        · unfold abR
          rw [o2, e1]
          by_cases q : x = p
          · rw [if_neg (by omega), if_pos (by omega), if_pos q]
          · rw [if_neg q]
            by_cases q2 : x = w.toNat
            · rw [if_pos (by omega), if_pos q2]
            · rw [if_neg (by omega), if_neg (by omega), if_neg q2]
/-- what the offers ask of choices and courses -/
def RCs (h : HV) : Prop := (∀ p, 0 ≤ p → p < h 836 4 → h 12384 p = h 3104 p ∧ (0 ≤ h 3104 p ∧ h 3104 p ≤ 8) ∧ (∀ k, 0 ≤ k → k < h 3104 p → h 12448 (8 * p + k) = h 3040 (8 * p + k) ∧ 0 ≤ h 3040 (8 * p + k) ∧ h 3040 (8 * p + k) < h (h 64 8 + 598) 5) ∧
    (∀ c, 0 ≤ c → c < h (h 64 8 + 598) 5 → h 12512 (8 * p + c) = h 3168 (8 * p + c)) ∧ (h 928 p ≠ 0 → h 3104 p = 0) ∧ True) ∧ True ∧ (∀ p i j, 0 ≤ p → p < h 836 4 → 0 ≤ i → i < j → j < h 3104 p → h 3040 (8 * p + i) ≠ h 3040 (8 * p + j)) ∧ True
def RPs (h : HV) : Prop := True ∧ (∀ c, 0 ≤ c → c < h (h 64 8 + 598) 5 → 0 ≤ h (h 64 8 + 1110) c ∧ h (h 64 8 + 1110) c ≤ 1000 ∧ h (h 6603 9 + 724) c = h (h 64 8 + 1110) c) ∧ True
/-- on the way of the reference's offers -/
def RIn (h K : HV) (i : Int) : Prop := (∀ a, a ≠ 12576 ∧ a ≠ 12640 → K a = h a) ∧ OI (h 836 4).toNat (rcA h) (rkA h) (cpA h) (btA h) (abR K) (akR K) ∧ (∀ x, 0 ≤ x → x < h 836 4 → 0 ≤ K 12640 x) ∧ sumI (K 12640) (h 836 4).toNat = i ∧ OL (h 836 4).toNat (rcA h) (rkA h) (cpA h) (btA h) (akR K)
theorem rin_le {h K : HV} {i : Int} (h24 : 0 ≤ h 836 4 ∧ h 836 4 ≤ 24) (F3 : ∀ p : Int, 0 ≤ p → p < h 836 4 → 0 ≤ h 3104 p ∧ h 3104 p ≤ 8) (I : RIn h K i) : i ≤ 192 := by
  obtain ⟨fr, I2, A0, S, O⟩ := I
  have a1 := I2.2.1
  have s := (sum_lt (f := K 12640) (p := 0) (h 836 4).toNat (fun x x0 x1 => by
    have e1 := a1 x.toNat (by omega)
    have e2 := F3 x x0 (by omega)
    have e3 := A0 x x0 (by omega)
    unfold akR rcA at e1
    rw [show ((x.toNat : Nat) : Int) = x by omega] at e1
    omega)).1
  omega
theorem rin_st {h K K1 K2 : HV} {i p c : Int} (X : RTx h) (P : RPp h) (C : RCs h) (PC : RPs h) (I : RIn h K i) (hp : 0 ≤ p ∧ p < h 836 4) (ha : asR K p) (hcc : h 12448 (8 * p + K 12640 p) = c) (eK1 : K1 = hset (hset K 12640 p (K 12640 p + 1)) 12576 p c)
    (out : (sumI (fun x => isE (K1 12576 x) c) (h 836 4).toNat ≤ h (h 6603 9 + 724) c ∧ K2 = K1) ∨ (¬ sumI (fun x => isE (K1 12576 x) c) (h 836 4).toNat ≤ h (h 6603 9 + 724) c ∧ K2 = hset K1 12576 (wsR K1 c p (h 836 4).toNat) (-9))) : RIn h K2 (i + 1) := by
  obtain ⟨fr, I2, A0, S, O⟩ := I
  obtain ⟨h1, h2, h3⟩ := ha
  have h24 := P.2.1
  obtain ⟨c1, c2, c3, c4, c5, c6⟩ := C.1 p hp.1 hp.2
  have A := A0 p hp.1 hp.2
  rw [fr 12384 (by decide), c1] at h3
  have c3p := c3 (K 12640 p) A h3
  have hc2 : h 3040 (p * 8 + K 12640 p) = c := by rw [Int.mul_comm p 8, ← c3p.1]; exact hcc
  have cr : 0 ≤ c ∧ c < h (h 64 8 + 598) 5 := by rw [← hcc, c3p.1]; exact c3p.2
  have pc := PC.2.1 c cr.1 cr.2
  have pN : ((p.toNat : Nat) : Int) = p := by omega
  have v1 : ∀ x : Int, K1 12576 x = if x = p then c else K 12576 x := fun x => by
    rw [eK1, hset_v, hs_ne (by decide)]
    by_cases q : x = p
    · rw [if_pos ⟨rfl, q⟩, if_pos q]
    · rw [if_neg (fun w => q w.2), if_neg q]
  have v2 : ∀ x : Int, K1 12640 x = if x = p then K 12640 p + 1 else K 12640 x := fun x => by
    rw [eK1, hs_ne (by decide), hset_v]
    by_cases q : x = p
    · rw [if_pos ⟨rfl, q⟩, if_pos q]
    · rw [if_neg (fun w => q w.2), if_neg q]
  have ff : ∀ a, a ≠ 12576 ∧ a ≠ 12640 → K1 a = h a := fun a q => by rw [eK1, hs_ne q.1, hs_ne q.2, fr a q]
  have ff2 : ∀ a, a ≠ 12576 → K2 a = K1 a := fun a q1 => by
    rcases out with ⟨_, o⟩ | ⟨_, o⟩
    · rw [o]
    · rw [o, hs_ne q1]
  have os := or432 (h := h) (K := K) (K1 := K1) (K2 := K2) (p := p.toNat) (c := c) h24 (by omega) (by rw [pN]; exact h2) (by rw [pN]; exact ⟨A, h3⟩) (by rw [pN]; exact hc2) cr.1 (by unfold cpA; omega) (fun x hx => A0 x (by omega) hx) (fun x => by rw [ff2 _ (by decide), v2, pN]) (fun x => by rw [pN]; exact v1 x)
    (fun x x0 x1 => by rw [ff 12512 (by decide), Int.mul_comm x 8]; exact (C.1 x x0 x1).2.2.2.1 c cr.1 cr.2) I2 (by
      rw [pN]
      rcases out with ⟨o1, o2⟩ | ⟨o1, o2⟩
      · exact .inl ⟨o1, fun x => by rw [o2]⟩
      · refine .inr ⟨o1, fun x => ?_⟩
        rw [o2, hset_v]
        by_cases q : x = wsR K1 c p (h 836 4).toNat
        · rw [if_pos ⟨rfl, q⟩, if_pos q]
        · rw [if_neg (fun w => q w.2), if_neg q])
  have hrk9 : ∀ q k, q < (h 836 4).toNat → k < rcA h q → rkA h q k ≠ -9 := fun q k hq hk => by
    unfold rcA at hk
    have := ((C.1 q (by omega) (by omega)).2.2.1 k (by omega) (by omega)).2
    unfold rkA
    rw [Int.mul_comm]
    omega
  refine ⟨fun a q => by rw [ff2 a q.1, ff a q], ?_, fun x x0 x1 => ?_, ?_, fun pl2 ak2 w1 w2 => off_le hrk9 (fun c a b => bt_as c a b) w1 w2 I2 (O pl2 ak2 w1 w2) os⟩
  · refine OI_step hrk9 (fun q k j hq hk hj hkj => ?_) (fun c a b e q1 q2 => bt_tr c a b e q1 q2) I2 os
    unfold rcA at hk hj
    unfold rkA at hkj
    rw [Int.mul_comm] at hkj
    rcases Nat.lt_trichotomy k j with w | w | w
    · exact absurd hkj (C.2.2.1 q k j (by omega) (by omega) (by omega) (by omega) (by omega))
    · exact w
    · exact absurd hkj.symm (C.2.2.1 q j k (by omega) (by omega) (by omega) (by omega) (by omega))
  · rw [ff2 _ (by decide), v2]
    split
    · omega
    · exact A0 x x0 x1
  · rw [sumI_c (f := K2 12640) (g := fun x => if x = p then K 12640 p + 1 else K 12640 x) _ (fun x _ _ => by rw [ff2 _ (by decide)]; exact v2 x), sumI_upd hp.1, if_pos (by omega), S]
    omega
theorem ps432 {d : Nat} {h : HV} {Q : Int → HV → Prop} {i0 : Int} (X : RTx h) (P : RPp h) (C : RCs h) (PC : RPs h)
    (ex : ∀ (K : HV) (i f : Int) (z2 z3 z4 z5 : AV), RIn h K i → (f = 0 ∧ (∀ x, 0 ≤ x → x < h 836 4 → ¬ asR K x) ∨ f = 1 ∧ i0 < i) → G fz1 (d + 1) 432 1 [(3, 6603), (0, f), z2, z3, z4, z5] [] K Q) : ∀ (m : Nat) (p f i : Int) (K : HV) (y3 y4 y5 : AV), 0 ≤ p → p + m = h 836 4 → RIn h K i → i0 ≤ i → (f = 0 ∧ (∀ x, 0 ≤ x → x < p → ¬ asR K x) ∨ f = 1 ∧ i0 < i) → G fz1 (d + 1) 432 2 [(3, 6603), (0, f), (0, p), y3, y4, y5] [] K Q
  | 0, p, f, i, K, y3, y4, y5, h0, he, I, hi, hf => by
    have k1 : K 6603 = h 6603 := I.1 _ (by decide)
    have k2 := P.1
    refine G_in ?_
    simp (implicitDefEqProofs := false) (disch := omega) only [b432_2, b432_8, q432_8, x_aload0, y_call433, x_dup203, x_dup21, x_gc_11475, x_gc_11923, x_gc_11931, x_gc_11947, x_gc_11963, x_gc_12371, x_gf_11339, x_gf_11464, x_goto_1, x_goto_3, x_iadd, x_iaload, x_iastore, x_iconst, x_ifCond_ne_7, x_if_icmp_ge_7, x_if_icmp_ge_8, x_if_icmp_le_7, x_if_icmp_ne_7, x_iload2, x_iload3, x_imul, x_istore1, x_istore3, x_istore4, x_istore5, klp_0, klp_1, klp_2, klp_3, klp_9, KC_0, KC_1, KC_2, KC_3, KC_4, ne_eq, not_false_eq_true, not_true_eq_false, true_and, and_true, and_self, implies_true, eq_self, true_imp_iff, false_implies, Int.reduceEq, Int.reduceNe, Int.reduceMod, Int.reduceMul, Int.reduceAdd, Int.reduceSub, Int.reduceLT, Int.reduceLE, Nat.reduceAdd, Nat.reduceLeDiff, Nat.reduceLT, Nat.reduceSub, reduceIte, wds_n, wds_0, wds_1, wds_2, wds_3, or_true, true_or, or_false, false_or, or_self, false_and, and_false, d_pos, d_s1, d_s2, d_s3, d_s4, d_s5, d_s6, d_s7, d_s8, Classical.not_not, k1, k2, le_T, le_F, lt_T, lt_F, w32_T]
    refine ex K i f _ _ _ _ I ?_
    rcases hf with hf | hf
    · exact .inl ⟨hf.1, fun x x0 x1 => hf.2 x x0 (by omega)⟩
    · exact .inr hf
  | m + 1, p, f, i, K, y3, y4, y5, h0, he, I, hi, hf => by
    have h24 := P.2.1
    have k1 : K 6603 = h 6603 := I.1 _ (by decide)
    have k2 := P.1
    have hK : 0 ≤ K 6603 25 ∧ K 6603 25 ≤ 24 := by rw [k1, k2]; exact h24
    by_cases ha : asR K p
    · have T4 : h 6603 9 + 724 ≠ 12576 ∧ h 6603 9 + 724 ≠ 12640 := by rcases X.2.1 with w | w <;> omega
      have A := I.2.2.1 p h0 (by omega)
      obtain ⟨c1, c2, c3, c4, c5, c6⟩ := C.1 p h0 (by omega)
      have a3 : K 12640 p < h 3104 p := by have := ha.2.2; rw [I.1 12384 (by decide), c1] at this; exact this
      have c3p := c3 (K 12640 p) A a3
      have X5 := rtx_5 X
      refine rd432 (h := K) (c := h 12448 (8 * p + K 12640 p)) (by rw [k1]; exact X.2.1) hK (by rw [k1, k2]; omega) ha ⟨A, by rw [I.1 12384 (by decide), c1]; exact c2.2⟩ (by rw [I.1 12448 (by decide)]) (by omega) rfl (fun w z1 z2 z3 => ?_) (fun w z1 z2 z3 => ?_)
      · rw [k1, k2, I.1 _ T4] at w
        exact ps432 X P C PC ex m (p + 1) 1 (i + 1) _ _ _ _ (by omega) (by omega) (rin_st X P C PC I ⟨h0, by omega⟩ ha rfl rfl (.inl ⟨w, rfl⟩)) (by omega) (.inr ⟨rfl, by omega⟩)
      · rw [k1, k2] at w ⊢
        rw [I.1 _ T4] at w
        exact ps432 X P C PC ex m (p + 1) 1 (i + 1) _ _ _ _ (by omega) (by omega) (rin_st X P C PC I ⟨h0, by omega⟩ ha rfl rfl (.inr ⟨w, rfl⟩)) (by omega) (.inr ⟨rfl, by omega⟩)
    · refine rd432n hK (by rw [k1, k2]; omega) ha ?_
      refine ps432 X P C PC ex m (p + 1) f i K _ _ _ (by omega) (by omega) I hi ?_
      rcases hf with hf | hf
      · refine .inl ⟨hf.1, fun x x0 x1 => ?_⟩
        by_cases e : x = p
        · rw [e]; exact ha
        · exact hf.2 x x0 (by omega)
      · exact .inr hf
theorem lo432 {d : Nat} {h : HV} {Q : Int → HV → Prop} (X : RTx h) (P : RPp h) (C : RCs h) (PC : RPs h)
    (hQ : ∀ (K : HV) (i : Int), RIn h K i → OE (h 836 4).toNat (rcA h) (abR K) (akR K) → Q 0 K) : ∀ (m : Nat) (i : Int) (K : HV) (y2 y3 y4 y5 : AV), 192 - i ≤ m → RIn h K i → G fz1 (d + 1) 432 1 [(3, 6603), (0, 1), y2, y3, y4, y5] [] K Q := by
  intro m
  induction m with
  | zero =>
    intro i K y2 y3 y4 y5 hm I
    refine G_in ?_
    simp (implicitDefEqProofs := false) (disch := omega) only [b432_1, x_goto_2, x_iconst, x_ifCond_eq_9, x_iload1, x_istore1, x_istore2, klp_0, klp_1, klp_2, klp_3, klp_9, KC_0, KC_1, KC_2, KC_3, KC_4, ne_eq, not_false_eq_true, not_true_eq_false, true_and, and_true, and_self, implies_true, eq_self, true_imp_iff, false_implies, Int.reduceEq, Int.reduceNe, Int.reduceMod, Int.reduceMul, Int.reduceAdd, Int.reduceSub, Int.reduceLT, Int.reduceLE, Nat.reduceAdd, Nat.reduceLeDiff, Nat.reduceLT, Nat.reduceSub, reduceIte, wds_n, wds_0, wds_1, wds_2, wds_3, or_true, true_or, or_false, false_or, or_self, false_and, and_false, d_pos, d_s1, d_s2, d_s3, d_s4, d_s5, d_s6, d_s7, d_s8, Classical.not_not, le_T, le_F, lt_T, lt_F, w32_T]
    refine ps432 (i0 := i) X P C PC (fun K2 i2 f z2 z3 z4 z5 I2 hf => ?_) (h 836 4).toNat 0 0 i K _ _ _ (by decide) (by have := P.2.1; omega) I (Int.le_refl _) (.inl ⟨rfl, fun x x0 x1 => by omega⟩)
    have le := rin_le P.2.1 (fun p p0 p1 => (C.1 p p0 p1).2.1) I2
    rcases hf with hf | hf
    · rw [hf.1]
      refine G_in ?_
      simp (implicitDefEqProofs := false) (disch := omega) only [b432_1, b432_9, q432_9, x_goto_2, x_iconst, x_ifCond_eq_9, x_iload1, x_istore1, x_istore2, x_return, klp_0, klp_1, klp_2, klp_3, klp_9, KC_0, KC_1, KC_2, KC_3, KC_4, ne_eq, not_false_eq_true, not_true_eq_false, true_and, and_true, and_self, implies_true, eq_self, true_imp_iff, false_implies, Int.reduceEq, Int.reduceNe, Int.reduceMod, Int.reduceMul, Int.reduceAdd, Int.reduceSub, Int.reduceLT, Int.reduceLE, Nat.reduceAdd, Nat.reduceLeDiff, Nat.reduceLT, Nat.reduceSub, reduceIte, wds_n, wds_0, wds_1, wds_2, wds_3, or_true, true_or, or_false, false_or, or_self, false_and, and_false, d_pos, d_s1, d_s2, d_s3, d_s4, d_s5, d_s6, d_s7, d_s8, Classical.not_not, le_T, le_F, lt_T, lt_F, w32_T]
      refine hQ K2 i2 I2 (fun p hp hpl => ?_)
      have hn := hf.2 p (by omega) (by omega)
      obtain ⟨c1, c2, c3, c4, c5, c6⟩ := C.1 p (by omega) (by omega)
      have A := I2.2.2.1 p (by omega) (by omega)
      unfold abR at hpl
      unfold rcA akR
      by_cases hk : h 928 p = 0
      · have : ¬ K2 12640 p < K2 12384 p := fun w => hn ⟨by rw [I2.1 _ (by decide), (P.2.2 p (by omega) (by omega)).1]; exact hk, hpl, w⟩
        rw [I2.1 12384 (by decide), c1] at this
        omega
      · rw [c5 hk]; exact Nat.zero_le _
    · omega
  | succ m ih =>
    intro i K y2 y3 y4 y5 hm I
    refine G_in ?_
    simp (implicitDefEqProofs := false) (disch := omega) only [b432_1, x_goto_2, x_iconst, x_ifCond_eq_9, x_iload1, x_istore1, x_istore2, klp_0, klp_1, klp_2, klp_3, klp_9, KC_0, KC_1, KC_2, KC_3, KC_4, ne_eq, not_false_eq_true, not_true_eq_false, true_and, and_true, and_self, implies_true, eq_self, true_imp_iff, false_implies, Int.reduceEq, Int.reduceNe, Int.reduceMod, Int.reduceMul, Int.reduceAdd, Int.reduceSub, Int.reduceLT, Int.reduceLE, Nat.reduceAdd, Nat.reduceLeDiff, Nat.reduceLT, Nat.reduceSub, reduceIte, wds_n, wds_0, wds_1, wds_2, wds_3, or_true, true_or, or_false, false_or, or_self, false_and, and_false, d_pos, d_s1, d_s2, d_s3, d_s4, d_s5, d_s6, d_s7, d_s8, Classical.not_not, le_T, le_F, lt_T, lt_F, w32_T]
    refine ps432 (i0 := i) X P C PC (fun K2 i2 f z2 z3 z4 z5 I2 hf => ?_) (h 836 4).toNat 0 0 i K _ _ _ (by decide) (by have := P.2.1; omega) I (Int.le_refl _) (.inl ⟨rfl, fun x x0 x1 => by omega⟩)
    rcases hf with hf | hf
    · rw [hf.1]
      refine G_in ?_
      simp (implicitDefEqProofs := false) (disch := omega) only [b432_1, b432_9, q432_9, x_goto_2, x_iconst, x_ifCond_eq_9, x_iload1, x_istore1, x_istore2, x_return, klp_0, klp_1, klp_2, klp_3, klp_9, KC_0, KC_1, KC_2, KC_3, KC_4, ne_eq, not_false_eq_true, not_true_eq_false, true_and, and_true, and_self, implies_true, eq_self, true_imp_iff, false_implies, Int.reduceEq, Int.reduceNe, Int.reduceMod, Int.reduceMul, Int.reduceAdd, Int.reduceSub, Int.reduceLT, Int.reduceLE, Nat.reduceAdd, Nat.reduceLeDiff, Nat.reduceLT, Nat.reduceSub, reduceIte, wds_n, wds_0, wds_1, wds_2, wds_3, or_true, true_or, or_false, false_or, or_self, false_and, and_false, d_pos, d_s1, d_s2, d_s3, d_s4, d_s5, d_s6, d_s7, d_s8, Classical.not_not, le_T, le_F, lt_T, lt_F, w32_T]
      refine hQ K2 i2 I2 (fun p hp hpl => ?_)
      have hn := hf.2 p (by omega) (by omega)
      obtain ⟨c1, c2, c3, c4, c5, c6⟩ := C.1 p (by omega) (by omega)
      have A := I2.2.2.1 p (by omega) (by omega)
      unfold abR at hpl
      unfold rcA akR
      by_cases hk : h 928 p = 0
      · have : ¬ K2 12640 p < K2 12384 p := fun w => hn ⟨by rw [I2.1 _ (by decide), (P.2.2 p (by omega) (by omega)).1]; exact hk, hpl, w⟩
        rw [I2.1 12384 (by decide), c1] at this
        omega
      · rw [c5 hk]; exact Nat.zero_le _
    · rw [hf.1]
      exact ih i2 K2 _ _ _ _ (by omega) I2
theorem s432 {d : Nat} {h K0 : HV} {Q : Int → HV → Prop} (X : RTx h) (P : RPp h) (C : RCs h) (PC : RPs h) (hb : ∀ p, 0 ≤ p → p < h 836 4 → K0 12576 p = -9 ∧ K0 12640 p = 0) (fr : ∀ a, a ≠ 12576 ∧ a ≠ 12640 → K0 a = h a)
    (hQ : ∀ (K : HV) (i : Int), RIn h K i → OE (h 836 4).toNat (rcA h) (abR K) (akR K) → Q 0 K) : Sp fz1 (d + 1) 432 [(3, 6603)] K0 Q := by
  simp (implicitDefEqProofs := false) (disch := omega) only [sp432, b432_0, x_goto_1, x_iconst, x_istore1, klp_0, klp_1, klp_2, klp_3, klp_9, KC_0, KC_1, KC_2, KC_3, KC_4, ne_eq, not_false_eq_true, not_true_eq_false, true_and, and_true, and_self, implies_true, eq_self, true_imp_iff, false_implies, Int.reduceEq, Int.reduceNe, Int.reduceMod, Int.reduceMul, Int.reduceAdd, Int.reduceSub, Int.reduceLT, Int.reduceLE, Nat.reduceAdd, Nat.reduceLeDiff, Nat.reduceLT, Nat.reduceSub, reduceIte, wds_n, wds_0, wds_1, wds_2, wds_3, or_true, true_or, or_false, false_or, or_self, false_and, and_false, d_pos, d_s1, d_s2, d_s3, d_s4, d_s5, d_s6, d_s7, d_s8, Classical.not_not]
  refine lo432 X P C PC hQ 192 0 K0 _ _ _ _ (by decide) ⟨fr, OI_0 _ _ (fun p hp => (hb p (by omega) (by omega)).1) (fun p hp => ?_), fun x x0 x1 => ?_, ?_, fun pl2 ak2 _ _ p hp => ?_⟩
  · unfold akR
    rw [(hb p (by omega) (by omega)).2]
    rfl
  · rw [(hb x x0 x1).2]; decide
  · exact sumI_z _ (fun x x0 x1 => (hb x x0 (by omega)).2)
  · have : akR K0 p = 0 := by
      unfold akR
      rw [(hb p (by omega) (by omega)).2]
      rfl
    omega
