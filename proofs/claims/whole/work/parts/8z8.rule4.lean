/-! THE PURE SIDE, 181: a rule on both sides, whole: printed by wip/tools/gen8z8.py -/
section SM
variable {bX : Int} {tp : Int → Int} {t T S s s1 s2 f : Int} {h hr g gr k kr m mr : HV} {Q : Int → HV → Prop} {d : Nat}
theorem CNX.fr (C : CNX T S h hr) (e1 : g (T + 598) = h (T + 598)) (e2 : ∀ q, 0 ≤ q → q < 7 → g (T + 151 + 64 * q) = h (T + 151 + 64 * q)) (e3 : gr (S + 84) = hr (S + 84)) (e4 : gr (S + 149) = hr (S + 149)) : CNX T S g gr := by
  refine ⟨fun q q0 q1 => ?_, fun q i q0 q1 i0 i1 => ?_⟩
  · rw [e1, e3]
    exact C.1 q q0 q1
  · rw [e1] at i1
    rw [e2 q q0 q1, e4]
    exact C.2 q i q0 q1 i0 i1
/-- a name more is told alike -/
theorem CNX.nm {q w : Int} (C : CNX T S h hr) (hT : TC T) (hS : TR S) (hq : 0 ≤ q ∧ q < 7) (hx : h (T + 598) q < MST q) : CNX T S (nmH T h q w) (nmR S hr q w) := by
  have kT := kTC hT
  have kS := kTR hS
  have A1 : nmH T h q w (T + 598) q = h (T + 598) q + 1 := hcel1
  have A2 : ∀ p, p ≠ q → nmH T h q w (T + 598) p = h (T + 598) p := fun p c => by unfold nmH; rw [hcell c, hs_ne (by omega)]
  have A3 : ∀ p i, (p ≠ q ∨ i ≠ h (T + 598) q) → nmH T h q w (T + 151 + 64 * p) i = h (T + 151 + 64 * p) i := fun p i c => by
    unfold nmH
    rw [hs_ne (by omega)]
    by_cases d : p = q
    · rw [d]
      exact hcell (by omega)
    · rw [hs_ne (by omega)]
  have A4 : nmH T h q w (T + 151 + 64 * q) (h (T + 598) q) = w := by
    unfold nmH
    rw [hs_ne (by omega), hcel1]
  have B1 : nmR S hr q w (S + 84) q = hr (S + 84) q + 1 := hcel1
  have B2 : ∀ p, p ≠ q → nmR S hr q w (S + 84) p = hr (S + 84) p := fun p c => by unfold nmR; rw [hcell c, hs_ne (by omega)]
  have B3 : ∀ j, j ≠ 16 * q + hr (S + 84) q → nmR S hr q w (S + 149) j = hr (S + 149) j := fun j c => by unfold nmR; rw [hs_ne (by omega), hcell c]
  have B4 : nmR S hr q w (S + 149) (16 * q + hr (S + 84) q) = w := by unfold nmR; rw [hs_ne (by omega), hcel1]
  have Cq := C.1 q hq.1 hq.2
  have mq := MST_12 (q := q)
  generalize nmH T h q w = a at *
  generalize nmR S hr q w = ar at *
  refine ⟨fun p p0 p1 => ?_, fun p i p0 p1 i0 i1 => ?_⟩
  · by_cases c : p = q
    · subst c
      rw [A1, B1]
      omega
    · rw [A2 p c, B2 p c]
      exact C.1 p p0 p1
  · have Cp := C.1 p p0 p1
    have mp := MST_12 (q := p)
    by_cases c : p = q
    · subst c
      rw [A1] at i1
      by_cases d : i = h (T + 598) p
      · rw [d, A4, ← Cp.1, B4]
      · rw [B3 _ (by omega), A3 p i (.inr d)]
        exact C.2 p i p0 p1 i0 (by omega)
    · rw [A2 p c] at i1
      rw [B3 _ (by omega), A3 p i (.inl c)]
      exact C.2 p i p0 p1 i0 i1
theorem SAC.cep (a : SAC h g) (hT : TC T) : CEP T h g := by
  have kT := kTC hT
  exact CEP.of (by rw [a T (by omega)]) (a _ (by omega)) (by rw [a 258 (by decide)]) (a _ (by decide))
/-- a rule, whole -/
theorem rule_pair {hr0 : HV} {e e2 : Nat} (he : 149 ≤ e + 9) (he2 : 149 ≤ e2 + 9) (I : IT tp t T S s h hr) (f0 : ∀ Q, Sp fz1 (e2 + 9) 321 [(3, 6603)] hr0 Q = Q 0 hr) : ∃ g gr, (∀ Q, Sp fz1 (e + 10) 72 [(3, 258)] h Q = Q 0 g) ∧ (∀ Q, Sp fz1 (e2 + 10) 339 [(3, 6603)] hr0 Q = Q 0 gr) ∧ FIC T h g ∧ FIR S hr gr ∧ ((∃ s1, s + 1 ≤ s1 ∧ IT tp t T S s1 g gr) ∨ BXI T S g gr) := by
  obtain ⟨D, I0, C, X, RN, RL⟩ := I
  have hT := D.2.1.1.1
  have hS := D.2.1.2.1
  have kT := kTC hT
  have kS := kTR hS
  have N := I0.1
  unfold NBI at N
  have m6 : MST 6 = 12 := by decide
  have C6 := C.1 6 (by decide) (by decide)
  have S0 := D.sb
  obtain ⟨g1, r1, x, y, c1, f1, W⟩ := nn_pair (M := 12) (q := 6) D C (by decide) m6.symm e (e2 + 2)
  rcases W with ⟨ex, exy, xm, s1, q1, D1, a1, b1⟩ | ⟨ex, ey, e1, e2'⟩
  · subst exy
    have x12 : 0 ≤ y ∧ y < 12 := by omega
    have CN := C.nm (w := wdT tp t s) (q := 6) hT hS (by decide) (by omega)
    have ca : ∀ o, o ≠ 129 → o ≠ T + 535 → o ≠ T + 598 → g1 o = h o := fun o u1 u2 u3 => by
      rw [a1 o u1]
      unfold nmH
      rw [hs_ne u3, hs_ne (by omega)]
    have ra : ∀ o, o ≠ 6603 → o ≠ S + 149 → o ≠ S + 84 → r1 o = hr o := fun o u1 u2 u3 => by
      rw [b1.1 o u1]
      unfold nmR
      rw [hs_ne u3, hs_ne u2]
    have rb : ∀ i, i ≠ 2 → i ≠ 3 → i ≠ 4 → i ≠ 5 → i ≠ 6 → r1 6603 i = hr 6603 i := fun i u1 u2 u3 u4 u5 => by
      rw [b1.2 i u1 u2 u3 u4 u5]
      unfold nmR
      rw [hs_ne (by omega), hs_ne (by omega)]
    have rk : r1 (S + 84) 6 = y + 1 := by
      rw [b1.1 _ (by omega)]
      unfold nmR
      rw [hcel1]
      omega
    have ck : g1 (T + 598) 6 = y + 1 := by
      rw [a1 _ (by omega)]
      unfold nmH
      rw [hcel1]
      omega
    have ck5 : ∀ p, p ≠ 6 → g1 (T + 598) p = h (T + 598) p := fun p u => by
      rw [a1 _ (by omega)]
      unfold nmH
      rw [hcell u, hs_ne (by omega)]
    have FN : FIC T h g1 := by
      refine FIC.trans ?_ a1.i
      unfold nmH
      exact (FIC.st (by omega) hT).trans (FIC.st (by omega) hT)
    have FNr : FIR S hr r1 := by
      refine FIR.trans ?_ b1.i
      unfold nmR
      exact (FIR.st (by omega) hS).trans (FIR.st (by omega) hS)
    have CN1 : CNX T S g1 r1 := CN.fr (a1 _ (by omega)) (fun q _ _ => a1 _ (by omega)) (b1.1 _ (by omega)) (b1.1 _ (by omega))
    have I1 : ITB T S s1 h hr := ⟨by unfold NBI; omega, I0.2⟩
    obtain ⟨D2, P2, CE, RE⟩ := gd_start (x := y) I1 D1 (by omega) ca ra rb ⟨rk, by omega, by omega, by omega⟩
    have h9 : r1 6603 9 = S := D1.2.1.2.2
    obtain ⟨g2, r2, n2, e72, f339, W, w15, w17, wS, wd, w11⟩ := rule_head (e := e) (e2 := e2) (x := y) (y := y) D2 P2 hcel1 c1 rfl f0 f1 rfl h9 x12
    have gs1 : ∀ o, o ≠ 258 → hset g1 258 6 0 o = g1 o := fun o u => hs_ne u
    have gs2 : ∀ i, i ≠ 6 → hset g1 258 6 0 258 i = g1 258 i := fun i u => hcell u
    have rs1 : ∀ o, o ≠ 6603 → o ≠ S + 916 → hset (hset (hset r1 6603 15 0) 6603 19 0) (S + 916) y (r1 S 15) o = r1 o := fun o u1 u2 => by rw [hs_ne u2, hs_ne u1, hs_ne u1]
    have rs2 : hset (hset (hset r1 6603 15 0) 6603 19 0) (S + 916) y (r1 S 15) (S + 916) y = r1 S 15 := hcel1
    have rs3 : ∀ i, i ≠ y → hset (hset (hset r1 6603 15 0) 6603 19 0) (S + 916) y (r1 S 15) (S + 916) i = r1 (S + 916) i := fun i u => by rw [hcell u, hs_ne (by omega), hs_ne (by omega)]
    have rs4 : ∀ i, i ≠ 15 → i ≠ 19 → hset (hset (hset r1 6603 15 0) 6603 19 0) (S + 916) y (r1 S 15) 6603 i = r1 6603 i := fun i u1 u2 => by rw [hs_ne (by omega), hcell u2, hcell u1]
    have FS : FIC T h (hset g1 258 6 0) := FN.trans (FIC.s8 (by decide))
    have FSr : FIR S hr (hset (hset (hset r1 6603 15 0) 6603 19 0) (S + 916) y (r1 S 15)) := FNr.trans ((FIR.s6 (by decide)).trans ((FIR.s6 (by decide)).trans (FIR.st (by omega) hS)))
    generalize hset g1 258 6 0 = k0 at *
    generalize hset (hset (hset r1 6603 15 0) 6603 19 0) (S + 916) y (r1 S 15) = r0 at *
    have N2 := D2.nb
    unfold NBR at N2
    have zT : k0 T = h T := by rw [gs1 T (by omega), ca T (by omega) (by omega) (by omega)]
    have zS : r0 S = hr S := by rw [rs1 S (by omega) (by omega), ra S (by omega) (by omega) (by omega)]
    have zk : r0 (S + 84) 6 = y + 1 := by rw [rs1 _ (by omega) (by omega)]; exact rk
    have zck : k0 (T + 598) 6 = y + 1 := by rw [gs1 _ (by omega)]; exact ck
    rcases W with ⟨s2, q2, X2, P3⟩ | ⟨⟨f, B, E⟩, F1, F2⟩
    · obtain ⟨D3, RE3⟩ := X2.2.1.othR (o := S + 788) (i := y) (v := r2 6603 15) (.inl rfl)
      obtain ⟨r3, hr3⟩ : ∃ a, a = hset r2 (S + 788) y (r2 6603 15) := ⟨_, rfl⟩
      have F3 : FIR S r2 r3 := by rw [hr3]; exact FIR.st (by omega) hS
      rw [← hr3] at D3 RE3
      have c3 : ∀ o, o ≠ S + 788 → r3 o = r2 o := fun o u => by rw [hr3, hs_ne u]
      have c3x : r3 (S + 788) y = r2 6603 15 := by rw [hr3, hcel1]
      have c3n : ∀ i, i ≠ y → r3 (S + 788) i = r2 (S + 788) i := fun i u => by rw [hr3, hcell u]
      have h92 : r2 6603 9 = S := X2.2.1.2.1.2.2
      obtain ⟨g4, r4, e58, f333, W⟩ := D3.sign2 (c := 41) (by decide) e (e2 + 6)
      rcases W with ⟨-, s4, q4, X4, a4, b4⟩ | ⟨-, w1, w2⟩
      · have D4 := X4.2.1
        have p4 : g4 258 1 = T := D4.2.1.1.2
        have st : ∀ Q, Sp fz1 (e + 9) 41 [(3, 258)] g4 Q = Q 1 g4 := fun Q => D4.tkx.c41 (d := e + 8)
        obtain ⟨D5a, C5a⟩ := D4.othC (o := T + 1238) (i := y) (v := g4 T 17) (by omega)
        obtain ⟨D5, C5⟩ := D5a.othC (o := T + 1302) (i := y) (v := g4 258 6) (by omega)
        have CE5 := C5a.trans C5
        obtain ⟨g5, hg5⟩ : ∃ a, a = hset (hset g4 (T + 1238) y (g4 T 17)) (T + 1302) y (g4 258 6) := ⟨_, rfl⟩
        have F5 : FIC T g4 g5 := by rw [hg5]; exact (FIC.st (by omega) hT).trans (FIC.st (by omega) hT)
        rw [← hg5] at D5 CE5
        have c5 : ∀ o, o ≠ T + 1238 → o ≠ T + 1302 → g5 o = g4 o := fun o u1 u2 => by rw [hg5, hs_ne u2, hs_ne u1]
        have c5a : g5 (T + 1238) y = g4 T 17 := by rw [hg5, hs_ne (by omega), hcel1]
        have c5b : g5 (T + 1302) y = g4 258 6 := by rw [hg5, hcel1]
        have c5c : ∀ i, i ≠ y → g5 (T + 1238) i = g4 (T + 1238) i := fun i u => by rw [hg5, hs_ne (by omega), hcell u]
        have c5d : ∀ i, i ≠ y → g5 (T + 1302) i = g4 (T + 1302) i := fun i u => by rw [hg5, hcell u, hs_ne (by omega)]
        have e36 : ∀ i, i ≠ 2 → i ≠ 3 → i ≠ 4 → i ≠ 5 → i ≠ 6 → r4 6603 i = r2 6603 i := fun i u1 u2 u3 u4 u5 => by rw [b4.2 i u1 u2 u3 u4 u5, c3 6603 (by omega)]
        have e3o : ∀ o, o ≠ 6603 → o ≠ S + 788 → r4 o = r2 o := fun o u1 u2 => by rw [b4.1 o u1, c3 o u2]
        have g5o : ∀ o, o ≠ 129 → o ≠ T + 1238 → o ≠ T + 1302 → g5 o = g2 o := fun o u1 u2 u3 => by rw [c5 o u2 u3, a4 o u1]
        have P5 : PARI g5 r4 := P3.fr (by rw [g5o 258 (by decide) (by omega) (by omega)]) (g5o _ (by decide) (by omega) (by omega)) (g5o _ (by decide) (by omega) (by omega)) (e36 15 (by decide) (by decide) (by decide) (by decide) (by decide)) (e3o _ (by decide) (by omega)) (e36 19 (by decide) (by decide) (by decide) (by decide) (by decide))
        have F2c := X2.2.2.1.2
        have F2r := X2.2.2.2.2
        have hd0 : r4 6603 12 = 0 := by
          rw [e36 12 (by decide) (by decide) (by decide) (by decide) (by decide), wd, rs4 12 (by decide) (by decide), rb 12 (by decide) (by decide) (by decide) (by decide) (by decide)]
          omega
        have hd : r4 6603 12 = 0 ∧ g5 258 11 = 0 := ⟨hd0, by
          rw [g5o 258 (by decide) (by omega) (by omega), w11, gs2 11 (by decide), ca 258 (by decide) (by omega) (by omega)]
          omega⟩
        have s4S : r4 S = hr S := by rw [e3o S (by omega) (by omega), wS, zS]
        have g5T : g5 T = g2 T := g5o T (by omega) (by omega) (by omega)
        have s84 : r4 (S + 84) = r0 (S + 84) := by
          rw [e3o _ (by omega) (by omega)]
          exact F2r.1 (S + 84) (by omega) (by omega) (by omega) (by omega) (by omega) (by omega) (by omega) (by omega) (by omega) (by omega) (by omega) (by omega) (by omega) (by omega) (by omega) (by omega)
        have s916 : r4 (S + 916) = r0 (S + 916) := by
          rw [e3o _ (by omega) (by omega)]
          exact F2r.1 (S + 916) (by omega) (by omega) (by omega) (by omega) (by omega) (by omega) (by omega) (by omega) (by omega) (by omega) (by omega) (by omega) (by omega) (by omega) (by omega) (by omega)
        have h2 : r4 (S + 916) y = r4 S 15 := by
          rw [s916, rs2, s4S, ra S (by omega) (by omega) (by omega)]
        have l4 : r4 S 15 + 1 ≤ 11 * g5 T 15 + r4 (S + 84) 6 := by
          rw [s4S, g5T, w15, zT, s84, zk]
          omega
        have late5 : g5 258 2 = h 258 2 := by
          rw [g5o 258 (by decide) (by omega) (by omega), F2c.2.2 2 (by decide) (by decide) (by decide), gs2 2 (by decide), ca 258 (by decide) (by omega) (by omega)]
        have L4 : LATX (g5 258 2) (r4 6603 8) := by
          rw [late5, e36 8 (by decide) (by decide) (by decide) (by decide) (by decide), F2r.2.2 8 (by decide) (by decide) (by decide) (by decide) (by decide) (by decide) (by decide) (by decide) (by decide) (by decide) (by decide), rs4 8 (by decide) (by decide), rb 8 (by decide) (by decide) (by decide) (by decide) (by decide)]
          exact I0.2.1
        obtain ⟨g6, r6, e78, f343, W⟩ := block_0 (e + 9) (e2 + 9) s4 g5 r4 he he2 D5 hd
        rcases W with ⟨s6, q6, -, X6, V6, DX, BK⟩ | ⟨⟨f, B, E⟩, F7, F8, b14, b15, bl⟩
        · obtain ⟨gF, rF, k1, k2, t82, t81, t72, t347, t339, FF1, FF2, TK, IB, ⟨CE6, RE6⟩, RLx, lt, y1, y2, y3, y4, y5⟩ := tail_end (x := y) (e := e) (e2 := e2) (c0 := 0) D5 P5 X6 V6 DX BK x12 (by rw [s84]; exact zk) ⟨by rw [c5a, c5 T (by omega) (by omega)], by rw [c5b, c5 258 (by omega) (by omega)]⟩ h2 l4 hd L4
          have F6c := X6.2.2.1.2
          have p6 : g6 258 1 = T := X6.2.1.2.1.1.2
          have F6r := X6.2.2.2.2
          have cF : ∀ o, o ≠ 129 → o ≠ 258 → o ≠ 353 → o ≠ 416 → o ≠ 481 → o ≠ 544 → o ≠ 608 → o ≠ T → o ≠ T + 1430 → o ≠ T + 1366 → o ≠ T + 1238 → o ≠ T + 1302 → gF o = g1 o := fun o u1 u2 u3 u4 u5 u6 u7 u8 u9 v1 v2 v3 => by
            rw [y1 o u2 u8 v1 u9, F6c.1 o u1 u2 u3 u4 u5 u6 u7 u8 u9, g5o o u1 v2 v3, F2c.1 o u1 u2 u3 u4 u5 u6 u7 u8 u9, gs1 o u2]
          have cT : ∀ i, i ≠ 15 → i ≠ 17 → gF T i = h T i := fun i u1 u2 => by
            rw [y2 i u2, F6c.2.1 i u1 u2, g5T, F2c.2.1 i u1 u2, zT]
          have cA : ∀ i, i ≠ y → gF (T + 1238) i = h (T + 1238) i := fun i u => by
            rw [y1 (T + 1238) (by omega) (by omega) (by omega) (by omega), F6c.1 (T + 1238) (by omega) (by omega) (by omega) (by omega) (by omega) (by omega) (by omega) (by omega) (by omega), c5c i u, a4 _ (by omega), F2c.1 (T + 1238) (by omega) (by omega) (by omega) (by omega) (by omega) (by omega) (by omega) (by omega) (by omega), gs1 _ (by omega), ca _ (by omega) (by omega) (by omega)]
          have cB : ∀ i, i ≠ y → gF (T + 1302) i = h (T + 1302) i := fun i u => by
            rw [y1 (T + 1302) (by omega) (by omega) (by omega) (by omega), F6c.1 (T + 1302) (by omega) (by omega) (by omega) (by omega) (by omega) (by omega) (by omega) (by omega) (by omega), c5d i u, a4 _ (by omega), F2c.1 (T + 1302) (by omega) (by omega) (by omega) (by omega) (by omega) (by omega) (by omega) (by omega) (by omega), gs1 _ (by omega), ca _ (by omega) (by omega) (by omega)]
          have cBx : gF (T + 1302) y = g2 258 6 := by
            rw [y1 (T + 1302) (by omega) (by omega) (by omega) (by omega), F6c.1 (T + 1302) (by omega) (by omega) (by omega) (by omega) (by omega) (by omega) (by omega) (by omega) (by omega), c5b, a4 258 (by decide)]
          have cC : ∀ i, i ≠ y → gF (T + 1366) i = h (T + 1366) i := fun i u => by
            rw [y3 i u, F6c.1 (T + 1366) (by omega) (by omega) (by omega) (by omega) (by omega) (by omega) (by omega) (by omega) (by omega), g5o _ (by omega) (by omega) (by omega), F2c.1 (T + 1366) (by omega) (by omega) (by omega) (by omega) (by omega) (by omega) (by omega) (by omega) (by omega), gs1 _ (by omega), ca _ (by omega) (by omega) (by omega)]
          have dF : ∀ o, o ≠ 6603 → o ≠ 9505 → o ≠ 9569 → o ≠ 9632 → o ≠ 9696 → o ≠ 9761 → o ≠ 9824 → o ≠ 9888 → o ≠ 9952 → o ≠ S → o ≠ S + 980 → o ≠ S + 1044 → o ≠ S + 1108 → o ≠ S + 1174 → o ≠ S + 1236 → o ≠ S + 1300 → o ≠ S + 852 → rF o = r4 o := fun o u1 u2 u3 u4 u5 u6 u7 u8 u9 v1 v2 v3 v4 v5 v6 v7 v8 => by
            rw [y4 o u1 v1 v8 v2 v3 v4, F6r.1 o u1 u2 u3 u4 u5 u6 u7 u8 u9 v1 v2 v3 v4 v5 v6 v7]
          have dG : ∀ o, o ≠ 6603 → o ≠ 9505 → o ≠ 9569 → o ≠ 9632 → o ≠ 9696 → o ≠ 9761 → o ≠ 9824 → o ≠ 9888 → o ≠ 9952 → o ≠ S → o ≠ S + 980 → o ≠ S + 1044 → o ≠ S + 1108 → o ≠ S + 1174 → o ≠ S + 1236 → o ≠ S + 1300 → r2 o = r0 o := fun o u1 u2 u3 u4 u5 u6 u7 u8 u9 v1 v2 v3 v4 v5 v6 v7 => F2r.1 o u1 u2 u3 u4 u5 u6 u7 u8 u9 v1 v2 v3 v4 v5 v6 v7
          have dH : ∀ o, o ≠ 6603 → o ≠ 9505 → o ≠ 9569 → o ≠ 9632 → o ≠ 9696 → o ≠ 9761 → o ≠ 9824 → o ≠ 9888 → o ≠ 9952 → o ≠ S → o ≠ S + 980 → o ≠ S + 1044 → o ≠ S + 1108 → o ≠ S + 1174 → o ≠ S + 1236 → o ≠ S + 1300 → o ≠ S + 852 → o ≠ S + 788 → o ≠ S + 916 → rF o = r1 o := fun o u1 u2 u3 u4 u5 u6 u7 u8 u9 v1 v2 v3 v4 v5 v6 v7 v8 v9 w1 => by
            rw [dF o u1 u2 u3 u4 u5 u6 u7 u8 u9 v1 v2 v3 v4 v5 v6 v7 v8, e3o o u1 v9, dG o u1 u2 u3 u4 u5 u6 u7 u8 u9 v1 v2 v3 v4 v5 v6 v7, rs1 o u1 w1]
          have dA : ∀ i, i ≠ y → rF (S + 916) i = hr (S + 916) i := fun i u => by
            rw [dF (S + 916) (by omega) (by omega) (by omega) (by omega) (by omega) (by omega) (by omega) (by omega) (by omega) (by omega) (by omega) (by omega) (by omega) (by omega) (by omega) (by omega) (by omega), s916, rs3 i u, ra _ (by omega) (by omega) (by omega)]
          have dB : ∀ i, i ≠ y → rF (S + 788) i = hr (S + 788) i := fun i u => by
            rw [dF (S + 788) (by omega) (by omega) (by omega) (by omega) (by omega) (by omega) (by omega) (by omega) (by omega) (by omega) (by omega) (by omega) (by omega) (by omega) (by omega) (by omega) (by omega), b4.1 _ (by omega), c3n i u, dG (S + 788) (by omega) (by omega) (by omega) (by omega) (by omega) (by omega) (by omega) (by omega) (by omega) (by omega) (by omega) (by omega) (by omega) (by omega) (by omega) (by omega), rs1 _ (by omega) (by omega), ra _ (by omega) (by omega) (by omega)]
          have dBx : rF (S + 788) y = r2 6603 15 := by
            rw [dF (S + 788) (by omega) (by omega) (by omega) (by omega) (by omega) (by omega) (by omega) (by omega) (by omega) (by omega) (by omega) (by omega) (by omega) (by omega) (by omega) (by omega) (by omega), b4.1 _ (by omega), c3x]
          have dC : ∀ i, i ≠ y → rF (S + 852) i = hr (S + 852) i := fun i u => by
            rw [y5 i u, F6r.1 (S + 852) (by omega) (by omega) (by omega) (by omega) (by omega) (by omega) (by omega) (by omega) (by omega) (by omega) (by omega) (by omega) (by omega) (by omega) (by omega) (by omega), e3o _ (by omega) (by omega), dG (S + 852) (by omega) (by omega) (by omega) (by omega) (by omega) (by omega) (by omega) (by omega) (by omega) (by omega) (by omega) (by omega) (by omega) (by omega) (by omega) (by omega), rs1 _ (by omega) (by omega), ra _ (by omega) (by omega) (by omega)]
          have CEa : CEP T h gF := CE.trans (X2.2.2.1.1.e.trans (X4.2.2.1.1.e.trans (CE5.trans CE6)))
          have REa : REP S hr rF := RE.trans (X2.2.2.2.1.e.trans (RE3.trans (X4.2.2.2.1.e.trans RE6)))
          have cN6 : gF (T + 598) 6 = y + 1 := by rw [cF _ (by omega) (by omega) (by omega) (by omega) (by omega) (by omega) (by omega) (by omega) (by omega) (by omega) (by omega) (by omega)]; exact ck
          refine ⟨gF, rF, fun Q => ?_, fun Q => ?_, FS.trans (F2c.i.trans (a4.i.trans (F5.trans (F6c.i.trans FF1)))), FSr.trans (F2r.i.trans (F3.trans (b4.i.trans (F6r.i.trans FF2)))), .inl ⟨s6, by omega, TK, IB, ?_, ?_, ?_, ?_⟩⟩
          · rw [e72 Q, q72_2]
            simp (implicitDefEqProofs := false) (disch := omega) only [b72_2, b72_3, q72_3, x_aload0, y_call41, y_call58, y_call77, y_call78, y_call82, x_gc_10339, x_gc_10347, x_gc_10355, x_gf_2059, x_gf_2096, x_goto_4, x_iastore, x_iconst, x_ifCond_ne_3, x_iload1, x_istore2, x_return, sp77, b77_0, x_gf_10376, x_ireturn, klp_0, klp_1, klp_2, klp_3, klp_9, KC_0, KC_1, KC_2, KC_3, KC_4, ne_eq, not_false_eq_true, not_true_eq_false, true_and, and_true, and_self, implies_true, eq_self, true_imp_iff, false_implies, Int.reduceEq, Int.reduceNe, Int.reduceMod, Int.reduceMul, Int.reduceAdd, Int.reduceSub, Int.reduceLT, Int.reduceLE, Nat.reduceAdd, Nat.reduceLeDiff, Nat.reduceLT, Nat.reduceSub, reduceIte, wds_n, wds_0, wds_1, wds_2, wds_3, or_true, true_or, or_false, false_or, or_self, false_and, and_false, d_pos, d_s1, d_s2, d_s3, d_s4, d_s5, d_s6, d_s7, d_s8, Classical.not_not, c12 hT, c12l hT, c12k hT, c13 hT, c13l hT, c13k hT, c14 hT, c14l hT, c14k hT, z258_0, z258_5, z416_l, TC_0 hT, TC_k hT, e58, st, p4, ← hg5, e78, p6, t82, t81, t72, d_s9, d_s10, d_s11, d_s12, d_s13, d_s14, d_s15, d_s16, d_s17, d_s18, d_s19, d_s20, d_s21, d_s22, d_s23, d_s24, d_s25, d_s26, d_s27, d_s28, d_s29, d_s30, hs_ne, hcell, hcel1, le_sub1, le_T, le_F, lt_T, lt_F, eq_F, w32_T, bz0, bz1, lc_le, lc_ge, lc_lt, lc_gt, lc_eq]
          · rw [f339 Q, q339_2]
            simp (implicitDefEqProofs := false) (disch := omega) only [b339_2, x_aload0, y_call333, y_call343, y_call347, x_gc_12379, x_gf_11339, x_gf_11384, x_goto_3, x_iastore, x_iconst, x_iload1, x_istore2, x_pop0, x_pop3, klp_0, klp_1, klp_2, klp_3, klp_9, KC_0, KC_1, KC_2, KC_3, KC_4, ne_eq, not_false_eq_true, not_true_eq_false, true_and, and_true, and_self, implies_true, eq_self, true_imp_iff, false_implies, Int.reduceEq, Int.reduceNe, Int.reduceMod, Int.reduceMul, Int.reduceAdd, Int.reduceSub, Int.reduceLT, Int.reduceLE, Nat.reduceAdd, Nat.reduceLeDiff, Nat.reduceLT, Nat.reduceSub, reduceIte, wds_n, wds_0, wds_1, wds_2, wds_3, or_true, true_or, or_false, false_or, or_self, false_and, and_false, d_pos, d_s1, d_s2, d_s3, d_s4, d_s5, d_s6, d_s7, d_s8, Classical.not_not, z6603_16, z9569_l, z6603_17, z9632_l, z6603_18, z9696_l, r11 hS, r11l hS, r11k hS, r12 hS, r12l hS, r12k hS, r13 hS, r13l hS, r13k hS, r17 hS, r17l hS, r17k hS, TR_0 hS, TR_k hS, h92, ← hr3, f333, f343, t347, t339, d_s9, d_s10, d_s11, d_s12, d_s13, d_s14, d_s15, d_s16, d_s17, d_s18, d_s19, d_s20, d_s21, d_s22, d_s23, d_s24, d_s25, d_s26, d_s27, d_s28, d_s29, d_s30, hs_ne, hcell, hcel1, le_sub1, le_T, le_F, lt_T, lt_F, eq_F, w32_T, bz0, bz1, lc_le, lc_ge, lc_lt, lc_gt, lc_eq]
          · refine CN1.fr (cF _ (by omega) (by omega) (by omega) (by omega) (by omega) (by omega) (by omega) (by omega) (by omega) (by omega) (by omega) (by omega)) (fun q _ _ => cF _ (by omega) (by omega) (by omega) (by omega) (by omega) (by omega) (by omega) (by omega) (by omega) (by omega) (by omega) (by omega)) (dH _ (by omega) (by omega) (by omega) (by omega) (by omega) (by omega) (by omega) (by omega) (by omega) (by omega) (by omega) (by omega) (by omega) (by omega) (by omega) (by omega) (by omega) (by omega) (by omega)) (dH _ (by omega) (by omega) (by omega) (by omega) (by omega) (by omega) (by omega) (by omega) (by omega) (by omega) (by omega) (by omega) (by omega) (by omega) (by omega) (by omega) (by omega) (by omega) (by omega))
          · refine X.fr (fun k k1 k5 => ?_) (cT 11 (by decide) (by decide)) (fun o w0 w1 => ?_) (fun o w0 w1 => ?_)
            · rw [cF _ (by omega) (by omega) (by omega) (by omega) (by omega) (by omega) (by omega) (by omega) (by omega) (by omega) (by omega) (by omega)]
              exact ck5 k (by omega)
            · rw [cF _ (by omega) (by omega) (by omega) (by omega) (by omega) (by omega) (by omega) (by omega) (by omega) (by omega) (by omega) (by omega)]
              exact ca _ (by omega) (by omega) (by omega)
            · rw [dH _ (by omega) (by omega) (by omega) (by omega) (by omega) (by omega) (by omega) (by omega) (by omega) (by omega) (by omega) (by omega) (by omega) (by omega) (by omega) (by omega) (by omega) (by omega) (by omega)]
              exact ra _ (by omega) (by omega) (by omega)
          · intro q u0 u1
            rw [cN6] at u1
            by_cases c : q = y
            · have := P3.1
              have := P3.2.1
              rw [c, cBx, dBx]
              omega
            · rw [cB q c, dB q c]
              exact RN q u0 (by omega)
          · intro late q u0 u1
            rw [cN6] at u1
            by_cases c : q = y
            · rw [c]
              exact RLx late
            · exact (RL (by rw [← late5]; exact lt late) q u0 (by omega)).fr CEa REa N.2.2.2.2.1.1 ⟨cA q c, cB q c, cC q c⟩ ⟨dA q c, dC q c⟩
        · obtain ⟨g9, r9, k1, k2, t82, t81, t72, t347, t339, FF1, FF2, Bx⟩ := tail_bad (x := y) (e := e) (e2 := e2) hT hS x12 B E (by
            have := D5.nb
            unfold NBR at this
            omega)
          have p6 : g6 258 1 = T := B.1.2
          have z598 : g9 (T + 598) 6 = y + 1 := by
            rw [Bx.2.2.2, F7.1 (T + 598) (by omega) (by omega) (by omega) (by omega) (by omega) (by omega) (by omega) (by omega) (by omega), g5o _ (by omega) (by omega) (by omega), F2c.1 (T + 598) (by omega) (by omega) (by omega) (by omega) (by omega) (by omega) (by omega) (by omega) (by omega)]
            exact zck
          refine ⟨g9, r9, fun Q => ?_, fun Q => ?_, FS.trans (F2c.i.trans (a4.i.trans (F5.trans (F7.i.trans FF1)))), FSr.trans (F2r.i.trans (F3.trans (b4.i.trans (F8.i.trans FF2)))), .inr ⟨Bx.1, Bx.2.1, Bx.2.2.1, by omega, by omega⟩⟩
          · rw [e72 Q, q72_2]
            simp (implicitDefEqProofs := false) (disch := omega) only [b72_2, b72_3, q72_3, x_aload0, y_call41, y_call58, y_call77, y_call78, y_call82, x_gc_10339, x_gc_10347, x_gc_10355, x_gf_2059, x_gf_2096, x_goto_4, x_iastore, x_iconst, x_ifCond_ne_3, x_iload1, x_istore2, x_return, sp77, b77_0, x_gf_10376, x_ireturn, klp_0, klp_1, klp_2, klp_3, klp_9, KC_0, KC_1, KC_2, KC_3, KC_4, ne_eq, not_false_eq_true, not_true_eq_false, true_and, and_true, and_self, implies_true, eq_self, true_imp_iff, false_implies, Int.reduceEq, Int.reduceNe, Int.reduceMod, Int.reduceMul, Int.reduceAdd, Int.reduceSub, Int.reduceLT, Int.reduceLE, Nat.reduceAdd, Nat.reduceLeDiff, Nat.reduceLT, Nat.reduceSub, reduceIte, wds_n, wds_0, wds_1, wds_2, wds_3, or_true, true_or, or_false, false_or, or_self, false_and, and_false, d_pos, d_s1, d_s2, d_s3, d_s4, d_s5, d_s6, d_s7, d_s8, Classical.not_not, c12 hT, c12l hT, c12k hT, c13 hT, c13l hT, c13k hT, c14 hT, c14l hT, c14k hT, z258_0, z258_5, z416_l, TC_0 hT, TC_k hT, e58, st, p4, ← hg5, e78, p6, t82, t81, t72, d_s9, d_s10, d_s11, d_s12, d_s13, d_s14, d_s15, d_s16, d_s17, d_s18, d_s19, d_s20, d_s21, d_s22, d_s23, d_s24, d_s25, d_s26, d_s27, d_s28, d_s29, d_s30, hs_ne, hcell, hcel1, le_sub1, le_T, le_F, lt_T, lt_F, eq_F, w32_T, bz0, bz1, lc_le, lc_ge, lc_lt, lc_gt, lc_eq]
          · rw [f339 Q, q339_2]
            simp (implicitDefEqProofs := false) (disch := omega) only [b339_2, x_aload0, y_call333, y_call343, y_call347, x_gc_12379, x_gf_11339, x_gf_11384, x_goto_3, x_iastore, x_iconst, x_iload1, x_istore2, x_pop0, x_pop3, klp_0, klp_1, klp_2, klp_3, klp_9, KC_0, KC_1, KC_2, KC_3, KC_4, ne_eq, not_false_eq_true, not_true_eq_false, true_and, and_true, and_self, implies_true, eq_self, true_imp_iff, false_implies, Int.reduceEq, Int.reduceNe, Int.reduceMod, Int.reduceMul, Int.reduceAdd, Int.reduceSub, Int.reduceLT, Int.reduceLE, Nat.reduceAdd, Nat.reduceLeDiff, Nat.reduceLT, Nat.reduceSub, reduceIte, wds_n, wds_0, wds_1, wds_2, wds_3, or_true, true_or, or_false, false_or, or_self, false_and, and_false, d_pos, d_s1, d_s2, d_s3, d_s4, d_s5, d_s6, d_s7, d_s8, Classical.not_not, z6603_16, z9569_l, z6603_17, z9632_l, z6603_18, z9696_l, r11 hS, r11l hS, r11k hS, r12 hS, r12l hS, r12k hS, r13 hS, r13l hS, r13k hS, r17 hS, r17l hS, r17k hS, TR_0 hS, TR_k hS, h92, ← hr3, f333, f343, t347, t339, d_s9, d_s10, d_s11, d_s12, d_s13, d_s14, d_s15, d_s16, d_s17, d_s18, d_s19, d_s20, d_s21, d_s22, d_s23, d_s24, d_s25, d_s26, d_s27, d_s28, d_s29, d_s30, hs_ne, hcell, hcel1, le_sub1, le_T, le_F, lt_T, lt_F, eq_F, w32_T, bz0, bz1, lc_le, lc_ge, lc_lt, lc_gt, lc_eq]
      · obtain ⟨B1, B2, B3, B4, -⟩ := D3.bad0
        have Bq := B2.q
        subst w1
        subst w2
        have st : ∀ Q, Sp fz1 (e + 9) 41 [(3, 258)] (bdH g2) Q = Q 0 (bdH g2) := fun Q => B1.bxc.c41 (d := e + 8)
        have F2c := X2.2.2.1.2
        obtain ⟨gr, B5, F5, x5⟩ := zr2 (y := y) (l2 := (9, 0)) (l3 := (9, 0)) (e2 := e2) h92 hS x12 (fun Q => by rw [← hr3]; exact f333 Q) Bq (by
          rw [bd_S hS, c3 S (by omega), wS]
          omega)
        have z598 : bdH g2 (T + 598) 6 = y + 1 := by
          unfold bdH
          rw [hs_ne (by omega), hs_ne (by omega), F2c.1 (T + 598) (by omega) (by omega) (by omega) (by omega) (by omega) (by omega) (by omega) (by omega) (by omega)]
          exact zck
        refine ⟨bdH g2, gr, fun Q => ?_, fun Q => by rw [f339 Q]; exact x5 Q, FS.trans (F2c.i.trans FIC.bd), FSr.trans (X2.2.2.2.2.i.trans (F3.trans (FIR.bd.trans F5))), .inr ⟨⟨_, B1.bxc, B5.bxr⟩, B1.2.2.2.1, B1.2.2.2.2.2, by omega, by omega⟩⟩
        rw [e72 Q, q72_2]
        simp (implicitDefEqProofs := false) (disch := omega) only [b72_2, x_aload0, y_call41, y_call58, x_iconst, x_ifCond_ne_3, x_return, klp_0, klp_1, klp_2, klp_3, klp_9, KC_0, KC_1, KC_2, KC_3, KC_4, ne_eq, not_false_eq_true, not_true_eq_false, true_and, and_true, and_self, implies_true, eq_self, true_imp_iff, false_implies, Int.reduceEq, Int.reduceNe, Int.reduceMod, Int.reduceMul, Int.reduceAdd, Int.reduceSub, Int.reduceLT, Int.reduceLE, Nat.reduceAdd, Nat.reduceLeDiff, Nat.reduceLT, Nat.reduceSub, reduceIte, wds_n, wds_0, wds_1, wds_2, wds_3, or_true, true_or, or_false, false_or, or_self, false_and, and_false, d_pos, d_s1, d_s2, d_s3, d_s4, d_s5, d_s6, d_s7, d_s8, Classical.not_not, c12 hT, c12l hT, c12k hT, c13 hT, c13l hT, c13k hT, c14 hT, c14l hT, c14k hT, z258_0, z258_5, z416_l, TC_0 hT, TC_k hT, e58, st, d_s9, d_s10, d_s11, d_s12, d_s13, d_s14, d_s15, d_s16, d_s17, d_s18, d_s19, d_s20, d_s21, d_s22, d_s23, d_s24, d_s25, d_s26, d_s27, d_s28, d_s29, d_s30, hs_ne, hcell, hcel1, le_sub1, le_T, le_F, lt_T, lt_F, eq_F, w32_T, bz0, bz1, lc_le, lc_ge, lc_lt, lc_gt, lc_eq]
    · have BO : BDQ S f (hset r2 (S + 788) y (r2 6603 15)) := E.oth (by omega)
      obtain ⟨gr, B3, F3, x3⟩ := zr2 (y := y) (l2 := (9, 0)) (l3 := (9, 0)) (e2 := e2) E.1.2 hS x12 (fun Q => BO.sg (d := e2 + 8)) BO (by
        rw [hs_ne (by omega), wS]
        omega)
      have z598 : g2 (T + 598) 6 = y + 1 := by
        rw [F1.1 (T + 598) (by omega) (by omega) (by omega) (by omega) (by omega) (by omega) (by omega) (by omega) (by omega)]
        exact zck
      exact ⟨g2, gr, fun Q => by rw [e72 Q]; exact xr2 B.bxc, fun Q => by rw [f339 Q]; exact x3 Q, FS.trans F1.i, FSr.trans (F2.i.trans ((FIR.st (by omega) hS).trans F3)), .inr ⟨⟨f, B.bxc, B3.bxr⟩, B.2.2.2.1, B.2.2.2.2.2, by omega, by omega⟩⟩
  · subst ex ey e1 e2'
    obtain ⟨g, gr, p1, p2, p3, p4, p5⟩ := rule_bad (e := e) (e2 := e2) D I0 (by omega) (by omega) c1 f0 f1
    exact ⟨g, gr, p1, p2, p3, p4, .inr p5⟩
end SM
