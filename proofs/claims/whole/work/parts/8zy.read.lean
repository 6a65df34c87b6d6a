/-! THE PURE SIDE, 207: read closed: printed by wip/tools/gen8zy.py -/
theorem op_read : OpR RA 24 320 [(3, 64)] [(3, 6603)] := by
  intro h R
  have z := R2_seq (fz := fz1) (d := 1899) (m := 24) (d' := 1899) (m' := 320) (as := [(3, 64)]) (as' := [(3, 6603)]) (h := h) (S := fun h hr => SR h hr ∧ ∀ o, o < 0 → hr o = h o) (Q := fun hr x h1 y h2 => x = y ∧ h1 50 = h 50 ∧ (∀ o, (6603 ≤ o ∧ o < 13056) ∨ o < 0 → h1 o = h o) ∧ (hr = h1 → RA h2 ∧ h2 50 = h 50)) (P := fun x h1 y h2 => h1 50 = h 50 ∧ x = y ∧ RA h2 ∧ h2 50 = h 50) ⟨fun _ _ _ => rfl, fun _ _ => rfl⟩ (fun hr S => ?_) (fun x h1 y h2 w => ⟨fun o a b => w.2.2.1 o (.inl ⟨a, b⟩), fun o a => w.2.2.1 o (.inr a)⟩) (fun x h1 y h2 w => ⟨w.2.1, w.1, w.2.2.2 rfl⟩)
  · exact z.imp fun x h1 w => Sp_and w
  · obtain ⟨T, eT⟩ : ∃ T, h 64 9 = T := ⟨_, rfl⟩
    obtain ⟨S0, eS⟩ : ∃ S0, h 6603 10 = S0 := ⟨_, rfl⟩
    have R0 := R
    obtain ⟨⟨_, _, _, _, _, RTP, _⟩, -, -, -, y3, -, y5⟩ := R
    unfold SPT at y3
    unfold RTp at RTP
    have hT : TC T := by
      rw [← eT]
      unfold TC
      omega
    have hS : TR S0 := by
      rw [← eS]
      unfold TR
      omega
    have kT := kTC hT
    have kS := kTR hS
    have r3 : hr 6603 = h 6603 := S.1 6603 (by decide) (by decide)
    have r1 : hr 6691 = h 6691 := S.1 6691 (by decide) (by decide)
    obtain ⟨x, g, gr, EC, FC, FR, W⟩ := read_to (h := h) (hr := hr) (T := T) (S := S0) (t := h 129 1) (tp := h 227) (old := h 6603 9) hT hS y5 (fun o w => by rw [S.2 o w]; exact y5 o w) ⟨rfl, RTP.2.1⟩ rfl (fun i i0 i1 => (RTP.2.2 i i0 i1).2) (by rw [r3]; exact RTP.1) (fun i i0 i1 => by rw [r1]; exact (RTP.2.2 i i0 i1).1) (by rw [r3]; exact eS) (by rw [r3]) (e := 1885) (e2 := 1887) (by decide) (by decide)
    rcases W with ⟨x0, b1, b9, ER⟩ | ⟨x1, ⟨v2, u3, ER⟩, s0, h1, hr1, I, K, l⟩
    · -- a fault
      have C : ∀ Q, Sp fz1 1899 24 [(3, 64)] h Q = Q (w32 (-10 - x)) (hset g 129 1 0) := fun Q => c24_bad (e := 1885) hT eT EC x0
      have ER' : ∀ Q, Sp fz1 1899 320 [(3, 6603)] hr Q = Q (w32 (-10 - x)) gr := ER
      have kc : ∀ o, o ≠ 129 → o ≠ 258 → o ≠ 353 → o ≠ 416 → o ≠ 481 → o ≠ 544 → o ≠ 608 → ¬ (T ≤ o ∧ o ≤ T + 1462) → hset g 129 1 0 o = h o := fun o a1 a2 a3 a4 a5 a6 a7 a8 => by rw [hs_ne a1]; exact FC o a1 a2 a3 a4 a5 a6 a7 a8
      refine ⟨w32 (-10 - x), hset g 129 1 0, w32 (-10 - x), gr, fun P p => Eq.mpr (C P) p, fun P p => Eq.mpr (ER' P) p, rfl, kc 50 (by decide) (by decide) (by decide) (by decide) (by decide) (by decide) (by decide) (by omega), fun o w => kc o (by omega) (by omega) (by omega) (by omega) (by omega) (by omega) (by omega) (by omega), fun e => ?_⟩
      subst e
      refine old_ra R0 eT eS (fun o w => ?_) ?_ ⟨b1, b9⟩ (fun i a1 a2 a3 a4 a5 a6 a7 => ?_)
      · unfold KEEO at w
        rw [FR.1 o (by omega) (by omega) (by omega) (by omega) (by omega) (by omega) (by omega) (by omega) (by omega) (by omega)]
        exact kc o (by omega) (by omega) (by omega) (by omega) (by omega) (by omega) (by omega) (by omega)
      · rw [FR.1 129 (by decide) (by decide) (by decide) (by decide) (by decide) (by decide) (by decide) (by decide) (by decide) (by omega), hcel1]
      · rw [FR.2 i a1 a2 a3 a4 a5 a6 a7, kc 6603 (by decide) (by decide) (by decide) (by decide) (by decide) (by decide) (by decide) (by omega)]
    · -- a new text
      subst x1
      have g64 : g 64 = h 64 := FC 64 (by decide) (by decide) (by decide) (by decide) (by decide) (by decide) (by decide) (by omega)
      obtain ⟨C0, eC⟩ : ∃ C0, C0 = hset (hset (hset (hset (hset g 129 1 0) 64 8 T) 64 9 (h 64 8)) 643 2 0) 836 4 0 := ⟨_, rfl⟩
      obtain ⟨F, eF⟩ : ∃ F, F = opC T (pC T C0 (g (T + 598) 2).toNat) := ⟨_, rfl⟩
      have D := I.1
      have k598 : g (T + 598) = h1 (T + 598) := K.1.1 _ (by omega) (by omega)
      have k84 : gr (S0 + 84) = hr1 (S0 + 84) := K.2.1.1 _ (by omega) (by omega)
      have c2 := I.2.2.1.1 2 (by decide) (by decide)
      have c6 := I.2.2.1.1 6 (by decide) (by decide)
      have m2 : MST 2 = 10 := by decide
      have gr9 : gr 6603 9 = S0 := by rw [K.2.1.2 9 (by decide)]; exact D.2.1.2.2
      have z0 : C0 836 4 = 0 := by rw [eC, hcel1]
      have c24 : C0 (T + 598) = g (T + 598) := by rw [eC, hs_ne (by omega), hs_ne (by omega), hs_ne (by omega), hs_ne (by omega), hs_ne (by omega)]
      have op : ∀ Q, Sp fz1 1898 127 [(3, 64)] (hset (hset (hset g 129 1 0) 64 8 T) 64 9 (g 64 8)) Q = Q 0 F := fun Q => by
        have ec : hset (hset (hset g 129 1 0) 64 8 T) 64 9 (g 64 8) (T + 598) = g (T + 598) := by rw [hs_ne (by omega), hs_ne (by omega), hs_ne (by omega)]
        rw [c127 (e := 1894) hT (by rw [hcell (by decide), hcel1]) (by rw [ec, k598]; omega), ec, eF, eC, g64]
      have F8 : F 64 8 = T := by rw [eF, ok_64 (by decide), (pC_v z0 _).1 64 (by decide) (by decide) (by decide) (by decide) (by decide), eC, hs_ne (by decide), hs_ne (by decide), hcell (by decide), hcel1]
      have F6 : F (T + 598) = g (T + 598) := by rw [eF, opC_o (by omega) (by omega) (by omega) (by omega) (by omega) (by omega) (by omega) (by omega) (by omega) (by omega) (by omega), (pC_v z0 _).1 (T + 598) (by omega) (by omega) (by omega) (by omega) (by omega), c24]
      have C : ∀ Q, Sp fz1 1899 24 [(3, 64)] h Q = Q (F (T + 598) 6) F := fun Q => c24_good (e := 1885) hT eT EC (by rw [g64]; exact eT) op F8 (by rw [F6, k598]; omega)
      obtain ⟨R1, eR⟩ : ∃ R1, R1 = hset (hset (hset gr 6603 1 0) 6603 10 (h 6603 9)) 6603 25 0 := ⟨_, rfl⟩
      obtain ⟨M, eM⟩ : ∃ M, M = opRH (pR S0 R1 (gr (S0 + 84) 2).toNat) := ⟨_, rfl⟩
      have w0 : R1 6603 25 = 0 := by rw [eR, hcel1]
      have qv := pR_v (S := S0) w0 (gr (S0 + 84) 2).toNat
      have M9 : M 6603 9 = S0 := by rw [eM, ok_6603 (by decide), qv.2.2.1 9 (by decide), eR, hcell (by decide), hcell (by decide), hcell (by decide), gr9]
      have M84 : M (S0 + 84) = gr (S0 + 84) := by rw [eM, opRH_o (by omega) (by omega) (by omega) (by omega), qv.1 _ (by omega) (by omega) (by omega) (by omega) (by omega) (by omega) (by omega) (by omega), eR, hs_ne (by omega), hs_ne (by omega), hs_ne (by omega)]
      have op2 : ∀ Q, Sp fz1 1898 366 [(3, 6603)] (hset (hset gr 6603 1 0) 6603 10 (h 6603 9)) Q = Q 0 M := fun Q => by
        have ec : hset (hset gr 6603 1 0) 6603 10 (h 6603 9) (S0 + 84) = gr (S0 + 84) := by rw [hs_ne (by omega), hs_ne (by omega)]
        rw [r366 (e2 := 1896) hS (by rw [hcell (by decide), hcell (by decide)]; exact gr9) (by rw [ec, k84, c2.1]; omega), ec, eM, eR]
      have ER' : ∀ Q, Sp fz1 1899 320 [(3, 6603)] hr Q = Q (M (S0 + 84) 6) M := fun Q => (ER Q).trans (r320_10 (e2 := 1887) hS op2 M9)
      have xy : F (T + 598) 6 = M (S0 + 84) 6 := by rw [F6, M84, k598, k84, c6.1]
      have pv := pC_v (T := T) z0 (g (T + 598) 2).toNat
      have kc : ∀ o, (6603 ≤ o ∧ o < 13056) ∨ o < 0 ∨ o = 50 → F o = h o := fun o w => by
        rw [eF, opC_o (by omega) (by omega) (by omega) (by omega) (by omega) (by omega) (by omega) (by omega) (by omega) (by omega) (by omega), pv.1 o (by omega) (by omega) (by omega) (by omega) (by omega), eC, hs_ne (by omega), hs_ne (by omega), hs_ne (by omega), hs_ne (by omega), hs_ne (by omega)]
        exact FC o (by omega) (by omega) (by omega) (by omega) (by omega) (by omega) (by omega) (by omega)
      refine ⟨F (T + 598) 6, F, M (S0 + 84) 6, M, fun P p => Eq.mpr (C P) p, fun P p => Eq.mpr (ER' P) p, xy, kc 50 (by decide), fun o w => kc o (by omega), fun e => ?_⟩
      subst e
      exact fin_ra R0 eT eS rfl FC I K l eC eF FR eR eM
