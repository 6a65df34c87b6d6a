/-! THE PURE SIDE, 136: stand, closed: printed by wip/tools/gen89zzn.py -/
theorem SDL.up {h hr hc h2 : HV} {p n : Int} (S : SDL h hr hc h2 p n) (hp : p < 24) : SDL h hr hc h2 (p + 1) n := by
  obtain ⟨a, b, c, d, e, ⟨f, g, i⟩⟩ := S
  exact ⟨a, b, c, d, e, f, by omega, fun k k0 k1 => by have z := i k k0 k1; exact ⟨z.1, by omega, z.2.2⟩⟩
theorem stand_lp {K h hr : HV} {a b kd vl dn : Int} (N : ENV K h hr) (hq : 0 ≤ a ∧ a < K 12 0) (hm : 1 ≤ b ∧ b ≤ 3000) : ∀ (m : Nat) (p n : Int) (hc h2 : HV) (l9 l11 : AV), p + m = h 836 4 → 0 ≤ p → SDL h hr hc h2 p n →
    R2 (fun P => G fz1 1899 237 3 [(3, 64), (0, a), (0, b), (0, p)] [] hc P) (fun P => G fz1 1899 413 3 [(3, 6603), (0, a), (0, b), (0, kd), (1, vl), (9, 0), (0, dn), (0, n), (0, p), l9, (9, 0), l11] [] h2 P) (fun x h1 y h3 => x = y ∧ ∃ h2e, h3 = hset (hset (hset (hset h2e 6603 58 kd) 6603 59 vl) 6603 53 dn) 6603 61 x ∧ SDL h hr h1 h2e (h 836 4) x) := by
  intro m
  induction m with
  | zero =>
    intro p n hc h2 l9 l11 e p0 S
    have N' := S.env N
    have P := N'.pp
    have P0 := N.pp
    have e8 : hc 836 4 = h 836 4 := by rw [S.1.1 836 (by decide) (by decide) (by decide) (by decide) (by decide) (by decide) (by decide) (by decide) (by decide) (by decide)]
    have ep : p = h 836 4 := by omega
    have s16 := S.2.2.2.2.2.1
    refine R2_eq (fun Q => s237e (d := 1895) (by omega) (by omega)) (fun Q => v413e (d := 1895) (by omega)) (R2_fin ⟨s16, h2, ?_, ?_⟩)
    · rw [s16]
    · rw [s16, ← ep]
      exact S
  | succ m ih =>
    intro p n hc h2 l9 l11 e p0 S
    have N' := S.env N
    have P := N'.pp
    have P0 := N.pp
    have e8 : hc 836 4 = h 836 4 := by rw [S.1.1 836 (by decide) (by decide) (by decide) (by decide) (by decide) (by decide) (by decide) (by decide) (by decide) (by decide)]
    have pk := P.2.2 p p0 (by omega)
    by_cases k : hc 928 p = 0
    · have gg := run_R2 (d := 1890) (q := a) (most := b) (a := p) (b := 0) (c := 0) (e := 0) N' S.sta S.2.2.2.2.1 hq hm (by unfold I32; omega) (by unfold I32; omega) (by unfold I32; omega) (by unfold I32; omega)
      refine R2_eq (fun Q => s237p (d := 1895) (by omega) (by omega) k) (fun Q => v413p (d := 1895) (by omega) (by rw [pk.1]; exact k)) (R2_cc gg (fun x h1 y hr1 w => ?_))
      obtain ⟨-, e57, F⟩ := w
      have N1 := F.1.env N'
      obtain ⟨⟨z1, z2, z3⟩, z4, z5, z6⟩ := sdl_put N1 S (by omega) e57 F
      have nb := S.2.2.2.2.2.2.1
      have lp := fun Q => lp413 (d := 1895) (h := hset (hset hr1 11552 p (kdT hr1)) 11618 p (dvT hr1)) (Q := Q) (a := a) (b := b) (kd := kd) (vl := vl) (dn := dn) (n := n) (p := p) (dv := dvT hr1) (by omega) (by omega) z5 n.toNat (by omega)
      rw [show ((n.toNat : Nat) : Int) = n by omega, sh_0] at lp
      exact R2_eq (fun Q => s238 (d := 1895) (by omega) z1 z2 z3) (fun Q => (v413m (d := 1895) (by omega) z4).trans (lp Q)) (ih (p + 1) (n + 1) _ _ _ _ (by omega) (by omega) z6)
    · exact R2_eq (fun Q => s237k (d := 1895) (by omega) (by omega) k) (fun Q => v413k (d := 1895) (by omega) (by rw [pk.1]; exact k)) (ih (p + 1) n hc h2 l9 l11 (by omega) (by omega) (S.up (by omega)))
theorem op_stand (a b : Int) : OpR RA 237 413 [(3, 64), (0, a), (0, b)] [(3, 6603), (0, a), (0, b)] := by
  intro h R
  obtain ⟨⟨X, _, _, _, _, _, PP, _, _, _, _, _, _, _, SD, _, _, RW', MK', GV, MI, VL, RM', IT⟩, ⟨K, N⟩, V, y3, y4, y5, y6⟩ := id R
  obtain ⟨hT, hS, xx⟩ := X
  have x6 := xx 6 (by decide) (by decide)
  have m6 : MST 6 = 12 := by decide
  rw [m6] at x6
  by_cases cc : 0 ≤ a ∧ a < h (h 64 8 + 598) 6 ∧ 1 ≤ b ∧ b ≤ 3000 ∧ h (h 64 8 + 1302) a = 1
  · have u6 := N.2.2.2.1.1
    rw [y3] at u6
    have hq : 0 ≤ a ∧ a < K 12 0 := by omega
    have q1 := N.2.2.2.1.2 a hq.1 hq.2
    rw [y3] at q1
    have q2 := N.2.2.2.2.2.2.2.2.1.2 a hq.1 hq.2
    have c1 : h (h 6603 9 + 788) a = 1 := by rw [q2.1, ← q1.2.1]; exact cc.2.2.2.2
    have z := R2_seq (fz := fz1) (d := 1899) (m := 237) (d' := 1899) (m' := 413) (as := [(3, 64), (0, a), (0, b)]) (as' := [(3, 6603), (0, a), (0, b)]) (h := h) (S := SR) (Q := fun hr x h1 y h2 => x = y ∧ ∃ h2e, h2 = hset (hset (hset (hset h2e 6603 58 (hr 6603 58)) 6603 59 (hr 6603 59)) 6603 53 (hr 6603 53)) 6603 61 x ∧ SDL h hr h1 h2e (h 836 4) x) (P := fun x h1 y h2 => h1 50 = h 50 ∧ x = y ∧ RA h2 ∧ h2 50 = h 50) (fun _ _ _ => rfl) (fun hr S => ?_) (fun x h1 y h2 w => ?_) (fun x h1 y h2 w => ?_)
    · exact z.imp fun x h1 w => Sp_and w
    · have eS : ∀ s, 0 ≤ s ∧ s < 1310 → hr (h 6603 9 + s) = h (h 6603 9 + s) := fun s w => S _ (by rcases hS with u | u <;> omega) (by rcases hS with u | u <;> omega)
      have e9 : hr 6603 = h 6603 := S 6603 (by decide) (by decide)
      have e84 : hr (hr 6603 9 + 84) = h (h 6603 9 + 84) := by rw [e9]; exact eS 84 (by decide)
      have e788 : hr (hr 6603 9 + 788) = h (h 6603 9 + 788) := by rw [e9]; exact eS 788 (by decide)
      have T := sta_S R S
      have ar := V.ar
      have L0 : SDL h hr (hset h 64 16 0) hr 0 0 := by
        refine ⟨⟨fun o _ _ _ w _ _ _ _ _ _ => hs_ne w, fun s w => hcell w, fun s w => by rw [hs_ne (by decide)], by unfold rb; rw [hs_ne (by decide)], by rw [hs_ne (by decide)]; exact Int.le_refl _⟩, ⟨fun _ _ _ => rfl, fun _ _ _ _ _ _ => rfl⟩, ?_, data_of T.2.2.2 V (fun o w _ _ _ => hs_ne w) (fun _ _ _ _ _ => rfl) rfl, ?_, hcel1, ⟨by decide, by decide, by decide⟩, fun k k0 k1 => by omega⟩
        · have V' := V
          unfold VOK at V' ⊢
          rw [hs_ne (show (1222 : Int) ≠ 64 by decide), hs_ne (show (0 : Int) ≠ 64 by decide), hs_ne (show h 1222 0 ≠ 64 by omega), hs_ne (show h 1222 1 ≠ 64 by omega)]
          exact V'
        · rw [hs_ne (by decide), e9]
          exact ⟨MI.2.1.symm, y5⟩
      have e8 := PP.2.1
      have gg := stand_lp (kd := hr 6603 58) (vl := hr 6603 59) (dn := hr 6603 53) (env_S N S) hq ⟨cc.2.2.1, cc.2.2.2.1⟩ (h 836 4).toNat 0 0 (hset h 64 16 0) hr (9, 0) (9, 0) (by omega) (by decide) L0
      exact R2_eq (fun P => s237s (d := 1896) hT (by omega) ⟨cc.1, cc.2.1⟩ ⟨cc.2.2.1, cc.2.2.2.1⟩ cc.2.2.2.2) (fun P => v413s (d := 1896) (by rw [e9]; exact hS) (by rw [e84]; omega) (by rw [e84]; omega) ⟨cc.2.2.1, cc.2.2.2.1⟩ (by rw [e788]; exact c1)) gg
    · obtain ⟨-, h2e, e1, S⟩ := w
      intro o o1 o2
      exact S.1.1 o o2 (by omega) (by omega) (by omega) (by omega) (by omega) (by omega) (by omega) (by omega) (by omega)
    · obtain ⟨exy, h2e, e1, ⟨⟨c1', c2, c3, c4, c5⟩, ⟨f1, f2⟩, V1, D1, b15, ⟨s1, s2, s3⟩⟩⟩ := w
      have rr : h1 6603 = h 6603 := c1' 6603 (by decide) (by decide) (by decide) (by decide) (by decide) (by decide) (by decide) (by decide) (by decide) (by decide)
      rw [rr] at e1
      have F0 : ∀ o, o ≠ 6603 → h2 o = h2e o := fun o w => by rw [e1, hs_ne w, hs_ne w, hs_ne w, hs_ne w]
      have Fs : ∀ s, s ≠ 53 → s ≠ 58 → s ≠ 59 → s ≠ 61 → h2 6603 s = h2e 6603 s := fun s a b c d => by rw [e1, hcell d, hcell a, hcell c, hcell b]
      have F58 : h2 6603 58 = h 6603 58 := by rw [e1, hcell (by decide), hcell (by decide), hcell (by decide), hcel1]
      have F59 : h2 6603 59 = h 6603 59 := by rw [e1, hcell (by decide), hcell (by decide), hcel1]
      have F53 : h2 6603 53 = h 6603 53 := by rw [e1, hcell (by decide), hcel1]
      have F61 : h2 6603 61 = x := by rw [e1, hcel1]
      clear e1
      have q0 : ∀ o, ¬ (6603 ≤ o ∧ o < 13056) → h2 o = h1 o := fun o w => by rw [F0 o (by omega), f1 o (by omega) (by omega)]
      have mF : ∀ o, o ≠ 6603 → h2 o = mixH h1 h2e o := fun o w => by
        unfold mixH
        split
        · exact F0 o w
        · rename_i u
          exact q0 o u
      unfold DATA at D1
      obtain ⟨w1, w2, w3, w4, w5⟩ := D1
      have ar := V1.ar
      have n1 := w1.1.1
      have n2 := w1.1.2.1
      unfold NFA at n1 n2
      have n3 := w4.1
      have n4 := w4.2.1
      unfold NFA at n3 n4
      have DY : DYF (mixH h1 h2e) h2 := by
        refine ⟨mF _ (by decide), mF _ (by decide), mF _ (by decide), mF _ (by omega), mF _ (by omega), mF _ (by omega), mF _ (by omega), mF _ (by decide), mF _ (by decide), mF _ (by decide), ?_⟩
        rw [Fs 30 (by decide) (by decide) (by decide) (by decide), mx_r (by decide) (by decide)]
      have e8 : h2 836 = mixH h1 h2e 836 := mF 836 (by decide)
      have e9 : h2 928 = mixH h1 h2e 928 := mF 928 (by decide)
      have d1 := f_Rw DY w1
      have d2 := f_It DY (by rw [e8]) e9 w2
      have d3 := f_Mk DY (by rw [e8]) (mF 1120 (by decide)) (mF 10208 (by decide)) e9 w3
      have d4 := f_Vl DY w4
      have d5 := f_Rm DY w5
      have e57 : h2 1157 = h1 1157 := q0 1157 (by decide)
      have e64 : h2 64 = h1 64 := q0 64 (by decide)
      have e643 : h2 643 = h1 643 := q0 643 (by decide)
      have z := ra_end (F := h2) R (fun o w => by
        unfold QT at w
        by_cases u : 6603 ≤ o
        · rw [F0 o (by omega), f1 o (by omega) (by omega)]
          exact c1' o (by omega) (by omega) (by omega) (by omega) (by omega) (by omega) (by omega) (by omega) (by omega) (by omega)
        · rw [q0 o (by omega)]
          exact c1' o (by omega) (by omega) (by omega) (by omega) (by omega) (by omega) (by omega) (by omega) (by omega) (by omega)) (fun s _ _ _ d => by rw [e64, c2 s d]) (fun s a b c d e f => by
        rw [Fs s (by omega) (by omega) (by omega) f, f2 s a b c d e, rr]) (by rw [e57]; exact c3 3 (by decide)) d1 d2 d3 d4 d5 (by
        unfold VOK at *
        rw [q0 1222 (by decide), q0 0 (by decide), q0 (h1 1222 0) (by omega), q0 (h1 1222 1) (by omega)]
        exact V1) ?_ ?_ (by rw [e57, Fs 55 (by decide) (by decide) (by decide) (by decide)]; exact b15.1.symm) (by rw [e64, c2 12 (by decide), F53]; exact MI.2.2.1) (by rw [e57]; exact b15.2)
      · exact ⟨c1' 50 (by decide) (by decide) (by decide) (by decide) (by decide) (by decide) (by decide) (by decide) (by decide) (by decide), exy, z.1, z.2⟩
      · unfold RGv at GV ⊢
        unfold rb at GV c4 ⊢
        rw [e64, c2 10 (by decide), c2 11 (by decide), F58, F59, e643]
        exact ⟨GV.1, fun w => by have g := GV.2 w; omega⟩
      · refine ⟨by rw [e64, s1]; omega, .inl (by rw [F61, e64, s1]), fun k k0 k1 => ?_⟩
        rw [e64, s1] at k1
        rw [F0 11488 (by decide), q0 6432 (by decide)]
        exact (s3 k k0 k1).1
  · rw [s237b (d := 1896) hT (by omega) cc]
    refine ⟨rfl, ?_⟩
    by_cases u : 0 ≤ a ∧ a < h (h 64 8 + 598) 6
    · have u6 := N.2.2.2.1.1
      rw [y3] at u6
      have q1 := N.2.2.2.1.2 a u.1 (by omega)
      rw [y3] at q1
      have q2 := N.2.2.2.2.2.2.2.2.1.2 a u.1 (by omega)
      rw [v413x (d := 1896) hS (by omega) (by rw [x6.1, q2.1, ← q1.2.1]; exact cc)]
      exact ⟨rfl, R, rfl⟩
    · rw [v413x (d := 1896) hS (by omega) (by rw [x6.1]; exact fun w => u ⟨w.1, w.2.1⟩)]
      exact ⟨rfl, R, rfl⟩
