/-! THE PURE SIDE, 123: the two machines alike: copy: printed by wip/tools/gen89zza.py -/
theorem cpy_o {h : HV} {a D S m : Int} (hm : 0 ≤ m) : cpyH h a D S (m + 1) = hset (cpyH h a D S m) a (D + m) (h a (S + m)) := by
  funext o p
  rw [hset_v]
  unfold cpyH
  by_cases e : o = a ∧ p = D + m
  · rw [if_pos e, if_pos (by omega), e.1, e.2, show D + m - D + S = S + m by omega]
  · rw [if_neg e]
    by_cases c : o = a ∧ D ≤ p ∧ p < D + m
    · rw [if_pos c, if_pos (by omega)]
    · rw [if_neg c, if_neg (by omega)]
theorem lc_min {a b : Int} (ha : 4 ≤ a ∧ a ≤ 7) (hb : 4 ≤ b ∧ b ≤ 7) : min a 6 = min b 6 ↔ (a = b ∨ 6 ≤ a ∧ 6 ≤ b) := by omega
theorem least_bad {P : Int → Prop} {n : Int} (h : ¬ ∀ p, 0 ≤ p → p < n → P p) : ∃ q, 0 ≤ q ∧ q < n ∧ (∀ p, 0 ≤ p → p < q → P p) ∧ ¬ P q := by
  have key : ∀ m : Nat, (∀ p, 0 ≤ p → p < (m : Int) → P p) ∨ ∃ q, 0 ≤ q ∧ q < (m : Int) ∧ (∀ p, 0 ≤ p → p < q → P p) ∧ ¬ P q := by
    intro m
    induction m with
    | zero => exact .inl (fun p a b => by omega)
    | succ m ih =>
      rcases ih with w | ⟨q, a, b, c⟩
      · by_cases e : P m
        · refine .inl (fun p a b => ?_)
          by_cases z : p = m
          · rw [z]; exact e
          · exact w p a (by omega)
        · exact .inr ⟨m, by omega, by omega, w, e⟩
      · exact .inr ⟨q, a, by omega, c⟩
  rcases key n.toNat with w | ⟨q, a, b, c⟩
  · exact absurd (fun p a b => w p a (by omega)) h
  · exact ⟨q, a, by omega, c⟩
section VM
variable {K B Br h hr h1 h2 hr2 : HV} {n n2 n0 : Nat} {q E k k2 : Int} {x y : CX} {l L L2 : List FRT} {g : CFG}
/-- the first m items copied on both sides -/
theorem VMS.cpy {r s i j c : Int} (O : KOK K) (M : VMS K B Br h hr n L) (r0 : 0 ≤ r ∧ r < h 643 2) (s0 : 0 ≤ s ∧ s < h 643 2) (hi : 0 ≤ i ∧ i + c ≤ rwZ h r) (hj : 0 ≤ j ∧ j + c ≤ rwZ h s) (st : hr 10272 (r + rb h) = hr 10272 (s + rb h) ∨ 6 ≤ hr 10272 (r + rb h) ∧ 6 ≤ hr 10272 (s + rb h)) : ∀ m : Nat, (m : Int) ≤ c → (hr 10272 (s + rb h) = 7 → hr 10272 (r + rb h) ≠ 7 → ∀ p : Int, 0 ≤ p → p < m → rwI h r (i + p) = -9 ∨ 2 ≤ h 928 (rwI h r (i + p))) → VMS K B Br (cpyH h (h 643 1) (h (h 643 0) s + j) (h (h 643 0) r + i) m) (pdnH (tknH hr (64 * (r + rb h) + i) c) (64 * (s + rb h) + j) m) n L := by
  have S := M.1
  obtain ⟨R, d, rbb, e30, rows⟩ := S.RW
  have n1 := R.1
  have n2' := R.2.1
  unfold NFA at n1 n2'
  obtain ⟨⟨f1, f2⟩, f3, f4⟩ := rows r r0.1 r0.2
  obtain ⟨⟨g1, g2⟩, g3, g4⟩ := rows s s0.1 s0.2
  have V := S.2.2.1
  intro m
  induction m with
  | zero =>
    intro _ _
    show VMS K B Br (cpyH h (h 643 1) (h (h 643 0) s + j) (h (h 643 0) r + i) 0) (pdnH (tknH hr (64 * (r + rb h) + i) c) (64 * (s + rb h) + j) 0) n L
    rw [cpy_0, pdn_0]
    have C := CCG.id V
    have T : RCG hr (tknH hr (64 * (r + rb h) + i) c) := ⟨fun o a b => tkn_ne (by omega), fun s _ _ _ _ => by rw [tkn_ne (by decide)]⟩
    exact M.dat O (S.cg C T) (fun k b k' b' w => by rw [VVh.cg V C T]; exact w) (fun _ _ _ _ _ => rfl) (fun _ => ⟨rfl, rfl⟩) (fun s _ => by rw [tkn_ne (by decide)]) (fun o a b => tkn_ne (by omega))
  | succ m ih =>
    intro hm good
    have M2 := ih (by omega) (fun a b p p0 p1 => good a b p p0 (by omega))
    have e1 : ∀ o, o ≠ h 643 1 → cpyH h (h 643 1) (h (h 643 0) s + j) (h (h 643 0) r + i) m o = h o := fun o w => cpy_ne w
    have e643 := e1 643 (by omega)
    have es := e1 (h 643 0) (by omega)
    have eb : rb (cpyH h (h 643 1) (h (h 643 0) s + j) (h (h 643 0) r + i) m) = rb h := by unfold rb; rw [e643]
    have ez : rwZ (cpyH h (h 643 1) (h (h 643 0) s + j) (h (h 643 0) r + i) m) s = rwZ h s := by unfold rwZ; rw [e643, es]
    have et : ∀ o, o ≠ 10401 → o ≠ 11425 → pdnH (tknH hr (64 * (r + rb h) + i) c) (64 * (s + rb h) + j) m o = hr o := fun o a b => by rw [pdn_ne a, tkn_ne b]
    have ev : rwI h r (i + m) = h (h 643 1) (h (h 643 0) r + i + m) := by unfold rwI; congr 1; omega
    have itm := f4 (i + m) (by omega) (by omega)
    have ev2 := f2 (i + m) (by omega) (by omega)
    have it : ITK (hr 10272 (s + rb h)) (h 836 4) (h 928) (rwI h r (i + m)) := by
      rcases st with w | ⟨w1, w2⟩
      · rw [← w]; exact itm
      · refine ⟨fun u => by omega, fun u => by omega, fun _ => ?_⟩
        rcases itm.2.2 w1 with u | ⟨u1, u2⟩
        · exact .inl u
        · by_cases s7 : hr 10272 (s + rb h) = 7
          · by_cases r7 : hr 10272 (r + rb h) = 7
            · exact .inr ⟨u1, fun _ => u2 r7⟩
            · rcases good s7 r7 m (by omega) (by omega) with z | z
              · exact .inl z
              · exact .inr ⟨u1, fun _ => z⟩
          · exact .inr ⟨u1, fun z => absurd z s7⟩
    have M3 := M2.it O (r := s) (i := j + m) (v := rwI h r (i + m)) (by rw [e643]; exact s0) (by rw [ez]; omega) (by rw [eb, et 10272 (by decide) (by decide), e1 836 (by omega), e1 928 (by omega)]; exact it)
    rw [e643, es, eb, ev, show h (h 643 0) s + (j + m) = h (h 643 0) s + j + m by omega, ← cpy_o (by omega)] at M3
    rw [← ev, ← ev2, show 64 * (r + rb h) + (i + m) = 64 * (r + rb h) + i + m by omega, show 64 * (s + rb h) + (j + m) = 64 * (s + rb h) + j + m by omega, ← tkn_v (h := hr) (a := 64 * (r + rb h) + i) (n := c) (p := m) (by omega), pdn_s (by omega)] at M3
    exact M3
theorem o_copy {d d2 : Nat} (N : ENV K h hr) (M : VMS K B Br h hr n ((q, x, 5, k) :: l)) (hk : 1 ≤ k2 ∧ k2 ≤ 399) : OUT K B Br h hr n ((q, x, 5, k) :: l) ((q, x, 0, k2) :: l) (fun Q => Sp fz1 (d + 6) 219 [(3, 1157)] h Q) (fun Q => Sp fz1 (d2 + 5) 391 [(3, 6603)] hr (fun _ => Q 0)) := by
  have O := N.1
  have V := M.V
  have F := M.F
  have v0 : VVh h hr (tK h 0) (tB h 0) (uK hr 1) (uB hr 1) := M.top O (j := 0) (by decide)
  have v1 : VVh h hr (tK h 1) (tB h 1) (uK hr 2) (uB hr 2) := M.top O (j := 1) (by decide)
  have v2 : VVh h hr (tK h 2) (tB h 2) (uK hr 3) (uB hr 3) := M.top O (j := 2) (by decide)
  have v3 : VVh h hr (tK h 3) (tB h 3) (uK hr 4) (uB hr 4) := M.top O (j := 3) (by decide)
  have v4 : VVh h hr (tK h 4) (tB h 4) (uK hr 5) (uB hr 5) := M.top O (j := 4) (by decide)
  obtain ⟨T, hn⟩ := M.T O (m := 5) ⟨by decide, by decide⟩
  obtain ⟨R, dd, rbb, e30, rows⟩ := M.1.RW
  obtain ⟨p25, pc, pp⟩ := N.pp
  have n1 := R.1
  have n2' := R.2.1
  unfold NFA at n1 n2'
  by_cases l3 : lwF (tK h 3) = 0
  · by_cases l1 : lwF (tK h 1) = 0
    · by_cases l0 : lwF (tK h 0) = 0
      · have t3 := lw1 l3
        have t1 := lw1 l1
        have t0 := lw1 l0
        have b3 := v3.e1 t3
        have b1 := v1.e1 t1
        have b0 := v0.e1 t0
        have u4 := v3.i1.mp t3
        have u2 := v1.i1.mp t1
        have u1 := v0.i1.mp t0
        by_cases z0 : tK h 4 = 0 ∨ tK h 2 = 0
        · exact OUT.fl (f := 3) (d := d2 + 2) (by decide) (fun Q => s219_c (d := d + 2) V F l3 l1 l0 (fun Q => s220a (d := d + 3) V z0) (by decide)) (fun Q => v391n (d := d2 + 1) T u4 u2 u1 (z0.imp v4.i0.mp v2.i0.mp)) M
        · by_cases z4 : 4 ≤ tK h 4 ∧ 4 ≤ tK h 2
          · have e4 := v4.e4 z4.1
            have e2 := v2.e4 z4.2
            have r4 := v4.r.1
            have r2 := v2.r.1
            obtain ⟨⟨f1, f2⟩, f3, f4⟩ := rows _ e4.2.1.1 e4.2.1.2
            obtain ⟨⟨g1, g2⟩, g3, g4⟩ := rows _ e2.2.1.1 e2.2.1.2
            have k5 := v4.i4.mp z4.1
            have k3 := v2.i4.mp z4.2
            have q5 : 0 ≤ uB hr 5 ∧ uB hr 5 < 6000 := by omega
            have q3 : 0 ≤ uB hr 3 ∧ uB hr 3 < 6000 := by omega
            have s5 : hr 10272 (uB hr 5) = tK h 4 := by rw [e4.1]; exact e4.2.2
            have s3 : hr 10272 (uB hr 3) = tK h 2 := by rw [e2.1]; exact e2.2.2
            by_cases zm : min (tK h 4) 6 = min (tK h 2) 6
            · have zo := (lc_min ⟨z4.1, r4.2⟩ ⟨z4.2, r2.2⟩).mp zm
              have zr4 := R.z e4.2.1.1 e4.2.1.2
              have zr2 := R.z e2.2.1.1 e2.2.1.2
              have w5 : hr 10336 (uB hr 5) = rwZ h (tB h 4) := by rw [e4.1]; exact f1
              have w3 : hr 10336 (uB hr 3) = rwZ h (tB h 2) := by rw [e2.1]; exact g1
              have sor : hr 10272 (uB hr 5) = hr 10272 (uB hr 3) ∨ (6 ≤ hr 10272 (uB hr 5) ∧ 6 ≤ hr 10272 (uB hr 3)) := by rw [s5, s3]; exact zo
              by_cases hl : lies h
              · have hl' := hl
                unfold lies at hl'
                have lr : 0 ≤ uB hr 4 ∧ 0 ≤ uB hr 2 ∧ 0 ≤ uB hr 1 ∧ uB hr 4 + uB hr 1 ≤ hr 10336 (uB hr 5) ∧ uB hr 2 + uB hr 1 ≤ hr 10336 (uB hr 3) := by rw [w5, w3, b3.1, b1.1, b0.1]; exact hl'
                have src : ∀ p, 0 ≤ p → p < tB h 0 → hr 10401 (64 * uB hr 5 + uB hr 4 + p) = rwI h (tB h 4) (tB h 3 + p) := fun p p0 p1 => by
                  rw [← f2 (tB h 3 + p) (by omega) (by omega), e4.1, b3.1]
                  congr 1
                  omega
                have hp : 6 ≤ tK h 4 → ∀ p, 0 ≤ p → p < tB h 0 → rwI h (tB h 4) (tB h 3 + p) = -9 ∨ 0 ≤ rwI h (tB h 4) (tB h 3 + p) ∧ rwI h (tB h 4) (tB h 3 + p) < h 836 4 := fun w p p0 p1 => by
                  have := (f4 (tB h 3 + p) (by omega) (by omega)).2.2 (by rw [e4.2.2]; exact w)
                  exact this.imp id (fun u => u.1)
                have h7 : tK h 4 = 7 → ∀ p, 0 ≤ p → p < tB h 0 → rwI h (tB h 4) (tB h 3 + p) = -9 ∨ 2 ≤ h 928 (rwI h (tB h 4) (tB h 3 + p)) := fun w p p0 p1 => by
                  have := (f4 (tB h 3 + p) (by omega) (by omega)).2.2 (by rw [e4.2.2]; omega)
                  exact this.imp id (fun u => u.2 (by rw [e4.2.2]; exact w))
                -- the reference's test of an item
                have gd : tK h 2 = 7 → ∀ p, 0 ≤ p → p < tB h 0 → ((hr 10401 (64 * uB hr 5 + uB hr 4 + p) = -9 ∨ 2 ≤ hr 10016 (hr 10401 (64 * uB hr 5 + uB hr 4 + p))) ↔ (rwI h (tB h 4) (tB h 3 + p) = -9 ∨ 2 ≤ h 928 (rwI h (tB h 4) (tB h 3 + p)))) := fun w p p0 p1 => by
                  rw [src p p0 p1]
                  have := hp (by omega) p p0 p1
                  rcases this with u | u
                  · exact ⟨fun _ => .inl u, fun _ => .inl u⟩
                  · rw [(pp _ u.1 u.2).1]
                have hz : hr 10272 (uB hr 3) = 7 → ∀ p, 0 ≤ p → p < uB hr 1 → hr 10401 (64 * uB hr 5 + uB hr 4 + p) = -9 ∨ 0 ≤ hr 10401 (64 * uB hr 5 + uB hr 4 + p) ∧ hr 10401 (64 * uB hr 5 + uB hr 4 + p) < 24 := fun w p p0 p1 => by
                  rw [b0.1] at p1
                  rw [s3] at w
                  rw [src p p0 p1]
                  have := hp (by omega) p p0 p1
                  omega
                have hkk : tB h 4 = tB h 2 → tK h 4 = tK h 2 := fun w => by rw [← e4.2.2, ← e2.2.2, w]
                have cp := fun m hm good => VMS.cpy (c := tB h 0) (i := tB h 3) (j := tB h 1) O M e4.2.1 e2.2.1 ⟨hl'.1, hl'.2.2.2.1⟩ ⟨hl'.2.1, hl'.2.2.2.2⟩ (by rw [e4.2.2, e2.2.2]; exact zo) m hm good
                rw [e4.2.2, e2.2.2] at cp
                have dst : 64 * uB hr 3 + uB hr 2 = 64 * (tB h 2 + rb h) + tB h 1 := by rw [e2.1, b1.1]
                have srr : 64 * uB hr 5 + uB hr 4 = 64 * (tB h 4 + rb h) + tB h 3 := by rw [e4.1, b3.1]
                by_cases bad : (tK h 2 = 7 ∧ tK h 4 ≠ 7) ∧ ¬ ∀ p, 0 ≤ p → p < tB h 0 → rwI h (tB h 4) (tB h 3 + p) = -9 ∨ 2 ≤ h 928 (rwI h (tB h 4) (tB h 3 + p))
                · obtain ⟨⟨t7, t47⟩, bb⟩ := bad
                  obtain ⟨Z, z1, z2, z3, z5⟩ := least_bad bb
                  have Mq := cp Z.toNat (by omega) (fun _ _ p p0 p1 => z3 p p0 (by omega))
                  rw [show ((Z.toNat : Nat) : Int) = Z by omega] at Mq
                  refine .inr (.inl ⟨6, d2 + 2, _, _, cpy_ne (by omega), by decide, fun Q w => ?_, fun Q w => ?_, Mq⟩)
                  · refine s219a (d := d + 2) V F R dd pc.2 hn l3 l1 l0 ⟨z4.1, r4.2⟩ ⟨z4.2, r2.2⟩ zm e4.2.1 e2.2.1 b3.2 b1.2 b0.2 hl hp hkk (fun u _ _ u0 u1 uH uN => ?_) (fun u => absurd (u t7 t47) bb)
                    have : u = Z := by
                      rcases (show u < Z ∨ u = Z ∨ Z < u by omega) with c | c | c
                      · exact absurd (z3 u u0 c) uN
                      · exact c
                      · exact absurd (uH Z z1 c) z5
                    rw [this]
                    exact w
                  · refine v391a (d := d2 + 1) T u4 u2 u1 k5 k3 q5 q3 sor (by rw [w5]; exact zr4) (by rw [w3]; exact zr2) lr hz (fun u u7 u0 u1' uH uN => ?_) (fun u => ?_)
                    · rw [b0.1] at u1'
                      have uN' := fun y => uN ((gd t7 u u0 u1').mpr y)
                      have uH' : ∀ p, 0 ≤ p → p < u → _ := fun p p0 p1 => (gd t7 p p0 (by omega)).mp (uH p p0 p1)
                      have : u = Z := by
                        rcases (show u < Z ∨ u = Z ∨ Z < u by omega) with c | c | c
                        · exact absurd (z3 u u0 c) uN'
                        · exact c
                        · exact absurd (uH' Z z1 c) z5
                      rw [this, b0.1, srr, dst]
                      exact w
                    · exact absurd (fun p p0 p1 => (gd t7 p p0 p1).mp (u (by rw [s3]; exact t7) p p0 (by rw [b0.1]; exact p1))) bb
                · have ok : tK h 2 = 7 → tK h 4 ≠ 7 → ∀ p, 0 ≤ p → p < tB h 0 → rwI h (tB h 4) (tB h 3 + p) = -9 ∨ 2 ≤ h 928 (rwI h (tB h 4) (tB h 3 + p)) := fun a b => Classical.not_not.mp (fun c => bad ⟨⟨a, b⟩, c⟩)
                  have ok2 : tK h 2 = 7 → ∀ p, 0 ≤ p → p < tB h 0 → rwI h (tB h 4) (tB h 3 + p) = -9 ∨ 2 ≤ h 928 (rwI h (tB h 4) (tB h 3 + p)) := fun a => by
                    by_cases c : tK h 4 = 7
                    · exact h7 c
                    · exact ok a c
                  have Mq := cp (tB h 0).toNat (by omega) (fun a b p p0 p1 => ok a b p p0 (by omega))
                  rw [show (((tB h 0).toNat : Nat) : Int) = tB h 0 by omega] at Mq
                  have M3 := Mq.cutE O hk
                  rw [cpy_ne (o := 1222) (by omega)] at M3
                  refine .inl ⟨_, _, ⟨by rw [cut_ne (by decide), cpy_ne (by omega)], by unfold tpR; rw [hcell (by decide), pdn_ne (by decide), tkn_ne (by decide)]⟩, fun Q w => ?_, fun Q w => ?_, M3⟩
                  · exact s219a (d := d + 2) V F R dd pc.2 hn l3 l1 l0 ⟨z4.1, r4.2⟩ ⟨z4.2, r2.2⟩ zm e4.2.1 e2.2.1 b3.2 b1.2 b0.2 hl hp hkk (fun u a b u0 u1 _ uN => absurd (ok a b u u0 u1) uN) (fun _ => w)
                  · refine v391a (d := d2 + 1) T u4 u2 u1 k5 k3 q5 q3 sor (by rw [w5]; exact zr4) (by rw [w3]; exact zr2) lr hz (fun u u7 u0 u1' uH uN => ?_) (fun u => ?_)
                    · rw [b0.1] at u1'
                      rw [s3] at u7
                      exact absurd ((gd u7 u u0 u1').mpr (ok2 u7 u u0 u1')) uN
                    · rw [b0.1, srr, dst]
                      exact w
              · exact OUT.fl (f := 2) (d := d2 + 2) (by decide) (fun Q => s219_c (d := d + 2) V F l3 l1 l0 (fun Q => s220d (d := d + 3) V R ⟨z4.1, r4.2⟩ ⟨z4.2, r2.2⟩ zm e4.2.1 e2.2.1 b3.2 b1.2 b0.2 hl) (by decide)) (fun Q => v391x (d := d2 + 1) T u4 u2 u1 k5 k3 q5 q3 sor (by rw [w5]; exact zr4) (by rw [w3]; exact zr2) (by rw [b3.1]; exact b3.2) (by rw [b1.1]; exact b1.2) (by rw [b0.1]; exact b0.2) (by rw [w5, w3, b3.1, b1.1, b0.1]; exact hl)) M
            · have zo := fun w => zm ((lc_min ⟨z4.1, r4.2⟩ ⟨z4.2, r2.2⟩).mpr w)
              exact OUT.fl (f := 6) (d := d2 + 2) (by decide) (fun Q => s219_c (d := d + 2) V F l3 l1 l0 (fun Q => s220b (d := d + 3) V ⟨by omega, r4.2⟩ ⟨by omega, r2.2⟩ z0 (.inr (.inr zm))) (by decide)) (fun Q => v391t (d := d2 + 1) T u4 u2 u1 k5 k3 q5 q3 (by rw [s5, s3]; omega)) M
          · have r4 := v4.r.1
            have r2 := v2.r.1
            refine OUT.fl (f := 6) (d := d2 + 2) (by decide) (fun Q => s219_c (d := d + 2) V F l3 l1 l0 (fun Q => s220b (d := d + 3) V r4 r2 z0 (by omega)) (by decide)) (fun Q => v391s (d := d2 + 1) T u4 u2 u1 (fun w => z0 (w.imp v4.i0.mpr v2.i0.mpr)) (fun w => z4 ⟨v4.i4.mpr w.1, v2.i4.mpr w.2⟩)) M
      · exact OUT.fl (d := d2 + 2) (lw_r l0) (fun Q => s219_0 (d := d + 2) V F l3 l1 l0) (fun Q => v391f (d := d2 + 1) T (by rw [← v3.lw, if_pos l3, ← v1.lw, if_pos l1, v0.lw]) l0) M
    · exact OUT.fl (d := d2 + 2) (lw_r l1) (fun Q => s219_1 (d := d + 2) V F l3 l1) (fun Q => v391f (d := d2 + 1) T (by rw [← v3.lw, if_pos l3, ← v1.lw, if_neg l1]) l1) M
  · exact OUT.fl (d := d2 + 2) (lw_r l3) (fun Q => s219_3 (d := d + 2) V F l3) (fun Q => v391f (d := d2 + 1) T (by rw [← v3.lw, if_neg l3]) l3) M
end VM
