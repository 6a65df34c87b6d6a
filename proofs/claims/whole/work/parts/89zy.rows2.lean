/-! THE PURE SIDE, 121: the two machines alike: set an item, make a row: printed by wip/tools/gen89zy.py -/
theorem siF_eq {ki ki' ka kv kv' : Int} {hs hs' : Prop} [Decidable hs] [Decidable hs'] {lp lp' : Int} (e1 : lwF ki = lwF ki') (e2 : lwF kv = lwF kv') (e3 : lnF kv = lnF kv') (e4 : lwF ki = 0 → 4 ≤ ka → (hs ↔ hs')) (e5 : 6 ≤ ka → lp = lp') (hk : ka ≤ 7) : siF ki ka kv hs lp = siF ki' ka kv' hs' lp' := by
  unfold siF
  rw [← e1, ← e2, ← e3]
  by_cases a : lwF ki = 0
  · rw [if_pos a, if_pos a]
    by_cases b : lrF ka = 0
    · have b4 := lr4 b
      have ee := e4 a b4
      rw [if_pos b, if_pos b]
      by_cases k4 : ka = 4
      · rw [if_pos k4, if_pos k4]
        by_cases c : hs
        · rw [if_pos c, if_pos (ee.mp c)]
        · rw [if_neg c, if_neg (fun w => c (ee.mpr w))]
      · rw [if_neg k4, if_neg k4]
        by_cases k5 : ka = 5
        · rw [if_pos k5, if_pos k5]
          by_cases c : hs
          · rw [if_pos c, if_pos (ee.mp c)]
          · rw [if_neg c, if_neg (fun w => c (ee.mpr w))]
        · rw [if_neg k5, if_neg k5]
          by_cases c : hs
          · rw [if_pos c, if_pos (ee.mp c)]; exact e5 (by omega)
          · rw [if_neg c, if_neg (fun w => c (ee.mpr w))]
    · rw [if_neg b, if_neg b]
  · rw [if_neg a, if_neg a]
theorem siF_0 {ki ka kv : Int} {hs : Prop} [Decidable hs] {lp : Int} (h : siF ki ka kv hs lp = 0) : lwF ki = 0 ∧ 4 ≤ ka ∧ hs ∧ (ka = 4 → lwF kv = 0) ∧ (ka = 5 → lnF kv = 0) ∧ (6 ≤ ka → lp = 0) := by
  unfold siF at h
  by_cases a : lwF ki = 0
  · rw [if_pos a] at h
    by_cases b : lrF ka = 0
    · have b4 := lr4 b
      rw [if_pos b] at h
      by_cases k4 : ka = 4
      · rw [if_pos k4] at h
        by_cases c : lwF kv = 0
        · rw [if_pos c] at h
          by_cases s : hs
          · exact ⟨a, b4, s, fun _ => c, fun w => by omega, fun w => by omega⟩
          · rw [if_neg s] at h; exact absurd h (by decide)
        · rw [if_neg c] at h; exact absurd h c
      · rw [if_neg k4] at h
        by_cases k5 : ka = 5
        · rw [if_pos k5] at h
          by_cases c : lnF kv = 0
          · rw [if_pos c] at h
            by_cases s : hs
            · exact ⟨a, b4, s, fun w => absurd w k4, fun _ => c, fun w => by omega⟩
            · rw [if_neg s] at h; exact absurd h (by decide)
          · rw [if_neg c] at h; exact absurd h c
        · rw [if_neg k5] at h
          by_cases s : hs
          · rw [if_pos s] at h
            exact ⟨a, b4, s, fun w => absurd w k4, fun w => absurd w k5, fun _ => h⟩
          · rw [if_neg s] at h; exact absurd h (by decide)
    · rw [if_neg b] at h; exact absurd h b
  · rw [if_neg a] at h; exact absurd h a
theorem siF_r {ki ka kv : Int} {hs : Prop} [Decidable hs] {lp : Int} (hl : 0 ≤ lp ∧ lp ≤ 7) (h : ¬ siF ki ka kv hs lp = 0) : 1 ≤ siF ki ka kv hs lp ∧ siF ki ka kv hs lp ≤ 7 := by
  have r1 : ∀ k, 0 ≤ lwF k ∧ lwF k ≤ 7 := fun k => by unfold lwF; split <;> (try split) <;> decide
  have r2 : ∀ k, 0 ≤ lnF k ∧ lnF k ≤ 7 := fun k => by unfold lnF; split <;> (try split) <;> (try split) <;> decide
  have r3 : ∀ k, 0 ≤ lrF k ∧ lrF k ≤ 7 := fun k => by unfold lrF; split <;> (try split) <;> decide
  have : 0 ≤ siF ki ka kv hs lp ∧ siF ki ka kv hs lp ≤ 7 := by
    unfold siF
    split
    · split
      · split
        · split
          · split <;> decide
          · exact r1 _
        · split
          · split
            · split <;> decide
            · exact r2 _
          · split
            · exact hl
            · decide
      · exact r3 _
    · exact r1 _
  omega
theorem lpS_r {k s t : Int} : 0 ≤ lpS k s t ∧ lpS k s t ≤ 7 := by
  unfold lpS
  split
  · decide
  · split
    · split
      · split <;> decide
      · decide
    · decide
theorem Sp_ex {fz : Int → Int → Option Int} {d m : Nat} {as : List AV} {h : HV} {P : HV → Prop} (g : Sp fz d m as h (fun x h1 => x = 0 ∧ P h1)) : ∃ h1, P h1 ∧ ∀ Q, Sp fz d m as h Q = Q 0 h1 := by
  obtain ⟨n, r, h1, e, e0, p⟩ := g
  subst e0
  exact ⟨h1, p, fun Q => Sp_is ⟨n, 0, h1, e, rfl, rfl⟩ Q⟩
section VM
variable {K B Br h hr h2 hr2 : HV} {n n2 n0 : Nat} {q E k k2 : Int} {x y : CX} {l L L2 : List FRT} {g : CFG}
/-- all the exp's values are gone -/
theorem VMS.cutE (O : KOK K) (M : VMS K B Br h hr n ((q, x, E, k) :: l)) (hk : 1 ≤ k2 ∧ k2 ≤ 399) : VMS K B Br (cutH h (h 1222 2 - E)) (tpR hr E) n ((q, x, 0, k2) :: l) := by
  have z := M.hs O
  obtain ⟨S, s, A⟩ := M
  have V := S.2.2.1
  have ar := V.ar
  obtain ⟨C, r2, rK, rB, ro⟩ := cut_3 (m := E) V (by omega)
  have R : RCG hr (tpR hr E) := rg_set (.inr ⟨rfl, .inl rfl⟩)
  have to : ∀ o, o ≠ 6603 → tpR hr E o = hr o := fun o w => hs_ne w
  have ts : ∀ s, s ≠ 36 → tpR hr E 6603 s = hr 6603 s := fun s w => hcell w
  have t36 : tpR hr E 6603 36 = hr 6603 36 - E := hcel1
  have c57 := ro 1157 (by decide)
  refine ⟨S.cg C R, s.up rfl (fun s _ _ => by rw [c57]) (fun s a _ _ => ts s a) ?_ ?_ (by rw [c57]; exact s.2.2.2.2.2.1) (by rw [ts 44 (by decide)]; exact s.2.2.2.2.2.2.1), ?_⟩
  · rw [r2, bsF_c]
    show _ = bsF K l + (K 7 q + 2 * lps x + 0)
    omega
  · rw [t36, ftF_c]
    show _ = ftF l + 0
    omega
  · have G : AGR K h (cutH h (h 1222 2 - E)) hr (tpR hr E) ((q, x, 0, k) :: l) := AGR.stk V C R (fun o p r => ro o (by omega)) (fun o p r => to o (by omega)) (fun p p0 p1 => ⟨rK _, rB _⟩) (fun i i0 i1 => by rw [to _ (by decide), to _ (by decide)]; exact ⟨rfl, rfl⟩)
    exact (ALF.ag O (Nat.le_refl n) _ G A.e0).ev ⟨by decide, by decide⟩ hk (fun i a b => by omega)
theorem o_setitem {d : Nat} {v : Int} (N : ENV K h hr) (M : VMS K B Br h hr n ((q, x, 2, k) :: l)) (hv : 0 ≤ v ∧ v < K 7 q) (hk : 1 ≤ k2 ∧ k2 ≤ 399) : OUT K B Br h hr n ((q, x, 2, k) :: l) ((q, x, 0, k2) :: l) (fun Q => Sp fz1 (d + 6) 185 [(3, 1157), (0, h 1440 (h 1157 5) + v)] h Q) (fun Q => Sp fz1 (d + 5) 399 [(3, 6603), (0, K 11 (512 * q + v))] hr (fun _ => Q 0)) := by
  have O := N.1
  have V := M.V
  have F := M.F
  have v1 := M.top1 O (by decide)
  have v0 := M.top0 O (by decide)
  obtain ⟨T, hn⟩ := M.T O (m := 2) ⟨by decide, by decide⟩
  obtain ⟨R, -, rbb, -, rows⟩ := M.1.RW
  have vs := M.slot O hv
  have sl := M.sl0 O hv
  obtain ⟨p25, pc, pp⟩ := N.pp
  have n2' := R.2.1
  unfold NFA at n2'
  have ka := vs.r.1
  generalize eka : kA h (h 1440 (h 1157 5) + v) = ka' at *
  generalize eba : bA h (h 1440 (h 1157 5) + v) = ba at *
  generalize esk : hr 10592 (420 * (hr 6603 41 - 1) + K 11 (512 * q + v)) = sk at *
  generalize esb : hr 10657 (420 * (hr 6603 41 - 1) + K 11 (512 * q + v)) = sb at *
  have hp : tK h 0 = 3 → 0 ≤ tB h 0 ∧ tB h 0 < h 836 4 := fun e => (v0.e3 e).2
  have a := fun Q => s185 (d := d + 1) (Q := Q) V F R eka eba ka (fun w => by have := (vs.e4 w).2.1; omega) pc.2 hp hn (fun e => (v0.e1 e).2) (by omega)
  have eq := siF_eq (ki := tK h 1) (ki' := uK hr 2) (ka := ka') (kv := tK h 0) (kv' := uK hr 1) (hs := 0 ≤ tB h 1 ∧ (0 ≤ ba ∧ ba < h 643 2) ∧ tB h 1 < rwZ h ba) (hs' := 0 ≤ uB hr 2 ∧ uB hr 2 < hr 10336 sb) (lp := lpS (tK h 0) (ka' - 4) (h 928 (tB h 0))) (lp' := lpS (uK hr 1) (ka' - 4) (hr 10016 (uB hr 1))) v1.lw v0.lw v0.ln (fun w1 w4 => by
    have e1 := v1.e1 (lw1 w1)
    have e4 := vs.e4 w4
    have r1 := (rows ba e4.2.1.1 e4.2.1.2).1.1
    rw [e1.1, e4.1, r1]
    exact ⟨fun u => ⟨u.1, u.2.2⟩, fun u => ⟨u.1, e4.2.1, u.2⟩⟩) (fun _ => by
    unfold lpS
    by_cases c0 : tK h 0 = 0
    · rw [if_pos c0, if_pos (v0.i0.mp c0)]
    · rw [if_neg c0, if_neg (fun w => c0 (v0.i0.mpr w))]
      by_cases c3 : tK h 0 = 3
      · have e3 := v0.e3 c3
        rw [if_pos c3, if_pos (v0.i3.mp c3), e3.1, (pp _ e3.2.1 e3.2.2).1]
      · rw [if_neg c3, if_neg (fun w => c3 (v0.i3.mpr w))]) ka.2
  have hka : (sk = ka' ∧ 0 ≤ ka' ∧ ka' < 4) ∨ (sk = 4 ∧ (4 ≤ ka' ∧ ka' ≤ 7) ∧ (0 ≤ sb ∧ sb < 6000) ∧ hr 10272 sb = ka') := by
    by_cases w4 : 4 ≤ ka'
    · have e4 := vs.e4 w4
      exact .inr ⟨vs.i4.mp w4, ⟨w4, ka.2⟩, by omega, by rw [e4.1]; exact e4.2.2⟩
    · refine .inl ⟨?_, ka.1, by omega⟩
      have : ka' = 0 ∨ ka' = 1 ∨ ka' = 2 ∨ ka' = 3 := by omega
      rcases this with u | u | u | u
      · rw [u]; exact vs.i0.mp u
      · rw [u]; exact vs.i1.mp u
      · rw [u]; exact vs.i2.mp u
      · rw [u]; exact vs.i3.mp u
  have hp' : uK hr 1 = 3 → 0 ≤ uB hr 1 ∧ uB hr 1 < 24 := fun e => by
    have e3 := v0.e3 (v0.i3.mpr e)
    omega
  by_cases z : siF (tK h 1) ka' (tK h 0) (0 ≤ tB h 1 ∧ (0 ≤ ba ∧ ba < h 643 2) ∧ tB h 1 < rwZ h ba) (lpS (tK h 0) (ka' - 4) (h 928 (tB h 0))) = 0
  · obtain ⟨q1, q2, q3, q4, q5, q6⟩ := siF_0 z
    have e1 := v1.e1 (lw1 q1)
    have e4 := vs.e4 q2
    obtain ⟨⟨r1, r2⟩, r3, r4⟩ := rows ba e4.2.1.1 e4.2.1.2
    rw [if_pos z] at a
    have b := fun Q => v399a (d := d + 1) (Q := Q) T sl.2.2.2.2.2.2 sl.1 esk esb hka v0.r.2 hp' (by have := R.z e4.2.1.1 e4.2.1.2; rw [e4.1, r1]; omega) (fun w => v0.c2 w) (eq ▸ z)
    have ev : (if ka' = 5 then rlR hr 1 else if uK hr 1 = 0 then -9 else uB hr 1) = siV h ka' := by
      unfold siV
      by_cases k5 : ka' = 5
      · rw [if_pos k5, if_pos k5]
        exact (rl_eq v0 (ln12 (q5 k5))).symm
      · rw [if_neg k5, if_neg k5]
        by_cases c0 : tK h 0 = 0
        · rw [if_pos c0, if_pos (v0.i0.mp c0)]
        · rw [if_neg c0, if_neg (fun w => c0 (v0.i0.mpr w))]
          by_cases k4 : ka' = 4
          · exact (v0.e1 (lw1 (q4 k4))).1
          · have l0 := q6 (by omega)
            unfold lpS at l0
            rw [if_neg c0] at l0
            by_cases c3 : tK h 0 = 3
            · exact (v0.e3 c3).1
            · rw [if_neg c3] at l0; exact absurd l0 (by decide)
    have it : ITK (hr 10272 (ba + rb h)) (h 836 4) (h 928) (siV h ka') := by
      rw [e4.2.2]
      unfold siV
      refine ⟨fun k4 => ?_, fun k5 => ?_, fun k6 => ?_⟩
      · have t0 := lw1 (q4 k4)
        rw [if_neg (by omega), if_neg (by omega)]
        exact (v0.e1 t0).2
      · rw [if_pos k5]; exact rl_can v0
      · rw [if_neg (by omega)]
        by_cases c0 : tK h 0 = 0
        · rw [if_pos c0]; exact .inl rfl
        · rw [if_neg c0]
          have l0 := q6 k6
          unfold lpS at l0
          rw [if_neg c0] at l0
          by_cases c3 : tK h 0 = 3
          · refine .inr ⟨(v0.e3 c3).2, fun k7 => ?_⟩
            rw [if_pos c3, if_pos (by omega)] at l0
            by_cases t2 : h 928 (tB h 0) < 2
            · rw [if_pos t2] at l0; exact absurd l0 (by decide)
            · omega
          · rw [if_neg c3] at l0; exact absurd l0 (by decide)
    have M2 := M.it O e4.2.1 ⟨q3.1, q3.2.2⟩ it
    have M3 := M2.cutE O hk
    have e12 : hset h (h 643 1) (h (h 643 0) ba + tB h 1) (siV h ka') 1222 = h 1222 := hs_ne (by omega)
    rw [e12] at M3
    refine OUT.ok a (fun Q => b (fun _ => Q 0)) ?_ (by rw [cut_ne (by decide), hs_ne (by omega)])
    rw [ev, e1.1, e4.1]
    exact M3
  · rw [if_neg z] at a
    refine OUT.fl (d := d + 2) (siF_r lpS_r z) a (fun Q => ?_) M
    rw [eq] at z ⊢
    exact v399f (d := d + 1) T sl.2.2.2.2.2.2 sl.1 esk esb hka v0.r.2 hp' z
end VM
