/-! THE PURE SIDE, 122: the two machines alike: make a row: printed by wip/tools/gen89zz.py -/
theorem nrH_cg {m m' : HV} {t n o : Int} (e : m 6603 30 = m' 6603 30) (eo : m o = m' o) : nrH m t n o = nrH m' t n o := by
  funext i
  unfold nrH filR
  rw [e]
  by_cases c : o = 10401 ∧ 64 * m' 6603 30 ≤ i ∧ i < 64 * m' 6603 30 + n
  · rw [if_pos c, if_pos c]
  · rw [if_neg c, if_neg c, hset_v, hset_v, hset_v, hset_v, hset_v, hset_v, eo]
theorem nrH_mx {h hr : HV} {t n : Int} : nrH (mixH h hr) t n = mixH h (nrH hr t n) := by
  funext o
  by_cases c : 6603 ≤ o ∧ o < 13056
  · rw [mx_r c.1 c.2]
    exact nrH_cg (by rw [mx_r (by decide) (by decide)]) (mx_r c.1 c.2)
  · rw [nrH_ne (by omega) (by omega) (by omega) (by omega), mx_c c, mx_c c]
theorem nrH_tp {h : HV} {t n : Int} : nrH (tpR h 1) t n = tpR (nrH h t n) 1 := by
  funext o i
  by_cases c : o = 6603
  · subst c
    unfold tpR
    rw [nrH_6603, hcell (show (30 : Int) ≠ 36 by decide), hset_eq, hset_eq, nrH_6603, nrH_6603, if_neg (show ¬ (36 : Int) = 30 by decide)]
    by_cases e : i = 36
    · subst e
      rw [if_neg (by decide), if_pos rfl, if_pos rfl]
    · rw [if_neg e, if_neg e]
  · have e1 : tpR h 1 o = h o := hs_ne c
    have e2 : tpR (nrH h t n) 1 o = nrH h t n o := hs_ne c
    rw [e2]
    exact congrFun (nrH_cg (by unfold tpR; rw [hcell (by decide)]) e1) i
section VM
variable {K B Br h hr h1 h2 hr2 : HV} {n n2 n0 : Nat} {q E k k2 : Int} {x y : CX} {l L L2 : List FRT} {g : CFG}
theorem MK_mx {z v : Int} (S : STA B Br h hr) (M : MK h h1 z v) : MK (mixH h hr) (mixH h1 hr) z v := by
  obtain ⟨R, -, -, -, -⟩ := S.RW
  have n1 := R.1
  have n2 := R.2.1
  obtain ⟨R1, m2, m3, m4, m5, m6, m7, m8, m9, m10, m11, m12⟩ := M
  have o1 := R1.1
  have o2 := R1.2.1
  unfold NFA at n1 n2 o1 o2
  have a6 : mixH h hr 643 = h 643 := mx_c (by decide)
  have b6 : mixH h1 hr 643 = h1 643 := mx_c (by decide)
  have a0 : mixH h hr 0 = h 0 := mx_c (by decide)
  have b0 : mixH h1 hr 0 = h1 0 := mx_c (by decide)
  have as : mixH h hr (h 643 0) = h (h 643 0) := mx_c (by omega)
  have ai : mixH h hr (h 643 1) = h (h 643 1) := mx_c (by omega)
  have bs : mixH h1 hr (h1 643 0) = h1 (h1 643 0) := mx_c (by omega)
  have bi : mixH h1 hr (h1 643 1) = h1 (h1 643 1) := mx_c (by omega)
  have az : rwZ (mixH h hr) = rwZ h := by funext r; unfold rwZ; rw [a6, as]
  have ax : rwI (mixH h hr) = rwI h := by funext r i; unfold rwI; rw [a6, as, ai]
  have bz : rwZ (mixH h1 hr) = rwZ h1 := by funext r; unfold rwZ; rw [b6, bs]
  have bx : rwI (mixH h1 hr) = rwI h1 := by funext r i; unfold rwI; rw [b6, bs, bi]
  have ar : rm (mixH h hr) = rm h := by unfold rm; rw [a6, as, ai]
  have br : rm (mixH h1 hr) = rm h1 := by unfold rm; rw [b6, bs, bi]
  unfold MK
  rw [a6, b6, a0, b0, az, ax, bz, bx, ar, br]
  refine ⟨RW_eq R1 b0 b6 bs bi, m2, m3, m4, m5, m6, fun o p q r s t => ?_, m8, m9, m10, m11, m12⟩
  by_cases c : 6603 ≤ o ∧ o < 13056
  · rw [mx_r c.1 c.2, mx_r c.1 c.2]
  · rw [mx_c c, mx_c c]; exact m7 o p q r s t
theorem VMS.mk {z v t : Int} (O : KOK K) (M : VMS K B Br h hr n L) (MM : MK h h1 z v) (hv : v = if 5 < t then -9 else 0) (ht : 4 ≤ t ∧ t ≤ 7) (hm : h 643 3 < 6000) (hz : 0 ≤ z ∧ z ≤ 64) : VMS K B Br h1 (nrH hr t z) n L ∧ VVh h1 (nrH hr t z) t (h 643 2) 4 (hr 6603 30) := by
  have S := M.1
  have MX := MK_mx S MM
  obtain ⟨R, d, rbb, e30, -⟩ := S.RW
  have r3 := R.2.2.1
  obtain ⟨F, G, V, D⟩ := S
  have ar := V.ar
  have md := V.md
  have n1 := R.1
  have n2 := R.2.1
  have V1 := V.1
  have V2 := V.2.1
  unfold NFA at n1 n2 V1 V2
  have T := MK_two (t := t) D.1 MX hv (by rw [mx_c (a := 643) (by decide)]; exact hm) hz
  rw [nrH_mx] at T
  have D2 : DT (mixH h1 (nrH hr t z)) := DT_mk D T ht hv
  obtain ⟨R1, m2, m3, m4, m5, m6, m7, m8, m9, m10, m11, m12⟩ := MM
  have eb : rb h1 = rb h := by unfold rb; omega
  have oo : ∀ o, 1157 ≤ o → o ≤ 1926 → h1 o = h o := fun o a b => m7 o (by omega) (by omega) (by omega) (by omega) (by omega)
  have s6 : ∀ s, s ≠ 30 → nrH hr t z 6603 s = hr 6603 s := fun s w => by rw [nrH_6603, if_neg w]
  have e12 := oo 1222 (by decide) (by decide)
  have eK : h1 (h 1222 0) = h (h 1222 0) := m7 _ (by omega) (by omega) (by omega) (by omega) (by omega)
  have eB : h1 (h 1222 1) = h (h 1222 1) := m7 _ (by omega) (by omega) (by omega) (by omega) (by omega)
  have e836 : h1 836 = h 836 := m7 _ (by omega) (by omega) (by omega) (by omega) (by omega)
  have S2 : STA B Br h1 (nrH hr t z) := by
    refine ⟨⟨fun o a b c e f u => by rw [m7 o e (by omega) (by omega) (by omega) c]; exact F.1 o a b c e f u, fun s w => by rw [oo 1157 (by decide) (by decide)]; exact F.2.1 s w, by rw [eb]; exact F.2.2.1, by have := F.2.2.2; omega⟩, ⟨fun o a b => by rw [nrH_ne (by omega) (by omega) (by omega) a]; exact G.1 o a b, fun s a b c e f => by rw [s6 s a]; exact G.2 s a b c e f⟩, ?_, D2⟩
    unfold VOK NFA at *
    rw [e12, eK, eB]
    exact ⟨⟨V.1.1, V.1.2.1, V.1.2.2.1, by omega, by omega⟩, ⟨V.2.1.1, V.2.1.2.1, V.2.1.2.2.1, by omega, by omega⟩, V.2.2⟩
  refine ⟨M.dat O S2 (fun k b k' b' w => ?_) (fun o a b _ _ => oo o a b) (fun p => by unfold cK cB; rw [e12, eK, eB]; exact ⟨rfl, rfl⟩) s6 (fun o a b => nrH_ne (by omega) (by omega) (by omega) (by omega)), ?_⟩
  · unfold VVh VV at *
    rw [eb, m2, e836]
    rcases w with w | w | w | w | ⟨w1, w2, w3, w4, w5⟩
    · exact .inl w
    · exact .inr (.inl w)
    · exact .inr (.inr (.inl w))
    · exact .inr (.inr (.inr (.inl w)))
    · refine .inr (.inr (.inr (.inr ⟨w1, w2, w3, by omega, ?_⟩)))
      rw [nrH_t, if_neg (by omega)]
      exact w5
  · refine .inr (.inr (.inr (.inr ⟨ht, rfl, by rw [eb]; omega, by omega, ?_⟩)))
    rw [nrH_t, eb, if_pos (by omega)]
theorem o_make {d : Nat} {s : Int} (O : KOK K) (M : VMS K B Br h hr n ((q, x, E, k) :: l)) (hE : 1 ≤ E) (hs : 0 ≤ s ∧ s ≤ 3) (hk : 1 ≤ k2 ∧ k2 ≤ 399) : OUT K B Br h hr n ((q, x, E, k) :: l) ((q, x, E, k2) :: l) (fun Q => Sp fz1 (d + 6) 212 [(3, 1157), (0, s)] h Q) (fun Q => Sp fz1 (d + 5) 409 [(3, 6603), (0, s + 4)] hr (fun _ => Q 0)) := by
  have V := M.V
  have F := M.F
  have v0 := M.top0 O hE
  obtain ⟨T, hn⟩ := M.T O (m := 1) ⟨by decide, hE⟩
  obtain ⟨R, dd, rbb, e30, -⟩ := M.1.RW
  have r3 := R.2.2.1
  by_cases l0 : lwF (tK h 0) = 0
  · have t0 := lw1 l0
    have b0 := v0.e1 t0
    by_cases hb : 0 ≤ tB h 0 ∧ tB h 0 ≤ 64
    · by_cases hm : h 643 3 < 6000
      · obtain ⟨h2, ⟨h1, MM, e2⟩, a⟩ := Sp_ex (d := d + 6) (m := 212) (as := [(3, 1157), (0, s)]) (h := h) (P := fun h2 => ∃ h1, MK h h1 (tB h 0) (if s < 2 then 0 else -9) ∧ h2 = rpH h1 1 (4 + s) (h 643 2)) (s212a (d := d + 2) V R t0 hs hb hm hn dd (fun h1 MM => ⟨rfl, h1, MM, rfl⟩))
        obtain ⟨M2, vv⟩ := M.mk (t := s + 4) O MM (by by_cases c : s < 2 <;> (first | rw [if_pos c, if_neg (by omega)] | rw [if_neg c, if_pos (by omega)])) (by omega) hm hb
        have M3 := M2.rp1 O hE hk vv
        refine OUT.ok a (fun Q => v409a (d := d + 1) T (v0.i1.mp t0) (by rw [b0.1]; exact hb) (by omega)) ?_ (by
          have o1 := MM.1.1
          have o2 := MM.1.2.1
          rw [e2, rpH_57 M2.V]
          have n1 := R.1
          have n2 := R.2.1
          unfold NFA at n1 n2
          exact MM.2.2.2.2.2.2.1 1157 (by omega) (by omega) (by omega) (by omega) (by omega)) (by rw [nrH_tp, puR_52, nrH_6603, if_neg (by decide)])
        rw [e2, nrH_tp, b0.1, show 4 + s = s + 4 by omega]
        exact M3
      · exact OUT.st (c := -22) (by decide) (fun Q => s212s (d := d + 2) V t0 hb (by omega)) (fun Q => v409s (d := d + 1) T (v0.i1.mp t0) (by rw [b0.1]; exact hb) (by omega)) M
    · exact OUT.fl (f := 5) (d := d + 2) (by decide) (fun Q => s212z (d := d + 2) V F t0 hb) (fun Q => v409z (d := d + 1) T (v0.i1.mp t0) (by rw [b0.1]; exact hb)) M
  · exact OUT.fl (d := d + 2) (lw_r l0) (fun Q => s212f (d := d + 2) V F l0) (fun Q => by rw [v0.lw] at l0 ⊢; exact v409f (d := d + 1) T l0) M
end VM
