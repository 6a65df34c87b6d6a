/-! THE PURE SIDE, 112: the two machines alike: ops on the stack 2: printed by wip/tools/gen89zp.py -/
def ENV (K B Br : HV) : Prop := KOK K ∧ RPp (mixH B Br) ∧ (TC (B 1157 3) ∧ B (B 1157 3) 17 ≤ 2400 ∧ ∀ i, cdT B i = K 0 i) ∧ (B (B 1157 3 + 598) 6 = K 12 0 ∧ ∀ q, 0 ≤ q → q < K 12 0 → B (B 1157 3 + 1238) q = K 9 q ∧ B (B 1157 3 + 1302) q = K 8 q ∧ B (B 1157 3 + 1366) q = K 7 q) ∧
  TR (Br 6603 9) ∧ (∀ r, 0 ≤ r → r < 6000 → Br (Br 6603 9 + 980) r = K 1 r ∧ Br (Br 6603 9 + 1044) r = K 2 r ∧ Br (Br 6603 9 + 1108) r = K 3 r) ∧ (∀ i, 0 ≤ i → i < 3208 → Br (Br 6603 9 + 1236) i = K 4 i) ∧ (∀ t, 0 ≤ t → t < 401 → Br (Br 6603 9 + 1300) t = K 5 t ∧ Br (Br 6603 9 + 1174) t = K 6 t) ∧
  (Br (Br 6603 9 + 84) 6 = K 12 0 ∧ ∀ q, 0 ≤ q → q < K 12 0 → Br (Br 6603 9 + 788) q = K 8 q ∧ Br (Br 6603 9 + 852) q = K 7 q ∧ Br (Br 6603 9 + 916) q = K 10 q) ∧ (B (B 1157 3 + 598) 5 = Br (Br 6603 9 + 84) 5 ∧ 0 ≤ Br (Br 6603 9 + 84) 5 ∧ Br (Br 6603 9 + 84) 5 ≤ 8)
theorem STA.env {K B Br h hr : HV} (S : STA B Br h hr) (N : ENV K B Br) : ENV K h hr := by
  obtain ⟨⟨F, F2, -, -⟩, ⟨G, G2⟩, V, D⟩ := S
  obtain ⟨O, P, ⟨T, c17, cd⟩, ⟨c6, cq⟩, TRr, r1, r2, r3, ⟨r4, r5⟩, r6⟩ := N
  have e3 : h 1157 3 = B 1157 3 := F2 3 (by decide)
  have e9 : hr 6603 9 = Br 6603 9 := G2 9 (by decide) (by decide) (by decide) (by decide) (by decide)
  have t : ∀ a, 0 ≤ a → a ≤ 1462 → h (B 1157 3 + a) = B (B 1157 3 + a) := fun a a0 a1 => by
    rcases T with w | w <;> exact F _ (by omega) (by omega) (by omega) (by omega) (by omega) (by omega)
  have u : ∀ a, 0 ≤ a → a ≤ 1341 → hr (Br 6603 9 + a) = Br (Br 6603 9 + a) := fun a a0 a1 => by
    rcases TRr with w | w <;> exact G _ (by omega) (by omega)
  have t0 := t 0 (by decide) (by decide)
  rw [Int.add_zero] at t0
  have p8 : h 836 = B 836 ∧ h 928 = B 928 ∧ h 992 = B 992 ∧ h 1056 = B 1056 := ⟨F _ (by decide) (by decide) (by decide) (by decide) (by decide) (by decide), F _ (by decide) (by decide) (by decide) (by decide) (by decide) (by decide), F _ (by decide) (by decide) (by decide) (by decide) (by decide) (by decide), F _ (by decide) (by decide) (by decide) (by decide) (by decide) (by decide)⟩
  refine ⟨O, ?_, ⟨by rw [e3]; exact T, by rw [e3, t0]; exact c17, fun i => ?_⟩, ⟨by rw [e3, t _ (by decide) (by decide)]; exact c6, fun q a b => ?_⟩, by rw [e9]; exact TRr, fun r a b => ?_, fun i a b => ?_, fun i a b => ?_, ⟨by rw [e9, u _ (by decide) (by decide)]; exact r4, fun q a b => ?_⟩, by rw [e3, e9, t _ (by decide) (by decide), u _ (by decide) (by decide)]; exact r6⟩
  · unfold RPp at *
    rw [mx_r (a := 6603) (by decide) (by decide), mx_c (a := 836) (by decide), mx_c (a := 928) (by decide), mx_c (a := 992) (by decide), mx_c (a := 1056) (by decide), mx_r (a := 10016) (by decide) (by decide), mx_r (a := 10080) (by decide) (by decide), mx_r (a := 10144) (by decide) (by decide)] at *
    rw [p8.1, p8.2.1, p8.2.2.1, p8.2.2.2, G2 25 (by decide) (by decide) (by decide) (by decide) (by decide), G 10016 (by decide) (by decide), G 10080 (by decide) (by decide), G 10144 (by decide) (by decide)]
    exact P
  · have := cd i
    unfold cdT at *
    rw [e3, t0, t _ (by decide) (by decide)]
    exact this
  · rw [e3, t _ (by decide) (by decide), t _ (by decide) (by decide), t _ (by decide) (by decide)]
    exact cq q a b
  · rw [e9, u _ (by decide) (by decide), u _ (by decide) (by decide), u _ (by decide) (by decide)]
    exact r1 r a b
  · rw [e9, u _ (by decide) (by decide)]
    exact r2 i a b
  · rw [e9, u _ (by decide) (by decide), u _ (by decide) (by decide)]
    exact r3 i a b
  · rw [e9, u _ (by decide) (by decide), u _ (by decide) (by decide), u _ (by decide) (by decide)]
    exact r5 q a b
theorem ENV.pp {K h hr : HV} (N : ENV K h hr) : hr 6603 25 = h 836 4 ∧ (0 ≤ h 836 4 ∧ h 836 4 ≤ 24) ∧ ∀ p, 0 ≤ p → p < h 836 4 → hr 10016 p = h 928 p ∧ hr 10080 p = h 992 p ∧ 0 ≤ h 928 p ∧ h 928 p ≤ 4 := by
  have P := N.2.1
  unfold RPp at P
  rw [mx_r (a := 6603) (by decide) (by decide), mx_c (a := 836) (by decide), mx_c (a := 928) (by decide), mx_c (a := 992) (by decide), mx_c (a := 1056) (by decide), mx_r (a := 10016) (by decide) (by decide), mx_r (a := 10080) (by decide) (by decide), mx_r (a := 10144) (by decide) (by decide)] at P
  exact ⟨P.1, P.2.1, fun p a b => ⟨(P.2.2 p a b).1, (P.2.2 p a b).2.1, (P.2.2 p a b).2.2.2⟩⟩
theorem STA.mk {B Br h hr : HV} (S : STA B Br h hr) {p c : Int} (hp : 0 ≤ p ∧ p < h 836 4) (hc : 0 ≤ c ∧ c < 8) : (h 1120 (8 * p + c) = -1 ∧ hr 10208 (8 * p + c) = -9) ∨ (h 928 p = 0 ∧ (0 ≤ h 1120 (8 * p + c) ∧ h 1120 (8 * p + c) < h 643 2) ∧ hr 10208 (8 * p + c) = h 1120 (8 * p + c) + rb h ∧ hr 10272 (h 1120 (8 * p + c) + rb h) = 4) := by
  have M := S.2.2.2.2.2.1
  unfold RMk at M
  have eb : rb (mixH h hr) = rb h := by unfold rb; rw [mx_c (by decide)]
  rw [eb, mx_c (a := 836) (by decide), mx_c (a := 928) (by decide), mx_c (a := 1120) (by decide), mx_c (a := 643) (by decide), mx_r (a := 10208) (by decide) (by decide), mx_r (a := 10272) (by decide) (by decide)] at M
  exact M p hp.1 hp.2 c hc.1 hc.2
theorem lvF_I {k t w : Int} (ht : 0 ≤ t ∧ t < 4) (hk : 0 ≤ k ∧ k ≤ 4) : I32 (lvF k t w) := by
  unfold lvF I32
  repeat' split
  all_goals omega
theorem d2i_I {b : Int} : I32 (FP.d2i (d_U b)).toInt := ⟨Int32.le_toInt _, by have := Int32.toInt_lt (FP.d2i (d_U b)); omega⟩
theorem ng_can {b : Int} (c : CANR b) : CANR (ng b) := by
  by_cases na : 9218868437227405312 < mg b
  · rw [ng_nan na]; exact ⟨by decide, .inl rfl⟩
  · exact ⟨ng_L b, .inr (neN (ng_L b) (by rw [ng_mg na]; exact na))⟩
section VM
variable {K B Br h hr : HV} {n : Nat} {q E k k2 : Int} {x : CX} {l : List FRT}
theorem VMS.rp2 (O : KOK K) (M : VMS K B Br h hr n ((q, x, E, k) :: l)) (hE : 2 ≤ E) (hk : 1 ≤ k2 ∧ k2 ≤ 399) {kc bc kr br : Int} (v : VVh h hr kc bc kr br) : VMS K B Br (rpH h 2 kc bc) (puR (tpR hr 2) kr br) n ((q, x, E - 1, k2) :: l) := by
  have h36 := (M.hs O).2.1
  have := VMS.rp (m := 2) (k2 := k2) O M ⟨by decide, hE⟩ (by omega) hk v
  rw [show E - 1 = E - 2 + 1 by omega]
  exact this
theorem VMS.rp1 (O : KOK K) (M : VMS K B Br h hr n ((q, x, E, k) :: l)) (hE : 1 ≤ E) (hk : 1 ≤ k2 ∧ k2 ≤ 399) {kc bc kr br : Int} (v : VVh h hr kc bc kr br) : VMS K B Br (rpH h 1 kc bc) (puR (tpR hr 1) kr br) n ((q, x, E, k2) :: l) := by
  have h36 := (M.hs O).2.1
  have := VMS.rp (m := 1) (k2 := k2) O M ⟨by decide, hE⟩ (by omega) hk v
  rw [show E - 1 + 1 = E by omega] at this
  exact this
theorem VMS.rp0 (O : KOK K) (M : VMS K B Br h hr n ((q, x, E, k) :: l)) (hE : E + 1 ≤ 36) (hk : 1 ≤ k2 ∧ k2 ≤ 399) {kc bc kr br : Int} (v : VVh h hr kc bc kr br) : VMS K B Br (pshH h kc bc) (puR hr kr br) n ((q, x, E + 1, k2) :: l) := by
  have h36 := (M.hs O).2.1
  have := VMS.rp (m := 0) (k2 := k2) O M ⟨by decide, h36.1⟩ (by omega) hk v
  rw [Int.sub_zero, ← psh_rp, ← pu_rp] at this
  exact this
theorem VMS.rk (M : VMS K B Br h hr n ((q, x, E, k) :: l)) (hk : 1 ≤ k2 ∧ k2 ≤ 399) : VMS K B Br h hr n ((q, x, E, k2) :: l) := by
  obtain ⟨S, s, A⟩ := M
  exact ⟨S, s, A.ev A.1.2.2.1 hk A.1.2.2.2.2.2.2.2.1⟩
theorem o_comp {d : Nat} {o c : Int} (O : KOK K) (M : VMS K B Br h hr n ((q, x, E, k) :: l)) (hE : 2 ≤ E) (ho : cmO o c) (hk : 1 ≤ k2 ∧ k2 ≤ 399) : OUT K B Br h hr n ((q, x, E, k) :: l) ((q, x, E - 1, k2) :: l) (fun Q => Sp fz1 (d + 6) 206 [(3, 1157), (0, o)] h Q) (fun Q => Sp fz1 (d + 5) 403 [(3, 6603), (0, c)] hr (fun _ => Q 0)) := by
  have V := M.V
  have F := M.F
  have v1 := M.top1 O hE
  have v0 := M.top0 O (by omega)
  obtain ⟨T, hn⟩ := M.T O (m := 2) ⟨by decide, hE⟩
  have op : o = 0 ∨ o = 1 ∨ o = 2 := by
    rcases ho with e | e | e
    · exact .inl e.1
    · exact .inr (.inl e.1)
    · exact .inr (.inr e.1)
  have one : ∀ c : Prop, [Decidable c] → I32 (if c then 1 else 0) := fun c _ => by split <;> (unfold I32; decide)
  by_cases l1 : lnF (tK h 1) = 0
  · by_cases l0 : lnF (tK h 0) = 0
    · have n1 := ln12 l1
      have n0 := ln12 l0
      have u1 := v0.n12 n0
      have u2 := v1.n12 n1
      by_cases rr : tK h 1 = 2 ∨ tK h 0 = 2
      · have r1 := rl_eq v1 n1
        have r0 := rl_eq v0 n0
        have c1 := rl_can v1
        have c0 := rl_can v0
        have kr : uK hr 2 = 2 ∨ uK hr 1 = 2 := rr.imp v1.i2.mp v0.i2.mp
        have a : ∀ Q, Sp fz1 (d + 6) 206 [(3, 1157), (0, o)] h Q = Q 0 (rpH h 2 1 (cmR o (rlA h 1) (rlA h 0))) := fun Q => s206r (d := d + 1) V op n1 n0 rr (fun e => (v1.e1 e).2) (fun e => (v0.e1 e).2) c1.1 c0.1 hn
        have b : ∀ Q, Sp fz1 (d + 5) 403 [(3, 6603), (0, c)] hr Q = Q 0 (puR (tpR hr 2) 1 (cmR o (rlR hr 2) (rlR hr 1))) := fun Q => by
          rcases ho with ⟨e, e2⟩ | ⟨e, e2⟩ | ⟨e, e2⟩
          · rw [e, e2]; exact v403cr0 (d := d + 1) T u1 u2 kr v0.c2 v1.c2
          · rw [e, e2]; exact v403cr1 (d := d + 1) T u1 u2 kr v0.c2 v1.c2
          · rw [e, e2]; exact v403cr2 (d := d + 1) T u1 u2 kr v0.c2 v1.c2
        refine OUT.ok a (fun Q => b (fun _ => Q 0)) ?_
        have g : I32 (cmR o (rlA h 1) (rlA h 0)) := by
          unfold cmR ltR eqR
          split
          · exact one _
          split
          · exact one _
          · exact one _
        rw [← r1, ← r0]
        exact M.rp2 O hE hk (vv_1 g)
      · have t1 : tK h 1 = 1 := n1.resolve_right (fun w => rr (.inl w))
        have t0 : tK h 0 = 1 := n0.resolve_right (fun w => rr (.inr w))
        have b1 := v1.e1 t1
        have b0 := v0.e1 t0
        refine OUT.ok (h1 := rpH h 2 1 (cmV o (tB h 1) (tB h 0))) (hr1 := puR (tpR hr 2) 1 (cmV o (uB hr 2) (uB hr 1))) (fun Q => s206w (d := d + 2) V op t1 t0 hn) (fun Q => v403c (d := d + 1) T (v0.i1.mp t0) (v1.i1.mp t1) ho) ?_
        rw [b0.1, b1.1]
        refine M.rp2 O hE hk (vv_1 ?_)
        unfold cmV
        split
        · exact one _
        split
        · exact one _
        · exact one _
    · exact OUT.fl (d := d + 2) (ln_r l0) (fun Q => s206f (d := d + 2) V F (by rw [if_pos l1]) l0) (fun Q => v403f (d := d + 1) T v0.r.2.1 v1.r.2.1 (by rw [← v1.ln, if_pos l1, v0.ln]) l0) M
  · exact OUT.fl (d := d + 2) (ln_r l1) (fun Q => s206f (d := d + 2) V F (by rw [if_neg l1]) l1) (fun Q => v403f (d := d + 1) T v0.r.2.1 v1.r.2.1 (by rw [← v1.ln, if_neg l1]) l1) M
theorem o_neg {d : Nat} (O : KOK K) (M : VMS K B Br h hr n ((q, x, E, k) :: l)) (hE : 1 ≤ E) (hk : 1 ≤ k2 ∧ k2 ≤ 399) : OUT K B Br h hr n ((q, x, E, k) :: l) ((q, x, E, k2) :: l) (fun Q => Sp fz1 (d + 6) 210 [(3, 1157)] h Q) (fun Q => Sp fz1 (d + 5) 406 [(3, 6603)] hr (fun _ => Q 0)) := by
  have V := M.V
  have F := M.F
  have v0 := M.top0 O hE
  obtain ⟨T, hn⟩ := M.T O (m := 1) ⟨by decide, hE⟩
  by_cases l0 : lnF (tK h 0) = 0
  · rcases ln12 l0 with t0 | t0
    · have b0 := v0.e1 t0
      have t0' := v0.i1.mp t0
      by_cases hb : tB h 0 = -2147483648
      · exact OUT.fl (f := 7) (d := d + 2) (by decide) (fun Q => s210x (d := d + 2) V F t0 hb) (fun Q => v406x (d := d + 1) T t0' (by rw [b0.1]; exact hb)) M
      · refine OUT.ok (h1 := rpH h 1 1 (-(tB h 0))) (hr1 := hset hr 10529 (hr 6603 36 - 1) (-(uB hr 1))) (fun Q => s210w (d := d + 2) V t0 b0.2 hb hn) (fun Q => v406w (d := d + 1) T t0' (by rw [b0.1]; exact b0.2) (by rw [b0.1]; exact hb)) ?_
        rw [in_val, t0', b0.1]
        refine M.rp1 O hE hk (vv_1 ?_)
        have := b0.2
        unfold I32 at *
        omega
    · have b0 := v0.e2 t0
      have t0' := v0.i2.mp t0
      have C' : CANR (uB hr 1) := by rw [b0.1]; exact b0.2
      have bq : ∀ Q, Sp fz1 (d + 5) 406 [(3, 6603)] hr Q = Q 0 (hset hr 10529 (hr 6603 36 - 1) (ng (uB hr 1))) := fun Q => by
        by_cases na : 9218868437227405312 < mg (uB hr 1)
        · have e : ng (uB hr 1) = uB hr 1 := by
            rw [ng_nan na]
            exact (C'.n.resolve_right (fun w => w na)).symm
          rw [e]
          exact v406rn (d := d + 1) T t0' C' na
        · exact v406ra (d := d + 1) T t0' C' na
      refine OUT.ok (fun Q => s210r (d := d + 2) V t0 b0.2.1 hn) (fun Q => bq (fun _ => Q 0)) ?_
      rw [in_val, t0', b0.1]
      exact M.rp1 O hE hk (vv_2 (ng_can b0.2))
  · exact OUT.fl (d := d + 2) (ln_r l0) (fun Q => s210f (d := d + 2) V F l0) (fun Q => by rw [v0.ln] at l0 ⊢; exact v406f (d := d + 1) T v0.r.2.1 l0) M
theorem o_size {d : Nat} (O : KOK K) (M : VMS K B Br h hr n ((q, x, E, k) :: l)) (hE : 1 ≤ E) (hk : 1 ≤ k2 ∧ k2 ≤ 399) : OUT K B Br h hr n ((q, x, E, k) :: l) ((q, x, E, k2) :: l) (fun Q => Sp fz1 (d + 6) 224 [(3, 1157)] h Q) (fun Q => Sp fz1 (d + 5) 410 [(3, 6603), (0, 12)] hr (fun _ => Q 0)) := by
  have V := M.V
  have F := M.F
  have v0 := M.top0 O hE
  obtain ⟨T, hn⟩ := M.T O (m := 1) ⟨by decide, hE⟩
  obtain ⟨R, -, rb0, -, rows⟩ := M.1.RW
  by_cases l0 : lrF (tK h 0) = 0
  · have t4 := lr4 l0
    obtain ⟨b1, b2, b3⟩ := v0.e4 t4
    have rw_ := rows (tB h 0) b2.1 b2.2
    have z := R.z b2.1 b2.2
    refine OUT.ok (h1 := rpH h 1 1 (rwZ h (tB h 0))) (hr1 := inR hr 1 (hr 10336 (uB hr 1))) (fun Q => s224a (d := d + 2) V R l0 b2 hn) (fun Q => v412a (d := d + 1) T (v0.i4.mp t4) (by omega)) ?_
    rw [in_pu, b1, rw_.1.1]
    refine M.rp1 O hE hk (vv_1 ?_)
    unfold I32
    omega
  · exact OUT.fl (d := d + 2) (lr_r l0) (fun Q => s224f (d := d + 2) V F l0) (fun Q => by rw [v0.lr] at l0 ⊢; exact v412f (d := d + 1) T v0.r.2 l0) M
theorem o_whole {d : Nat} (O : KOK K) (M : VMS K B Br h hr n ((q, x, E, k) :: l)) (hE : 1 ≤ E) (hk : 1 ≤ k2 ∧ k2 ≤ 399) : OUT K B Br h hr n ((q, x, E, k) :: l) ((q, x, E, k2) :: l) (fun Q => Sp fz1 (d + 6) 225 [(3, 1157)] h Q) (fun Q => Sp fz1 (d + 5) 410 [(3, 6603), (0, 13)] hr (fun _ => Q 0)) := by
  have V := M.V
  have F := M.F
  have v0 := M.top0 O hE
  obtain ⟨T, hn⟩ := M.T O (m := 1) ⟨by decide, hE⟩
  by_cases l0 : lnF (tK h 0) = 0
  · rcases ln12 l0 with t0 | t0
    · exact OUT.ok (fun Q => s225w (d := d + 2) V t0) (fun Q => v413w (d := d + 1) T (v0.i1.mp t0)) (M.rk hk)
    · have b0 := v0.e2 t0
      refine OUT.ok (h1 := rpH h 1 1 (FP.d2i (d_U (tB h 0))).toInt) (hr1 := inR hr 1 (FP.d2i (d_U (uB hr 1))).toInt) (fun Q => s225r (d := d + 2) V t0 b0.2.1 hn) (fun Q => v413r (d := d + 1) T (v0.i2.mp t0) (by rw [b0.1]; exact b0.2)) ?_
      rw [in_pu, b0.1]
      exact M.rp1 O hE hk (vv_1 d2i_I)
  · exact OUT.fl (d := d + 2) (ln_r l0) (fun Q => s225f (d := d + 2) V F l0) (fun Q => by rw [v0.ln] at l0 ⊢; exact v413f (d := d + 1) T v0.r.2.1 l0) M
theorem o_real {d : Nat} (O : KOK K) (M : VMS K B Br h hr n ((q, x, E, k) :: l)) (hE : 1 ≤ E) (hk : 1 ≤ k2 ∧ k2 ≤ 399) : OUT K B Br h hr n ((q, x, E, k) :: l) ((q, x, E, k2) :: l) (fun Q => Sp fz1 (d + 6) 227 [(3, 1157)] h Q) (fun Q => Sp fz1 (d + 5) 410 [(3, 6603), (0, 14)] hr (fun _ => Q 0)) := by
  have V := M.V
  have F := M.F
  have v0 := M.top0 O hE
  obtain ⟨T, hn⟩ := M.T O (m := 1) ⟨by decide, hE⟩
  by_cases l0 : lnF (tK h 0) = 0
  · have n0 := ln12 l0
    have a : ∀ Q, Sp fz1 (d + 6) 227 [(3, 1157)] h Q = Q 0 (rpH h 1 2 (rlA h 0)) := fun Q => s227a (d := d + 2) V n0 (fun e => (v0.e1 e).2) hn
    have r0 := rl_eq v0 n0
    have c0 := rl_can v0
    rcases n0 with t0 | t0
    · refine OUT.ok a (fun Q => v414w (d := d + 1) T (v0.i1.mp t0)) ?_
      rw [in_pu, ← r0]
      exact M.rp1 O hE hk (vv_2 c0)
    · refine OUT.ok a (fun Q => v414r (d := d + 1) T (v0.i2.mp t0)) ?_
      have e : rlR hr 1 = uB hr 1 := by unfold rlR; rw [if_pos (v0.i2.mp t0)]
      rw [show VMS K B Br (rpH h 1 2 (rlA h 0)) hr n ((q, x, E, k2) :: l) = VMS K B Br (rpH h 1 2 (rlA h 0)) (puR (tpR hr 1) (uK hr 1) (uB hr 1)) n ((q, x, E, k2) :: l) by rw [in_same], v0.i2.mp t0, ← e, ← r0]
      exact M.rp1 O hE hk (vv_2 c0)
  · exact OUT.fl (d := d + 2) (ln_r l0) (fun Q => s227f (d := d + 2) V F l0) (fun Q => by rw [v0.ln] at l0 ⊢; exact v414f (d := d + 1) T v0.r.2.1 l0) M
theorem o_person {d : Nat} (N : ENV K h hr) (M : VMS K B Br h hr n ((q, x, E, k) :: l)) (hE : 1 ≤ E) (hk : 1 ≤ k2 ∧ k2 ≤ 399) : OUT K B Br h hr n ((q, x, E, k) :: l) ((q, x, E, k2) :: l) (fun Q => Sp fz1 (d + 6) 228 [(3, 1157)] h Q) (fun Q => Sp fz1 (d + 5) 410 [(3, 6603), (0, 16)] hr (fun _ => Q 0)) := by
  have O := N.1
  have V := M.V
  have F := M.F
  have v0 := M.top0 O hE
  obtain ⟨T, hn⟩ := M.T O (m := 1) ⟨by decide, hE⟩
  obtain ⟨p25, pc, -⟩ := N.pp
  by_cases l0 : lwF (tK h 0) = 0
  · have t0 := lw1 l0
    have b0 := v0.e1 t0
    by_cases hx : 0 ≤ tB h 0 ∧ tB h 0 < h 836 4
    · refine OUT.ok (h1 := rpH h 1 3 (tB h 0)) (hr1 := hset hr 10464 (hr 6603 36 - 1) 3) (fun Q => s228a (d := d + 2) V t0 hx hn) (fun Q => v416a (d := d + 1) T (v0.i1.mp t0) (by rw [b0.1, p25]; exact hx)) ?_
      rw [in_knd, b0.1]
      exact M.rp1 O hE hk (vv_3 hx)
    · exact OUT.fl (f := 2) (d := d + 2) (by decide) (fun Q => s228x (d := d + 2) V F t0 hx) (fun Q => v416x (d := d + 1) T (v0.i1.mp t0) (by rw [b0.1, p25]; exact hx)) M
  · exact OUT.fl (d := d + 2) (lw_r l0) (fun Q => s228f (d := d + 2) V F l0) (fun Q => by rw [v0.lw] at l0 ⊢; exact v416f (d := d + 1) T l0) M
theorem o_level {d : Nat} (N : ENV K h hr) (M : VMS K B Br h hr n ((q, x, E, k) :: l)) (hE : 2 ≤ E) (hk : 1 ≤ k2 ∧ k2 ≤ 399) : OUT K B Br h hr n ((q, x, E, k) :: l) ((q, x, E - 1, k2) :: l) (fun Q => Sp fz1 (d + 6) 229 [(3, 1157)] h Q) (fun Q => Sp fz1 (d + 5) 410 [(3, 6603), (0, 17)] hr (fun _ => Q 0)) := by
  have O := N.1
  have V := M.V
  have F := M.F
  have v1 := M.top1 O hE
  have v0 := M.top0 O (by omega)
  obtain ⟨T, hn⟩ := M.T O (m := 2) ⟨by decide, hE⟩
  obtain ⟨p25, pc, pp⟩ := N.pp
  by_cases l0 : lwF (tK h 0) = 0
  · by_cases l1 : lpF (tK h 1) = 0
    · have t0 := lw1 l0
      have t1 := lpk3 l1
      have b0 := v0.e1 t0
      have b1 := v1.e3 t1
      by_cases hx : 0 ≤ tB h 0 ∧ tB h 0 < 4
      · obtain ⟨p1, p2, p3⟩ := pp _ b1.2.1 b1.2.2
        refine OUT.ok (h1 := rpH h 2 1 (lvF (h 928 (tB h 1)) (tB h 0) (h 992 (tB h 1)))) (hr1 := puR (tpR hr 2) 1 (lvF (hr 10016 (uB hr 2)) (uB hr 1) (hr 10080 (uB hr 2)))) (fun Q => s229a (d := d + 2) V t0 t1 hx pc.2 b1.2 p3 hn) (fun Q => v417a (d := d + 1) T (v0.i1.mp t0) (v1.i3.mp t1) (by rw [b0.1]; exact hx) (by rw [b1.1]; omega) (by rw [b1.1, p1]; exact p3)) ?_
        rw [b0.1, b1.1, p1, p2]
        refine M.rp2 O hE hk (vv_1 ?_)
        exact lvF_I hx p3
      · exact OUT.fl (f := 2) (d := d + 2) (by decide) (fun Q => s229x (d := d + 2) V F t0 t1 b0.2 hx) (fun Q => v417x (d := d + 1) T (v0.i1.mp t0) (v1.i3.mp t1) (by rw [b0.1]; exact hx)) M
    · exact OUT.fl (d := d + 2) (lp_r l1) (fun Q => s229f (d := d + 2) V F (by rw [if_pos l0]) l1) (fun Q => v417f (d := d + 1) T (by rw [← v0.lw, if_pos l0, v1.lp]) l1) M
  · exact OUT.fl (d := d + 2) (lw_r l0) (fun Q => s229f (d := d + 2) V F (by rw [if_neg l0]) l0) (fun Q => v417f (d := d + 1) T (by rw [← v0.lw, if_neg l0]) l0) M
theorem o_marks {d : Nat} (N : ENV K h hr) (M : VMS K B Br h hr n ((q, x, E, k) :: l)) (hE : 2 ≤ E) (hk : 1 ≤ k2 ∧ k2 ≤ 399) : OUT K B Br h hr n ((q, x, E, k) :: l) ((q, x, E - 1, k2) :: l) (fun Q => Sp fz1 (d + 6) 230 [(3, 1157)] h Q) (fun Q => Sp fz1 (d + 5) 410 [(3, 6603), (0, 18)] hr (fun _ => Q 0)) := by
  have O := N.1
  have V := M.V
  have F := M.F
  have v1 := M.top1 O hE
  have v0 := M.top0 O (by omega)
  obtain ⟨T, hn⟩ := M.T O (m := 2) ⟨by decide, hE⟩
  obtain ⟨p25, pc, pp⟩ := N.pp
  obtain ⟨-, -, ⟨hT, -, -⟩, -, hS, -, -, -, -, ⟨c5, c50, c58⟩⟩ := N
  obtain ⟨-, -, rb0, -, -⟩ := M.1.RW
  by_cases l1 : lwF (tK h 1) = 0
  · by_cases l0 : lwF (tK h 0) = 0
    · have t0 := lw1 l0
      have t1 := lw1 l1
      have b0 := v0.e1 t0
      have b1 := v1.e1 t1
      by_cases hx : (0 ≤ tB h 1 ∧ tB h 1 < h 836 4 ∧ h 928 (tB h 1) = 0) ∧ 0 ≤ tB h 0 ∧ tB h 0 < h (h 1157 3 + 598) 5
      · obtain ⟨p1, -, -⟩ := pp _ hx.1.1 hx.1.2.1
        have h8 : tB h 0 < 8 := by omega
        have mm := M.1.mk ⟨hx.1.1, hx.1.2.1⟩ ⟨hx.2.1, h8⟩
        have e8 : tB h 1 * 8 + tB h 0 = 8 * tB h 1 + tB h 0 := by omega
        refine OUT.ok (h1 := rpH h 2 (if h 1120 (8 * tB h 1 + tB h 0) < 0 then 0 else 4) (if h 1120 (8 * tB h 1 + tB h 0) < 0 then 0 else h 1120 (8 * tB h 1 + tB h 0))) (hr1 := puR (tpR hr 2) (if hr 10208 (8 * tB h 1 + tB h 0) = -9 then 0 else 4) (if hr 10208 (8 * tB h 1 + tB h 0) = -9 then 0 else hr 10208 (8 * tB h 1 + tB h 0))) (fun Q => s230a (d := d + 2) V t0 t1 pc.2 hT hx h8 hn (by rw [e8]) (by omega)) (fun Q => v418a (d := d + 1) T hS (by omega) (v0.i1.mp t0) (v1.i1.mp t1) (by rw [b0.1, b1.1, p25, p1, ← c5]; exact hx) (by rw [b0.1]; exact h8) (by rw [b0.1, b1.1])) ?_
        refine M.rp2 O hE hk ?_
        rcases mm with ⟨m1, m2⟩ | ⟨-, m1, m2, m3⟩
        · rw [m1, m2, if_pos (show (-1 : Int) < 0 by decide), if_pos (show (-1 : Int) < 0 by decide), if_pos (show (-9 : Int) = -9 from rfl), if_pos (show (-9 : Int) = -9 from rfl)]
          exact vv_0
        · rw [m2, if_neg (by omega), if_neg (by omega), if_neg (by omega), if_neg (by omega)]
          exact .inr (.inr (.inr (.inr ⟨by decide, rfl, rfl, m1, m3⟩)))
      · refine OUT.fl (f := 2) (d := d + 2) (by decide) (fun Q => s230x (d := d + 2) V F t0 t1 b0.2 b1.2 pc.2 hT hx) (fun Q => v418x (d := d + 1) T hS (by omega) (v0.i1.mp t0) (v1.i1.mp t1) (fun w => hx ?_)) M
        rw [b0.1, b1.1, p25, ← c5] at w
        have := (pp _ w.1.1 w.1.2.1).1
        rw [this] at w
        exact w
    · exact OUT.fl (d := d + 2) (lw_r l0) (fun Q => s230f (d := d + 2) V F (by rw [if_pos l1]) l0) (fun Q => v418f (d := d + 1) T (by rw [← v1.lw, if_pos l1, v0.lw]) l0) M
  · exact OUT.fl (d := d + 2) (lw_r l1) (fun Q => s230f (d := d + 2) V F (by rw [if_neg l1]) l1) (fun Q => v418f (d := d + 1) T (by rw [← v1.lw, if_neg l1]) l1) M
theorem o_item {d : Nat} (O : KOK K) (M : VMS K B Br h hr n ((q, x, E, k) :: l)) (hE : 2 ≤ E) (hk : 1 ≤ k2 ∧ k2 ≤ 399) : OUT K B Br h hr n ((q, x, E, k) :: l) ((q, x, E - 1, k2) :: l) (fun Q => Sp fz1 (d + 6) 211 [(3, 1157)] h Q) (fun Q => Sp fz1 (d + 5) 407 [(3, 6603)] hr (fun _ => Q 0)) := by
  have V := M.V
  have F := M.F
  have v1 := M.top1 O hE
  have v0 := M.top0 O (by omega)
  obtain ⟨T, hn⟩ := M.T O (m := 2) ⟨by decide, hE⟩
  obtain ⟨R, -, rb0, -, rows⟩ := M.1.RW
  by_cases l0 : lwF (tK h 0) = 0
  · by_cases l1 : lrF (tK h 1) = 0
    · have t0 := lw1 l0
      have t4 := lr4 l1
      have b0 := v0.e1 t0
      obtain ⟨b1, b2, b3⟩ := v1.e4 t4
      obtain ⟨⟨r1, r2⟩, r3, r4⟩ := rows (tB h 1) b2.1 b2.2
      have z := R.z b2.1 b2.2
      have t7 := v1.r.1.2
      by_cases hx : 0 ≤ tB h 0 ∧ (0 ≤ tB h 1 ∧ tB h 1 < h 643 2) ∧ tB h 0 < rwZ h (tB h 1)
      · have it := r4 (tB h 0) hx.1 hx.2.2
        have ev := r2 (tB h 0) hx.1 hx.2.2
        rw [b3] at it
        refine OUT.ok (h1 := rpH h 2 (if tK h 1 = 4 then 1 else if tK h 1 = 5 then 2 else if rwI h (tB h 1) (tB h 0) = -9 then 0 else 3) (rwI h (tB h 1) (tB h 0))) (hr1 := puR (tpR hr 2) (pk hr (uB hr 2) (uB hr 1)) (pv hr (uB hr 2) (uB hr 1))) (fun Q => s211a (d := d + 2) V R t0 ⟨t4, t7⟩ hn (by omega) (by omega) hx) (fun Q => v407a (d := d + 1) T (v0.i1.mp t0) (v1.i4.mp t4) (by omega) (by rw [b0.1, b1, r1]; exact ⟨hx.1, hx.2.2⟩) (by rw [b1, r1]; omega)) ?_
        refine M.rp2 O hE hk ?_
        unfold pk pv
        rw [b0.1, b1, b3, ev]
        unfold ITK at it
        by_cases k4 : tK h 1 = 4
        · rw [if_pos k4, if_neg (by omega)]
          exact vv_1 (it.1 k4)
        · rw [if_neg k4]
          by_cases k5 : tK h 1 = 5
          · rw [if_pos k5, if_neg (by omega)]
            exact vv_2 (it.2.1 k5)
          · rw [if_neg k5]
            by_cases k9 : rwI h (tB h 1) (tB h 0) = -9
            · rw [if_pos k9, if_pos ⟨by omega, k9⟩]
              exact vv_0
            · rw [if_neg k9, if_neg (fun w => k9 w.2)]
              exact vv_3 ((it.2.2 (by omega)).resolve_left k9).1
      · exact OUT.fl (f := 2) (d := d + 2) (by decide) (fun Q => s211i (d := d + 2) V F R t0 l1 (by omega) hx) (fun Q => v407x (d := d + 1) T (v0.i1.mp t0) (v1.i4.mp t4) (by omega) (by rw [b0.1, b1, r1]; exact fun w => hx ⟨w.1, b2, w.2⟩)) M
    · exact OUT.fl (d := d + 2) (lr_r l1) (fun Q => s211f (d := d + 2) V F (by rw [if_pos l0]) l1) (fun Q => v407f (d := d + 1) T v1.r.2 (by rw [← v0.lw, if_pos l0, v1.lr]) l1) M
  · exact OUT.fl (d := d + 2) (lw_r l0) (fun Q => s211f (d := d + 2) V F (by rw [if_neg l0]) l0) (fun Q => v407f (d := d + 1) T v1.r.2 (by rw [← v0.lw, if_neg l0]) l0) M
end VM
