/-! THE PURE SIDE, 83: the operations keep the relation: printed by wip/tools/gen89m.py -/
theorem uf_rfl (h : HV) : UF h h := ⟨fun _ _ => rfl, rfl, rfl, rfl, rfl, rfl, rfl, rfl⟩
theorem st_person {d : Nat} {h : HV} {p w : Int} (R : RB h) : Sp fz1 (d + 2) 142 [(3, 64), (0, p), (0, w)] h (fun x h1 => h1 50 = h 50 ∧ Sp fz1 (d + 2) 371 [(3, 6603), (0, p), (0, w)] h1 (fun y h2 => x = y ∧ RB h2 ∧ UF h h2 ∧ h2 50 = h 50)) := by
  have RR := R
  obtain ⟨RX, RG, RU, RL, RM, RTP, RP, RB, RW, RA, RT, RI, RV, RAB, RSD, RCH, RPC, RRW, RMK, RGV, RMI, RVL, RRM, RIT⟩ := R
  exact (op_person RP).imp fun x h1 ⟨s, H⟩ => ⟨s, H.imp fun y h2 ⟨q, w⟩ => by
    subst w
    exact ⟨q, RR, uf_rfl _, rfl⟩⟩
theorem st_level {d : Nat} {h : HV} {p t : Int} (R : RB h) : Sp fz1 (d + 3) 145 [(3, 64), (0, p), (0, t)] h (fun x h1 => h1 50 = h 50 ∧ Sp fz1 (d + 3) 373 [(3, 6603), (0, p), (0, t)] h1 (fun y h2 => x = y ∧ RB h2 ∧ UF h h2 ∧ h2 50 = h 50)) := by
  have RR := R
  obtain ⟨RX, RG, RU, RL, RM, RTP, RP, RB, RW, RA, RT, RI, RV, RAB, RSD, RCH, RPC, RRW, RMK, RGV, RMI, RVL, RRM, RIT⟩ := R
  exact (op_level RP).imp fun x h1 ⟨s, H⟩ => ⟨s, H.imp fun y h2 ⟨q, w⟩ => by
    subst w
    exact ⟨q, RR, uf_rfl _, rfl⟩⟩
theorem st_steps {d : Nat} {h : HV}  (R : RB h) : Sp fz1 (d + 0) 236 [(3, 64)] h (fun x h1 => h1 50 = h 50 ∧ Sp fz1 (d + 0) 412 [(3, 6603)] h1 (fun y h2 => x = y ∧ RB h2 ∧ UF h h2 ∧ h2 50 = h 50)) := by
  have RR := R
  obtain ⟨RX, RG, RU, RL, RM, RTP, RP, RB, RW, RA, RT, RI, RV, RAB, RSD, RCH, RPC, RRW, RMK, RGV, RMI, RVL, RRM, RIT⟩ := R
  exact (op_steps RMI.2.2.1).imp fun x h1 ⟨s, H⟩ => ⟨s, H.imp fun y h2 ⟨q, w⟩ => by
    subst w
    exact ⟨q, RR, uf_rfl _, rfl⟩⟩
theorem st_standing {d : Nat} {h : HV} {k : Int} (R : RB h) : Sp fz1 (d + 1) 240 [(3, 64), (0, k)] h (fun x h1 => h1 50 = h 50 ∧ Sp fz1 (d + 1) 415 [(3, 6603), (0, k)] h1 (fun y h2 => x = y ∧ RB h2 ∧ UF h h2 ∧ h2 50 = h 50)) := by
  have RR := R
  obtain ⟨RX, RG, RU, RL, RM, RTP, RP, RB, RW, RA, RT, RI, RV, RAB, RSD, RCH, RPC, RRW, RMK, RGV, RMI, RVL, RRM, RIT⟩ := R
  exact (op_standing RSD).imp fun x h1 ⟨s, H⟩ => ⟨s, H.imp fun y h2 ⟨q, w⟩ => by
    subst w
    exact ⟨q, RR, uf_rfl _, rfl⟩⟩
theorem st_table {d : Nat} {h : HV} {w : Int} (R : RB h) : Sp fz1 (d + 1) 264 [(3, 64), (0, w)] h (fun x h1 => h1 50 = h 50 ∧ Sp fz1 (d + 1) 424 [(3, 6603), (0, w)] h1 (fun y h2 => x = y ∧ RB h2 ∧ UF h h2 ∧ h2 50 = h 50)) := by
  have RR := R
  obtain ⟨RX, RG, RU, RL, RM, RTP, RP, RB, RW, RA, RT, RI, RV, RAB, RSD, RCH, RPC, RRW, RMK, RGV, RMI, RVL, RRM, RIT⟩ := R
  exact (op_table RA).imp fun x h1 ⟨s, H⟩ => ⟨s, H.imp fun y h2 ⟨q, w⟩ => by
    subst w
    exact ⟨q, RR, uf_rfl _, rfl⟩⟩
theorem st_placed {d : Nat} {h : HV} {p : Int} (R : RB h) : Sp fz1 (d + 2) 299 [(3, 64), (0, p)] h (fun x h1 => h1 50 = h 50 ∧ Sp fz1 (d + 2) 437 [(3, 6603), (0, p)] h1 (fun y h2 => x = y ∧ RB h2 ∧ UF h h2 ∧ h2 50 = h 50)) := by
  have RR := R
  obtain ⟨RX, RG, RU, RL, RM, RTP, RP, RB, RW, RA, RT, RI, RV, RAB, RSD, RCH, RPC, RRW, RMK, RGV, RMI, RVL, RRM, RIT⟩ := R
  exact (op_placed RP RCH).imp fun x h1 ⟨s, H⟩ => ⟨s, H.imp fun y h2 ⟨q, w⟩ => by
    subst w
    exact ⟨q, RR, uf_rfl _, rfl⟩⟩
theorem st_ticket {d : Nat} {h : HV} {p c : Int} (R : RB h) : Sp fz1 (d + 3) 279 [(3, 64), (0, p), (0, c)] h (fun x h1 => h1 50 = h 50 ∧ Sp fz1 (d + 3) 429 [(3, 6603), (0, p), (0, c)] h1 (fun y h2 => x = y ∧ RB h2 ∧ UF h h2 ∧ h2 50 = h 50)) := by
  have RR := R
  obtain ⟨RX, RG, RU, RL, RM, RTP, RP, RB, RW, RA, RT, RI, RV, RAB, RSD, RCH, RPC, RRW, RMK, RGV, RMI, RVL, RRM, RIT⟩ := R
  exact (op_ticket RX RP RCH).imp fun x h1 ⟨s, H⟩ => ⟨s, H.imp fun y h2 ⟨q, w⟩ => by
    subst w
    exact ⟨q, RR, uf_rfl _, rfl⟩⟩
theorem st_markOf {d : Nat} {h : HV} {p c k : Int} (R : RB h) : Sp fz1 (d + 3) 163 [(3, 64), (0, p), (0, c), (0, k)] h (fun x h1 => h1 50 = h 50 ∧ Sp fz1 (d + 3) 379 [(3, 6603), (0, p), (0, c), (0, k)] h1 (fun y h2 => x = y ∧ RB h2 ∧ UF h h2 ∧ h2 50 = h 50)) := by
  have RR := R
  obtain ⟨RX, RG, RU, RL, RM, RTP, RP, RB, RW, RA, RT, RI, RV, RAB, RSD, RCH, RPC, RRW, RMK, RGV, RMI, RVL, RRM, RIT⟩ := R
  exact (op_markOf RX RP RRW RMK).imp fun x h1 ⟨s, H⟩ => ⟨s, H.imp fun y h2 ⟨q, w⟩ => by
    subst w
    exact ⟨q, RR, uf_rfl _, rfl⟩⟩
theorem st_gave {d : Nat} {h : HV} {i : Int} (R : RB h) : Sp fz1 (d + 3) 235 [(3, 64), (0, i)] h (fun x h1 => h1 50 = h 50 ∧ Sp fz1 (d + 3) 411 [(3, 6603), (0, i)] h1 (fun y h2 => x = y ∧ RB h2 ∧ UF h h2 ∧ h2 50 = h 50)) := by
  have RR := R
  obtain ⟨RX, RG, RU, RL, RM, RTP, RP, RB, RW, RA, RT, RI, RV, RAB, RSD, RCH, RPC, RRW, RMK, RGV, RMI, RVL, RRM, RIT⟩ := R
  exact (op_gave RRW RGV).imp fun x h1 ⟨s, H⟩ => ⟨s, H.imp fun y h2 ⟨q, w⟩ => by
    subst w
    exact ⟨q, RR, uf_rfl _, rfl⟩⟩
theorem st_unit {d : Nat} {h : HV} {u w : Int} (R : RB h) : Sp fz1 (d + 4) 269 [(3, 64), (0, u), (0, w)] h (fun x h1 => h1 50 = h 50 ∧ Sp fz1 (d + 4) 425 [(3, 6603), (0, u), (0, w)] h1 (fun y h2 => x = y ∧ RB h2 ∧ UF h h2 ∧ h2 50 = h 50)) := by
  have RR := R
  obtain ⟨RX, RG, RU, RL, RM, RTP, RP, RB, RW, RA, RT, RI, RV, RAB, RSD, RCH, RPC, RRW, RMK, RGV, RMI, RVL, RRM, RIT⟩ := R
  refine (op_unit RX RU RA RT).imp fun x h1 ⟨s, H⟩ => ⟨s, H.imp fun y h2 ⟨q, w⟩ => ?_⟩
  subst q
  have e : ∀ a, a ≠ 12000 → h2 a = h a := fun a q => by rw [w]; exact unP_ne q
  have DNe : ∀ a, DN a → h2 a = h a := fun a q => e a (by unfold DN at q; omega)
  have D := dyf_of RRW RVL DNe (congrFun (e 6603 (by decide)) 30)
  have UU := uf_of RVL DNe (congrFun (e 64 (by decide)) 8) (congrFun (e 64 (by decide)) 9) (congrFun (e 6603 (by decide)) 9) (congrFun (e 6603 (by decide)) 10)
  have F := uf_tx RX UU
  exact ⟨rfl, ⟨(f_X F RX), (f_G F RG), (f_U F RU), (f_L F RL), (f_M F RM), (f_TP (congrFun (e 129 (by decide)) 1) (congrFun (e 6603 (by decide)) 1) (e 6691 (by decide)) (e 227 (by decide)) RTP), (f_P (congrFun (e 6603 (by decide)) 25) (congrFun (e 836 (by decide)) 4) (e 10016 (by decide)) (e 928 (by decide)) (e 10080 (by decide)) (e 992 (by decide)) (e 10144 (by decide)) (e 1056 (by decide)) RP), (f_B (congrFun (e 6603 (by decide)) 65) (congrFun (e 1927 (by decide)) 1) (e 11680 (by decide)) (e 2016 (by decide)) (e 11808 (by decide)) (e 2080 (by decide)) RB), (f_W (e 2080 (by decide)) RW), (f_A (fun s a b => congrFun (e 1927 (by decide)) s) (fun s a b c => congrFun (e 6603 (by decide)) s) RA), (f_T F (congrFun (e 1927 (by decide)) 0) (congrFun (e 1927 (by decide)) 13) (e 11872 (by decide)) (e 11936 (by decide)) (e 2528 (by decide)) RT), (f_I F (congrFun (e 1927 (by decide)) 13) (e 2528 (by decide)) RI), (f_V F (congrFun (e 2568 (by decide)) 4) (congrFun (e 1927 (by decide)) 13) (congrFun (e 6603 (by decide)) 71) (e 12896 (by decide)) (e 2720 (by decide)) RV), (f_Ab (e 11744 (by decide)) (e 2656 (by decide)) RAB), (f_Sd (congrFun (e 64 (by decide)) 16) (congrFun (e 6603 (by decide)) 61) (e 11488 (by decide)) (e 6432 (by decide)) RSD), (f_Ch F (congrFun (e 836 (by decide)) 4) (e 12384 (by decide)) (e 3104 (by decide)) (e 12448 (by decide)) (e 3040 (by decide)) (e 12512 (by decide)) (e 3168 (by decide)) (e 928 (by decide)) (e 12576 (by decide)) (e 3232 (by decide)) (congrFun (e 6603 (by decide)) 86) (congrFun (e 2953 (by decide)) 6) RCH), (f_Pc F (congrFun (e 836 (by decide)) 4) (congrFun (e 2953 (by decide)) 1) (e 3232 (by decide)) RPC), (f_Rw D RRW), (f_Mk D (congrFun (e 836 (by decide)) 4) (e 1120 (by decide)) (e 10208 (by decide)) (e 928 (by decide)) RMK), (f_Gv D (congrFun (e 64 (by decide)) 10) (congrFun (e 64 (by decide)) 11) (congrFun (e 6603 (by decide)) 58) (congrFun (e 6603 (by decide)) 59) RGV), (f_Mi F (congrFun (e 6603 (by decide)) 55) (congrFun (e 1157 (by decide)) 15) (congrFun (e 64 (by decide)) 12) (congrFun (e 6603 (by decide)) 53) (congrFun (e 2568 (by decide)) 1) RMI), (f_Vl D RVL), (f_Rm D RRM), (f_It D (congrFun (e 836 (by decide)) 4) (e 928 (by decide)) RIT)⟩, UU, (e 50 (by decide))⟩
theorem st_covers {d : Nat} {h : HV} {u : Int} (R : RB h) : Sp fz1 (d + 2) 314 [(3, 64), (0, u)] h (fun x h1 => h1 50 = h 50 ∧ Sp fz1 (d + 2) 443 [(3, 6603), (0, u)] h1 (fun y h2 => x = y ∧ RB h2 ∧ UF h h2 ∧ h2 50 = h 50)) := by
  have RR := R
  obtain ⟨RX, RG, RU, RL, RM, RTP, RP, RB, RW, RA, RT, RI, RV, RAB, RSD, RCH, RPC, RRW, RMK, RGV, RMI, RVL, RRM, RIT⟩ := R
  refine (op_covers RX RU RA RV).imp fun x h1 ⟨s, H⟩ => ⟨s, H.imp fun y h2 ⟨q, w⟩ => ?_⟩
  subst q
  have e : ∀ a, a ≠ 12000 → h2 a = h a := fun a q => by rw [w]; exact unP_ne q
  have DNe : ∀ a, DN a → h2 a = h a := fun a q => e a (by unfold DN at q; omega)
  have D := dyf_of RRW RVL DNe (congrFun (e 6603 (by decide)) 30)
  have UU := uf_of RVL DNe (congrFun (e 64 (by decide)) 8) (congrFun (e 64 (by decide)) 9) (congrFun (e 6603 (by decide)) 9) (congrFun (e 6603 (by decide)) 10)
  have F := uf_tx RX UU
  exact ⟨rfl, ⟨(f_X F RX), (f_G F RG), (f_U F RU), (f_L F RL), (f_M F RM), (f_TP (congrFun (e 129 (by decide)) 1) (congrFun (e 6603 (by decide)) 1) (e 6691 (by decide)) (e 227 (by decide)) RTP), (f_P (congrFun (e 6603 (by decide)) 25) (congrFun (e 836 (by decide)) 4) (e 10016 (by decide)) (e 928 (by decide)) (e 10080 (by decide)) (e 992 (by decide)) (e 10144 (by decide)) (e 1056 (by decide)) RP), (f_B (congrFun (e 6603 (by decide)) 65) (congrFun (e 1927 (by decide)) 1) (e 11680 (by decide)) (e 2016 (by decide)) (e 11808 (by decide)) (e 2080 (by decide)) RB), (f_W (e 2080 (by decide)) RW), (f_A (fun s a b => congrFun (e 1927 (by decide)) s) (fun s a b c => congrFun (e 6603 (by decide)) s) RA), (f_T F (congrFun (e 1927 (by decide)) 0) (congrFun (e 1927 (by decide)) 13) (e 11872 (by decide)) (e 11936 (by decide)) (e 2528 (by decide)) RT), (f_I F (congrFun (e 1927 (by decide)) 13) (e 2528 (by decide)) RI), (f_V F (congrFun (e 2568 (by decide)) 4) (congrFun (e 1927 (by decide)) 13) (congrFun (e 6603 (by decide)) 71) (e 12896 (by decide)) (e 2720 (by decide)) RV), (f_Ab (e 11744 (by decide)) (e 2656 (by decide)) RAB), (f_Sd (congrFun (e 64 (by decide)) 16) (congrFun (e 6603 (by decide)) 61) (e 11488 (by decide)) (e 6432 (by decide)) RSD), (f_Ch F (congrFun (e 836 (by decide)) 4) (e 12384 (by decide)) (e 3104 (by decide)) (e 12448 (by decide)) (e 3040 (by decide)) (e 12512 (by decide)) (e 3168 (by decide)) (e 928 (by decide)) (e 12576 (by decide)) (e 3232 (by decide)) (congrFun (e 6603 (by decide)) 86) (congrFun (e 2953 (by decide)) 6) RCH), (f_Pc F (congrFun (e 836 (by decide)) 4) (congrFun (e 2953 (by decide)) 1) (e 3232 (by decide)) RPC), (f_Rw D RRW), (f_Mk D (congrFun (e 836 (by decide)) 4) (e 1120 (by decide)) (e 10208 (by decide)) (e 928 (by decide)) RMK), (f_Gv D (congrFun (e 64 (by decide)) 10) (congrFun (e 64 (by decide)) 11) (congrFun (e 6603 (by decide)) 58) (congrFun (e 6603 (by decide)) 59) RGV), (f_Mi F (congrFun (e 6603 (by decide)) 55) (congrFun (e 1157 (by decide)) 15) (congrFun (e 64 (by decide)) 12) (congrFun (e 6603 (by decide)) 53) (congrFun (e 2568 (by decide)) 1) RMI), (f_Vl D RVL), (f_Rm D RRM), (f_It D (congrFun (e 836 (by decide)) 4) (e 928 (by decide)) RIT)⟩, UU, (e 50 (by decide))⟩
theorem st_count {d : Nat} {h : HV} {k : Int} (R : RB h) : Sp fz1 (d + 1) 131 [(3, 64), (0, k)] h (fun x h1 => h1 50 = h 50 ∧ Sp fz1 (d + 1) 444 [(3, 6603), (0, k)] h1 (fun y h2 => x = y ∧ RB h2 ∧ UF h h2 ∧ h2 50 = h 50)) := by
  have RR := R
  obtain ⟨RX, RG, RU, RL, RM, RTP, RP, RB, RW, RA, RT, RI, RV, RAB, RSD, RCH, RPC, RRW, RMK, RGV, RMI, RVL, RRM, RIT⟩ := R
  refine (op_count RX RU RP RTP RRW RMI.1 RMI.2.1).imp fun x h1 ⟨s, H⟩ => ⟨s, H.imp fun y h2 ⟨q, w⟩ => ?_⟩
  subst q
  have e : ∀ a, a ≠ 12000 → h2 a = h a := fun a q => by
    rcases w with w | w
    · rw [w]
    · rw [w]; exact unP_ne q
  have DNe : ∀ a, DN a → h2 a = h a := fun a q => e a (by unfold DN at q; omega)
  have D := dyf_of RRW RVL DNe (congrFun (e 6603 (by decide)) 30)
  have UU := uf_of RVL DNe (congrFun (e 64 (by decide)) 8) (congrFun (e 64 (by decide)) 9) (congrFun (e 6603 (by decide)) 9) (congrFun (e 6603 (by decide)) 10)
  have F := uf_tx RX UU
  exact ⟨rfl, ⟨(f_X F RX), (f_G F RG), (f_U F RU), (f_L F RL), (f_M F RM), (f_TP (congrFun (e 129 (by decide)) 1) (congrFun (e 6603 (by decide)) 1) (e 6691 (by decide)) (e 227 (by decide)) RTP), (f_P (congrFun (e 6603 (by decide)) 25) (congrFun (e 836 (by decide)) 4) (e 10016 (by decide)) (e 928 (by decide)) (e 10080 (by decide)) (e 992 (by decide)) (e 10144 (by decide)) (e 1056 (by decide)) RP), (f_B (congrFun (e 6603 (by decide)) 65) (congrFun (e 1927 (by decide)) 1) (e 11680 (by decide)) (e 2016 (by decide)) (e 11808 (by decide)) (e 2080 (by decide)) RB), (f_W (e 2080 (by decide)) RW), (f_A (fun s a b => congrFun (e 1927 (by decide)) s) (fun s a b c => congrFun (e 6603 (by decide)) s) RA), (f_T F (congrFun (e 1927 (by decide)) 0) (congrFun (e 1927 (by decide)) 13) (e 11872 (by decide)) (e 11936 (by decide)) (e 2528 (by decide)) RT), (f_I F (congrFun (e 1927 (by decide)) 13) (e 2528 (by decide)) RI), (f_V F (congrFun (e 2568 (by decide)) 4) (congrFun (e 1927 (by decide)) 13) (congrFun (e 6603 (by decide)) 71) (e 12896 (by decide)) (e 2720 (by decide)) RV), (f_Ab (e 11744 (by decide)) (e 2656 (by decide)) RAB), (f_Sd (congrFun (e 64 (by decide)) 16) (congrFun (e 6603 (by decide)) 61) (e 11488 (by decide)) (e 6432 (by decide)) RSD), (f_Ch F (congrFun (e 836 (by decide)) 4) (e 12384 (by decide)) (e 3104 (by decide)) (e 12448 (by decide)) (e 3040 (by decide)) (e 12512 (by decide)) (e 3168 (by decide)) (e 928 (by decide)) (e 12576 (by decide)) (e 3232 (by decide)) (congrFun (e 6603 (by decide)) 86) (congrFun (e 2953 (by decide)) 6) RCH), (f_Pc F (congrFun (e 836 (by decide)) 4) (congrFun (e 2953 (by decide)) 1) (e 3232 (by decide)) RPC), (f_Rw D RRW), (f_Mk D (congrFun (e 836 (by decide)) 4) (e 1120 (by decide)) (e 10208 (by decide)) (e 928 (by decide)) RMK), (f_Gv D (congrFun (e 64 (by decide)) 10) (congrFun (e 64 (by decide)) 11) (congrFun (e 6603 (by decide)) 58) (congrFun (e 6603 (by decide)) 59) RGV), (f_Mi F (congrFun (e 6603 (by decide)) 55) (congrFun (e 1157 (by decide)) 15) (congrFun (e 64 (by decide)) 12) (congrFun (e 6603 (by decide)) 53) (congrFun (e 2568 (by decide)) 1) RMI), (f_Vl D RVL), (f_Rm D RRM), (f_It D (congrFun (e 836 (by decide)) 4) (e 928 (by decide)) RIT)⟩, UU, (e 50 (by decide))⟩
theorem st_stable {d : Nat} {h : HV}  (R : RB h) : Sp fz1 (d + 6) 301 [(3, 64)] h (fun x h1 => h1 50 = h 50 ∧ Sp fz1 (d + 6) 438 [(3, 6603)] h1 (fun y h2 => x = y ∧ RB h2 ∧ UF h h2 ∧ h2 50 = h 50)) := by
  have RR := R
  obtain ⟨RX, RG, RU, RL, RM, RTP, RP, RB, RW, RA, RT, RI, RV, RAB, RSD, RCH, RPC, RRW, RMK, RGV, RMI, RVL, RRM, RIT⟩ := R
  refine (op_stable RX RP RCH RPC).imp fun x h1 ⟨s, H⟩ => ⟨s, H.imp fun y h2 ⟨q, w⟩ => ?_⟩
  subst q
  have e : ∀ a, a ≠ 3360 → h2 a = h a := w
  have DNe : ∀ a, DN a → h2 a = h a := fun a q => e a (by unfold DN at q; omega)
  have D := dyf_of RRW RVL DNe (congrFun (e 6603 (by decide)) 30)
  have UU := uf_of RVL DNe (congrFun (e 64 (by decide)) 8) (congrFun (e 64 (by decide)) 9) (congrFun (e 6603 (by decide)) 9) (congrFun (e 6603 (by decide)) 10)
  have F := uf_tx RX UU
  exact ⟨rfl, ⟨(f_X F RX), (f_G F RG), (f_U F RU), (f_L F RL), (f_M F RM), (f_TP (congrFun (e 129 (by decide)) 1) (congrFun (e 6603 (by decide)) 1) (e 6691 (by decide)) (e 227 (by decide)) RTP), (f_P (congrFun (e 6603 (by decide)) 25) (congrFun (e 836 (by decide)) 4) (e 10016 (by decide)) (e 928 (by decide)) (e 10080 (by decide)) (e 992 (by decide)) (e 10144 (by decide)) (e 1056 (by decide)) RP), (f_B (congrFun (e 6603 (by decide)) 65) (congrFun (e 1927 (by decide)) 1) (e 11680 (by decide)) (e 2016 (by decide)) (e 11808 (by decide)) (e 2080 (by decide)) RB), (f_W (e 2080 (by decide)) RW), (f_A (fun s a b => congrFun (e 1927 (by decide)) s) (fun s a b c => congrFun (e 6603 (by decide)) s) RA), (f_T F (congrFun (e 1927 (by decide)) 0) (congrFun (e 1927 (by decide)) 13) (e 11872 (by decide)) (e 11936 (by decide)) (e 2528 (by decide)) RT), (f_I F (congrFun (e 1927 (by decide)) 13) (e 2528 (by decide)) RI), (f_V F (congrFun (e 2568 (by decide)) 4) (congrFun (e 1927 (by decide)) 13) (congrFun (e 6603 (by decide)) 71) (e 12896 (by decide)) (e 2720 (by decide)) RV), (f_Ab (e 11744 (by decide)) (e 2656 (by decide)) RAB), (f_Sd (congrFun (e 64 (by decide)) 16) (congrFun (e 6603 (by decide)) 61) (e 11488 (by decide)) (e 6432 (by decide)) RSD), (f_Ch F (congrFun (e 836 (by decide)) 4) (e 12384 (by decide)) (e 3104 (by decide)) (e 12448 (by decide)) (e 3040 (by decide)) (e 12512 (by decide)) (e 3168 (by decide)) (e 928 (by decide)) (e 12576 (by decide)) (e 3232 (by decide)) (congrFun (e 6603 (by decide)) 86) (congrFun (e 2953 (by decide)) 6) RCH), (f_Pc F (congrFun (e 836 (by decide)) 4) (congrFun (e 2953 (by decide)) 1) (e 3232 (by decide)) RPC), (f_Rw D RRW), (f_Mk D (congrFun (e 836 (by decide)) 4) (e 1120 (by decide)) (e 10208 (by decide)) (e 928 (by decide)) RMK), (f_Gv D (congrFun (e 64 (by decide)) 10) (congrFun (e 64 (by decide)) 11) (congrFun (e 6603 (by decide)) 58) (congrFun (e 6603 (by decide)) 59) RGV), (f_Mi F (congrFun (e 6603 (by decide)) 55) (congrFun (e 1157 (by decide)) 15) (congrFun (e 64 (by decide)) 12) (congrFun (e 6603 (by decide)) 53) (congrFun (e 2568 (by decide)) 1) RMI), (f_Vl D RVL), (f_Rm D RRM), (f_It D (congrFun (e 836 (by decide)) 4) (e 928 (by decide)) RIT)⟩, UU, (e 50 (by decide))⟩
theorem st_prefer {d : Nat} {h : HV} {p c : Int} (R : RB h) : Sp fz1 (d + 3) 272 [(3, 64), (0, p), (0, c)] h (fun x h1 => h1 50 = h 50 ∧ Sp fz1 (d + 3) 426 [(3, 6603), (0, p), (0, c)] h1 (fun y h2 => x = y ∧ RB h2 ∧ UF h h2 ∧ h2 50 = h 50)) := by
  have RR := R
  obtain ⟨RX, RG, RU, RL, RM, RTP, RP, RB, RW, RA, RT, RI, RV, RAB, RSD, RCH, RPC, RRW, RMK, RGV, RMI, RVL, RRM, RIT⟩ := R
  refine (op_prefer RX RP RCH).imp fun x h1 ⟨s, H⟩ => ⟨s, H.imp fun y h2 ⟨q, c1, w⟩ => ?_⟩
  subst q
  have e : ∀ a, a ≠ 3040 ∧ a ≠ 3104 ∧ a ≠ 12384 ∧ a ≠ 12448 → h2 a = h a := fun a q => w a q.1 q.2.1 q.2.2.1 q.2.2.2
  have DNe : ∀ a, DN a → h2 a = h a := fun a q => e a (by unfold DN at q; omega)
  have D := dyf_of RRW RVL DNe (congrFun (e 6603 (by decide)) 30)
  have UU := uf_of RVL DNe (congrFun (e 64 (by decide)) 8) (congrFun (e 64 (by decide)) 9) (congrFun (e 6603 (by decide)) 9) (congrFun (e 6603 (by decide)) 10)
  have F := uf_tx RX UU
  exact ⟨rfl, ⟨(f_X F RX), (f_G F RG), (f_U F RU), (f_L F RL), (f_M F RM), (f_TP (congrFun (e 129 (by decide)) 1) (congrFun (e 6603 (by decide)) 1) (e 6691 (by decide)) (e 227 (by decide)) RTP), (f_P (congrFun (e 6603 (by decide)) 25) (congrFun (e 836 (by decide)) 4) (e 10016 (by decide)) (e 928 (by decide)) (e 10080 (by decide)) (e 992 (by decide)) (e 10144 (by decide)) (e 1056 (by decide)) RP), (f_B (congrFun (e 6603 (by decide)) 65) (congrFun (e 1927 (by decide)) 1) (e 11680 (by decide)) (e 2016 (by decide)) (e 11808 (by decide)) (e 2080 (by decide)) RB), (f_W (e 2080 (by decide)) RW), (f_A (fun s a b => congrFun (e 1927 (by decide)) s) (fun s a b c => congrFun (e 6603 (by decide)) s) RA), (f_T F (congrFun (e 1927 (by decide)) 0) (congrFun (e 1927 (by decide)) 13) (e 11872 (by decide)) (e 11936 (by decide)) (e 2528 (by decide)) RT), (f_I F (congrFun (e 1927 (by decide)) 13) (e 2528 (by decide)) RI), (f_V F (congrFun (e 2568 (by decide)) 4) (congrFun (e 1927 (by decide)) 13) (congrFun (e 6603 (by decide)) 71) (e 12896 (by decide)) (e 2720 (by decide)) RV), (f_Ab (e 11744 (by decide)) (e 2656 (by decide)) RAB), (f_Sd (congrFun (e 64 (by decide)) 16) (congrFun (e 6603 (by decide)) 61) (e 11488 (by decide)) (e 6432 (by decide)) RSD), c1, (f_Pc F (congrFun (e 836 (by decide)) 4) (congrFun (e 2953 (by decide)) 1) (e 3232 (by decide)) RPC), (f_Rw D RRW), (f_Mk D (congrFun (e 836 (by decide)) 4) (e 1120 (by decide)) (e 10208 (by decide)) (e 928 (by decide)) RMK), (f_Gv D (congrFun (e 64 (by decide)) 10) (congrFun (e 64 (by decide)) 11) (congrFun (e 6603 (by decide)) 58) (congrFun (e 6603 (by decide)) 59) RGV), (f_Mi F (congrFun (e 6603 (by decide)) 55) (congrFun (e 1157 (by decide)) 15) (congrFun (e 64 (by decide)) 12) (congrFun (e 6603 (by decide)) 53) (congrFun (e 2568 (by decide)) 1) RMI), (f_Vl D RVL), (f_Rm D RRM), (f_It D (congrFun (e 836 (by decide)) 4) (e 928 (by decide)) RIT)⟩, UU, (e 50 (by decide))⟩
theorem st_lottery {d : Nat} {h : HV} {s : Int} (R : RB h) : Sp fz1 (d + 4) 276 [(3, 64), (0, s)] h (fun x h1 => h1 50 = h 50 ∧ Sp fz1 (d + 4) 428 [(3, 6603), (0, s)] h1 (fun y h2 => x = y ∧ RB h2 ∧ UF h h2 ∧ h2 50 = h 50)) := by
  have RR := R
  obtain ⟨RX, RG, RU, RL, RM, RTP, RP, RB, RW, RA, RT, RI, RV, RAB, RSD, RCH, RPC, RRW, RMK, RGV, RMI, RVL, RRM, RIT⟩ := R
  refine (op_lottery RX RP RCH).imp fun x h1 ⟨s, H⟩ => ⟨s, H.imp fun y h2 ⟨q, c1, w⟩ => ?_⟩
  subst q
  have e : ∀ a, a ≠ 3168 ∧ a ≠ 12512 → h2 a = h a := fun a q => w a q.1 q.2
  have DNe : ∀ a, DN a → h2 a = h a := fun a q => e a (by unfold DN at q; omega)
  have D := dyf_of RRW RVL DNe (congrFun (e 6603 (by decide)) 30)
  have UU := uf_of RVL DNe (congrFun (e 64 (by decide)) 8) (congrFun (e 64 (by decide)) 9) (congrFun (e 6603 (by decide)) 9) (congrFun (e 6603 (by decide)) 10)
  have F := uf_tx RX UU
  exact ⟨rfl, ⟨(f_X F RX), (f_G F RG), (f_U F RU), (f_L F RL), (f_M F RM), (f_TP (congrFun (e 129 (by decide)) 1) (congrFun (e 6603 (by decide)) 1) (e 6691 (by decide)) (e 227 (by decide)) RTP), (f_P (congrFun (e 6603 (by decide)) 25) (congrFun (e 836 (by decide)) 4) (e 10016 (by decide)) (e 928 (by decide)) (e 10080 (by decide)) (e 992 (by decide)) (e 10144 (by decide)) (e 1056 (by decide)) RP), (f_B (congrFun (e 6603 (by decide)) 65) (congrFun (e 1927 (by decide)) 1) (e 11680 (by decide)) (e 2016 (by decide)) (e 11808 (by decide)) (e 2080 (by decide)) RB), (f_W (e 2080 (by decide)) RW), (f_A (fun s a b => congrFun (e 1927 (by decide)) s) (fun s a b c => congrFun (e 6603 (by decide)) s) RA), (f_T F (congrFun (e 1927 (by decide)) 0) (congrFun (e 1927 (by decide)) 13) (e 11872 (by decide)) (e 11936 (by decide)) (e 2528 (by decide)) RT), (f_I F (congrFun (e 1927 (by decide)) 13) (e 2528 (by decide)) RI), (f_V F (congrFun (e 2568 (by decide)) 4) (congrFun (e 1927 (by decide)) 13) (congrFun (e 6603 (by decide)) 71) (e 12896 (by decide)) (e 2720 (by decide)) RV), (f_Ab (e 11744 (by decide)) (e 2656 (by decide)) RAB), (f_Sd (congrFun (e 64 (by decide)) 16) (congrFun (e 6603 (by decide)) 61) (e 11488 (by decide)) (e 6432 (by decide)) RSD), c1, (f_Pc F (congrFun (e 836 (by decide)) 4) (congrFun (e 2953 (by decide)) 1) (e 3232 (by decide)) RPC), (f_Rw D RRW), (f_Mk D (congrFun (e 836 (by decide)) 4) (e 1120 (by decide)) (e 10208 (by decide)) (e 928 (by decide)) RMK), (f_Gv D (congrFun (e 64 (by decide)) 10) (congrFun (e 64 (by decide)) 11) (congrFun (e 6603 (by decide)) 58) (congrFun (e 6603 (by decide)) 59) RGV), (f_Mi F (congrFun (e 6603 (by decide)) 55) (congrFun (e 1157 (by decide)) 15) (congrFun (e 64 (by decide)) 12) (congrFun (e 6603 (by decide)) 53) (congrFun (e 2568 (by decide)) 1) RMI), (f_Vl D RVL), (f_Rm D RRM), (f_It D (congrFun (e 836 (by decide)) 4) (e 928 (by decide)) RIT)⟩, UU, (e 50 (by decide))⟩
theorem st_absent {d : Nat} {h : HV} {s p o : Int} (R : RB h) : Sp fz1 (d + 3) 306 [(3, 64), (0, s), (0, p), (0, o)] h (fun x h1 => h1 50 = h 50 ∧ Sp fz1 (d + 3) 439 [(3, 6603), (0, s), (0, p), (0, o)] h1 (fun y h2 => x = y ∧ RB h2 ∧ UF h h2 ∧ h2 50 = h 50)) := by
  have RR := R
  obtain ⟨RX, RG, RU, RL, RM, RTP, RP, RB, RW, RA, RT, RI, RV, RAB, RSD, RCH, RPC, RRW, RMK, RGV, RMI, RVL, RRM, RIT⟩ := R
  refine (op_absent RX RB RAB).imp fun x h1 ⟨s, H⟩ => ⟨s, H.imp fun y h2 ⟨q, c1, w⟩ => ?_⟩
  subst q
  have e : ∀ a, a ≠ 2656 ∧ a ≠ 11744 → h2 a = h a := fun a q => w a q.1 q.2
  have DNe : ∀ a, DN a → h2 a = h a := fun a q => e a (by unfold DN at q; omega)
  have D := dyf_of RRW RVL DNe (congrFun (e 6603 (by decide)) 30)
  have UU := uf_of RVL DNe (congrFun (e 64 (by decide)) 8) (congrFun (e 64 (by decide)) 9) (congrFun (e 6603 (by decide)) 9) (congrFun (e 6603 (by decide)) 10)
  have F := uf_tx RX UU
  exact ⟨rfl, ⟨(f_X F RX), (f_G F RG), (f_U F RU), (f_L F RL), (f_M F RM), (f_TP (congrFun (e 129 (by decide)) 1) (congrFun (e 6603 (by decide)) 1) (e 6691 (by decide)) (e 227 (by decide)) RTP), (f_P (congrFun (e 6603 (by decide)) 25) (congrFun (e 836 (by decide)) 4) (e 10016 (by decide)) (e 928 (by decide)) (e 10080 (by decide)) (e 992 (by decide)) (e 10144 (by decide)) (e 1056 (by decide)) RP), (f_B (congrFun (e 6603 (by decide)) 65) (congrFun (e 1927 (by decide)) 1) (e 11680 (by decide)) (e 2016 (by decide)) (e 11808 (by decide)) (e 2080 (by decide)) RB), (f_W (e 2080 (by decide)) RW), (f_A (fun s a b => congrFun (e 1927 (by decide)) s) (fun s a b c => congrFun (e 6603 (by decide)) s) RA), (f_T F (congrFun (e 1927 (by decide)) 0) (congrFun (e 1927 (by decide)) 13) (e 11872 (by decide)) (e 11936 (by decide)) (e 2528 (by decide)) RT), (f_I F (congrFun (e 1927 (by decide)) 13) (e 2528 (by decide)) RI), (f_V F (congrFun (e 2568 (by decide)) 4) (congrFun (e 1927 (by decide)) 13) (congrFun (e 6603 (by decide)) 71) (e 12896 (by decide)) (e 2720 (by decide)) RV), c1, (f_Sd (congrFun (e 64 (by decide)) 16) (congrFun (e 6603 (by decide)) 61) (e 11488 (by decide)) (e 6432 (by decide)) RSD), (f_Ch F (congrFun (e 836 (by decide)) 4) (e 12384 (by decide)) (e 3104 (by decide)) (e 12448 (by decide)) (e 3040 (by decide)) (e 12512 (by decide)) (e 3168 (by decide)) (e 928 (by decide)) (e 12576 (by decide)) (e 3232 (by decide)) (congrFun (e 6603 (by decide)) 86) (congrFun (e 2953 (by decide)) 6) RCH), (f_Pc F (congrFun (e 836 (by decide)) 4) (congrFun (e 2953 (by decide)) 1) (e 3232 (by decide)) RPC), (f_Rw D RRW), (f_Mk D (congrFun (e 836 (by decide)) 4) (e 1120 (by decide)) (e 10208 (by decide)) (e 928 (by decide)) RMK), (f_Gv D (congrFun (e 64 (by decide)) 10) (congrFun (e 64 (by decide)) 11) (congrFun (e 6603 (by decide)) 58) (congrFun (e 6603 (by decide)) 59) RGV), (f_Mi F (congrFun (e 6603 (by decide)) 55) (congrFun (e 1157 (by decide)) 15) (congrFun (e 64 (by decide)) 12) (congrFun (e 6603 (by decide)) 53) (congrFun (e 2568 (by decide)) 1) RMI), (f_Vl D RVL), (f_Rm D RRM), (f_It D (congrFun (e 836 (by decide)) 4) (e 928 (by decide)) RIT)⟩, UU, (e 50 (by decide))⟩
theorem st_feed {d : Nat} {h : HV} {n v : Int} (R : RB h) : Sp fz1 (d + 1) 21 [(3, 64), (0, n), (1, v)] h (fun x h1 => h1 50 = h 50 ∧ Sp fz1 (d + 1) 319 [(3, 6603), (0, n), (1, v)] h1 (fun y h2 => x = y ∧ RB h2 ∧ UF h h2 ∧ h2 50 = h 50)) := by
  have RR := R
  obtain ⟨RX, RG, RU, RL, RM, RTP, RP, RB, RW, RA, RT, RI, RV, RAB, RSD, RCH, RPC, RRW, RMK, RGV, RMI, RVL, RRM, RIT⟩ := R
  refine (op_feed RTP).imp fun x h1 ⟨s, H⟩ => ⟨s, H.imp fun y h2 ⟨q, c1, w, w1, w2⟩ => ?_⟩
  subst q
  have e : ∀ a, a ≠ 227 ∧ a ≠ 129 ∧ a ≠ 6691 ∧ a ≠ 6603 → h2 a = h a := fun a q => w a q.1 q.2.1 q.2.2.1 q.2.2.2
  have s129 : ∀ s, s ≠ 1 → h2 129 s = h 129 s := w1
  have s6603 : ∀ s, s ≠ 1 → h2 6603 s = h 6603 s := w2
  have DNe : ∀ a, DN a → h2 a = h a := fun a q => e a (by unfold DN at q; omega)
  have D := dyf_of RRW RVL DNe (s6603 30 (by decide))
  have UU := uf_of RVL DNe (congrFun (e 64 (by decide)) 8) (congrFun (e 64 (by decide)) 9) (s6603 9 (by decide)) (s6603 10 (by decide))
  have F := uf_tx RX UU
  exact ⟨rfl, ⟨(f_X F RX), (f_G F RG), (f_U F RU), (f_L F RL), (f_M F RM), c1, (f_P (s6603 25 (by decide)) (congrFun (e 836 (by decide)) 4) (e 10016 (by decide)) (e 928 (by decide)) (e 10080 (by decide)) (e 992 (by decide)) (e 10144 (by decide)) (e 1056 (by decide)) RP), (f_B (s6603 65 (by decide)) (congrFun (e 1927 (by decide)) 1) (e 11680 (by decide)) (e 2016 (by decide)) (e 11808 (by decide)) (e 2080 (by decide)) RB), (f_W (e 2080 (by decide)) RW), (f_A (fun s a b => congrFun (e 1927 (by decide)) s) (fun s a b c => s6603 s (by omega)) RA), (f_T F (congrFun (e 1927 (by decide)) 0) (congrFun (e 1927 (by decide)) 13) (e 11872 (by decide)) (e 11936 (by decide)) (e 2528 (by decide)) RT), (f_I F (congrFun (e 1927 (by decide)) 13) (e 2528 (by decide)) RI), (f_V F (congrFun (e 2568 (by decide)) 4) (congrFun (e 1927 (by decide)) 13) (s6603 71 (by decide)) (e 12896 (by decide)) (e 2720 (by decide)) RV), (f_Ab (e 11744 (by decide)) (e 2656 (by decide)) RAB), (f_Sd (congrFun (e 64 (by decide)) 16) (s6603 61 (by decide)) (e 11488 (by decide)) (e 6432 (by decide)) RSD), (f_Ch F (congrFun (e 836 (by decide)) 4) (e 12384 (by decide)) (e 3104 (by decide)) (e 12448 (by decide)) (e 3040 (by decide)) (e 12512 (by decide)) (e 3168 (by decide)) (e 928 (by decide)) (e 12576 (by decide)) (e 3232 (by decide)) (s6603 86 (by decide)) (congrFun (e 2953 (by decide)) 6) RCH), (f_Pc F (congrFun (e 836 (by decide)) 4) (congrFun (e 2953 (by decide)) 1) (e 3232 (by decide)) RPC), (f_Rw D RRW), (f_Mk D (congrFun (e 836 (by decide)) 4) (e 1120 (by decide)) (e 10208 (by decide)) (e 928 (by decide)) RMK), (f_Gv D (congrFun (e 64 (by decide)) 10) (congrFun (e 64 (by decide)) 11) (s6603 58 (by decide)) (s6603 59 (by decide)) RGV), (f_Mi F (s6603 55 (by decide)) (congrFun (e 1157 (by decide)) 15) (congrFun (e 64 (by decide)) 12) (s6603 53 (by decide)) (congrFun (e 2568 (by decide)) 1) RMI), (f_Vl D RVL), (f_Rm D RRM), (f_It D (congrFun (e 836 (by decide)) 4) (e 928 (by decide)) RIT)⟩, UU, (e 50 (by decide))⟩
theorem st_match {d : Nat} {h : HV} {i : Int} (R : RB h) : Sp fz1 (d + 7) 282 [(3, 64), (0, i)] h (fun x h1 => h1 50 = h 50 ∧ Sp fz1 (d + 7) 431 [(3, 6603), (0, i)] h1 (fun y h2 => x = y ∧ RB h2 ∧ UF h h2 ∧ h2 50 = h 50)) := by
  have RR := R
  obtain ⟨RX, RG, RU, RL, RM, RTP, RP, RB, RW, RA, RT, RI, RV, RAB, RSD, RCH, RPC, RRW, RMK, RGV, RMI, RVL, RRM, RIT⟩ := R
  refine (op_match RX RP RCH RPC).imp fun x h1 ⟨s, H⟩ => ⟨s, H.imp fun y h2 ⟨q, w, w1, w2, c1, c2⟩ => ?_⟩
  subst q
  have e : ∀ a, a ≠ 12576 ∧ a ≠ 12640 ∧ a ≠ 12708 ∧ a ≠ 12772 ∧ a ≠ 12832 ∧ a ≠ 3232 ∧ a ≠ 3296 ∧ a ≠ 3360 ∧ a ≠ 2953 ∧ a ≠ 3428 ∧ a ≠ 6603 → h2 a = h a := fun a q => w a (by unfold MF; omega) (by omega)
  have s2953 : ∀ s, s ≠ 6 → h2 2953 s = h 2953 s := w1
  have s6603 : ∀ s, s ≠ 86 → h2 6603 s = h 6603 s := w2
  have DNe : ∀ a, DN a → h2 a = h a := fun a q => e a (by unfold DN at q; omega)
  have D := dyf_of RRW RVL DNe (s6603 30 (by decide))
  have UU := uf_of RVL DNe (congrFun (e 64 (by decide)) 8) (congrFun (e 64 (by decide)) 9) (s6603 9 (by decide)) (s6603 10 (by decide))
  have F := uf_tx RX UU
  exact ⟨rfl, ⟨(f_X F RX), (f_G F RG), (f_U F RU), (f_L F RL), (f_M F RM), (f_TP (congrFun (e 129 (by decide)) 1) (s6603 1 (by decide)) (e 6691 (by decide)) (e 227 (by decide)) RTP), (f_P (s6603 25 (by decide)) (congrFun (e 836 (by decide)) 4) (e 10016 (by decide)) (e 928 (by decide)) (e 10080 (by decide)) (e 992 (by decide)) (e 10144 (by decide)) (e 1056 (by decide)) RP), (f_B (s6603 65 (by decide)) (congrFun (e 1927 (by decide)) 1) (e 11680 (by decide)) (e 2016 (by decide)) (e 11808 (by decide)) (e 2080 (by decide)) RB), (f_W (e 2080 (by decide)) RW), (f_A (fun s a b => congrFun (e 1927 (by decide)) s) (fun s a b c => s6603 s (by omega)) RA), (f_T F (congrFun (e 1927 (by decide)) 0) (congrFun (e 1927 (by decide)) 13) (e 11872 (by decide)) (e 11936 (by decide)) (e 2528 (by decide)) RT), (f_I F (congrFun (e 1927 (by decide)) 13) (e 2528 (by decide)) RI), (f_V F (congrFun (e 2568 (by decide)) 4) (congrFun (e 1927 (by decide)) 13) (s6603 71 (by decide)) (e 12896 (by decide)) (e 2720 (by decide)) RV), (f_Ab (e 11744 (by decide)) (e 2656 (by decide)) RAB), (f_Sd (congrFun (e 64 (by decide)) 16) (s6603 61 (by decide)) (e 11488 (by decide)) (e 6432 (by decide)) RSD), c1, c2, (f_Rw D RRW), (f_Mk D (congrFun (e 836 (by decide)) 4) (e 1120 (by decide)) (e 10208 (by decide)) (e 928 (by decide)) RMK), (f_Gv D (congrFun (e 64 (by decide)) 10) (congrFun (e 64 (by decide)) 11) (s6603 58 (by decide)) (s6603 59 (by decide)) RGV), (f_Mi F (s6603 55 (by decide)) (congrFun (e 1157 (by decide)) 15) (congrFun (e 64 (by decide)) 12) (s6603 53 (by decide)) (congrFun (e 2568 (by decide)) 1) RMI), (f_Vl D RVL), (f_Rm D RRM), (f_It D (congrFun (e 836 (by decide)) 4) (e 928 (by decide)) RIT)⟩, UU, (e 50 (by decide))⟩
theorem st_cover {d : Nat} {h : HV} {p : Int} (R : RB h) : Sp fz1 (d + 16) 308 [(3, 64), (0, p)] h (fun x h1 => h1 50 = h 50 ∧ Sp fz1 (d + 16) 440 [(3, 6603), (0, p)] h1 (fun y h2 => x = y ∧ RB h2 ∧ UF h h2 ∧ h2 50 = h 50)) := by
  have RR := R
  obtain ⟨RX, RG, RU, RL, RM, RTP, RP, RB, RW, RA, RT, RI, RV, RAB, RSD, RCH, RPC, RRW, RMK, RGV, RMI, RVL, RRM, RIT⟩ := R
  refine (op_cover RX RU RB RA RT RL RI RAB RV RMI.2.2.2).imp fun x h1 ⟨s, H⟩ => ⟨s, H.imp fun y h2 ⟨q, c1, w, w1, w2, _⟩ => ?_⟩
  subst q
  have e : ∀ a, a ≠ 2568 ∧ a ≠ 2720 ∧ a ≠ 2784 ∧ a ≠ 2848 ∧ a ≠ 2912 ∧ a ≠ 12000 ∧ a ≠ 6603 ∧ a ≠ 12896 ∧ a ≠ 12960 ∧ a ≠ 13024 → h2 a = h a := fun a q => w a (by unfold MCv; exact q)
  have s2568 : ∀ s, s ≠ 4 ∧ s ≠ 6 ∧ s ≠ 9 ∧ s ≠ 10 → h2 2568 s = h 2568 s := fun s q => w1 s q.1 q.2.1 q.2.2.1 q.2.2.2
  have s6603 : ∀ s, s ≠ 93 ∧ s ≠ 71 → h2 6603 s = h 6603 s := fun s q => w2 s q.1 q.2
  have DNe : ∀ a, DN a → h2 a = h a := fun a q => e a (by unfold DN at q; omega)
  have D := dyf_of RRW RVL DNe (s6603 30 (by decide))
  have UU := uf_of RVL DNe (congrFun (e 64 (by decide)) 8) (congrFun (e 64 (by decide)) 9) (s6603 9 (by decide)) (s6603 10 (by decide))
  have F := uf_tx RX UU
  exact ⟨rfl, ⟨(f_X F RX), (f_G F RG), (f_U F RU), (f_L F RL), (f_M F RM), (f_TP (congrFun (e 129 (by decide)) 1) (s6603 1 (by decide)) (e 6691 (by decide)) (e 227 (by decide)) RTP), (f_P (s6603 25 (by decide)) (congrFun (e 836 (by decide)) 4) (e 10016 (by decide)) (e 928 (by decide)) (e 10080 (by decide)) (e 992 (by decide)) (e 10144 (by decide)) (e 1056 (by decide)) RP), (f_B (s6603 65 (by decide)) (congrFun (e 1927 (by decide)) 1) (e 11680 (by decide)) (e 2016 (by decide)) (e 11808 (by decide)) (e 2080 (by decide)) RB), (f_W (e 2080 (by decide)) RW), (f_A (fun s a b => congrFun (e 1927 (by decide)) s) (fun s a b c => s6603 s (by omega)) RA), (f_T F (congrFun (e 1927 (by decide)) 0) (congrFun (e 1927 (by decide)) 13) (e 11872 (by decide)) (e 11936 (by decide)) (e 2528 (by decide)) RT), (f_I F (congrFun (e 1927 (by decide)) 13) (e 2528 (by decide)) RI), c1, (f_Ab (e 11744 (by decide)) (e 2656 (by decide)) RAB), (f_Sd (congrFun (e 64 (by decide)) 16) (s6603 61 (by decide)) (e 11488 (by decide)) (e 6432 (by decide)) RSD), (f_Ch F (congrFun (e 836 (by decide)) 4) (e 12384 (by decide)) (e 3104 (by decide)) (e 12448 (by decide)) (e 3040 (by decide)) (e 12512 (by decide)) (e 3168 (by decide)) (e 928 (by decide)) (e 12576 (by decide)) (e 3232 (by decide)) (s6603 86 (by decide)) (congrFun (e 2953 (by decide)) 6) RCH), (f_Pc F (congrFun (e 836 (by decide)) 4) (congrFun (e 2953 (by decide)) 1) (e 3232 (by decide)) RPC), (f_Rw D RRW), (f_Mk D (congrFun (e 836 (by decide)) 4) (e 1120 (by decide)) (e 10208 (by decide)) (e 928 (by decide)) RMK), (f_Gv D (congrFun (e 64 (by decide)) 10) (congrFun (e 64 (by decide)) 11) (s6603 58 (by decide)) (s6603 59 (by decide)) RGV), (f_Mi F (s6603 55 (by decide)) (congrFun (e 1157 (by decide)) 15) (congrFun (e 64 (by decide)) 12) (s6603 53 (by decide)) (s2568 1 (by decide)) RMI), (f_Vl D RVL), (f_Rm D RRM), (f_It D (congrFun (e 836 (by decide)) 4) (e 928 (by decide)) RIT)⟩, UU, (e 50 (by decide))⟩
theorem st_build {d : Nat} {h : HV} {most : Int} (R : RB h) : Sp fz1 (d + 7) 252 [(3, 64), (0, most)] h (fun x h1 => h1 50 = h 50 ∧ Sp fz1 (d + 7) 421 [(3, 6603), (0, most)] h1 (fun y h2 => x = y ∧ RB h2 ∧ UF h h2 ∧ h2 50 = h 50)) := by
  have RR := R
  obtain ⟨RX, RG, RU, RL, RM, RTP, RP, RB, RW, RA, RT, RI, RV, RAB, RSD, RCH, RPC, RRW, RMK, RGV, RMI, RVL, RRM, RIT⟩ := R
  refine (op_build RX RU RB RL RM RW RG RA RT RI RV).imp fun x h1 ⟨s, H⟩ => ⟨s, H.imp fun y h2 ⟨q, c1, c2, c3, c4, w, w1, w2, w3⟩ => ?_⟩
  subst q
  have e : ∀ a, a ≠ 1927 ∧ a ≠ 2144 ∧ a ≠ 2208 ∧ a ≠ 2272 ∧ a ≠ 2336 ∧ a ≠ 2400 ∧ a ≠ 2464 ∧ a ≠ 2528 ∧ a ≠ 2568 ∧ a ≠ 6603 ∧ a ≠ 12000 ∧ a ≠ 12064 ∧ a ≠ 12128 ∧ a ≠ 12192 ∧ a ≠ 12256 ∧ a ≠ 12320 ∧ a ≠ 11872 ∧ a ≠ 11936 → h2 a = h a := fun a q => w a (by unfold MBd CLb RLb; omega)
  have s1927 : ∀ s, s ≠ 10 ∧ s ≠ 12 ∧ s ≠ 13 ∧ s ≠ 14 ∧ s ≠ 15 → h2 1927 s = h 1927 s := fun s q => w1 s q.1 q.2.1 q.2.2.1 q.2.2.2.1 q.2.2.2.2
  have s2568 : ∀ s, s ≠ 4 → h2 2568 s = h 2568 s := w2
  have s6603 : ∀ s, s ≠ 69 ∧ s ≠ 70 ∧ s ≠ 71 ∧ s ≠ 72 ∧ s ≠ 73 → h2 6603 s = h 6603 s := fun s q => w3 s q.1 q.2.1 q.2.2.1 q.2.2.2.1 q.2.2.2.2
  have DNe : ∀ a, DN a → h2 a = h a := fun a q => e a (by unfold DN at q; omega)
  have D := dyf_of RRW RVL DNe (s6603 30 (by decide))
  have UU := uf_of RVL DNe (congrFun (e 64 (by decide)) 8) (congrFun (e 64 (by decide)) 9) (s6603 9 (by decide)) (s6603 10 (by decide))
  have F := uf_tx RX UU
  exact ⟨rfl, ⟨(f_X F RX), (f_G F RG), (f_U F RU), (f_L F RL), (f_M F RM), (f_TP (congrFun (e 129 (by decide)) 1) (s6603 1 (by decide)) (e 6691 (by decide)) (e 227 (by decide)) RTP), (f_P (s6603 25 (by decide)) (congrFun (e 836 (by decide)) 4) (e 10016 (by decide)) (e 928 (by decide)) (e 10080 (by decide)) (e 992 (by decide)) (e 10144 (by decide)) (e 1056 (by decide)) RP), (f_B (s6603 65 (by decide)) (s1927 1 (by decide)) (e 11680 (by decide)) (e 2016 (by decide)) (e 11808 (by decide)) (e 2080 (by decide)) RB), (f_W (e 2080 (by decide)) RW), c1, c2, c3, c4, (f_Ab (e 11744 (by decide)) (e 2656 (by decide)) RAB), (f_Sd (congrFun (e 64 (by decide)) 16) (s6603 61 (by decide)) (e 11488 (by decide)) (e 6432 (by decide)) RSD), (f_Ch F (congrFun (e 836 (by decide)) 4) (e 12384 (by decide)) (e 3104 (by decide)) (e 12448 (by decide)) (e 3040 (by decide)) (e 12512 (by decide)) (e 3168 (by decide)) (e 928 (by decide)) (e 12576 (by decide)) (e 3232 (by decide)) (s6603 86 (by decide)) (congrFun (e 2953 (by decide)) 6) RCH), (f_Pc F (congrFun (e 836 (by decide)) 4) (congrFun (e 2953 (by decide)) 1) (e 3232 (by decide)) RPC), (f_Rw D RRW), (f_Mk D (congrFun (e 836 (by decide)) 4) (e 1120 (by decide)) (e 10208 (by decide)) (e 928 (by decide)) RMK), (f_Gv D (congrFun (e 64 (by decide)) 10) (congrFun (e 64 (by decide)) 11) (s6603 58 (by decide)) (s6603 59 (by decide)) RGV), (f_Mi F (s6603 55 (by decide)) (congrFun (e 1157 (by decide)) 15) (congrFun (e 64 (by decide)) 12) (s6603 53 (by decide)) (s2568 1 (by decide)) RMI), (f_Vl D RVL), (f_Rm D RRM), (f_It D (congrFun (e 836 (by decide)) 4) (e 928 (by decide)) RIT)⟩, UU, (e 50 (by decide))⟩
theorem st_bar {d : Nat} {h : HV} {s p o : Int} (R : RB h) : Sp fz1 (d + 3) 244 [(3, 64), (0, s), (0, p), (0, o)] h (fun x h1 => h1 50 = h 50 ∧ Sp fz1 (d + 3) 418 [(3, 6603), (0, s), (0, p), (0, o)] h1 (fun y h2 => x = y ∧ RB h2 ∧ UF h h2 ∧ h2 50 = h 50)) := by
  have RR := R
  obtain ⟨RX, RG, RU, RL, RM, RTP, RP, RB, RW, RA, RT, RI, RV, RAB, RSD, RCH, RPC, RRW, RMK, RGV, RMI, RVL, RRM, RIT⟩ := R
  refine (op_bar RX RB).imp fun x h1 ⟨s, H⟩ => ⟨s, H.imp fun y h2 ⟨q, c1, w, w1⟩ => ?_⟩
  subst q
  rcases w1 with w1 | ⟨n1, n2, n3, n4, n5, n6, n7⟩
  · subst w1
    exact ⟨rfl, RR, uf_rfl _, rfl⟩
  have e : ∀ a, a ≠ 1927 ∧ a ≠ 2016 ∧ a ≠ 11680 ∧ a ≠ 6603 → h2 a = h a := fun a q => w a q.1 q.2.1 q.2.2.1 q.2.2.2
  have TA : RTa h2 := by
    unfold RTa
    rw [n1, n2, n3, n4]
    exact ⟨by decide, by decide, rfl, rfl, fun w => by omega, fun w => by omega⟩
  have TI : RTi h2 := fun w => by rw [n1] at w; omega
  have TV : RCv h2 := by
    unfold RCv
    rw [n1, n5, e 2568 (by decide)]
    exact ⟨RV.1, ⟨fun w => absurd rfl w, fun w => by omega⟩, fun w => absurd rfl w⟩
  have s1927 : ∀ s, s ≠ 13 ∧ s ≠ 14 → h2 1927 s = h 1927 s := fun s q => n6 s q.1 q.2
  have s6603 : ∀ s, s ≠ 69 ∧ s ≠ 70 ∧ s ≠ 71 → h2 6603 s = h 6603 s := fun s q => n7 s q.1 q.2.1 q.2.2
  have TT : RTt h2 := ⟨by rw [s1927 0 (by decide), e 64 (by decide)]; exact RT.1, fun w => by rw [n1] at w; omega⟩
  have DNe : ∀ a, DN a → h2 a = h a := fun a q => e a (by unfold DN at q; omega)
  have D := dyf_of RRW RVL DNe (s6603 30 (by decide))
  have UU := uf_of RVL DNe (congrFun (e 64 (by decide)) 8) (congrFun (e 64 (by decide)) 9) (s6603 9 (by decide)) (s6603 10 (by decide))
  have F := uf_tx RX UU
  exact ⟨rfl, ⟨(f_X F RX), (f_G F RG), (f_U F RU), (f_L F RL), (f_M F RM), (f_TP (congrFun (e 129 (by decide)) 1) (s6603 1 (by decide)) (e 6691 (by decide)) (e 227 (by decide)) RTP), (f_P (s6603 25 (by decide)) (congrFun (e 836 (by decide)) 4) (e 10016 (by decide)) (e 928 (by decide)) (e 10080 (by decide)) (e 992 (by decide)) (e 10144 (by decide)) (e 1056 (by decide)) RP), c1, (f_W (e 2080 (by decide)) RW), TA, TT, TI, TV, (f_Ab (e 11744 (by decide)) (e 2656 (by decide)) RAB), (f_Sd (congrFun (e 64 (by decide)) 16) (s6603 61 (by decide)) (e 11488 (by decide)) (e 6432 (by decide)) RSD), (f_Ch F (congrFun (e 836 (by decide)) 4) (e 12384 (by decide)) (e 3104 (by decide)) (e 12448 (by decide)) (e 3040 (by decide)) (e 12512 (by decide)) (e 3168 (by decide)) (e 928 (by decide)) (e 12576 (by decide)) (e 3232 (by decide)) (s6603 86 (by decide)) (congrFun (e 2953 (by decide)) 6) RCH), (f_Pc F (congrFun (e 836 (by decide)) 4) (congrFun (e 2953 (by decide)) 1) (e 3232 (by decide)) RPC), (f_Rw D RRW), (f_Mk D (congrFun (e 836 (by decide)) 4) (e 1120 (by decide)) (e 10208 (by decide)) (e 928 (by decide)) RMK), (f_Gv D (congrFun (e 64 (by decide)) 10) (congrFun (e 64 (by decide)) 11) (s6603 58 (by decide)) (s6603 59 (by decide)) RGV), (f_Mi F (s6603 55 (by decide)) (congrFun (e 1157 (by decide)) 15) (congrFun (e 64 (by decide)) 12) (s6603 53 (by decide)) (congrFun (e 2568 (by decide)) 1) RMI), (f_Vl D RVL), (f_Rm D RRM), (f_It D (congrFun (e 836 (by decide)) 4) (e 928 (by decide)) RIT)⟩, UU, (e 50 (by decide))⟩
