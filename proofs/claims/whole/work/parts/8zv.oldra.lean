/-! THE PURE SIDE, 204: the relation where the old text is kept; frames; at the start: printed by wip/tools/gen8zv.py -/
def KEEO (T S o : Int) : Prop := o ≠ 129 ∧ o ≠ 258 ∧ o ≠ 353 ∧ o ≠ 416 ∧ o ≠ 481 ∧ o ≠ 544 ∧ o ≠ 608 ∧ o ≠ 6603 ∧ o ≠ 9505 ∧ o ≠ 9569 ∧ o ≠ 9632 ∧ o ≠ 9696 ∧ o ≠ 9761 ∧ o ≠ 9824 ∧ o ≠ 9888 ∧ o ≠ 9952 ∧ ¬ (T ≤ o ∧ o ≤ T + 1462) ∧ ¬ (S ≤ o ∧ o ≤ S + 1341)
section SM
variable {T S : Int} {h g gr F G : HV}
theorem old_ra (R : RA h) (eT : h 64 9 = T) (eS : h 6603 10 = S) (e : ∀ o, KEEO T S o → G o = h o) (a13 : G 129 1 = 0) (b1 : G 6603 1 = 0 ∧ G 6603 9 = h 6603 9) (s6603 : ∀ i, ¬ (1 ≤ i ∧ i ≤ 8) → i ≠ 9 → i ≠ 12 → i ≠ 13 → i ≠ 15 → i ≠ 19 → i ≠ 24 → G 6603 i = h 6603 i) : RA G ∧ G 50 = h 50 := by
  obtain ⟨⟨RX, RG, RU, RL, RM, RTP, RP, RB, RWW, RAA, RT, RI, RV, RAB, RSD, RCH, RPC, RRW, RMK, RGV, RMI, RVL, RRM, RIT⟩, ⟨K0, N⟩, V, y2, y3, y4, y5⟩ := R
  have y3' := y3
  unfold SPT at y3'
  have kT : 3466 ≤ T ∧ T ≤ 4938 := by omega
  have kS : 6732 ≤ S ∧ S ≤ 8076 := by omega
  have F : TXF h G := ⟨by rw [e 64 (by unfold KEEO; omega)], b1.2, fun x x0 x1 => e _ (by unfold KEEO; omega), fun x x0 x1 => e _ (by unfold KEEO; omega)⟩
  have n1 := RRW.1
  have n2 := RVL
  unfold RW NFA at n1
  unfold RVl NFA at n2
  have D : DYF h G := by
    refine ⟨e _ ?_, e _ ?_, e _ ?_, e _ ?_, e _ ?_, e _ ?_, e _ ?_, e _ ?_, e _ ?_, e _ ?_, s6603 30 (by decide) (by decide) (by decide) (by decide) (by decide) (by decide) (by decide)⟩
    all_goals unfold KEEO
    all_goals omega
  have c1 : RTp G := by
    unfold RTp
    rw [a13, b1.1]
    exact ⟨rfl, by decide, fun i i0 i1 => by omega⟩
  have rp : RPp G := f_P (s6603 25 (by decide) (by decide) (by decide) (by decide) (by decide) (by decide) (by decide)) (congrFun (e 836 (by unfold KEEO; omega)) 4) (e 10016 (by unfold KEEO; omega)) (e 928 (by unfold KEEO; omega)) (e 10080 (by unfold KEEO; omega)) (e 992 (by unfold KEEO; omega)) (e 10144 (by unfold KEEO; omega)) (e 1056 (by unfold KEEO; omega)) RP
  have e64 : G 64 = h 64 := e 64 (by unfold KEEO; omega)
  have e57 : G 1157 = h 1157 := e 1157 (by unfold KEEO; omega)
  have e22 : G 1222 = h 1222 := e 1222 (by unfold KEEO; omega)
  have r10 : G 6603 10 = h 6603 10 := s6603 10 (by decide) (by decide) (by decide) (by decide) (by decide) (by decide) (by decide)
  refine ⟨⟨⟨f_X F RX, f_G F RG, f_U F RU, f_L F RL, f_M F RM, c1, rp, (f_B (s6603 65 (by decide) (by decide) (by decide) (by decide) (by decide) (by decide) (by decide)) (congrFun (e 1927 (by unfold KEEO; omega)) 1) (e 11680 (by unfold KEEO; omega)) (e 2016 (by unfold KEEO; omega)) (e 11808 (by unfold KEEO; omega)) (e 2080 (by unfold KEEO; omega)) RB), (f_W (e 2080 (by unfold KEEO; omega)) RWW), (f_A (fun s a b => congrFun (e 1927 (by unfold KEEO; omega)) s) (fun s a b c => s6603 s (by omega) (by omega) (by omega) (by omega) (by omega) (by omega) (by omega)) RAA), (f_T F (congrFun (e 1927 (by unfold KEEO; omega)) 0) (congrFun (e 1927 (by unfold KEEO; omega)) 13) (e 11872 (by unfold KEEO; omega)) (e 11936 (by unfold KEEO; omega)) (e 2528 (by unfold KEEO; omega)) RT), (f_I F (congrFun (e 1927 (by unfold KEEO; omega)) 13) (e 2528 (by unfold KEEO; omega)) RI), (f_V F (congrFun (e 2568 (by unfold KEEO; omega)) 4) (congrFun (e 1927 (by unfold KEEO; omega)) 13) (s6603 71 (by decide) (by decide) (by decide) (by decide) (by decide) (by decide) (by decide)) (e 12896 (by unfold KEEO; omega)) (e 2720 (by unfold KEEO; omega)) RV), (f_Ab (e 11744 (by unfold KEEO; omega)) (e 2656 (by unfold KEEO; omega)) RAB), (f_Sd (congrFun (e 64 (by unfold KEEO; omega)) 16) (s6603 61 (by decide) (by decide) (by decide) (by decide) (by decide) (by decide) (by decide)) (e 11488 (by unfold KEEO; omega)) (e 6432 (by unfold KEEO; omega)) RSD), (f_Ch F (congrFun (e 836 (by unfold KEEO; omega)) 4) (e 12384 (by unfold KEEO; omega)) (e 3104 (by unfold KEEO; omega)) (e 12448 (by unfold KEEO; omega)) (e 3040 (by unfold KEEO; omega)) (e 12512 (by unfold KEEO; omega)) (e 3168 (by unfold KEEO; omega)) (e 928 (by unfold KEEO; omega)) (e 12576 (by unfold KEEO; omega)) (e 3232 (by unfold KEEO; omega)) (s6603 86 (by decide) (by decide) (by decide) (by decide) (by decide) (by decide) (by decide)) (congrFun (e 2953 (by unfold KEEO; omega)) 6) RCH), (f_Pc F (congrFun (e 836 (by unfold KEEO; omega)) 4) (congrFun (e 2953 (by unfold KEEO; omega)) 1) (e 3232 (by unfold KEEO; omega)) RPC), (f_Rw D RRW), (f_Mk D (congrFun (e 836 (by unfold KEEO; omega)) 4) (e 1120 (by unfold KEEO; omega)) (e 10208 (by unfold KEEO; omega)) (e 928 (by unfold KEEO; omega)) RMK), (f_Gv D (congrFun (e 64 (by unfold KEEO; omega)) 10) (congrFun (e 64 (by unfold KEEO; omega)) 11) (s6603 58 (by decide) (by decide) (by decide) (by decide) (by decide) (by decide) (by decide)) (s6603 59 (by decide) (by decide) (by decide) (by decide) (by decide) (by decide) (by decide)) RGV), (f_Mi F (s6603 55 (by decide) (by decide) (by decide) (by decide) (by decide) (by decide) (by decide)) (congrFun (e 1157 (by unfold KEEO; omega)) 15) (congrFun (e 64 (by unfold KEEO; omega)) 12) (s6603 53 (by decide) (by decide) (by decide) (by decide) (by decide) (by decide) (by decide)) (congrFun (e 2568 (by unfold KEEO; omega)) 1) RMI), (f_Vl D RVL), (f_Rm D RRM), (f_It D (congrFun (e 836 (by unfold KEEO; omega)) 4) (e 928 (by unfold KEEO; omega)) RIT)⟩, ⟨K0, env_of N (by rw [mix_h]; exact rp) (by rw [e57]) (fun x x0 x1 => e _ (by unfold KEEO; omega)) b1.2 (fun x x0 x1 => e _ (by unfold KEEO; omega))⟩, ?_, by rw [e57, e64]; exact y2, ?_, by rw [e57]; exact y4, fun a w => by rw [e a (by unfold KEEO; omega)]; exact y5 a w⟩, e 50 (by unfold KEEO; omega)⟩
  · have v0 : G (h 1222 0) = h (h 1222 0) := D.2.2.2.2.2.1
    have v1 : G (h 1222 1) = h (h 1222 1) := D.2.2.2.2.2.2.1
    have e0 : G 0 = h 0 := D.2.2.1
    unfold VOK at *
    rw [e22, v0, v1, e0]
    exact V
  · unfold SPT
    rw [e64, b1.2, r10]
    exact y3
/-- what other operations keep -/
theorem ra_uf (h h2 : HV) (R : RA h) (B : RB h2) (U : UF h h2) : RA h2 := by
  obtain ⟨R0, ⟨K0, N⟩, V, y2, y3, y4, y5⟩ := R
  obtain ⟨u1, u2, u3, u4, u5, u6, u7, u8⟩ := U
  have y3' := y3
  unfold SPT at y3'
  have B0 := B
  obtain ⟨-, -, -, -, -, -, rp, -, -, -, -, -, -, -, -, -, -, -, -, -, -, RVL, -, -⟩ := B
  have e57 : h2 1157 = h 1157 := u1 _ (by unfold KO; omega)
  have e22 : h2 1222 = h 1222 := u1 _ (by unfold KO; omega)
  refine ⟨B0, ⟨K0, env_of N (by rw [mix_h]; exact rp) (by rw [e57]) (fun x x0 x1 => u1 _ (by unfold KO; omega)) u4 (fun x x0 x1 => u1 _ (by unfold KO; omega))⟩, ?_, by rw [e57, u2]; exact y2, ?_, by rw [e57]; exact y4, fun a w => by rw [u1 a (by unfold KO; omega)]; exact y5 a w⟩
  · have n := RVL.1
    have n2 := RVL.2.1
    unfold VOK at *
    rw [e22] at n n2 ⊢
    rw [u6, u7]
    exact ⟨n, n2, V.2.2⟩
  · unfold SPT
    rw [u2, u3, u4, u5]
    exact y3
end SM
