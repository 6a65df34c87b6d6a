/-! THE PURE SIDE, 159: reals in exps on both sides: printed by wip/tools/gen8l.py -/
theorem rr_sign {f : FP.Core.Fmt} {num den : Nat} {e : Int} : (∃ c q, FP.Core.roundRatio f false num den e = .fin false c q) ∨ FP.Core.roundRatio f false num den e = .inf false := by
  unfold FP.Core.roundRatio FP.Core.roundAt FP.Core.settle FP.Core.bound
  split
  · exact .inl ⟨_, _, rfl⟩
  · split
    · split
      · exact .inl ⟨_, _, rfl⟩
      · exact .inr rfl
    · split
      · exact .inl ⟨_, _, rfl⟩
      · exact .inr rfl
theorem l2d_sign {D : Int} (h0 : 0 ≤ D) (hD : D < 9007199254740992) : (∃ c q, FP.Core.val64 (FP.l2d (Int64.ofInt D)) = .fin false c q) ∨ FP.Core.val64 (FP.l2d (Int64.ofInt D)) = .inf false := by
  rw [FP.Core.val64_l2d]
  have e : (Int64.ofInt D).toInt = D := Int64.toInt_ofInt_of_le (by omega) (by omega)
  rw [e]
  unfold FP.Core.ofInt FP.Core.round
  rw [show decide (D < 0) = false from decide_eq_false (by omega)]
  exact rr_sign
theorem ten_val {k : Nat} (hk : k ≤ 4) : ∃ c q, FP.Core.val64 (FP.l2d (Int64.ofInt ((10 ^ k : Nat) : Int))) = .fin false c q ∧ c ≠ 0 := by
  rcases (show k = 0 ∨ k = 1 ∨ k = 2 ∨ k = 3 ∨ k = 4 by omega) with rfl | rfl | rfl | rfl | rfl
  · exact ⟨4503599627370496, -52, by decide +kernel, by decide⟩
  · exact ⟨5629499534213120, -49, by decide +kernel, by decide⟩
  · exact ⟨7036874417766400, -46, by decide +kernel, by decide⟩
  · exact ⟨8796093022208000, -43, by decide +kernel, by decide⟩
  · exact ⟨5497558138880000, -39, by decide +kernel, by decide⟩
theorem div_sign {D : Int} {k : Nat} (h0 : 0 ≤ D) (hD : D < 9007199254740992) (hk : k ≤ 4) : (∃ c q, FP.Core.val64 (FP.ddiv (FP.l2d (Int64.ofInt D)) (FP.l2d (Int64.ofInt ((10 ^ k : Nat) : Int)))) = .fin false c q) ∨ FP.Core.val64 (FP.ddiv (FP.l2d (Int64.ofInt D)) (FP.l2d (Int64.ofInt ((10 ^ k : Nat) : Int)))) = .inf false := by
  obtain ⟨c, q, e2, hc⟩ := ten_val hk
  rw [FP.Core.val64_ddiv, e2]
  rcases l2d_sign h0 hD with ⟨c2, q2, w⟩ | w
  · rw [w]
    unfold FP.Core.quotient
    simp only [if_neg hc, bne_self_eq_false]
    exact rr_sign
  · rw [w]
    exact .inr rfl
theorem div_real {D : Int} {k : Nat} (h0 : 0 ≤ D) (hD : D < 9007199254740992) (hk : k ≤ 4) : cn (FP.ddiv (FP.l2d (Int64.ofInt D)) (FP.l2d (Int64.ofInt ((10 ^ k : Nat) : Int)))) = d_I (FP.ddiv (FP.l2d (Int64.ofInt D)) (FP.l2d (Int64.ofInt ((10 ^ k : Nat) : Int)))) ∧ CANR (d_I (FP.ddiv (FP.l2d (Int64.ofInt D)) (FP.l2d (Int64.ofInt ((10 ^ k : Nat) : Int))))) ∧ 0 ≤ d_I (FP.ddiv (FP.l2d (Int64.ofInt D)) (FP.l2d (Int64.ofInt ((10 ^ k : Nat) : Int)))) := by
  have w := div_sign h0 hD hk
  generalize FP.ddiv (FP.l2d (Int64.ofInt D)) (FP.l2d (Int64.ofInt ((10 ^ k : Nat) : Int))) = u at *
  have nn : FP.Core.val64 u ≠ .nan := by
    rcases w with ⟨c, q, w⟩ | w <;> rw [w] <;> exact fun z => by cases z
  have L := dI_L u
  have ev : dv (d_I u) = FP.Core.val64 u := by
    unfold dv
    rw [dU_dI]
  refine ⟨by unfold cn; rw [if_neg nn], ⟨L, .inr (by rw [dU_dI]; exact nn)⟩, ?_⟩
  rw [← ev, dv_def L] at w
  have key : decide (d_I u < 0) = false := by
    split at w
    · split at w
      · rcases w with ⟨c, q, w⟩ | w
        · cases w
        · injection w
      · rcases w with ⟨c, q, w⟩ | w <;> cases w
    · split at w
      · rcases w with ⟨c, q, w⟩ | w
        · injection w
        · cases w
      · rcases w with ⟨c, q, w⟩ | w
        · injection w
        · cases w
  have := of_decide_eq_false key
  omega
