/-! SOUNDNESS, 11: one instruction; a block -/
theorem chk_cons {k pc : Nat} {ri : Instr} {hh : Nat × Nat} {is : List Instr} {hs : List (Nat × Nat)} (ha : ri ≠ .athrow) (hg : ¬ ∃ t w, ri = .goto t ∧ hh = (99, w)) (h : chkB k pc (ri :: is) (hh :: hs) = true) : ∃ i ln, decode (ck k) pc = .ok (i, ln) ∧ chkI k pc hh ri i ln = true ∧ (endI ri = false → chkB k (pc + ln) is hs = true) := by
  rw [chkB.eq_def] at h
  split at h
  · first
      | (rename_i e1 e2; cases e1; exact absurd rfl ha)
      | (rename_i e1; cases e1; exact absurd rfl ha)
      | simp_all
  · rename_i e1 e2
    cases e1
    cases e2
    split at h
    · exact absurd ⟨_, _, rfl, rfl⟩ hg
    · split at h
      · rename_i i ln hd
        rw [Bool.and_eq_true] at h
        refine ⟨i, ln, hd, h.1, fun he => ?_⟩
        have h2 := h.2
        split at h2 <;> first
          | exact absurd he (by decide)
          | exact h2
          | (exfalso; revert he; simp [endI])
      · cases h
  · cases h
theorem xs_end {α : Type} {chk : Prop → α → α} {br : Prop → α → α → α} {F : α} {fz : Int → Int → Option Int} {ri : Instr} (he : endI ri = true) (C : Nat → List AV → HV → (Int → HV → α) → α) (J : Nat → List AV → List AV → HV → α) (R : Nat → Int → HV → α) (K K' : List AV → List AV → HV → α) (ls st : List AV) (h : HV) : xs chk br F fz C J R K ri ls st h = xs chk br F fz C J R K' ri ls st h := by
  cases ri <;> first
    | exact absurd he Bool.false_ne_true
    | (unfold xs; split <;> first | rfl | contradiction)
section KC3
variable {p : Program} {l : Launch} {e : Env} {R : Room} {s : State} {m : MethodId} {args : Array Value} {below : List Frame} {meth : Method} {c : Code} {Q : State → Prop}
variable {fz : Int → Int → Option Int} {base : Nat} {H0 : Heap} {hI : HV} {dC : Nat → ClassId} {dI : Nat → Nat → Nat} {vF : Value} {adS adV : Nat → Nat} {bS : Nat} {hE : HV} {al0 : Int → Prop} {ad0 : Int → Nat}
variable {len : List Nat} {byt : List (List Int32)} {L : Nat} {sx : Nat → Int32}
/-- the ends of method k with the answer r0 in the heap hE -/
def Ends (p : Program) (l : Launch) (e : Env) (R : Room) (s : State) (m : MethodId) (args : Array Value) (below : List Frame) (meth : Method) (c : Code) (Q : State → Prop) (S : (Int → Prop) → (Int → Nat) → HV → Heap → List Loc → Nat → Nat → List AV → List AV → Array Slot → List Value → Prop) (k : Nat) (r0 : Int) (hE : HV) : Prop :=
  (∀ (pc : Nat) (ls : List AV) (x : Int), decode (ck k) pc = .ok (.ireturn, 1) → (rn k = 0 ∧ x = r0) ∨ (rn k = 4 ∧ x % 2 = r0) ∨ (rn k = 5 ∧ x % 65536 = r0) ∨ (rn k = 6 ∧ w8 x = r0) → Kn p l e R s m args below meth c Q S pc ls [(0, x)] hE) ∧
  (∀ (pc : Nat) (ls : List AV), decode (ck k) pc = .ok (.lreturn, 1) → rn k = 1 → Kn p l e R s m args below meth c Q S pc ls [(1, r0)] hE) ∧
  (∀ (pc : Nat) (ls : List AV), decode (ck k) pc = .ok (.dreturn, 1) → rn k = 2 → Kn p l e R s m args below meth c Q S pc ls [(2, r0)] hE) ∧
  (∀ (pc : Nat) (ls : List AV), decode (ck k) pc = .ok (.areturn, 1) → rn k = 3 → Kn p l e R s m args below meth c Q S pc ls [(3, r0)] hE) ∧
  (∀ (pc : Nat) (ls : List AV), decode (ck k) pc = .ok (.return_, 1) → rn k = 7 → Kn p l e R s m args below meth c Q S pc ls [] hE)
theorem one_ins {k d n : Nat} (F : FC p R s m args meth c fz base H0 hI dC dI vF adS adV bS len byt L sx k d) (hC : MetM fz base H0 hI dC dI vF adS adV bS len byt L sx l n) (hOM : ∀ k, 0 < k → k < 445 → OM k) {r0 : Int} (hR : Ends p l e R s m args below meth c Q (ST fz base H0 hI dC dI vF adS adV bS s R hE al0 ad0) k r0 hE)
    {ri i : Instr} {pc ln : Nat} {hh : Nat × Nat} {K : List AV → List AV → HV → Option (Int × HV)} {ls st : List AV} {h : HV} (hdg : decode (ck k) pc = .ok (i, ln)) (hls : ls.length = ml k)
    (hup : ∀ ls st h, 1 ≤ h 0 0 → K ls st h = some (r0, hE) → h 0 0 ≤ hE 0 0 ∧ h 0 1 ≤ hE 0 1) (kkk : ∀ ls st h, ls.length = ml k → K ls st h = some (r0, hE) → Kn p l e R s m args below meth c Q (ST fz base H0 hI dC dI vF adS adV bS s R hE al0 ad0) (pc + ln) ls st h)
    (jj : ∀ b ls st h, b < (hk k).length → ls.length = ml k → JJ fz n d k b ls st h = some (r0, hE) → Kn p l e R s m args below meth c Q (ST fz base H0 hI dC dI vF adS adV bS s R hE al0 ad0) (pcs k b) ls st h) :
    chkI k pc hh ri i ln = true → xs ochk oif none fz (CC fz n d) (JJ fz n d k) RR K ri ls st h = some (r0, hE) → Kn p l e R s m args below meth c Q (ST fz base H0 hI dC dI vF adS adV bS s R hE al0 ad0) pc ls st h := by
  unfold xs
  split
  · -- .iconst v, st
    intro hchk hrun
    rename_i st_ v_
    have hq : c_iconst k pc hh v_ i ln = true := hchk
    unfold c_iconst at hq
    split at hq
    · simp only [Bool.and_eq_true, decide_eq_true_eq] at hq
      obtain ⟨⟨rfl, rfl⟩, hq⟩ := hq
      exact k_iconst F.hx F.hb hq hdg (kkk _ _ _ hls hrun)
    · simp only [Bool.and_eq_true, decide_eq_true_eq] at hq
      obtain ⟨⟨rfl, rfl⟩, hq⟩ := hq
      exact k_bipush F.hx F.hb hq hdg (kkk _ _ _ hls hrun)
    · simp only [Bool.and_eq_true, decide_eq_true_eq] at hq
      obtain ⟨⟨rfl, rfl⟩, hq⟩ := hq
      exact k_sipush F.hx F.hb hq hdg (kkk _ _ _ hls hrun)
    · simp only [Bool.and_eq_true, decide_eq_true_eq, r32] at hq
      obtain ⟨⟨rfl, hq⟩, hw⟩ := hq
      exact k_ldc F.hx F.hb F.own hq (F.hts _ (wrd_big hw (gw_constant _ _ _))) hdg (kkk _ _ _ hls hrun)
    · simp only [Bool.and_eq_true, decide_eq_true_eq, r32] at hq
      obtain ⟨⟨rfl, hq⟩, hw⟩ := hq
      exact k_ldc_w F.hx F.hb F.own hq (F.hts _ (wrd_big hw (gw_constant _ _ _))) hdg (kkk _ _ _ hls hrun)
    · simp only [Bool.and_eq_true, decide_eq_true_eq] at hq
      obtain ⟨⟨rfl, rfl⟩, hw⟩ := hq
      exact k_getC F.hx F.hb F.own F.hts F.hF (wrd_big hw (gw_fieldLink _ _ _ _ _)) hdg (kkk _ _ _ hls hrun)
    · cases hq
  · -- .bipush v, st
    intro hchk hrun
    rename_i st_ v_
    have hq : c_bipush k pc hh v_ i ln = true := hchk
    unfold c_bipush at hq
    split at hq
    · simp only [Bool.and_eq_true, decide_eq_true_eq] at hq
      obtain ⟨rfl, hq⟩ := hq
      exact k_lconst F.hx F.hb hq hdg (kkk _ _ _ hls hrun)
    · simp only [Bool.and_eq_true, decide_eq_true_eq, r64] at hq
      obtain ⟨⟨rfl, hq⟩, hw⟩ := hq
      exact k_ldc2 F.hx F.hb F.own hq (F.hts _ (wrd_big hw (gw_constantL _ _ _))) hdg (kkk _ _ _ hls hrun)
    · cases hq
  · -- .sipush v, st
    intro hchk hrun
    rename_i st_ v_
    have hq : c_sipush k pc hh v_ i ln = true := hchk
    unfold c_sipush at hq
    split at hq
    · simp only [Bool.and_eq_true, decide_eq_true_eq] at hq
      obtain ⟨⟨rfl, rfl⟩, rfl⟩ := hq
      exact k_dconst F.hx F.hb hdg (kkk _ _ _ hls hrun)
    · simp only [Bool.and_eq_true, decide_eq_true_eq, r64] at hq
      obtain ⟨⟨rfl, hq⟩, hw⟩ := hq
      exact k_ldc2d F.hx F.hb F.own hq (F.hts _ (wrd_big hw (gw_constantD _ _ _))) hdg (kkk _ _ _ hls hrun)
    · cases hq
  · -- .jsr v, st
    intro hchk hrun
    rename_i st_ v_
    have hq : c_jsr k pc hh v_ i ln = true := hchk
    unfold c_jsr at hq
    split at hq
    · simp only [Bool.and_eq_true, decide_eq_true_eq] at hq
      obtain ⟨⟨rfl, rfl⟩, hw⟩ := hq
      exact k_getF F.hx F.hb F.own F.hts F.hF (wrd_big hw (gw_fieldLink _ _ _ _ _)) hdg (kkk _ _ _ hls hrun)
    · simp only [Bool.and_eq_true, decide_eq_true_eq] at hq
      obtain ⟨⟨⟨rfl, hq⟩, hw⟩, he⟩ := hq
      generalize hj : ((-v_ - 51) / 128).toNat = j at hw he
      have hj' : j < 48 := SRL_lt _ hw
      have hv : v_ = sid j := he
      subst hv
      exact k_ldcS F.hx F.hb hj' F.own F.hF hw (Or.inl ⟨rfl, hdg⟩) (kkk _ _ _ hls hrun)
    · simp only [Bool.and_eq_true, decide_eq_true_eq] at hq
      obtain ⟨⟨⟨rfl, hq⟩, hw⟩, he⟩ := hq
      generalize hj : ((-v_ - 51) / 128).toNat = j at hw he
      have hj' : j < 48 := SRL_lt _ hw
      have hv : v_ = sid j := he
      subst hv
      exact k_ldcS F.hx F.hb hj' F.own F.hF hw (Or.inr ⟨rfl, hdg⟩) (kkk _ _ _ hls hrun)
    · cases hq
  · -- .iload n, st
    intro hchk hrun
    rename_i st_ n_
    split at hrun
    · rename_i x_ hv
      have hq : c_iload k pc hh n_ i ln = true := hchk
      unfold c_iload at hq
      split at hq
      · simp only [Bool.and_eq_true, decide_eq_true_eq] at hq
        obtain ⟨rfl, rfl⟩ := hq
        exact k_iload F.hx F.hb hv hdg (kkk _ _ _ hls hrun)
      · simp only [Bool.and_eq_true, decide_eq_true_eq] at hq
        obtain ⟨rfl, hq⟩ := hq
        exact k_iload_n F.hx F.hb hq hv hdg (kkk _ _ _ hls hrun)
      · cases hq
    · cases hrun
  · -- .lload n, st
    intro hchk hrun
    rename_i st_ n_
    split at hrun
    · rename_i x_ hv
      have hq : c_lload k pc hh n_ i ln = true := hchk
      unfold c_lload at hq
      split at hq
      · simp only [Bool.and_eq_true, decide_eq_true_eq] at hq
        obtain ⟨rfl, rfl⟩ := hq
        exact k_lload F.hx F.hb hv hdg (kkk _ _ _ hls hrun)
      · simp only [Bool.and_eq_true, decide_eq_true_eq] at hq
        obtain ⟨rfl, hq⟩ := hq
        exact k_lload_n F.hx F.hb hq hv hdg (kkk _ _ _ hls hrun)
      · cases hq
    · cases hrun
  · -- .dload n, st
    intro hchk hrun
    rename_i st_ n_
    split at hrun
    · rename_i x_ hv
      have hq : c_dload k pc hh n_ i ln = true := hchk
      unfold c_dload at hq
      split at hq
      · simp only [Bool.and_eq_true, decide_eq_true_eq] at hq
        obtain ⟨rfl, rfl⟩ := hq
        exact k_dload F.hx F.hb hv hdg (kkk _ _ _ hls hrun)
      · simp only [Bool.and_eq_true, decide_eq_true_eq] at hq
        obtain ⟨rfl, hq⟩ := hq
        exact k_dload_n F.hx F.hb hq hv hdg (kkk _ _ _ hls hrun)
      · cases hq
    · cases hrun
  · -- .aload n, st
    intro hchk hrun
    rename_i st_ n_
    split at hrun
    · rename_i x_ hv
      have hq : c_aload k pc hh n_ i ln = true := hchk
      unfold c_aload at hq
      split at hq
      · simp only [Bool.and_eq_true, decide_eq_true_eq] at hq
        obtain ⟨rfl, rfl⟩ := hq
        exact k_aload F.hx F.hb F.hvF hv hdg (kkk _ _ _ hls hrun)
      · simp only [Bool.and_eq_true, decide_eq_true_eq] at hq
        obtain ⟨rfl, hq⟩ := hq
        exact k_aload_n F.hx F.hb F.hvF hq hv hdg (kkk _ _ _ hls hrun)
      · cases hq
    · cases hrun
  · -- .istore n, (0, x) :: r
    intro hchk hrun
    rename_i n_ x_ r_
    have hq : c_istore k pc hh n_ i ln = true := hchk
    unfold c_istore at hq
    split at hq
    · simp only [Bool.and_eq_true, decide_eq_true_eq] at hq
      obtain ⟨⟨rfl, rfl⟩, hq⟩ := hq
      exact k_istore F.hx F.hb F.hvF (by omega) hdg (kkk _ _ _ (by rw [stl_len]; exact hls) hrun)
    · simp only [Bool.and_eq_true, decide_eq_true_eq] at hq
      obtain ⟨⟨rfl, hq1⟩, hq⟩ := hq
      exact k_istore_n F.hx F.hb F.hvF hq1 (by omega) hdg (kkk _ _ _ (by rw [stl_len]; exact hls) hrun)
    · cases hq
  · -- .astore n, (3, x) :: r
    intro hchk hrun
    rename_i n_ x_ r_
    have hq : c_astore k pc hh n_ i ln = true := hchk
    unfold c_astore at hq
    split at hq
    · simp only [Bool.and_eq_true, decide_eq_true_eq] at hq
      obtain ⟨⟨rfl, rfl⟩, hq⟩ := hq
      exact k_astore F.hx F.hb F.hvF (by omega) hdg (kkk _ _ _ (by rw [stl_len]; exact hls) hrun)
    · simp only [Bool.and_eq_true, decide_eq_true_eq] at hq
      obtain ⟨⟨rfl, hq1⟩, hq⟩ := hq
      exact k_astore_n F.hx F.hb F.hvF hq1 (by omega) hdg (kkk _ _ _ (by rw [stl_len]; exact hls) hrun)
    · cases hq
  · -- .lstore n, (1, x) :: r
    intro hchk hrun
    rename_i n_ x_ r_
    have hq : c_lstore k pc hh n_ i ln = true := hchk
    unfold c_lstore at hq
    split at hq
    · simp only [Bool.and_eq_true, decide_eq_true_eq] at hq
      obtain ⟨⟨rfl, rfl⟩, hq⟩ := hq
      exact k_lstore F.hx F.hb F.hvF (by omega) hdg (kkk _ _ _ (by rw [stl2_len _ _ _ (by omega)]; exact hls) hrun)
    · simp only [Bool.and_eq_true, decide_eq_true_eq] at hq
      obtain ⟨⟨rfl, hq1⟩, hq⟩ := hq
      exact k_lstore_n F.hx F.hb F.hvF hq1 (by omega) hdg (kkk _ _ _ (by rw [stl2_len _ _ _ (by omega)]; exact hls) hrun)
    · cases hq
  · -- .dstore n, (2, x) :: r
    intro hchk hrun
    rename_i n_ x_ r_
    have hq : c_dstore k pc hh n_ i ln = true := hchk
    unfold c_dstore at hq
    split at hq
    · simp only [Bool.and_eq_true, decide_eq_true_eq] at hq
      obtain ⟨⟨rfl, rfl⟩, hq⟩ := hq
      exact k_dstore F.hx F.hb F.hvF (by omega) hdg (kkk _ _ _ (by rw [stl2_len _ _ _ (by omega)]; exact hls) hrun)
    · simp only [Bool.and_eq_true, decide_eq_true_eq] at hq
      obtain ⟨⟨rfl, hq1⟩, hq⟩ := hq
      exact k_dstore_n F.hx F.hb F.hvF hq1 (by omega) hdg (kkk _ _ _ (by rw [stl2_len _ _ _ (by omega)]; exact hls) hrun)
    · cases hq
  · -- .iinc n v, st
    intro hchk hrun
    rename_i st_ n_ v_
    split at hrun
    · rename_i x_ hv
      have hq : c_iinc k pc hh n_ v_ i ln = true := hchk
      unfold c_iinc at hq
      split at hq
      · simp only [Bool.and_eq_true, decide_eq_true_eq] at hq
        obtain ⟨⟨rfl, rfl⟩, rfl⟩ := hq
        exact k_iinc F.hx F.hb F.hvF hv hdg (kkk _ _ _ (by rw [stl_len]; exact hls) hrun)
      · cases hq
    · cases hrun
  · -- .dup, (0, x) :: r
    intro hchk hrun
    rename_i x_ r_
    obtain ⟨rfl, rfl⟩ := chk_simple hchk
    exact k_dup0 F.hx F.hb F.hvF (by exact hdg) (kkk _ _ _ hls hrun)
  · -- .dup, (3, x) :: r
    intro hchk hrun
    rename_i x_ r_
    obtain ⟨rfl, rfl⟩ := chk_simple hchk
    exact k_dup3 F.hx F.hb F.hvF (by exact hdg) (kkk _ _ _ hls hrun)
  · -- .dup2, (1, x) :: r
    intro hchk hrun
    rename_i x_ r_
    obtain ⟨rfl, rfl⟩ := chk_simple hchk
    exact k_dup21 F.hx F.hb F.hvF (by exact hdg) (kkk _ _ _ hls hrun)
  · -- .dup2, (0, x) :: (3, y) :: r
    intro hchk hrun
    rename_i x_ y_ r_
    obtain ⟨rfl, rfl⟩ := chk_simple hchk
    exact k_dup203 F.hx F.hb F.hvF (by exact hdg) (kkk _ _ _ hls hrun)
  · -- .pop, (0, _) :: r
    intro hchk hrun
    rename_i u_ r_
    obtain ⟨rfl, rfl⟩ := chk_simple hchk
    exact k_pop0 F.hx F.hb F.hvF (by exact hdg) (kkk _ _ _ hls hrun)
  · -- .pop, (3, _) :: r
    intro hchk hrun
    rename_i u_ r_
    obtain ⟨rfl, rfl⟩ := chk_simple hchk
    exact k_pop3 F.hx F.hb F.hvF (by exact hdg) (kkk _ _ _ hls hrun)
  · -- .iadd, (0, y) :: (0, x) :: r
    intro hchk hrun
    rename_i y_ x_ r_
    obtain ⟨rfl, rfl⟩ := chk_simple hchk
    exact k_iadd F.hx F.hb (by exact hdg) (kkk _ _ _ hls hrun)
  · -- .isub, (0, y) :: (0, x) :: r
    intro hchk hrun
    rename_i y_ x_ r_
    obtain ⟨rfl, rfl⟩ := chk_simple hchk
    exact k_isub F.hx F.hb (by exact hdg) (kkk _ _ _ hls hrun)
  · -- .imul, (0, y) :: (0, x) :: r
    intro hchk hrun
    rename_i y_ x_ r_
    obtain ⟨rfl, rfl⟩ := chk_simple hchk
    exact k_imul F.hx F.hb (by exact hdg) (kkk _ _ _ hls hrun)
  · -- .idiv, (0, y) :: (0, x) :: r
    intro hchk hrun
    rename_i y_ x_ r_
    obtain ⟨hc, hrun1⟩ := ochk_some hrun
    clear hrun
    have hrun := hrun1
    clear hrun1
    obtain ⟨rfl, rfl⟩ := chk_simple hchk
    exact k_idiv F.hx F.hb hc (by exact hdg) (kkk _ _ _ hls hrun)
  · -- .irem, (0, y) :: (0, x) :: r
    intro hchk hrun
    rename_i y_ x_ r_
    obtain ⟨hc, hrun1⟩ := ochk_some hrun
    clear hrun
    have hrun := hrun1
    clear hrun1
    obtain ⟨rfl, rfl⟩ := chk_simple hchk
    exact k_irem F.hx F.hb hc (by exact hdg) (kkk _ _ _ hls hrun)
  · -- .ineg, (0, x) :: r
    intro hchk hrun
    rename_i x_ r_
    obtain ⟨rfl, rfl⟩ := chk_simple hchk
    exact k_ineg F.hx F.hb (by exact hdg) (kkk _ _ _ hls hrun)
  · -- .iand, (0, y) :: (0, x) :: r
    intro hchk hrun
    rename_i y_ x_ r_
    obtain ⟨rfl, rfl⟩ := chk_simple hchk
    exact k_iand F.hx F.hb (by exact hdg) (kkk _ _ _ hls hrun)
  · -- .ior, (0, y) :: (0, x) :: r
    intro hchk hrun
    rename_i y_ x_ r_
    obtain ⟨rfl, rfl⟩ := chk_simple hchk
    exact k_ior F.hx F.hb (by exact hdg) (kkk _ _ _ hls hrun)
  · -- .ixor, (0, y) :: (0, x) :: r
    intro hchk hrun
    rename_i y_ x_ r_
    obtain ⟨rfl, rfl⟩ := chk_simple hchk
    exact k_ixor F.hx F.hb (by exact hdg) (kkk _ _ _ hls hrun)
  · -- .ishl, (0, y) :: (0, x) :: r
    intro hchk hrun
    rename_i y_ x_ r_
    obtain ⟨rfl, rfl⟩ := chk_simple hchk
    exact k_ishl F.hx F.hb (by exact hdg) (kkk _ _ _ hls hrun)
  · -- .ishr, (0, y) :: (0, x) :: r
    intro hchk hrun
    rename_i y_ x_ r_
    obtain ⟨rfl, rfl⟩ := chk_simple hchk
    exact k_ishr F.hx F.hb (by exact hdg) (kkk _ _ _ hls hrun)
  · -- .iushr, (0, y) :: (0, x) :: r
    intro hchk hrun
    rename_i y_ x_ r_
    obtain ⟨rfl, rfl⟩ := chk_simple hchk
    exact k_iushr F.hx F.hb (by exact hdg) (kkk _ _ _ hls hrun)
  · -- .ladd, (1, y) :: (1, x) :: r
    intro hchk hrun
    rename_i y_ x_ r_
    obtain ⟨rfl, rfl⟩ := chk_simple hchk
    exact k_ladd F.hx F.hb (by exact hdg) (kkk _ _ _ hls hrun)
  · -- .lsub, (1, y) :: (1, x) :: r
    intro hchk hrun
    rename_i y_ x_ r_
    obtain ⟨rfl, rfl⟩ := chk_simple hchk
    exact k_lsub F.hx F.hb (by exact hdg) (kkk _ _ _ hls hrun)
  · -- .lmul, (1, y) :: (1, x) :: r
    intro hchk hrun
    rename_i y_ x_ r_
    obtain ⟨rfl, rfl⟩ := chk_simple hchk
    exact k_lmul F.hx F.hb (by exact hdg) (kkk _ _ _ hls hrun)
  · -- .ldiv, (1, y) :: (1, x) :: r
    intro hchk hrun
    rename_i y_ x_ r_
    obtain ⟨hc, hrun1⟩ := ochk_some hrun
    clear hrun
    have hrun := hrun1
    clear hrun1
    obtain ⟨rfl, rfl⟩ := chk_simple hchk
    exact k_ldiv F.hx F.hb hc (by exact hdg) (kkk _ _ _ hls hrun)
  · -- .lrem, (1, y) :: (1, x) :: r
    intro hchk hrun
    rename_i y_ x_ r_
    obtain ⟨hc, hrun1⟩ := ochk_some hrun
    clear hrun
    have hrun := hrun1
    clear hrun1
    obtain ⟨rfl, rfl⟩ := chk_simple hchk
    exact k_lrem F.hx F.hb hc (by exact hdg) (kkk _ _ _ hls hrun)
  · -- .lneg, (1, x) :: r
    intro hchk hrun
    rename_i x_ r_
    obtain ⟨rfl, rfl⟩ := chk_simple hchk
    exact k_lneg F.hx F.hb (by exact hdg) (kkk _ _ _ hls hrun)
  · -- .land, (1, y) :: (1, x) :: r
    intro hchk hrun
    rename_i y_ x_ r_
    obtain ⟨rfl, rfl⟩ := chk_simple hchk
    exact k_land F.hx F.hb (by exact hdg) (kkk _ _ _ hls hrun)
  · -- .lor, (1, y) :: (1, x) :: r
    intro hchk hrun
    rename_i y_ x_ r_
    obtain ⟨rfl, rfl⟩ := chk_simple hchk
    exact k_lor F.hx F.hb (by exact hdg) (kkk _ _ _ hls hrun)
  · -- .lxor, (1, y) :: (1, x) :: r
    intro hchk hrun
    rename_i y_ x_ r_
    obtain ⟨rfl, rfl⟩ := chk_simple hchk
    exact k_lxor F.hx F.hb (by exact hdg) (kkk _ _ _ hls hrun)
  · -- .lshl, (0, y) :: (1, x) :: r
    intro hchk hrun
    rename_i y_ x_ r_
    obtain ⟨rfl, rfl⟩ := chk_simple hchk
    exact k_lshl F.hx F.hb (by exact hdg) (kkk _ _ _ hls hrun)
  · -- .lshr, (0, y) :: (1, x) :: r
    intro hchk hrun
    rename_i y_ x_ r_
    obtain ⟨rfl, rfl⟩ := chk_simple hchk
    exact k_lshr F.hx F.hb (by exact hdg) (kkk _ _ _ hls hrun)
  · -- .lushr, (0, y) :: (1, x) :: r
    intro hchk hrun
    rename_i y_ x_ r_
    obtain ⟨rfl, rfl⟩ := chk_simple hchk
    exact k_lushr F.hx F.hb (by exact hdg) (kkk _ _ _ hls hrun)
  · -- .lcmp, (1, y) :: (1, x) :: r
    intro hchk hrun
    rename_i y_ x_ r_
    obtain ⟨rfl, rfl⟩ := chk_simple hchk
    exact k_lcmp F.hx F.hb (by exact hdg) (kkk _ _ _ hls hrun)
  · -- .i2l, (0, x) :: r
    intro hchk hrun
    rename_i x_ r_
    obtain ⟨rfl, rfl⟩ := chk_simple hchk
    exact k_i2l F.hx F.hb (by exact hdg) (kkk _ _ _ hls hrun)
  · -- .l2i, (1, x) :: r
    intro hchk hrun
    rename_i x_ r_
    obtain ⟨rfl, rfl⟩ := chk_simple hchk
    exact k_l2i F.hx F.hb (by exact hdg) (kkk _ _ _ hls hrun)
  · -- .i2b, (0, x) :: r
    intro hchk hrun
    rename_i x_ r_
    obtain ⟨rfl, rfl⟩ := chk_simple hchk
    exact k_i2b F.hx F.hb (by exact hdg) (kkk _ _ _ hls hrun)
  · -- .i2c, (0, x) :: r
    intro hchk hrun
    rename_i x_ r_
    obtain ⟨rfl, rfl⟩ := chk_simple hchk
    exact k_i2c F.hx F.hb (by exact hdg) (kkk _ _ _ hls hrun)
  · -- .l2d, (1, x) :: r
    intro hchk hrun
    rename_i x_ r_
    obtain ⟨rfl, rfl⟩ := chk_simple hchk
    exact k_l2d F.hx F.hb (by exact hdg) (kkk _ _ _ hls hrun)
  · -- .d2i, (2, x) :: r
    intro hchk hrun
    rename_i x_ r_
    obtain ⟨rfl, rfl⟩ := chk_simple hchk
    exact k_d2i F.hx F.hb (by exact hdg) (kkk _ _ _ hls hrun)
  · -- .dneg, (2, x) :: r
    intro hchk hrun
    rename_i x_ r_
    obtain ⟨rfl, rfl⟩ := chk_simple hchk
    exact k_dneg F.hx F.hb (by exact hdg) (kkk _ _ _ hls hrun)
  · -- .dadd, (2, y) :: (2, x) :: r
    intro hchk hrun
    rename_i y_ x_ r_
    obtain ⟨hc, hrun1⟩ := ochk_some hrun
    clear hrun
    have hrun := hrun1
    clear hrun1
    obtain ⟨rfl, rfl⟩ := chk_simple hchk
    exact k_dadd F.hx F.hb hc (by exact hdg) (kkk _ _ _ hls hrun)
  · -- .dsub, (2, y) :: (2, x) :: r
    intro hchk hrun
    rename_i y_ x_ r_
    obtain ⟨hc, hrun1⟩ := ochk_some hrun
    clear hrun
    have hrun := hrun1
    clear hrun1
    obtain ⟨rfl, rfl⟩ := chk_simple hchk
    exact k_dsub F.hx F.hb hc (by exact hdg) (kkk _ _ _ hls hrun)
  · -- .dmul, (2, y) :: (2, x) :: r
    intro hchk hrun
    rename_i y_ x_ r_
    obtain ⟨hc, hrun1⟩ := ochk_some hrun
    clear hrun
    have hrun := hrun1
    clear hrun1
    obtain ⟨rfl, rfl⟩ := chk_simple hchk
    exact k_dmul F.hx F.hb hc (by exact hdg) (kkk _ _ _ hls hrun)
  · -- .ddiv, (2, y) :: (2, x) :: r
    intro hchk hrun
    rename_i y_ x_ r_
    obtain ⟨hc, hrun1⟩ := ochk_some hrun
    clear hrun
    have hrun := hrun1
    clear hrun1
    obtain ⟨rfl, rfl⟩ := chk_simple hchk
    exact k_ddiv F.hx F.hb hc (by exact hdg) (kkk _ _ _ hls hrun)
  · -- .drem, (2, y) :: (2, x) :: r
    intro hchk hrun
    rename_i y_ x_ r_
    obtain ⟨hc, hrun1⟩ := ochk_some hrun
    clear hrun
    have hrun := hrun1
    clear hrun1
    obtain ⟨rfl, rfl⟩ := chk_simple hchk
    exact k_drem F.hx F.hb hc (by exact hdg) (kkk _ _ _ hls hrun)
  · -- .dcmp op, (2, y) :: (2, x) :: r
    intro hchk hrun
    rename_i op_ y_ x_ r_
    obtain ⟨rfl, rfl⟩ := chk_simple hchk
    exact k_dcmp F.hx F.hb (by exact hdg) (kkk _ _ _ hls hrun)
  · -- .d2l, (2, x) :: r
    intro hchk hrun
    rename_i x_ r_
    obtain ⟨hc, hrun1⟩ := ochk_some hrun
    clear hrun
    have hrun := hrun1
    clear hrun1
    have hq : c_d2l k pc hh i ln = true := hchk
    unfold c_d2l at hq
    split at hq
    · simp only [Bool.and_eq_true, decide_eq_true_eq] at hq
      obtain ⟨rfl, hw⟩ := hq
      exact k_d2l F.hx F.hb F.hvF (F.hml.trans hls.symm) F.fr1 F.lo1 F.own F.hts (wrd_big hw (gw_methodLink _ _ _)) hc hdg (kkk _ _ _ hls hrun)
    · cases hq
  · -- .f2d, (1, x) :: r
    intro hchk hrun
    rename_i x_ r_
    obtain ⟨hc, hrun1⟩ := ochk_some hrun
    clear hrun
    have hrun := hrun1
    clear hrun1
    have hq : c_f2d k pc hh i ln = true := hchk
    unfold c_f2d at hq
    split at hq
    · simp only [Bool.and_eq_true, decide_eq_true_eq] at hq
      obtain ⟨rfl, hw⟩ := hq
      exact k_f2d F.hx F.hb F.hvF (F.hml.trans hls.symm) F.fr1 F.lo1 F.own F.hts (wrd_big hw (gw_methodLink _ _ _)) hc hdg (kkk _ _ _ hls hrun)
    · cases hq
  · -- .ifCond c t, (0, x) :: r
    intro hchk hrun
    rename_i c_ t_ x_ r_
    have hq : c_ifCond k pc hh c_ t_ i ln = true := hchk
    unfold c_ifCond at hq
    split at hq
    · simp only [Bool.and_eq_true, decide_eq_true_eq] at hq
      obtain ⟨⟨⟨rfl, rfl⟩, ht⟩, hb⟩ := hq
      exact k_if F.hx F.hb hdg ht (fun hc => jj _ _ _ _ hb hls (oif_l hrun hc)) (fun hc => kkk _ _ _ hls (oif_r hrun hc))
    · cases hq
  · -- .if_icmp c t, (0, y) :: (0, x) :: r
    intro hchk hrun
    rename_i c_ t_ y_ x_ r_
    have hq : c_if_icmp k pc hh c_ t_ i ln = true := hchk
    unfold c_if_icmp at hq
    split at hq
    · simp only [Bool.and_eq_true, decide_eq_true_eq] at hq
      obtain ⟨⟨⟨rfl, rfl⟩, ht⟩, hb⟩ := hq
      exact k_icmp F.hx F.hb hdg ht (fun hc => jj _ _ _ _ hb hls (oif_l hrun hc)) (fun hc => kkk _ _ _ hls (oif_r hrun hc))
    · cases hq
  · -- .goto t, st
    intro hchk hrun
    rename_i st_ t_
    have hq : c_goto k pc hh t_ i ln = true := hchk
    unfold c_goto at hq
    split at hq
    · simp only [Bool.and_eq_true, decide_eq_true_eq] at hq
      obtain ⟨⟨rfl, ht⟩, hb⟩ := hq
      exact k_goto F.hx F.hb hdg ht (jj _ _ _ _ hb hls hrun)
    · cases hq
  · -- .tableswitch d lo _ offs, (0, x) :: r
    intro hchk hrun
    rename_i d_ lo_ u_ offs_ x_ r_
    have hq : c_tableswitch k pc hh d_ lo_ u_ offs_ i ln = true := hchk
    unfold c_tableswitch at hq
    split at hq
    · simp only [Bool.and_eq_true, decide_eq_true_eq] at hq
      obtain ⟨⟨⟨⟨⟨⟨rfl, rfl⟩, hd⟩, ho⟩, hs⟩, hb⟩, hbs⟩ := hq
      exact k_tab F.hx F.hb hdg hd ho hs hb hbs (fun t ht e => jj _ _ _ _ ht hls e) hrun
    · cases hq
  · -- .ireturn, (0, x) :: []
    intro hchk hrun
    rename_i x_
    have hq : c_ireturn k pc hh i ln = true := hchk
    unfold c_ireturn at hq
    split at hq
    · simp only [Bool.and_eq_true, decide_eq_true_eq] at hq
      obtain ⟨rfl, hq⟩ := hq
      cases hrun
      exact hR.1 _ _ _ hdg (Or.inl ⟨hq, rfl⟩)
    · cases hq
  · -- .lreturn, (1, x) :: []
    intro hchk hrun
    rename_i x_
    have hq : c_lreturn k pc hh i ln = true := hchk
    unfold c_lreturn at hq
    split at hq
    · simp only [Bool.and_eq_true, decide_eq_true_eq] at hq
      obtain ⟨rfl, hq⟩ := hq
      cases hrun
      exact hR.2.1 _ _ hdg hq
    · cases hq
  · -- .dreturn, (2, x) :: []
    intro hchk hrun
    rename_i x_
    have hq : c_dreturn k pc hh i ln = true := hchk
    unfold c_dreturn at hq
    split at hq
    · simp only [Bool.and_eq_true, decide_eq_true_eq] at hq
      obtain ⟨rfl, hq⟩ := hq
      cases hrun
      exact hR.2.2.1 _ _ hdg hq
    · cases hq
  · -- .areturn, (3, x) :: []
    intro hchk hrun
    rename_i x_
    have hq : c_areturn k pc hh i ln = true := hchk
    unfold c_areturn at hq
    split at hq
    · simp only [Bool.and_eq_true, decide_eq_true_eq] at hq
      obtain ⟨rfl, hq⟩ := hq
      cases hrun
      exact hR.2.2.2.1 _ _ hdg hq
    · cases hq
  · -- .freturn, (0, x) :: []
    intro hchk hrun
    rename_i x_
    have hq : c_freturn k pc hh i ln = true := hchk
    unfold c_freturn at hq
    split at hq
    · simp only [Bool.and_eq_true, decide_eq_true_eq] at hq
      obtain ⟨rfl, hq⟩ := hq
      cases hrun
      exact hR.1 _ _ _ hdg (Or.inr (Or.inl ⟨hq, rfl⟩))
    · cases hq
  · -- .fneg, (0, x) :: []
    intro hchk hrun
    rename_i x_
    have hq : c_fneg k pc hh i ln = true := hchk
    unfold c_fneg at hq
    split at hq
    · simp only [Bool.and_eq_true, decide_eq_true_eq] at hq
      obtain ⟨rfl, hq⟩ := hq
      cases hrun
      exact hR.1 _ _ _ hdg (Or.inr (Or.inr (Or.inl ⟨hq, rfl⟩)))
    · cases hq
  · -- .fadd, (0, x) :: []
    intro hchk hrun
    rename_i x_
    have hq : c_fadd k pc hh i ln = true := hchk
    unfold c_fadd at hq
    split at hq
    · simp only [Bool.and_eq_true, decide_eq_true_eq] at hq
      obtain ⟨rfl, hq⟩ := hq
      cases hrun
      exact hR.1 _ _ _ hdg (Or.inr (Or.inr (Or.inr ⟨hq, rfl⟩)))
    · cases hq
  · -- .return_, []
    intro hchk hrun
    have hq : c_return_ k pc hh i ln = true := hchk
    unfold c_return_ at hq
    split at hq
    · simp only [Bool.and_eq_true, decide_eq_true_eq] at hq
      obtain ⟨rfl, hq⟩ := hq
      cases hrun
      exact hR.2.2.2.2 _ _ hdg hq
    · cases hq
  · -- .ifnull g, (3, o) :: r
    intro hchk hrun
    rename_i g_ o_ r_
    obtain ⟨hc, hrun1⟩ := ochk_some hrun
    clear hrun
    have hrun := hrun1
    clear hrun1
    have hq : c_ifnull k pc hh g_ i ln = true := hchk
    unfold c_ifnull at hq
    split at hq
    · simp only [Bool.and_eq_true, decide_eq_true_eq] at hq
      obtain ⟨rfl, hq⟩ := hq
      obtain ⟨cn, j, hcn, hj, e1, e2, e3, e4, hw⟩ := fld_use hq
      rw [e1] at hc
      rw [e2] at hrun
      refine k_getf F.hx F.hb F.own F.hts F.hF hcn hj e3 hw hc.1 hc.2 ?_ hdg (kkk _ _ _ hls hrun)
      unfold rd
      rw [F.hZ.2.1 o_ j (by omega) (by omega) (by rw [show (o_ % 64).toNat = cn by omega]; exact e4)]
    · cases hq
  · -- .ifnonnull g, (3, o) :: r
    intro hchk hrun
    rename_i g_ o_ r_
    obtain ⟨hc, hrun1⟩ := ochk_some hrun
    clear hrun
    have hrun := hrun1
    clear hrun1
    have hq : c_ifnonnull k pc hh g_ i ln = true := hchk
    unfold c_ifnonnull at hq
    split at hq
    · simp only [Bool.and_eq_true, Bool.or_eq_true, decide_eq_true_eq] at hq
      obtain ⟨rfl, (hq | hq) | hq⟩ := hq
      · obtain ⟨cn, j, hcn, hj, e1, e2, e3, e4, hw⟩ := fld_use hq
        rw [e1] at hc
        rw [e2] at hrun
        exact k_getf F.hx F.hb F.own F.hts F.hF hcn hj e3 hw hc.1 hc.2 rfl hdg (kkk _ _ _ hls hrun)
      · obtain ⟨rfl, hw⟩ := hq
        exact k_strV F.hx F.hb F.own F.hts F.hF F.hH F.hZ (wrd_big hw (gw_fieldLink _ _ _ _ _)) hc.2 hdg (kkk _ _ _ hls hrun)
      · obtain ⟨rfl, hw⟩ := hq
        exact k_strC F.hx F.hb F.own F.hts F.hF F.hH F.hZ (wrd_big hw (gw_fieldLink _ _ _ _ _)) hc.2 hdg (kkk _ _ _ hls hrun)
    · cases hq
  · -- .jsr_w g, (t, v) :: (3, o) :: r
    intro hchk hrun
    rename_i g_ t_ v_ o_ r_
    obtain ⟨hc, hrun1⟩ := ochk_some hrun
    clear hrun
    have hrun := hrun1
    clear hrun1
    have hq : c_jsr_w k pc hh g_ i ln = true := hchk
    unfold c_jsr_w at hq
    split at hq
    · simp only [Bool.and_eq_true, decide_eq_true_eq] at hq
      obtain ⟨rfl, hq⟩ := hq
      obtain ⟨cn, j, hcn, hj, e1, e2, e3, e4, hw⟩ := fld_use hq
      rw [e1] at hc
      rw [e2] at hrun
      obtain ⟨h0, hk, rfl, hf⟩ := hc
      exact k_putf F.hx F.hb F.hvF F.own F.hts F.hF hcn hj e3 hw h0 hk hf (F.hZ.2.1 o_ j (by omega) (by omega) (by rw [show (o_ % 64).toNat = cn by omega]; exact e4)) (Or.inl e4) hdg (kkk _ _ _ hls hrun)
    · cases hq
  · -- .if_acmp _ g, (t, v) :: (3, o) :: r
    intro hchk hrun
    rename_i u_ g_ t_ v_ o_ r_
    obtain ⟨hc, hrun1⟩ := ochk_some hrun
    clear hrun
    have hrun := hrun1
    clear hrun1
    cases u_ <;> first
      | (exfalso; exact absurd hchk Bool.false_ne_true)
      | skip
    have hq : c_if_acmp k pc hh g_ i ln = true := hchk
    unfold c_if_acmp at hq
    split at hq
    · simp only [Bool.and_eq_true, decide_eq_true_eq] at hq
      obtain ⟨⟨⟨rfl, hq⟩, hin⟩, hown⟩ := hq
      obtain ⟨cn, j, hcn, hj, e1, e2, e3, e4, hw⟩ := fld_use hq
      have hcn' : (g_ / 1024).toNat = cn := by omega
      rw [e1] at hc
      rw [e2] at hrun hc
      rw [hcn'] at hown
      obtain ⟨h0, hk, rfl, hf, hz⟩ := hc
      exact k_putf F.hx F.hb F.hvF F.own F.hts F.hF hcn hj e3 hw h0 hk hf hz (Or.inr ⟨F.nam hin, hown⟩) hdg (kkk _ _ _ hls hrun)
    · cases hq
  · -- .goto_w g, st
    intro hchk hrun
    rename_i st_ g_
    obtain ⟨hc, hrun1⟩ := ochk_some hrun
    clear hrun
    have hrun := hrun1
    clear hrun1
    have hq : c_goto_w k pc hh g_ i ln = true := hchk
    unfold c_goto_w at hq
    split at hq
    · simp only [Bool.and_eq_true, decide_eq_true_eq] at hq
      obtain ⟨⟨⟨⟨rfl, h0⟩, hcn⟩, hN⟩, hw⟩ := hq
      generalize hg : (g_ / 128).toNat = cn at hcn hN hw
      have e1 : g_ / 128 = (cn : Int) := by omega
      rw [e1, ← hN] at hrun
      rw [e1] at hc
      intro al ad H locs cells slots lc sc g
      have h1 := g.1.2.2.2.2.2.2.2
      have hu := hup _ _ _ (by rw [alc_00 h1 (by omega)]; omega) hrun
      rw [alc_00 h1 (by omega), alc_01 h1 (by omega)] at hu
      exact k_new F.hx F.hb F.own F.hts F.hF hcn (wrd_big hw (gw_classLink _ _ _)) hc.2 hu.1 hu.2 hdg (kkk _ _ _ hls hrun) al ad H locs cells slots lc sc g
    · cases hq
  · -- .newarray t, (0, n) :: r
    intro hchk hrun
    rename_i t_ n_ r_
    obtain ⟨hc, hrun1⟩ := ochk_some hrun
    clear hrun
    have hrun := hrun1
    clear hrun1
    have hq : c_newarray k pc hh t_ i ln = true := hchk
    unfold c_newarray at hq
    split at hq
    · simp only [Bool.and_eq_true, Bool.or_eq_true, decide_eq_true_eq] at hq
      obtain ⟨⟨rfl, rfl⟩, ht⟩ := hq
      intro al ad H locs cells slots lc sc g
      have h1 := g.1.2.2.2.2.2.2.2
      have hu := hup _ _ _ (by rw [alc_00 h1 (akd_nn _)]; omega) hrun
      rw [alc_00 h1 (akd_nn _), alc_01 h1 (akd_nn _)] at hu
      exact k_newarray F.hx F.hb F.hts (by rcases ht with (((h | h) | h) | h) | h <;> simp [h]) hc hu.1 hu.2 hdg (kkk _ _ _ hls hrun) al ad H locs cells slots lc sc g
    · cases hq
  · -- .anewarray _, (0, n) :: r
    intro hchk hrun
    rename_i u_ n_ r_
    obtain ⟨hc, hrun1⟩ := ochk_some hrun
    clear hrun
    have hrun := hrun1
    clear hrun1
    have hq : c_anewarray k pc hh u_ i ln = true := hchk
    unfold c_anewarray at hq
    split at hq
    · simp only [Bool.and_eq_true, decide_eq_true_eq] at hq
      obtain ⟨rfl, hw⟩ := hq
      intro al ad H locs cells slots lc sc g
      have h1 := g.1.2.2.2.2.2.2.2
      have hu := hup _ _ _ (by rw [alc_00 h1 (by decide)]; omega) hrun
      rw [alc_00 h1 (by decide), alc_01 h1 (by decide)] at hu
      exact k_anewarray F.hx F.hb F.own F.hts F.hF (wrd_big hw (gw_classLink _ _ _)) hc hu.1 hu.2 hdg (kkk _ _ _ hls hrun) al ad H locs cells slots lc sc g
    · cases hq
  · -- .multianewarray _ _, (0, k) :: (0, n) :: r
    intro hchk hrun
    rename_i u_ w_ k_ n_ r_
    obtain ⟨hc, hrun1⟩ := ochk_some hrun
    clear hrun
    have hrun := hrun1
    clear hrun1
    have hq : c_multianewarray k pc hh u_ w_ i ln = true := hchk
    unfold c_multianewarray at hq
    split at hq
    · simp only [Bool.and_eq_true, decide_eq_true_eq] at hq
      obtain ⟨⟨rfl, rfl⟩, hw⟩ := hq
      intro al ad H locs cells slots lc sc g
      have h1 := g.1.2.2.2.2.2.2.2
      have hu := hup _ _ _ (by rw [alc2_00 h1]; omega) hrun
      rw [alc2_00 h1, alc2_01 h1] at hu
      exact k_multi F.hx F.hb F.own F.hts F.hF (wrd_big hw (gw_classLink _ _ _)) hc hu.1 hu.2 hdg (kkk _ _ _ hls hrun) al ad H locs cells slots lc sc g
    · cases hq
  · -- .arraylength, (3, o) :: r
    intro hchk hrun
    rename_i o_ r_
    obtain ⟨hc, hrun1⟩ := ochk_some hrun
    clear hrun
    have hrun := hrun1
    clear hrun1
    obtain ⟨rfl, rfl⟩ := chk_simple hchk
    exact k_alen F.hx F.hb F.hF F.hH F.hZ hc (by exact hdg) (kkk _ _ _ hls hrun)
  · -- .iaload, (0, i) :: (3, o) :: r
    intro hchk hrun
    rename_i i_ o_ r_
    obtain ⟨hc, hrun1⟩ := ochk_some hrun
    clear hrun
    have hrun := hrun1
    clear hrun1
    obtain ⟨rfl, rfl⟩ := chk_simple hchk
    exact k_iaload F.hx F.hb F.hF F.hH F.hZ hc (by exact hdg) (kkk _ _ _ hls hrun)
  · -- .laload, (0, i) :: (3, o) :: r
    intro hchk hrun
    rename_i i_ o_ r_
    obtain ⟨hc, hrun1⟩ := ochk_some hrun
    clear hrun
    have hrun := hrun1
    clear hrun1
    obtain ⟨rfl, rfl⟩ := chk_simple hchk
    exact k_laload F.hx F.hb F.hZ hc (by exact hdg) (kkk _ _ _ hls hrun)
  · -- .daload, (0, i) :: (3, o) :: r
    intro hchk hrun
    rename_i i_ o_ r_
    obtain ⟨hc, hrun1⟩ := ochk_some hrun
    clear hrun
    have hrun := hrun1
    clear hrun1
    obtain ⟨rfl, rfl⟩ := chk_simple hchk
    exact k_daload F.hx F.hb F.hZ hc (by exact hdg) (kkk _ _ _ hls hrun)
  · -- .baload, (0, i) :: (3, o) :: r
    intro hchk hrun
    rename_i i_ o_ r_
    obtain ⟨hc, hrun1⟩ := ochk_some hrun
    clear hrun
    have hrun := hrun1
    clear hrun1
    obtain ⟨rfl, rfl⟩ := chk_simple hchk
    exact k_baload F.hx F.hb F.hF F.hH F.hZ hc (by exact hdg) (kkk _ _ _ hls hrun)
  · -- .aaload, (0, i) :: (3, o) :: r
    intro hchk hrun
    rename_i i_ o_ r_
    obtain ⟨hc, hrun1⟩ := ochk_some hrun
    clear hrun
    have hrun := hrun1
    clear hrun1
    obtain ⟨rfl, rfl⟩ := chk_simple hchk
    exact k_aaload F.hx F.hb hc (by exact hdg) (kkk _ _ _ hls hrun)
  · -- .iastore, (0, x) :: (0, i) :: (3, o) :: r
    intro hchk hrun
    rename_i x_ i_ o_ r_
    obtain ⟨hc, hrun1⟩ := ochk_some hrun
    clear hrun
    have hrun := hrun1
    clear hrun1
    obtain ⟨rfl, rfl⟩ := chk_simple hchk
    exact k_iastore F.hx F.hb F.hZ hc (by exact hdg) (kkk _ _ _ hls hrun)
  · -- .lastore, (1, x) :: (0, i) :: (3, o) :: r
    intro hchk hrun
    rename_i x_ i_ o_ r_
    obtain ⟨hc, hrun1⟩ := ochk_some hrun
    clear hrun
    have hrun := hrun1
    clear hrun1
    obtain ⟨rfl, rfl⟩ := chk_simple hchk
    exact k_lastore F.hx F.hb F.hZ hc (by exact hdg) (kkk _ _ _ hls hrun)
  · -- .dastore, (2, x) :: (0, i) :: (3, o) :: r
    intro hchk hrun
    rename_i x_ i_ o_ r_
    obtain ⟨hc, hrun1⟩ := ochk_some hrun
    clear hrun
    have hrun := hrun1
    clear hrun1
    obtain ⟨rfl, rfl⟩ := chk_simple hchk
    exact k_dastore F.hx F.hb F.hZ hc (by exact hdg) (kkk _ _ _ hls hrun)
  · -- .bastore, (0, x) :: (0, i) :: (3, o) :: r
    intro hchk hrun
    rename_i x_ i_ o_ r_
    obtain ⟨hc, hrun1⟩ := ochk_some hrun
    clear hrun
    have hrun := hrun1
    clear hrun1
    obtain ⟨rfl, rfl⟩ := chk_simple hchk
    exact k_bastore F.hx F.hb F.hZ hc (by exact hdg) (kkk _ _ _ hls hrun)
  · -- .aastore, (3, x) :: (0, i) :: (3, o) :: r
    intro hchk hrun
    rename_i x_ i_ o_ r_
    obtain ⟨hc, hrun1⟩ := ochk_some hrun
    clear hrun
    have hrun := hrun1
    clear hrun1
    obtain ⟨rfl, rfl⟩ := chk_simple hchk
    exact k_aastore F.hx F.hb F.hF hc (by exact hdg) (kkk _ _ _ hls hrun)
  · -- .monitorenter, (0, n) :: (0, dp) :: (3, d) :: (0, sp) :: (3, s) :: r
    intro hchk hrun
    rename_i n_ dp_ d_ sp_ s_ r_
    obtain ⟨hc, hrun1⟩ := ochk_some hrun
    clear hrun
    have hrun := hrun1
    clear hrun1
    have hq : c_monitorenter k pc hh i ln = true := hchk
    unfold c_monitorenter at hq
    split at hq
    · simp only [Bool.and_eq_true, decide_eq_true_eq] at hq
      obtain ⟨rfl, hw⟩ := hq
      exact k_arraycopy F.hx F.hb F.hvF (F.hml.trans hls.symm) F.fr1 F.lo1 F.own F.hts F.hZ (wrd_big hw (gw_methodLink _ _ _)) hc hdg (kkk _ _ _ hls hrun)
    · cases hq
  · -- .dup_x1, (0, y) :: (0, x) :: r
    intro hchk hrun
    rename_i y_ x_ r_
    obtain ⟨hc, hrun1⟩ := ochk_some hrun
    clear hrun
    have hrun := hrun1
    clear hrun1
    have hq : c_dup_x1 k pc hh i ln = true := hchk
    unfold c_dup_x1 at hq
    split at hq
    · simp only [Bool.and_eq_true, decide_eq_true_eq] at hq
      obtain ⟨rfl, hw⟩ := hq
      intro al ad H locs cells slots lc sc g
      have hu := hup _ _ _ g.1.2.2.2.2.2.2.2 hrun
      exact k_maxI F.hx F.hb F.hvF (F.hml.trans hls.symm) F.fr1 F.lo1 F.own F.hts (wrd_big hw (gw_methodLink _ _ _)) hu hc hdg (kkk _ _ _ hls hrun) al ad H locs cells slots lc sc g
    · cases hq
  · -- .dup_x2, (0, y) :: (0, x) :: r
    intro hchk hrun
    rename_i y_ x_ r_
    obtain ⟨hc, hrun1⟩ := ochk_some hrun
    clear hrun
    have hrun := hrun1
    clear hrun1
    have hq : c_dup_x2 k pc hh i ln = true := hchk
    unfold c_dup_x2 at hq
    split at hq
    · simp only [Bool.and_eq_true, decide_eq_true_eq] at hq
      obtain ⟨rfl, hw⟩ := hq
      intro al ad H locs cells slots lc sc g
      have hu := hup _ _ _ g.1.2.2.2.2.2.2.2 hrun
      exact k_minI F.hx F.hb F.hvF (F.hml.trans hls.symm) F.fr1 F.lo1 F.own F.hts (wrd_big hw (gw_methodLink _ _ _)) hu hc hdg (kkk _ _ _ hls hrun) al ad H locs cells slots lc sc g
    · cases hq
  · -- .dup2_x1, (1, y) :: (1, x) :: r
    intro hchk hrun
    rename_i y_ x_ r_
    obtain ⟨hc, hrun1⟩ := ochk_some hrun
    clear hrun
    have hrun := hrun1
    clear hrun1
    have hq : c_dup2_x1 k pc hh i ln = true := hchk
    unfold c_dup2_x1 at hq
    split at hq
    · simp only [Bool.and_eq_true, decide_eq_true_eq] at hq
      obtain ⟨rfl, hw⟩ := hq
      intro al ad H locs cells slots lc sc g
      have hu := hup _ _ _ g.1.2.2.2.2.2.2.2 hrun
      exact k_maxL F.hx F.hb F.hvF (F.hml.trans hls.symm) F.fr1 F.lo1 F.own F.hts (wrd_big hw (gw_methodLink _ _ _)) hu hc hdg (kkk _ _ _ hls hrun) al ad H locs cells slots lc sc g
    · cases hq
  · -- .dup2_x2, (1, y) :: (1, x) :: r
    intro hchk hrun
    rename_i y_ x_ r_
    obtain ⟨hc, hrun1⟩ := ochk_some hrun
    clear hrun
    have hrun := hrun1
    clear hrun1
    have hq : c_dup2_x2 k pc hh i ln = true := hchk
    unfold c_dup2_x2 at hq
    split at hq
    · simp only [Bool.and_eq_true, decide_eq_true_eq] at hq
      obtain ⟨rfl, hw⟩ := hq
      intro al ad H locs cells slots lc sc g
      have hu := hup _ _ _ g.1.2.2.2.2.2.2.2 hrun
      exact k_minL F.hx F.hb F.hvF (F.hml.trans hls.symm) F.fr1 F.lo1 F.own F.hts (wrd_big hw (gw_methodLink _ _ _)) hu hc hdg (kkk _ _ _ hls hrun) al ad H locs cells slots lc sc g
    · cases hq
  · -- .swap, (1, x) :: r
    intro hchk hrun
    rename_i x_ r_
    obtain ⟨hc, hrun1⟩ := ochk_some hrun
    clear hrun
    have hrun := hrun1
    clear hrun1
    have hq : c_swap k pc hh i ln = true := hchk
    unfold c_swap at hq
    split at hq
    · simp only [Bool.and_eq_true, decide_eq_true_eq] at hq
      obtain ⟨rfl, hw⟩ := hq
      intro al ad H locs cells slots lc sc g
      have hu := hup _ _ _ g.1.2.2.2.2.2.2.2 hrun
      exact k_absL F.hx F.hb F.hvF (F.hml.trans hls.symm) F.fr1 F.lo1 F.own F.hts (wrd_big hw (gw_methodLink _ _ _)) hu hc hdg (kkk _ _ _ hls hrun) al ad H locs cells slots lc sc g
    · cases hq
  · -- .monitorexit, (3, o) :: r
    intro hchk hrun
    rename_i o_ r_
    obtain ⟨hc, hrun1⟩ := ochk_some hrun
    clear hrun
    have hrun := hrun1
    clear hrun1
    have hq : c_monitorexit k pc hh i ln = true := hchk
    unfold c_monitorexit at hq
    split at hq
    · simp only [Bool.and_eq_true, decide_eq_true_eq] at hq
      obtain ⟨rfl, hw⟩ := hq
      exact k_objInit F.hx F.hb F.hvF (F.hml.trans hls.symm) F.fr1 F.lo1 F.own F.hts (wrd_big hw (gw_methodLink _ _ _)) hc hdg (kkk _ _ _ hls hrun)
    · cases hq
  · -- .invokeinterface mi n, st
    intro hchk hrun
    rename_i st_ mi_ n_
    exact one_call F hC hOM hdg hchk hls hup kkk hrun
  · intro hchk hrun
    cases hrun
/-- a block from a place on -/
theorem seg {k d n : Nat} (F : FC p R s m args meth c fz base H0 hI dC dI vF adS adV bS len byt L sx k d) (hC : MetM fz base H0 hI dC dI vF adS adV bS len byt L sx l n) (hOM : ∀ k, 0 < k → k < 445 → OM k) {r0 : Int} (hR : Ends p l e R s m args below meth c Q (ST fz base H0 hI dC dI vF adS adV bS s R hE al0 ad0) k r0 hE)
    (jj : ∀ b ls st h, b < (hk k).length → ls.length = ml k → JJ fz n d k b ls st h = some (r0, hE) → Kn p l e R s m args below meth c Q (ST fz base H0 hI dC dI vF adS adV bS s R hE al0 ad0) (pcs k b) ls st h) :
    ∀ (is : List Instr) (hs : List (Nat × Nat)) (pc : Nat) (ls st : List AV) (h : HV), chkB k pc is hs = true → ls.length = ml k → xl ochk oif none fz (CC fz n d) (JJ fz n d k) RR is ls st h = some (r0, hE) → Kn p l e R s m args below meth c Q (ST fz base H0 hI dC dI vF adS adV bS s R hE al0 ad0) pc ls st h
  | [], _, _, _, _, _, _, _, hrun => by cases hrun
  | ri :: is, [], pc, ls, st, h, hchk, hls, hrun => by
    by_cases ha : ri = .athrow
    · subst ha; cases hrun
    · exfalso
      cases ri <;> first
        | exact absurd rfl ha
        | exact Bool.false_ne_true hchk
  | ri :: is, hh :: hs, pc, ls, st, h, hchk, hls, hrun => by
    by_cases ha : ri = .athrow
    · subst ha; cases hrun
    by_cases hg : ∃ t w, ri = .goto t ∧ hh = (99, w)
    · obtain ⟨t, w, rfl, rfl⟩ := hg
      have hq : (decide (pc = pcs k t.toNat) && decide (t.toNat < (hk k).length)) = true := hchk
      simp only [Bool.and_eq_true, decide_eq_true_eq] at hq
      obtain ⟨hq, hb⟩ := hq
      subst hq
      exact jj _ _ _ _ hb hls hrun
    · have hq : ∃ i ln, decode (ck k) pc = .ok (i, ln) ∧ chkI k pc hh ri i ln = true ∧ (endI ri = false → chkB k (pc + ln) is hs = true) := chk_cons ha hg hchk
      obtain ⟨i, ln, hdg, hci, hn⟩ := hq
      by_cases hend : endI ri = true
      · refine one_ins F hC hOM hR hdg hls (K := fun _ _ _ => none) (fun _ _ _ _ e => by cases e) (fun _ _ _ _ e => by cases e) jj hci ?_
        exact (xs_end hend _ _ _ _ _ ls st h).trans hrun
      · exact one_ins F hC hOM hR hdg hls (fun ls st h h1 e => step_up h1 e) (fun ls st h hl e => seg F hC hOM hR jj is hs (pc + ln) ls st h (hn (by simpa using hend)) hl e) jj hci hrun
end KC3
