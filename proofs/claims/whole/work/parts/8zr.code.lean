/-! THE PURE SIDE, 200: the code of the new text: printed by wip/tools/gen8zr.py -/
def newK (T S : Int) (g gr : HV) (sg : Int → Int → Int) : HV := fun a i => if a = 0 then (if 0 ≤ i ∧ i < g T 17 then g (T + 1430) i else 0) else if a = 1 then (gr (S + 980) i) else if a = 2 then (gr (S + 1044) i) else if a = 3 then (gr (S + 1108) i) else if a = 4 then (gr (S + 1236) i) else if a = 5 then (gr (S + 1300) i) else if a = 6 then (gr (S + 1174) i) else if a = 7 then (g (T + 1366) i) else if a = 8 then (g (T + 1302) i) else if a = 9 then (g (T + 1238) i) else if a = 10 then (gr (S + 916) i) else if a = 11 then (sg (i / 512) (i % 512)) else g (T + 598) 6
def CODE (T S : Int) (g gr : HV) : Prop := ∃ K : HV, KOK K ∧ (g T 17 ≤ 2400 ∧ ∀ i, (if 0 ≤ i ∧ i < g T 17 then g (T + 1430) i else 0) = K 0 i) ∧ (g (T + 598) 6 = K 12 0 ∧ ∀ q, 0 ≤ q → q < K 12 0 → g (T + 1238) q = K 9 q ∧ g (T + 1302) q = K 8 q ∧ g (T + 1366) q = K 7 q) ∧ (∀ r, 0 ≤ r → r < 6000 → gr (S + 980) r = K 1 r ∧ gr (S + 1044) r = K 2 r ∧ gr (S + 1108) r = K 3 r) ∧ (∀ i, 0 ≤ i → i < 3208 → gr (S + 1236) i = K 4 i) ∧ (∀ t, 0 ≤ t → t < 401 → gr (S + 1300) t = K 5 t ∧ gr (S + 1174) t = K 6 t) ∧ (gr (S + 84) 6 = K 12 0 ∧ ∀ q, 0 ≤ q → q < K 12 0 → gr (S + 788) q = K 8 q ∧ gr (S + 852) q = K 7 q ∧ gr (S + 916) q = K 10 q)
section SM
variable {bX : Int} {tp : Int → Int} {t T S s s1 s2 f fu : Int} {h hr g gr k kr m mr : HV} {sg : Int → Int → Int}
theorem nK_0 {i : Int} : newK T S g gr sg 0 i = (if 0 ≤ i ∧ i < g T 17 then g (T + 1430) i else 0) := by
  unfold newK
  rw [if_pos rfl]
theorem nK_1 {i : Int} : newK T S g gr sg 1 i = (gr (S + 980) i) := by
  unfold newK
  rw [if_neg (by decide), if_pos rfl]
theorem nK_2 {i : Int} : newK T S g gr sg 2 i = (gr (S + 1044) i) := by
  unfold newK
  rw [if_neg (by decide), if_neg (by decide), if_pos rfl]
theorem nK_3 {i : Int} : newK T S g gr sg 3 i = (gr (S + 1108) i) := by
  unfold newK
  rw [if_neg (by decide), if_neg (by decide), if_neg (by decide), if_pos rfl]
theorem nK_4 {i : Int} : newK T S g gr sg 4 i = (gr (S + 1236) i) := by
  unfold newK
  rw [if_neg (by decide), if_neg (by decide), if_neg (by decide), if_neg (by decide), if_pos rfl]
theorem nK_5 {i : Int} : newK T S g gr sg 5 i = (gr (S + 1300) i) := by
  unfold newK
  rw [if_neg (by decide), if_neg (by decide), if_neg (by decide), if_neg (by decide), if_neg (by decide), if_pos rfl]
theorem nK_6 {i : Int} : newK T S g gr sg 6 i = (gr (S + 1174) i) := by
  unfold newK
  rw [if_neg (by decide), if_neg (by decide), if_neg (by decide), if_neg (by decide), if_neg (by decide), if_neg (by decide), if_pos rfl]
theorem nK_7 {i : Int} : newK T S g gr sg 7 i = (g (T + 1366) i) := by
  unfold newK
  rw [if_neg (by decide), if_neg (by decide), if_neg (by decide), if_neg (by decide), if_neg (by decide), if_neg (by decide), if_neg (by decide), if_pos rfl]
theorem nK_8 {i : Int} : newK T S g gr sg 8 i = (g (T + 1302) i) := by
  unfold newK
  rw [if_neg (by decide), if_neg (by decide), if_neg (by decide), if_neg (by decide), if_neg (by decide), if_neg (by decide), if_neg (by decide), if_neg (by decide), if_pos rfl]
theorem nK_9 {i : Int} : newK T S g gr sg 9 i = (g (T + 1238) i) := by
  unfold newK
  rw [if_neg (by decide), if_neg (by decide), if_neg (by decide), if_neg (by decide), if_neg (by decide), if_neg (by decide), if_neg (by decide), if_neg (by decide), if_neg (by decide), if_pos rfl]
theorem nK_10 {i : Int} : newK T S g gr sg 10 i = (gr (S + 916) i) := by
  unfold newK
  rw [if_neg (by decide), if_neg (by decide), if_neg (by decide), if_neg (by decide), if_neg (by decide), if_neg (by decide), if_neg (by decide), if_neg (by decide), if_neg (by decide), if_neg (by decide), if_pos rfl]
theorem nK_11 {i : Int} : newK T S g gr sg 11 i = (sg (i / 512) (i % 512)) := by
  unfold newK
  rw [if_neg (by decide), if_neg (by decide), if_neg (by decide), if_neg (by decide), if_neg (by decide), if_neg (by decide), if_neg (by decide), if_neg (by decide), if_neg (by decide), if_neg (by decide), if_neg (by decide), if_pos rfl]
theorem nK_12 {i : Int} : newK T S g gr sg 12 i = g (T + 598) 6 := by
  unfold newK
  rw [if_neg (by decide), if_neg (by decide), if_neg (by decide), if_neg (by decide), if_neg (by decide), if_neg (by decide), if_neg (by decide), if_neg (by decide), if_neg (by decide), if_neg (by decide), if_neg (by decide), if_neg (by decide)]
theorem code_of {s0 : Int} (I : IT tp t T S s0 h hr) (K : LKI T S h hr (h 258 10) g gr) (l : g 258 2 = -1) : CODE T S g gr := by
  obtain ⟨D, ⟨NB, LT, L, T0, C0⟩, C, X, RN, RL⟩ := I
  have hT := D.2.1.1.1
  have hS := D.2.1.2.1
  have kT := kTC hT
  have kS := kTR hS
  have S0 := D.sb
  unfold NBI at NB
  have C6 := C.1 6 (by decide) (by decide)
  have m6 := MST_12 (q := 6)
  obtain ⟨⟨a1, a2⟩, ⟨b1, b2⟩, -, d1, d2, d3⟩ := K
  obtain ⟨hl, cl⟩ := d3 l
  have R := RL hl
  have eT : g T = h T := a1 T (by omega) (by omega)
  have e6 : g (T + 598) = h (T + 598) := a1 _ (by omega) (by omega)
  have ex : ∀ q : Int, ∃ sg : Int → Int, 0 ≤ q → q < h (T + 598) 6 → ∃ c1 r1 t0 t1, ((0 ≤ h (T + 1238) q ∧ h (T + 1238) q < c1 ∧ c1 ≤ h T 17) ∧ (0 ≤ hr (S + 916) q ∧ hr (S + 916) q < r1 ∧ r1 ≤ hr S 15) ∧ 0 ≤ t0 ∧ t0 ≤ t1 ∧ t1 ≤ hr S 22) ∧ (h (T + 1366) q = hr (S + 852) q ∧ h (T + 1302) q ≤ h (T + 1366) q ∧ h (T + 1366) q ≤ 420) ∧ ((∀ v, 0 ≤ v → v < h (T + 1366) q → 0 ≤ sg v ∧ sg v < h (T + 1366) q) ∧ (∀ v w, 0 ≤ v → v < h (T + 1366) q → 0 ≤ w → w < h (T + 1366) q → sg v = sg w → v = w) ∧ ∀ v, 0 ≤ v → v < h (T + 1302) q → sg v = v) ∧ ∀ K V CL, AGC K CL T S (h (T + 1238) q) (hr (S + 916) q) t0 c1 r1 t1 h hr → VSS K sg (h (T + 1366) q) (hr (S + 916) q) r1 V → ∀ n, MEM K V CL n (h (T + 1238) q) (hr (S + 916) q) [] 0 1 := fun q => by
    by_cases w : 0 ≤ q ∧ q < h (T + 598) 6
    · obtain ⟨c1, r1, t0, t1, sg, Z⟩ := R q w.1 w.2
      exact ⟨sg, fun _ _ => ⟨c1, r1, t0, t1, Z⟩⟩
    · exact ⟨fun _ => 0, fun x y => absurd ⟨x, y⟩ w⟩
  obtain ⟨sg, hsg⟩ := Classical.axiomOfChoice ex
  have e7 : ∀ q, g (T + 1366) q = h (T + 1366) q := fun q => by rw [a1 _ (by omega) (by omega)]
  have e8 : ∀ q, g (T + 1302) q = h (T + 1302) q := fun q => by rw [a1 _ (by omega) (by omega)]
  have e9 : ∀ q, g (T + 1238) q = h (T + 1238) q := fun q => by rw [a1 _ (by omega) (by omega)]
  have f10 : ∀ q, gr (S + 916) q = hr (S + 916) q := fun q => by rw [b1 _ (by omega) (by omega)]
  have n11 : ∀ q v, 0 ≤ v → v < 512 → newK T S g gr sg 11 (512 * q + v) = sg q v := fun q v v0 v1 => by
    rw [nK_11, show (512 * q + v) / 512 = q by omega, show (512 * q + v) % 512 = v by omega]
  have cN : ∀ i, 0 ≤ i → i < h T 17 → newK T S g gr sg 0 i = g (T + 1430) i := fun i i0 i1 => by rw [nK_0, if_pos ⟨i0, by rw [eT]; exact i1⟩]
  refine ⟨newK T S g gr sg, ⟨by rw [nK_12, e6]; omega, fun q q0 q1 => ?_⟩, ⟨by rw [eT]; omega, fun i => nK_0.symm⟩, ⟨nK_12.symm, fun q q0 q1 => ⟨nK_9.symm, nK_8.symm, nK_7.symm⟩⟩, fun r r0 r1 => ⟨nK_1.symm, nK_2.symm, nK_3.symm⟩, fun i i0 i1 => nK_4.symm, fun t t0 t1 => ⟨nK_5.symm, nK_6.symm⟩, ⟨by rw [nK_12, b1 _ (by omega) (by omega), e6, C6.1], fun q q0 q1 => ?_⟩⟩
  · rw [nK_12, e6] at q1
    obtain ⟨c1, r1, t0, t1, ⟨⟨z1, z2, z3⟩, ⟨z4, z5, z6⟩, z7, z8, z9⟩, ⟨y1, y2, y3⟩, ⟨x1, x2, x3⟩, H⟩ := hsg q q0 q1
    have nn := RN q q0 q1
    rw [nK_8, nK_7, e7, e8]
    refine ⟨by omega, fun v v0 v1 => by rw [n11 q v v0 (by omega)]; exact x1 v v0 v1, fun v w v0 v1 w0 w1 u => by rw [n11 q v v0 (by omega), n11 q w w0 (by omega)] at u; exact x2 v w v0 v1 w0 w1 u, fun v v0 v1 => by rw [n11 q v v0 (by omega)]; exact x3 v v0 v1, fun n => ⟨1, ?_⟩⟩
    rw [nK_9, nK_10, e9, f10]
    refine H _ _ _ ⟨fun i i0 i1 i2 hk => ?_, fun i i0 i1 i2 => ⟨?_, fun ne => ?_, ?_⟩, fun i i0 i1 => ?_, fun i i0 i1 i2 => ?_, fun i i0 i1 i2 => ?_, fun j j0 j1 => ?_⟩ (fun v i v0 v1 i0 i1 a b => ⟨⟨v0, by rw [nK_7, e7]; exact v1⟩, fun z => by rw [n11 q v v0 (by omega)]; exact a z, fun z => by rw [n11 q v v0 (by omega)]; exact b z⟩) n
    · rw [cN i i1 (by omega)]
      exact d1 i hk
    · rw [nK_1, b1 _ (by omega) (by omega)]
    · rw [nK_2]
      exact d2 i (fun j j0 j1 u => ne (by rw [← u]; exact (C0 j j0 (by omega)).2))
    · rw [nK_3, b1 _ (by omega) (by omega)]
    · rw [nK_6, b1 _ (by omega) (by omega)]
    · rw [nK_4, b1 _ (by omega) (by omega)]
    · rw [nK_5, b1 _ (by omega) (by omega)]
    · obtain ⟨v, vb, w1, w2, w3⟩ := cl j j0 j1
      obtain ⟨-, ⟨⟨l3, l3'⟩, l4, l5⟩, l6, l7⟩ := L j j0 j1
      have k0 : newK T S g gr sg 0 (h 608 j - 1 + 1) = v := by
        rw [show h 608 j - 1 + 1 = h 608 j by omega, cN _ (by omega) (by omega)]
        exact w1
      have k1 : newK T S g gr sg 0 (h 608 j - 1 + 2) = h (T + 1430) (h 608 j + 1) := by
        rw [show h 608 j - 1 + 2 = h 608 j + 1 by omega, cN _ (by omega) (by omega)]
        refine d1 _ (fun i i0 i1 u => ?_)
        by_cases c : i < j
        · have := (l7 i i0 c).1
          omega
        · by_cases c2 : i = j
          · rw [c2] at u
            omega
          · have := ((L i i0 i1).2.2.2 j j0 (by omega)).1
            omega
      unfold CLS
      rw [k0, k1, nK_2, nK_12, nK_8, e6, e8]
      exact ⟨w2, vb, w3.symm⟩
  · rw [nK_12, e6] at q1
    obtain ⟨c1, r1, t0, t1, -, ⟨y1, y2, y3⟩, -, -⟩ := hsg q q0 q1
    have nn := RN q q0 q1
    rw [nK_8, nK_7, nK_10, e7, e8, f10, b1 _ (by omega) (by omega), b1 (S + 852) (by omega) (by omega)]
    exact ⟨nn.1.symm, y1.symm, rfl⟩
end SM
