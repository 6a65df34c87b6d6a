/-! THE PURE SIDE, 4: heaps as tables, the constructors: printed by wip/tools/gencons.py -/
/-- a table of places -/
def lk : List (Int × Int × Int) → Int → Int → Option Int
  | [], _, _ => none
  | q :: r, o, i => if q.1 = o ∧ q.2.1 = i then some q.2.2 else lk r o i
/-- a heap: its counters, a table over a base -/
def HR (B : HV) (M : List (Int × Int × Int)) (n s : Int) : HV := fun o i => if o = 0 then (if i = 0 then n else if i = 1 then s else 0) else match lk M o i with
  | some v => v
  | none => B o i
def BZ (B : HV) : Prop := ∀ o i, 64 ≤ o → B o i = 0
/-- all places of the table lie in objects below serial number n -/
def FR (M : List (Int × Int × Int)) (n : Int) : Prop := ∀ q ∈ M, q.1 < 64 * n
theorem FR.mono {M : List (Int × Int × Int)} {m n : Int} (h : FR M m) (hn : m ≤ n) : FR M n := fun q hq => by have := h q hq; omega
theorem FR_nil (n : Int) : FR [] n = True := eq_true fun _ h => (List.not_mem_nil h).elim
theorem FR_cons {q : Int × Int × Int} {M : List (Int × Int × Int)} {n : Int} : FR (q :: M) n = (q.1 < 64 * n ∧ FR M n) := by
  refine propext ⟨fun h => ⟨h q List.mem_cons_self, fun r hr => h r (List.mem_cons_of_mem _ hr)⟩, fun h r hr => ?_⟩
  rcases List.mem_cons.mp hr with e | e
  · rw [e]; exact h.1
  · exact h.2 r e
theorem lk_none {M : List (Int × Int × Int)} {n o : Int} (h : FR M n) (ho : 64 * n ≤ o) (i : Int) : lk M o i = none := by
  induction M with
  | nil => rfl
  | cons q r ih =>
    rw [FR_cons] at h
    rw [lk, if_neg (by omega), ih h.2]
theorem HR_00 {B : HV} {M : List (Int × Int × Int)} {n s : Int} : HR B M n s 0 0 = n := rfl
theorem HR_01 {B : HV} {M : List (Int × Int × Int)} {n s : Int} : HR B M n s 0 1 = s := rfl
theorem HR_v {B : HV} {M : List (Int × Int × Int)} {n s o i : Int} (ho : o ≠ 0) : HR B M n s o i = match lk M o i with
  | some v => v
  | none => B o i := by unfold HR; rw [if_neg ho]
theorem HR_get {B : HV} {M : List (Int × Int × Int)} {n s o i v a b : Int} (ha : a ≠ 0) : HR B ((o, i, v) :: M) n s a b = if o = a ∧ i = b then v else HR B M n s a b := by
  rw [HR_v ha, HR_v ha, lk]
  by_cases h : o = a ∧ i = b
  · rw [if_pos h, if_pos h]
  · rw [if_neg h, if_neg h]
theorem hset_HR {B : HV} {M : List (Int × Int × Int)} {n s o i v : Int} (ho : o ≠ 0) : hset (HR B M n s) o i v = HR B ((o, i, v) :: M) n s := by
  funext a b
  rw [hset_v]
  by_cases ha : a = 0
  · subst ha
    rw [if_neg (by omega)]
    rfl
  · rw [HR_get ha]
    by_cases h : a = o ∧ b = i
    · rw [if_pos h, if_pos ⟨h.1.symm, h.2.symm⟩]
    · rw [if_neg h, if_neg (by omega)]
theorem alc_HR {B : HV} (hB : BZ B) {M : List (Int × Int × Int)} {n s kd len sl : Int} (hF : FR M n) (hn : 1 ≤ n) (hk : 0 ≤ kd) : alc (HR B M n s) kd len sl = HR B ((64 * n + kd, -1, len) :: M) (n + 1) (s + sl) := by
  funext a b
  rw [alc_v, HR_00, HR_01]
  by_cases ha : a = 0
  · subst ha
    rw [if_neg (by omega)]
    by_cases h0 : b = 0
    · subst h0; rw [if_pos ⟨rfl, rfl⟩]; rfl
    · rw [if_neg (by omega)]
      by_cases h1 : b = 1
      · subst h1; rw [if_pos ⟨rfl, rfl⟩]; rfl
      · rw [if_neg (by omega)]
        unfold HR
        rw [if_pos rfl, if_pos rfl, if_neg h0, if_neg h1, if_neg h0, if_neg h1]
  · have e : HR B M (n + 1) (s + sl) a b = HR B M n s a b := by rw [HR_v ha, HR_v ha]
    rw [HR_get ha, e]
    by_cases h : a = 64 * n + kd
    · rw [if_pos h]
      by_cases hb : b = -1
      · rw [if_pos hb, if_pos ⟨h.symm, hb.symm⟩]
      · rw [if_neg hb, if_neg (by omega), HR_v ha, lk_none hF (by omega)]
        exact (hB a b (by omega)).symm
    · rw [if_neg h, if_neg (by omega), if_neg (by omega), if_neg (by omega)]
theorem alc2_HR {B : HV} (hB : BZ B) {M : List (Int × Int × Int)} {n s : Int} (hF : FR M n) (hn : 1 ≤ n) : alc2 (HR B M n s) 7 12 = HR B ((64 * (n + 7) + 33, -1, 12) :: (64 * (n + 6) + 33, -1, 12) :: (64 * (n + 5) + 33, -1, 12) :: (64 * (n + 4) + 33, -1, 12) :: (64 * (n + 3) + 33, -1, 12) :: (64 * (n + 2) + 33, -1, 12) :: (64 * (n + 1) + 33, -1, 12) :: (64 * n + 37, 6, 64 * (n + 7) + 33) :: (64 * n + 37, 5, 64 * (n + 6) + 33) :: (64 * n + 37, 4, 64 * (n + 5) + 33) :: (64 * n + 37, 3, 64 * (n + 4) + 33) :: (64 * n + 37, 2, 64 * (n + 3) + 33) :: (64 * n + 37, 1, 64 * (n + 2) + 33) :: (64 * n + 37, 0, 64 * (n + 1) + 33) :: (64 * n + 37, -1, 7) :: M) (n + 8) (s + 7 + 84) := by
  funext a b
  unfold alc2
  rw [HR_00, HR_01]
  by_cases ha : a = 0
  · subst ha
    rw [if_neg (by omega), if_neg (by omega)]
    by_cases h0 : b = 0
    · subst h0; rw [if_pos ⟨rfl, rfl⟩]; show n + 1 + 7 = n + 8; omega
    · rw [if_neg (by omega)]
      by_cases h1 : b = 1
      · subst h1; rw [if_pos ⟨rfl, rfl⟩]; rfl
      · rw [if_neg (by omega)]
        unfold HR
        rw [if_pos rfl, if_pos rfl, if_neg h0, if_neg h1, if_neg h0, if_neg h1]
  · have e : HR B M (n + 8) (s + 7 + 84) a b = HR B M n s a b := by rw [HR_v ha, HR_v ha]
    simp only [HR_get ha, e]
    by_cases h : a = 64 * n + 37
    · subst h
      rw [if_pos rfl]
      by_cases hb : b = -1
      · subst hb
        rw [if_pos rfl]
        simp only [Int.reduceNeg, Int.reduceEq, and_false, and_true, reduceIte]
        repeat (first | rw [if_pos rfl] | rw [if_neg (by omega)])
      · rw [if_neg hb]
        by_cases hr : 0 ≤ b ∧ b < 7
        · rw [if_pos hr]
          have hc : b = 0 ∨ b = 1 ∨ b = 2 ∨ b = 3 ∨ b = 4 ∨ b = 5 ∨ b = 6 := by omega
          rcases hc with rfl | rfl | rfl | rfl | rfl | rfl | rfl <;> simp only [Int.reduceNeg, Int.reduceEq, and_false, and_true, reduceIte, Int.reduceAdd] <;> (try rw [if_pos rfl]) <;> omega
        · rw [if_neg hr]
          rw [if_neg (by omega)]
          rw [if_neg (by omega)]
          rw [if_neg (by omega)]
          rw [if_neg (by omega)]
          rw [if_neg (by omega)]
          rw [if_neg (by omega)]
          rw [if_neg (by omega)]
          rw [if_neg (by omega)]
          rw [if_neg (by omega)]
          rw [if_neg (by omega)]
          rw [if_neg (by omega)]
          rw [if_neg (by omega)]
          rw [if_neg (by omega)]
          rw [if_neg (by omega)]
          rw [if_neg (by omega)]
          rw [HR_v ha, lk_none hF (by omega)]
          exact (hB _ b (by omega)).symm
    · rw [if_neg h]
      by_cases hr : a % 64 = 33 ∧ n < a / 64 ∧ a / 64 ≤ n + 7
      · rw [if_pos hr]
        have hc : a = 64 * (n + 1) + 33 ∨ a = 64 * (n + 2) + 33 ∨ a = 64 * (n + 3) + 33 ∨ a = 64 * (n + 4) + 33 ∨ a = 64 * (n + 5) + 33 ∨ a = 64 * (n + 6) + 33 ∨ a = 64 * (n + 7) + 33 := by omega
        by_cases hb : b = -1
        · rw [if_pos hb]
          subst hb
          rcases hc with rfl | rfl | rfl | rfl | rfl | rfl | rfl <;> (repeat' (first | rw [if_pos ⟨rfl, rfl⟩] | rw [if_neg (by omega)]))
        · rw [if_neg hb]
          rw [if_neg (by omega)]
          rw [if_neg (by omega)]
          rw [if_neg (by omega)]
          rw [if_neg (by omega)]
          rw [if_neg (by omega)]
          rw [if_neg (by omega)]
          rw [if_neg (by omega)]
          rw [if_neg (by omega)]
          rw [if_neg (by omega)]
          rw [if_neg (by omega)]
          rw [if_neg (by omega)]
          rw [if_neg (by omega)]
          rw [if_neg (by omega)]
          rw [if_neg (by omega)]
          rw [if_neg (by omega)]
          rw [HR_v ha, lk_none hF (by omega)]
          exact (hB _ b (by omega)).symm
      · rw [if_neg hr, if_neg (by omega), if_neg (by omega)]
        rw [if_neg (by omega)]
        rw [if_neg (by omega)]
        rw [if_neg (by omega)]
        rw [if_neg (by omega)]
        rw [if_neg (by omega)]
        rw [if_neg (by omega)]
        rw [if_neg (by omega)]
        rw [if_neg (by omega)]
        rw [if_neg (by omega)]
        rw [if_neg (by omega)]
        rw [if_neg (by omega)]
        rw [if_neg (by omega)]
        rw [if_neg (by omega)]
        rw [if_neg (by omega)]
        rw [if_neg (by omega)]


/-! fills -/
theorem fillH_v (h : HV) (a n v o i : Int) : fillH h a n v o i = if o = a ∧ 0 ≤ i ∧ i < n then v else h o i := rfl
def fl (a v : Int) : Nat → List (Int × Int × Int)
  | 0 => []
  | k + 1 => (a, (k : Int), v) :: fl a v k
theorem fill_HR {B : HV} {M : List (Int × Int × Int)} {n s a v : Int} (ha : a ≠ 0) : ∀ k : Nat, fillH (HR B M n s) a k v = HR B (fl a v k ++ M) n s
  | 0 => fillH_0 _ _ _
  | k + 1 => by
    have e := fillH_s (HR B M n s) (a := a) (j := k) (v := v) (by omega)
    rw [fill_HR ha k, hset_HR ha] at e
    exact e.symm
def NZ (M : List (Int × Int × Int)) (a : Int) : Prop := ∀ q ∈ M, q.1 = a → q.2.1 < 0
theorem lk_nz {M : List (Int × Int × Int)} {a : Int} (h : NZ M a) {i : Int} (hi : 0 ≤ i) : lk M a i = none := by
  induction M with
  | nil => rfl
  | cons q r ih =>
    have h1 := h q List.mem_cons_self
    rw [lk, if_neg (fun e => by have := h1 e.1; omega)]
    exact ih fun x hx => h x (List.mem_cons_of_mem _ hx)
theorem fill_HR0 {B : HV} (hB : BZ B) {M : List (Int × Int × Int)} {n s a k : Int} (ha : 64 ≤ a) (h : NZ M a) : fillH (HR B M n s) a k 0 = HR B M n s := by
  funext o i
  rw [fillH_v]
  by_cases hc : o = a ∧ 0 ≤ i ∧ i < k
  · rw [if_pos hc, hc.1, HR_v (by omega), lk_nz h hc.2.1]
    exact (hB a i ha).symm
  · rw [if_neg hc]
theorem rd_hset {fz : Int → Int → Option Int} {h : HV} {o i v a b : Int} (hn : ¬ (a = o ∧ b = i)) : rd fz (hset h o i v) a b = rd fz h a b := rd_neg (if_neg hn)
theorem rd_fill {fz : Int → Int → Option Int} {h : HV} {o n v a b : Int} (hn : ¬ (a = o ∧ 0 ≤ b)) : rd fz (fillH h o n v) a b = rd fz h a b := rd_neg (if_neg fun q => hn ⟨q.1, q.2.1⟩)
/-- Timetable.drop -/
theorem s15 {fz : Int → Int → Option Int} {d : Nat} {h : HV} {Q : Int → HV → Prop} (hQ : Q 0 (hset (hset h 1927 13 0) 1927 14 0)) : Sp fz d 15 [(3, 1927)] h Q := by
  unfold Sp
  apply G_in
  simp only [en15, b15_0, x_aload0, x_iconst, x_pf_7276, x_pf_7284, x_return, klp_0, klp_1, klp_2, klp_3, klp_9, KC_0, KC_1, KC_2, KC_3, KC_4, ne_eq, not_false_eq_true, not_true_eq_false, true_and, and_true, and_self, implies_true, eq_self, true_imp_iff, false_implies, Int.reduceEq, Int.reduceNe, Int.reduceMod, Int.reduceMul, Int.reduceAdd, Int.reduceSub, Int.reduceNeg, Int.reduceLT, Int.reduceLE, Nat.reduceAdd, Nat.reduceLeDiff, Nat.reduceLT, Nat.reduceSub, reduceIte, wds_n, wds_0, wds_1, wds_2, wds_3, or_true, true_or, or_false, false_or, or_self]
  exact hQ
/-- Timetable.forget -/
theorem s13 {fz : Int → Int → Option Int} {d : Nat} {h : HV} {Q : Int → HV → Prop} (hd : 0 < d) (h1 : rd fz h 1927 2 = 2016) (h2 : rd fz h 2016 (-1) = 10) (h3 : rd fz h 1927 3 = 2080) (h4 : rd fz h 2080 (-1) = 240) (hQ : Q 0 (hset (hset (fillH (fillH h 2016 10 0) 2080 240 0) 1927 13 0) 1927 14 0)) : Sp fz d 13 [(3, 1927)] h Q := by
  unfold Sp
  apply G_in
  simp only [en13, b13_0, x_aload0, y_call14, y_call15, x_gc_7187, x_gc_7195, x_iconst, x_return, klp_0, klp_1, klp_2, klp_3, klp_9, KC_0, KC_1, KC_2, KC_3, KC_4, ne_eq, not_false_eq_true, not_true_eq_false, true_and, and_true, and_self, implies_true, eq_self, true_imp_iff, false_implies, Int.reduceEq, Int.reduceNe, Int.reduceMod, Int.reduceMul, Int.reduceAdd, Int.reduceSub, Int.reduceNeg, Int.reduceLT, Int.reduceLE, Nat.reduceAdd, Nat.reduceLeDiff, Nat.reduceLT, Nat.reduceSub, reduceIte, wds_n, wds_0, wds_1, wds_2, wds_3, or_true, true_or, or_false, false_or, or_self, h1]
  refine ⟨hd, fill_sp (by decide) h2.symm (by decide) (by decide) ?_⟩
  simp only [KC_4, x_aload0, x_gc_7195, x_iconst, y_call14, y_call15, x_return, rd_fill (show ¬ ((1927 : Int) = 2016 ∧ (0 : Int) ≤ 3) by decide), h3, ne_eq, not_false_eq_true, not_true_eq_false, true_and, and_true, and_self, implies_true, eq_self, true_imp_iff, false_implies, Int.reduceEq, Int.reduceNe, Int.reduceMod, Int.reduceMul, Int.reduceAdd, Int.reduceSub, Int.reduceNeg, Int.reduceLT, Int.reduceLE, Nat.reduceAdd, Nat.reduceLeDiff, Nat.reduceLT, Nat.reduceSub, reduceIte, wds_n, wds_0, wds_1, wds_2, wds_3, or_true, true_or, or_false, false_or, or_self]
  refine ⟨hd, fill_sp (n := 240) (by decide) ?_ (by decide) (by decide) ?_⟩
  · rw [rd_fill (by decide), h4]
  simp only [KC_4, x_aload0, y_call15, x_return, ne_eq, not_false_eq_true, not_true_eq_false, true_and, and_true, and_self, implies_true, eq_self, true_imp_iff, false_implies, Int.reduceEq, Int.reduceNe, Int.reduceMod, Int.reduceMul, Int.reduceAdd, Int.reduceSub, Int.reduceNeg, Int.reduceLT, Int.reduceLE, Nat.reduceAdd, Nat.reduceLeDiff, Nat.reduceLT, Nat.reduceSub, reduceIte, wds_n, wds_0, wds_1, wds_2, wds_3, or_true, true_or, or_false, false_or, or_self]
  exact ⟨hd, s15 hQ⟩
/-- Timetable.open -/
theorem s12 {fz : Int → Int → Option Int} {d : Nat} {h : HV} {T : Int} {Q : Int → HV → Prop} (hd : 1 < d) (h1 : rd fz h 1927 2 = 2016) (h2 : rd fz h 2016 (-1) = 10) (h3 : rd fz h 1927 3 = 2080) (h4 : rd fz h 2080 (-1) = 240) (hQ : Q 0 (hset (hset (fillH (fillH (hset h 1927 0 T) 2016 10 0) 2080 240 0) 1927 13 0) 1927 14 0)) : Sp fz d 12 [(3, 1927), (3, T)] h Q := by
  unfold Sp
  apply G_in
  simp only [en12, b12_0, x_aload0, x_aload1, y_call13, x_pf_7171, x_return, klp_0, klp_1, klp_2, klp_3, klp_9, KC_0, KC_1, KC_2, KC_3, KC_4, ne_eq, not_false_eq_true, not_true_eq_false, true_and, and_true, and_self, implies_true, eq_self, true_imp_iff, false_implies, Int.reduceEq, Int.reduceNe, Int.reduceMod, Int.reduceMul, Int.reduceAdd, Int.reduceSub, Int.reduceNeg, Int.reduceLT, Int.reduceLE, Nat.reduceAdd, Nat.reduceLeDiff, Nat.reduceLT, Nat.reduceSub, reduceIte, wds_n, wds_0, wds_1, wds_2, wds_3, or_true, true_or, or_false, false_or, or_self]
  refine ⟨by omega, s13 (by omega) ?_ ?_ ?_ ?_ hQ⟩
  all_goals (rw [rd_hset (by decide)]; assumption)
/-- Machine.open -/
theorem s16 {fz : Int → Int → Option Int} {d : Nat} {h : HV} {T : Int} {Q : Int → HV → Prop} (hQ : Q 0 (hset h 1157 3 T)) : Sp fz d 16 [(3, 1157), (3, T)] h Q := by
  unfold Sp
  apply G_in
  simp only [en16, b16_0, x_aload0, x_aload1, x_pf_5147, x_return, klp_0, klp_1, klp_2, klp_3, klp_9, KC_0, KC_1, KC_2, KC_3, KC_4, ne_eq, not_false_eq_true, not_true_eq_false, true_and, and_true, and_self, implies_true, eq_self, true_imp_iff, false_implies, Int.reduceEq, Int.reduceNe, Int.reduceMod, Int.reduceMul, Int.reduceAdd, Int.reduceSub, Int.reduceNeg, Int.reduceLT, Int.reduceLE, Nat.reduceAdd, Nat.reduceLeDiff, Nat.reduceLT, Nat.reduceSub, reduceIte, wds_n, wds_0, wds_1, wds_2, wds_3, or_true, true_or, or_false, false_or, or_self]
  exact hQ
/-- Cover.uncover -/
theorem s19 {fz : Int → Int → Option Int} {d : Nat} {h : HV} {Q : Int → HV → Prop} (hQ : Q 0 (hset h 2568 4 0)) : Sp fz d 19 [(3, 2568)] h Q := by
  unfold Sp
  apply G_in
  simp only [en19, b19_0, x_aload0, x_iconst, x_pf_8228, x_return, klp_0, klp_1, klp_2, klp_3, klp_9, KC_0, KC_1, KC_2, KC_3, KC_4, ne_eq, not_false_eq_true, not_true_eq_false, true_and, and_true, and_self, implies_true, eq_self, true_imp_iff, false_implies, Int.reduceEq, Int.reduceNe, Int.reduceMod, Int.reduceMul, Int.reduceAdd, Int.reduceSub, Int.reduceNeg, Int.reduceLT, Int.reduceLE, Nat.reduceAdd, Nat.reduceLeDiff, Nat.reduceLT, Nat.reduceSub, reduceIte, wds_n, wds_0, wds_1, wds_2, wds_3, or_true, true_or, or_false, false_or, or_self]
  exact hQ
/-- Cover.forget -/
theorem s18 {fz : Int → Int → Option Int} {d : Nat} {h : HV} {Q : Int → HV → Prop} (hd : 0 < d) (h1 : rd fz h 2568 2 = 2656) (h2 : rd fz h 2656 (-1) = 10) (hQ : Q 0 (hset (fillH h 2656 10 0) 2568 4 0)) : Sp fz d 18 [(3, 2568)] h Q := by
  unfold Sp
  apply G_in
  simp only [en18, b18_0, x_aload0, y_call14, y_call19, x_gc_8211, x_iconst, x_return, klp_0, klp_1, klp_2, klp_3, klp_9, KC_0, KC_1, KC_2, KC_3, KC_4, ne_eq, not_false_eq_true, not_true_eq_false, true_and, and_true, and_self, implies_true, eq_self, true_imp_iff, false_implies, Int.reduceEq, Int.reduceNe, Int.reduceMod, Int.reduceMul, Int.reduceAdd, Int.reduceSub, Int.reduceNeg, Int.reduceLT, Int.reduceLE, Nat.reduceAdd, Nat.reduceLeDiff, Nat.reduceLT, Nat.reduceSub, reduceIte, wds_n, wds_0, wds_1, wds_2, wds_3, or_true, true_or, or_false, false_or, or_self, h1]
  refine ⟨hd, fill_sp (by decide) h2.symm (by decide) (by decide) ?_⟩
  simp only [KC_4, x_aload0, y_call19, x_return, ne_eq, not_false_eq_true, not_true_eq_false, true_and, and_true, and_self, implies_true, eq_self, true_imp_iff, false_implies, Int.reduceEq, Int.reduceNe, Int.reduceMod, Int.reduceMul, Int.reduceAdd, Int.reduceSub, Int.reduceNeg, Int.reduceLT, Int.reduceLE, Nat.reduceAdd, Nat.reduceLeDiff, Nat.reduceLT, Nat.reduceSub, reduceIte, wds_n, wds_0, wds_1, wds_2, wds_3, or_true, true_or, or_false, false_or, or_self]
  exact ⟨hd, s19 hQ⟩
/-- Cover.open -/
theorem s17 {fz : Int → Int → Option Int} {d : Nat} {h : HV} {T : Int} {Q : Int → HV → Prop} (hd : 1 < d) (h1 : rd fz h 2568 2 = 2656) (h2 : rd fz h 2656 (-1) = 10) (hQ : Q 0 (hset (fillH (hset h 2568 1 T) 2656 10 0) 2568 4 0)) : Sp fz d 17 [(3, 2568), (3, T)] h Q := by
  unfold Sp
  apply G_in
  simp only [en17, b17_0, x_aload0, x_aload1, y_call18, x_pf_8203, x_return, klp_0, klp_1, klp_2, klp_3, klp_9, KC_0, KC_1, KC_2, KC_3, KC_4, ne_eq, not_false_eq_true, not_true_eq_false, true_and, and_true, and_self, implies_true, eq_self, true_imp_iff, false_implies, Int.reduceEq, Int.reduceNe, Int.reduceMod, Int.reduceMul, Int.reduceAdd, Int.reduceSub, Int.reduceNeg, Int.reduceLT, Int.reduceLE, Nat.reduceAdd, Nat.reduceLeDiff, Nat.reduceLT, Nat.reduceSub, reduceIte, wds_n, wds_0, wds_1, wds_2, wds_3, or_true, true_or, or_false, false_or, or_self]
  refine ⟨by omega, s18 (by omega) ?_ ?_ hQ⟩
  all_goals (rw [rd_hset (by decide)]; assumption)
/-- Choices.open -/
theorem s20 {fz : Int → Int → Option Int} {d : Nat} {h : HV} {T : Int} {Q : Int → HV → Prop} (hd : 0 < d) (h1 : rd fz h 2953 3 = 3104) (h2 : rd fz h 3104 (-1) = 24) (h3 : rd fz h 2953 4 = 3168) (h4 : rd fz h 3168 (-1) = 192) (h5 : rd fz h 2953 5 = 3232) (h6 : rd fz h 3232 (-1) = 24) (hQ : Q 0 (hset (fillH (fillH (fillH (hset h 2953 1 T) 3104 24 0) 3168 192 0) 3232 24 (-9)) 2953 6 0)) : Sp fz d 20 [(3, 2953), (3, T)] h Q := by
  unfold Sp
  apply G_in
  simp only [en20, b20_0, x_aload0, x_aload1, y_call14, x_gc_9243, x_gc_9251, x_gc_9259, x_iconst, x_pf_9227, x_pf_9268, x_return, klp_0, klp_1, klp_2, klp_3, klp_9, KC_0, KC_1, KC_2, KC_3, KC_4, ne_eq, not_false_eq_true, not_true_eq_false, true_and, and_true, and_self, implies_true, eq_self, true_imp_iff, false_implies, Int.reduceEq, Int.reduceNe, Int.reduceMod, Int.reduceMul, Int.reduceAdd, Int.reduceSub, Int.reduceNeg, Int.reduceLT, Int.reduceLE, Nat.reduceAdd, Nat.reduceLeDiff, Nat.reduceLT, Nat.reduceSub, reduceIte, wds_n, wds_0, wds_1, wds_2, wds_3, or_true, true_or, or_false, false_or, or_self, rd_hset (show ¬ ((2953 : Int) = 2953 ∧ (3 : Int) = 1) by decide), h1]
  refine ⟨hd, fill_sp (n := 24) (by decide) ?_ (by decide) (by decide) ?_⟩
  · rw [rd_hset (by decide), h2]
  simp only [KC_4, x_aload0, x_gc_9251, x_iconst, y_call14, rd_fill (show ¬ ((2953 : Int) = 3104 ∧ (0 : Int) ≤ 4) by decide), rd_hset (show ¬ ((2953 : Int) = 2953 ∧ (4 : Int) = 1) by decide), h3, ne_eq, not_false_eq_true, not_true_eq_false, true_and, and_true, and_self, implies_true, eq_self, true_imp_iff, false_implies, Int.reduceEq, Int.reduceNe, Int.reduceMod, Int.reduceMul, Int.reduceAdd, Int.reduceSub, Int.reduceNeg, Int.reduceLT, Int.reduceLE, Nat.reduceAdd, Nat.reduceLeDiff, Nat.reduceLT, Nat.reduceSub, reduceIte, wds_n, wds_0, wds_1, wds_2, wds_3, or_true, true_or, or_false, false_or, or_self]
  refine ⟨hd, fill_sp (n := 192) (by decide) ?_ (by decide) (by decide) ?_⟩
  · rw [rd_fill (by decide), rd_hset (by decide), h4]
  simp only [KC_4, x_aload0, x_gc_9259, x_iconst, y_call14, rd_fill (show ¬ ((2953 : Int) = 3168 ∧ (0 : Int) ≤ 5) by decide), rd_fill (show ¬ ((2953 : Int) = 3104 ∧ (0 : Int) ≤ 5) by decide), rd_hset (show ¬ ((2953 : Int) = 2953 ∧ (5 : Int) = 1) by decide), h5, ne_eq, not_false_eq_true, not_true_eq_false, true_and, and_true, and_self, implies_true, eq_self, true_imp_iff, false_implies, Int.reduceEq, Int.reduceNe, Int.reduceMod, Int.reduceMul, Int.reduceAdd, Int.reduceSub, Int.reduceNeg, Int.reduceLT, Int.reduceLE, Nat.reduceAdd, Nat.reduceLeDiff, Nat.reduceLT, Nat.reduceSub, reduceIte, wds_n, wds_0, wds_1, wds_2, wds_3, or_true, true_or, or_false, false_or, or_self]
  refine ⟨hd, fill_sp (n := 24) (by decide) ?_ (by decide) (by decide) ?_⟩
  · rw [rd_fill (by decide), rd_fill (by decide), rd_hset (by decide), h6]
  simp only [KC_4, x_aload0, x_iconst, x_pf_9268, x_return, ne_eq, not_false_eq_true, not_true_eq_false, true_and, and_true, and_self, implies_true, eq_self, true_imp_iff, false_implies, Int.reduceEq, Int.reduceNe, Int.reduceMod, Int.reduceMul, Int.reduceAdd, Int.reduceSub, Int.reduceNeg, Int.reduceLT, Int.reduceLE, Nat.reduceAdd, Nat.reduceLeDiff, Nat.reduceLT, Nat.reduceSub, reduceIte, wds_n, wds_0, wds_1, wds_2, wds_3, or_true, true_or, or_false, false_or, or_self]
  exact hQ

theorem k2_129 {d : Nat} {B : HV} {M : List (Int × Int × Int)} {s : Int} {Q : Int → HV → Prop} (hB : BZ B) (hM : FR M 3) (hQ : Q 0 (HR B ((129, 0, 227) :: (227, (-1), 2400) :: M) 4 (s + 2400))) : Sp f0 d 2 [(3, 129)] (HR B M 3 s) Q := by
  have hF : ∀ n, 3 ≤ n → FR M n := fun n hn => hM.mono hn
  unfold Sp
  apply G_in
  simp only [en2, b2_0, x_aload0, x_iconst, x_new_35, x_obj, x_pc_1027, x_return, klp_0, klp_1, klp_2, klp_3, klp_9, KC_0, KC_1, KC_2, KC_3, KC_4, ne_eq, not_false_eq_true, not_true_eq_false, true_and, and_true, and_self, implies_true, eq_self, true_imp_iff, false_implies, Int.reduceEq, Int.reduceNe, Int.reduceMod, Int.reduceMul, Int.reduceAdd, Int.reduceSub, Int.reduceNeg, Int.reduceLT, Int.reduceLE, Nat.reduceAdd, Nat.reduceLeDiff, Nat.reduceLT, Nat.reduceSub, reduceIte, wds_n, wds_0, wds_1, wds_2, wds_3, or_true, true_or, or_false, false_or, or_self, hset_HR, alc_HR hB, alc2_HR hB, HR_00, HR_get, FR_cons, hF, f0_n, rd_f0]
  exact hQ
theorem k3_258 {d : Nat} {B : HV} {M : List (Int × Int × Int)} {s : Int} {Q : Int → HV → Prop} (hB : BZ B) (hM : FR M 5) (hQ : Q 0 (HR B ((258, 0, 129) :: (258, 9, 608) :: (608, (-1), 400) :: (258, 8, 544) :: (544, (-1), 400) :: (258, 7, 481) :: (481, (-1), 400) :: (258, 5, 416) :: (416, (-1), 404) :: (258, 4, 353) :: (353, (-1), 404) :: M) 10 (s + 2008))) : Sp f0 d 3 [(3, 258), (3, 129)] (HR B M 5 s) Q := by
  have hF : ∀ n, 5 ≤ n → FR M n := fun n hn => hM.mono hn
  unfold Sp
  apply G_in
  simp only [en3, b3_0, x_aload0, x_aload1, x_iconst, x_new_32, x_new_33, x_obj, x_pc_2051, x_pc_2083, x_pc_2091, x_pc_2107, x_pc_2115, x_pc_2123, x_return, klp_0, klp_1, klp_2, klp_3, klp_9, KC_0, KC_1, KC_2, KC_3, KC_4, ne_eq, not_false_eq_true, not_true_eq_false, true_and, and_true, and_self, implies_true, eq_self, true_imp_iff, false_implies, Int.reduceEq, Int.reduceNe, Int.reduceMod, Int.reduceMul, Int.reduceAdd, Int.reduceSub, Int.reduceNeg, Int.reduceLT, Int.reduceLE, Nat.reduceAdd, Nat.reduceLeDiff, Nat.reduceLT, Nat.reduceSub, reduceIte, wds_n, wds_0, wds_1, wds_2, wds_3, or_true, true_or, or_false, false_or, or_self, hset_HR, alc_HR hB, alc2_HR hB, HR_00, HR_get, FR_cons, hF, f0_n, rd_f0]
  rw [show s + 2008 = s + 404 + 404 + 400 + 400 + 400 by omega] at hQ
  exact hQ
theorem k4_643 {d : Nat} {B : HV} {M : List (Int × Int × Int)} {s : Int} {Q : Int → HV → Prop} (hB : BZ B) (hM : FR M 11) (hQ : Q 0 (HR B ((643, 1, 801) :: (801, (-1), 256) :: (643, 0, 736) :: (736, (-1), 64) :: M) 13 (s + 320))) : Sp f0 d 4 [(3, 643)] (HR B M 11 s) Q := by
  have hF : ∀ n, 11 ≤ n → FR M n := fun n hn => hM.mono hn
  unfold Sp
  apply G_in
  simp only [en4, b4_0, x_aload0, x_iconst, x_new_32, x_new_33, x_obj, x_pf_3075, x_pf_3083, x_return, klp_0, klp_1, klp_2, klp_3, klp_9, KC_0, KC_1, KC_2, KC_3, KC_4, ne_eq, not_false_eq_true, not_true_eq_false, true_and, and_true, and_self, implies_true, eq_self, true_imp_iff, false_implies, Int.reduceEq, Int.reduceNe, Int.reduceMod, Int.reduceMul, Int.reduceAdd, Int.reduceSub, Int.reduceNeg, Int.reduceLT, Int.reduceLE, Nat.reduceAdd, Nat.reduceLeDiff, Nat.reduceLT, Nat.reduceSub, reduceIte, wds_n, wds_0, wds_1, wds_2, wds_3, or_true, true_or, or_false, false_or, or_self, hset_HR, alc_HR hB, alc2_HR hB, HR_00, HR_get, FR_cons, hF, f0_n, rd_f0]
  rw [show s + 320 = s + 64 + 256 by omega] at hQ
  exact hQ
theorem k5_836 {d : Nat} {B : HV} {M : List (Int × Int × Int)} {s : Int} {Q : Int → HV → Prop} (hB : BZ B) (hM : FR M 14) (hQ : Q 0 (HR B ((836, 3, 1120) :: (1120, (-1), 192) :: (836, 2, 1056) :: (1056, (-1), 24) :: (836, 1, 992) :: (992, (-1), 24) :: (836, 0, 928) :: (928, (-1), 24) :: M) 18 (s + 264))) : Sp f0 d 5 [(3, 836)] (HR B M 14 s) Q := by
  have hF : ∀ n, 14 ≤ n → FR M n := fun n hn => hM.mono hn
  unfold Sp
  apply G_in
  simp only [en5, b5_0, x_aload0, x_iconst, x_new_32, x_obj, x_pc_4099, x_pc_4107, x_pc_4115, x_pc_4123, x_return, klp_0, klp_1, klp_2, klp_3, klp_9, KC_0, KC_1, KC_2, KC_3, KC_4, ne_eq, not_false_eq_true, not_true_eq_false, true_and, and_true, and_self, implies_true, eq_self, true_imp_iff, false_implies, Int.reduceEq, Int.reduceNe, Int.reduceMod, Int.reduceMul, Int.reduceAdd, Int.reduceSub, Int.reduceNeg, Int.reduceLT, Int.reduceLE, Nat.reduceAdd, Nat.reduceLeDiff, Nat.reduceLT, Nat.reduceSub, reduceIte, wds_n, wds_0, wds_1, wds_2, wds_3, or_true, true_or, or_false, false_or, or_self, hset_HR, alc_HR hB, alc2_HR hB, HR_00, HR_get, FR_cons, hF, f0_n, rd_f0]
  rw [show s + 264 = s + 24 + 24 + 24 + 192 by omega] at hQ
  exact hQ
theorem k7_1222 {d : Nat} {B : HV} {M : List (Int × Int × Int)} {s : Int} {Q : Int → HV → Prop} (hB : BZ B) (hM : FR M 20) (hQ : Q 0 (HR B ((1222, 1, 1377) :: (1377, (-1), 256) :: (1222, 0, 1312) :: (1312, (-1), 256) :: M) 22 (s + 512))) : Sp f0 d 7 [(3, 1222)] (HR B M 20 s) Q := by
  have hF : ∀ n, 20 ≤ n → FR M n := fun n hn => hM.mono hn
  unfold Sp
  apply G_in
  simp only [en7, b7_0, x_aload0, x_iconst, x_new_32, x_new_33, x_obj, x_pf_6147, x_pf_6155, x_return, klp_0, klp_1, klp_2, klp_3, klp_9, KC_0, KC_1, KC_2, KC_3, KC_4, ne_eq, not_false_eq_true, not_true_eq_false, true_and, and_true, and_self, implies_true, eq_self, true_imp_iff, false_implies, Int.reduceEq, Int.reduceNe, Int.reduceMod, Int.reduceMul, Int.reduceAdd, Int.reduceSub, Int.reduceNeg, Int.reduceLT, Int.reduceLE, Nat.reduceAdd, Nat.reduceLeDiff, Nat.reduceLT, Nat.reduceSub, reduceIte, wds_n, wds_0, wds_1, wds_2, wds_3, or_true, true_or, or_false, false_or, or_self, hset_HR, alc_HR hB, alc2_HR hB, HR_00, HR_get, FR_cons, hF, f0_n, rd_f0]
  rw [show s + 512 = s + 256 + 256 by omega] at hQ
  exact hQ
theorem k8_1927 {d : Nat} {B : HV} {M : List (Int × Int × Int)} {s : Int} {Q : Int → HV → Prop} (hB : BZ B) (hM : FR M 31) (hQ : Q 0 (HR B ((1927, 11, 2528) :: (2528, (-1), 36) :: (1927, 9, 2464) :: (2464, (-1), 12) :: (1927, 8, 2400) :: (2400, (-1), 10) :: (1927, 7, 2336) :: (2336, (-1), 8) :: (1927, 6, 2272) :: (2272, (-1), 6) :: (1927, 5, 2208) :: (2208, (-1), 36) :: (1927, 4, 2144) :: (2144, (-1), 37) :: (1927, 3, 2080) :: (2080, (-1), 240) :: (1927, 2, 2016) :: (2016, (-1), 10) :: (1927, 1, 4) :: M) 40 (s + 395))) : Sp f0 d 8 [(3, 1927)] (HR B M 31 s) Q := by
  have hF : ∀ n, 31 ≤ n → FR M n := fun n hn => hM.mono hn
  unfold Sp
  apply G_in
  simp only [en8, b8_0, x_aload0, x_iconst, x_new_32, x_obj, x_pc_7187, x_pc_7195, x_pc_7203, x_pc_7211, x_pc_7219, x_pc_7227, x_pc_7235, x_pc_7243, x_pc_7259, x_pf_7176, x_return, klp_0, klp_1, klp_2, klp_3, klp_9, KC_0, KC_1, KC_2, KC_3, KC_4, ne_eq, not_false_eq_true, not_true_eq_false, true_and, and_true, and_self, implies_true, eq_self, true_imp_iff, false_implies, Int.reduceEq, Int.reduceNe, Int.reduceMod, Int.reduceMul, Int.reduceAdd, Int.reduceSub, Int.reduceNeg, Int.reduceLT, Int.reduceLE, Nat.reduceAdd, Nat.reduceLeDiff, Nat.reduceLT, Nat.reduceSub, reduceIte, wds_n, wds_0, wds_1, wds_2, wds_3, or_true, true_or, or_false, false_or, or_self, hset_HR, alc_HR hB, alc2_HR hB, HR_00, HR_get, FR_cons, hF, f0_n, rd_f0]
  rw [show s + 395 = s + 10 + 240 + 37 + 36 + 6 + 8 + 10 + 12 + 36 by omega] at hQ
  exact hQ
theorem k9_2568 {d : Nat} {B : HV} {M : List (Int × Int × Int)} {s : Int} {Q : Int → HV → Prop} (hB : BZ B) (hM : FR M 41) (hQ : Q 0 (HR B ((2568, 0, 1927) :: (2568, 8, 2912) :: (2912, (-1), 6) :: (2568, 7, 2848) :: (2848, (-1), 6) :: (2568, 5, 2784) :: (2784, (-1), 6) :: (2568, 3, 2720) :: (2720, (-1), 36) :: (2568, 2, 2656) :: (2656, (-1), 10) :: M) 46 (s + 64))) : Sp f0 d 9 [(3, 2568), (3, 1927)] (HR B M 41 s) Q := by
  have hF : ∀ n, 41 ≤ n → FR M n := fun n hn => hM.mono hn
  unfold Sp
  apply G_in
  simp only [en9, b9_0, x_aload0, x_aload1, x_iconst, x_new_32, x_obj, x_pc_8195, x_pc_8211, x_pc_8219, x_pc_8235, x_pc_8251, x_pc_8259, x_return, klp_0, klp_1, klp_2, klp_3, klp_9, KC_0, KC_1, KC_2, KC_3, KC_4, ne_eq, not_false_eq_true, not_true_eq_false, true_and, and_true, and_self, implies_true, eq_self, true_imp_iff, false_implies, Int.reduceEq, Int.reduceNe, Int.reduceMod, Int.reduceMul, Int.reduceAdd, Int.reduceSub, Int.reduceNeg, Int.reduceLT, Int.reduceLE, Nat.reduceAdd, Nat.reduceLeDiff, Nat.reduceLT, Nat.reduceSub, reduceIte, wds_n, wds_0, wds_1, wds_2, wds_3, or_true, true_or, or_false, false_or, or_self, hset_HR, alc_HR hB, alc2_HR hB, HR_00, HR_get, FR_cons, hF, f0_n, rd_f0]
  rw [show s + 64 = s + 10 + 36 + 6 + 6 + 6 by omega] at hQ
  exact hQ
theorem k10_2953 {d : Nat} {B : HV} {M : List (Int × Int × Int)} {s : Int} {Q : Int → HV → Prop} (hB : BZ B) (hM : FR M 47) (hQ : Q 0 (HR B ((2953, 0, 836) :: (2953, 9, 3428) :: (3428, (-1), 24) :: (2953, 8, 3360) :: (3360, (-1), 8) :: (2953, 7, 3296) :: (3296, (-1), 24) :: (2953, 5, 3232) :: (3232, (-1), 24) :: (2953, 4, 3168) :: (3168, (-1), 192) :: (2953, 3, 3104) :: (3104, (-1), 24) :: (2953, 2, 3040) :: (3040, (-1), 192) :: M) 54 (s + 488))) : Sp f0 d 10 [(3, 2953), (3, 836)] (HR B M 47 s) Q := by
  have hF : ∀ n, 47 ≤ n → FR M n := fun n hn => hM.mono hn
  unfold Sp
  apply G_in
  simp only [en10, b10_0, x_aload0, x_aload1, x_iconst, x_new_32, x_new_36, x_obj, x_pc_9219, x_pc_9235, x_pc_9243, x_pc_9251, x_pc_9259, x_pc_9275, x_pc_9283, x_pc_9291, x_return, klp_0, klp_1, klp_2, klp_3, klp_9, KC_0, KC_1, KC_2, KC_3, KC_4, ne_eq, not_false_eq_true, not_true_eq_false, true_and, and_true, and_self, implies_true, eq_self, true_imp_iff, false_implies, Int.reduceEq, Int.reduceNe, Int.reduceMod, Int.reduceMul, Int.reduceAdd, Int.reduceSub, Int.reduceNeg, Int.reduceLT, Int.reduceLE, Nat.reduceAdd, Nat.reduceLeDiff, Nat.reduceLT, Nat.reduceSub, reduceIte, wds_n, wds_0, wds_1, wds_2, wds_3, or_true, true_or, or_false, false_or, or_self, hset_HR, alc_HR hB, alc2_HR hB, HR_00, HR_get, FR_cons, hF, f0_n, rd_f0]
  rw [show s + 488 = s + 192 + 24 + 192 + 24 + 24 + 8 + 24 by omega] at hQ
  exact hQ
theorem k11_3466 {d : Nat} {B : HV} {M : List (Int × Int × Int)} {s : Int} {Q : Int → HV → Prop} (hB : BZ B) (hM : FR M 55) (hQ : Q 0 (HR B ((3466, 16, 4896) :: (4896, (-1), 2400) :: (3466, 14, 4832) :: (4832, (-1), 12) :: (3466, 13, 4768) :: (4768, (-1), 12) :: (3466, 12, 4704) :: (4704, (-1), 12) :: (3466, 10, 4640) :: (4640, (-1), 36) :: (3466, 9, 4576) :: (4576, (-1), 8) :: (3466, 8, 4512) :: (4512, (-1), 12) :: (3466, 7, 4448) :: (4448, (-1), 12) :: (3466, 6, 4384) :: (4384, (-1), 12) :: (3466, 5, 4320) :: (4320, (-1), 8) :: (3466, 4, 4256) :: (4256, (-1), 10) :: (3466, 3, 4192) :: (4192, (-1), 10) :: (3466, 2, 4128) :: (4128, (-1), 6) :: (3466, 1, 4064) :: (4064, (-1), 7) :: (3466, 0, 3557) :: (4001, (-1), 12) :: (3937, (-1), 12) :: (3873, (-1), 12) :: (3809, (-1), 12) :: (3745, (-1), 12) :: (3681, (-1), 12) :: (3617, (-1), 12) :: (3557, 6, 4001) :: (3557, 5, 3937) :: (3557, 4, 3873) :: (3557, 3, 3809) :: (3557, 2, 3745) :: (3557, 1, 3681) :: (3557, 0, 3617) :: (3557, (-1), 7) :: M) 77 (s + 2648))) : Sp f0 d 11 [(3, 3466)] (HR B M 55 s) Q := by
  have hF : ∀ n, 55 ≤ n → FR M n := fun n hn => hM.mono hn
  unfold Sp
  apply G_in
  simp only [en11, b11_0, x_aload0, x_iconst, x_mna, x_new_32, x_obj, x_pc_10243, x_pc_10251, x_pc_10259, x_pc_10267, x_pc_10275, x_pc_10283, x_pc_10291, x_pc_10299, x_pc_10307, x_pc_10315, x_pc_10323, x_pc_10339, x_pc_10347, x_pc_10355, x_pc_10371, x_return, klp_0, klp_1, klp_2, klp_3, klp_9, KC_0, KC_1, KC_2, KC_3, KC_4, ne_eq, not_false_eq_true, not_true_eq_false, true_and, and_true, and_self, implies_true, eq_self, true_imp_iff, false_implies, Int.reduceEq, Int.reduceNe, Int.reduceMod, Int.reduceMul, Int.reduceAdd, Int.reduceSub, Int.reduceNeg, Int.reduceLT, Int.reduceLE, Nat.reduceAdd, Nat.reduceLeDiff, Nat.reduceLT, Nat.reduceSub, reduceIte, wds_n, wds_0, wds_1, wds_2, wds_3, or_true, true_or, or_false, false_or, or_self, hset_HR, alc_HR hB, alc2_HR hB, HR_00, HR_get, FR_cons, hF, f0_n, rd_f0]
  rw [show s + 2648 = s + 7 + 84 + 7 + 6 + 10 + 10 + 8 + 12 + 12 + 12 + 8 + 36 + 12 + 12 + 12 + 2400 by omega] at hQ
  exact hQ
theorem k11_4938 {d : Nat} {B : HV} {M : List (Int × Int × Int)} {s : Int} {Q : Int → HV → Prop} (hB : BZ B) (hM : FR M 78) (hQ : Q 0 (HR B ((4938, 16, 6368) :: (6368, (-1), 2400) :: (4938, 14, 6304) :: (6304, (-1), 12) :: (4938, 13, 6240) :: (6240, (-1), 12) :: (4938, 12, 6176) :: (6176, (-1), 12) :: (4938, 10, 6112) :: (6112, (-1), 36) :: (4938, 9, 6048) :: (6048, (-1), 8) :: (4938, 8, 5984) :: (5984, (-1), 12) :: (4938, 7, 5920) :: (5920, (-1), 12) :: (4938, 6, 5856) :: (5856, (-1), 12) :: (4938, 5, 5792) :: (5792, (-1), 8) :: (4938, 4, 5728) :: (5728, (-1), 10) :: (4938, 3, 5664) :: (5664, (-1), 10) :: (4938, 2, 5600) :: (5600, (-1), 6) :: (4938, 1, 5536) :: (5536, (-1), 7) :: (4938, 0, 5029) :: (5473, (-1), 12) :: (5409, (-1), 12) :: (5345, (-1), 12) :: (5281, (-1), 12) :: (5217, (-1), 12) :: (5153, (-1), 12) :: (5089, (-1), 12) :: (5029, 6, 5473) :: (5029, 5, 5409) :: (5029, 4, 5345) :: (5029, 3, 5281) :: (5029, 2, 5217) :: (5029, 1, 5153) :: (5029, 0, 5089) :: (5029, (-1), 7) :: M) 100 (s + 2648))) : Sp f0 d 11 [(3, 4938)] (HR B M 78 s) Q := by
  have hF : ∀ n, 78 ≤ n → FR M n := fun n hn => hM.mono hn
  unfold Sp
  apply G_in
  simp only [en11, b11_0, x_aload0, x_iconst, x_mna, x_new_32, x_obj, x_pc_10243, x_pc_10251, x_pc_10259, x_pc_10267, x_pc_10275, x_pc_10283, x_pc_10291, x_pc_10299, x_pc_10307, x_pc_10315, x_pc_10323, x_pc_10339, x_pc_10347, x_pc_10355, x_pc_10371, x_return, klp_0, klp_1, klp_2, klp_3, klp_9, KC_0, KC_1, KC_2, KC_3, KC_4, ne_eq, not_false_eq_true, not_true_eq_false, true_and, and_true, and_self, implies_true, eq_self, true_imp_iff, false_implies, Int.reduceEq, Int.reduceNe, Int.reduceMod, Int.reduceMul, Int.reduceAdd, Int.reduceSub, Int.reduceNeg, Int.reduceLT, Int.reduceLE, Nat.reduceAdd, Nat.reduceLeDiff, Nat.reduceLT, Nat.reduceSub, reduceIte, wds_n, wds_0, wds_1, wds_2, wds_3, or_true, true_or, or_false, false_or, or_self, hset_HR, alc_HR hB, alc2_HR hB, HR_00, HR_get, FR_cons, hF, f0_n, rd_f0]
  rw [show s + 2648 = s + 7 + 84 + 7 + 6 + 10 + 10 + 8 + 12 + 12 + 12 + 8 + 36 + 12 + 12 + 12 + 2400 by omega] at hQ
  exact hQ
theorem k318_6732 {d : Nat} {B : HV} {M : List (Int × Int × Int)} {s : Int} {Q : Int → HV → Prop} (hB : BZ B) (hM : FR M 106) (hQ : Q 0 (HR B ((6732, 24, 8032) :: (8032, (-1), 401) :: (6732, 23, 7968) :: (7968, (-1), 3208) :: (6732, 19, 7906) :: (7906, (-1), 401) :: (6732, 18, 7840) :: (7840, (-1), 6000) :: (6732, 17, 7776) :: (7776, (-1), 6000) :: (6732, 16, 7712) :: (7712, (-1), 6000) :: (6732, 13, 7648) :: (7648, (-1), 12) :: (6732, 12, 7584) :: (7584, (-1), 12) :: (6732, 11, 7520) :: (7520, (-1), 12) :: (6732, 10, 7456) :: (7456, (-1), 8) :: (6732, 9, 7392) :: (7392, (-1), 12) :: (6732, 8, 7328) :: (7328, (-1), 12) :: (6732, 7, 7264) :: (7264, (-1), 12) :: (6732, 6, 7200) :: (7200, (-1), 12) :: (6732, 5, 7136) :: (7136, (-1), 8) :: (6732, 4, 7072) :: (7072, (-1), 10) :: (6732, 3, 7008) :: (7008, (-1), 10) :: (6732, 2, 6944) :: (6944, (-1), 6) :: (6732, 1, 6881) :: (6881, (-1), 112) :: (6732, 0, 6816) :: (6816, (-1), 7) :: M) 126 (s + 22255))) : Sp f0 d 318 [(3, 6732)] (HR B M 106 s) Q := by
  have hF : ∀ n, 106 ≤ n → FR M n := fun n hn => hM.mono hn
  unfold Sp
  apply G_in
  simp only [en318, b318_0, x_aload0, x_iconst, x_new_32, x_new_33, x_new_34, x_obj, x_pc_12291, x_pc_12299, x_pc_12307, x_pc_12315, x_pc_12323, x_pc_12331, x_pc_12339, x_pc_12347, x_pc_12355, x_pc_12363, x_pc_12371, x_pc_12379, x_pc_12387, x_pc_12395, x_pc_12419, x_pc_12427, x_pc_12435, x_pc_12443, x_pc_12475, x_pc_12483, x_return, klp_0, klp_1, klp_2, klp_3, klp_9, KC_0, KC_1, KC_2, KC_3, KC_4, ne_eq, not_false_eq_true, not_true_eq_false, true_and, and_true, and_self, implies_true, eq_self, true_imp_iff, false_implies, Int.reduceEq, Int.reduceNe, Int.reduceMod, Int.reduceMul, Int.reduceAdd, Int.reduceSub, Int.reduceNeg, Int.reduceLT, Int.reduceLE, Nat.reduceAdd, Nat.reduceLeDiff, Nat.reduceLT, Nat.reduceSub, reduceIte, wds_n, wds_0, wds_1, wds_2, wds_3, or_true, true_or, or_false, false_or, or_self, hset_HR, alc_HR hB, alc2_HR hB, HR_00, HR_get, FR_cons, hF, f0_n, rd_f0]
  rw [show s + 22255 = s + 7 + 112 + 6 + 10 + 10 + 8 + 12 + 12 + 12 + 12 + 8 + 12 + 12 + 12 + 6000 + 6000 + 6000 + 401 + 3208 + 401 by omega] at hQ
  exact hQ
theorem k318_8076 {d : Nat} {B : HV} {M : List (Int × Int × Int)} {s : Int} {Q : Int → HV → Prop} (hB : BZ B) (hM : FR M 127) (hQ : Q 0 (HR B ((8076, 24, 9376) :: (9376, (-1), 401) :: (8076, 23, 9312) :: (9312, (-1), 3208) :: (8076, 19, 9250) :: (9250, (-1), 401) :: (8076, 18, 9184) :: (9184, (-1), 6000) :: (8076, 17, 9120) :: (9120, (-1), 6000) :: (8076, 16, 9056) :: (9056, (-1), 6000) :: (8076, 13, 8992) :: (8992, (-1), 12) :: (8076, 12, 8928) :: (8928, (-1), 12) :: (8076, 11, 8864) :: (8864, (-1), 12) :: (8076, 10, 8800) :: (8800, (-1), 8) :: (8076, 9, 8736) :: (8736, (-1), 12) :: (8076, 8, 8672) :: (8672, (-1), 12) :: (8076, 7, 8608) :: (8608, (-1), 12) :: (8076, 6, 8544) :: (8544, (-1), 12) :: (8076, 5, 8480) :: (8480, (-1), 8) :: (8076, 4, 8416) :: (8416, (-1), 10) :: (8076, 3, 8352) :: (8352, (-1), 10) :: (8076, 2, 8288) :: (8288, (-1), 6) :: (8076, 1, 8225) :: (8225, (-1), 112) :: (8076, 0, 8160) :: (8160, (-1), 7) :: M) 147 (s + 22255))) : Sp f0 d 318 [(3, 8076)] (HR B M 127 s) Q := by
  have hF : ∀ n, 127 ≤ n → FR M n := fun n hn => hM.mono hn
  unfold Sp
  apply G_in
  simp only [en318, b318_0, x_aload0, x_iconst, x_new_32, x_new_33, x_new_34, x_obj, x_pc_12291, x_pc_12299, x_pc_12307, x_pc_12315, x_pc_12323, x_pc_12331, x_pc_12339, x_pc_12347, x_pc_12355, x_pc_12363, x_pc_12371, x_pc_12379, x_pc_12387, x_pc_12395, x_pc_12419, x_pc_12427, x_pc_12435, x_pc_12443, x_pc_12475, x_pc_12483, x_return, klp_0, klp_1, klp_2, klp_3, klp_9, KC_0, KC_1, KC_2, KC_3, KC_4, ne_eq, not_false_eq_true, not_true_eq_false, true_and, and_true, and_self, implies_true, eq_self, true_imp_iff, false_implies, Int.reduceEq, Int.reduceNe, Int.reduceMod, Int.reduceMul, Int.reduceAdd, Int.reduceSub, Int.reduceNeg, Int.reduceLT, Int.reduceLE, Nat.reduceAdd, Nat.reduceLeDiff, Nat.reduceLT, Nat.reduceSub, reduceIte, wds_n, wds_0, wds_1, wds_2, wds_3, or_true, true_or, or_false, false_or, or_self, hset_HR, alc_HR hB, alc2_HR hB, HR_00, HR_get, FR_cons, hF, f0_n, rd_f0]
  rw [show s + 22255 = s + 7 + 112 + 6 + 10 + 10 + 8 + 12 + 12 + 12 + 12 + 8 + 12 + 12 + 12 + 6000 + 6000 + 6000 + 401 + 3208 + 401 by omega] at hQ
  exact hQ
theorem k6_1157 {d : Nat} {B : HV} {M : List (Int × Int × Int)} {s : Int} {Q : Int → HV → Prop} (hd : 0 < d) (hB : BZ B) (hM : FR M 19) (hQ : Q 0 (HR B ((1157, 1, 643) :: (1157, 0, 836) :: (1157, 14, 1889) :: (1889, (-1), 96) :: (1157, 13, 1824) :: (1824, (-1), 96) :: (1157, 12, 1760) :: (1760, (-1), 96) :: (1157, 11, 1696) :: (1696, (-1), 96) :: (1157, 10, 1632) :: (1632, (-1), 96) :: (1157, 9, 1568) :: (1568, (-1), 96) :: (1157, 7, 1504) :: (1504, (-1), 8) :: (1157, 6, 1440) :: (1440, (-1), 8) :: (1157, 2, 1222) :: (1222, 1, 1377) :: (1377, (-1), 256) :: (1222, 0, 1312) :: (1312, (-1), 256) :: (1222, (-1), 0) :: M) 30 (s + 1107))) : Sp f0 d 6 [(3, 1157), (3, 836), (3, 643)] (HR B M 19 s) Q := by
  have hF : ∀ n, 19 ≤ n → FR M n := fun n hn => hM.mono hn
  unfold Sp
  apply G_in
  simp only [en6, b6_0, x_aload0, x_aload1, x_aload2, y_call7, x_dup0, x_dup3, x_iconst, x_new_32, x_new_33, x_new_6, x_obj, x_pc_5123, x_pc_5131, x_pc_5139, x_pc_5171, x_pc_5179, x_pc_5195, x_pc_5203, x_pc_5211, x_pc_5219, x_pc_5227, x_pc_5235, x_return, klp_0, klp_1, klp_2, klp_3, klp_9, KC_0, KC_1, KC_2, KC_3, KC_4, ne_eq, not_false_eq_true, not_true_eq_false, true_and, and_true, and_self, implies_true, eq_self, true_imp_iff, false_implies, Int.reduceEq, Int.reduceNe, Int.reduceMod, Int.reduceMul, Int.reduceAdd, Int.reduceSub, Int.reduceNeg, Int.reduceLT, Int.reduceLE, Nat.reduceAdd, Nat.reduceLeDiff, Nat.reduceLT, Nat.reduceSub, reduceIte, wds_n, wds_0, wds_1, wds_2, wds_3, or_true, true_or, or_false, false_or, or_self, hset_HR, alc_HR hB, alc2_HR hB, HR_00, HR_get, FR_cons, hF, f0_n, rd_f0]
  refine ⟨hd, k7_1222 hB ?_ ?_⟩
  · simp only [FR_cons, hF, ne_eq, not_false_eq_true, not_true_eq_false, true_and, and_true, and_self, implies_true, eq_self, true_imp_iff, false_implies, Int.reduceEq, Int.reduceNe, Int.reduceMod, Int.reduceMul, Int.reduceAdd, Int.reduceSub, Int.reduceNeg, Int.reduceLT, Int.reduceLE, Nat.reduceAdd, Nat.reduceLeDiff, Nat.reduceLT, Nat.reduceSub, reduceIte, wds_n, wds_0, wds_1, wds_2, wds_3, or_true, true_or, or_false, false_or, or_self]
  simp only [en6, b6_0, x_aload0, x_aload1, x_aload2, y_call7, x_dup0, x_dup3, x_iconst, x_new_32, x_new_33, x_new_6, x_obj, x_pc_5123, x_pc_5131, x_pc_5139, x_pc_5171, x_pc_5179, x_pc_5195, x_pc_5203, x_pc_5211, x_pc_5219, x_pc_5227, x_pc_5235, x_return, klp_0, klp_1, klp_2, klp_3, klp_9, KC_0, KC_1, KC_2, KC_3, KC_4, ne_eq, not_false_eq_true, not_true_eq_false, true_and, and_true, and_self, implies_true, eq_self, true_imp_iff, false_implies, Int.reduceEq, Int.reduceNe, Int.reduceMod, Int.reduceMul, Int.reduceAdd, Int.reduceSub, Int.reduceNeg, Int.reduceLT, Int.reduceLE, Nat.reduceAdd, Nat.reduceLeDiff, Nat.reduceLT, Nat.reduceSub, reduceIte, wds_n, wds_0, wds_1, wds_2, wds_3, or_true, true_or, or_false, false_or, or_self, hset_HR, alc_HR hB, alc2_HR hB, HR_00, HR_get, FR_cons, hF, f0_n, rd_f0]
  have e : (s + 3 + 512 + 8 + 8 + 96 + 96 + 96 + 96 + 96 + 96 : Int) = s + 1107 := by omega
  rw [e]
  exact hQ
set_option maxRecDepth 100000 in
theorem k317_6603 {d : Nat} {B : HV} {M : List (Int × Int × Int)} {s : Int} {Q : Int → HV → Prop} (hd : 0 < d) (hB : BZ B) (hM : FR M 104) (hQ : Q 0 (HR B ((6603, 94, 13024) :: (13024, (-1), 7168) :: (6603, 92, 12960) :: (12960, (-1), 36) :: (6603, 91, 12896) :: (12896, (-1), 36) :: (6603, 90, 12832) :: (12832, (-1), 8) :: (6603, 89, 12772) :: (12772, (-1), 24) :: (6603, 88, 12708) :: (12708, (-1), 24) :: (6603, 87, 12640) :: (12640, (-1), 24) :: (6603, 85, 12576) :: (12576, (-1), 24) :: (6603, 84, 12512) :: (12512, (-1), 192) :: (6603, 83, 12448) :: (12448, (-1), 192) :: (6603, 82, 12384) :: (12384, (-1), 24) :: (6603, 81, 12320) :: (12320, (-1), 37) :: (6603, 80, 12256) :: (12256, (-1), 37) :: (6603, 79, 12192) :: (12192, (-1), 36) :: (6603, 78, 12128) :: (12128, (-1), 36) :: (6603, 77, 12064) :: (12064, (-1), 36) :: (6603, 76, 12000) :: (12000, (-1), 36) :: (6603, 75, 11936) :: (11936, (-1), 36) :: (6603, 74, 11872) :: (11872, (-1), 36) :: (6603, 68, 11808) :: (11808, (-1), 240) :: (6603, 67, 11744) :: (11744, (-1), 10) :: (6603, 66, 11680) :: (11680, (-1), 10) :: (6603, 65, 4) :: (6603, 64, 11618) :: (11618, (-1), 24) :: (6603, 63, 11552) :: (11552, (-1), 24) :: (6603, 62, 11488) :: (11488, (-1), 24) :: (6603, 61, (-9)) :: (6603, 60, 11425) :: (11425, (-1), 64) :: (6603, 51, 11361) :: (11361, (-1), 4000) :: (6603, 50, 11296) :: (11296, (-1), 4000) :: (6603, 49, 11232) :: (11232, (-1), 4000) :: (6603, 48, 11168) :: (11168, (-1), 4000) :: (6603, 47, 11104) :: (11104, (-1), 4000) :: (6603, 46, 11040) :: (11040, (-1), 4000) :: (6603, 45, 10976) :: (10976, (-1), 4000) :: (6603, 43, 10912) :: (10912, (-1), 8) :: (6603, 42, 10848) :: (10848, (-1), 8) :: (6603, 40, 10784) :: (10784, (-1), 3216) :: (6603, 39, 10720) :: (10720, (-1), 3216) :: (6603, 38, 10657) :: (10657, (-1), 3360) :: (6603, 37, 10592) :: (10592, (-1), 3360) :: (6603, 35, 10529) :: (10529, (-1), 600) :: (6603, 34, 10464) :: (10464, (-1), 600) :: (6603, 33, 10401) :: (10401, (-1), 384000) :: (6603, 32, 10336) :: (10336, (-1), 6000) :: (6603, 31, 10272) :: (10272, (-1), 6000) :: (6603, 29, 10208) :: (10208, (-1), 192) :: (6603, 28, 10144) :: (10144, (-1), 24) :: (6603, 27, 10080) :: (10080, (-1), 24) :: (6603, 26, 10016) :: (10016, (-1), 24) :: (6603, 23, 9952) :: (9952, (-1), 402) :: (6603, 22, 9888) :: (9888, (-1), 402) :: (6603, 21, 9824) :: (9824, (-1), 402) :: (6603, 20, 9761) :: (9761, (-1), 402) :: (6603, 18, 9696) :: (9696, (-1), 402) :: (6603, 17, 9632) :: (9632, (-1), 402) :: (6603, 16, 9569) :: (9569, (-1), 402) :: (6603, 14, 9505) :: (9505, (-1), 420) :: (6603, 11, 9446) :: (9446, 37, (-6067)) :: (9446, 36, (-5939)) :: (9446, 35, (-5811)) :: (9446, 34, (-5683)) :: (9446, 33, (-5555)) :: (9446, 32, (-5427)) :: (9446, 31, (-5299)) :: (9446, 30, (-5171)) :: (9446, 29, (-5043)) :: (9446, 28, (-4915)) :: (9446, 27, (-1331)) :: (9446, 26, (-4787)) :: (9446, 25, (-4659)) :: (9446, 24, (-4531)) :: (9446, 23, (-4403)) :: (9446, 22, (-4275)) :: (9446, 21, (-4147)) :: (9446, 20, (-4019)) :: (9446, 19, (-3891)) :: (9446, 18, (-3763)) :: (9446, 17, (-3635)) :: (9446, 16, (-1843)) :: (9446, 15, (-1715)) :: (9446, 14, (-3507)) :: (9446, 13, (-1587)) :: (9446, 12, (-3379)) :: (9446, 11, (-1459)) :: (9446, 10, (-3251)) :: (9446, 9, (-3123)) :: (9446, 8, (-2995)) :: (9446, 7, (-2867)) :: (9446, 6, (-2739)) :: (9446, 5, (-2611)) :: (9446, 4, (-2483)) :: (9446, 3, (-2355)) :: (9446, 2, (-2227)) :: (9446, 1, (-2099)) :: (9446, 0, (-1971)) :: (9446, (-1), 38) :: (6603, 10, 8076) :: (8076, 24, 9376) :: (9376, (-1), 401) :: (8076, 23, 9312) :: (9312, (-1), 3208) :: (8076, 19, 9250) :: (9250, (-1), 401) :: (8076, 18, 9184) :: (9184, (-1), 6000) :: (8076, 17, 9120) :: (9120, (-1), 6000) :: (8076, 16, 9056) :: (9056, (-1), 6000) :: (8076, 13, 8992) :: (8992, (-1), 12) :: (8076, 12, 8928) :: (8928, (-1), 12) :: (8076, 11, 8864) :: (8864, (-1), 12) :: (8076, 10, 8800) :: (8800, (-1), 8) :: (8076, 9, 8736) :: (8736, (-1), 12) :: (8076, 8, 8672) :: (8672, (-1), 12) :: (8076, 7, 8608) :: (8608, (-1), 12) :: (8076, 6, 8544) :: (8544, (-1), 12) :: (8076, 5, 8480) :: (8480, (-1), 8) :: (8076, 4, 8416) :: (8416, (-1), 10) :: (8076, 3, 8352) :: (8352, (-1), 10) :: (8076, 2, 8288) :: (8288, (-1), 6) :: (8076, 1, 8225) :: (8225, (-1), 112) :: (8076, 0, 8160) :: (8160, (-1), 7) :: (8076, (-1), 0) :: (6603, 9, 6732) :: (6732, 24, 8032) :: (8032, (-1), 401) :: (6732, 23, 7968) :: (7968, (-1), 3208) :: (6732, 19, 7906) :: (7906, (-1), 401) :: (6732, 18, 7840) :: (7840, (-1), 6000) :: (6732, 17, 7776) :: (7776, (-1), 6000) :: (6732, 16, 7712) :: (7712, (-1), 6000) :: (6732, 13, 7648) :: (7648, (-1), 12) :: (6732, 12, 7584) :: (7584, (-1), 12) :: (6732, 11, 7520) :: (7520, (-1), 12) :: (6732, 10, 7456) :: (7456, (-1), 8) :: (6732, 9, 7392) :: (7392, (-1), 12) :: (6732, 8, 7328) :: (7328, (-1), 12) :: (6732, 7, 7264) :: (7264, (-1), 12) :: (6732, 6, 7200) :: (7200, (-1), 12) :: (6732, 5, 7136) :: (7136, (-1), 8) :: (6732, 4, 7072) :: (7072, (-1), 10) :: (6732, 3, 7008) :: (7008, (-1), 10) :: (6732, 2, 6944) :: (6944, (-1), 6) :: (6732, 1, 6881) :: (6881, (-1), 112) :: (6732, 0, 6816) :: (6816, (-1), 7) :: (6732, (-1), 0) :: (6603, 0, 6691) :: (6691, (-1), 2400) :: M) 204 (s + 497302))) : Sp f0 d 317 [(3, 6603)] (HR B M 104 s) Q := by
  have hF : ∀ n, 104 ≤ n → FR M n := fun n hn => hM.mono hn
  unfold Sp
  apply G_in
  simp only [en317, b317_0, x_aastore, x_aload0, y_call318, x_dup0, x_dup3, x_iconst, x_jsr, x_new_12, x_new_32, x_new_33, x_new_34, x_new_35, x_new_36, x_new_38, x_obj, x_pc_11267, x_pc_11355, x_pc_11379, x_pc_11395, x_pc_11403, x_pc_11411, x_pc_11427, x_pc_11435, x_pc_11443, x_pc_11451, x_pc_11475, x_pc_11483, x_pc_11491, x_pc_11499, x_pc_11515, x_pc_11523, x_pc_11531, x_pc_11539, x_pc_11547, x_pc_11563, x_pc_11571, x_pc_11579, x_pc_11587, x_pc_11603, x_pc_11611, x_pc_11627, x_pc_11635, x_pc_11643, x_pc_11651, x_pc_11659, x_pc_11667, x_pc_11675, x_pc_11747, x_pc_11763, x_pc_11771, x_pc_11779, x_pc_11795, x_pc_11803, x_pc_11811, x_pc_11859, x_pc_11867, x_pc_11875, x_pc_11883, x_pc_11891, x_pc_11899, x_pc_11907, x_pc_11915, x_pc_11923, x_pc_11931, x_pc_11939, x_pc_11947, x_pc_11963, x_pc_11971, x_pc_11979, x_pc_11987, x_pc_11995, x_pc_12003, x_pc_12019, x_pf_11339, x_pf_11347, x_pf_11752, x_pf_11784, x_return, klp_0, klp_1, klp_2, klp_3, klp_9, KC_0, KC_1, KC_2, KC_3, KC_4, ne_eq, not_false_eq_true, not_true_eq_false, true_and, and_true, and_self, implies_true, eq_self, true_imp_iff, false_implies, Int.reduceEq, Int.reduceNe, Int.reduceMod, Int.reduceMul, Int.reduceAdd, Int.reduceSub, Int.reduceNeg, Int.reduceLT, Int.reduceLE, Nat.reduceAdd, Nat.reduceLeDiff, Nat.reduceLT, Nat.reduceSub, reduceIte, wds_n, wds_0, wds_1, wds_2, wds_3, or_true, true_or, or_false, false_or, or_self, hset_HR, alc_HR hB, alc2_HR hB, HR_00, HR_get, FR_cons, hF, f0_n, rd_f0]
  refine ⟨hd, k318_6732 hB ?_ ?_⟩
  · simp only [FR_cons, hF, ne_eq, not_false_eq_true, not_true_eq_false, true_and, and_true, and_self, implies_true, eq_self, true_imp_iff, false_implies, Int.reduceEq, Int.reduceNe, Int.reduceMod, Int.reduceMul, Int.reduceAdd, Int.reduceSub, Int.reduceNeg, Int.reduceLT, Int.reduceLE, Nat.reduceAdd, Nat.reduceLeDiff, Nat.reduceLT, Nat.reduceSub, reduceIte, wds_n, wds_0, wds_1, wds_2, wds_3, or_true, true_or, or_false, false_or, or_self]
  simp only [en317, b317_0, x_aastore, x_aload0, y_call318, x_dup0, x_dup3, x_iconst, x_jsr, x_new_12, x_new_32, x_new_33, x_new_34, x_new_35, x_new_36, x_new_38, x_obj, x_pc_11267, x_pc_11355, x_pc_11379, x_pc_11395, x_pc_11403, x_pc_11411, x_pc_11427, x_pc_11435, x_pc_11443, x_pc_11451, x_pc_11475, x_pc_11483, x_pc_11491, x_pc_11499, x_pc_11515, x_pc_11523, x_pc_11531, x_pc_11539, x_pc_11547, x_pc_11563, x_pc_11571, x_pc_11579, x_pc_11587, x_pc_11603, x_pc_11611, x_pc_11627, x_pc_11635, x_pc_11643, x_pc_11651, x_pc_11659, x_pc_11667, x_pc_11675, x_pc_11747, x_pc_11763, x_pc_11771, x_pc_11779, x_pc_11795, x_pc_11803, x_pc_11811, x_pc_11859, x_pc_11867, x_pc_11875, x_pc_11883, x_pc_11891, x_pc_11899, x_pc_11907, x_pc_11915, x_pc_11923, x_pc_11931, x_pc_11939, x_pc_11947, x_pc_11963, x_pc_11971, x_pc_11979, x_pc_11987, x_pc_11995, x_pc_12003, x_pc_12019, x_pf_11339, x_pf_11347, x_pf_11752, x_pf_11784, x_return, klp_0, klp_1, klp_2, klp_3, klp_9, KC_0, KC_1, KC_2, KC_3, KC_4, ne_eq, not_false_eq_true, not_true_eq_false, true_and, and_true, and_self, implies_true, eq_self, true_imp_iff, false_implies, Int.reduceEq, Int.reduceNe, Int.reduceMod, Int.reduceMul, Int.reduceAdd, Int.reduceSub, Int.reduceNeg, Int.reduceLT, Int.reduceLE, Nat.reduceAdd, Nat.reduceLeDiff, Nat.reduceLT, Nat.reduceSub, reduceIte, wds_n, wds_0, wds_1, wds_2, wds_3, or_true, true_or, or_false, false_or, or_self, hset_HR, alc_HR hB, alc2_HR hB, HR_00, HR_get, FR_cons, hF, f0_n, rd_f0]
  refine ⟨hd, k318_8076 hB ?_ ?_⟩
  · simp only [FR_cons, hF, ne_eq, not_false_eq_true, not_true_eq_false, true_and, and_true, and_self, implies_true, eq_self, true_imp_iff, false_implies, Int.reduceEq, Int.reduceNe, Int.reduceMod, Int.reduceMul, Int.reduceAdd, Int.reduceSub, Int.reduceNeg, Int.reduceLT, Int.reduceLE, Nat.reduceAdd, Nat.reduceLeDiff, Nat.reduceLT, Nat.reduceSub, reduceIte, wds_n, wds_0, wds_1, wds_2, wds_3, or_true, true_or, or_false, false_or, or_self]
  simp only [en317, b317_0, x_aastore, x_aload0, y_call318, x_dup0, x_dup3, x_iconst, x_jsr, x_new_12, x_new_32, x_new_33, x_new_34, x_new_35, x_new_36, x_new_38, x_obj, x_pc_11267, x_pc_11355, x_pc_11379, x_pc_11395, x_pc_11403, x_pc_11411, x_pc_11427, x_pc_11435, x_pc_11443, x_pc_11451, x_pc_11475, x_pc_11483, x_pc_11491, x_pc_11499, x_pc_11515, x_pc_11523, x_pc_11531, x_pc_11539, x_pc_11547, x_pc_11563, x_pc_11571, x_pc_11579, x_pc_11587, x_pc_11603, x_pc_11611, x_pc_11627, x_pc_11635, x_pc_11643, x_pc_11651, x_pc_11659, x_pc_11667, x_pc_11675, x_pc_11747, x_pc_11763, x_pc_11771, x_pc_11779, x_pc_11795, x_pc_11803, x_pc_11811, x_pc_11859, x_pc_11867, x_pc_11875, x_pc_11883, x_pc_11891, x_pc_11899, x_pc_11907, x_pc_11915, x_pc_11923, x_pc_11931, x_pc_11939, x_pc_11947, x_pc_11963, x_pc_11971, x_pc_11979, x_pc_11987, x_pc_11995, x_pc_12003, x_pc_12019, x_pf_11339, x_pf_11347, x_pf_11752, x_pf_11784, x_return, klp_0, klp_1, klp_2, klp_3, klp_9, KC_0, KC_1, KC_2, KC_3, KC_4, ne_eq, not_false_eq_true, not_true_eq_false, true_and, and_true, and_self, implies_true, eq_self, true_imp_iff, false_implies, Int.reduceEq, Int.reduceNe, Int.reduceMod, Int.reduceMul, Int.reduceAdd, Int.reduceSub, Int.reduceNeg, Int.reduceLT, Int.reduceLE, Nat.reduceAdd, Nat.reduceLeDiff, Nat.reduceLT, Nat.reduceSub, reduceIte, wds_n, wds_0, wds_1, wds_2, wds_3, or_true, true_or, or_false, false_or, or_self, hset_HR, alc_HR hB, alc2_HR hB, HR_00, HR_get, FR_cons, hF, f0_n, rd_f0]
  refine Eq.mp ?_ hQ
  congr 1
  congr 1
  omega
def M_1 (M : List (Int × Int × Int)) : List (Int × Int × Int) := (2953, 6, 0) :: (fl 3232 (-9) 24 ++ ((2953, 1, 3466) :: (2568, 4, 0) :: (2568, 1, 3466) :: (1157, 3, 3466) :: (1927, 14, 0) :: (1927, 13, 0) :: (1927, 0, 3466) :: (64, 15, 6561) :: (6561, (-1), 24) :: (64, 14, 6496) :: (6496, (-1), 24) :: (64, 13, 6432) :: (6432, (-1), 24) :: (64, 9, 4938) :: (4938, 16, 6368) :: (6368, (-1), 2400) :: (4938, 14, 6304) :: (6304, (-1), 12) :: (4938, 13, 6240) :: (6240, (-1), 12) :: (4938, 12, 6176) :: (6176, (-1), 12) :: (4938, 10, 6112) :: (6112, (-1), 36) :: (4938, 9, 6048) :: (6048, (-1), 8) :: (4938, 8, 5984) :: (5984, (-1), 12) :: (4938, 7, 5920) :: (5920, (-1), 12) :: (4938, 6, 5856) :: (5856, (-1), 12) :: (4938, 5, 5792) :: (5792, (-1), 8) :: (4938, 4, 5728) :: (5728, (-1), 10) :: (4938, 3, 5664) :: (5664, (-1), 10) :: (4938, 2, 5600) :: (5600, (-1), 6) :: (4938, 1, 5536) :: (5536, (-1), 7) :: (4938, 0, 5029) :: (5473, (-1), 12) :: (5409, (-1), 12) :: (5345, (-1), 12) :: (5281, (-1), 12) :: (5217, (-1), 12) :: (5153, (-1), 12) :: (5089, (-1), 12) :: (5029, 6, 5473) :: (5029, 5, 5409) :: (5029, 4, 5345) :: (5029, 3, 5281) :: (5029, 2, 5217) :: (5029, 1, 5153) :: (5029, 0, 5089) :: (5029, (-1), 7) :: (4938, (-1), 0) :: (64, 8, 3466) :: (3466, 16, 4896) :: (4896, (-1), 2400) :: (3466, 14, 4832) :: (4832, (-1), 12) :: (3466, 13, 4768) :: (4768, (-1), 12) :: (3466, 12, 4704) :: (4704, (-1), 12) :: (3466, 10, 4640) :: (4640, (-1), 36) :: (3466, 9, 4576) :: (4576, (-1), 8) :: (3466, 8, 4512) :: (4512, (-1), 12) :: (3466, 7, 4448) :: (4448, (-1), 12) :: (3466, 6, 4384) :: (4384, (-1), 12) :: (3466, 5, 4320) :: (4320, (-1), 8) :: (3466, 4, 4256) :: (4256, (-1), 10) :: (3466, 3, 4192) :: (4192, (-1), 10) :: (3466, 2, 4128) :: (4128, (-1), 6) :: (3466, 1, 4064) :: (4064, (-1), 7) :: (3466, 0, 3557) :: (4001, (-1), 12) :: (3937, (-1), 12) :: (3873, (-1), 12) :: (3809, (-1), 12) :: (3745, (-1), 12) :: (3681, (-1), 12) :: (3617, (-1), 12) :: (3557, 6, 4001) :: (3557, 5, 3937) :: (3557, 4, 3873) :: (3557, 3, 3809) :: (3557, 2, 3745) :: (3557, 1, 3681) :: (3557, 0, 3617) :: (3557, (-1), 7) :: (3466, (-1), 0) :: (64, 7, 2953) :: (2953, 0, 836) :: (2953, 9, 3428) :: (3428, (-1), 24) :: (2953, 8, 3360) :: (3360, (-1), 8) :: (2953, 7, 3296) :: (3296, (-1), 24) :: (2953, 5, 3232) :: (3232, (-1), 24) :: (2953, 4, 3168) :: (3168, (-1), 192) :: (2953, 3, 3104) :: (3104, (-1), 24) :: (2953, 2, 3040) :: (3040, (-1), 192) :: (2953, (-1), 0) :: (64, 6, 2568) :: (2568, 0, 1927) :: (2568, 8, 2912) :: (2912, (-1), 6) :: (2568, 7, 2848) :: (2848, (-1), 6) :: (2568, 5, 2784) :: (2784, (-1), 6) :: (2568, 3, 2720) :: (2720, (-1), 36) :: (2568, 2, 2656) :: (2656, (-1), 10) :: (2568, (-1), 0) :: (64, 5, 1927) :: (1927, 11, 2528) :: (2528, (-1), 36) :: (1927, 9, 2464) :: (2464, (-1), 12) :: (1927, 8, 2400) :: (2400, (-1), 10) :: (1927, 7, 2336) :: (2336, (-1), 8) :: (1927, 6, 2272) :: (2272, (-1), 6) :: (1927, 5, 2208) :: (2208, (-1), 36) :: (1927, 4, 2144) :: (2144, (-1), 37) :: (1927, 3, 2080) :: (2080, (-1), 240) :: (1927, 2, 2016) :: (2016, (-1), 10) :: (1927, 1, 4) :: (1927, (-1), 0) :: (64, 4, 1157) :: (1157, 1, 643) :: (1157, 0, 836) :: (1157, 14, 1889) :: (1889, (-1), 96) :: (1157, 13, 1824) :: (1824, (-1), 96) :: (1157, 12, 1760) :: (1760, (-1), 96) :: (1157, 11, 1696) :: (1696, (-1), 96) :: (1157, 10, 1632) :: (1632, (-1), 96) :: (1157, 9, 1568) :: (1568, (-1), 96) :: (1157, 7, 1504) :: (1504, (-1), 8) :: (1157, 6, 1440) :: (1440, (-1), 8) :: (1157, 2, 1222) :: (1222, 1, 1377) :: (1377, (-1), 256) :: (1222, 0, 1312) :: (1312, (-1), 256) :: (1222, (-1), 0) :: (1157, (-1), 0) :: (64, 3, 836) :: (836, 3, 1120) :: (1120, (-1), 192) :: (836, 2, 1056) :: (1056, (-1), 24) :: (836, 1, 992) :: (992, (-1), 24) :: (836, 0, 928) :: (928, (-1), 24) :: (836, (-1), 0) :: (64, 2, 643) :: (643, 1, 801) :: (801, (-1), 256) :: (643, 0, 736) :: (736, (-1), 64) :: (643, (-1), 0) :: (64, 1, 258) :: (258, 0, 129) :: (258, 9, 608) :: (608, (-1), 400) :: (258, 8, 544) :: (544, (-1), 400) :: (258, 7, 481) :: (481, (-1), 400) :: (258, 5, 416) :: (416, (-1), 404) :: (258, 4, 353) :: (353, (-1), 404) :: (258, (-1), 0) :: (64, 0, 129) :: (129, 0, 227) :: (227, (-1), 2400) :: (129, (-1), 0) :: M))
set_option maxRecDepth 100000 in
theorem k1_64 {d : Nat} {B : HV} {s : Int} {Q : Int → HV → Prop} (hd : 3 < d) (hB : BZ B) (hQ : Q 0 (HR B (M_1 [(64, -1, 0)]) 103 (s + 12539))) : Sp f0 d 1 [(3, 64)] (HR B [(64, -1, 0)] 2 s) Q := by
  unfold Sp
  apply G_in
  simp only [en1, b1_0, x_aload0, y_call10, y_call11, y_call12, y_call16, y_call17, y_call2, y_call20, y_call3, y_call4, y_call5, y_call6, y_call8, y_call9, x_dup0, x_dup3, x_gc_19, x_gc_27, x_gc_3, x_gc_35, x_gc_43, x_gc_51, x_gc_59, x_gf_67, x_iconst, x_new_1, x_new_10, x_new_2, x_new_3, x_new_32, x_new_33, x_new_4, x_new_5, x_new_7, x_new_8, x_new_9, x_obj, x_pc_107, x_pc_11, x_pc_115, x_pc_123, x_pc_19, x_pc_27, x_pc_3, x_pc_35, x_pc_43, x_pc_51, x_pc_59, x_pf_67, x_pf_75, x_return, klp_0, klp_1, klp_2, klp_3, klp_9, KC_0, KC_1, KC_2, KC_3, KC_4, ne_eq, not_false_eq_true, not_true_eq_false, true_and, and_true, and_self, implies_true, eq_self, true_imp_iff, false_implies, Int.reduceEq, Int.reduceNe, Int.reduceMod, Int.reduceMul, Int.reduceAdd, Int.reduceSub, Int.reduceNeg, Int.reduceLT, Int.reduceLE, Nat.reduceAdd, Nat.reduceLeDiff, Nat.reduceLT, Nat.reduceSub, reduceIte, wds_n, wds_0, wds_1, wds_2, wds_3, or_true, true_or, or_false, false_or, or_self, hset_HR, alc_HR hB, alc2_HR hB, HR_00, HR_get, FR_cons, f0_n, rd_f0, FR_nil]
  refine ⟨by omega, k2_129 hB (by unfold FR; decide +kernel) ?_⟩
  simp only [en1, b1_0, x_aload0, y_call10, y_call11, y_call12, y_call16, y_call17, y_call2, y_call20, y_call3, y_call4, y_call5, y_call6, y_call8, y_call9, x_dup0, x_dup3, x_gc_19, x_gc_27, x_gc_3, x_gc_35, x_gc_43, x_gc_51, x_gc_59, x_gf_67, x_iconst, x_new_1, x_new_10, x_new_2, x_new_3, x_new_32, x_new_33, x_new_4, x_new_5, x_new_7, x_new_8, x_new_9, x_obj, x_pc_107, x_pc_11, x_pc_115, x_pc_123, x_pc_19, x_pc_27, x_pc_3, x_pc_35, x_pc_43, x_pc_51, x_pc_59, x_pf_67, x_pf_75, x_return, klp_0, klp_1, klp_2, klp_3, klp_9, KC_0, KC_1, KC_2, KC_3, KC_4, ne_eq, not_false_eq_true, not_true_eq_false, true_and, and_true, and_self, implies_true, eq_self, true_imp_iff, false_implies, Int.reduceEq, Int.reduceNe, Int.reduceMod, Int.reduceMul, Int.reduceAdd, Int.reduceSub, Int.reduceNeg, Int.reduceLT, Int.reduceLE, Nat.reduceAdd, Nat.reduceLeDiff, Nat.reduceLT, Nat.reduceSub, reduceIte, wds_n, wds_0, wds_1, wds_2, wds_3, or_true, true_or, or_false, false_or, or_self, hset_HR, alc_HR hB, alc2_HR hB, HR_00, HR_get, FR_cons, f0_n, rd_f0, FR_nil]
  refine ⟨by omega, k3_258 hB (by unfold FR; decide +kernel) ?_⟩
  simp only [en1, b1_0, x_aload0, y_call10, y_call11, y_call12, y_call16, y_call17, y_call2, y_call20, y_call3, y_call4, y_call5, y_call6, y_call8, y_call9, x_dup0, x_dup3, x_gc_19, x_gc_27, x_gc_3, x_gc_35, x_gc_43, x_gc_51, x_gc_59, x_gf_67, x_iconst, x_new_1, x_new_10, x_new_2, x_new_3, x_new_32, x_new_33, x_new_4, x_new_5, x_new_7, x_new_8, x_new_9, x_obj, x_pc_107, x_pc_11, x_pc_115, x_pc_123, x_pc_19, x_pc_27, x_pc_3, x_pc_35, x_pc_43, x_pc_51, x_pc_59, x_pf_67, x_pf_75, x_return, klp_0, klp_1, klp_2, klp_3, klp_9, KC_0, KC_1, KC_2, KC_3, KC_4, ne_eq, not_false_eq_true, not_true_eq_false, true_and, and_true, and_self, implies_true, eq_self, true_imp_iff, false_implies, Int.reduceEq, Int.reduceNe, Int.reduceMod, Int.reduceMul, Int.reduceAdd, Int.reduceSub, Int.reduceNeg, Int.reduceLT, Int.reduceLE, Nat.reduceAdd, Nat.reduceLeDiff, Nat.reduceLT, Nat.reduceSub, reduceIte, wds_n, wds_0, wds_1, wds_2, wds_3, or_true, true_or, or_false, false_or, or_self, hset_HR, alc_HR hB, alc2_HR hB, HR_00, HR_get, FR_cons, f0_n, rd_f0, FR_nil]
  refine ⟨by omega, k4_643 hB (by unfold FR; decide +kernel) ?_⟩
  simp only [en1, b1_0, x_aload0, y_call10, y_call11, y_call12, y_call16, y_call17, y_call2, y_call20, y_call3, y_call4, y_call5, y_call6, y_call8, y_call9, x_dup0, x_dup3, x_gc_19, x_gc_27, x_gc_3, x_gc_35, x_gc_43, x_gc_51, x_gc_59, x_gf_67, x_iconst, x_new_1, x_new_10, x_new_2, x_new_3, x_new_32, x_new_33, x_new_4, x_new_5, x_new_7, x_new_8, x_new_9, x_obj, x_pc_107, x_pc_11, x_pc_115, x_pc_123, x_pc_19, x_pc_27, x_pc_3, x_pc_35, x_pc_43, x_pc_51, x_pc_59, x_pf_67, x_pf_75, x_return, klp_0, klp_1, klp_2, klp_3, klp_9, KC_0, KC_1, KC_2, KC_3, KC_4, ne_eq, not_false_eq_true, not_true_eq_false, true_and, and_true, and_self, implies_true, eq_self, true_imp_iff, false_implies, Int.reduceEq, Int.reduceNe, Int.reduceMod, Int.reduceMul, Int.reduceAdd, Int.reduceSub, Int.reduceNeg, Int.reduceLT, Int.reduceLE, Nat.reduceAdd, Nat.reduceLeDiff, Nat.reduceLT, Nat.reduceSub, reduceIte, wds_n, wds_0, wds_1, wds_2, wds_3, or_true, true_or, or_false, false_or, or_self, hset_HR, alc_HR hB, alc2_HR hB, HR_00, HR_get, FR_cons, f0_n, rd_f0, FR_nil]
  refine ⟨by omega, k5_836 hB (by unfold FR; decide +kernel) ?_⟩
  simp only [en1, b1_0, x_aload0, y_call10, y_call11, y_call12, y_call16, y_call17, y_call2, y_call20, y_call3, y_call4, y_call5, y_call6, y_call8, y_call9, x_dup0, x_dup3, x_gc_19, x_gc_27, x_gc_3, x_gc_35, x_gc_43, x_gc_51, x_gc_59, x_gf_67, x_iconst, x_new_1, x_new_10, x_new_2, x_new_3, x_new_32, x_new_33, x_new_4, x_new_5, x_new_7, x_new_8, x_new_9, x_obj, x_pc_107, x_pc_11, x_pc_115, x_pc_123, x_pc_19, x_pc_27, x_pc_3, x_pc_35, x_pc_43, x_pc_51, x_pc_59, x_pf_67, x_pf_75, x_return, klp_0, klp_1, klp_2, klp_3, klp_9, KC_0, KC_1, KC_2, KC_3, KC_4, ne_eq, not_false_eq_true, not_true_eq_false, true_and, and_true, and_self, implies_true, eq_self, true_imp_iff, false_implies, Int.reduceEq, Int.reduceNe, Int.reduceMod, Int.reduceMul, Int.reduceAdd, Int.reduceSub, Int.reduceNeg, Int.reduceLT, Int.reduceLE, Nat.reduceAdd, Nat.reduceLeDiff, Nat.reduceLT, Nat.reduceSub, reduceIte, wds_n, wds_0, wds_1, wds_2, wds_3, or_true, true_or, or_false, false_or, or_self, hset_HR, alc_HR hB, alc2_HR hB, HR_00, HR_get, FR_cons, f0_n, rd_f0, FR_nil]
  refine ⟨by omega, k6_1157 (by omega) hB (by unfold FR; decide +kernel) ?_⟩
  simp only [en1, b1_0, x_aload0, y_call10, y_call11, y_call12, y_call16, y_call17, y_call2, y_call20, y_call3, y_call4, y_call5, y_call6, y_call8, y_call9, x_dup0, x_dup3, x_gc_19, x_gc_27, x_gc_3, x_gc_35, x_gc_43, x_gc_51, x_gc_59, x_gf_67, x_iconst, x_new_1, x_new_10, x_new_2, x_new_3, x_new_32, x_new_33, x_new_4, x_new_5, x_new_7, x_new_8, x_new_9, x_obj, x_pc_107, x_pc_11, x_pc_115, x_pc_123, x_pc_19, x_pc_27, x_pc_3, x_pc_35, x_pc_43, x_pc_51, x_pc_59, x_pf_67, x_pf_75, x_return, klp_0, klp_1, klp_2, klp_3, klp_9, KC_0, KC_1, KC_2, KC_3, KC_4, ne_eq, not_false_eq_true, not_true_eq_false, true_and, and_true, and_self, implies_true, eq_self, true_imp_iff, false_implies, Int.reduceEq, Int.reduceNe, Int.reduceMod, Int.reduceMul, Int.reduceAdd, Int.reduceSub, Int.reduceNeg, Int.reduceLT, Int.reduceLE, Nat.reduceAdd, Nat.reduceLeDiff, Nat.reduceLT, Nat.reduceSub, reduceIte, wds_n, wds_0, wds_1, wds_2, wds_3, or_true, true_or, or_false, false_or, or_self, hset_HR, alc_HR hB, alc2_HR hB, HR_00, HR_get, FR_cons, f0_n, rd_f0, FR_nil]
  refine ⟨by omega, k8_1927 hB (by unfold FR; decide +kernel) ?_⟩
  simp only [en1, b1_0, x_aload0, y_call10, y_call11, y_call12, y_call16, y_call17, y_call2, y_call20, y_call3, y_call4, y_call5, y_call6, y_call8, y_call9, x_dup0, x_dup3, x_gc_19, x_gc_27, x_gc_3, x_gc_35, x_gc_43, x_gc_51, x_gc_59, x_gf_67, x_iconst, x_new_1, x_new_10, x_new_2, x_new_3, x_new_32, x_new_33, x_new_4, x_new_5, x_new_7, x_new_8, x_new_9, x_obj, x_pc_107, x_pc_11, x_pc_115, x_pc_123, x_pc_19, x_pc_27, x_pc_3, x_pc_35, x_pc_43, x_pc_51, x_pc_59, x_pf_67, x_pf_75, x_return, klp_0, klp_1, klp_2, klp_3, klp_9, KC_0, KC_1, KC_2, KC_3, KC_4, ne_eq, not_false_eq_true, not_true_eq_false, true_and, and_true, and_self, implies_true, eq_self, true_imp_iff, false_implies, Int.reduceEq, Int.reduceNe, Int.reduceMod, Int.reduceMul, Int.reduceAdd, Int.reduceSub, Int.reduceNeg, Int.reduceLT, Int.reduceLE, Nat.reduceAdd, Nat.reduceLeDiff, Nat.reduceLT, Nat.reduceSub, reduceIte, wds_n, wds_0, wds_1, wds_2, wds_3, or_true, true_or, or_false, false_or, or_self, hset_HR, alc_HR hB, alc2_HR hB, HR_00, HR_get, FR_cons, f0_n, rd_f0, FR_nil]
  refine ⟨by omega, k9_2568 hB (by unfold FR; decide +kernel) ?_⟩
  simp only [en1, b1_0, x_aload0, y_call10, y_call11, y_call12, y_call16, y_call17, y_call2, y_call20, y_call3, y_call4, y_call5, y_call6, y_call8, y_call9, x_dup0, x_dup3, x_gc_19, x_gc_27, x_gc_3, x_gc_35, x_gc_43, x_gc_51, x_gc_59, x_gf_67, x_iconst, x_new_1, x_new_10, x_new_2, x_new_3, x_new_32, x_new_33, x_new_4, x_new_5, x_new_7, x_new_8, x_new_9, x_obj, x_pc_107, x_pc_11, x_pc_115, x_pc_123, x_pc_19, x_pc_27, x_pc_3, x_pc_35, x_pc_43, x_pc_51, x_pc_59, x_pf_67, x_pf_75, x_return, klp_0, klp_1, klp_2, klp_3, klp_9, KC_0, KC_1, KC_2, KC_3, KC_4, ne_eq, not_false_eq_true, not_true_eq_false, true_and, and_true, and_self, implies_true, eq_self, true_imp_iff, false_implies, Int.reduceEq, Int.reduceNe, Int.reduceMod, Int.reduceMul, Int.reduceAdd, Int.reduceSub, Int.reduceNeg, Int.reduceLT, Int.reduceLE, Nat.reduceAdd, Nat.reduceLeDiff, Nat.reduceLT, Nat.reduceSub, reduceIte, wds_n, wds_0, wds_1, wds_2, wds_3, or_true, true_or, or_false, false_or, or_self, hset_HR, alc_HR hB, alc2_HR hB, HR_00, HR_get, FR_cons, f0_n, rd_f0, FR_nil]
  refine ⟨by omega, k10_2953 hB (by unfold FR; decide +kernel) ?_⟩
  simp only [en1, b1_0, x_aload0, y_call10, y_call11, y_call12, y_call16, y_call17, y_call2, y_call20, y_call3, y_call4, y_call5, y_call6, y_call8, y_call9, x_dup0, x_dup3, x_gc_19, x_gc_27, x_gc_3, x_gc_35, x_gc_43, x_gc_51, x_gc_59, x_gf_67, x_iconst, x_new_1, x_new_10, x_new_2, x_new_3, x_new_32, x_new_33, x_new_4, x_new_5, x_new_7, x_new_8, x_new_9, x_obj, x_pc_107, x_pc_11, x_pc_115, x_pc_123, x_pc_19, x_pc_27, x_pc_3, x_pc_35, x_pc_43, x_pc_51, x_pc_59, x_pf_67, x_pf_75, x_return, klp_0, klp_1, klp_2, klp_3, klp_9, KC_0, KC_1, KC_2, KC_3, KC_4, ne_eq, not_false_eq_true, not_true_eq_false, true_and, and_true, and_self, implies_true, eq_self, true_imp_iff, false_implies, Int.reduceEq, Int.reduceNe, Int.reduceMod, Int.reduceMul, Int.reduceAdd, Int.reduceSub, Int.reduceNeg, Int.reduceLT, Int.reduceLE, Nat.reduceAdd, Nat.reduceLeDiff, Nat.reduceLT, Nat.reduceSub, reduceIte, wds_n, wds_0, wds_1, wds_2, wds_3, or_true, true_or, or_false, false_or, or_self, hset_HR, alc_HR hB, alc2_HR hB, HR_00, HR_get, FR_cons, f0_n, rd_f0, FR_nil]
  refine ⟨by omega, k11_3466 hB (by unfold FR; decide +kernel) ?_⟩
  simp only [en1, b1_0, x_aload0, y_call10, y_call11, y_call12, y_call16, y_call17, y_call2, y_call20, y_call3, y_call4, y_call5, y_call6, y_call8, y_call9, x_dup0, x_dup3, x_gc_19, x_gc_27, x_gc_3, x_gc_35, x_gc_43, x_gc_51, x_gc_59, x_gf_67, x_iconst, x_new_1, x_new_10, x_new_2, x_new_3, x_new_32, x_new_33, x_new_4, x_new_5, x_new_7, x_new_8, x_new_9, x_obj, x_pc_107, x_pc_11, x_pc_115, x_pc_123, x_pc_19, x_pc_27, x_pc_3, x_pc_35, x_pc_43, x_pc_51, x_pc_59, x_pf_67, x_pf_75, x_return, klp_0, klp_1, klp_2, klp_3, klp_9, KC_0, KC_1, KC_2, KC_3, KC_4, ne_eq, not_false_eq_true, not_true_eq_false, true_and, and_true, and_self, implies_true, eq_self, true_imp_iff, false_implies, Int.reduceEq, Int.reduceNe, Int.reduceMod, Int.reduceMul, Int.reduceAdd, Int.reduceSub, Int.reduceNeg, Int.reduceLT, Int.reduceLE, Nat.reduceAdd, Nat.reduceLeDiff, Nat.reduceLT, Nat.reduceSub, reduceIte, wds_n, wds_0, wds_1, wds_2, wds_3, or_true, true_or, or_false, false_or, or_self, hset_HR, alc_HR hB, alc2_HR hB, HR_00, HR_get, FR_cons, f0_n, rd_f0, FR_nil]
  refine ⟨by omega, k11_4938 hB (by unfold FR; decide +kernel) ?_⟩
  simp only [en1, b1_0, x_aload0, y_call10, y_call11, y_call12, y_call16, y_call17, y_call2, y_call20, y_call3, y_call4, y_call5, y_call6, y_call8, y_call9, x_dup0, x_dup3, x_gc_19, x_gc_27, x_gc_3, x_gc_35, x_gc_43, x_gc_51, x_gc_59, x_gf_67, x_iconst, x_new_1, x_new_10, x_new_2, x_new_3, x_new_32, x_new_33, x_new_4, x_new_5, x_new_7, x_new_8, x_new_9, x_obj, x_pc_107, x_pc_11, x_pc_115, x_pc_123, x_pc_19, x_pc_27, x_pc_3, x_pc_35, x_pc_43, x_pc_51, x_pc_59, x_pf_67, x_pf_75, x_return, klp_0, klp_1, klp_2, klp_3, klp_9, KC_0, KC_1, KC_2, KC_3, KC_4, ne_eq, not_false_eq_true, not_true_eq_false, true_and, and_true, and_self, implies_true, eq_self, true_imp_iff, false_implies, Int.reduceEq, Int.reduceNe, Int.reduceMod, Int.reduceMul, Int.reduceAdd, Int.reduceSub, Int.reduceNeg, Int.reduceLT, Int.reduceLE, Nat.reduceAdd, Nat.reduceLeDiff, Nat.reduceLT, Nat.reduceSub, reduceIte, wds_n, wds_0, wds_1, wds_2, wds_3, or_true, true_or, or_false, false_or, or_self, hset_HR, alc_HR hB, alc2_HR hB, HR_00, HR_get, FR_cons, f0_n, rd_f0, FR_nil]
  refine ⟨by omega, s12 (by omega) rfl rfl rfl rfl ?_⟩
  rw [hset_HR (by decide), fill_HR0 hB (by decide) (by unfold NZ; decide +kernel), fill_HR0 hB (by decide) (by unfold NZ; decide +kernel), hset_HR (by decide), hset_HR (by decide)]
  simp only [en1, b1_0, x_aload0, y_call10, y_call11, y_call12, y_call16, y_call17, y_call2, y_call20, y_call3, y_call4, y_call5, y_call6, y_call8, y_call9, x_dup0, x_dup3, x_gc_19, x_gc_27, x_gc_3, x_gc_35, x_gc_43, x_gc_51, x_gc_59, x_gf_67, x_iconst, x_new_1, x_new_10, x_new_2, x_new_3, x_new_32, x_new_33, x_new_4, x_new_5, x_new_7, x_new_8, x_new_9, x_obj, x_pc_107, x_pc_11, x_pc_115, x_pc_123, x_pc_19, x_pc_27, x_pc_3, x_pc_35, x_pc_43, x_pc_51, x_pc_59, x_pf_67, x_pf_75, x_return, klp_0, klp_1, klp_2, klp_3, klp_9, KC_0, KC_1, KC_2, KC_3, KC_4, ne_eq, not_false_eq_true, not_true_eq_false, true_and, and_true, and_self, implies_true, eq_self, true_imp_iff, false_implies, Int.reduceEq, Int.reduceNe, Int.reduceMod, Int.reduceMul, Int.reduceAdd, Int.reduceSub, Int.reduceNeg, Int.reduceLT, Int.reduceLE, Nat.reduceAdd, Nat.reduceLeDiff, Nat.reduceLT, Nat.reduceSub, reduceIte, wds_n, wds_0, wds_1, wds_2, wds_3, or_true, true_or, or_false, false_or, or_self, hset_HR, alc_HR hB, alc2_HR hB, HR_00, HR_get, FR_cons, f0_n, rd_f0]
  refine ⟨by omega, s16 ?_⟩
  rw [hset_HR (by decide)]
  simp only [en1, b1_0, x_aload0, y_call10, y_call11, y_call12, y_call16, y_call17, y_call2, y_call20, y_call3, y_call4, y_call5, y_call6, y_call8, y_call9, x_dup0, x_dup3, x_gc_19, x_gc_27, x_gc_3, x_gc_35, x_gc_43, x_gc_51, x_gc_59, x_gf_67, x_iconst, x_new_1, x_new_10, x_new_2, x_new_3, x_new_32, x_new_33, x_new_4, x_new_5, x_new_7, x_new_8, x_new_9, x_obj, x_pc_107, x_pc_11, x_pc_115, x_pc_123, x_pc_19, x_pc_27, x_pc_3, x_pc_35, x_pc_43, x_pc_51, x_pc_59, x_pf_67, x_pf_75, x_return, klp_0, klp_1, klp_2, klp_3, klp_9, KC_0, KC_1, KC_2, KC_3, KC_4, ne_eq, not_false_eq_true, not_true_eq_false, true_and, and_true, and_self, implies_true, eq_self, true_imp_iff, false_implies, Int.reduceEq, Int.reduceNe, Int.reduceMod, Int.reduceMul, Int.reduceAdd, Int.reduceSub, Int.reduceNeg, Int.reduceLT, Int.reduceLE, Nat.reduceAdd, Nat.reduceLeDiff, Nat.reduceLT, Nat.reduceSub, reduceIte, wds_n, wds_0, wds_1, wds_2, wds_3, or_true, true_or, or_false, false_or, or_self, hset_HR, alc_HR hB, alc2_HR hB, HR_00, HR_get, FR_cons, f0_n, rd_f0]
  refine ⟨by omega, s17 (by omega) rfl rfl ?_⟩
  rw [hset_HR (by decide), fill_HR0 hB (by decide) (by unfold NZ; decide +kernel), hset_HR (by decide)]
  simp only [en1, b1_0, x_aload0, y_call10, y_call11, y_call12, y_call16, y_call17, y_call2, y_call20, y_call3, y_call4, y_call5, y_call6, y_call8, y_call9, x_dup0, x_dup3, x_gc_19, x_gc_27, x_gc_3, x_gc_35, x_gc_43, x_gc_51, x_gc_59, x_gf_67, x_iconst, x_new_1, x_new_10, x_new_2, x_new_3, x_new_32, x_new_33, x_new_4, x_new_5, x_new_7, x_new_8, x_new_9, x_obj, x_pc_107, x_pc_11, x_pc_115, x_pc_123, x_pc_19, x_pc_27, x_pc_3, x_pc_35, x_pc_43, x_pc_51, x_pc_59, x_pf_67, x_pf_75, x_return, klp_0, klp_1, klp_2, klp_3, klp_9, KC_0, KC_1, KC_2, KC_3, KC_4, ne_eq, not_false_eq_true, not_true_eq_false, true_and, and_true, and_self, implies_true, eq_self, true_imp_iff, false_implies, Int.reduceEq, Int.reduceNe, Int.reduceMod, Int.reduceMul, Int.reduceAdd, Int.reduceSub, Int.reduceNeg, Int.reduceLT, Int.reduceLE, Nat.reduceAdd, Nat.reduceLeDiff, Nat.reduceLT, Nat.reduceSub, reduceIte, wds_n, wds_0, wds_1, wds_2, wds_3, or_true, true_or, or_false, false_or, or_self, hset_HR, alc_HR hB, alc2_HR hB, HR_00, HR_get, FR_cons, f0_n, rd_f0]
  refine ⟨by omega, s20 (by omega) rfl rfl rfl rfl rfl rfl ?_⟩
  rw [hset_HR (by decide), fill_HR0 hB (by decide) (by unfold NZ; decide +kernel), fill_HR0 hB (by decide) (by unfold NZ; decide +kernel), show (24 : Int) = ((24 : Nat) : Int) from rfl, fill_HR (by decide), hset_HR (by decide)]
  simp only [en1, b1_0, x_aload0, y_call10, y_call11, y_call12, y_call16, y_call17, y_call2, y_call20, y_call3, y_call4, y_call5, y_call6, y_call8, y_call9, x_dup0, x_dup3, x_gc_19, x_gc_27, x_gc_3, x_gc_35, x_gc_43, x_gc_51, x_gc_59, x_gf_67, x_iconst, x_new_1, x_new_10, x_new_2, x_new_3, x_new_32, x_new_33, x_new_4, x_new_5, x_new_7, x_new_8, x_new_9, x_obj, x_pc_107, x_pc_11, x_pc_115, x_pc_123, x_pc_19, x_pc_27, x_pc_3, x_pc_35, x_pc_43, x_pc_51, x_pc_59, x_pf_67, x_pf_75, x_return, klp_0, klp_1, klp_2, klp_3, klp_9, KC_0, KC_1, KC_2, KC_3, KC_4, ne_eq, not_false_eq_true, not_true_eq_false, true_and, and_true, and_self, implies_true, eq_self, true_imp_iff, false_implies, Int.reduceEq, Int.reduceNe, Int.reduceMod, Int.reduceMul, Int.reduceAdd, Int.reduceSub, Int.reduceNeg, Int.reduceLT, Int.reduceLE, Nat.reduceAdd, Nat.reduceLeDiff, Nat.reduceLT, Nat.reduceSub, reduceIte, wds_n, wds_0, wds_1, wds_2, wds_3, or_true, true_or, or_false, false_or, or_self, hset_HR, alc_HR hB, alc2_HR hB, HR_00, HR_get, FR_cons, f0_n, rd_f0]
  refine Eq.mp ?_ hQ
  congr 1
  unfold M_1
  congr 1
  omega
def M_2 : List (Int × Int × Int) := (6603, 94, 13024) :: (13024, (-1), 7168) :: (6603, 92, 12960) :: (12960, (-1), 36) :: (6603, 91, 12896) :: (12896, (-1), 36) :: (6603, 90, 12832) :: (12832, (-1), 8) :: (6603, 89, 12772) :: (12772, (-1), 24) :: (6603, 88, 12708) :: (12708, (-1), 24) :: (6603, 87, 12640) :: (12640, (-1), 24) :: (6603, 85, 12576) :: (12576, (-1), 24) :: (6603, 84, 12512) :: (12512, (-1), 192) :: (6603, 83, 12448) :: (12448, (-1), 192) :: (6603, 82, 12384) :: (12384, (-1), 24) :: (6603, 81, 12320) :: (12320, (-1), 37) :: (6603, 80, 12256) :: (12256, (-1), 37) :: (6603, 79, 12192) :: (12192, (-1), 36) :: (6603, 78, 12128) :: (12128, (-1), 36) :: (6603, 77, 12064) :: (12064, (-1), 36) :: (6603, 76, 12000) :: (12000, (-1), 36) :: (6603, 75, 11936) :: (11936, (-1), 36) :: (6603, 74, 11872) :: (11872, (-1), 36) :: (6603, 68, 11808) :: (11808, (-1), 240) :: (6603, 67, 11744) :: (11744, (-1), 10) :: (6603, 66, 11680) :: (11680, (-1), 10) :: (6603, 65, 4) :: (6603, 64, 11618) :: (11618, (-1), 24) :: (6603, 63, 11552) :: (11552, (-1), 24) :: (6603, 62, 11488) :: (11488, (-1), 24) :: (6603, 61, (-9)) :: (6603, 60, 11425) :: (11425, (-1), 64) :: (6603, 51, 11361) :: (11361, (-1), 4000) :: (6603, 50, 11296) :: (11296, (-1), 4000) :: (6603, 49, 11232) :: (11232, (-1), 4000) :: (6603, 48, 11168) :: (11168, (-1), 4000) :: (6603, 47, 11104) :: (11104, (-1), 4000) :: (6603, 46, 11040) :: (11040, (-1), 4000) :: (6603, 45, 10976) :: (10976, (-1), 4000) :: (6603, 43, 10912) :: (10912, (-1), 8) :: (6603, 42, 10848) :: (10848, (-1), 8) :: (6603, 40, 10784) :: (10784, (-1), 3216) :: (6603, 39, 10720) :: (10720, (-1), 3216) :: (6603, 38, 10657) :: (10657, (-1), 3360) :: (6603, 37, 10592) :: (10592, (-1), 3360) :: (6603, 35, 10529) :: (10529, (-1), 600) :: (6603, 34, 10464) :: (10464, (-1), 600) :: (6603, 33, 10401) :: (10401, (-1), 384000) :: (6603, 32, 10336) :: (10336, (-1), 6000) :: (6603, 31, 10272) :: (10272, (-1), 6000) :: (6603, 29, 10208) :: (10208, (-1), 192) :: (6603, 28, 10144) :: (10144, (-1), 24) :: (6603, 27, 10080) :: (10080, (-1), 24) :: (6603, 26, 10016) :: (10016, (-1), 24) :: (6603, 23, 9952) :: (9952, (-1), 402) :: (6603, 22, 9888) :: (9888, (-1), 402) :: (6603, 21, 9824) :: (9824, (-1), 402) :: (6603, 20, 9761) :: (9761, (-1), 402) :: (6603, 18, 9696) :: (9696, (-1), 402) :: (6603, 17, 9632) :: (9632, (-1), 402) :: (6603, 16, 9569) :: (9569, (-1), 402) :: (6603, 14, 9505) :: (9505, (-1), 420) :: (6603, 11, 9446) :: (9446, 37, (-6067)) :: (9446, 36, (-5939)) :: (9446, 35, (-5811)) :: (9446, 34, (-5683)) :: (9446, 33, (-5555)) :: (9446, 32, (-5427)) :: (9446, 31, (-5299)) :: (9446, 30, (-5171)) :: (9446, 29, (-5043)) :: (9446, 28, (-4915)) :: (9446, 27, (-1331)) :: (9446, 26, (-4787)) :: (9446, 25, (-4659)) :: (9446, 24, (-4531)) :: (9446, 23, (-4403)) :: (9446, 22, (-4275)) :: (9446, 21, (-4147)) :: (9446, 20, (-4019)) :: (9446, 19, (-3891)) :: (9446, 18, (-3763)) :: (9446, 17, (-3635)) :: (9446, 16, (-1843)) :: (9446, 15, (-1715)) :: (9446, 14, (-3507)) :: (9446, 13, (-1587)) :: (9446, 12, (-3379)) :: (9446, 11, (-1459)) :: (9446, 10, (-3251)) :: (9446, 9, (-3123)) :: (9446, 8, (-2995)) :: (9446, 7, (-2867)) :: (9446, 6, (-2739)) :: (9446, 5, (-2611)) :: (9446, 4, (-2483)) :: (9446, 3, (-2355)) :: (9446, 2, (-2227)) :: (9446, 1, (-2099)) :: (9446, 0, (-1971)) :: (9446, (-1), 38) :: (6603, 10, 8076) :: (8076, 24, 9376) :: (9376, (-1), 401) :: (8076, 23, 9312) :: (9312, (-1), 3208) :: (8076, 19, 9250) :: (9250, (-1), 401) :: (8076, 18, 9184) :: (9184, (-1), 6000) :: (8076, 17, 9120) :: (9120, (-1), 6000) :: (8076, 16, 9056) :: (9056, (-1), 6000) :: (8076, 13, 8992) :: (8992, (-1), 12) :: (8076, 12, 8928) :: (8928, (-1), 12) :: (8076, 11, 8864) :: (8864, (-1), 12) :: (8076, 10, 8800) :: (8800, (-1), 8) :: (8076, 9, 8736) :: (8736, (-1), 12) :: (8076, 8, 8672) :: (8672, (-1), 12) :: (8076, 7, 8608) :: (8608, (-1), 12) :: (8076, 6, 8544) :: (8544, (-1), 12) :: (8076, 5, 8480) :: (8480, (-1), 8) :: (8076, 4, 8416) :: (8416, (-1), 10) :: (8076, 3, 8352) :: (8352, (-1), 10) :: (8076, 2, 8288) :: (8288, (-1), 6) :: (8076, 1, 8225) :: (8225, (-1), 112) :: (8076, 0, 8160) :: (8160, (-1), 7) :: (8076, (-1), 0) :: (6603, 9, 6732) :: (6732, 24, 8032) :: (8032, (-1), 401) :: (6732, 23, 7968) :: (7968, (-1), 3208) :: (6732, 19, 7906) :: (7906, (-1), 401) :: (6732, 18, 7840) :: (7840, (-1), 6000) :: (6732, 17, 7776) :: (7776, (-1), 6000) :: (6732, 16, 7712) :: (7712, (-1), 6000) :: (6732, 13, 7648) :: (7648, (-1), 12) :: (6732, 12, 7584) :: (7584, (-1), 12) :: (6732, 11, 7520) :: (7520, (-1), 12) :: (6732, 10, 7456) :: (7456, (-1), 8) :: (6732, 9, 7392) :: (7392, (-1), 12) :: (6732, 8, 7328) :: (7328, (-1), 12) :: (6732, 7, 7264) :: (7264, (-1), 12) :: (6732, 6, 7200) :: (7200, (-1), 12) :: (6732, 5, 7136) :: (7136, (-1), 8) :: (6732, 4, 7072) :: (7072, (-1), 10) :: (6732, 3, 7008) :: (7008, (-1), 10) :: (6732, 2, 6944) :: (6944, (-1), 6) :: (6732, 1, 6881) :: (6881, (-1), 112) :: (6732, 0, 6816) :: (6816, (-1), 7) :: (6732, (-1), 0) :: (6603, 0, 6691) :: (6691, (-1), 2400) :: (6603, -1, 0) :: M_1 [(64, -1, 0)]
theorem BZ_hI0 (L : Nat) (xs : Nat → Int32) : BZ (hI0 L xs) := fun o i ho => by
  unfold hI0
  rw [if_neg (by omega), if_neg (by omega), if_neg (by omega), if_neg (by omega)]
theorem HR_hI0 (L : Nat) (xs : Nat → Int32) : hI0 L xs = HR (hI0 L xs) [] 1 0 := by
  funext o i
  unfold HR
  by_cases ho : o = 0
  · subst ho
    rw [if_pos rfl]
    unfold hI0
    rw [if_neg (by decide), if_pos rfl]
    by_cases h0 : i = 0
    · rw [if_pos h0, if_pos h0]
    · rw [if_neg h0, if_neg h0, ite_self]
  · rw [if_neg ho]
    rfl
set_option maxRecDepth 100000 in
theorem law0 {d L : Nat} {xs : Nat → Int32} {Q : Int → HV → Prop} (hd : 4 < d) (hQ : G f0 d 0 1 [(3, 50), (3, 64), (3, 6603), (0, 0)] [] (HR (hI0 L xs) M_2 204 509953) Q) : Sp f0 d 0 [(3, 50)] (hI0 L xs) Q := by
  have hB := BZ_hI0 L xs
  rw [HR_hI0 L xs]
  unfold Sp
  apply G_in
  simp only [en0, b0_0, x_astore1, x_astore2, y_call1, y_call317, x_dup0, x_dup3, x_goto_1, x_iconst, x_istore3, x_new_0, x_new_11, klp_0, klp_1, klp_2, klp_3, klp_9, KC_0, KC_1, KC_2, KC_3, KC_4, ne_eq, not_false_eq_true, not_true_eq_false, true_and, and_true, and_self, implies_true, eq_self, true_imp_iff, false_implies, Int.reduceEq, Int.reduceNe, Int.reduceMod, Int.reduceMul, Int.reduceAdd, Int.reduceSub, Int.reduceNeg, Int.reduceLT, Int.reduceLE, Nat.reduceAdd, Nat.reduceLeDiff, Nat.reduceLT, Nat.reduceSub, reduceIte, wds_n, wds_0, wds_1, wds_2, wds_3, or_true, true_or, or_false, false_or, or_self, hset_HR, alc_HR hB, HR_00, FR_cons, FR_nil, f0_n, rd_f0]
  refine ⟨by omega, k1_64 (by omega) hB ?_⟩
  simp only [en0, b0_0, x_astore1, x_astore2, y_call1, y_call317, x_dup0, x_dup3, x_goto_1, x_iconst, x_istore3, x_new_0, x_new_11, klp_0, klp_1, klp_2, klp_3, klp_9, KC_0, KC_1, KC_2, KC_3, KC_4, ne_eq, not_false_eq_true, not_true_eq_false, true_and, and_true, and_self, implies_true, eq_self, true_imp_iff, false_implies, Int.reduceEq, Int.reduceNe, Int.reduceMod, Int.reduceMul, Int.reduceAdd, Int.reduceSub, Int.reduceNeg, Int.reduceLT, Int.reduceLE, Nat.reduceAdd, Nat.reduceLeDiff, Nat.reduceLT, Nat.reduceSub, reduceIte, wds_n, wds_0, wds_1, wds_2, wds_3, or_true, true_or, or_false, false_or, or_self, hset_HR, alc_HR hB, HR_00, (show FR (M_1 [(64, -1, 0)]) 103 by unfold FR; decide +kernel), f0_n, rd_f0]
  refine ⟨by omega, k317_6603 (by omega) hB (by unfold FR; decide +kernel) ?_⟩
  simp only [en0, b0_0, x_astore1, x_astore2, y_call1, y_call317, x_dup0, x_dup3, x_goto_1, x_iconst, x_istore3, x_new_0, x_new_11, klp_0, klp_1, klp_2, klp_3, klp_9, KC_0, KC_1, KC_2, KC_3, KC_4, ne_eq, not_false_eq_true, not_true_eq_false, true_and, and_true, and_self, implies_true, eq_self, true_imp_iff, false_implies, Int.reduceEq, Int.reduceNe, Int.reduceMod, Int.reduceMul, Int.reduceAdd, Int.reduceSub, Int.reduceNeg, Int.reduceLT, Int.reduceLE, Nat.reduceAdd, Nat.reduceLeDiff, Nat.reduceLT, Nat.reduceSub, reduceIte, wds_n, wds_0, wds_1, wds_2, wds_3, or_true, true_or, or_false, false_or, or_self, f0_n]
  exact hQ
