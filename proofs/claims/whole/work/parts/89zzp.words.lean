/-! THE PURE SIDE, 138: words, signs, names on both sides: printed by wip/tools/gen89zzp.py -/
theorem str_of {h : HV} (S : STS h) {o b : Int} {l : List Int} (c : (o < 0 ∧ o % 64 = 13) ∧ hS0 o 0 = b ∧ (b < 0 ∧ b % 64 = 51) ∧ hS0 o 1 = 0 ∧ hS0 b (-1) = l.length ∧ ∀ q, q < l.length → hS0 b q = l.getD q 0 ∧ 0 ≤ l.getD q 0 ∧ l.getD q 0 ≤ 127) : STR h o l := by
  obtain ⟨c1, c2, c3, c4, c5, c6⟩ := c
  have e : h o = hS0 o := S o c1.1
  have e2 : h b = hS0 b := S b c3.1
  unfold STR
  rw [e, c2, e2]
  exact ⟨c1, c3, c4, c5, c6⟩
theorem ix_mem {w : Int} : ∀ (l : List Int) (i : Int), 0 ≤ i → (ix w l i < 0 ↔ ¬ w ∈ l)
  | [], i, _ => by
    rw [ix]
    exact ⟨fun _ m => (by cases m), fun _ => by decide⟩
  | a :: l, i, h => by
    rw [ix]
    by_cases e : a = w
    · rw [if_pos e]
      exact ⟨fun z => by omega, fun z => absurd (by rw [e]; exact List.mem_cons_self) z⟩
    · rw [if_neg e, ix_mem l (i + 1) (by omega)]
      exact ⟨fun z m => by
        rcases List.mem_cons.mp m with q | q
        · exact e q.symm
        · exact z q, fun z m => z (List.mem_cons_of_mem _ m)⟩
theorem str_0 {h : HV} (S : STS h) : STR h (-51) [59, 58, 44, 61, 43, 45, 42, 47, 37, 60, 62, 40, 41, 91, 93, 123, 125] := str_of (b := -77) S (by decide +kernel)
theorem str_1 {h : HV} (S : STS h) : STR h (-179) [115, 117, 98, 106, 101, 99, 116, 32, 114, 111, 111, 109, 32, 115, 116, 97, 102, 102, 32, 103, 114, 111, 117, 112, 32, 108, 101, 115, 115, 111, 110, 32, 99, 111, 117, 114, 115, 101, 32, 114, 117, 108, 101] := str_of (b := -205) S (by decide +kernel)
theorem str_2 {h : HV} (S : STS h) : STR h (-307) [116, 101, 97, 99, 104, 101, 114, 32, 116, 117, 116, 111, 114, 32, 104, 101, 97, 100] := str_of (b := -333) S (by decide +kernel)
theorem str_3 {h : HV} (S : STS h) : STR h (-435) [105, 102, 32, 102, 111, 114, 32, 116, 114, 121, 32, 114, 97, 105, 115, 101, 32, 103, 105, 118, 101, 32, 99, 111, 112, 121] := str_of (b := -461) S (by decide +kernel)
theorem str_4 {h : HV} (S : STS h) : STR h (-563) [100, 105, 118, 105, 100, 101, 32, 105, 110, 100, 101, 120, 32, 110, 117, 108, 108, 32, 99, 97, 115, 116, 32, 115, 105, 122, 101, 32, 115, 116, 111, 114, 101, 32, 101, 120, 97, 99, 116] := str_of (b := -589) S (by decide +kernel)
theorem str_5 {h : HV} (S : STS h) : STR h (-691) [114, 111, 119, 32, 114, 101, 97, 108, 115, 32, 112, 101, 111, 112, 108, 101, 32, 116, 101, 97, 99, 104, 101, 114, 115, 32, 115, 105, 122, 101, 32, 119, 104, 111, 108, 101, 32, 114, 101, 97, 108, 32, 108, 97, 99, 107, 115, 32, 112, 101, 114, 115, 111, 110, 32, 108, 101, 118, 101, 108, 32, 109, 97, 114, 107, 115] := str_of (b := -717) S (by decide +kernel)
theorem str_6 {h : HV} (S : STS h) : STR h (-819) [101, 108, 115, 101, 32, 116, 111, 32, 111, 110, 32, 97, 108, 119, 97, 121, 115, 32, 110, 111, 110, 101] := str_of (b := -845) S (by decide +kernel)
theorem str_7 {h : HV} (S : STS h) : STR h (-947) [60, 62, 61] := str_of (b := -973) S (by decide +kernel)
theorem str_8 {h : HV} (S : STS h) : STR h (-1075) [43, 45] := str_of (b := -1101) S (by decide +kernel)
theorem str_9 {h : HV} (S : STS h) : STR h (-1203) [42, 47, 37] := str_of (b := -1229) S (by decide +kernel)
theorem str_10 {h : HV} (S : STS h) : STR h (-1331) [110, 111, 110, 101] := str_of (b := -1357) S (by decide +kernel)
theorem str_11 {h : HV} (S : STS h) : STR h (-1459) [101, 108, 115, 101] := str_of (b := -1485) S (by decide +kernel)
theorem str_12 {h : HV} (S : STS h) : STR h (-1587) [116, 111] := str_of (b := -1613) S (by decide +kernel)
theorem str_13 {h : HV} (S : STS h) : STR h (-1715) [111, 110] := str_of (b := -1741) S (by decide +kernel)
theorem str_14 {h : HV} (S : STS h) : STR h (-1843) [97, 108, 119, 97, 121, 115] := str_of (b := -1869) S (by decide +kernel)
theorem str_15 {h : HV} (S : STS h) : STR h (-1971) [115, 117, 98, 106, 101, 99, 116] := str_of (b := -1997) S (by decide +kernel)
theorem str_16 {h : HV} (S : STS h) : STR h (-2099) [114, 111, 111, 109] := str_of (b := -2125) S (by decide +kernel)
theorem str_17 {h : HV} (S : STS h) : STR h (-2227) [115, 116, 97, 102, 102] := str_of (b := -2253) S (by decide +kernel)
theorem str_18 {h : HV} (S : STS h) : STR h (-2355) [103, 114, 111, 117, 112] := str_of (b := -2381) S (by decide +kernel)
theorem str_19 {h : HV} (S : STS h) : STR h (-2483) [108, 101, 115, 115, 111, 110] := str_of (b := -2509) S (by decide +kernel)
theorem str_20 {h : HV} (S : STS h) : STR h (-2611) [99, 111, 117, 114, 115, 101] := str_of (b := -2637) S (by decide +kernel)
theorem str_21 {h : HV} (S : STS h) : STR h (-2739) [114, 117, 108, 101] := str_of (b := -2765) S (by decide +kernel)
theorem str_22 {h : HV} (S : STS h) : STR h (-2867) [116, 101, 97, 99, 104, 101, 114] := str_of (b := -2893) S (by decide +kernel)
theorem str_23 {h : HV} (S : STS h) : STR h (-2995) [116, 117, 116, 111, 114] := str_of (b := -3021) S (by decide +kernel)
theorem str_24 {h : HV} (S : STS h) : STR h (-3123) [104, 101, 97, 100] := str_of (b := -3149) S (by decide +kernel)
theorem str_25 {h : HV} (S : STS h) : STR h (-3251) [105, 102] := str_of (b := -3277) S (by decide +kernel)
theorem str_26 {h : HV} (S : STS h) : STR h (-3379) [102, 111, 114] := str_of (b := -3405) S (by decide +kernel)
theorem str_27 {h : HV} (S : STS h) : STR h (-3507) [116, 114, 121] := str_of (b := -3533) S (by decide +kernel)
theorem str_28 {h : HV} (S : STS h) : STR h (-3635) [114, 97, 105, 115, 101] := str_of (b := -3661) S (by decide +kernel)
theorem str_29 {h : HV} (S : STS h) : STR h (-3763) [103, 105, 118, 101] := str_of (b := -3789) S (by decide +kernel)
theorem str_30 {h : HV} (S : STS h) : STR h (-3891) [99, 111, 112, 121] := str_of (b := -3917) S (by decide +kernel)
theorem str_31 {h : HV} (S : STS h) : STR h (-4019) [100, 105, 118, 105, 100, 101] := str_of (b := -4045) S (by decide +kernel)
theorem str_32 {h : HV} (S : STS h) : STR h (-4147) [105, 110, 100, 101, 120] := str_of (b := -4173) S (by decide +kernel)
theorem str_33 {h : HV} (S : STS h) : STR h (-4275) [110, 117, 108, 108] := str_of (b := -4301) S (by decide +kernel)
theorem str_34 {h : HV} (S : STS h) : STR h (-4403) [99, 97, 115, 116] := str_of (b := -4429) S (by decide +kernel)
theorem str_35 {h : HV} (S : STS h) : STR h (-4531) [115, 105, 122, 101] := str_of (b := -4557) S (by decide +kernel)
theorem str_36 {h : HV} (S : STS h) : STR h (-4659) [115, 116, 111, 114, 101] := str_of (b := -4685) S (by decide +kernel)
theorem str_37 {h : HV} (S : STS h) : STR h (-4787) [101, 120, 97, 99, 116] := str_of (b := -4813) S (by decide +kernel)
theorem str_38 {h : HV} (S : STS h) : STR h (-4915) [114, 111, 119] := str_of (b := -4941) S (by decide +kernel)
theorem str_39 {h : HV} (S : STS h) : STR h (-5043) [114, 101, 97, 108, 115] := str_of (b := -5069) S (by decide +kernel)
theorem str_40 {h : HV} (S : STS h) : STR h (-5171) [112, 101, 111, 112, 108, 101] := str_of (b := -5197) S (by decide +kernel)
theorem str_41 {h : HV} (S : STS h) : STR h (-5299) [116, 101, 97, 99, 104, 101, 114, 115] := str_of (b := -5325) S (by decide +kernel)
theorem str_42 {h : HV} (S : STS h) : STR h (-5427) [119, 104, 111, 108, 101] := str_of (b := -5453) S (by decide +kernel)
theorem str_43 {h : HV} (S : STS h) : STR h (-5555) [114, 101, 97, 108] := str_of (b := -5581) S (by decide +kernel)
theorem str_44 {h : HV} (S : STS h) : STR h (-5683) [108, 97, 99, 107, 115] := str_of (b := -5709) S (by decide +kernel)
theorem str_45 {h : HV} (S : STS h) : STR h (-5811) [112, 101, 114, 115, 111, 110] := str_of (b := -5837) S (by decide +kernel)
theorem str_46 {h : HV} (S : STS h) : STR h (-5939) [108, 101, 118, 101, 108] := str_of (b := -5965) S (by decide +kernel)
theorem str_47 {h : HV} (S : STS h) : STR h (-6067) [109, 97, 114, 107, 115] := str_of (b := -6093) S (by decide +kernel)
def wITEMS : List Int := [32498687873999732, 1919905645, 495873779302, 444301538672, 119182984441710, 109330362954597, 1920298085]
theorem wITEMS_e : wordsOf [115, 117, 98, 106, 101, 99, 116, 32, 114, 111, 111, 109, 32, 115, 116, 97, 102, 102, 32, 103, 114, 111, 117, 112, 32, 108, 101, 115, 115, 111, 110, 32, 99, 111, 117, 114, 115, 101, 32, 114, 117, 108, 101] 0 = wITEMS := by decide +kernel
def wKINDS : List Int := [32762566252455282, 500186771314, 1751474532]
theorem wKINDS_e : wordsOf [116, 101, 97, 99, 104, 101, 114, 32, 116, 117, 116, 111, 114, 32, 104, 101, 97, 100] 0 = wKINDS := by decide +kernel
def wACTS : List Int := [26982, 6713202, 7631481, 491260572517, 1734964837, 1668247673]
theorem wACTS_e : wordsOf [105, 102, 32, 102, 111, 114, 32, 116, 114, 121, 32, 114, 97, 105, 115, 101, 32, 103, 105, 118, 101, 32, 99, 111, 112, 121] 0 = wACTS := by decide +kernel
def wFAILS : List Int := [110404120962149, 452823639416, 1853189228, 1667330932, 1936292453, 495874699877, 435811345268]
theorem wFAILS_e : wordsOf [100, 105, 118, 105, 100, 101, 32, 105, 110, 100, 101, 120, 32, 110, 117, 108, 108, 32, 99, 97, 115, 116, 32, 115, 105, 122, 101, 32, 115, 116, 111, 114, 101, 32, 101, 120, 97, 99, 116] 0 = wFAILS := by decide +kernel
def wBASES : List Int := [7499639, 491327155315, 123580963646565, 8387216960628552307, 1936292453, 512853240933, 1919246700, 465490373491, 123581014175598, 465558725996, 469786323827]
theorem wBASES_e : wordsOf [114, 111, 119, 32, 114, 101, 97, 108, 115, 32, 112, 101, 111, 112, 108, 101, 32, 116, 101, 97, 99, 104, 101, 114, 115, 32, 115, 105, 122, 101, 32, 119, 104, 111, 108, 101, 32, 114, 101, 97, 108, 32, 108, 97, 99, 107, 115, 32, 112, 101, 114, 115, 111, 110, 32, 108, 101, 118, 101, 108, 32, 109, 97, 114, 107, 115] 0 = wBASES := by decide +kernel
def wOTHERS : List Int := [1701606245, 29807, 28526, 107118487239027, 1852796517]
theorem wOTHERS_e : wordsOf [101, 108, 115, 101, 32, 116, 111, 32, 111, 110, 32, 97, 108, 119, 97, 121, 115, 32, 110, 111, 110, 101] 0 = wOTHERS := by decide +kernel
theorem w1_10 : wordsOf [110, 111, 110, 101] 0 = [1852796517] := by decide +kernel
theorem w1_11 : wordsOf [101, 108, 115, 101] 0 = [1701606245] := by decide +kernel
theorem w1_12 : wordsOf [116, 111] 0 = [29807] := by decide +kernel
theorem w1_13 : wordsOf [111, 110] 0 = [28526] := by decide +kernel
theorem w1_14 : wordsOf [97, 108, 119, 97, 121, 115] 0 = [107118487239027] := by decide +kernel
def wRES : List Int := [32498687873999732, 1919905645, 495873779302, 444301538672, 119182984441710, 109330362954597, 1920298085, 32762566252455282, 500186771314, 1751474532, 26982, 1701606245, 6713202, 29807, 7631481, 28526, 107118487239027, 491260572517, 1734964837, 1668247673, 110404120962149, 452823639416, 1853189228, 1667330932, 1936292453, 495874699877, 435811345268, 1852796517, 7499639, 491327155315, 123580963646565, 8387216960628552307, 512853240933, 1919246700, 465490373491, 123581014175598, 465558725996, 469786323827]
theorem wRES_m (w : Int) : w ∈ wRES ↔ w ∈ wITEMS ++ wKINDS ++ wACTS ++ wFAILS ++ wBASES ++ wOTHERS := by
  constructor
  · intro m
    exact (show ∀ w ∈ wRES, w ∈ wITEMS ++ wKINDS ++ wACTS ++ wFAILS ++ wBASES ++ wOTHERS by decide +kernel) w m
  · intro m
    exact (show ∀ w ∈ wITEMS ++ wKINDS ++ wACTS ++ wFAILS ++ wBASES ++ wOTHERS, w ∈ wRES by decide +kernel) w m
section TK
variable {tp : Int → Int} {t s fu : Int} {h : HV} {Q : Int → HV → Prop} {d : Nat}
/-- which of some words the token is; a sign; a name -/
def fdW (l : List Int) (tp : Int → Int) (t s : Int) : Int := if tkK tp t s = 1 then ix (wdT tp t s) l 0 else -1
def sgP (tp : Int → Int) (t s c : Int) : Prop := tkK tp t s = 4 ∧ tp s = c
def nmP (tp : Int → Int) (t s : Int) : Prop := tkK tp t s = 1 ∧ ¬ wdT tp t s ∈ wRES
theorem c45 {o : Int} {l L : List Int} (K : TKh tp t s h) (S : STR h o l) (hl : l.length ≤ 1000) (e : wordsOf l 0 = L) : Sp fz1 (d + 5) 45 [(3, 129), (3, o)] h Q = Q (fdW L tp t s) h := by
  refine Sp_is ?_ Q
  obtain ⟨⟨k1, k2, k3, k4, k5⟩, k6, -⟩ := K
  refine s45 (l := l) (by omega) S hl (fun w => ?_) (fun w => ?_)
  · rw [e, k6 (by rw [← k5]; exact w)]
    exact ⟨(if_pos (by rw [← k5]; exact w)).symm, rfl⟩
  · exact ⟨(if_neg (by rw [← k5]; exact w)).symm, rfl⟩
theorem c45b {o : Int} {l : List Int} (b : h 129 4 = 5) (S : STR h o l) (hl : l.length ≤ 1000) : Sp fz1 (d + 5) 45 [(3, 129), (3, o)] h Q = Q (-1) h := by
  refine Sp_is ?_ Q
  exact s45 (l := l) (by omega) S hl (fun w => by omega) (fun w => ⟨rfl, rfl⟩)
theorem c59 {c : Int} (K : TKh tp t s h) (T : TOK tp t s) (hc : 0 ≤ c ∧ c ≤ 127) : Sp fz1 d 59 [(3, 129), (0, c)] h Q = Q (if tkK tp t s = 4 ∧ tp s = c then 1 else 0) h := by
  refine Sp_is ?_ Q
  obtain ⟨⟨k1, k2, k3, k4, k5⟩, -, -, -, k9, -⟩ := K
  have r := tkK_r (tp := tp) (t := t) (s := s)
  refine s59 (fun w => ?_) (fun w => ?_)
  · have w1 : tkK tp t s = 4 := by rw [← k5]; exact w.1
    have := k9 w1
    have := T.2 s T.1.1 (by omega)
    refine ⟨(if_pos ⟨w1, by omega⟩).symm, rfl⟩
  · refine ⟨(if_neg (fun u => w ⟨by rw [k5]; exact u.1, ?_⟩)).symm, rfl⟩
    rw [k9 u.1, u.2]
    omega
theorem c59b {c : Int} (b : h 129 4 = 5) : Sp fz1 d 59 [(3, 129), (0, c)] h Q = Q 0 h := by
  refine Sp_is ?_ Q
  exact s59 (fun w => by omega) (fun w => ⟨rfl, rfl⟩)
theorem c111 {o : Int} {l : List Int} (K : TKh tp t s h) (T : TOK tp t s) (S : STR h o l) (hl : l.length ≤ 1000) (hl0 : 0 < l.length) : Sp fz1 (d + 7) 111 [(3, 129), (3, o)] h Q = Q (if tkK tp t s = 4 then ixF (tp s) l 0 else -1) h := by
  refine Sp_is ?_ Q
  obtain ⟨⟨k1, k2, k3, k4, k5⟩, -, -, -, k9, -⟩ := K
  have r := tkK_r (tp := tp) (t := t) (s := s)
  refine s111 (l := l) (by omega) S hl hl0 (fun w => ?_) (fun w => ?_) (fun w => ?_)
  · rw [k9 (by rw [← k5]; exact w)]
    omega
  · have w1 : tkK tp t s = 4 := by rw [← k5]; exact w
    have b := T.2 s T.1.1 (by omega)
    rw [if_pos w1, k9 w1, show w8 (tp s % 256) = tp s by unfold w8; omega]
    exact ⟨rfl, rfl⟩
  · exact ⟨(if_neg (by rw [← k5]; exact w)).symm, rfl⟩
theorem c111b {o : Int} {l : List Int} (b : h 129 4 = 5) (S : STR h o l) (hl : l.length ≤ 1000) (hl0 : 0 < l.length) : Sp fz1 (d + 7) 111 [(3, 129), (3, o)] h Q = Q (-1) h := by
  refine Sp_is ?_ Q
  exact s111 (l := l) (by omega) S hl hl0 (fun w => by omega) (fun w => by omega) (fun w => ⟨rfl, rfl⟩)
/-- charAt, length as equations -/
theorem s36e {o : Int} {l : List Int} (S : STR h o l) (hl : l.length ≤ 1000) : Sp fz1 (d + 1) 36 [(3, o)] h Q = Q l.length h := Sp_is (s36 (by omega) S hl ⟨rfl, rfl⟩) Q
theorem s46e {o i : Int} {l : List Int} (S : STR h o l) (hl : l.length ≤ 1000) (h0 : 0 ≤ i) (hi : i < l.length) : Sp fz1 (d + 4) 46 [(3, o), (0, i)] h Q = Q (l.getD i.toNat 0) h := Sp_is (s46 (by omega) S hl h0 hi ⟨rfl, rfl⟩) Q
theorem c43 : Sp fz1 d 43 [(3, 129)] h Q = Q (h 129 4) h := by
  simp (implicitDefEqProofs := false) (disch := omega) only [sp43, b43_0, x_aload0, x_gf_1056, x_ireturn, klp_0, klp_1, klp_2, klp_3, klp_9, KC_0, KC_1, KC_2, KC_3, KC_4, ne_eq, not_false_eq_true, not_true_eq_false, true_and, and_true, and_self, implies_true, eq_self, true_imp_iff, false_implies, Int.reduceEq, Int.reduceNe, Int.reduceMod, Int.reduceMul, Int.reduceAdd, Int.reduceSub, Int.reduceLT, Int.reduceLE, Nat.reduceAdd, Nat.reduceLeDiff, Nat.reduceLT, Nat.reduceSub, reduceIte, wds_n, wds_0, wds_1, wds_2, wds_3, or_true, true_or, or_false, false_or, or_self, false_and, and_false, d_pos, d_s1, d_s2, d_s3, d_s4, d_s5, d_s6, d_s7, d_s8, Classical.not_not]
theorem c52 (K : TKh tp t s h) (S : STS h) : Sp fz1 (d + 6) 52 [(3, 258)] h Q = Q (if tkK tp t s = 1 ∧ ¬ wdT tp t s ∈ wRES then 1 else 0) h := by
  have k5 := K.1.2.2.2.2
  have F : ∀ (o : Int) (l L : List Int), STR h o l → l.length ≤ 1000 → wordsOf l 0 = L → ∀ Q : Int → HV → Prop, Sp fz1 (d + 5) 45 [(3, 129), (3, o)] h Q = Q (fdW L tp t s) h := fun o l L S hl e Q => c45 K S hl e
  have f1 := F _ _ _ (str_1 S) (by decide) wITEMS_e
  have f2 := F _ _ _ (str_2 S) (by decide) wKINDS_e
  have f3 := F _ _ _ (str_3 S) (by decide) wACTS_e
  have f4 := F _ _ _ (str_4 S) (by decide) wFAILS_e
  have f5 := F _ _ _ (str_5 S) (by decide) wBASES_e
  have f6 := F _ _ _ (str_6 S) (by decide) wOTHERS_e
  by_cases a0 : tkK tp t s = 1
  · have g : ∀ L, fdW L tp t s = ix (wdT tp t s) L 0 := fun L => if_pos a0
    rw [g] at f1 f2 f3 f4 f5 f6
    rw [← NV_179_e] at f1
    rw [← NV_307_e] at f2
    rw [← NV_435_e] at f3
    rw [← NV_563_e] at f4
    rw [← NV_691_e] at f5
    rw [← NV_819_e] at f6
    have m := wRES_m (wdT tp t s)
    have i1 := ix_mem (w := wdT tp t s) wITEMS 0 (by decide)
    have i2 := ix_mem (w := wdT tp t s) wKINDS 0 (by decide)
    have i3 := ix_mem (w := wdT tp t s) wACTS 0 (by decide)
    have i4 := ix_mem (w := wdT tp t s) wFAILS 0 (by decide)
    have i5 := ix_mem (w := wdT tp t s) wBASES 0 (by decide)
    have i6 := ix_mem (w := wdT tp t s) wOTHERS 0 (by decide)
    rw [List.mem_append, List.mem_append, List.mem_append, List.mem_append, List.mem_append] at m
    by_cases r : wdT tp t s ∈ wRES
    · rw [if_neg (fun w => w.2 r)]
      by_cases a1 : ix (wdT tp t s) wITEMS 0 < 0
      · by_cases a2 : ix (wdT tp t s) wKINDS 0 < 0
        · by_cases a3 : ix (wdT tp t s) wACTS 0 < 0
          · by_cases a4 : ix (wdT tp t s) wFAILS 0 < 0
            · by_cases a5 : ix (wdT tp t s) wBASES 0 < 0
              · by_cases a6 : ix (wdT tp t s) wOTHERS 0 < 0
                · exfalso
                  rcases m.mp r with ((((z | z) | z) | z) | z) | z
                  · exact i1.mp a1 z
                  · exact i2.mp a2 z
                  · exact i3.mp a3 z
                  · exact i4.mp a4 z
                  · exact i5.mp a5 z
                  · exact i6.mp a6 z
                · simp (implicitDefEqProofs := false) (disch := omega) only [sp52, n52_0, b52_1, b52_2, q52_1, q52_2, x_aload0, y_call43, y_call45, x_freturn, x_gc_2051, x_goto_2, x_iconst, x_ifCond_ge_1, x_if_icmp_ne_1, x_jsr, klp_0, klp_1, klp_2, klp_3, klp_9, KC_0, KC_1, KC_2, KC_3, KC_4, ne_eq, not_false_eq_true, not_true_eq_false, true_and, and_true, and_self, implies_true, eq_self, true_imp_iff, false_implies, Int.reduceEq, Int.reduceNe, Int.reduceMod, Int.reduceMul, Int.reduceAdd, Int.reduceSub, Int.reduceLT, Int.reduceLE, Nat.reduceAdd, Nat.reduceLeDiff, Nat.reduceLT, Nat.reduceSub, reduceIte, wds_n, wds_0, wds_1, wds_2, wds_3, or_true, true_or, or_false, false_or, or_self, false_and, and_false, d_pos, d_s1, d_s2, d_s3, d_s4, d_s5, d_s6, d_s7, d_s8, Classical.not_not, z258_0, c43, k5, a0, f1, f2, f3, f4, f5, f6, a1, a2, a3, a4, a5, a6, le_sub1, le_T, le_F, lt_T, lt_F, eq_F, w32_T, bz0, bz1, lc_le, lc_ge, lc_lt, lc_gt, lc_eq]
              · simp (implicitDefEqProofs := false) (disch := omega) only [sp52, n52_0, b52_1, b52_2, q52_1, q52_2, x_aload0, y_call43, y_call45, x_freturn, x_gc_2051, x_goto_2, x_iconst, x_ifCond_ge_1, x_if_icmp_ne_1, x_jsr, klp_0, klp_1, klp_2, klp_3, klp_9, KC_0, KC_1, KC_2, KC_3, KC_4, ne_eq, not_false_eq_true, not_true_eq_false, true_and, and_true, and_self, implies_true, eq_self, true_imp_iff, false_implies, Int.reduceEq, Int.reduceNe, Int.reduceMod, Int.reduceMul, Int.reduceAdd, Int.reduceSub, Int.reduceLT, Int.reduceLE, Nat.reduceAdd, Nat.reduceLeDiff, Nat.reduceLT, Nat.reduceSub, reduceIte, wds_n, wds_0, wds_1, wds_2, wds_3, or_true, true_or, or_false, false_or, or_self, false_and, and_false, d_pos, d_s1, d_s2, d_s3, d_s4, d_s5, d_s6, d_s7, d_s8, Classical.not_not, z258_0, c43, k5, a0, f1, f2, f3, f4, f5, a1, a2, a3, a4, a5, le_sub1, le_T, le_F, lt_T, lt_F, eq_F, w32_T, bz0, bz1, lc_le, lc_ge, lc_lt, lc_gt, lc_eq]
            · simp (implicitDefEqProofs := false) (disch := omega) only [sp52, n52_0, b52_1, b52_2, q52_1, q52_2, x_aload0, y_call43, y_call45, x_freturn, x_gc_2051, x_goto_2, x_iconst, x_ifCond_ge_1, x_if_icmp_ne_1, x_jsr, klp_0, klp_1, klp_2, klp_3, klp_9, KC_0, KC_1, KC_2, KC_3, KC_4, ne_eq, not_false_eq_true, not_true_eq_false, true_and, and_true, and_self, implies_true, eq_self, true_imp_iff, false_implies, Int.reduceEq, Int.reduceNe, Int.reduceMod, Int.reduceMul, Int.reduceAdd, Int.reduceSub, Int.reduceLT, Int.reduceLE, Nat.reduceAdd, Nat.reduceLeDiff, Nat.reduceLT, Nat.reduceSub, reduceIte, wds_n, wds_0, wds_1, wds_2, wds_3, or_true, true_or, or_false, false_or, or_self, false_and, and_false, d_pos, d_s1, d_s2, d_s3, d_s4, d_s5, d_s6, d_s7, d_s8, Classical.not_not, z258_0, c43, k5, a0, f1, f2, f3, f4, a1, a2, a3, a4, le_sub1, le_T, le_F, lt_T, lt_F, eq_F, w32_T, bz0, bz1, lc_le, lc_ge, lc_lt, lc_gt, lc_eq]
          · simp (implicitDefEqProofs := false) (disch := omega) only [sp52, n52_0, b52_1, b52_2, q52_1, q52_2, x_aload0, y_call43, y_call45, x_freturn, x_gc_2051, x_goto_2, x_iconst, x_ifCond_ge_1, x_if_icmp_ne_1, x_jsr, klp_0, klp_1, klp_2, klp_3, klp_9, KC_0, KC_1, KC_2, KC_3, KC_4, ne_eq, not_false_eq_true, not_true_eq_false, true_and, and_true, and_self, implies_true, eq_self, true_imp_iff, false_implies, Int.reduceEq, Int.reduceNe, Int.reduceMod, Int.reduceMul, Int.reduceAdd, Int.reduceSub, Int.reduceLT, Int.reduceLE, Nat.reduceAdd, Nat.reduceLeDiff, Nat.reduceLT, Nat.reduceSub, reduceIte, wds_n, wds_0, wds_1, wds_2, wds_3, or_true, true_or, or_false, false_or, or_self, false_and, and_false, d_pos, d_s1, d_s2, d_s3, d_s4, d_s5, d_s6, d_s7, d_s8, Classical.not_not, z258_0, c43, k5, a0, f1, f2, f3, a1, a2, a3, le_sub1, le_T, le_F, lt_T, lt_F, eq_F, w32_T, bz0, bz1, lc_le, lc_ge, lc_lt, lc_gt, lc_eq]
        · simp (implicitDefEqProofs := false) (disch := omega) only [sp52, n52_0, b52_1, b52_2, q52_1, q52_2, x_aload0, y_call43, y_call45, x_freturn, x_gc_2051, x_goto_2, x_iconst, x_ifCond_ge_1, x_if_icmp_ne_1, x_jsr, klp_0, klp_1, klp_2, klp_3, klp_9, KC_0, KC_1, KC_2, KC_3, KC_4, ne_eq, not_false_eq_true, not_true_eq_false, true_and, and_true, and_self, implies_true, eq_self, true_imp_iff, false_implies, Int.reduceEq, Int.reduceNe, Int.reduceMod, Int.reduceMul, Int.reduceAdd, Int.reduceSub, Int.reduceLT, Int.reduceLE, Nat.reduceAdd, Nat.reduceLeDiff, Nat.reduceLT, Nat.reduceSub, reduceIte, wds_n, wds_0, wds_1, wds_2, wds_3, or_true, true_or, or_false, false_or, or_self, false_and, and_false, d_pos, d_s1, d_s2, d_s3, d_s4, d_s5, d_s6, d_s7, d_s8, Classical.not_not, z258_0, c43, k5, a0, f1, f2, a1, a2, le_sub1, le_T, le_F, lt_T, lt_F, eq_F, w32_T, bz0, bz1, lc_le, lc_ge, lc_lt, lc_gt, lc_eq]
      · simp (implicitDefEqProofs := false) (disch := omega) only [sp52, n52_0, b52_1, b52_2, q52_1, q52_2, x_aload0, y_call43, y_call45, x_freturn, x_gc_2051, x_goto_2, x_iconst, x_ifCond_ge_1, x_if_icmp_ne_1, x_jsr, klp_0, klp_1, klp_2, klp_3, klp_9, KC_0, KC_1, KC_2, KC_3, KC_4, ne_eq, not_false_eq_true, not_true_eq_false, true_and, and_true, and_self, implies_true, eq_self, true_imp_iff, false_implies, Int.reduceEq, Int.reduceNe, Int.reduceMod, Int.reduceMul, Int.reduceAdd, Int.reduceSub, Int.reduceLT, Int.reduceLE, Nat.reduceAdd, Nat.reduceLeDiff, Nat.reduceLT, Nat.reduceSub, reduceIte, wds_n, wds_0, wds_1, wds_2, wds_3, or_true, true_or, or_false, false_or, or_self, false_and, and_false, d_pos, d_s1, d_s2, d_s3, d_s4, d_s5, d_s6, d_s7, d_s8, Classical.not_not, z258_0, c43, k5, a0, f1, a1, le_sub1, le_T, le_F, lt_T, lt_F, eq_F, w32_T, bz0, bz1, lc_le, lc_ge, lc_lt, lc_gt, lc_eq]
    · rw [if_pos ⟨a0, r⟩]
      have a1 := i1.mpr (fun z => r (m.mpr (.inl (.inl (.inl (.inl (.inl z)))))))
      have a2 := i2.mpr (fun z => r (m.mpr (.inl (.inl (.inl (.inl (.inr z)))))))
      have a3 := i3.mpr (fun z => r (m.mpr (.inl (.inl (.inl (.inr z))))))
      have a4 := i4.mpr (fun z => r (m.mpr (.inl (.inl (.inr z)))))
      have a5 := i5.mpr (fun z => r (m.mpr (.inl (.inr z))))
      have a6 := i6.mpr (fun z => r (m.mpr (.inr z)))
      simp (implicitDefEqProofs := false) (disch := omega) only [sp52, n52_0, b52_1, b52_2, q52_1, q52_2, x_aload0, y_call43, y_call45, x_freturn, x_gc_2051, x_goto_2, x_iconst, x_ifCond_ge_1, x_if_icmp_ne_1, x_jsr, klp_0, klp_1, klp_2, klp_3, klp_9, KC_0, KC_1, KC_2, KC_3, KC_4, ne_eq, not_false_eq_true, not_true_eq_false, true_and, and_true, and_self, implies_true, eq_self, true_imp_iff, false_implies, Int.reduceEq, Int.reduceNe, Int.reduceMod, Int.reduceMul, Int.reduceAdd, Int.reduceSub, Int.reduceLT, Int.reduceLE, Nat.reduceAdd, Nat.reduceLeDiff, Nat.reduceLT, Nat.reduceSub, reduceIte, wds_n, wds_0, wds_1, wds_2, wds_3, or_true, true_or, or_false, false_or, or_self, false_and, and_false, d_pos, d_s1, d_s2, d_s3, d_s4, d_s5, d_s6, d_s7, d_s8, Classical.not_not, z258_0, c43, k5, a0, f1, f2, f3, f4, f5, f6, a1, a2, a3, a4, a5, a6, le_sub1, le_T, le_F, lt_T, lt_F, eq_F, w32_T, bz0, bz1, lc_le, lc_ge, lc_lt, lc_gt, lc_eq]
  · rw [if_neg (fun w => a0 w.1)]
    rw [← k5] at a0
    simp (implicitDefEqProofs := false) (disch := omega) only [sp52, n52_0, b52_1, b52_2, q52_1, q52_2, x_aload0, y_call43, y_call45, x_freturn, x_gc_2051, x_goto_2, x_iconst, x_ifCond_ge_1, x_if_icmp_ne_1, x_jsr, klp_0, klp_1, klp_2, klp_3, klp_9, KC_0, KC_1, KC_2, KC_3, KC_4, ne_eq, not_false_eq_true, not_true_eq_false, true_and, and_true, and_self, implies_true, eq_self, true_imp_iff, false_implies, Int.reduceEq, Int.reduceNe, Int.reduceMod, Int.reduceMul, Int.reduceAdd, Int.reduceSub, Int.reduceLT, Int.reduceLE, Nat.reduceAdd, Nat.reduceLeDiff, Nat.reduceLT, Nat.reduceSub, reduceIte, wds_n, wds_0, wds_1, wds_2, wds_3, or_true, true_or, or_false, false_or, or_self, false_and, and_false, d_pos, d_s1, d_s2, d_s3, d_s4, d_s5, d_s6, d_s7, d_s8, Classical.not_not, z258_0, c43, a0, le_sub1, le_T, le_F, lt_T, lt_F, eq_F, w32_T, bz0, bz1, lc_le, lc_ge, lc_lt, lc_gt, lc_eq]
theorem c52b (b : h 129 4 = 5) : Sp fz1 (d + 6) 52 [(3, 258)] h Q = Q 0 h := by
  simp (implicitDefEqProofs := false) (disch := omega) only [sp52, n52_0, b52_1, b52_2, q52_1, q52_2, x_aload0, y_call43, y_call45, x_freturn, x_gc_2051, x_goto_2, x_iconst, x_ifCond_ge_1, x_if_icmp_ne_1, x_jsr, klp_0, klp_1, klp_2, klp_3, klp_9, KC_0, KC_1, KC_2, KC_3, KC_4, ne_eq, not_false_eq_true, not_true_eq_false, true_and, and_true, and_self, implies_true, eq_self, true_imp_iff, false_implies, Int.reduceEq, Int.reduceNe, Int.reduceMod, Int.reduceMul, Int.reduceAdd, Int.reduceSub, Int.reduceLT, Int.reduceLE, Nat.reduceAdd, Nat.reduceLeDiff, Nat.reduceLT, Nat.reduceSub, reduceIte, wds_n, wds_0, wds_1, wds_2, wds_3, or_true, true_or, or_false, false_or, or_self, false_and, and_false, d_pos, d_s1, d_s2, d_s3, d_s4, d_s5, d_s6, d_s7, d_s8, Classical.not_not, z258_0, c43, b, le_sub1, le_T, le_F, lt_T, lt_F, eq_F, w32_T, bz0, bz1, lc_le, lc_ge, lc_lt, lc_gt, lc_eq]
theorem lp327 {o : Int} {l : List Int} (K : TKf tp t s fu h) (T : TOK tp t s) (S : STR h o l) (hl : l.length ≤ 8) (e : tkE tp t s - s = l.length) : ∀ (m : Nat) (k : Int), k + m = l.length → 0 ≤ k → ∀ v : Int, ((∀ j, k ≤ j → j < (l.length : Int) → tp (s + j) = l.getD j.toNat 0) → v = 1) → ((¬ ∀ j, k ≤ j → j < (l.length : Int) → tp (s + j) = l.getD j.toNat 0) → v = 0) → G fz1 (d + 5) 327 3 [(3, 6603), (3, o), (0, k)] [] h Q = Q v h
  | 0, k, hm, h0, v, v1, v0 => by
    have o1 : o < 0 := S.1.1
    have o2 : o % 64 = 13 := S.1.2
    have W : ∀ Q : Int → HV → Prop, Sp fz1 (d + 4) 36 [(3, o)] h Q = Q l.length h := fun Q => s36e S (by omega)
    rw [v1 (fun j a b => by omega), q327_3]
    simp (implicitDefEqProofs := false) (disch := omega) only [b327_3, b327_5, q327_5, x_aload0, x_aload1, x_baload, y_call36, y_call46, x_freturn, x_gc_11267, x_gf_11288, x_iadd, x_iconst, x_if_icmp_eq_4, x_if_icmp_ge_5, x_iload2, klp_0, klp_1, klp_2, klp_3, klp_9, KC_0, KC_1, KC_2, KC_3, KC_4, ne_eq, not_false_eq_true, not_true_eq_false, true_and, and_true, and_self, implies_true, eq_self, true_imp_iff, false_implies, Int.reduceEq, Int.reduceNe, Int.reduceMod, Int.reduceMul, Int.reduceAdd, Int.reduceSub, Int.reduceLT, Int.reduceLE, Nat.reduceAdd, Nat.reduceLeDiff, Nat.reduceLT, Nat.reduceSub, reduceIte, wds_n, wds_0, wds_1, wds_2, wds_3, or_true, true_or, or_false, false_or, or_self, false_and, and_false, d_pos, d_s1, d_s2, d_s3, d_s4, d_s5, d_s6, d_s7, d_s8, Classical.not_not, z6603_0, z6691_l, W, hm, o2, le_sub1, le_T, le_F, lt_T, lt_F, eq_F, w32_T, bz0, bz1, lc_le, lc_ge, lc_lt, lc_gt, lc_eq]
  | m + 1, k, hm, h0, v, v1, v0 => by
    have o1 : o < 0 := S.1.1
    have o2 : o % 64 = 13 := S.1.2
    have W : ∀ Q : Int → HV → Prop, Sp fz1 (d + 4) 36 [(3, o)] h Q = Q l.length h := fun Q => s36e S (by omega)
    have W2 : ∀ Q : Int → HV → Prop, Sp fz1 (d + 4) 46 [(3, o), (0, k)] h Q = Q (l.getD k.toNat 0) h := fun Q => s46e S (by omega) h0 (by omega)
    have b := tkE_b (tp := tp) T.1.2.1
    have t3 := K.1.2.2.1
    have tk : h 6691 (s + k) = tp (s + k) := K.2.2.2 _ (by have := T.1; omega) (by omega)
    have sb : s ≤ 2400 := by have := T.1; omega
    have s0 := T.1.1
    have t24 := T.1.2.2
    rw [q327_3]
    by_cases c : tp (s + k) = l.getD k.toNat 0
    · have eq : (∀ j, k ≤ j → j < (l.length : Int) → tp (s + j) = l.getD j.toNat 0) ↔ ∀ j, k + 1 ≤ j → j < (l.length : Int) → tp (s + j) = l.getD j.toNat 0 := by
        constructor
        · exact fun z j a b => z j (by omega) b
        · intro z j a b
          by_cases u : j = k
          · rw [u]; exact c
          · exact z j (by omega) b
      have ih := lp327 K T S hl e m (k + 1) (by omega) (by omega) v (fun z => v1 (eq.mpr z)) (fun z => v0 (fun w => z (eq.mp w)))
      rw [← ih]
      simp (implicitDefEqProofs := false) (disch := omega) only [b327_3, b327_4, b327_5, q327_4, q327_5, x_aload0, x_aload1, x_baload, y_call36, y_call46, x_freturn, x_gc_11267, x_gf_11288, x_goto_3, x_iadd, x_iconst, x_if_icmp_eq_4, x_if_icmp_ge_5, x_iinc2, x_iload2, klp_0, klp_1, klp_2, klp_3, klp_9, KC_0, KC_1, KC_2, KC_3, KC_4, ne_eq, not_false_eq_true, not_true_eq_false, true_and, and_true, and_self, implies_true, eq_self, true_imp_iff, false_implies, Int.reduceEq, Int.reduceNe, Int.reduceMod, Int.reduceMul, Int.reduceAdd, Int.reduceSub, Int.reduceLT, Int.reduceLE, Nat.reduceAdd, Nat.reduceLeDiff, Nat.reduceLT, Nat.reduceSub, reduceIte, wds_n, wds_0, wds_1, wds_2, wds_3, or_true, true_or, or_false, false_or, or_self, false_and, and_false, d_pos, d_s1, d_s2, d_s3, d_s4, d_s5, d_s6, d_s7, d_s8, Classical.not_not, z6603_0, z6691_l, W, W2, t3, tk, c, o2, le_sub1, le_T, le_F, lt_T, lt_F, eq_F, w32_T, bz0, bz1, lc_le, lc_ge, lc_lt, lc_gt, lc_eq]
    · rw [v0 (fun z => c (z k (Int.le_refl _) (by omega)))]
      simp (implicitDefEqProofs := false) (disch := omega) only [b327_3, b327_4, b327_5, q327_4, q327_5, x_aload0, x_aload1, x_baload, y_call36, y_call46, x_freturn, x_gc_11267, x_gf_11288, x_goto_3, x_iadd, x_iconst, x_if_icmp_eq_4, x_if_icmp_ge_5, x_iinc2, x_iload2, klp_0, klp_1, klp_2, klp_3, klp_9, KC_0, KC_1, KC_2, KC_3, KC_4, ne_eq, not_false_eq_true, not_true_eq_false, true_and, and_true, and_self, implies_true, eq_self, true_imp_iff, false_implies, Int.reduceEq, Int.reduceNe, Int.reduceMod, Int.reduceMul, Int.reduceAdd, Int.reduceSub, Int.reduceLT, Int.reduceLE, Nat.reduceAdd, Nat.reduceLeDiff, Nat.reduceLT, Nat.reduceSub, reduceIte, wds_n, wds_0, wds_1, wds_2, wds_3, or_true, true_or, or_false, false_or, or_self, false_and, and_false, d_pos, d_s1, d_s2, d_s3, d_s4, d_s5, d_s6, d_s7, d_s8, Classical.not_not, z6603_0, z6691_l, W, W2, t3, tk, c, o2, le_sub1, le_T, le_F, lt_T, lt_F, eq_F, w32_T, bz0, bz1, lc_le, lc_ge, lc_lt, lc_gt, lc_eq]
theorem v327 {o : Int} {l : List Int} (K : TKf tp t s fu h) (T : TOK tp t s) (S : STR h o l) (hl : l.length ≤ 8) (hc : ∀ q, q < l.length → 1 ≤ l.getD q 0 ∧ l.getD q 0 ≤ 127) : Sp fz1 (d + 5) 327 [(3, 6603), (3, o)] h Q = Q (if tkK tp t s = 1 ∧ wdT tp t s = pkL l then 1 else 0) h := by
  have W : ∀ Q : Int → HV → Prop, Sp fz1 (d + 4) 36 [(3, o)] h Q = Q l.length h := fun Q => s36e S (by omega)
  obtain ⟨k1, k2, k3, k4, k5⟩ := K.1
  have b := tkE_b (tp := tp) T.1.2.1
  have o1 : o < 0 := S.1.1
  have o2 : o % 64 = 13 := S.1.2
  have s0 := T.1.1
  have s1 := T.1.2.1
  have t24 := T.1.2.2
  by_cases a0 : tkK tp t s = 1
  · have we := wrd_eq (l := l) a0 s0 t24 hc
    by_cases a1 : tkE tp t s - s = l.length
    · have z := lp327 (d := d) (Q := Q) K T S hl a1 l.length 0 (by omega) (by decide) (if tkK tp t s = 1 ∧ wdT tp t s = pkL l then 1 else 0) (fun u => if_pos ⟨a0, we.mpr ⟨a1, u⟩⟩) (fun u => if_neg (fun w => u (we.mp w.2).2))
      rw [← z]
      simp (implicitDefEqProofs := false) (disch := omega) only [sp327, b327_0, b327_1, b327_2, b327_3, b327_4, b327_5, q327_1, q327_2, q327_4, q327_5, x_aload0, x_aload1, x_baload, y_call36, y_call46, x_freturn, x_gc_11267, x_gf_11280, x_gf_11288, x_gf_11296, x_goto_1, x_goto_3, x_iadd, x_iconst, x_if_icmp_eq_2, x_if_icmp_eq_4, x_if_icmp_ge_5, x_if_icmp_ne_1, x_iinc2, x_iload2, x_istore2, x_isub, klp_0, klp_1, klp_2, klp_3, klp_9, KC_0, KC_1, KC_2, KC_3, KC_4, ne_eq, not_false_eq_true, not_true_eq_false, true_and, and_true, and_self, implies_true, eq_self, true_imp_iff, false_implies, Int.reduceEq, Int.reduceNe, Int.reduceMod, Int.reduceMul, Int.reduceAdd, Int.reduceSub, Int.reduceLT, Int.reduceLE, Nat.reduceAdd, Nat.reduceLeDiff, Nat.reduceLT, Nat.reduceSub, reduceIte, wds_n, wds_0, wds_1, wds_2, wds_3, or_true, true_or, or_false, false_or, or_self, false_and, and_false, d_pos, d_s1, d_s2, d_s3, d_s4, d_s5, d_s6, d_s7, d_s8, Classical.not_not, z6603_0, z6691_l, W, k3, k4, k5, a0, a1, o2, le_sub1, le_T, le_F, lt_T, lt_F, eq_F, w32_T, bz0, bz1, lc_le, lc_ge, lc_lt, lc_gt, lc_eq]
    · rw [if_neg (fun w => a1 (we.mp w.2).1)]
      simp (implicitDefEqProofs := false) (disch := omega) only [sp327, b327_0, b327_1, b327_2, b327_3, b327_4, b327_5, q327_1, q327_2, q327_4, q327_5, x_aload0, x_aload1, x_baload, y_call36, y_call46, x_freturn, x_gc_11267, x_gf_11280, x_gf_11288, x_gf_11296, x_goto_1, x_goto_3, x_iadd, x_iconst, x_if_icmp_eq_2, x_if_icmp_eq_4, x_if_icmp_ge_5, x_if_icmp_ne_1, x_iinc2, x_iload2, x_istore2, x_isub, klp_0, klp_1, klp_2, klp_3, klp_9, KC_0, KC_1, KC_2, KC_3, KC_4, ne_eq, not_false_eq_true, not_true_eq_false, true_and, and_true, and_self, implies_true, eq_self, true_imp_iff, false_implies, Int.reduceEq, Int.reduceNe, Int.reduceMod, Int.reduceMul, Int.reduceAdd, Int.reduceSub, Int.reduceLT, Int.reduceLE, Nat.reduceAdd, Nat.reduceLeDiff, Nat.reduceLT, Nat.reduceSub, reduceIte, wds_n, wds_0, wds_1, wds_2, wds_3, or_true, true_or, or_false, false_or, or_self, false_and, and_false, d_pos, d_s1, d_s2, d_s3, d_s4, d_s5, d_s6, d_s7, d_s8, Classical.not_not, z6603_0, z6691_l, W, k3, k4, k5, a0, a1, o2, le_sub1, le_T, le_F, lt_T, lt_F, eq_F, w32_T, bz0, bz1, lc_le, lc_ge, lc_lt, lc_gt, lc_eq]
  · rw [if_neg (fun w => a0 w.1)]
    rw [← k5] at a0
    simp (implicitDefEqProofs := false) (disch := omega) only [sp327, b327_0, b327_1, b327_2, b327_3, b327_4, b327_5, q327_1, q327_2, q327_4, q327_5, x_aload0, x_aload1, x_baload, y_call36, y_call46, x_freturn, x_gc_11267, x_gf_11280, x_gf_11288, x_gf_11296, x_goto_1, x_goto_3, x_iadd, x_iconst, x_if_icmp_eq_2, x_if_icmp_eq_4, x_if_icmp_ge_5, x_if_icmp_ne_1, x_iinc2, x_iload2, x_istore2, x_isub, klp_0, klp_1, klp_2, klp_3, klp_9, KC_0, KC_1, KC_2, KC_3, KC_4, ne_eq, not_false_eq_true, not_true_eq_false, true_and, and_true, and_self, implies_true, eq_self, true_imp_iff, false_implies, Int.reduceEq, Int.reduceNe, Int.reduceMod, Int.reduceMul, Int.reduceAdd, Int.reduceSub, Int.reduceLT, Int.reduceLE, Nat.reduceAdd, Nat.reduceLeDiff, Nat.reduceLT, Nat.reduceSub, reduceIte, wds_n, wds_0, wds_1, wds_2, wds_3, or_true, true_or, or_false, false_or, or_self, false_and, and_false, d_pos, d_s1, d_s2, d_s3, d_s4, d_s5, d_s6, d_s7, d_s8, Classical.not_not, z6603_0, z6691_l, a0, o2, le_sub1, le_T, le_F, lt_T, lt_F, eq_F, w32_T, bz0, bz1, lc_le, lc_ge, lc_lt, lc_gt, lc_eq]
theorem iw_subject (K : TKf tp t s fu h) (T : TOK tp t s) (S : STS h) : Sp fz1 (d + 5) 327 [(3, 6603), (3, -1971)] h Q = Q (if tkK tp t s = 1 ∧ wdT tp t s = 32498687873999732 then 1 else 0) h := by
  rw [v327 K T (str_15 S) (by decide) (by decide), show pkL [115, 117, 98, 106, 101, 99, 116] = 32498687873999732 by decide +kernel]
theorem iw_room (K : TKf tp t s fu h) (T : TOK tp t s) (S : STS h) : Sp fz1 (d + 5) 327 [(3, 6603), (3, -2099)] h Q = Q (if tkK tp t s = 1 ∧ wdT tp t s = 1919905645 then 1 else 0) h := by
  rw [v327 K T (str_16 S) (by decide) (by decide), show pkL [114, 111, 111, 109] = 1919905645 by decide +kernel]
theorem iw_staff (K : TKf tp t s fu h) (T : TOK tp t s) (S : STS h) : Sp fz1 (d + 5) 327 [(3, 6603), (3, -2227)] h Q = Q (if tkK tp t s = 1 ∧ wdT tp t s = 495873779302 then 1 else 0) h := by
  rw [v327 K T (str_17 S) (by decide) (by decide), show pkL [115, 116, 97, 102, 102] = 495873779302 by decide +kernel]
theorem iw_group (K : TKf tp t s fu h) (T : TOK tp t s) (S : STS h) : Sp fz1 (d + 5) 327 [(3, 6603), (3, -2355)] h Q = Q (if tkK tp t s = 1 ∧ wdT tp t s = 444301538672 then 1 else 0) h := by
  rw [v327 K T (str_18 S) (by decide) (by decide), show pkL [103, 114, 111, 117, 112] = 444301538672 by decide +kernel]
theorem iw_lesson (K : TKf tp t s fu h) (T : TOK tp t s) (S : STS h) : Sp fz1 (d + 5) 327 [(3, 6603), (3, -2483)] h Q = Q (if tkK tp t s = 1 ∧ wdT tp t s = 119182984441710 then 1 else 0) h := by
  rw [v327 K T (str_19 S) (by decide) (by decide), show pkL [108, 101, 115, 115, 111, 110] = 119182984441710 by decide +kernel]
theorem iw_course (K : TKf tp t s fu h) (T : TOK tp t s) (S : STS h) : Sp fz1 (d + 5) 327 [(3, 6603), (3, -2611)] h Q = Q (if tkK tp t s = 1 ∧ wdT tp t s = 109330362954597 then 1 else 0) h := by
  rw [v327 K T (str_20 S) (by decide) (by decide), show pkL [99, 111, 117, 114, 115, 101] = 109330362954597 by decide +kernel]
theorem iw_rule (K : TKf tp t s fu h) (T : TOK tp t s) (S : STS h) : Sp fz1 (d + 5) 327 [(3, 6603), (3, -2739)] h Q = Q (if tkK tp t s = 1 ∧ wdT tp t s = 1920298085 then 1 else 0) h := by
  rw [v327 K T (str_21 S) (by decide) (by decide), show pkL [114, 117, 108, 101] = 1920298085 by decide +kernel]
theorem iw_teacher (K : TKf tp t s fu h) (T : TOK tp t s) (S : STS h) : Sp fz1 (d + 5) 327 [(3, 6603), (3, -2867)] h Q = Q (if tkK tp t s = 1 ∧ wdT tp t s = 32762566252455282 then 1 else 0) h := by
  rw [v327 K T (str_22 S) (by decide) (by decide), show pkL [116, 101, 97, 99, 104, 101, 114] = 32762566252455282 by decide +kernel]
theorem iw_tutor (K : TKf tp t s fu h) (T : TOK tp t s) (S : STS h) : Sp fz1 (d + 5) 327 [(3, 6603), (3, -2995)] h Q = Q (if tkK tp t s = 1 ∧ wdT tp t s = 500186771314 then 1 else 0) h := by
  rw [v327 K T (str_23 S) (by decide) (by decide), show pkL [116, 117, 116, 111, 114] = 500186771314 by decide +kernel]
theorem iw_head (K : TKf tp t s fu h) (T : TOK tp t s) (S : STS h) : Sp fz1 (d + 5) 327 [(3, 6603), (3, -3123)] h Q = Q (if tkK tp t s = 1 ∧ wdT tp t s = 1751474532 then 1 else 0) h := by
  rw [v327 K T (str_24 S) (by decide) (by decide), show pkL [104, 101, 97, 100] = 1751474532 by decide +kernel]
theorem iw_if (K : TKf tp t s fu h) (T : TOK tp t s) (S : STS h) : Sp fz1 (d + 5) 327 [(3, 6603), (3, -3251)] h Q = Q (if tkK tp t s = 1 ∧ wdT tp t s = 26982 then 1 else 0) h := by
  rw [v327 K T (str_25 S) (by decide) (by decide), show pkL [105, 102] = 26982 by decide +kernel]
theorem iw_else (K : TKf tp t s fu h) (T : TOK tp t s) (S : STS h) : Sp fz1 (d + 5) 327 [(3, 6603), (3, -1459)] h Q = Q (if tkK tp t s = 1 ∧ wdT tp t s = 1701606245 then 1 else 0) h := by
  rw [v327 K T (str_11 S) (by decide) (by decide), show pkL [101, 108, 115, 101] = 1701606245 by decide +kernel]
theorem iw_for (K : TKf tp t s fu h) (T : TOK tp t s) (S : STS h) : Sp fz1 (d + 5) 327 [(3, 6603), (3, -3379)] h Q = Q (if tkK tp t s = 1 ∧ wdT tp t s = 6713202 then 1 else 0) h := by
  rw [v327 K T (str_26 S) (by decide) (by decide), show pkL [102, 111, 114] = 6713202 by decide +kernel]
theorem iw_to (K : TKf tp t s fu h) (T : TOK tp t s) (S : STS h) : Sp fz1 (d + 5) 327 [(3, 6603), (3, -1587)] h Q = Q (if tkK tp t s = 1 ∧ wdT tp t s = 29807 then 1 else 0) h := by
  rw [v327 K T (str_12 S) (by decide) (by decide), show pkL [116, 111] = 29807 by decide +kernel]
theorem iw_try (K : TKf tp t s fu h) (T : TOK tp t s) (S : STS h) : Sp fz1 (d + 5) 327 [(3, 6603), (3, -3507)] h Q = Q (if tkK tp t s = 1 ∧ wdT tp t s = 7631481 then 1 else 0) h := by
  rw [v327 K T (str_27 S) (by decide) (by decide), show pkL [116, 114, 121] = 7631481 by decide +kernel]
theorem iw_on (K : TKf tp t s fu h) (T : TOK tp t s) (S : STS h) : Sp fz1 (d + 5) 327 [(3, 6603), (3, -1715)] h Q = Q (if tkK tp t s = 1 ∧ wdT tp t s = 28526 then 1 else 0) h := by
  rw [v327 K T (str_13 S) (by decide) (by decide), show pkL [111, 110] = 28526 by decide +kernel]
theorem iw_always (K : TKf tp t s fu h) (T : TOK tp t s) (S : STS h) : Sp fz1 (d + 5) 327 [(3, 6603), (3, -1843)] h Q = Q (if tkK tp t s = 1 ∧ wdT tp t s = 107118487239027 then 1 else 0) h := by
  rw [v327 K T (str_14 S) (by decide) (by decide), show pkL [97, 108, 119, 97, 121, 115] = 107118487239027 by decide +kernel]
theorem iw_raise (K : TKf tp t s fu h) (T : TOK tp t s) (S : STS h) : Sp fz1 (d + 5) 327 [(3, 6603), (3, -3635)] h Q = Q (if tkK tp t s = 1 ∧ wdT tp t s = 491260572517 then 1 else 0) h := by
  rw [v327 K T (str_28 S) (by decide) (by decide), show pkL [114, 97, 105, 115, 101] = 491260572517 by decide +kernel]
theorem iw_give (K : TKf tp t s fu h) (T : TOK tp t s) (S : STS h) : Sp fz1 (d + 5) 327 [(3, 6603), (3, -3763)] h Q = Q (if tkK tp t s = 1 ∧ wdT tp t s = 1734964837 then 1 else 0) h := by
  rw [v327 K T (str_29 S) (by decide) (by decide), show pkL [103, 105, 118, 101] = 1734964837 by decide +kernel]
theorem iw_copy (K : TKf tp t s fu h) (T : TOK tp t s) (S : STS h) : Sp fz1 (d + 5) 327 [(3, 6603), (3, -3891)] h Q = Q (if tkK tp t s = 1 ∧ wdT tp t s = 1668247673 then 1 else 0) h := by
  rw [v327 K T (str_30 S) (by decide) (by decide), show pkL [99, 111, 112, 121] = 1668247673 by decide +kernel]
theorem iw_divide (K : TKf tp t s fu h) (T : TOK tp t s) (S : STS h) : Sp fz1 (d + 5) 327 [(3, 6603), (3, -4019)] h Q = Q (if tkK tp t s = 1 ∧ wdT tp t s = 110404120962149 then 1 else 0) h := by
  rw [v327 K T (str_31 S) (by decide) (by decide), show pkL [100, 105, 118, 105, 100, 101] = 110404120962149 by decide +kernel]
theorem iw_index (K : TKf tp t s fu h) (T : TOK tp t s) (S : STS h) : Sp fz1 (d + 5) 327 [(3, 6603), (3, -4147)] h Q = Q (if tkK tp t s = 1 ∧ wdT tp t s = 452823639416 then 1 else 0) h := by
  rw [v327 K T (str_32 S) (by decide) (by decide), show pkL [105, 110, 100, 101, 120] = 452823639416 by decide +kernel]
theorem iw_null (K : TKf tp t s fu h) (T : TOK tp t s) (S : STS h) : Sp fz1 (d + 5) 327 [(3, 6603), (3, -4275)] h Q = Q (if tkK tp t s = 1 ∧ wdT tp t s = 1853189228 then 1 else 0) h := by
  rw [v327 K T (str_33 S) (by decide) (by decide), show pkL [110, 117, 108, 108] = 1853189228 by decide +kernel]
theorem iw_cast (K : TKf tp t s fu h) (T : TOK tp t s) (S : STS h) : Sp fz1 (d + 5) 327 [(3, 6603), (3, -4403)] h Q = Q (if tkK tp t s = 1 ∧ wdT tp t s = 1667330932 then 1 else 0) h := by
  rw [v327 K T (str_34 S) (by decide) (by decide), show pkL [99, 97, 115, 116] = 1667330932 by decide +kernel]
theorem iw_size (K : TKf tp t s fu h) (T : TOK tp t s) (S : STS h) : Sp fz1 (d + 5) 327 [(3, 6603), (3, -4531)] h Q = Q (if tkK tp t s = 1 ∧ wdT tp t s = 1936292453 then 1 else 0) h := by
  rw [v327 K T (str_35 S) (by decide) (by decide), show pkL [115, 105, 122, 101] = 1936292453 by decide +kernel]
theorem iw_store (K : TKf tp t s fu h) (T : TOK tp t s) (S : STS h) : Sp fz1 (d + 5) 327 [(3, 6603), (3, -4659)] h Q = Q (if tkK tp t s = 1 ∧ wdT tp t s = 495874699877 then 1 else 0) h := by
  rw [v327 K T (str_36 S) (by decide) (by decide), show pkL [115, 116, 111, 114, 101] = 495874699877 by decide +kernel]
theorem iw_exact (K : TKf tp t s fu h) (T : TOK tp t s) (S : STS h) : Sp fz1 (d + 5) 327 [(3, 6603), (3, -4787)] h Q = Q (if tkK tp t s = 1 ∧ wdT tp t s = 435811345268 then 1 else 0) h := by
  rw [v327 K T (str_37 S) (by decide) (by decide), show pkL [101, 120, 97, 99, 116] = 435811345268 by decide +kernel]
theorem iw_none (K : TKf tp t s fu h) (T : TOK tp t s) (S : STS h) : Sp fz1 (d + 5) 327 [(3, 6603), (3, -1331)] h Q = Q (if tkK tp t s = 1 ∧ wdT tp t s = 1852796517 then 1 else 0) h := by
  rw [v327 K T (str_10 S) (by decide) (by decide), show pkL [110, 111, 110, 101] = 1852796517 by decide +kernel]
theorem iw_row (K : TKf tp t s fu h) (T : TOK tp t s) (S : STS h) : Sp fz1 (d + 5) 327 [(3, 6603), (3, -4915)] h Q = Q (if tkK tp t s = 1 ∧ wdT tp t s = 7499639 then 1 else 0) h := by
  rw [v327 K T (str_38 S) (by decide) (by decide), show pkL [114, 111, 119] = 7499639 by decide +kernel]
theorem iw_reals (K : TKf tp t s fu h) (T : TOK tp t s) (S : STS h) : Sp fz1 (d + 5) 327 [(3, 6603), (3, -5043)] h Q = Q (if tkK tp t s = 1 ∧ wdT tp t s = 491327155315 then 1 else 0) h := by
  rw [v327 K T (str_39 S) (by decide) (by decide), show pkL [114, 101, 97, 108, 115] = 491327155315 by decide +kernel]
theorem iw_people (K : TKf tp t s fu h) (T : TOK tp t s) (S : STS h) : Sp fz1 (d + 5) 327 [(3, 6603), (3, -5171)] h Q = Q (if tkK tp t s = 1 ∧ wdT tp t s = 123580963646565 then 1 else 0) h := by
  rw [v327 K T (str_40 S) (by decide) (by decide), show pkL [112, 101, 111, 112, 108, 101] = 123580963646565 by decide +kernel]
theorem iw_teachers (K : TKf tp t s fu h) (T : TOK tp t s) (S : STS h) : Sp fz1 (d + 5) 327 [(3, 6603), (3, -5299)] h Q = Q (if tkK tp t s = 1 ∧ wdT tp t s = 8387216960628552307 then 1 else 0) h := by
  rw [v327 K T (str_41 S) (by decide) (by decide), show pkL [116, 101, 97, 99, 104, 101, 114, 115] = 8387216960628552307 by decide +kernel]
theorem iw_whole (K : TKf tp t s fu h) (T : TOK tp t s) (S : STS h) : Sp fz1 (d + 5) 327 [(3, 6603), (3, -5427)] h Q = Q (if tkK tp t s = 1 ∧ wdT tp t s = 512853240933 then 1 else 0) h := by
  rw [v327 K T (str_42 S) (by decide) (by decide), show pkL [119, 104, 111, 108, 101] = 512853240933 by decide +kernel]
theorem iw_real (K : TKf tp t s fu h) (T : TOK tp t s) (S : STS h) : Sp fz1 (d + 5) 327 [(3, 6603), (3, -5555)] h Q = Q (if tkK tp t s = 1 ∧ wdT tp t s = 1919246700 then 1 else 0) h := by
  rw [v327 K T (str_43 S) (by decide) (by decide), show pkL [114, 101, 97, 108] = 1919246700 by decide +kernel]
theorem iw_lacks (K : TKf tp t s fu h) (T : TOK tp t s) (S : STS h) : Sp fz1 (d + 5) 327 [(3, 6603), (3, -5683)] h Q = Q (if tkK tp t s = 1 ∧ wdT tp t s = 465490373491 then 1 else 0) h := by
  rw [v327 K T (str_44 S) (by decide) (by decide), show pkL [108, 97, 99, 107, 115] = 465490373491 by decide +kernel]
theorem iw_person (K : TKf tp t s fu h) (T : TOK tp t s) (S : STS h) : Sp fz1 (d + 5) 327 [(3, 6603), (3, -5811)] h Q = Q (if tkK tp t s = 1 ∧ wdT tp t s = 123581014175598 then 1 else 0) h := by
  rw [v327 K T (str_45 S) (by decide) (by decide), show pkL [112, 101, 114, 115, 111, 110] = 123581014175598 by decide +kernel]
theorem iw_level (K : TKf tp t s fu h) (T : TOK tp t s) (S : STS h) : Sp fz1 (d + 5) 327 [(3, 6603), (3, -5939)] h Q = Q (if tkK tp t s = 1 ∧ wdT tp t s = 465558725996 then 1 else 0) h := by
  rw [v327 K T (str_46 S) (by decide) (by decide), show pkL [108, 101, 118, 101, 108] = 465558725996 by decide +kernel]
theorem iw_marks (K : TKf tp t s fu h) (T : TOK tp t s) (S : STS h) : Sp fz1 (d + 5) 327 [(3, 6603), (3, -6067)] h Q = Q (if tkK tp t s = 1 ∧ wdT tp t s = 469786323827 then 1 else 0) h := by
  rw [v327 K T (str_47 S) (by decide) (by decide), show pkL [109, 97, 114, 107, 115] = 469786323827 by decide +kernel]
theorem s329n_0 (K : TKf tp t s fu h) (T : TOK tp t s) (S : STS h) (a : tkK tp t s = 1) (c : ¬ wdT tp t s = 32498687873999732) : G fz1 (d + 6) 329 2 [(3, 6603), (0, 0)] [] h Q = G fz1 (d + 6) 329 2 [(3, 6603), (0, 1)] [] h Q := by
  have W : ∀ Q : Int → HV → Prop, Sp fz1 (d + 5) 327 [(3, 6603), (3, -1971)] h Q = Q 0 h := fun Q => by rw [iw_subject K T S, if_neg (fun w => c w.2)]
  rw [q329_2]
  simp (implicitDefEqProofs := false) (disch := omega) only [b329_2, b329_3, b329_4, q329_3, q329_4, x_aaload, x_alen, x_aload0, y_call327, x_freturn, x_gc_11355, x_goto_2, x_iconst, x_ifCond_eq_3, x_if_icmp_ge_4, x_iinc1, x_iload1, klp_0, klp_1, klp_2, klp_3, klp_9, KC_0, KC_1, KC_2, KC_3, KC_4, ne_eq, not_false_eq_true, not_true_eq_false, true_and, and_true, and_self, implies_true, eq_self, true_imp_iff, false_implies, Int.reduceEq, Int.reduceNe, Int.reduceMod, Int.reduceMul, Int.reduceAdd, Int.reduceSub, Int.reduceLT, Int.reduceLE, Nat.reduceAdd, Nat.reduceLeDiff, Nat.reduceLT, Nat.reduceSub, reduceIte, wds_n, wds_0, wds_1, wds_2, wds_3, or_true, true_or, or_false, false_or, or_self, false_and, and_false, d_pos, d_s1, d_s2, d_s3, d_s4, d_s5, d_s6, d_s7, d_s8, Classical.not_not, z6603_11, z9446_l, z9446_0, W, c, le_sub1, le_T, le_F, lt_T, lt_F, eq_F, w32_T, bz0, bz1, lc_le, lc_ge, lc_lt, lc_gt, lc_eq]
theorem s329y_0 (K : TKf tp t s fu h) (T : TOK tp t s) (S : STS h) (a : tkK tp t s = 1) (c : wdT tp t s = 32498687873999732) : G fz1 (d + 6) 329 2 [(3, 6603), (0, 0)] [] h Q = Q 0 h := by
  have W : ∀ Q : Int → HV → Prop, Sp fz1 (d + 5) 327 [(3, 6603), (3, -1971)] h Q = Q 1 h := fun Q => by rw [iw_subject K T S, if_pos ⟨a, c⟩]
  rw [q329_2]
  simp (implicitDefEqProofs := false) (disch := omega) only [b329_2, b329_3, b329_4, q329_3, q329_4, x_aaload, x_alen, x_aload0, y_call327, x_freturn, x_gc_11355, x_goto_2, x_iconst, x_ifCond_eq_3, x_if_icmp_ge_4, x_iinc1, x_iload1, klp_0, klp_1, klp_2, klp_3, klp_9, KC_0, KC_1, KC_2, KC_3, KC_4, ne_eq, not_false_eq_true, not_true_eq_false, true_and, and_true, and_self, implies_true, eq_self, true_imp_iff, false_implies, Int.reduceEq, Int.reduceNe, Int.reduceMod, Int.reduceMul, Int.reduceAdd, Int.reduceSub, Int.reduceLT, Int.reduceLE, Nat.reduceAdd, Nat.reduceLeDiff, Nat.reduceLT, Nat.reduceSub, reduceIte, wds_n, wds_0, wds_1, wds_2, wds_3, or_true, true_or, or_false, false_or, or_self, false_and, and_false, d_pos, d_s1, d_s2, d_s3, d_s4, d_s5, d_s6, d_s7, d_s8, Classical.not_not, z6603_11, z9446_l, z9446_0, W, c, le_sub1, le_T, le_F, lt_T, lt_F, eq_F, w32_T, bz0, bz1, lc_le, lc_ge, lc_lt, lc_gt, lc_eq]
theorem s329n_1 (K : TKf tp t s fu h) (T : TOK tp t s) (S : STS h) (a : tkK tp t s = 1) (c : ¬ wdT tp t s = 1919905645) : G fz1 (d + 6) 329 2 [(3, 6603), (0, 1)] [] h Q = G fz1 (d + 6) 329 2 [(3, 6603), (0, 2)] [] h Q := by
  have W : ∀ Q : Int → HV → Prop, Sp fz1 (d + 5) 327 [(3, 6603), (3, -2099)] h Q = Q 0 h := fun Q => by rw [iw_room K T S, if_neg (fun w => c w.2)]
  rw [q329_2]
  simp (implicitDefEqProofs := false) (disch := omega) only [b329_2, b329_3, b329_4, q329_3, q329_4, x_aaload, x_alen, x_aload0, y_call327, x_freturn, x_gc_11355, x_goto_2, x_iconst, x_ifCond_eq_3, x_if_icmp_ge_4, x_iinc1, x_iload1, klp_0, klp_1, klp_2, klp_3, klp_9, KC_0, KC_1, KC_2, KC_3, KC_4, ne_eq, not_false_eq_true, not_true_eq_false, true_and, and_true, and_self, implies_true, eq_self, true_imp_iff, false_implies, Int.reduceEq, Int.reduceNe, Int.reduceMod, Int.reduceMul, Int.reduceAdd, Int.reduceSub, Int.reduceLT, Int.reduceLE, Nat.reduceAdd, Nat.reduceLeDiff, Nat.reduceLT, Nat.reduceSub, reduceIte, wds_n, wds_0, wds_1, wds_2, wds_3, or_true, true_or, or_false, false_or, or_self, false_and, and_false, d_pos, d_s1, d_s2, d_s3, d_s4, d_s5, d_s6, d_s7, d_s8, Classical.not_not, z6603_11, z9446_l, z9446_1, W, c, le_sub1, le_T, le_F, lt_T, lt_F, eq_F, w32_T, bz0, bz1, lc_le, lc_ge, lc_lt, lc_gt, lc_eq]
theorem s329y_1 (K : TKf tp t s fu h) (T : TOK tp t s) (S : STS h) (a : tkK tp t s = 1) (c : wdT tp t s = 1919905645) : G fz1 (d + 6) 329 2 [(3, 6603), (0, 1)] [] h Q = Q 0 h := by
  have W : ∀ Q : Int → HV → Prop, Sp fz1 (d + 5) 327 [(3, 6603), (3, -2099)] h Q = Q 1 h := fun Q => by rw [iw_room K T S, if_pos ⟨a, c⟩]
  rw [q329_2]
  simp (implicitDefEqProofs := false) (disch := omega) only [b329_2, b329_3, b329_4, q329_3, q329_4, x_aaload, x_alen, x_aload0, y_call327, x_freturn, x_gc_11355, x_goto_2, x_iconst, x_ifCond_eq_3, x_if_icmp_ge_4, x_iinc1, x_iload1, klp_0, klp_1, klp_2, klp_3, klp_9, KC_0, KC_1, KC_2, KC_3, KC_4, ne_eq, not_false_eq_true, not_true_eq_false, true_and, and_true, and_self, implies_true, eq_self, true_imp_iff, false_implies, Int.reduceEq, Int.reduceNe, Int.reduceMod, Int.reduceMul, Int.reduceAdd, Int.reduceSub, Int.reduceLT, Int.reduceLE, Nat.reduceAdd, Nat.reduceLeDiff, Nat.reduceLT, Nat.reduceSub, reduceIte, wds_n, wds_0, wds_1, wds_2, wds_3, or_true, true_or, or_false, false_or, or_self, false_and, and_false, d_pos, d_s1, d_s2, d_s3, d_s4, d_s5, d_s6, d_s7, d_s8, Classical.not_not, z6603_11, z9446_l, z9446_1, W, c, le_sub1, le_T, le_F, lt_T, lt_F, eq_F, w32_T, bz0, bz1, lc_le, lc_ge, lc_lt, lc_gt, lc_eq]
theorem s329n_2 (K : TKf tp t s fu h) (T : TOK tp t s) (S : STS h) (a : tkK tp t s = 1) (c : ¬ wdT tp t s = 495873779302) : G fz1 (d + 6) 329 2 [(3, 6603), (0, 2)] [] h Q = G fz1 (d + 6) 329 2 [(3, 6603), (0, 3)] [] h Q := by
  have W : ∀ Q : Int → HV → Prop, Sp fz1 (d + 5) 327 [(3, 6603), (3, -2227)] h Q = Q 0 h := fun Q => by rw [iw_staff K T S, if_neg (fun w => c w.2)]
  rw [q329_2]
  simp (implicitDefEqProofs := false) (disch := omega) only [b329_2, b329_3, b329_4, q329_3, q329_4, x_aaload, x_alen, x_aload0, y_call327, x_freturn, x_gc_11355, x_goto_2, x_iconst, x_ifCond_eq_3, x_if_icmp_ge_4, x_iinc1, x_iload1, klp_0, klp_1, klp_2, klp_3, klp_9, KC_0, KC_1, KC_2, KC_3, KC_4, ne_eq, not_false_eq_true, not_true_eq_false, true_and, and_true, and_self, implies_true, eq_self, true_imp_iff, false_implies, Int.reduceEq, Int.reduceNe, Int.reduceMod, Int.reduceMul, Int.reduceAdd, Int.reduceSub, Int.reduceLT, Int.reduceLE, Nat.reduceAdd, Nat.reduceLeDiff, Nat.reduceLT, Nat.reduceSub, reduceIte, wds_n, wds_0, wds_1, wds_2, wds_3, or_true, true_or, or_false, false_or, or_self, false_and, and_false, d_pos, d_s1, d_s2, d_s3, d_s4, d_s5, d_s6, d_s7, d_s8, Classical.not_not, z6603_11, z9446_l, z9446_2, W, c, le_sub1, le_T, le_F, lt_T, lt_F, eq_F, w32_T, bz0, bz1, lc_le, lc_ge, lc_lt, lc_gt, lc_eq]
theorem s329y_2 (K : TKf tp t s fu h) (T : TOK tp t s) (S : STS h) (a : tkK tp t s = 1) (c : wdT tp t s = 495873779302) : G fz1 (d + 6) 329 2 [(3, 6603), (0, 2)] [] h Q = Q 0 h := by
  have W : ∀ Q : Int → HV → Prop, Sp fz1 (d + 5) 327 [(3, 6603), (3, -2227)] h Q = Q 1 h := fun Q => by rw [iw_staff K T S, if_pos ⟨a, c⟩]
  rw [q329_2]
  simp (implicitDefEqProofs := false) (disch := omega) only [b329_2, b329_3, b329_4, q329_3, q329_4, x_aaload, x_alen, x_aload0, y_call327, x_freturn, x_gc_11355, x_goto_2, x_iconst, x_ifCond_eq_3, x_if_icmp_ge_4, x_iinc1, x_iload1, klp_0, klp_1, klp_2, klp_3, klp_9, KC_0, KC_1, KC_2, KC_3, KC_4, ne_eq, not_false_eq_true, not_true_eq_false, true_and, and_true, and_self, implies_true, eq_self, true_imp_iff, false_implies, Int.reduceEq, Int.reduceNe, Int.reduceMod, Int.reduceMul, Int.reduceAdd, Int.reduceSub, Int.reduceLT, Int.reduceLE, Nat.reduceAdd, Nat.reduceLeDiff, Nat.reduceLT, Nat.reduceSub, reduceIte, wds_n, wds_0, wds_1, wds_2, wds_3, or_true, true_or, or_false, false_or, or_self, false_and, and_false, d_pos, d_s1, d_s2, d_s3, d_s4, d_s5, d_s6, d_s7, d_s8, Classical.not_not, z6603_11, z9446_l, z9446_2, W, c, le_sub1, le_T, le_F, lt_T, lt_F, eq_F, w32_T, bz0, bz1, lc_le, lc_ge, lc_lt, lc_gt, lc_eq]
theorem s329n_3 (K : TKf tp t s fu h) (T : TOK tp t s) (S : STS h) (a : tkK tp t s = 1) (c : ¬ wdT tp t s = 444301538672) : G fz1 (d + 6) 329 2 [(3, 6603), (0, 3)] [] h Q = G fz1 (d + 6) 329 2 [(3, 6603), (0, 4)] [] h Q := by
  have W : ∀ Q : Int → HV → Prop, Sp fz1 (d + 5) 327 [(3, 6603), (3, -2355)] h Q = Q 0 h := fun Q => by rw [iw_group K T S, if_neg (fun w => c w.2)]
  rw [q329_2]
  simp (implicitDefEqProofs := false) (disch := omega) only [b329_2, b329_3, b329_4, q329_3, q329_4, x_aaload, x_alen, x_aload0, y_call327, x_freturn, x_gc_11355, x_goto_2, x_iconst, x_ifCond_eq_3, x_if_icmp_ge_4, x_iinc1, x_iload1, klp_0, klp_1, klp_2, klp_3, klp_9, KC_0, KC_1, KC_2, KC_3, KC_4, ne_eq, not_false_eq_true, not_true_eq_false, true_and, and_true, and_self, implies_true, eq_self, true_imp_iff, false_implies, Int.reduceEq, Int.reduceNe, Int.reduceMod, Int.reduceMul, Int.reduceAdd, Int.reduceSub, Int.reduceLT, Int.reduceLE, Nat.reduceAdd, Nat.reduceLeDiff, Nat.reduceLT, Nat.reduceSub, reduceIte, wds_n, wds_0, wds_1, wds_2, wds_3, or_true, true_or, or_false, false_or, or_self, false_and, and_false, d_pos, d_s1, d_s2, d_s3, d_s4, d_s5, d_s6, d_s7, d_s8, Classical.not_not, z6603_11, z9446_l, z9446_3, W, c, le_sub1, le_T, le_F, lt_T, lt_F, eq_F, w32_T, bz0, bz1, lc_le, lc_ge, lc_lt, lc_gt, lc_eq]
theorem s329y_3 (K : TKf tp t s fu h) (T : TOK tp t s) (S : STS h) (a : tkK tp t s = 1) (c : wdT tp t s = 444301538672) : G fz1 (d + 6) 329 2 [(3, 6603), (0, 3)] [] h Q = Q 0 h := by
  have W : ∀ Q : Int → HV → Prop, Sp fz1 (d + 5) 327 [(3, 6603), (3, -2355)] h Q = Q 1 h := fun Q => by rw [iw_group K T S, if_pos ⟨a, c⟩]
  rw [q329_2]
  simp (implicitDefEqProofs := false) (disch := omega) only [b329_2, b329_3, b329_4, q329_3, q329_4, x_aaload, x_alen, x_aload0, y_call327, x_freturn, x_gc_11355, x_goto_2, x_iconst, x_ifCond_eq_3, x_if_icmp_ge_4, x_iinc1, x_iload1, klp_0, klp_1, klp_2, klp_3, klp_9, KC_0, KC_1, KC_2, KC_3, KC_4, ne_eq, not_false_eq_true, not_true_eq_false, true_and, and_true, and_self, implies_true, eq_self, true_imp_iff, false_implies, Int.reduceEq, Int.reduceNe, Int.reduceMod, Int.reduceMul, Int.reduceAdd, Int.reduceSub, Int.reduceLT, Int.reduceLE, Nat.reduceAdd, Nat.reduceLeDiff, Nat.reduceLT, Nat.reduceSub, reduceIte, wds_n, wds_0, wds_1, wds_2, wds_3, or_true, true_or, or_false, false_or, or_self, false_and, and_false, d_pos, d_s1, d_s2, d_s3, d_s4, d_s5, d_s6, d_s7, d_s8, Classical.not_not, z6603_11, z9446_l, z9446_3, W, c, le_sub1, le_T, le_F, lt_T, lt_F, eq_F, w32_T, bz0, bz1, lc_le, lc_ge, lc_lt, lc_gt, lc_eq]
theorem s329n_4 (K : TKf tp t s fu h) (T : TOK tp t s) (S : STS h) (a : tkK tp t s = 1) (c : ¬ wdT tp t s = 119182984441710) : G fz1 (d + 6) 329 2 [(3, 6603), (0, 4)] [] h Q = G fz1 (d + 6) 329 2 [(3, 6603), (0, 5)] [] h Q := by
  have W : ∀ Q : Int → HV → Prop, Sp fz1 (d + 5) 327 [(3, 6603), (3, -2483)] h Q = Q 0 h := fun Q => by rw [iw_lesson K T S, if_neg (fun w => c w.2)]
  rw [q329_2]
  simp (implicitDefEqProofs := false) (disch := omega) only [b329_2, b329_3, b329_4, q329_3, q329_4, x_aaload, x_alen, x_aload0, y_call327, x_freturn, x_gc_11355, x_goto_2, x_iconst, x_ifCond_eq_3, x_if_icmp_ge_4, x_iinc1, x_iload1, klp_0, klp_1, klp_2, klp_3, klp_9, KC_0, KC_1, KC_2, KC_3, KC_4, ne_eq, not_false_eq_true, not_true_eq_false, true_and, and_true, and_self, implies_true, eq_self, true_imp_iff, false_implies, Int.reduceEq, Int.reduceNe, Int.reduceMod, Int.reduceMul, Int.reduceAdd, Int.reduceSub, Int.reduceLT, Int.reduceLE, Nat.reduceAdd, Nat.reduceLeDiff, Nat.reduceLT, Nat.reduceSub, reduceIte, wds_n, wds_0, wds_1, wds_2, wds_3, or_true, true_or, or_false, false_or, or_self, false_and, and_false, d_pos, d_s1, d_s2, d_s3, d_s4, d_s5, d_s6, d_s7, d_s8, Classical.not_not, z6603_11, z9446_l, z9446_4, W, c, le_sub1, le_T, le_F, lt_T, lt_F, eq_F, w32_T, bz0, bz1, lc_le, lc_ge, lc_lt, lc_gt, lc_eq]
theorem s329y_4 (K : TKf tp t s fu h) (T : TOK tp t s) (S : STS h) (a : tkK tp t s = 1) (c : wdT tp t s = 119182984441710) : G fz1 (d + 6) 329 2 [(3, 6603), (0, 4)] [] h Q = Q 0 h := by
  have W : ∀ Q : Int → HV → Prop, Sp fz1 (d + 5) 327 [(3, 6603), (3, -2483)] h Q = Q 1 h := fun Q => by rw [iw_lesson K T S, if_pos ⟨a, c⟩]
  rw [q329_2]
  simp (implicitDefEqProofs := false) (disch := omega) only [b329_2, b329_3, b329_4, q329_3, q329_4, x_aaload, x_alen, x_aload0, y_call327, x_freturn, x_gc_11355, x_goto_2, x_iconst, x_ifCond_eq_3, x_if_icmp_ge_4, x_iinc1, x_iload1, klp_0, klp_1, klp_2, klp_3, klp_9, KC_0, KC_1, KC_2, KC_3, KC_4, ne_eq, not_false_eq_true, not_true_eq_false, true_and, and_true, and_self, implies_true, eq_self, true_imp_iff, false_implies, Int.reduceEq, Int.reduceNe, Int.reduceMod, Int.reduceMul, Int.reduceAdd, Int.reduceSub, Int.reduceLT, Int.reduceLE, Nat.reduceAdd, Nat.reduceLeDiff, Nat.reduceLT, Nat.reduceSub, reduceIte, wds_n, wds_0, wds_1, wds_2, wds_3, or_true, true_or, or_false, false_or, or_self, false_and, and_false, d_pos, d_s1, d_s2, d_s3, d_s4, d_s5, d_s6, d_s7, d_s8, Classical.not_not, z6603_11, z9446_l, z9446_4, W, c, le_sub1, le_T, le_F, lt_T, lt_F, eq_F, w32_T, bz0, bz1, lc_le, lc_ge, lc_lt, lc_gt, lc_eq]
theorem s329n_5 (K : TKf tp t s fu h) (T : TOK tp t s) (S : STS h) (a : tkK tp t s = 1) (c : ¬ wdT tp t s = 109330362954597) : G fz1 (d + 6) 329 2 [(3, 6603), (0, 5)] [] h Q = G fz1 (d + 6) 329 2 [(3, 6603), (0, 6)] [] h Q := by
  have W : ∀ Q : Int → HV → Prop, Sp fz1 (d + 5) 327 [(3, 6603), (3, -2611)] h Q = Q 0 h := fun Q => by rw [iw_course K T S, if_neg (fun w => c w.2)]
  rw [q329_2]
  simp (implicitDefEqProofs := false) (disch := omega) only [b329_2, b329_3, b329_4, q329_3, q329_4, x_aaload, x_alen, x_aload0, y_call327, x_freturn, x_gc_11355, x_goto_2, x_iconst, x_ifCond_eq_3, x_if_icmp_ge_4, x_iinc1, x_iload1, klp_0, klp_1, klp_2, klp_3, klp_9, KC_0, KC_1, KC_2, KC_3, KC_4, ne_eq, not_false_eq_true, not_true_eq_false, true_and, and_true, and_self, implies_true, eq_self, true_imp_iff, false_implies, Int.reduceEq, Int.reduceNe, Int.reduceMod, Int.reduceMul, Int.reduceAdd, Int.reduceSub, Int.reduceLT, Int.reduceLE, Nat.reduceAdd, Nat.reduceLeDiff, Nat.reduceLT, Nat.reduceSub, reduceIte, wds_n, wds_0, wds_1, wds_2, wds_3, or_true, true_or, or_false, false_or, or_self, false_and, and_false, d_pos, d_s1, d_s2, d_s3, d_s4, d_s5, d_s6, d_s7, d_s8, Classical.not_not, z6603_11, z9446_l, z9446_5, W, c, le_sub1, le_T, le_F, lt_T, lt_F, eq_F, w32_T, bz0, bz1, lc_le, lc_ge, lc_lt, lc_gt, lc_eq]
theorem s329y_5 (K : TKf tp t s fu h) (T : TOK tp t s) (S : STS h) (a : tkK tp t s = 1) (c : wdT tp t s = 109330362954597) : G fz1 (d + 6) 329 2 [(3, 6603), (0, 5)] [] h Q = Q 0 h := by
  have W : ∀ Q : Int → HV → Prop, Sp fz1 (d + 5) 327 [(3, 6603), (3, -2611)] h Q = Q 1 h := fun Q => by rw [iw_course K T S, if_pos ⟨a, c⟩]
  rw [q329_2]
  simp (implicitDefEqProofs := false) (disch := omega) only [b329_2, b329_3, b329_4, q329_3, q329_4, x_aaload, x_alen, x_aload0, y_call327, x_freturn, x_gc_11355, x_goto_2, x_iconst, x_ifCond_eq_3, x_if_icmp_ge_4, x_iinc1, x_iload1, klp_0, klp_1, klp_2, klp_3, klp_9, KC_0, KC_1, KC_2, KC_3, KC_4, ne_eq, not_false_eq_true, not_true_eq_false, true_and, and_true, and_self, implies_true, eq_self, true_imp_iff, false_implies, Int.reduceEq, Int.reduceNe, Int.reduceMod, Int.reduceMul, Int.reduceAdd, Int.reduceSub, Int.reduceLT, Int.reduceLE, Nat.reduceAdd, Nat.reduceLeDiff, Nat.reduceLT, Nat.reduceSub, reduceIte, wds_n, wds_0, wds_1, wds_2, wds_3, or_true, true_or, or_false, false_or, or_self, false_and, and_false, d_pos, d_s1, d_s2, d_s3, d_s4, d_s5, d_s6, d_s7, d_s8, Classical.not_not, z6603_11, z9446_l, z9446_5, W, c, le_sub1, le_T, le_F, lt_T, lt_F, eq_F, w32_T, bz0, bz1, lc_le, lc_ge, lc_lt, lc_gt, lc_eq]
theorem s329n_6 (K : TKf tp t s fu h) (T : TOK tp t s) (S : STS h) (a : tkK tp t s = 1) (c : ¬ wdT tp t s = 1920298085) : G fz1 (d + 6) 329 2 [(3, 6603), (0, 6)] [] h Q = G fz1 (d + 6) 329 2 [(3, 6603), (0, 7)] [] h Q := by
  have W : ∀ Q : Int → HV → Prop, Sp fz1 (d + 5) 327 [(3, 6603), (3, -2739)] h Q = Q 0 h := fun Q => by rw [iw_rule K T S, if_neg (fun w => c w.2)]
  rw [q329_2]
  simp (implicitDefEqProofs := false) (disch := omega) only [b329_2, b329_3, b329_4, q329_3, q329_4, x_aaload, x_alen, x_aload0, y_call327, x_freturn, x_gc_11355, x_goto_2, x_iconst, x_ifCond_eq_3, x_if_icmp_ge_4, x_iinc1, x_iload1, klp_0, klp_1, klp_2, klp_3, klp_9, KC_0, KC_1, KC_2, KC_3, KC_4, ne_eq, not_false_eq_true, not_true_eq_false, true_and, and_true, and_self, implies_true, eq_self, true_imp_iff, false_implies, Int.reduceEq, Int.reduceNe, Int.reduceMod, Int.reduceMul, Int.reduceAdd, Int.reduceSub, Int.reduceLT, Int.reduceLE, Nat.reduceAdd, Nat.reduceLeDiff, Nat.reduceLT, Nat.reduceSub, reduceIte, wds_n, wds_0, wds_1, wds_2, wds_3, or_true, true_or, or_false, false_or, or_self, false_and, and_false, d_pos, d_s1, d_s2, d_s3, d_s4, d_s5, d_s6, d_s7, d_s8, Classical.not_not, z6603_11, z9446_l, z9446_6, W, c, le_sub1, le_T, le_F, lt_T, lt_F, eq_F, w32_T, bz0, bz1, lc_le, lc_ge, lc_lt, lc_gt, lc_eq]
theorem s329y_6 (K : TKf tp t s fu h) (T : TOK tp t s) (S : STS h) (a : tkK tp t s = 1) (c : wdT tp t s = 1920298085) : G fz1 (d + 6) 329 2 [(3, 6603), (0, 6)] [] h Q = Q 0 h := by
  have W : ∀ Q : Int → HV → Prop, Sp fz1 (d + 5) 327 [(3, 6603), (3, -2739)] h Q = Q 1 h := fun Q => by rw [iw_rule K T S, if_pos ⟨a, c⟩]
  rw [q329_2]
  simp (implicitDefEqProofs := false) (disch := omega) only [b329_2, b329_3, b329_4, q329_3, q329_4, x_aaload, x_alen, x_aload0, y_call327, x_freturn, x_gc_11355, x_goto_2, x_iconst, x_ifCond_eq_3, x_if_icmp_ge_4, x_iinc1, x_iload1, klp_0, klp_1, klp_2, klp_3, klp_9, KC_0, KC_1, KC_2, KC_3, KC_4, ne_eq, not_false_eq_true, not_true_eq_false, true_and, and_true, and_self, implies_true, eq_self, true_imp_iff, false_implies, Int.reduceEq, Int.reduceNe, Int.reduceMod, Int.reduceMul, Int.reduceAdd, Int.reduceSub, Int.reduceLT, Int.reduceLE, Nat.reduceAdd, Nat.reduceLeDiff, Nat.reduceLT, Nat.reduceSub, reduceIte, wds_n, wds_0, wds_1, wds_2, wds_3, or_true, true_or, or_false, false_or, or_self, false_and, and_false, d_pos, d_s1, d_s2, d_s3, d_s4, d_s5, d_s6, d_s7, d_s8, Classical.not_not, z6603_11, z9446_l, z9446_6, W, c, le_sub1, le_T, le_F, lt_T, lt_F, eq_F, w32_T, bz0, bz1, lc_le, lc_ge, lc_lt, lc_gt, lc_eq]
theorem s329n_7 (K : TKf tp t s fu h) (T : TOK tp t s) (S : STS h) (a : tkK tp t s = 1) (c : ¬ wdT tp t s = 32762566252455282) : G fz1 (d + 6) 329 2 [(3, 6603), (0, 7)] [] h Q = G fz1 (d + 6) 329 2 [(3, 6603), (0, 8)] [] h Q := by
  have W : ∀ Q : Int → HV → Prop, Sp fz1 (d + 5) 327 [(3, 6603), (3, -2867)] h Q = Q 0 h := fun Q => by rw [iw_teacher K T S, if_neg (fun w => c w.2)]
  rw [q329_2]
  simp (implicitDefEqProofs := false) (disch := omega) only [b329_2, b329_3, b329_4, q329_3, q329_4, x_aaload, x_alen, x_aload0, y_call327, x_freturn, x_gc_11355, x_goto_2, x_iconst, x_ifCond_eq_3, x_if_icmp_ge_4, x_iinc1, x_iload1, klp_0, klp_1, klp_2, klp_3, klp_9, KC_0, KC_1, KC_2, KC_3, KC_4, ne_eq, not_false_eq_true, not_true_eq_false, true_and, and_true, and_self, implies_true, eq_self, true_imp_iff, false_implies, Int.reduceEq, Int.reduceNe, Int.reduceMod, Int.reduceMul, Int.reduceAdd, Int.reduceSub, Int.reduceLT, Int.reduceLE, Nat.reduceAdd, Nat.reduceLeDiff, Nat.reduceLT, Nat.reduceSub, reduceIte, wds_n, wds_0, wds_1, wds_2, wds_3, or_true, true_or, or_false, false_or, or_self, false_and, and_false, d_pos, d_s1, d_s2, d_s3, d_s4, d_s5, d_s6, d_s7, d_s8, Classical.not_not, z6603_11, z9446_l, z9446_7, W, c, le_sub1, le_T, le_F, lt_T, lt_F, eq_F, w32_T, bz0, bz1, lc_le, lc_ge, lc_lt, lc_gt, lc_eq]
theorem s329y_7 (K : TKf tp t s fu h) (T : TOK tp t s) (S : STS h) (a : tkK tp t s = 1) (c : wdT tp t s = 32762566252455282) : G fz1 (d + 6) 329 2 [(3, 6603), (0, 7)] [] h Q = Q 0 h := by
  have W : ∀ Q : Int → HV → Prop, Sp fz1 (d + 5) 327 [(3, 6603), (3, -2867)] h Q = Q 1 h := fun Q => by rw [iw_teacher K T S, if_pos ⟨a, c⟩]
  rw [q329_2]
  simp (implicitDefEqProofs := false) (disch := omega) only [b329_2, b329_3, b329_4, q329_3, q329_4, x_aaload, x_alen, x_aload0, y_call327, x_freturn, x_gc_11355, x_goto_2, x_iconst, x_ifCond_eq_3, x_if_icmp_ge_4, x_iinc1, x_iload1, klp_0, klp_1, klp_2, klp_3, klp_9, KC_0, KC_1, KC_2, KC_3, KC_4, ne_eq, not_false_eq_true, not_true_eq_false, true_and, and_true, and_self, implies_true, eq_self, true_imp_iff, false_implies, Int.reduceEq, Int.reduceNe, Int.reduceMod, Int.reduceMul, Int.reduceAdd, Int.reduceSub, Int.reduceLT, Int.reduceLE, Nat.reduceAdd, Nat.reduceLeDiff, Nat.reduceLT, Nat.reduceSub, reduceIte, wds_n, wds_0, wds_1, wds_2, wds_3, or_true, true_or, or_false, false_or, or_self, false_and, and_false, d_pos, d_s1, d_s2, d_s3, d_s4, d_s5, d_s6, d_s7, d_s8, Classical.not_not, z6603_11, z9446_l, z9446_7, W, c, le_sub1, le_T, le_F, lt_T, lt_F, eq_F, w32_T, bz0, bz1, lc_le, lc_ge, lc_lt, lc_gt, lc_eq]
theorem s329n_8 (K : TKf tp t s fu h) (T : TOK tp t s) (S : STS h) (a : tkK tp t s = 1) (c : ¬ wdT tp t s = 500186771314) : G fz1 (d + 6) 329 2 [(3, 6603), (0, 8)] [] h Q = G fz1 (d + 6) 329 2 [(3, 6603), (0, 9)] [] h Q := by
  have W : ∀ Q : Int → HV → Prop, Sp fz1 (d + 5) 327 [(3, 6603), (3, -2995)] h Q = Q 0 h := fun Q => by rw [iw_tutor K T S, if_neg (fun w => c w.2)]
  rw [q329_2]
  simp (implicitDefEqProofs := false) (disch := omega) only [b329_2, b329_3, b329_4, q329_3, q329_4, x_aaload, x_alen, x_aload0, y_call327, x_freturn, x_gc_11355, x_goto_2, x_iconst, x_ifCond_eq_3, x_if_icmp_ge_4, x_iinc1, x_iload1, klp_0, klp_1, klp_2, klp_3, klp_9, KC_0, KC_1, KC_2, KC_3, KC_4, ne_eq, not_false_eq_true, not_true_eq_false, true_and, and_true, and_self, implies_true, eq_self, true_imp_iff, false_implies, Int.reduceEq, Int.reduceNe, Int.reduceMod, Int.reduceMul, Int.reduceAdd, Int.reduceSub, Int.reduceLT, Int.reduceLE, Nat.reduceAdd, Nat.reduceLeDiff, Nat.reduceLT, Nat.reduceSub, reduceIte, wds_n, wds_0, wds_1, wds_2, wds_3, or_true, true_or, or_false, false_or, or_self, false_and, and_false, d_pos, d_s1, d_s2, d_s3, d_s4, d_s5, d_s6, d_s7, d_s8, Classical.not_not, z6603_11, z9446_l, z9446_8, W, c, le_sub1, le_T, le_F, lt_T, lt_F, eq_F, w32_T, bz0, bz1, lc_le, lc_ge, lc_lt, lc_gt, lc_eq]
theorem s329y_8 (K : TKf tp t s fu h) (T : TOK tp t s) (S : STS h) (a : tkK tp t s = 1) (c : wdT tp t s = 500186771314) : G fz1 (d + 6) 329 2 [(3, 6603), (0, 8)] [] h Q = Q 0 h := by
  have W : ∀ Q : Int → HV → Prop, Sp fz1 (d + 5) 327 [(3, 6603), (3, -2995)] h Q = Q 1 h := fun Q => by rw [iw_tutor K T S, if_pos ⟨a, c⟩]
  rw [q329_2]
  simp (implicitDefEqProofs := false) (disch := omega) only [b329_2, b329_3, b329_4, q329_3, q329_4, x_aaload, x_alen, x_aload0, y_call327, x_freturn, x_gc_11355, x_goto_2, x_iconst, x_ifCond_eq_3, x_if_icmp_ge_4, x_iinc1, x_iload1, klp_0, klp_1, klp_2, klp_3, klp_9, KC_0, KC_1, KC_2, KC_3, KC_4, ne_eq, not_false_eq_true, not_true_eq_false, true_and, and_true, and_self, implies_true, eq_self, true_imp_iff, false_implies, Int.reduceEq, Int.reduceNe, Int.reduceMod, Int.reduceMul, Int.reduceAdd, Int.reduceSub, Int.reduceLT, Int.reduceLE, Nat.reduceAdd, Nat.reduceLeDiff, Nat.reduceLT, Nat.reduceSub, reduceIte, wds_n, wds_0, wds_1, wds_2, wds_3, or_true, true_or, or_false, false_or, or_self, false_and, and_false, d_pos, d_s1, d_s2, d_s3, d_s4, d_s5, d_s6, d_s7, d_s8, Classical.not_not, z6603_11, z9446_l, z9446_8, W, c, le_sub1, le_T, le_F, lt_T, lt_F, eq_F, w32_T, bz0, bz1, lc_le, lc_ge, lc_lt, lc_gt, lc_eq]
theorem s329n_9 (K : TKf tp t s fu h) (T : TOK tp t s) (S : STS h) (a : tkK tp t s = 1) (c : ¬ wdT tp t s = 1751474532) : G fz1 (d + 6) 329 2 [(3, 6603), (0, 9)] [] h Q = G fz1 (d + 6) 329 2 [(3, 6603), (0, 10)] [] h Q := by
  have W : ∀ Q : Int → HV → Prop, Sp fz1 (d + 5) 327 [(3, 6603), (3, -3123)] h Q = Q 0 h := fun Q => by rw [iw_head K T S, if_neg (fun w => c w.2)]
  rw [q329_2]
  simp (implicitDefEqProofs := false) (disch := omega) only [b329_2, b329_3, b329_4, q329_3, q329_4, x_aaload, x_alen, x_aload0, y_call327, x_freturn, x_gc_11355, x_goto_2, x_iconst, x_ifCond_eq_3, x_if_icmp_ge_4, x_iinc1, x_iload1, klp_0, klp_1, klp_2, klp_3, klp_9, KC_0, KC_1, KC_2, KC_3, KC_4, ne_eq, not_false_eq_true, not_true_eq_false, true_and, and_true, and_self, implies_true, eq_self, true_imp_iff, false_implies, Int.reduceEq, Int.reduceNe, Int.reduceMod, Int.reduceMul, Int.reduceAdd, Int.reduceSub, Int.reduceLT, Int.reduceLE, Nat.reduceAdd, Nat.reduceLeDiff, Nat.reduceLT, Nat.reduceSub, reduceIte, wds_n, wds_0, wds_1, wds_2, wds_3, or_true, true_or, or_false, false_or, or_self, false_and, and_false, d_pos, d_s1, d_s2, d_s3, d_s4, d_s5, d_s6, d_s7, d_s8, Classical.not_not, z6603_11, z9446_l, z9446_9, W, c, le_sub1, le_T, le_F, lt_T, lt_F, eq_F, w32_T, bz0, bz1, lc_le, lc_ge, lc_lt, lc_gt, lc_eq]
theorem s329y_9 (K : TKf tp t s fu h) (T : TOK tp t s) (S : STS h) (a : tkK tp t s = 1) (c : wdT tp t s = 1751474532) : G fz1 (d + 6) 329 2 [(3, 6603), (0, 9)] [] h Q = Q 0 h := by
  have W : ∀ Q : Int → HV → Prop, Sp fz1 (d + 5) 327 [(3, 6603), (3, -3123)] h Q = Q 1 h := fun Q => by rw [iw_head K T S, if_pos ⟨a, c⟩]
  rw [q329_2]
  simp (implicitDefEqProofs := false) (disch := omega) only [b329_2, b329_3, b329_4, q329_3, q329_4, x_aaload, x_alen, x_aload0, y_call327, x_freturn, x_gc_11355, x_goto_2, x_iconst, x_ifCond_eq_3, x_if_icmp_ge_4, x_iinc1, x_iload1, klp_0, klp_1, klp_2, klp_3, klp_9, KC_0, KC_1, KC_2, KC_3, KC_4, ne_eq, not_false_eq_true, not_true_eq_false, true_and, and_true, and_self, implies_true, eq_self, true_imp_iff, false_implies, Int.reduceEq, Int.reduceNe, Int.reduceMod, Int.reduceMul, Int.reduceAdd, Int.reduceSub, Int.reduceLT, Int.reduceLE, Nat.reduceAdd, Nat.reduceLeDiff, Nat.reduceLT, Nat.reduceSub, reduceIte, wds_n, wds_0, wds_1, wds_2, wds_3, or_true, true_or, or_false, false_or, or_self, false_and, and_false, d_pos, d_s1, d_s2, d_s3, d_s4, d_s5, d_s6, d_s7, d_s8, Classical.not_not, z6603_11, z9446_l, z9446_9, W, c, le_sub1, le_T, le_F, lt_T, lt_F, eq_F, w32_T, bz0, bz1, lc_le, lc_ge, lc_lt, lc_gt, lc_eq]
theorem s329n_10 (K : TKf tp t s fu h) (T : TOK tp t s) (S : STS h) (a : tkK tp t s = 1) (c : ¬ wdT tp t s = 26982) : G fz1 (d + 6) 329 2 [(3, 6603), (0, 10)] [] h Q = G fz1 (d + 6) 329 2 [(3, 6603), (0, 11)] [] h Q := by
  have W : ∀ Q : Int → HV → Prop, Sp fz1 (d + 5) 327 [(3, 6603), (3, -3251)] h Q = Q 0 h := fun Q => by rw [iw_if K T S, if_neg (fun w => c w.2)]
  rw [q329_2]
  simp (implicitDefEqProofs := false) (disch := omega) only [b329_2, b329_3, b329_4, q329_3, q329_4, x_aaload, x_alen, x_aload0, y_call327, x_freturn, x_gc_11355, x_goto_2, x_iconst, x_ifCond_eq_3, x_if_icmp_ge_4, x_iinc1, x_iload1, klp_0, klp_1, klp_2, klp_3, klp_9, KC_0, KC_1, KC_2, KC_3, KC_4, ne_eq, not_false_eq_true, not_true_eq_false, true_and, and_true, and_self, implies_true, eq_self, true_imp_iff, false_implies, Int.reduceEq, Int.reduceNe, Int.reduceMod, Int.reduceMul, Int.reduceAdd, Int.reduceSub, Int.reduceLT, Int.reduceLE, Nat.reduceAdd, Nat.reduceLeDiff, Nat.reduceLT, Nat.reduceSub, reduceIte, wds_n, wds_0, wds_1, wds_2, wds_3, or_true, true_or, or_false, false_or, or_self, false_and, and_false, d_pos, d_s1, d_s2, d_s3, d_s4, d_s5, d_s6, d_s7, d_s8, Classical.not_not, z6603_11, z9446_l, z9446_10, W, c, le_sub1, le_T, le_F, lt_T, lt_F, eq_F, w32_T, bz0, bz1, lc_le, lc_ge, lc_lt, lc_gt, lc_eq]
theorem s329y_10 (K : TKf tp t s fu h) (T : TOK tp t s) (S : STS h) (a : tkK tp t s = 1) (c : wdT tp t s = 26982) : G fz1 (d + 6) 329 2 [(3, 6603), (0, 10)] [] h Q = Q 0 h := by
  have W : ∀ Q : Int → HV → Prop, Sp fz1 (d + 5) 327 [(3, 6603), (3, -3251)] h Q = Q 1 h := fun Q => by rw [iw_if K T S, if_pos ⟨a, c⟩]
  rw [q329_2]
  simp (implicitDefEqProofs := false) (disch := omega) only [b329_2, b329_3, b329_4, q329_3, q329_4, x_aaload, x_alen, x_aload0, y_call327, x_freturn, x_gc_11355, x_goto_2, x_iconst, x_ifCond_eq_3, x_if_icmp_ge_4, x_iinc1, x_iload1, klp_0, klp_1, klp_2, klp_3, klp_9, KC_0, KC_1, KC_2, KC_3, KC_4, ne_eq, not_false_eq_true, not_true_eq_false, true_and, and_true, and_self, implies_true, eq_self, true_imp_iff, false_implies, Int.reduceEq, Int.reduceNe, Int.reduceMod, Int.reduceMul, Int.reduceAdd, Int.reduceSub, Int.reduceLT, Int.reduceLE, Nat.reduceAdd, Nat.reduceLeDiff, Nat.reduceLT, Nat.reduceSub, reduceIte, wds_n, wds_0, wds_1, wds_2, wds_3, or_true, true_or, or_false, false_or, or_self, false_and, and_false, d_pos, d_s1, d_s2, d_s3, d_s4, d_s5, d_s6, d_s7, d_s8, Classical.not_not, z6603_11, z9446_l, z9446_10, W, c, le_sub1, le_T, le_F, lt_T, lt_F, eq_F, w32_T, bz0, bz1, lc_le, lc_ge, lc_lt, lc_gt, lc_eq]
theorem s329n_11 (K : TKf tp t s fu h) (T : TOK tp t s) (S : STS h) (a : tkK tp t s = 1) (c : ¬ wdT tp t s = 1701606245) : G fz1 (d + 6) 329 2 [(3, 6603), (0, 11)] [] h Q = G fz1 (d + 6) 329 2 [(3, 6603), (0, 12)] [] h Q := by
  have W : ∀ Q : Int → HV → Prop, Sp fz1 (d + 5) 327 [(3, 6603), (3, -1459)] h Q = Q 0 h := fun Q => by rw [iw_else K T S, if_neg (fun w => c w.2)]
  rw [q329_2]
  simp (implicitDefEqProofs := false) (disch := omega) only [b329_2, b329_3, b329_4, q329_3, q329_4, x_aaload, x_alen, x_aload0, y_call327, x_freturn, x_gc_11355, x_goto_2, x_iconst, x_ifCond_eq_3, x_if_icmp_ge_4, x_iinc1, x_iload1, klp_0, klp_1, klp_2, klp_3, klp_9, KC_0, KC_1, KC_2, KC_3, KC_4, ne_eq, not_false_eq_true, not_true_eq_false, true_and, and_true, and_self, implies_true, eq_self, true_imp_iff, false_implies, Int.reduceEq, Int.reduceNe, Int.reduceMod, Int.reduceMul, Int.reduceAdd, Int.reduceSub, Int.reduceLT, Int.reduceLE, Nat.reduceAdd, Nat.reduceLeDiff, Nat.reduceLT, Nat.reduceSub, reduceIte, wds_n, wds_0, wds_1, wds_2, wds_3, or_true, true_or, or_false, false_or, or_self, false_and, and_false, d_pos, d_s1, d_s2, d_s3, d_s4, d_s5, d_s6, d_s7, d_s8, Classical.not_not, z6603_11, z9446_l, z9446_11, W, c, le_sub1, le_T, le_F, lt_T, lt_F, eq_F, w32_T, bz0, bz1, lc_le, lc_ge, lc_lt, lc_gt, lc_eq]
theorem s329y_11 (K : TKf tp t s fu h) (T : TOK tp t s) (S : STS h) (a : tkK tp t s = 1) (c : wdT tp t s = 1701606245) : G fz1 (d + 6) 329 2 [(3, 6603), (0, 11)] [] h Q = Q 0 h := by
  have W : ∀ Q : Int → HV → Prop, Sp fz1 (d + 5) 327 [(3, 6603), (3, -1459)] h Q = Q 1 h := fun Q => by rw [iw_else K T S, if_pos ⟨a, c⟩]
  rw [q329_2]
  simp (implicitDefEqProofs := false) (disch := omega) only [b329_2, b329_3, b329_4, q329_3, q329_4, x_aaload, x_alen, x_aload0, y_call327, x_freturn, x_gc_11355, x_goto_2, x_iconst, x_ifCond_eq_3, x_if_icmp_ge_4, x_iinc1, x_iload1, klp_0, klp_1, klp_2, klp_3, klp_9, KC_0, KC_1, KC_2, KC_3, KC_4, ne_eq, not_false_eq_true, not_true_eq_false, true_and, and_true, and_self, implies_true, eq_self, true_imp_iff, false_implies, Int.reduceEq, Int.reduceNe, Int.reduceMod, Int.reduceMul, Int.reduceAdd, Int.reduceSub, Int.reduceLT, Int.reduceLE, Nat.reduceAdd, Nat.reduceLeDiff, Nat.reduceLT, Nat.reduceSub, reduceIte, wds_n, wds_0, wds_1, wds_2, wds_3, or_true, true_or, or_false, false_or, or_self, false_and, and_false, d_pos, d_s1, d_s2, d_s3, d_s4, d_s5, d_s6, d_s7, d_s8, Classical.not_not, z6603_11, z9446_l, z9446_11, W, c, le_sub1, le_T, le_F, lt_T, lt_F, eq_F, w32_T, bz0, bz1, lc_le, lc_ge, lc_lt, lc_gt, lc_eq]
theorem s329n_12 (K : TKf tp t s fu h) (T : TOK tp t s) (S : STS h) (a : tkK tp t s = 1) (c : ¬ wdT tp t s = 6713202) : G fz1 (d + 6) 329 2 [(3, 6603), (0, 12)] [] h Q = G fz1 (d + 6) 329 2 [(3, 6603), (0, 13)] [] h Q := by
  have W : ∀ Q : Int → HV → Prop, Sp fz1 (d + 5) 327 [(3, 6603), (3, -3379)] h Q = Q 0 h := fun Q => by rw [iw_for K T S, if_neg (fun w => c w.2)]
  rw [q329_2]
  simp (implicitDefEqProofs := false) (disch := omega) only [b329_2, b329_3, b329_4, q329_3, q329_4, x_aaload, x_alen, x_aload0, y_call327, x_freturn, x_gc_11355, x_goto_2, x_iconst, x_ifCond_eq_3, x_if_icmp_ge_4, x_iinc1, x_iload1, klp_0, klp_1, klp_2, klp_3, klp_9, KC_0, KC_1, KC_2, KC_3, KC_4, ne_eq, not_false_eq_true, not_true_eq_false, true_and, and_true, and_self, implies_true, eq_self, true_imp_iff, false_implies, Int.reduceEq, Int.reduceNe, Int.reduceMod, Int.reduceMul, Int.reduceAdd, Int.reduceSub, Int.reduceLT, Int.reduceLE, Nat.reduceAdd, Nat.reduceLeDiff, Nat.reduceLT, Nat.reduceSub, reduceIte, wds_n, wds_0, wds_1, wds_2, wds_3, or_true, true_or, or_false, false_or, or_self, false_and, and_false, d_pos, d_s1, d_s2, d_s3, d_s4, d_s5, d_s6, d_s7, d_s8, Classical.not_not, z6603_11, z9446_l, z9446_12, W, c, le_sub1, le_T, le_F, lt_T, lt_F, eq_F, w32_T, bz0, bz1, lc_le, lc_ge, lc_lt, lc_gt, lc_eq]
theorem s329y_12 (K : TKf tp t s fu h) (T : TOK tp t s) (S : STS h) (a : tkK tp t s = 1) (c : wdT tp t s = 6713202) : G fz1 (d + 6) 329 2 [(3, 6603), (0, 12)] [] h Q = Q 0 h := by
  have W : ∀ Q : Int → HV → Prop, Sp fz1 (d + 5) 327 [(3, 6603), (3, -3379)] h Q = Q 1 h := fun Q => by rw [iw_for K T S, if_pos ⟨a, c⟩]
  rw [q329_2]
  simp (implicitDefEqProofs := false) (disch := omega) only [b329_2, b329_3, b329_4, q329_3, q329_4, x_aaload, x_alen, x_aload0, y_call327, x_freturn, x_gc_11355, x_goto_2, x_iconst, x_ifCond_eq_3, x_if_icmp_ge_4, x_iinc1, x_iload1, klp_0, klp_1, klp_2, klp_3, klp_9, KC_0, KC_1, KC_2, KC_3, KC_4, ne_eq, not_false_eq_true, not_true_eq_false, true_and, and_true, and_self, implies_true, eq_self, true_imp_iff, false_implies, Int.reduceEq, Int.reduceNe, Int.reduceMod, Int.reduceMul, Int.reduceAdd, Int.reduceSub, Int.reduceLT, Int.reduceLE, Nat.reduceAdd, Nat.reduceLeDiff, Nat.reduceLT, Nat.reduceSub, reduceIte, wds_n, wds_0, wds_1, wds_2, wds_3, or_true, true_or, or_false, false_or, or_self, false_and, and_false, d_pos, d_s1, d_s2, d_s3, d_s4, d_s5, d_s6, d_s7, d_s8, Classical.not_not, z6603_11, z9446_l, z9446_12, W, c, le_sub1, le_T, le_F, lt_T, lt_F, eq_F, w32_T, bz0, bz1, lc_le, lc_ge, lc_lt, lc_gt, lc_eq]
theorem s329n_13 (K : TKf tp t s fu h) (T : TOK tp t s) (S : STS h) (a : tkK tp t s = 1) (c : ¬ wdT tp t s = 29807) : G fz1 (d + 6) 329 2 [(3, 6603), (0, 13)] [] h Q = G fz1 (d + 6) 329 2 [(3, 6603), (0, 14)] [] h Q := by
  have W : ∀ Q : Int → HV → Prop, Sp fz1 (d + 5) 327 [(3, 6603), (3, -1587)] h Q = Q 0 h := fun Q => by rw [iw_to K T S, if_neg (fun w => c w.2)]
  rw [q329_2]
  simp (implicitDefEqProofs := false) (disch := omega) only [b329_2, b329_3, b329_4, q329_3, q329_4, x_aaload, x_alen, x_aload0, y_call327, x_freturn, x_gc_11355, x_goto_2, x_iconst, x_ifCond_eq_3, x_if_icmp_ge_4, x_iinc1, x_iload1, klp_0, klp_1, klp_2, klp_3, klp_9, KC_0, KC_1, KC_2, KC_3, KC_4, ne_eq, not_false_eq_true, not_true_eq_false, true_and, and_true, and_self, implies_true, eq_self, true_imp_iff, false_implies, Int.reduceEq, Int.reduceNe, Int.reduceMod, Int.reduceMul, Int.reduceAdd, Int.reduceSub, Int.reduceLT, Int.reduceLE, Nat.reduceAdd, Nat.reduceLeDiff, Nat.reduceLT, Nat.reduceSub, reduceIte, wds_n, wds_0, wds_1, wds_2, wds_3, or_true, true_or, or_false, false_or, or_self, false_and, and_false, d_pos, d_s1, d_s2, d_s3, d_s4, d_s5, d_s6, d_s7, d_s8, Classical.not_not, z6603_11, z9446_l, z9446_13, W, c, le_sub1, le_T, le_F, lt_T, lt_F, eq_F, w32_T, bz0, bz1, lc_le, lc_ge, lc_lt, lc_gt, lc_eq]
theorem s329y_13 (K : TKf tp t s fu h) (T : TOK tp t s) (S : STS h) (a : tkK tp t s = 1) (c : wdT tp t s = 29807) : G fz1 (d + 6) 329 2 [(3, 6603), (0, 13)] [] h Q = Q 0 h := by
  have W : ∀ Q : Int → HV → Prop, Sp fz1 (d + 5) 327 [(3, 6603), (3, -1587)] h Q = Q 1 h := fun Q => by rw [iw_to K T S, if_pos ⟨a, c⟩]
  rw [q329_2]
  simp (implicitDefEqProofs := false) (disch := omega) only [b329_2, b329_3, b329_4, q329_3, q329_4, x_aaload, x_alen, x_aload0, y_call327, x_freturn, x_gc_11355, x_goto_2, x_iconst, x_ifCond_eq_3, x_if_icmp_ge_4, x_iinc1, x_iload1, klp_0, klp_1, klp_2, klp_3, klp_9, KC_0, KC_1, KC_2, KC_3, KC_4, ne_eq, not_false_eq_true, not_true_eq_false, true_and, and_true, and_self, implies_true, eq_self, true_imp_iff, false_implies, Int.reduceEq, Int.reduceNe, Int.reduceMod, Int.reduceMul, Int.reduceAdd, Int.reduceSub, Int.reduceLT, Int.reduceLE, Nat.reduceAdd, Nat.reduceLeDiff, Nat.reduceLT, Nat.reduceSub, reduceIte, wds_n, wds_0, wds_1, wds_2, wds_3, or_true, true_or, or_false, false_or, or_self, false_and, and_false, d_pos, d_s1, d_s2, d_s3, d_s4, d_s5, d_s6, d_s7, d_s8, Classical.not_not, z6603_11, z9446_l, z9446_13, W, c, le_sub1, le_T, le_F, lt_T, lt_F, eq_F, w32_T, bz0, bz1, lc_le, lc_ge, lc_lt, lc_gt, lc_eq]
theorem s329n_14 (K : TKf tp t s fu h) (T : TOK tp t s) (S : STS h) (a : tkK tp t s = 1) (c : ¬ wdT tp t s = 7631481) : G fz1 (d + 6) 329 2 [(3, 6603), (0, 14)] [] h Q = G fz1 (d + 6) 329 2 [(3, 6603), (0, 15)] [] h Q := by
  have W : ∀ Q : Int → HV → Prop, Sp fz1 (d + 5) 327 [(3, 6603), (3, -3507)] h Q = Q 0 h := fun Q => by rw [iw_try K T S, if_neg (fun w => c w.2)]
  rw [q329_2]
  simp (implicitDefEqProofs := false) (disch := omega) only [b329_2, b329_3, b329_4, q329_3, q329_4, x_aaload, x_alen, x_aload0, y_call327, x_freturn, x_gc_11355, x_goto_2, x_iconst, x_ifCond_eq_3, x_if_icmp_ge_4, x_iinc1, x_iload1, klp_0, klp_1, klp_2, klp_3, klp_9, KC_0, KC_1, KC_2, KC_3, KC_4, ne_eq, not_false_eq_true, not_true_eq_false, true_and, and_true, and_self, implies_true, eq_self, true_imp_iff, false_implies, Int.reduceEq, Int.reduceNe, Int.reduceMod, Int.reduceMul, Int.reduceAdd, Int.reduceSub, Int.reduceLT, Int.reduceLE, Nat.reduceAdd, Nat.reduceLeDiff, Nat.reduceLT, Nat.reduceSub, reduceIte, wds_n, wds_0, wds_1, wds_2, wds_3, or_true, true_or, or_false, false_or, or_self, false_and, and_false, d_pos, d_s1, d_s2, d_s3, d_s4, d_s5, d_s6, d_s7, d_s8, Classical.not_not, z6603_11, z9446_l, z9446_14, W, c, le_sub1, le_T, le_F, lt_T, lt_F, eq_F, w32_T, bz0, bz1, lc_le, lc_ge, lc_lt, lc_gt, lc_eq]
theorem s329y_14 (K : TKf tp t s fu h) (T : TOK tp t s) (S : STS h) (a : tkK tp t s = 1) (c : wdT tp t s = 7631481) : G fz1 (d + 6) 329 2 [(3, 6603), (0, 14)] [] h Q = Q 0 h := by
  have W : ∀ Q : Int → HV → Prop, Sp fz1 (d + 5) 327 [(3, 6603), (3, -3507)] h Q = Q 1 h := fun Q => by rw [iw_try K T S, if_pos ⟨a, c⟩]
  rw [q329_2]
  simp (implicitDefEqProofs := false) (disch := omega) only [b329_2, b329_3, b329_4, q329_3, q329_4, x_aaload, x_alen, x_aload0, y_call327, x_freturn, x_gc_11355, x_goto_2, x_iconst, x_ifCond_eq_3, x_if_icmp_ge_4, x_iinc1, x_iload1, klp_0, klp_1, klp_2, klp_3, klp_9, KC_0, KC_1, KC_2, KC_3, KC_4, ne_eq, not_false_eq_true, not_true_eq_false, true_and, and_true, and_self, implies_true, eq_self, true_imp_iff, false_implies, Int.reduceEq, Int.reduceNe, Int.reduceMod, Int.reduceMul, Int.reduceAdd, Int.reduceSub, Int.reduceLT, Int.reduceLE, Nat.reduceAdd, Nat.reduceLeDiff, Nat.reduceLT, Nat.reduceSub, reduceIte, wds_n, wds_0, wds_1, wds_2, wds_3, or_true, true_or, or_false, false_or, or_self, false_and, and_false, d_pos, d_s1, d_s2, d_s3, d_s4, d_s5, d_s6, d_s7, d_s8, Classical.not_not, z6603_11, z9446_l, z9446_14, W, c, le_sub1, le_T, le_F, lt_T, lt_F, eq_F, w32_T, bz0, bz1, lc_le, lc_ge, lc_lt, lc_gt, lc_eq]
theorem s329n_15 (K : TKf tp t s fu h) (T : TOK tp t s) (S : STS h) (a : tkK tp t s = 1) (c : ¬ wdT tp t s = 28526) : G fz1 (d + 6) 329 2 [(3, 6603), (0, 15)] [] h Q = G fz1 (d + 6) 329 2 [(3, 6603), (0, 16)] [] h Q := by
  have W : ∀ Q : Int → HV → Prop, Sp fz1 (d + 5) 327 [(3, 6603), (3, -1715)] h Q = Q 0 h := fun Q => by rw [iw_on K T S, if_neg (fun w => c w.2)]
  rw [q329_2]
  simp (implicitDefEqProofs := false) (disch := omega) only [b329_2, b329_3, b329_4, q329_3, q329_4, x_aaload, x_alen, x_aload0, y_call327, x_freturn, x_gc_11355, x_goto_2, x_iconst, x_ifCond_eq_3, x_if_icmp_ge_4, x_iinc1, x_iload1, klp_0, klp_1, klp_2, klp_3, klp_9, KC_0, KC_1, KC_2, KC_3, KC_4, ne_eq, not_false_eq_true, not_true_eq_false, true_and, and_true, and_self, implies_true, eq_self, true_imp_iff, false_implies, Int.reduceEq, Int.reduceNe, Int.reduceMod, Int.reduceMul, Int.reduceAdd, Int.reduceSub, Int.reduceLT, Int.reduceLE, Nat.reduceAdd, Nat.reduceLeDiff, Nat.reduceLT, Nat.reduceSub, reduceIte, wds_n, wds_0, wds_1, wds_2, wds_3, or_true, true_or, or_false, false_or, or_self, false_and, and_false, d_pos, d_s1, d_s2, d_s3, d_s4, d_s5, d_s6, d_s7, d_s8, Classical.not_not, z6603_11, z9446_l, z9446_15, W, c, le_sub1, le_T, le_F, lt_T, lt_F, eq_F, w32_T, bz0, bz1, lc_le, lc_ge, lc_lt, lc_gt, lc_eq]
theorem s329y_15 (K : TKf tp t s fu h) (T : TOK tp t s) (S : STS h) (a : tkK tp t s = 1) (c : wdT tp t s = 28526) : G fz1 (d + 6) 329 2 [(3, 6603), (0, 15)] [] h Q = Q 0 h := by
  have W : ∀ Q : Int → HV → Prop, Sp fz1 (d + 5) 327 [(3, 6603), (3, -1715)] h Q = Q 1 h := fun Q => by rw [iw_on K T S, if_pos ⟨a, c⟩]
  rw [q329_2]
  simp (implicitDefEqProofs := false) (disch := omega) only [b329_2, b329_3, b329_4, q329_3, q329_4, x_aaload, x_alen, x_aload0, y_call327, x_freturn, x_gc_11355, x_goto_2, x_iconst, x_ifCond_eq_3, x_if_icmp_ge_4, x_iinc1, x_iload1, klp_0, klp_1, klp_2, klp_3, klp_9, KC_0, KC_1, KC_2, KC_3, KC_4, ne_eq, not_false_eq_true, not_true_eq_false, true_and, and_true, and_self, implies_true, eq_self, true_imp_iff, false_implies, Int.reduceEq, Int.reduceNe, Int.reduceMod, Int.reduceMul, Int.reduceAdd, Int.reduceSub, Int.reduceLT, Int.reduceLE, Nat.reduceAdd, Nat.reduceLeDiff, Nat.reduceLT, Nat.reduceSub, reduceIte, wds_n, wds_0, wds_1, wds_2, wds_3, or_true, true_or, or_false, false_or, or_self, false_and, and_false, d_pos, d_s1, d_s2, d_s3, d_s4, d_s5, d_s6, d_s7, d_s8, Classical.not_not, z6603_11, z9446_l, z9446_15, W, c, le_sub1, le_T, le_F, lt_T, lt_F, eq_F, w32_T, bz0, bz1, lc_le, lc_ge, lc_lt, lc_gt, lc_eq]
theorem s329n_16 (K : TKf tp t s fu h) (T : TOK tp t s) (S : STS h) (a : tkK tp t s = 1) (c : ¬ wdT tp t s = 107118487239027) : G fz1 (d + 6) 329 2 [(3, 6603), (0, 16)] [] h Q = G fz1 (d + 6) 329 2 [(3, 6603), (0, 17)] [] h Q := by
  have W : ∀ Q : Int → HV → Prop, Sp fz1 (d + 5) 327 [(3, 6603), (3, -1843)] h Q = Q 0 h := fun Q => by rw [iw_always K T S, if_neg (fun w => c w.2)]
  rw [q329_2]
  simp (implicitDefEqProofs := false) (disch := omega) only [b329_2, b329_3, b329_4, q329_3, q329_4, x_aaload, x_alen, x_aload0, y_call327, x_freturn, x_gc_11355, x_goto_2, x_iconst, x_ifCond_eq_3, x_if_icmp_ge_4, x_iinc1, x_iload1, klp_0, klp_1, klp_2, klp_3, klp_9, KC_0, KC_1, KC_2, KC_3, KC_4, ne_eq, not_false_eq_true, not_true_eq_false, true_and, and_true, and_self, implies_true, eq_self, true_imp_iff, false_implies, Int.reduceEq, Int.reduceNe, Int.reduceMod, Int.reduceMul, Int.reduceAdd, Int.reduceSub, Int.reduceLT, Int.reduceLE, Nat.reduceAdd, Nat.reduceLeDiff, Nat.reduceLT, Nat.reduceSub, reduceIte, wds_n, wds_0, wds_1, wds_2, wds_3, or_true, true_or, or_false, false_or, or_self, false_and, and_false, d_pos, d_s1, d_s2, d_s3, d_s4, d_s5, d_s6, d_s7, d_s8, Classical.not_not, z6603_11, z9446_l, z9446_16, W, c, le_sub1, le_T, le_F, lt_T, lt_F, eq_F, w32_T, bz0, bz1, lc_le, lc_ge, lc_lt, lc_gt, lc_eq]
theorem s329y_16 (K : TKf tp t s fu h) (T : TOK tp t s) (S : STS h) (a : tkK tp t s = 1) (c : wdT tp t s = 107118487239027) : G fz1 (d + 6) 329 2 [(3, 6603), (0, 16)] [] h Q = Q 0 h := by
  have W : ∀ Q : Int → HV → Prop, Sp fz1 (d + 5) 327 [(3, 6603), (3, -1843)] h Q = Q 1 h := fun Q => by rw [iw_always K T S, if_pos ⟨a, c⟩]
  rw [q329_2]
  simp (implicitDefEqProofs := false) (disch := omega) only [b329_2, b329_3, b329_4, q329_3, q329_4, x_aaload, x_alen, x_aload0, y_call327, x_freturn, x_gc_11355, x_goto_2, x_iconst, x_ifCond_eq_3, x_if_icmp_ge_4, x_iinc1, x_iload1, klp_0, klp_1, klp_2, klp_3, klp_9, KC_0, KC_1, KC_2, KC_3, KC_4, ne_eq, not_false_eq_true, not_true_eq_false, true_and, and_true, and_self, implies_true, eq_self, true_imp_iff, false_implies, Int.reduceEq, Int.reduceNe, Int.reduceMod, Int.reduceMul, Int.reduceAdd, Int.reduceSub, Int.reduceLT, Int.reduceLE, Nat.reduceAdd, Nat.reduceLeDiff, Nat.reduceLT, Nat.reduceSub, reduceIte, wds_n, wds_0, wds_1, wds_2, wds_3, or_true, true_or, or_false, false_or, or_self, false_and, and_false, d_pos, d_s1, d_s2, d_s3, d_s4, d_s5, d_s6, d_s7, d_s8, Classical.not_not, z6603_11, z9446_l, z9446_16, W, c, le_sub1, le_T, le_F, lt_T, lt_F, eq_F, w32_T, bz0, bz1, lc_le, lc_ge, lc_lt, lc_gt, lc_eq]
theorem s329n_17 (K : TKf tp t s fu h) (T : TOK tp t s) (S : STS h) (a : tkK tp t s = 1) (c : ¬ wdT tp t s = 491260572517) : G fz1 (d + 6) 329 2 [(3, 6603), (0, 17)] [] h Q = G fz1 (d + 6) 329 2 [(3, 6603), (0, 18)] [] h Q := by
  have W : ∀ Q : Int → HV → Prop, Sp fz1 (d + 5) 327 [(3, 6603), (3, -3635)] h Q = Q 0 h := fun Q => by rw [iw_raise K T S, if_neg (fun w => c w.2)]
  rw [q329_2]
  simp (implicitDefEqProofs := false) (disch := omega) only [b329_2, b329_3, b329_4, q329_3, q329_4, x_aaload, x_alen, x_aload0, y_call327, x_freturn, x_gc_11355, x_goto_2, x_iconst, x_ifCond_eq_3, x_if_icmp_ge_4, x_iinc1, x_iload1, klp_0, klp_1, klp_2, klp_3, klp_9, KC_0, KC_1, KC_2, KC_3, KC_4, ne_eq, not_false_eq_true, not_true_eq_false, true_and, and_true, and_self, implies_true, eq_self, true_imp_iff, false_implies, Int.reduceEq, Int.reduceNe, Int.reduceMod, Int.reduceMul, Int.reduceAdd, Int.reduceSub, Int.reduceLT, Int.reduceLE, Nat.reduceAdd, Nat.reduceLeDiff, Nat.reduceLT, Nat.reduceSub, reduceIte, wds_n, wds_0, wds_1, wds_2, wds_3, or_true, true_or, or_false, false_or, or_self, false_and, and_false, d_pos, d_s1, d_s2, d_s3, d_s4, d_s5, d_s6, d_s7, d_s8, Classical.not_not, z6603_11, z9446_l, z9446_17, W, c, le_sub1, le_T, le_F, lt_T, lt_F, eq_F, w32_T, bz0, bz1, lc_le, lc_ge, lc_lt, lc_gt, lc_eq]
theorem s329y_17 (K : TKf tp t s fu h) (T : TOK tp t s) (S : STS h) (a : tkK tp t s = 1) (c : wdT tp t s = 491260572517) : G fz1 (d + 6) 329 2 [(3, 6603), (0, 17)] [] h Q = Q 0 h := by
  have W : ∀ Q : Int → HV → Prop, Sp fz1 (d + 5) 327 [(3, 6603), (3, -3635)] h Q = Q 1 h := fun Q => by rw [iw_raise K T S, if_pos ⟨a, c⟩]
  rw [q329_2]
  simp (implicitDefEqProofs := false) (disch := omega) only [b329_2, b329_3, b329_4, q329_3, q329_4, x_aaload, x_alen, x_aload0, y_call327, x_freturn, x_gc_11355, x_goto_2, x_iconst, x_ifCond_eq_3, x_if_icmp_ge_4, x_iinc1, x_iload1, klp_0, klp_1, klp_2, klp_3, klp_9, KC_0, KC_1, KC_2, KC_3, KC_4, ne_eq, not_false_eq_true, not_true_eq_false, true_and, and_true, and_self, implies_true, eq_self, true_imp_iff, false_implies, Int.reduceEq, Int.reduceNe, Int.reduceMod, Int.reduceMul, Int.reduceAdd, Int.reduceSub, Int.reduceLT, Int.reduceLE, Nat.reduceAdd, Nat.reduceLeDiff, Nat.reduceLT, Nat.reduceSub, reduceIte, wds_n, wds_0, wds_1, wds_2, wds_3, or_true, true_or, or_false, false_or, or_self, false_and, and_false, d_pos, d_s1, d_s2, d_s3, d_s4, d_s5, d_s6, d_s7, d_s8, Classical.not_not, z6603_11, z9446_l, z9446_17, W, c, le_sub1, le_T, le_F, lt_T, lt_F, eq_F, w32_T, bz0, bz1, lc_le, lc_ge, lc_lt, lc_gt, lc_eq]
theorem s329n_18 (K : TKf tp t s fu h) (T : TOK tp t s) (S : STS h) (a : tkK tp t s = 1) (c : ¬ wdT tp t s = 1734964837) : G fz1 (d + 6) 329 2 [(3, 6603), (0, 18)] [] h Q = G fz1 (d + 6) 329 2 [(3, 6603), (0, 19)] [] h Q := by
  have W : ∀ Q : Int → HV → Prop, Sp fz1 (d + 5) 327 [(3, 6603), (3, -3763)] h Q = Q 0 h := fun Q => by rw [iw_give K T S, if_neg (fun w => c w.2)]
  rw [q329_2]
  simp (implicitDefEqProofs := false) (disch := omega) only [b329_2, b329_3, b329_4, q329_3, q329_4, x_aaload, x_alen, x_aload0, y_call327, x_freturn, x_gc_11355, x_goto_2, x_iconst, x_ifCond_eq_3, x_if_icmp_ge_4, x_iinc1, x_iload1, klp_0, klp_1, klp_2, klp_3, klp_9, KC_0, KC_1, KC_2, KC_3, KC_4, ne_eq, not_false_eq_true, not_true_eq_false, true_and, and_true, and_self, implies_true, eq_self, true_imp_iff, false_implies, Int.reduceEq, Int.reduceNe, Int.reduceMod, Int.reduceMul, Int.reduceAdd, Int.reduceSub, Int.reduceLT, Int.reduceLE, Nat.reduceAdd, Nat.reduceLeDiff, Nat.reduceLT, Nat.reduceSub, reduceIte, wds_n, wds_0, wds_1, wds_2, wds_3, or_true, true_or, or_false, false_or, or_self, false_and, and_false, d_pos, d_s1, d_s2, d_s3, d_s4, d_s5, d_s6, d_s7, d_s8, Classical.not_not, z6603_11, z9446_l, z9446_18, W, c, le_sub1, le_T, le_F, lt_T, lt_F, eq_F, w32_T, bz0, bz1, lc_le, lc_ge, lc_lt, lc_gt, lc_eq]
theorem s329y_18 (K : TKf tp t s fu h) (T : TOK tp t s) (S : STS h) (a : tkK tp t s = 1) (c : wdT tp t s = 1734964837) : G fz1 (d + 6) 329 2 [(3, 6603), (0, 18)] [] h Q = Q 0 h := by
  have W : ∀ Q : Int → HV → Prop, Sp fz1 (d + 5) 327 [(3, 6603), (3, -3763)] h Q = Q 1 h := fun Q => by rw [iw_give K T S, if_pos ⟨a, c⟩]
  rw [q329_2]
  simp (implicitDefEqProofs := false) (disch := omega) only [b329_2, b329_3, b329_4, q329_3, q329_4, x_aaload, x_alen, x_aload0, y_call327, x_freturn, x_gc_11355, x_goto_2, x_iconst, x_ifCond_eq_3, x_if_icmp_ge_4, x_iinc1, x_iload1, klp_0, klp_1, klp_2, klp_3, klp_9, KC_0, KC_1, KC_2, KC_3, KC_4, ne_eq, not_false_eq_true, not_true_eq_false, true_and, and_true, and_self, implies_true, eq_self, true_imp_iff, false_implies, Int.reduceEq, Int.reduceNe, Int.reduceMod, Int.reduceMul, Int.reduceAdd, Int.reduceSub, Int.reduceLT, Int.reduceLE, Nat.reduceAdd, Nat.reduceLeDiff, Nat.reduceLT, Nat.reduceSub, reduceIte, wds_n, wds_0, wds_1, wds_2, wds_3, or_true, true_or, or_false, false_or, or_self, false_and, and_false, d_pos, d_s1, d_s2, d_s3, d_s4, d_s5, d_s6, d_s7, d_s8, Classical.not_not, z6603_11, z9446_l, z9446_18, W, c, le_sub1, le_T, le_F, lt_T, lt_F, eq_F, w32_T, bz0, bz1, lc_le, lc_ge, lc_lt, lc_gt, lc_eq]
theorem s329n_19 (K : TKf tp t s fu h) (T : TOK tp t s) (S : STS h) (a : tkK tp t s = 1) (c : ¬ wdT tp t s = 1668247673) : G fz1 (d + 6) 329 2 [(3, 6603), (0, 19)] [] h Q = G fz1 (d + 6) 329 2 [(3, 6603), (0, 20)] [] h Q := by
  have W : ∀ Q : Int → HV → Prop, Sp fz1 (d + 5) 327 [(3, 6603), (3, -3891)] h Q = Q 0 h := fun Q => by rw [iw_copy K T S, if_neg (fun w => c w.2)]
  rw [q329_2]
  simp (implicitDefEqProofs := false) (disch := omega) only [b329_2, b329_3, b329_4, q329_3, q329_4, x_aaload, x_alen, x_aload0, y_call327, x_freturn, x_gc_11355, x_goto_2, x_iconst, x_ifCond_eq_3, x_if_icmp_ge_4, x_iinc1, x_iload1, klp_0, klp_1, klp_2, klp_3, klp_9, KC_0, KC_1, KC_2, KC_3, KC_4, ne_eq, not_false_eq_true, not_true_eq_false, true_and, and_true, and_self, implies_true, eq_self, true_imp_iff, false_implies, Int.reduceEq, Int.reduceNe, Int.reduceMod, Int.reduceMul, Int.reduceAdd, Int.reduceSub, Int.reduceLT, Int.reduceLE, Nat.reduceAdd, Nat.reduceLeDiff, Nat.reduceLT, Nat.reduceSub, reduceIte, wds_n, wds_0, wds_1, wds_2, wds_3, or_true, true_or, or_false, false_or, or_self, false_and, and_false, d_pos, d_s1, d_s2, d_s3, d_s4, d_s5, d_s6, d_s7, d_s8, Classical.not_not, z6603_11, z9446_l, z9446_19, W, c, le_sub1, le_T, le_F, lt_T, lt_F, eq_F, w32_T, bz0, bz1, lc_le, lc_ge, lc_lt, lc_gt, lc_eq]
theorem s329y_19 (K : TKf tp t s fu h) (T : TOK tp t s) (S : STS h) (a : tkK tp t s = 1) (c : wdT tp t s = 1668247673) : G fz1 (d + 6) 329 2 [(3, 6603), (0, 19)] [] h Q = Q 0 h := by
  have W : ∀ Q : Int → HV → Prop, Sp fz1 (d + 5) 327 [(3, 6603), (3, -3891)] h Q = Q 1 h := fun Q => by rw [iw_copy K T S, if_pos ⟨a, c⟩]
  rw [q329_2]
  simp (implicitDefEqProofs := false) (disch := omega) only [b329_2, b329_3, b329_4, q329_3, q329_4, x_aaload, x_alen, x_aload0, y_call327, x_freturn, x_gc_11355, x_goto_2, x_iconst, x_ifCond_eq_3, x_if_icmp_ge_4, x_iinc1, x_iload1, klp_0, klp_1, klp_2, klp_3, klp_9, KC_0, KC_1, KC_2, KC_3, KC_4, ne_eq, not_false_eq_true, not_true_eq_false, true_and, and_true, and_self, implies_true, eq_self, true_imp_iff, false_implies, Int.reduceEq, Int.reduceNe, Int.reduceMod, Int.reduceMul, Int.reduceAdd, Int.reduceSub, Int.reduceLT, Int.reduceLE, Nat.reduceAdd, Nat.reduceLeDiff, Nat.reduceLT, Nat.reduceSub, reduceIte, wds_n, wds_0, wds_1, wds_2, wds_3, or_true, true_or, or_false, false_or, or_self, false_and, and_false, d_pos, d_s1, d_s2, d_s3, d_s4, d_s5, d_s6, d_s7, d_s8, Classical.not_not, z6603_11, z9446_l, z9446_19, W, c, le_sub1, le_T, le_F, lt_T, lt_F, eq_F, w32_T, bz0, bz1, lc_le, lc_ge, lc_lt, lc_gt, lc_eq]
theorem s329n_20 (K : TKf tp t s fu h) (T : TOK tp t s) (S : STS h) (a : tkK tp t s = 1) (c : ¬ wdT tp t s = 110404120962149) : G fz1 (d + 6) 329 2 [(3, 6603), (0, 20)] [] h Q = G fz1 (d + 6) 329 2 [(3, 6603), (0, 21)] [] h Q := by
  have W : ∀ Q : Int → HV → Prop, Sp fz1 (d + 5) 327 [(3, 6603), (3, -4019)] h Q = Q 0 h := fun Q => by rw [iw_divide K T S, if_neg (fun w => c w.2)]
  rw [q329_2]
  simp (implicitDefEqProofs := false) (disch := omega) only [b329_2, b329_3, b329_4, q329_3, q329_4, x_aaload, x_alen, x_aload0, y_call327, x_freturn, x_gc_11355, x_goto_2, x_iconst, x_ifCond_eq_3, x_if_icmp_ge_4, x_iinc1, x_iload1, klp_0, klp_1, klp_2, klp_3, klp_9, KC_0, KC_1, KC_2, KC_3, KC_4, ne_eq, not_false_eq_true, not_true_eq_false, true_and, and_true, and_self, implies_true, eq_self, true_imp_iff, false_implies, Int.reduceEq, Int.reduceNe, Int.reduceMod, Int.reduceMul, Int.reduceAdd, Int.reduceSub, Int.reduceLT, Int.reduceLE, Nat.reduceAdd, Nat.reduceLeDiff, Nat.reduceLT, Nat.reduceSub, reduceIte, wds_n, wds_0, wds_1, wds_2, wds_3, or_true, true_or, or_false, false_or, or_self, false_and, and_false, d_pos, d_s1, d_s2, d_s3, d_s4, d_s5, d_s6, d_s7, d_s8, Classical.not_not, z6603_11, z9446_l, z9446_20, W, c, le_sub1, le_T, le_F, lt_T, lt_F, eq_F, w32_T, bz0, bz1, lc_le, lc_ge, lc_lt, lc_gt, lc_eq]
theorem s329y_20 (K : TKf tp t s fu h) (T : TOK tp t s) (S : STS h) (a : tkK tp t s = 1) (c : wdT tp t s = 110404120962149) : G fz1 (d + 6) 329 2 [(3, 6603), (0, 20)] [] h Q = Q 0 h := by
  have W : ∀ Q : Int → HV → Prop, Sp fz1 (d + 5) 327 [(3, 6603), (3, -4019)] h Q = Q 1 h := fun Q => by rw [iw_divide K T S, if_pos ⟨a, c⟩]
  rw [q329_2]
  simp (implicitDefEqProofs := false) (disch := omega) only [b329_2, b329_3, b329_4, q329_3, q329_4, x_aaload, x_alen, x_aload0, y_call327, x_freturn, x_gc_11355, x_goto_2, x_iconst, x_ifCond_eq_3, x_if_icmp_ge_4, x_iinc1, x_iload1, klp_0, klp_1, klp_2, klp_3, klp_9, KC_0, KC_1, KC_2, KC_3, KC_4, ne_eq, not_false_eq_true, not_true_eq_false, true_and, and_true, and_self, implies_true, eq_self, true_imp_iff, false_implies, Int.reduceEq, Int.reduceNe, Int.reduceMod, Int.reduceMul, Int.reduceAdd, Int.reduceSub, Int.reduceLT, Int.reduceLE, Nat.reduceAdd, Nat.reduceLeDiff, Nat.reduceLT, Nat.reduceSub, reduceIte, wds_n, wds_0, wds_1, wds_2, wds_3, or_true, true_or, or_false, false_or, or_self, false_and, and_false, d_pos, d_s1, d_s2, d_s3, d_s4, d_s5, d_s6, d_s7, d_s8, Classical.not_not, z6603_11, z9446_l, z9446_20, W, c, le_sub1, le_T, le_F, lt_T, lt_F, eq_F, w32_T, bz0, bz1, lc_le, lc_ge, lc_lt, lc_gt, lc_eq]
theorem s329n_21 (K : TKf tp t s fu h) (T : TOK tp t s) (S : STS h) (a : tkK tp t s = 1) (c : ¬ wdT tp t s = 452823639416) : G fz1 (d + 6) 329 2 [(3, 6603), (0, 21)] [] h Q = G fz1 (d + 6) 329 2 [(3, 6603), (0, 22)] [] h Q := by
  have W : ∀ Q : Int → HV → Prop, Sp fz1 (d + 5) 327 [(3, 6603), (3, -4147)] h Q = Q 0 h := fun Q => by rw [iw_index K T S, if_neg (fun w => c w.2)]
  rw [q329_2]
  simp (implicitDefEqProofs := false) (disch := omega) only [b329_2, b329_3, b329_4, q329_3, q329_4, x_aaload, x_alen, x_aload0, y_call327, x_freturn, x_gc_11355, x_goto_2, x_iconst, x_ifCond_eq_3, x_if_icmp_ge_4, x_iinc1, x_iload1, klp_0, klp_1, klp_2, klp_3, klp_9, KC_0, KC_1, KC_2, KC_3, KC_4, ne_eq, not_false_eq_true, not_true_eq_false, true_and, and_true, and_self, implies_true, eq_self, true_imp_iff, false_implies, Int.reduceEq, Int.reduceNe, Int.reduceMod, Int.reduceMul, Int.reduceAdd, Int.reduceSub, Int.reduceLT, Int.reduceLE, Nat.reduceAdd, Nat.reduceLeDiff, Nat.reduceLT, Nat.reduceSub, reduceIte, wds_n, wds_0, wds_1, wds_2, wds_3, or_true, true_or, or_false, false_or, or_self, false_and, and_false, d_pos, d_s1, d_s2, d_s3, d_s4, d_s5, d_s6, d_s7, d_s8, Classical.not_not, z6603_11, z9446_l, z9446_21, W, c, le_sub1, le_T, le_F, lt_T, lt_F, eq_F, w32_T, bz0, bz1, lc_le, lc_ge, lc_lt, lc_gt, lc_eq]
theorem s329y_21 (K : TKf tp t s fu h) (T : TOK tp t s) (S : STS h) (a : tkK tp t s = 1) (c : wdT tp t s = 452823639416) : G fz1 (d + 6) 329 2 [(3, 6603), (0, 21)] [] h Q = Q 0 h := by
  have W : ∀ Q : Int → HV → Prop, Sp fz1 (d + 5) 327 [(3, 6603), (3, -4147)] h Q = Q 1 h := fun Q => by rw [iw_index K T S, if_pos ⟨a, c⟩]
  rw [q329_2]
  simp (implicitDefEqProofs := false) (disch := omega) only [b329_2, b329_3, b329_4, q329_3, q329_4, x_aaload, x_alen, x_aload0, y_call327, x_freturn, x_gc_11355, x_goto_2, x_iconst, x_ifCond_eq_3, x_if_icmp_ge_4, x_iinc1, x_iload1, klp_0, klp_1, klp_2, klp_3, klp_9, KC_0, KC_1, KC_2, KC_3, KC_4, ne_eq, not_false_eq_true, not_true_eq_false, true_and, and_true, and_self, implies_true, eq_self, true_imp_iff, false_implies, Int.reduceEq, Int.reduceNe, Int.reduceMod, Int.reduceMul, Int.reduceAdd, Int.reduceSub, Int.reduceLT, Int.reduceLE, Nat.reduceAdd, Nat.reduceLeDiff, Nat.reduceLT, Nat.reduceSub, reduceIte, wds_n, wds_0, wds_1, wds_2, wds_3, or_true, true_or, or_false, false_or, or_self, false_and, and_false, d_pos, d_s1, d_s2, d_s3, d_s4, d_s5, d_s6, d_s7, d_s8, Classical.not_not, z6603_11, z9446_l, z9446_21, W, c, le_sub1, le_T, le_F, lt_T, lt_F, eq_F, w32_T, bz0, bz1, lc_le, lc_ge, lc_lt, lc_gt, lc_eq]
theorem s329n_22 (K : TKf tp t s fu h) (T : TOK tp t s) (S : STS h) (a : tkK tp t s = 1) (c : ¬ wdT tp t s = 1853189228) : G fz1 (d + 6) 329 2 [(3, 6603), (0, 22)] [] h Q = G fz1 (d + 6) 329 2 [(3, 6603), (0, 23)] [] h Q := by
  have W : ∀ Q : Int → HV → Prop, Sp fz1 (d + 5) 327 [(3, 6603), (3, -4275)] h Q = Q 0 h := fun Q => by rw [iw_null K T S, if_neg (fun w => c w.2)]
  rw [q329_2]
  simp (implicitDefEqProofs := false) (disch := omega) only [b329_2, b329_3, b329_4, q329_3, q329_4, x_aaload, x_alen, x_aload0, y_call327, x_freturn, x_gc_11355, x_goto_2, x_iconst, x_ifCond_eq_3, x_if_icmp_ge_4, x_iinc1, x_iload1, klp_0, klp_1, klp_2, klp_3, klp_9, KC_0, KC_1, KC_2, KC_3, KC_4, ne_eq, not_false_eq_true, not_true_eq_false, true_and, and_true, and_self, implies_true, eq_self, true_imp_iff, false_implies, Int.reduceEq, Int.reduceNe, Int.reduceMod, Int.reduceMul, Int.reduceAdd, Int.reduceSub, Int.reduceLT, Int.reduceLE, Nat.reduceAdd, Nat.reduceLeDiff, Nat.reduceLT, Nat.reduceSub, reduceIte, wds_n, wds_0, wds_1, wds_2, wds_3, or_true, true_or, or_false, false_or, or_self, false_and, and_false, d_pos, d_s1, d_s2, d_s3, d_s4, d_s5, d_s6, d_s7, d_s8, Classical.not_not, z6603_11, z9446_l, z9446_22, W, c, le_sub1, le_T, le_F, lt_T, lt_F, eq_F, w32_T, bz0, bz1, lc_le, lc_ge, lc_lt, lc_gt, lc_eq]
theorem s329y_22 (K : TKf tp t s fu h) (T : TOK tp t s) (S : STS h) (a : tkK tp t s = 1) (c : wdT tp t s = 1853189228) : G fz1 (d + 6) 329 2 [(3, 6603), (0, 22)] [] h Q = Q 0 h := by
  have W : ∀ Q : Int → HV → Prop, Sp fz1 (d + 5) 327 [(3, 6603), (3, -4275)] h Q = Q 1 h := fun Q => by rw [iw_null K T S, if_pos ⟨a, c⟩]
  rw [q329_2]
  simp (implicitDefEqProofs := false) (disch := omega) only [b329_2, b329_3, b329_4, q329_3, q329_4, x_aaload, x_alen, x_aload0, y_call327, x_freturn, x_gc_11355, x_goto_2, x_iconst, x_ifCond_eq_3, x_if_icmp_ge_4, x_iinc1, x_iload1, klp_0, klp_1, klp_2, klp_3, klp_9, KC_0, KC_1, KC_2, KC_3, KC_4, ne_eq, not_false_eq_true, not_true_eq_false, true_and, and_true, and_self, implies_true, eq_self, true_imp_iff, false_implies, Int.reduceEq, Int.reduceNe, Int.reduceMod, Int.reduceMul, Int.reduceAdd, Int.reduceSub, Int.reduceLT, Int.reduceLE, Nat.reduceAdd, Nat.reduceLeDiff, Nat.reduceLT, Nat.reduceSub, reduceIte, wds_n, wds_0, wds_1, wds_2, wds_3, or_true, true_or, or_false, false_or, or_self, false_and, and_false, d_pos, d_s1, d_s2, d_s3, d_s4, d_s5, d_s6, d_s7, d_s8, Classical.not_not, z6603_11, z9446_l, z9446_22, W, c, le_sub1, le_T, le_F, lt_T, lt_F, eq_F, w32_T, bz0, bz1, lc_le, lc_ge, lc_lt, lc_gt, lc_eq]
theorem s329n_23 (K : TKf tp t s fu h) (T : TOK tp t s) (S : STS h) (a : tkK tp t s = 1) (c : ¬ wdT tp t s = 1667330932) : G fz1 (d + 6) 329 2 [(3, 6603), (0, 23)] [] h Q = G fz1 (d + 6) 329 2 [(3, 6603), (0, 24)] [] h Q := by
  have W : ∀ Q : Int → HV → Prop, Sp fz1 (d + 5) 327 [(3, 6603), (3, -4403)] h Q = Q 0 h := fun Q => by rw [iw_cast K T S, if_neg (fun w => c w.2)]
  rw [q329_2]
  simp (implicitDefEqProofs := false) (disch := omega) only [b329_2, b329_3, b329_4, q329_3, q329_4, x_aaload, x_alen, x_aload0, y_call327, x_freturn, x_gc_11355, x_goto_2, x_iconst, x_ifCond_eq_3, x_if_icmp_ge_4, x_iinc1, x_iload1, klp_0, klp_1, klp_2, klp_3, klp_9, KC_0, KC_1, KC_2, KC_3, KC_4, ne_eq, not_false_eq_true, not_true_eq_false, true_and, and_true, and_self, implies_true, eq_self, true_imp_iff, false_implies, Int.reduceEq, Int.reduceNe, Int.reduceMod, Int.reduceMul, Int.reduceAdd, Int.reduceSub, Int.reduceLT, Int.reduceLE, Nat.reduceAdd, Nat.reduceLeDiff, Nat.reduceLT, Nat.reduceSub, reduceIte, wds_n, wds_0, wds_1, wds_2, wds_3, or_true, true_or, or_false, false_or, or_self, false_and, and_false, d_pos, d_s1, d_s2, d_s3, d_s4, d_s5, d_s6, d_s7, d_s8, Classical.not_not, z6603_11, z9446_l, z9446_23, W, c, le_sub1, le_T, le_F, lt_T, lt_F, eq_F, w32_T, bz0, bz1, lc_le, lc_ge, lc_lt, lc_gt, lc_eq]
theorem s329y_23 (K : TKf tp t s fu h) (T : TOK tp t s) (S : STS h) (a : tkK tp t s = 1) (c : wdT tp t s = 1667330932) : G fz1 (d + 6) 329 2 [(3, 6603), (0, 23)] [] h Q = Q 0 h := by
  have W : ∀ Q : Int → HV → Prop, Sp fz1 (d + 5) 327 [(3, 6603), (3, -4403)] h Q = Q 1 h := fun Q => by rw [iw_cast K T S, if_pos ⟨a, c⟩]
  rw [q329_2]
  simp (implicitDefEqProofs := false) (disch := omega) only [b329_2, b329_3, b329_4, q329_3, q329_4, x_aaload, x_alen, x_aload0, y_call327, x_freturn, x_gc_11355, x_goto_2, x_iconst, x_ifCond_eq_3, x_if_icmp_ge_4, x_iinc1, x_iload1, klp_0, klp_1, klp_2, klp_3, klp_9, KC_0, KC_1, KC_2, KC_3, KC_4, ne_eq, not_false_eq_true, not_true_eq_false, true_and, and_true, and_self, implies_true, eq_self, true_imp_iff, false_implies, Int.reduceEq, Int.reduceNe, Int.reduceMod, Int.reduceMul, Int.reduceAdd, Int.reduceSub, Int.reduceLT, Int.reduceLE, Nat.reduceAdd, Nat.reduceLeDiff, Nat.reduceLT, Nat.reduceSub, reduceIte, wds_n, wds_0, wds_1, wds_2, wds_3, or_true, true_or, or_false, false_or, or_self, false_and, and_false, d_pos, d_s1, d_s2, d_s3, d_s4, d_s5, d_s6, d_s7, d_s8, Classical.not_not, z6603_11, z9446_l, z9446_23, W, c, le_sub1, le_T, le_F, lt_T, lt_F, eq_F, w32_T, bz0, bz1, lc_le, lc_ge, lc_lt, lc_gt, lc_eq]
theorem s329n_24 (K : TKf tp t s fu h) (T : TOK tp t s) (S : STS h) (a : tkK tp t s = 1) (c : ¬ wdT tp t s = 1936292453) : G fz1 (d + 6) 329 2 [(3, 6603), (0, 24)] [] h Q = G fz1 (d + 6) 329 2 [(3, 6603), (0, 25)] [] h Q := by
  have W : ∀ Q : Int → HV → Prop, Sp fz1 (d + 5) 327 [(3, 6603), (3, -4531)] h Q = Q 0 h := fun Q => by rw [iw_size K T S, if_neg (fun w => c w.2)]
  rw [q329_2]
  simp (implicitDefEqProofs := false) (disch := omega) only [b329_2, b329_3, b329_4, q329_3, q329_4, x_aaload, x_alen, x_aload0, y_call327, x_freturn, x_gc_11355, x_goto_2, x_iconst, x_ifCond_eq_3, x_if_icmp_ge_4, x_iinc1, x_iload1, klp_0, klp_1, klp_2, klp_3, klp_9, KC_0, KC_1, KC_2, KC_3, KC_4, ne_eq, not_false_eq_true, not_true_eq_false, true_and, and_true, and_self, implies_true, eq_self, true_imp_iff, false_implies, Int.reduceEq, Int.reduceNe, Int.reduceMod, Int.reduceMul, Int.reduceAdd, Int.reduceSub, Int.reduceLT, Int.reduceLE, Nat.reduceAdd, Nat.reduceLeDiff, Nat.reduceLT, Nat.reduceSub, reduceIte, wds_n, wds_0, wds_1, wds_2, wds_3, or_true, true_or, or_false, false_or, or_self, false_and, and_false, d_pos, d_s1, d_s2, d_s3, d_s4, d_s5, d_s6, d_s7, d_s8, Classical.not_not, z6603_11, z9446_l, z9446_24, W, c, le_sub1, le_T, le_F, lt_T, lt_F, eq_F, w32_T, bz0, bz1, lc_le, lc_ge, lc_lt, lc_gt, lc_eq]
theorem s329y_24 (K : TKf tp t s fu h) (T : TOK tp t s) (S : STS h) (a : tkK tp t s = 1) (c : wdT tp t s = 1936292453) : G fz1 (d + 6) 329 2 [(3, 6603), (0, 24)] [] h Q = Q 0 h := by
  have W : ∀ Q : Int → HV → Prop, Sp fz1 (d + 5) 327 [(3, 6603), (3, -4531)] h Q = Q 1 h := fun Q => by rw [iw_size K T S, if_pos ⟨a, c⟩]
  rw [q329_2]
  simp (implicitDefEqProofs := false) (disch := omega) only [b329_2, b329_3, b329_4, q329_3, q329_4, x_aaload, x_alen, x_aload0, y_call327, x_freturn, x_gc_11355, x_goto_2, x_iconst, x_ifCond_eq_3, x_if_icmp_ge_4, x_iinc1, x_iload1, klp_0, klp_1, klp_2, klp_3, klp_9, KC_0, KC_1, KC_2, KC_3, KC_4, ne_eq, not_false_eq_true, not_true_eq_false, true_and, and_true, and_self, implies_true, eq_self, true_imp_iff, false_implies, Int.reduceEq, Int.reduceNe, Int.reduceMod, Int.reduceMul, Int.reduceAdd, Int.reduceSub, Int.reduceLT, Int.reduceLE, Nat.reduceAdd, Nat.reduceLeDiff, Nat.reduceLT, Nat.reduceSub, reduceIte, wds_n, wds_0, wds_1, wds_2, wds_3, or_true, true_or, or_false, false_or, or_self, false_and, and_false, d_pos, d_s1, d_s2, d_s3, d_s4, d_s5, d_s6, d_s7, d_s8, Classical.not_not, z6603_11, z9446_l, z9446_24, W, c, le_sub1, le_T, le_F, lt_T, lt_F, eq_F, w32_T, bz0, bz1, lc_le, lc_ge, lc_lt, lc_gt, lc_eq]
theorem s329n_25 (K : TKf tp t s fu h) (T : TOK tp t s) (S : STS h) (a : tkK tp t s = 1) (c : ¬ wdT tp t s = 495874699877) : G fz1 (d + 6) 329 2 [(3, 6603), (0, 25)] [] h Q = G fz1 (d + 6) 329 2 [(3, 6603), (0, 26)] [] h Q := by
  have W : ∀ Q : Int → HV → Prop, Sp fz1 (d + 5) 327 [(3, 6603), (3, -4659)] h Q = Q 0 h := fun Q => by rw [iw_store K T S, if_neg (fun w => c w.2)]
  rw [q329_2]
  simp (implicitDefEqProofs := false) (disch := omega) only [b329_2, b329_3, b329_4, q329_3, q329_4, x_aaload, x_alen, x_aload0, y_call327, x_freturn, x_gc_11355, x_goto_2, x_iconst, x_ifCond_eq_3, x_if_icmp_ge_4, x_iinc1, x_iload1, klp_0, klp_1, klp_2, klp_3, klp_9, KC_0, KC_1, KC_2, KC_3, KC_4, ne_eq, not_false_eq_true, not_true_eq_false, true_and, and_true, and_self, implies_true, eq_self, true_imp_iff, false_implies, Int.reduceEq, Int.reduceNe, Int.reduceMod, Int.reduceMul, Int.reduceAdd, Int.reduceSub, Int.reduceLT, Int.reduceLE, Nat.reduceAdd, Nat.reduceLeDiff, Nat.reduceLT, Nat.reduceSub, reduceIte, wds_n, wds_0, wds_1, wds_2, wds_3, or_true, true_or, or_false, false_or, or_self, false_and, and_false, d_pos, d_s1, d_s2, d_s3, d_s4, d_s5, d_s6, d_s7, d_s8, Classical.not_not, z6603_11, z9446_l, z9446_25, W, c, le_sub1, le_T, le_F, lt_T, lt_F, eq_F, w32_T, bz0, bz1, lc_le, lc_ge, lc_lt, lc_gt, lc_eq]
theorem s329y_25 (K : TKf tp t s fu h) (T : TOK tp t s) (S : STS h) (a : tkK tp t s = 1) (c : wdT tp t s = 495874699877) : G fz1 (d + 6) 329 2 [(3, 6603), (0, 25)] [] h Q = Q 0 h := by
  have W : ∀ Q : Int → HV → Prop, Sp fz1 (d + 5) 327 [(3, 6603), (3, -4659)] h Q = Q 1 h := fun Q => by rw [iw_store K T S, if_pos ⟨a, c⟩]
  rw [q329_2]
  simp (implicitDefEqProofs := false) (disch := omega) only [b329_2, b329_3, b329_4, q329_3, q329_4, x_aaload, x_alen, x_aload0, y_call327, x_freturn, x_gc_11355, x_goto_2, x_iconst, x_ifCond_eq_3, x_if_icmp_ge_4, x_iinc1, x_iload1, klp_0, klp_1, klp_2, klp_3, klp_9, KC_0, KC_1, KC_2, KC_3, KC_4, ne_eq, not_false_eq_true, not_true_eq_false, true_and, and_true, and_self, implies_true, eq_self, true_imp_iff, false_implies, Int.reduceEq, Int.reduceNe, Int.reduceMod, Int.reduceMul, Int.reduceAdd, Int.reduceSub, Int.reduceLT, Int.reduceLE, Nat.reduceAdd, Nat.reduceLeDiff, Nat.reduceLT, Nat.reduceSub, reduceIte, wds_n, wds_0, wds_1, wds_2, wds_3, or_true, true_or, or_false, false_or, or_self, false_and, and_false, d_pos, d_s1, d_s2, d_s3, d_s4, d_s5, d_s6, d_s7, d_s8, Classical.not_not, z6603_11, z9446_l, z9446_25, W, c, le_sub1, le_T, le_F, lt_T, lt_F, eq_F, w32_T, bz0, bz1, lc_le, lc_ge, lc_lt, lc_gt, lc_eq]
theorem s329n_26 (K : TKf tp t s fu h) (T : TOK tp t s) (S : STS h) (a : tkK tp t s = 1) (c : ¬ wdT tp t s = 435811345268) : G fz1 (d + 6) 329 2 [(3, 6603), (0, 26)] [] h Q = G fz1 (d + 6) 329 2 [(3, 6603), (0, 27)] [] h Q := by
  have W : ∀ Q : Int → HV → Prop, Sp fz1 (d + 5) 327 [(3, 6603), (3, -4787)] h Q = Q 0 h := fun Q => by rw [iw_exact K T S, if_neg (fun w => c w.2)]
  rw [q329_2]
  simp (implicitDefEqProofs := false) (disch := omega) only [b329_2, b329_3, b329_4, q329_3, q329_4, x_aaload, x_alen, x_aload0, y_call327, x_freturn, x_gc_11355, x_goto_2, x_iconst, x_ifCond_eq_3, x_if_icmp_ge_4, x_iinc1, x_iload1, klp_0, klp_1, klp_2, klp_3, klp_9, KC_0, KC_1, KC_2, KC_3, KC_4, ne_eq, not_false_eq_true, not_true_eq_false, true_and, and_true, and_self, implies_true, eq_self, true_imp_iff, false_implies, Int.reduceEq, Int.reduceNe, Int.reduceMod, Int.reduceMul, Int.reduceAdd, Int.reduceSub, Int.reduceLT, Int.reduceLE, Nat.reduceAdd, Nat.reduceLeDiff, Nat.reduceLT, Nat.reduceSub, reduceIte, wds_n, wds_0, wds_1, wds_2, wds_3, or_true, true_or, or_false, false_or, or_self, false_and, and_false, d_pos, d_s1, d_s2, d_s3, d_s4, d_s5, d_s6, d_s7, d_s8, Classical.not_not, z6603_11, z9446_l, z9446_26, W, c, le_sub1, le_T, le_F, lt_T, lt_F, eq_F, w32_T, bz0, bz1, lc_le, lc_ge, lc_lt, lc_gt, lc_eq]
theorem s329y_26 (K : TKf tp t s fu h) (T : TOK tp t s) (S : STS h) (a : tkK tp t s = 1) (c : wdT tp t s = 435811345268) : G fz1 (d + 6) 329 2 [(3, 6603), (0, 26)] [] h Q = Q 0 h := by
  have W : ∀ Q : Int → HV → Prop, Sp fz1 (d + 5) 327 [(3, 6603), (3, -4787)] h Q = Q 1 h := fun Q => by rw [iw_exact K T S, if_pos ⟨a, c⟩]
  rw [q329_2]
  simp (implicitDefEqProofs := false) (disch := omega) only [b329_2, b329_3, b329_4, q329_3, q329_4, x_aaload, x_alen, x_aload0, y_call327, x_freturn, x_gc_11355, x_goto_2, x_iconst, x_ifCond_eq_3, x_if_icmp_ge_4, x_iinc1, x_iload1, klp_0, klp_1, klp_2, klp_3, klp_9, KC_0, KC_1, KC_2, KC_3, KC_4, ne_eq, not_false_eq_true, not_true_eq_false, true_and, and_true, and_self, implies_true, eq_self, true_imp_iff, false_implies, Int.reduceEq, Int.reduceNe, Int.reduceMod, Int.reduceMul, Int.reduceAdd, Int.reduceSub, Int.reduceLT, Int.reduceLE, Nat.reduceAdd, Nat.reduceLeDiff, Nat.reduceLT, Nat.reduceSub, reduceIte, wds_n, wds_0, wds_1, wds_2, wds_3, or_true, true_or, or_false, false_or, or_self, false_and, and_false, d_pos, d_s1, d_s2, d_s3, d_s4, d_s5, d_s6, d_s7, d_s8, Classical.not_not, z6603_11, z9446_l, z9446_26, W, c, le_sub1, le_T, le_F, lt_T, lt_F, eq_F, w32_T, bz0, bz1, lc_le, lc_ge, lc_lt, lc_gt, lc_eq]
theorem s329n_27 (K : TKf tp t s fu h) (T : TOK tp t s) (S : STS h) (a : tkK tp t s = 1) (c : ¬ wdT tp t s = 1852796517) : G fz1 (d + 6) 329 2 [(3, 6603), (0, 27)] [] h Q = G fz1 (d + 6) 329 2 [(3, 6603), (0, 28)] [] h Q := by
  have W : ∀ Q : Int → HV → Prop, Sp fz1 (d + 5) 327 [(3, 6603), (3, -1331)] h Q = Q 0 h := fun Q => by rw [iw_none K T S, if_neg (fun w => c w.2)]
  rw [q329_2]
  simp (implicitDefEqProofs := false) (disch := omega) only [b329_2, b329_3, b329_4, q329_3, q329_4, x_aaload, x_alen, x_aload0, y_call327, x_freturn, x_gc_11355, x_goto_2, x_iconst, x_ifCond_eq_3, x_if_icmp_ge_4, x_iinc1, x_iload1, klp_0, klp_1, klp_2, klp_3, klp_9, KC_0, KC_1, KC_2, KC_3, KC_4, ne_eq, not_false_eq_true, not_true_eq_false, true_and, and_true, and_self, implies_true, eq_self, true_imp_iff, false_implies, Int.reduceEq, Int.reduceNe, Int.reduceMod, Int.reduceMul, Int.reduceAdd, Int.reduceSub, Int.reduceLT, Int.reduceLE, Nat.reduceAdd, Nat.reduceLeDiff, Nat.reduceLT, Nat.reduceSub, reduceIte, wds_n, wds_0, wds_1, wds_2, wds_3, or_true, true_or, or_false, false_or, or_self, false_and, and_false, d_pos, d_s1, d_s2, d_s3, d_s4, d_s5, d_s6, d_s7, d_s8, Classical.not_not, z6603_11, z9446_l, z9446_27, W, c, le_sub1, le_T, le_F, lt_T, lt_F, eq_F, w32_T, bz0, bz1, lc_le, lc_ge, lc_lt, lc_gt, lc_eq]
theorem s329y_27 (K : TKf tp t s fu h) (T : TOK tp t s) (S : STS h) (a : tkK tp t s = 1) (c : wdT tp t s = 1852796517) : G fz1 (d + 6) 329 2 [(3, 6603), (0, 27)] [] h Q = Q 0 h := by
  have W : ∀ Q : Int → HV → Prop, Sp fz1 (d + 5) 327 [(3, 6603), (3, -1331)] h Q = Q 1 h := fun Q => by rw [iw_none K T S, if_pos ⟨a, c⟩]
  rw [q329_2]
  simp (implicitDefEqProofs := false) (disch := omega) only [b329_2, b329_3, b329_4, q329_3, q329_4, x_aaload, x_alen, x_aload0, y_call327, x_freturn, x_gc_11355, x_goto_2, x_iconst, x_ifCond_eq_3, x_if_icmp_ge_4, x_iinc1, x_iload1, klp_0, klp_1, klp_2, klp_3, klp_9, KC_0, KC_1, KC_2, KC_3, KC_4, ne_eq, not_false_eq_true, not_true_eq_false, true_and, and_true, and_self, implies_true, eq_self, true_imp_iff, false_implies, Int.reduceEq, Int.reduceNe, Int.reduceMod, Int.reduceMul, Int.reduceAdd, Int.reduceSub, Int.reduceLT, Int.reduceLE, Nat.reduceAdd, Nat.reduceLeDiff, Nat.reduceLT, Nat.reduceSub, reduceIte, wds_n, wds_0, wds_1, wds_2, wds_3, or_true, true_or, or_false, false_or, or_self, false_and, and_false, d_pos, d_s1, d_s2, d_s3, d_s4, d_s5, d_s6, d_s7, d_s8, Classical.not_not, z6603_11, z9446_l, z9446_27, W, c, le_sub1, le_T, le_F, lt_T, lt_F, eq_F, w32_T, bz0, bz1, lc_le, lc_ge, lc_lt, lc_gt, lc_eq]
theorem s329n_28 (K : TKf tp t s fu h) (T : TOK tp t s) (S : STS h) (a : tkK tp t s = 1) (c : ¬ wdT tp t s = 7499639) : G fz1 (d + 6) 329 2 [(3, 6603), (0, 28)] [] h Q = G fz1 (d + 6) 329 2 [(3, 6603), (0, 29)] [] h Q := by
  have W : ∀ Q : Int → HV → Prop, Sp fz1 (d + 5) 327 [(3, 6603), (3, -4915)] h Q = Q 0 h := fun Q => by rw [iw_row K T S, if_neg (fun w => c w.2)]
  rw [q329_2]
  simp (implicitDefEqProofs := false) (disch := omega) only [b329_2, b329_3, b329_4, q329_3, q329_4, x_aaload, x_alen, x_aload0, y_call327, x_freturn, x_gc_11355, x_goto_2, x_iconst, x_ifCond_eq_3, x_if_icmp_ge_4, x_iinc1, x_iload1, klp_0, klp_1, klp_2, klp_3, klp_9, KC_0, KC_1, KC_2, KC_3, KC_4, ne_eq, not_false_eq_true, not_true_eq_false, true_and, and_true, and_self, implies_true, eq_self, true_imp_iff, false_implies, Int.reduceEq, Int.reduceNe, Int.reduceMod, Int.reduceMul, Int.reduceAdd, Int.reduceSub, Int.reduceLT, Int.reduceLE, Nat.reduceAdd, Nat.reduceLeDiff, Nat.reduceLT, Nat.reduceSub, reduceIte, wds_n, wds_0, wds_1, wds_2, wds_3, or_true, true_or, or_false, false_or, or_self, false_and, and_false, d_pos, d_s1, d_s2, d_s3, d_s4, d_s5, d_s6, d_s7, d_s8, Classical.not_not, z6603_11, z9446_l, z9446_28, W, c, le_sub1, le_T, le_F, lt_T, lt_F, eq_F, w32_T, bz0, bz1, lc_le, lc_ge, lc_lt, lc_gt, lc_eq]
theorem s329y_28 (K : TKf tp t s fu h) (T : TOK tp t s) (S : STS h) (a : tkK tp t s = 1) (c : wdT tp t s = 7499639) : G fz1 (d + 6) 329 2 [(3, 6603), (0, 28)] [] h Q = Q 0 h := by
  have W : ∀ Q : Int → HV → Prop, Sp fz1 (d + 5) 327 [(3, 6603), (3, -4915)] h Q = Q 1 h := fun Q => by rw [iw_row K T S, if_pos ⟨a, c⟩]
  rw [q329_2]
  simp (implicitDefEqProofs := false) (disch := omega) only [b329_2, b329_3, b329_4, q329_3, q329_4, x_aaload, x_alen, x_aload0, y_call327, x_freturn, x_gc_11355, x_goto_2, x_iconst, x_ifCond_eq_3, x_if_icmp_ge_4, x_iinc1, x_iload1, klp_0, klp_1, klp_2, klp_3, klp_9, KC_0, KC_1, KC_2, KC_3, KC_4, ne_eq, not_false_eq_true, not_true_eq_false, true_and, and_true, and_self, implies_true, eq_self, true_imp_iff, false_implies, Int.reduceEq, Int.reduceNe, Int.reduceMod, Int.reduceMul, Int.reduceAdd, Int.reduceSub, Int.reduceLT, Int.reduceLE, Nat.reduceAdd, Nat.reduceLeDiff, Nat.reduceLT, Nat.reduceSub, reduceIte, wds_n, wds_0, wds_1, wds_2, wds_3, or_true, true_or, or_false, false_or, or_self, false_and, and_false, d_pos, d_s1, d_s2, d_s3, d_s4, d_s5, d_s6, d_s7, d_s8, Classical.not_not, z6603_11, z9446_l, z9446_28, W, c, le_sub1, le_T, le_F, lt_T, lt_F, eq_F, w32_T, bz0, bz1, lc_le, lc_ge, lc_lt, lc_gt, lc_eq]
theorem s329n_29 (K : TKf tp t s fu h) (T : TOK tp t s) (S : STS h) (a : tkK tp t s = 1) (c : ¬ wdT tp t s = 491327155315) : G fz1 (d + 6) 329 2 [(3, 6603), (0, 29)] [] h Q = G fz1 (d + 6) 329 2 [(3, 6603), (0, 30)] [] h Q := by
  have W : ∀ Q : Int → HV → Prop, Sp fz1 (d + 5) 327 [(3, 6603), (3, -5043)] h Q = Q 0 h := fun Q => by rw [iw_reals K T S, if_neg (fun w => c w.2)]
  rw [q329_2]
  simp (implicitDefEqProofs := false) (disch := omega) only [b329_2, b329_3, b329_4, q329_3, q329_4, x_aaload, x_alen, x_aload0, y_call327, x_freturn, x_gc_11355, x_goto_2, x_iconst, x_ifCond_eq_3, x_if_icmp_ge_4, x_iinc1, x_iload1, klp_0, klp_1, klp_2, klp_3, klp_9, KC_0, KC_1, KC_2, KC_3, KC_4, ne_eq, not_false_eq_true, not_true_eq_false, true_and, and_true, and_self, implies_true, eq_self, true_imp_iff, false_implies, Int.reduceEq, Int.reduceNe, Int.reduceMod, Int.reduceMul, Int.reduceAdd, Int.reduceSub, Int.reduceLT, Int.reduceLE, Nat.reduceAdd, Nat.reduceLeDiff, Nat.reduceLT, Nat.reduceSub, reduceIte, wds_n, wds_0, wds_1, wds_2, wds_3, or_true, true_or, or_false, false_or, or_self, false_and, and_false, d_pos, d_s1, d_s2, d_s3, d_s4, d_s5, d_s6, d_s7, d_s8, Classical.not_not, z6603_11, z9446_l, z9446_29, W, c, le_sub1, le_T, le_F, lt_T, lt_F, eq_F, w32_T, bz0, bz1, lc_le, lc_ge, lc_lt, lc_gt, lc_eq]
theorem s329y_29 (K : TKf tp t s fu h) (T : TOK tp t s) (S : STS h) (a : tkK tp t s = 1) (c : wdT tp t s = 491327155315) : G fz1 (d + 6) 329 2 [(3, 6603), (0, 29)] [] h Q = Q 0 h := by
  have W : ∀ Q : Int → HV → Prop, Sp fz1 (d + 5) 327 [(3, 6603), (3, -5043)] h Q = Q 1 h := fun Q => by rw [iw_reals K T S, if_pos ⟨a, c⟩]
  rw [q329_2]
  simp (implicitDefEqProofs := false) (disch := omega) only [b329_2, b329_3, b329_4, q329_3, q329_4, x_aaload, x_alen, x_aload0, y_call327, x_freturn, x_gc_11355, x_goto_2, x_iconst, x_ifCond_eq_3, x_if_icmp_ge_4, x_iinc1, x_iload1, klp_0, klp_1, klp_2, klp_3, klp_9, KC_0, KC_1, KC_2, KC_3, KC_4, ne_eq, not_false_eq_true, not_true_eq_false, true_and, and_true, and_self, implies_true, eq_self, true_imp_iff, false_implies, Int.reduceEq, Int.reduceNe, Int.reduceMod, Int.reduceMul, Int.reduceAdd, Int.reduceSub, Int.reduceLT, Int.reduceLE, Nat.reduceAdd, Nat.reduceLeDiff, Nat.reduceLT, Nat.reduceSub, reduceIte, wds_n, wds_0, wds_1, wds_2, wds_3, or_true, true_or, or_false, false_or, or_self, false_and, and_false, d_pos, d_s1, d_s2, d_s3, d_s4, d_s5, d_s6, d_s7, d_s8, Classical.not_not, z6603_11, z9446_l, z9446_29, W, c, le_sub1, le_T, le_F, lt_T, lt_F, eq_F, w32_T, bz0, bz1, lc_le, lc_ge, lc_lt, lc_gt, lc_eq]
theorem s329n_30 (K : TKf tp t s fu h) (T : TOK tp t s) (S : STS h) (a : tkK tp t s = 1) (c : ¬ wdT tp t s = 123580963646565) : G fz1 (d + 6) 329 2 [(3, 6603), (0, 30)] [] h Q = G fz1 (d + 6) 329 2 [(3, 6603), (0, 31)] [] h Q := by
  have W : ∀ Q : Int → HV → Prop, Sp fz1 (d + 5) 327 [(3, 6603), (3, -5171)] h Q = Q 0 h := fun Q => by rw [iw_people K T S, if_neg (fun w => c w.2)]
  rw [q329_2]
  simp (implicitDefEqProofs := false) (disch := omega) only [b329_2, b329_3, b329_4, q329_3, q329_4, x_aaload, x_alen, x_aload0, y_call327, x_freturn, x_gc_11355, x_goto_2, x_iconst, x_ifCond_eq_3, x_if_icmp_ge_4, x_iinc1, x_iload1, klp_0, klp_1, klp_2, klp_3, klp_9, KC_0, KC_1, KC_2, KC_3, KC_4, ne_eq, not_false_eq_true, not_true_eq_false, true_and, and_true, and_self, implies_true, eq_self, true_imp_iff, false_implies, Int.reduceEq, Int.reduceNe, Int.reduceMod, Int.reduceMul, Int.reduceAdd, Int.reduceSub, Int.reduceLT, Int.reduceLE, Nat.reduceAdd, Nat.reduceLeDiff, Nat.reduceLT, Nat.reduceSub, reduceIte, wds_n, wds_0, wds_1, wds_2, wds_3, or_true, true_or, or_false, false_or, or_self, false_and, and_false, d_pos, d_s1, d_s2, d_s3, d_s4, d_s5, d_s6, d_s7, d_s8, Classical.not_not, z6603_11, z9446_l, z9446_30, W, c, le_sub1, le_T, le_F, lt_T, lt_F, eq_F, w32_T, bz0, bz1, lc_le, lc_ge, lc_lt, lc_gt, lc_eq]
theorem s329y_30 (K : TKf tp t s fu h) (T : TOK tp t s) (S : STS h) (a : tkK tp t s = 1) (c : wdT tp t s = 123580963646565) : G fz1 (d + 6) 329 2 [(3, 6603), (0, 30)] [] h Q = Q 0 h := by
  have W : ∀ Q : Int → HV → Prop, Sp fz1 (d + 5) 327 [(3, 6603), (3, -5171)] h Q = Q 1 h := fun Q => by rw [iw_people K T S, if_pos ⟨a, c⟩]
  rw [q329_2]
  simp (implicitDefEqProofs := false) (disch := omega) only [b329_2, b329_3, b329_4, q329_3, q329_4, x_aaload, x_alen, x_aload0, y_call327, x_freturn, x_gc_11355, x_goto_2, x_iconst, x_ifCond_eq_3, x_if_icmp_ge_4, x_iinc1, x_iload1, klp_0, klp_1, klp_2, klp_3, klp_9, KC_0, KC_1, KC_2, KC_3, KC_4, ne_eq, not_false_eq_true, not_true_eq_false, true_and, and_true, and_self, implies_true, eq_self, true_imp_iff, false_implies, Int.reduceEq, Int.reduceNe, Int.reduceMod, Int.reduceMul, Int.reduceAdd, Int.reduceSub, Int.reduceLT, Int.reduceLE, Nat.reduceAdd, Nat.reduceLeDiff, Nat.reduceLT, Nat.reduceSub, reduceIte, wds_n, wds_0, wds_1, wds_2, wds_3, or_true, true_or, or_false, false_or, or_self, false_and, and_false, d_pos, d_s1, d_s2, d_s3, d_s4, d_s5, d_s6, d_s7, d_s8, Classical.not_not, z6603_11, z9446_l, z9446_30, W, c, le_sub1, le_T, le_F, lt_T, lt_F, eq_F, w32_T, bz0, bz1, lc_le, lc_ge, lc_lt, lc_gt, lc_eq]
theorem s329n_31 (K : TKf tp t s fu h) (T : TOK tp t s) (S : STS h) (a : tkK tp t s = 1) (c : ¬ wdT tp t s = 8387216960628552307) : G fz1 (d + 6) 329 2 [(3, 6603), (0, 31)] [] h Q = G fz1 (d + 6) 329 2 [(3, 6603), (0, 32)] [] h Q := by
  have W : ∀ Q : Int → HV → Prop, Sp fz1 (d + 5) 327 [(3, 6603), (3, -5299)] h Q = Q 0 h := fun Q => by rw [iw_teachers K T S, if_neg (fun w => c w.2)]
  rw [q329_2]
  simp (implicitDefEqProofs := false) (disch := omega) only [b329_2, b329_3, b329_4, q329_3, q329_4, x_aaload, x_alen, x_aload0, y_call327, x_freturn, x_gc_11355, x_goto_2, x_iconst, x_ifCond_eq_3, x_if_icmp_ge_4, x_iinc1, x_iload1, klp_0, klp_1, klp_2, klp_3, klp_9, KC_0, KC_1, KC_2, KC_3, KC_4, ne_eq, not_false_eq_true, not_true_eq_false, true_and, and_true, and_self, implies_true, eq_self, true_imp_iff, false_implies, Int.reduceEq, Int.reduceNe, Int.reduceMod, Int.reduceMul, Int.reduceAdd, Int.reduceSub, Int.reduceLT, Int.reduceLE, Nat.reduceAdd, Nat.reduceLeDiff, Nat.reduceLT, Nat.reduceSub, reduceIte, wds_n, wds_0, wds_1, wds_2, wds_3, or_true, true_or, or_false, false_or, or_self, false_and, and_false, d_pos, d_s1, d_s2, d_s3, d_s4, d_s5, d_s6, d_s7, d_s8, Classical.not_not, z6603_11, z9446_l, z9446_31, W, c, le_sub1, le_T, le_F, lt_T, lt_F, eq_F, w32_T, bz0, bz1, lc_le, lc_ge, lc_lt, lc_gt, lc_eq]
theorem s329y_31 (K : TKf tp t s fu h) (T : TOK tp t s) (S : STS h) (a : tkK tp t s = 1) (c : wdT tp t s = 8387216960628552307) : G fz1 (d + 6) 329 2 [(3, 6603), (0, 31)] [] h Q = Q 0 h := by
  have W : ∀ Q : Int → HV → Prop, Sp fz1 (d + 5) 327 [(3, 6603), (3, -5299)] h Q = Q 1 h := fun Q => by rw [iw_teachers K T S, if_pos ⟨a, c⟩]
  rw [q329_2]
  simp (implicitDefEqProofs := false) (disch := omega) only [b329_2, b329_3, b329_4, q329_3, q329_4, x_aaload, x_alen, x_aload0, y_call327, x_freturn, x_gc_11355, x_goto_2, x_iconst, x_ifCond_eq_3, x_if_icmp_ge_4, x_iinc1, x_iload1, klp_0, klp_1, klp_2, klp_3, klp_9, KC_0, KC_1, KC_2, KC_3, KC_4, ne_eq, not_false_eq_true, not_true_eq_false, true_and, and_true, and_self, implies_true, eq_self, true_imp_iff, false_implies, Int.reduceEq, Int.reduceNe, Int.reduceMod, Int.reduceMul, Int.reduceAdd, Int.reduceSub, Int.reduceLT, Int.reduceLE, Nat.reduceAdd, Nat.reduceLeDiff, Nat.reduceLT, Nat.reduceSub, reduceIte, wds_n, wds_0, wds_1, wds_2, wds_3, or_true, true_or, or_false, false_or, or_self, false_and, and_false, d_pos, d_s1, d_s2, d_s3, d_s4, d_s5, d_s6, d_s7, d_s8, Classical.not_not, z6603_11, z9446_l, z9446_31, W, c, le_sub1, le_T, le_F, lt_T, lt_F, eq_F, w32_T, bz0, bz1, lc_le, lc_ge, lc_lt, lc_gt, lc_eq]
theorem s329n_32 (K : TKf tp t s fu h) (T : TOK tp t s) (S : STS h) (a : tkK tp t s = 1) (c : ¬ wdT tp t s = 512853240933) : G fz1 (d + 6) 329 2 [(3, 6603), (0, 32)] [] h Q = G fz1 (d + 6) 329 2 [(3, 6603), (0, 33)] [] h Q := by
  have W : ∀ Q : Int → HV → Prop, Sp fz1 (d + 5) 327 [(3, 6603), (3, -5427)] h Q = Q 0 h := fun Q => by rw [iw_whole K T S, if_neg (fun w => c w.2)]
  rw [q329_2]
  simp (implicitDefEqProofs := false) (disch := omega) only [b329_2, b329_3, b329_4, q329_3, q329_4, x_aaload, x_alen, x_aload0, y_call327, x_freturn, x_gc_11355, x_goto_2, x_iconst, x_ifCond_eq_3, x_if_icmp_ge_4, x_iinc1, x_iload1, klp_0, klp_1, klp_2, klp_3, klp_9, KC_0, KC_1, KC_2, KC_3, KC_4, ne_eq, not_false_eq_true, not_true_eq_false, true_and, and_true, and_self, implies_true, eq_self, true_imp_iff, false_implies, Int.reduceEq, Int.reduceNe, Int.reduceMod, Int.reduceMul, Int.reduceAdd, Int.reduceSub, Int.reduceLT, Int.reduceLE, Nat.reduceAdd, Nat.reduceLeDiff, Nat.reduceLT, Nat.reduceSub, reduceIte, wds_n, wds_0, wds_1, wds_2, wds_3, or_true, true_or, or_false, false_or, or_self, false_and, and_false, d_pos, d_s1, d_s2, d_s3, d_s4, d_s5, d_s6, d_s7, d_s8, Classical.not_not, z6603_11, z9446_l, z9446_32, W, c, le_sub1, le_T, le_F, lt_T, lt_F, eq_F, w32_T, bz0, bz1, lc_le, lc_ge, lc_lt, lc_gt, lc_eq]
theorem s329y_32 (K : TKf tp t s fu h) (T : TOK tp t s) (S : STS h) (a : tkK tp t s = 1) (c : wdT tp t s = 512853240933) : G fz1 (d + 6) 329 2 [(3, 6603), (0, 32)] [] h Q = Q 0 h := by
  have W : ∀ Q : Int → HV → Prop, Sp fz1 (d + 5) 327 [(3, 6603), (3, -5427)] h Q = Q 1 h := fun Q => by rw [iw_whole K T S, if_pos ⟨a, c⟩]
  rw [q329_2]
  simp (implicitDefEqProofs := false) (disch := omega) only [b329_2, b329_3, b329_4, q329_3, q329_4, x_aaload, x_alen, x_aload0, y_call327, x_freturn, x_gc_11355, x_goto_2, x_iconst, x_ifCond_eq_3, x_if_icmp_ge_4, x_iinc1, x_iload1, klp_0, klp_1, klp_2, klp_3, klp_9, KC_0, KC_1, KC_2, KC_3, KC_4, ne_eq, not_false_eq_true, not_true_eq_false, true_and, and_true, and_self, implies_true, eq_self, true_imp_iff, false_implies, Int.reduceEq, Int.reduceNe, Int.reduceMod, Int.reduceMul, Int.reduceAdd, Int.reduceSub, Int.reduceLT, Int.reduceLE, Nat.reduceAdd, Nat.reduceLeDiff, Nat.reduceLT, Nat.reduceSub, reduceIte, wds_n, wds_0, wds_1, wds_2, wds_3, or_true, true_or, or_false, false_or, or_self, false_and, and_false, d_pos, d_s1, d_s2, d_s3, d_s4, d_s5, d_s6, d_s7, d_s8, Classical.not_not, z6603_11, z9446_l, z9446_32, W, c, le_sub1, le_T, le_F, lt_T, lt_F, eq_F, w32_T, bz0, bz1, lc_le, lc_ge, lc_lt, lc_gt, lc_eq]
theorem s329n_33 (K : TKf tp t s fu h) (T : TOK tp t s) (S : STS h) (a : tkK tp t s = 1) (c : ¬ wdT tp t s = 1919246700) : G fz1 (d + 6) 329 2 [(3, 6603), (0, 33)] [] h Q = G fz1 (d + 6) 329 2 [(3, 6603), (0, 34)] [] h Q := by
  have W : ∀ Q : Int → HV → Prop, Sp fz1 (d + 5) 327 [(3, 6603), (3, -5555)] h Q = Q 0 h := fun Q => by rw [iw_real K T S, if_neg (fun w => c w.2)]
  rw [q329_2]
  simp (implicitDefEqProofs := false) (disch := omega) only [b329_2, b329_3, b329_4, q329_3, q329_4, x_aaload, x_alen, x_aload0, y_call327, x_freturn, x_gc_11355, x_goto_2, x_iconst, x_ifCond_eq_3, x_if_icmp_ge_4, x_iinc1, x_iload1, klp_0, klp_1, klp_2, klp_3, klp_9, KC_0, KC_1, KC_2, KC_3, KC_4, ne_eq, not_false_eq_true, not_true_eq_false, true_and, and_true, and_self, implies_true, eq_self, true_imp_iff, false_implies, Int.reduceEq, Int.reduceNe, Int.reduceMod, Int.reduceMul, Int.reduceAdd, Int.reduceSub, Int.reduceLT, Int.reduceLE, Nat.reduceAdd, Nat.reduceLeDiff, Nat.reduceLT, Nat.reduceSub, reduceIte, wds_n, wds_0, wds_1, wds_2, wds_3, or_true, true_or, or_false, false_or, or_self, false_and, and_false, d_pos, d_s1, d_s2, d_s3, d_s4, d_s5, d_s6, d_s7, d_s8, Classical.not_not, z6603_11, z9446_l, z9446_33, W, c, le_sub1, le_T, le_F, lt_T, lt_F, eq_F, w32_T, bz0, bz1, lc_le, lc_ge, lc_lt, lc_gt, lc_eq]
theorem s329y_33 (K : TKf tp t s fu h) (T : TOK tp t s) (S : STS h) (a : tkK tp t s = 1) (c : wdT tp t s = 1919246700) : G fz1 (d + 6) 329 2 [(3, 6603), (0, 33)] [] h Q = Q 0 h := by
  have W : ∀ Q : Int → HV → Prop, Sp fz1 (d + 5) 327 [(3, 6603), (3, -5555)] h Q = Q 1 h := fun Q => by rw [iw_real K T S, if_pos ⟨a, c⟩]
  rw [q329_2]
  simp (implicitDefEqProofs := false) (disch := omega) only [b329_2, b329_3, b329_4, q329_3, q329_4, x_aaload, x_alen, x_aload0, y_call327, x_freturn, x_gc_11355, x_goto_2, x_iconst, x_ifCond_eq_3, x_if_icmp_ge_4, x_iinc1, x_iload1, klp_0, klp_1, klp_2, klp_3, klp_9, KC_0, KC_1, KC_2, KC_3, KC_4, ne_eq, not_false_eq_true, not_true_eq_false, true_and, and_true, and_self, implies_true, eq_self, true_imp_iff, false_implies, Int.reduceEq, Int.reduceNe, Int.reduceMod, Int.reduceMul, Int.reduceAdd, Int.reduceSub, Int.reduceLT, Int.reduceLE, Nat.reduceAdd, Nat.reduceLeDiff, Nat.reduceLT, Nat.reduceSub, reduceIte, wds_n, wds_0, wds_1, wds_2, wds_3, or_true, true_or, or_false, false_or, or_self, false_and, and_false, d_pos, d_s1, d_s2, d_s3, d_s4, d_s5, d_s6, d_s7, d_s8, Classical.not_not, z6603_11, z9446_l, z9446_33, W, c, le_sub1, le_T, le_F, lt_T, lt_F, eq_F, w32_T, bz0, bz1, lc_le, lc_ge, lc_lt, lc_gt, lc_eq]
theorem s329n_34 (K : TKf tp t s fu h) (T : TOK tp t s) (S : STS h) (a : tkK tp t s = 1) (c : ¬ wdT tp t s = 465490373491) : G fz1 (d + 6) 329 2 [(3, 6603), (0, 34)] [] h Q = G fz1 (d + 6) 329 2 [(3, 6603), (0, 35)] [] h Q := by
  have W : ∀ Q : Int → HV → Prop, Sp fz1 (d + 5) 327 [(3, 6603), (3, -5683)] h Q = Q 0 h := fun Q => by rw [iw_lacks K T S, if_neg (fun w => c w.2)]
  rw [q329_2]
  simp (implicitDefEqProofs := false) (disch := omega) only [b329_2, b329_3, b329_4, q329_3, q329_4, x_aaload, x_alen, x_aload0, y_call327, x_freturn, x_gc_11355, x_goto_2, x_iconst, x_ifCond_eq_3, x_if_icmp_ge_4, x_iinc1, x_iload1, klp_0, klp_1, klp_2, klp_3, klp_9, KC_0, KC_1, KC_2, KC_3, KC_4, ne_eq, not_false_eq_true, not_true_eq_false, true_and, and_true, and_self, implies_true, eq_self, true_imp_iff, false_implies, Int.reduceEq, Int.reduceNe, Int.reduceMod, Int.reduceMul, Int.reduceAdd, Int.reduceSub, Int.reduceLT, Int.reduceLE, Nat.reduceAdd, Nat.reduceLeDiff, Nat.reduceLT, Nat.reduceSub, reduceIte, wds_n, wds_0, wds_1, wds_2, wds_3, or_true, true_or, or_false, false_or, or_self, false_and, and_false, d_pos, d_s1, d_s2, d_s3, d_s4, d_s5, d_s6, d_s7, d_s8, Classical.not_not, z6603_11, z9446_l, z9446_34, W, c, le_sub1, le_T, le_F, lt_T, lt_F, eq_F, w32_T, bz0, bz1, lc_le, lc_ge, lc_lt, lc_gt, lc_eq]
theorem s329y_34 (K : TKf tp t s fu h) (T : TOK tp t s) (S : STS h) (a : tkK tp t s = 1) (c : wdT tp t s = 465490373491) : G fz1 (d + 6) 329 2 [(3, 6603), (0, 34)] [] h Q = Q 0 h := by
  have W : ∀ Q : Int → HV → Prop, Sp fz1 (d + 5) 327 [(3, 6603), (3, -5683)] h Q = Q 1 h := fun Q => by rw [iw_lacks K T S, if_pos ⟨a, c⟩]
  rw [q329_2]
  simp (implicitDefEqProofs := false) (disch := omega) only [b329_2, b329_3, b329_4, q329_3, q329_4, x_aaload, x_alen, x_aload0, y_call327, x_freturn, x_gc_11355, x_goto_2, x_iconst, x_ifCond_eq_3, x_if_icmp_ge_4, x_iinc1, x_iload1, klp_0, klp_1, klp_2, klp_3, klp_9, KC_0, KC_1, KC_2, KC_3, KC_4, ne_eq, not_false_eq_true, not_true_eq_false, true_and, and_true, and_self, implies_true, eq_self, true_imp_iff, false_implies, Int.reduceEq, Int.reduceNe, Int.reduceMod, Int.reduceMul, Int.reduceAdd, Int.reduceSub, Int.reduceLT, Int.reduceLE, Nat.reduceAdd, Nat.reduceLeDiff, Nat.reduceLT, Nat.reduceSub, reduceIte, wds_n, wds_0, wds_1, wds_2, wds_3, or_true, true_or, or_false, false_or, or_self, false_and, and_false, d_pos, d_s1, d_s2, d_s3, d_s4, d_s5, d_s6, d_s7, d_s8, Classical.not_not, z6603_11, z9446_l, z9446_34, W, c, le_sub1, le_T, le_F, lt_T, lt_F, eq_F, w32_T, bz0, bz1, lc_le, lc_ge, lc_lt, lc_gt, lc_eq]
theorem s329n_35 (K : TKf tp t s fu h) (T : TOK tp t s) (S : STS h) (a : tkK tp t s = 1) (c : ¬ wdT tp t s = 123581014175598) : G fz1 (d + 6) 329 2 [(3, 6603), (0, 35)] [] h Q = G fz1 (d + 6) 329 2 [(3, 6603), (0, 36)] [] h Q := by
  have W : ∀ Q : Int → HV → Prop, Sp fz1 (d + 5) 327 [(3, 6603), (3, -5811)] h Q = Q 0 h := fun Q => by rw [iw_person K T S, if_neg (fun w => c w.2)]
  rw [q329_2]
  simp (implicitDefEqProofs := false) (disch := omega) only [b329_2, b329_3, b329_4, q329_3, q329_4, x_aaload, x_alen, x_aload0, y_call327, x_freturn, x_gc_11355, x_goto_2, x_iconst, x_ifCond_eq_3, x_if_icmp_ge_4, x_iinc1, x_iload1, klp_0, klp_1, klp_2, klp_3, klp_9, KC_0, KC_1, KC_2, KC_3, KC_4, ne_eq, not_false_eq_true, not_true_eq_false, true_and, and_true, and_self, implies_true, eq_self, true_imp_iff, false_implies, Int.reduceEq, Int.reduceNe, Int.reduceMod, Int.reduceMul, Int.reduceAdd, Int.reduceSub, Int.reduceLT, Int.reduceLE, Nat.reduceAdd, Nat.reduceLeDiff, Nat.reduceLT, Nat.reduceSub, reduceIte, wds_n, wds_0, wds_1, wds_2, wds_3, or_true, true_or, or_false, false_or, or_self, false_and, and_false, d_pos, d_s1, d_s2, d_s3, d_s4, d_s5, d_s6, d_s7, d_s8, Classical.not_not, z6603_11, z9446_l, z9446_35, W, c, le_sub1, le_T, le_F, lt_T, lt_F, eq_F, w32_T, bz0, bz1, lc_le, lc_ge, lc_lt, lc_gt, lc_eq]
theorem s329y_35 (K : TKf tp t s fu h) (T : TOK tp t s) (S : STS h) (a : tkK tp t s = 1) (c : wdT tp t s = 123581014175598) : G fz1 (d + 6) 329 2 [(3, 6603), (0, 35)] [] h Q = Q 0 h := by
  have W : ∀ Q : Int → HV → Prop, Sp fz1 (d + 5) 327 [(3, 6603), (3, -5811)] h Q = Q 1 h := fun Q => by rw [iw_person K T S, if_pos ⟨a, c⟩]
  rw [q329_2]
  simp (implicitDefEqProofs := false) (disch := omega) only [b329_2, b329_3, b329_4, q329_3, q329_4, x_aaload, x_alen, x_aload0, y_call327, x_freturn, x_gc_11355, x_goto_2, x_iconst, x_ifCond_eq_3, x_if_icmp_ge_4, x_iinc1, x_iload1, klp_0, klp_1, klp_2, klp_3, klp_9, KC_0, KC_1, KC_2, KC_3, KC_4, ne_eq, not_false_eq_true, not_true_eq_false, true_and, and_true, and_self, implies_true, eq_self, true_imp_iff, false_implies, Int.reduceEq, Int.reduceNe, Int.reduceMod, Int.reduceMul, Int.reduceAdd, Int.reduceSub, Int.reduceLT, Int.reduceLE, Nat.reduceAdd, Nat.reduceLeDiff, Nat.reduceLT, Nat.reduceSub, reduceIte, wds_n, wds_0, wds_1, wds_2, wds_3, or_true, true_or, or_false, false_or, or_self, false_and, and_false, d_pos, d_s1, d_s2, d_s3, d_s4, d_s5, d_s6, d_s7, d_s8, Classical.not_not, z6603_11, z9446_l, z9446_35, W, c, le_sub1, le_T, le_F, lt_T, lt_F, eq_F, w32_T, bz0, bz1, lc_le, lc_ge, lc_lt, lc_gt, lc_eq]
theorem s329n_36 (K : TKf tp t s fu h) (T : TOK tp t s) (S : STS h) (a : tkK tp t s = 1) (c : ¬ wdT tp t s = 465558725996) : G fz1 (d + 6) 329 2 [(3, 6603), (0, 36)] [] h Q = G fz1 (d + 6) 329 2 [(3, 6603), (0, 37)] [] h Q := by
  have W : ∀ Q : Int → HV → Prop, Sp fz1 (d + 5) 327 [(3, 6603), (3, -5939)] h Q = Q 0 h := fun Q => by rw [iw_level K T S, if_neg (fun w => c w.2)]
  rw [q329_2]
  simp (implicitDefEqProofs := false) (disch := omega) only [b329_2, b329_3, b329_4, q329_3, q329_4, x_aaload, x_alen, x_aload0, y_call327, x_freturn, x_gc_11355, x_goto_2, x_iconst, x_ifCond_eq_3, x_if_icmp_ge_4, x_iinc1, x_iload1, klp_0, klp_1, klp_2, klp_3, klp_9, KC_0, KC_1, KC_2, KC_3, KC_4, ne_eq, not_false_eq_true, not_true_eq_false, true_and, and_true, and_self, implies_true, eq_self, true_imp_iff, false_implies, Int.reduceEq, Int.reduceNe, Int.reduceMod, Int.reduceMul, Int.reduceAdd, Int.reduceSub, Int.reduceLT, Int.reduceLE, Nat.reduceAdd, Nat.reduceLeDiff, Nat.reduceLT, Nat.reduceSub, reduceIte, wds_n, wds_0, wds_1, wds_2, wds_3, or_true, true_or, or_false, false_or, or_self, false_and, and_false, d_pos, d_s1, d_s2, d_s3, d_s4, d_s5, d_s6, d_s7, d_s8, Classical.not_not, z6603_11, z9446_l, z9446_36, W, c, le_sub1, le_T, le_F, lt_T, lt_F, eq_F, w32_T, bz0, bz1, lc_le, lc_ge, lc_lt, lc_gt, lc_eq]
theorem s329y_36 (K : TKf tp t s fu h) (T : TOK tp t s) (S : STS h) (a : tkK tp t s = 1) (c : wdT tp t s = 465558725996) : G fz1 (d + 6) 329 2 [(3, 6603), (0, 36)] [] h Q = Q 0 h := by
  have W : ∀ Q : Int → HV → Prop, Sp fz1 (d + 5) 327 [(3, 6603), (3, -5939)] h Q = Q 1 h := fun Q => by rw [iw_level K T S, if_pos ⟨a, c⟩]
  rw [q329_2]
  simp (implicitDefEqProofs := false) (disch := omega) only [b329_2, b329_3, b329_4, q329_3, q329_4, x_aaload, x_alen, x_aload0, y_call327, x_freturn, x_gc_11355, x_goto_2, x_iconst, x_ifCond_eq_3, x_if_icmp_ge_4, x_iinc1, x_iload1, klp_0, klp_1, klp_2, klp_3, klp_9, KC_0, KC_1, KC_2, KC_3, KC_4, ne_eq, not_false_eq_true, not_true_eq_false, true_and, and_true, and_self, implies_true, eq_self, true_imp_iff, false_implies, Int.reduceEq, Int.reduceNe, Int.reduceMod, Int.reduceMul, Int.reduceAdd, Int.reduceSub, Int.reduceLT, Int.reduceLE, Nat.reduceAdd, Nat.reduceLeDiff, Nat.reduceLT, Nat.reduceSub, reduceIte, wds_n, wds_0, wds_1, wds_2, wds_3, or_true, true_or, or_false, false_or, or_self, false_and, and_false, d_pos, d_s1, d_s2, d_s3, d_s4, d_s5, d_s6, d_s7, d_s8, Classical.not_not, z6603_11, z9446_l, z9446_36, W, c, le_sub1, le_T, le_F, lt_T, lt_F, eq_F, w32_T, bz0, bz1, lc_le, lc_ge, lc_lt, lc_gt, lc_eq]
theorem s329n_37 (K : TKf tp t s fu h) (T : TOK tp t s) (S : STS h) (a : tkK tp t s = 1) (c : ¬ wdT tp t s = 469786323827) : G fz1 (d + 6) 329 2 [(3, 6603), (0, 37)] [] h Q = G fz1 (d + 6) 329 2 [(3, 6603), (0, 38)] [] h Q := by
  have W : ∀ Q : Int → HV → Prop, Sp fz1 (d + 5) 327 [(3, 6603), (3, -6067)] h Q = Q 0 h := fun Q => by rw [iw_marks K T S, if_neg (fun w => c w.2)]
  rw [q329_2]
  simp (implicitDefEqProofs := false) (disch := omega) only [b329_2, b329_3, b329_4, q329_3, q329_4, x_aaload, x_alen, x_aload0, y_call327, x_freturn, x_gc_11355, x_goto_2, x_iconst, x_ifCond_eq_3, x_if_icmp_ge_4, x_iinc1, x_iload1, klp_0, klp_1, klp_2, klp_3, klp_9, KC_0, KC_1, KC_2, KC_3, KC_4, ne_eq, not_false_eq_true, not_true_eq_false, true_and, and_true, and_self, implies_true, eq_self, true_imp_iff, false_implies, Int.reduceEq, Int.reduceNe, Int.reduceMod, Int.reduceMul, Int.reduceAdd, Int.reduceSub, Int.reduceLT, Int.reduceLE, Nat.reduceAdd, Nat.reduceLeDiff, Nat.reduceLT, Nat.reduceSub, reduceIte, wds_n, wds_0, wds_1, wds_2, wds_3, or_true, true_or, or_false, false_or, or_self, false_and, and_false, d_pos, d_s1, d_s2, d_s3, d_s4, d_s5, d_s6, d_s7, d_s8, Classical.not_not, z6603_11, z9446_l, z9446_37, W, c, le_sub1, le_T, le_F, lt_T, lt_F, eq_F, w32_T, bz0, bz1, lc_le, lc_ge, lc_lt, lc_gt, lc_eq]
theorem s329y_37 (K : TKf tp t s fu h) (T : TOK tp t s) (S : STS h) (a : tkK tp t s = 1) (c : wdT tp t s = 469786323827) : G fz1 (d + 6) 329 2 [(3, 6603), (0, 37)] [] h Q = Q 0 h := by
  have W : ∀ Q : Int → HV → Prop, Sp fz1 (d + 5) 327 [(3, 6603), (3, -6067)] h Q = Q 1 h := fun Q => by rw [iw_marks K T S, if_pos ⟨a, c⟩]
  rw [q329_2]
  simp (implicitDefEqProofs := false) (disch := omega) only [b329_2, b329_3, b329_4, q329_3, q329_4, x_aaload, x_alen, x_aload0, y_call327, x_freturn, x_gc_11355, x_goto_2, x_iconst, x_ifCond_eq_3, x_if_icmp_ge_4, x_iinc1, x_iload1, klp_0, klp_1, klp_2, klp_3, klp_9, KC_0, KC_1, KC_2, KC_3, KC_4, ne_eq, not_false_eq_true, not_true_eq_false, true_and, and_true, and_self, implies_true, eq_self, true_imp_iff, false_implies, Int.reduceEq, Int.reduceNe, Int.reduceMod, Int.reduceMul, Int.reduceAdd, Int.reduceSub, Int.reduceLT, Int.reduceLE, Nat.reduceAdd, Nat.reduceLeDiff, Nat.reduceLT, Nat.reduceSub, reduceIte, wds_n, wds_0, wds_1, wds_2, wds_3, or_true, true_or, or_false, false_or, or_self, false_and, and_false, d_pos, d_s1, d_s2, d_s3, d_s4, d_s5, d_s6, d_s7, d_s8, Classical.not_not, z6603_11, z9446_l, z9446_37, W, c, le_sub1, le_T, le_F, lt_T, lt_F, eq_F, w32_T, bz0, bz1, lc_le, lc_ge, lc_lt, lc_gt, lc_eq]
theorem v329e : G fz1 (d + 6) 329 2 [(3, 6603), (0, 38)] [] h Q = Q 1 h := by
  rw [q329_2]
  simp (implicitDefEqProofs := false) (disch := omega) only [b329_2, b329_4, q329_4, x_aaload, x_alen, x_aload0, y_call327, x_freturn, x_gc_11355, x_iconst, x_ifCond_eq_3, x_if_icmp_ge_4, x_iload1, klp_0, klp_1, klp_2, klp_3, klp_9, KC_0, KC_1, KC_2, KC_3, KC_4, ne_eq, not_false_eq_true, not_true_eq_false, true_and, and_true, and_self, implies_true, eq_self, true_imp_iff, false_implies, Int.reduceEq, Int.reduceNe, Int.reduceMod, Int.reduceMul, Int.reduceAdd, Int.reduceSub, Int.reduceLT, Int.reduceLE, Nat.reduceAdd, Nat.reduceLeDiff, Nat.reduceLT, Nat.reduceSub, reduceIte, wds_n, wds_0, wds_1, wds_2, wds_3, or_true, true_or, or_false, false_or, or_self, false_and, and_false, d_pos, d_s1, d_s2, d_s3, d_s4, d_s5, d_s6, d_s7, d_s8, Classical.not_not, z6603_11, z9446_l, le_sub1, le_T, le_F, lt_T, lt_F, eq_F, w32_T, bz0, bz1, lc_le, lc_ge, lc_lt, lc_gt, lc_eq]
theorem v329 (K : TKf tp t s fu h) (T : TOK tp t s) (S : STS h) : Sp fz1 (d + 6) 329 [(3, 6603)] h Q = Q (if tkK tp t s = 1 ∧ ¬ wdT tp t s ∈ wRES then 1 else 0) h := by
  have k5 := K.1.2.2.2.2
  by_cases a0 : tkK tp t s = 1
  · have e : Sp fz1 (d + 6) 329 [(3, 6603)] h Q = G fz1 (d + 6) 329 2 [(3, 6603), (0, 0)] [] h Q := by
      simp (implicitDefEqProofs := false) (disch := omega) only [sp329, b329_0, b329_1, b329_2, b329_3, b329_4, q329_1, q329_3, q329_4, x_aaload, x_alen, x_aload0, y_call327, x_freturn, x_gc_11355, x_gf_11280, x_goto_2, x_iconst, x_ifCond_eq_3, x_if_icmp_eq_1, x_if_icmp_ge_4, x_iinc1, x_iload1, x_istore1, klp_0, klp_1, klp_2, klp_3, klp_9, KC_0, KC_1, KC_2, KC_3, KC_4, ne_eq, not_false_eq_true, not_true_eq_false, true_and, and_true, and_self, implies_true, eq_self, true_imp_iff, false_implies, Int.reduceEq, Int.reduceNe, Int.reduceMod, Int.reduceMul, Int.reduceAdd, Int.reduceSub, Int.reduceLT, Int.reduceLE, Nat.reduceAdd, Nat.reduceLeDiff, Nat.reduceLT, Nat.reduceSub, reduceIte, wds_n, wds_0, wds_1, wds_2, wds_3, or_true, true_or, or_false, false_or, or_self, false_and, and_false, d_pos, d_s1, d_s2, d_s3, d_s4, d_s5, d_s6, d_s7, d_s8, Classical.not_not, z6603_11, z9446_l, k5, a0, le_sub1, le_T, le_F, lt_T, lt_F, eq_F, w32_T, bz0, bz1, lc_le, lc_ge, lc_lt, lc_gt, lc_eq]
    rw [e]
    clear e k5
    by_cases c0 : wdT tp t s = 32498687873999732
    · rw [if_neg (fun w => w.2 (by rw [c0]; decide +kernel))]
      exact s329y_0 K T S a0 c0
    rw [s329n_0 K T S a0 c0]
    by_cases c1 : wdT tp t s = 1919905645
    · rw [if_neg (fun w => w.2 (by rw [c1]; decide +kernel))]
      exact s329y_1 K T S a0 c1
    rw [s329n_1 K T S a0 c1]
    by_cases c2 : wdT tp t s = 495873779302
    · rw [if_neg (fun w => w.2 (by rw [c2]; decide +kernel))]
      exact s329y_2 K T S a0 c2
    rw [s329n_2 K T S a0 c2]
    by_cases c3 : wdT tp t s = 444301538672
    · rw [if_neg (fun w => w.2 (by rw [c3]; decide +kernel))]
      exact s329y_3 K T S a0 c3
    rw [s329n_3 K T S a0 c3]
    by_cases c4 : wdT tp t s = 119182984441710
    · rw [if_neg (fun w => w.2 (by rw [c4]; decide +kernel))]
      exact s329y_4 K T S a0 c4
    rw [s329n_4 K T S a0 c4]
    by_cases c5 : wdT tp t s = 109330362954597
    · rw [if_neg (fun w => w.2 (by rw [c5]; decide +kernel))]
      exact s329y_5 K T S a0 c5
    rw [s329n_5 K T S a0 c5]
    by_cases c6 : wdT tp t s = 1920298085
    · rw [if_neg (fun w => w.2 (by rw [c6]; decide +kernel))]
      exact s329y_6 K T S a0 c6
    rw [s329n_6 K T S a0 c6]
    by_cases c7 : wdT tp t s = 32762566252455282
    · rw [if_neg (fun w => w.2 (by rw [c7]; decide +kernel))]
      exact s329y_7 K T S a0 c7
    rw [s329n_7 K T S a0 c7]
    by_cases c8 : wdT tp t s = 500186771314
    · rw [if_neg (fun w => w.2 (by rw [c8]; decide +kernel))]
      exact s329y_8 K T S a0 c8
    rw [s329n_8 K T S a0 c8]
    by_cases c9 : wdT tp t s = 1751474532
    · rw [if_neg (fun w => w.2 (by rw [c9]; decide +kernel))]
      exact s329y_9 K T S a0 c9
    rw [s329n_9 K T S a0 c9]
    by_cases c10 : wdT tp t s = 26982
    · rw [if_neg (fun w => w.2 (by rw [c10]; decide +kernel))]
      exact s329y_10 K T S a0 c10
    rw [s329n_10 K T S a0 c10]
    by_cases c11 : wdT tp t s = 1701606245
    · rw [if_neg (fun w => w.2 (by rw [c11]; decide +kernel))]
      exact s329y_11 K T S a0 c11
    rw [s329n_11 K T S a0 c11]
    by_cases c12 : wdT tp t s = 6713202
    · rw [if_neg (fun w => w.2 (by rw [c12]; decide +kernel))]
      exact s329y_12 K T S a0 c12
    rw [s329n_12 K T S a0 c12]
    by_cases c13 : wdT tp t s = 29807
    · rw [if_neg (fun w => w.2 (by rw [c13]; decide +kernel))]
      exact s329y_13 K T S a0 c13
    rw [s329n_13 K T S a0 c13]
    by_cases c14 : wdT tp t s = 7631481
    · rw [if_neg (fun w => w.2 (by rw [c14]; decide +kernel))]
      exact s329y_14 K T S a0 c14
    rw [s329n_14 K T S a0 c14]
    by_cases c15 : wdT tp t s = 28526
    · rw [if_neg (fun w => w.2 (by rw [c15]; decide +kernel))]
      exact s329y_15 K T S a0 c15
    rw [s329n_15 K T S a0 c15]
    by_cases c16 : wdT tp t s = 107118487239027
    · rw [if_neg (fun w => w.2 (by rw [c16]; decide +kernel))]
      exact s329y_16 K T S a0 c16
    rw [s329n_16 K T S a0 c16]
    by_cases c17 : wdT tp t s = 491260572517
    · rw [if_neg (fun w => w.2 (by rw [c17]; decide +kernel))]
      exact s329y_17 K T S a0 c17
    rw [s329n_17 K T S a0 c17]
    by_cases c18 : wdT tp t s = 1734964837
    · rw [if_neg (fun w => w.2 (by rw [c18]; decide +kernel))]
      exact s329y_18 K T S a0 c18
    rw [s329n_18 K T S a0 c18]
    by_cases c19 : wdT tp t s = 1668247673
    · rw [if_neg (fun w => w.2 (by rw [c19]; decide +kernel))]
      exact s329y_19 K T S a0 c19
    rw [s329n_19 K T S a0 c19]
    by_cases c20 : wdT tp t s = 110404120962149
    · rw [if_neg (fun w => w.2 (by rw [c20]; decide +kernel))]
      exact s329y_20 K T S a0 c20
    rw [s329n_20 K T S a0 c20]
    by_cases c21 : wdT tp t s = 452823639416
    · rw [if_neg (fun w => w.2 (by rw [c21]; decide +kernel))]
      exact s329y_21 K T S a0 c21
    rw [s329n_21 K T S a0 c21]
    by_cases c22 : wdT tp t s = 1853189228
    · rw [if_neg (fun w => w.2 (by rw [c22]; decide +kernel))]
      exact s329y_22 K T S a0 c22
    rw [s329n_22 K T S a0 c22]
    by_cases c23 : wdT tp t s = 1667330932
    · rw [if_neg (fun w => w.2 (by rw [c23]; decide +kernel))]
      exact s329y_23 K T S a0 c23
    rw [s329n_23 K T S a0 c23]
    by_cases c24 : wdT tp t s = 1936292453
    · rw [if_neg (fun w => w.2 (by rw [c24]; decide +kernel))]
      exact s329y_24 K T S a0 c24
    rw [s329n_24 K T S a0 c24]
    by_cases c25 : wdT tp t s = 495874699877
    · rw [if_neg (fun w => w.2 (by rw [c25]; decide +kernel))]
      exact s329y_25 K T S a0 c25
    rw [s329n_25 K T S a0 c25]
    by_cases c26 : wdT tp t s = 435811345268
    · rw [if_neg (fun w => w.2 (by rw [c26]; decide +kernel))]
      exact s329y_26 K T S a0 c26
    rw [s329n_26 K T S a0 c26]
    by_cases c27 : wdT tp t s = 1852796517
    · rw [if_neg (fun w => w.2 (by rw [c27]; decide +kernel))]
      exact s329y_27 K T S a0 c27
    rw [s329n_27 K T S a0 c27]
    by_cases c28 : wdT tp t s = 7499639
    · rw [if_neg (fun w => w.2 (by rw [c28]; decide +kernel))]
      exact s329y_28 K T S a0 c28
    rw [s329n_28 K T S a0 c28]
    by_cases c29 : wdT tp t s = 491327155315
    · rw [if_neg (fun w => w.2 (by rw [c29]; decide +kernel))]
      exact s329y_29 K T S a0 c29
    rw [s329n_29 K T S a0 c29]
    by_cases c30 : wdT tp t s = 123580963646565
    · rw [if_neg (fun w => w.2 (by rw [c30]; decide +kernel))]
      exact s329y_30 K T S a0 c30
    rw [s329n_30 K T S a0 c30]
    by_cases c31 : wdT tp t s = 8387216960628552307
    · rw [if_neg (fun w => w.2 (by rw [c31]; decide +kernel))]
      exact s329y_31 K T S a0 c31
    rw [s329n_31 K T S a0 c31]
    by_cases c32 : wdT tp t s = 512853240933
    · rw [if_neg (fun w => w.2 (by rw [c32]; decide +kernel))]
      exact s329y_32 K T S a0 c32
    rw [s329n_32 K T S a0 c32]
    by_cases c33 : wdT tp t s = 1919246700
    · rw [if_neg (fun w => w.2 (by rw [c33]; decide +kernel))]
      exact s329y_33 K T S a0 c33
    rw [s329n_33 K T S a0 c33]
    by_cases c34 : wdT tp t s = 465490373491
    · rw [if_neg (fun w => w.2 (by rw [c34]; decide +kernel))]
      exact s329y_34 K T S a0 c34
    rw [s329n_34 K T S a0 c34]
    by_cases c35 : wdT tp t s = 123581014175598
    · rw [if_neg (fun w => w.2 (by rw [c35]; decide +kernel))]
      exact s329y_35 K T S a0 c35
    rw [s329n_35 K T S a0 c35]
    by_cases c36 : wdT tp t s = 465558725996
    · rw [if_neg (fun w => w.2 (by rw [c36]; decide +kernel))]
      exact s329y_36 K T S a0 c36
    rw [s329n_36 K T S a0 c36]
    by_cases c37 : wdT tp t s = 469786323827
    · rw [if_neg (fun w => w.2 (by rw [c37]; decide +kernel))]
      exact s329y_37 K T S a0 c37
    rw [s329n_37 K T S a0 c37]
    have m : ¬ wdT tp t s ∈ wRES := fun m => by
      simp (implicitDefEqProofs := false) only [wRES, List.mem_cons, List.not_mem_nil, or_false] at m
      omega
    rw [if_pos ⟨a0, m⟩]
    exact v329e
  · rw [if_neg (fun w => a0 w.1)]
    rw [← k5] at a0
    simp (implicitDefEqProofs := false) (disch := omega) only [sp329, b329_0, b329_1, b329_2, b329_3, b329_4, q329_1, q329_3, q329_4, x_aaload, x_alen, x_aload0, y_call327, x_freturn, x_gc_11355, x_gf_11280, x_goto_2, x_iconst, x_ifCond_eq_3, x_if_icmp_eq_1, x_if_icmp_ge_4, x_iinc1, x_iload1, x_istore1, klp_0, klp_1, klp_2, klp_3, klp_9, KC_0, KC_1, KC_2, KC_3, KC_4, ne_eq, not_false_eq_true, not_true_eq_false, true_and, and_true, and_self, implies_true, eq_self, true_imp_iff, false_implies, Int.reduceEq, Int.reduceNe, Int.reduceMod, Int.reduceMul, Int.reduceAdd, Int.reduceSub, Int.reduceLT, Int.reduceLE, Nat.reduceAdd, Nat.reduceLeDiff, Nat.reduceLT, Nat.reduceSub, reduceIte, wds_n, wds_0, wds_1, wds_2, wds_3, or_true, true_or, or_false, false_or, or_self, false_and, and_false, d_pos, d_s1, d_s2, d_s3, d_s4, d_s5, d_s6, d_s7, d_s8, Classical.not_not, z6603_11, z9446_l, a0, le_sub1, le_T, le_F, lt_T, lt_F, eq_F, w32_T, bz0, bz1, lc_le, lc_ge, lc_lt, lc_gt, lc_eq]
theorem v334 {c : Int} (K : TKf tp t s fu h) (T : TOK tp t s) : Sp fz1 d 334 [(3, 6603), (0, c)] h Q = Q (if tkK tp t s = 4 ∧ tp s = c then 1 else 0) h := by
  obtain ⟨⟨k1, k2, k3, k4, k5⟩, -, -, k6⟩ := K
  have s0 := T.1.1
  have s1 := T.1.2.1
  have t24 := T.1.2.2
  have r := tkK_r (tp := tp) (t := t) (s := s)
  by_cases a0 : tkK tp t s = 4
  · have tk := k6 s s0 (by omega)
    by_cases a1 : tp s = c
    · rw [if_pos ⟨a0, a1⟩]
      simp (implicitDefEqProofs := false) (disch := omega) only [sp334, b334_0, b334_1, b334_2, q334_1, q334_2, x_aload0, x_baload, x_freturn, x_gc_11267, x_gf_11280, x_gf_11288, x_goto_2, x_iconst, x_if_icmp_ne_1, x_iload1, klp_0, klp_1, klp_2, klp_3, klp_9, KC_0, KC_1, KC_2, KC_3, KC_4, ne_eq, not_false_eq_true, not_true_eq_false, true_and, and_true, and_self, implies_true, eq_self, true_imp_iff, false_implies, Int.reduceEq, Int.reduceNe, Int.reduceMod, Int.reduceMul, Int.reduceAdd, Int.reduceSub, Int.reduceLT, Int.reduceLE, Nat.reduceAdd, Nat.reduceLeDiff, Nat.reduceLT, Nat.reduceSub, reduceIte, wds_n, wds_0, wds_1, wds_2, wds_3, or_true, true_or, or_false, false_or, or_self, false_and, and_false, d_pos, d_s1, d_s2, d_s3, d_s4, d_s5, d_s6, d_s7, d_s8, Classical.not_not, z6603_0, z6691_l, k3, k5, tk, a0, a1, le_sub1, le_T, le_F, lt_T, lt_F, eq_F, w32_T, bz0, bz1, lc_le, lc_ge, lc_lt, lc_gt, lc_eq]
    · rw [if_neg (fun w => a1 w.2)]
      simp (implicitDefEqProofs := false) (disch := omega) only [sp334, b334_0, b334_1, b334_2, q334_1, q334_2, x_aload0, x_baload, x_freturn, x_gc_11267, x_gf_11280, x_gf_11288, x_goto_2, x_iconst, x_if_icmp_ne_1, x_iload1, klp_0, klp_1, klp_2, klp_3, klp_9, KC_0, KC_1, KC_2, KC_3, KC_4, ne_eq, not_false_eq_true, not_true_eq_false, true_and, and_true, and_self, implies_true, eq_self, true_imp_iff, false_implies, Int.reduceEq, Int.reduceNe, Int.reduceMod, Int.reduceMul, Int.reduceAdd, Int.reduceSub, Int.reduceLT, Int.reduceLE, Nat.reduceAdd, Nat.reduceLeDiff, Nat.reduceLT, Nat.reduceSub, reduceIte, wds_n, wds_0, wds_1, wds_2, wds_3, or_true, true_or, or_false, false_or, or_self, false_and, and_false, d_pos, d_s1, d_s2, d_s3, d_s4, d_s5, d_s6, d_s7, d_s8, Classical.not_not, z6603_0, z6691_l, k3, k5, tk, a0, a1, le_sub1, le_T, le_F, lt_T, lt_F, eq_F, w32_T, bz0, bz1, lc_le, lc_ge, lc_lt, lc_gt, lc_eq]
  · rw [if_neg (fun w => a0 w.1)]
    simp (implicitDefEqProofs := false) (disch := omega) only [sp334, b334_0, b334_1, b334_2, q334_1, q334_2, x_aload0, x_baload, x_freturn, x_gc_11267, x_gf_11280, x_gf_11288, x_goto_2, x_iconst, x_if_icmp_ne_1, x_iload1, klp_0, klp_1, klp_2, klp_3, klp_9, KC_0, KC_1, KC_2, KC_3, KC_4, ne_eq, not_false_eq_true, not_true_eq_false, true_and, and_true, and_self, implies_true, eq_self, true_imp_iff, false_implies, Int.reduceEq, Int.reduceNe, Int.reduceMod, Int.reduceMul, Int.reduceAdd, Int.reduceSub, Int.reduceLT, Int.reduceLE, Nat.reduceAdd, Nat.reduceLeDiff, Nat.reduceLT, Nat.reduceSub, reduceIte, wds_n, wds_0, wds_1, wds_2, wds_3, or_true, true_or, or_false, false_or, or_self, false_and, and_false, d_pos, d_s1, d_s2, d_s3, d_s4, d_s5, d_s6, d_s7, d_s8, Classical.not_not, z6603_0, z6691_l, k3, k5, a0, le_sub1, le_T, le_F, lt_T, lt_F, eq_F, w32_T, bz0, bz1, lc_le, lc_ge, lc_lt, lc_gt, lc_eq]
end TK
