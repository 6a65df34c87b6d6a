/-! THE PURE SIDE, 141: pieces of code on both sides: printed by wip/tools/gen89zzs.py -/
theorem RKx.mono {k k2 : Int} {x : CX} (h : RKx k x) (l : k ≤ k2) : RKx k2 x := fun e m w => Int.le_trans (h e m w) l
theorem lps_le : ∀ x : CX, lps x ≤ x.length
  | [] => Int.le_refl _
  | e :: y => by
    have := lps_le y
    show (if e.2.1 = -1 then 1 else 0) + lps y ≤ ((y.length + 1 : Nat) : Int)
    split <;> omega
section PC
variable {K : HV} {V CL : Int → Int → Prop} {P : PT} {c r : Int} {x : CX} {E k : Int} {n : Nat}
theorem i_STEP (b : LocB c r x E k) (w : lSTEP K V CL P c r x E k) : Loc K V CL P c r x E k := ⟨b, .inl w⟩
theorem i_NONE (b : LocB c r x E k) (w : lNONE K V CL P c r x E k) : Loc K V CL P c r x E k := ⟨b, .inr (.inl w)⟩
theorem i_WHOLE (b : LocB c r x E k) (w : lWHOLE K V CL P c r x E k) : Loc K V CL P c r x E k := ⟨b, .inr (.inr (.inl w))⟩
theorem i_REAL (b : LocB c r x E k) (w : lREAL K V CL P c r x E k) : Loc K V CL P c r x E k := ⟨b, .inr (.inr (.inr (.inl w)))⟩
theorem i_GET (b : LocB c r x E k) (w : lGET K V CL P c r x E k) : Loc K V CL P c r x E k := ⟨b, .inr (.inr (.inr (.inr (.inl w))))⟩
theorem i_SET (b : LocB c r x E k) (w : lSET K V CL P c r x E k) : Loc K V CL P c r x E k := ⟨b, .inr (.inr (.inr (.inr (.inr (.inl w)))))⟩
theorem i_SETITEM (b : LocB c r x E k) (w : lSETITEM K V CL P c r x E k) : Loc K V CL P c r x E k := ⟨b, .inr (.inr (.inr (.inr (.inr (.inr (.inl w))))))⟩
theorem i_WORK (b : LocB c r x E k) (w : lWORK K V CL P c r x E k) : Loc K V CL P c r x E k := ⟨b, .inr (.inr (.inr (.inr (.inr (.inr (.inr (.inl w)))))))⟩
theorem i_COMP (b : LocB c r x E k) (w : lCOMP K V CL P c r x E k) : Loc K V CL P c r x E k := ⟨b, .inr (.inr (.inr (.inr (.inr (.inr (.inr (.inr (.inl w))))))))⟩
theorem i_NEG (b : LocB c r x E k) (w : lNEG K V CL P c r x E k) : Loc K V CL P c r x E k := ⟨b, .inr (.inr (.inr (.inr (.inr (.inr (.inr (.inr (.inr (.inl w)))))))))⟩
theorem i_ITEM (b : LocB c r x E k) (w : lITEM K V CL P c r x E k) : Loc K V CL P c r x E k := ⟨b, .inr (.inr (.inr (.inr (.inr (.inr (.inr (.inr (.inr (.inr (.inl w))))))))))⟩
theorem i_MAKE (b : LocB c r x E k) (w : lMAKE K V CL P c r x E k) : Loc K V CL P c r x E k := ⟨b, .inr (.inr (.inr (.inr (.inr (.inr (.inr (.inr (.inr (.inr (.inr (.inl w)))))))))))⟩
theorem i_ONE (b : LocB c r x E k) (w : lONE K V CL P c r x E k) : Loc K V CL P c r x E k := ⟨b, .inr (.inr (.inr (.inr (.inr (.inr (.inr (.inr (.inr (.inr (.inr (.inr (.inl w))))))))))))⟩
theorem i_TWO2 (b : LocB c r x E k) (w : lTWO2 K V CL P c r x E k) : Loc K V CL P c r x E k := ⟨b, .inr (.inr (.inr (.inr (.inr (.inr (.inr (.inr (.inr (.inr (.inr (.inr (.inr (.inl w)))))))))))))⟩
theorem i_CALL (b : LocB c r x E k) (w : lCALL K V CL P c r x E k) : Loc K V CL P c r x E k := ⟨b, .inr (.inr (.inr (.inr (.inr (.inr (.inr (.inr (.inr (.inr (.inr (.inr (.inr (.inr (.inl w))))))))))))))⟩
theorem i_GIVE (b : LocB c r x E k) (w : lGIVE K V CL P c r x E k) : Loc K V CL P c r x E k := ⟨b, .inr (.inr (.inr (.inr (.inr (.inr (.inr (.inr (.inr (.inr (.inr (.inr (.inr (.inr (.inr (.inl w)))))))))))))))⟩
theorem i_JUMP (b : LocB c r x E k) (w : lJUMP K V CL P c r x E k) : Loc K V CL P c r x E k := ⟨b, .inr (.inr (.inr (.inr (.inr (.inr (.inr (.inr (.inr (.inr (.inr (.inr (.inr (.inr (.inr (.inr (.inl w))))))))))))))))⟩
theorem i_UNLESS (b : LocB c r x E k) (w : lUNLESS K V CL P c r x E k) : Loc K V CL P c r x E k := ⟨b, .inr (.inr (.inr (.inr (.inr (.inr (.inr (.inr (.inr (.inr (.inr (.inr (.inr (.inr (.inr (.inr (.inr (.inl w)))))))))))))))))⟩
theorem i_LOOP (b : LocB c r x E k) (w : lLOOP K V CL P c r x E k) : Loc K V CL P c r x E k := ⟨b, .inr (.inr (.inr (.inr (.inr (.inr (.inr (.inr (.inr (.inr (.inr (.inr (.inr (.inr (.inr (.inr (.inr (.inr (.inl w))))))))))))))))))⟩
theorem i_ROUND (b : LocB c r x E k) (w : lROUND K V CL P c r x E k) : Loc K V CL P c r x E k := ⟨b, .inr (.inr (.inr (.inr (.inr (.inr (.inr (.inr (.inr (.inr (.inr (.inr (.inr (.inr (.inr (.inr (.inr (.inr (.inr (.inl w)))))))))))))))))))⟩
theorem i_RAISE (b : LocB c r x E k) (w : lRAISE K V CL P c r x E k) : Loc K V CL P c r x E k := ⟨b, .inr (.inr (.inr (.inr (.inr (.inr (.inr (.inr (.inr (.inr (.inr (.inr (.inr (.inr (.inr (.inr (.inr (.inr (.inr (.inr (.inl w))))))))))))))))))))⟩
theorem i_COPY (b : LocB c r x E k) (w : lCOPY K V CL P c r x E k) : Loc K V CL P c r x E k := ⟨b, .inr (.inr (.inr (.inr (.inr (.inr (.inr (.inr (.inr (.inr (.inr (.inr (.inr (.inr (.inr (.inr (.inr (.inr (.inr (.inr (.inr (.inl w)))))))))))))))))))))⟩
theorem i_TRY (b : LocB c r x E k) (w : lTRY K V CL P c r x E k) : Loc K V CL P c r x E k := ⟨b, .inr (.inr (.inr (.inr (.inr (.inr (.inr (.inr (.inr (.inr (.inr (.inr (.inr (.inr (.inr (.inr (.inr (.inr (.inr (.inr (.inr (.inr (.inl w))))))))))))))))))))))⟩
theorem i_LEAVE (b : LocB c r x E k) (w : lLEAVE K V CL P c r x E k) : Loc K V CL P c r x E k := ⟨b, .inr (.inr (.inr (.inr (.inr (.inr (.inr (.inr (.inr (.inr (.inr (.inr (.inr (.inr (.inr (.inr (.inr (.inr (.inr (.inr (.inr (.inr (.inr (.inl w)))))))))))))))))))))))⟩
theorem i_FINISH (b : LocB c r x E k) (w : lFINISH K V CL P c r x E k) : Loc K V CL P c r x E k := ⟨b, .inr (.inr (.inr (.inr (.inr (.inr (.inr (.inr (.inr (.inr (.inr (.inr (.inr (.inr (.inr (.inr (.inr (.inr (.inr (.inr (.inr (.inr (.inr (.inr (.inl w))))))))))))))))))))))))⟩
theorem i_END (b : LocB c r x E k) (w : lEND K V CL P c r x E k) : Loc K V CL P c r x E k := ⟨b, .inr (.inr (.inr (.inr (.inr (.inr (.inr (.inr (.inr (.inr (.inr (.inr (.inr (.inr (.inr (.inr (.inr (.inr (.inr (.inr (.inr (.inr (.inr (.inr (.inr (w)))))))))))))))))))))))))⟩
/-- a higher rank is no harm -/
theorem MEM.up : ∀ (n : Nat) {c r : Int} {x : CX} {E k k2 : Int}, MEM K V CL n c r x E k → k ≤ k2 → k2 ≤ 399 → MEM K V CL n c r x E k2 := by
  intro n
  induction n with
  | zero => exact fun _ _ _ => trivial
  | succ n ih =>
    intro c r x E k k2 w a b
    obtain ⟨⟨l1, l2, l3, l4, l5⟩, w⟩ := w
    have B : LocB c r x E k2 := ⟨l1, by omega, l3, l4, l5.mono a⟩
    rcases w with w | w | w | w | w | w | w | w | w | w | w | w | w | w | w | w | w | w | w | w | w | w | w | w | w | w
    · exact i_STEP B w
    · obtain ⟨w1, w2, w0⟩ := w; exact i_NONE B ⟨w1, w2, ih w0 (by omega) (by omega)⟩
    · obtain ⟨w1, w2, w3, w4, w0⟩ := w; exact i_WHOLE B ⟨w1, w2, w3, w4, ih w0 (by omega) (by omega)⟩
    · obtain ⟨w1, w2, w3, w4, w0⟩ := w; exact i_REAL B ⟨w1, w2, w3, w4, ih w0 (by omega) (by omega)⟩
    · obtain ⟨w1, w2, w3, w0⟩ := w; exact i_GET B ⟨w1, w2, w3, ih w0 (by omega) (by omega)⟩
    · obtain ⟨w1, w2, w3, w4, w0⟩ := w; exact i_SET B ⟨w1, w2, w3, w4, ih w0 (by omega) (by omega)⟩
    · obtain ⟨w1, w2, w3, w4, w0⟩ := w; exact i_SETITEM B ⟨w1, w2, w3, w4, ih w0 (by omega) (by omega)⟩
    · obtain ⟨w1, w2, w3, w4, w0⟩ := w; exact i_WORK B ⟨w1, w2, w3, w4, ih w0 (by omega) (by omega)⟩
    · obtain ⟨w1, w2, w3, w4, w0⟩ := w; exact i_COMP B ⟨w1, w2, w3, w4, ih w0 (by omega) (by omega)⟩
    · obtain ⟨w1, w2, w3, w0⟩ := w; exact i_NEG B ⟨w1, w2, w3, ih w0 (by omega) (by omega)⟩
    · obtain ⟨w1, w2, w3, w0⟩ := w; exact i_ITEM B ⟨w1, w2, w3, ih w0 (by omega) (by omega)⟩
    · obtain ⟨w1, w2, w3, w4, w5, w0⟩ := w; exact i_MAKE B ⟨w1, w2, w3, w4, w5, ih w0 (by omega) (by omega)⟩
    · obtain ⟨w1, w2, w3, w0⟩ := w; exact i_ONE B ⟨w1, w2, w3, ih w0 (by omega) (by omega)⟩
    · obtain ⟨w1, w2, w3, w0⟩ := w; exact i_TWO2 B ⟨w1, w2, w3, ih w0 (by omega) (by omega)⟩
    · obtain ⟨w1, w2, w3, w4, w0⟩ := w; exact i_CALL B ⟨w1, w2, w3, w4, ih w0 (by omega) (by omega)⟩
    · exact i_GIVE B w
    · obtain ⟨w1, w2, w3, w0⟩ := w; exact i_JUMP B ⟨w1, w2, w3, ih w0 (by omega) (by omega)⟩
    · obtain ⟨w1, w2, w3, w4, w5⟩ := w; exact i_UNLESS B ⟨w1, w2, w3, ih w4 (by omega) (by omega), ih w5 (by omega) (by omega)⟩
    · obtain ⟨w1, w2, w3, w4, w5, w0⟩ := w; exact i_LOOP B ⟨w1, w2, w3, w4, w5, ih w0 (by omega) (by omega)⟩
    · obtain ⟨w1, w2, w3, w4, w5, y, w6, w7, w8⟩ := w; exact i_ROUND B ⟨w1, w2, w3, w4, w5, y, w6, w7, ih w8 (by omega) (by omega)⟩
    · exact i_RAISE B w
    · obtain ⟨w1, w2, w3, w0⟩ := w; exact i_COPY B ⟨w1, w2, w3, ih w0 (by omega) (by omega)⟩
    · obtain ⟨w1, w2, w3, w4, w5, kx, w6, w7⟩ := w; exact i_TRY B ⟨w1, w2, w3, w4, w5, kx, ih w6 (by omega) (by omega), w7⟩
    · exact i_LEAVE B w
    · exact i_FINISH B w
    · exact i_END B w
/-- a straight piece: m codes of the reference, g more on the stack, w at most, from lo on -/
def EXK (K : HV) (V CL : Int → Int → Prop) (c0 r0 c1 r1 m g w lo : Int) : Prop := ∀ (n : Nat) (x : CX) (E k : Int), lo ≤ E → 0 ≤ E → E + w ≤ 36 → m + 1 ≤ k → k ≤ 399 → x.length ≤ 12 → RKx (k - m) x → MEM K V CL n c1 r1 x (E + g) (k - m) → MEM K V CL n c0 r0 x E k
theorem EXK.seq {c0 r0 c1 r1 c2 r2 m1 m2 g1 g2 w1 w2 w l1 l2 lo m g : Int} (A : EXK K V CL c0 r0 c1 r1 m1 g1 w1 l1) (B : EXK K V CL c1 r1 c2 r2 m2 g2 w2 l2) (hl : l1 ≤ lo) (hl2 : l2 ≤ lo + g1) (hp : 0 ≤ lo + g1) (hw : w1 ≤ w) (hw2 : g1 + w2 ≤ w) (hm1 : 0 ≤ m1) (hm : 0 ≤ m2) (em : m = m1 + m2) (eg : g = g1 + g2) : EXK K V CL c0 r0 c2 r2 m g w lo := by
  intro n x E k a a0 b c d e f M
  subst em eg
  have M2 : MEM K V CL n c2 r2 x (E + g1 + g2) (k - m1 - m2) := by
    rw [Int.add_assoc, Int.sub_sub]
    exact M
  refine A n x E k (by omega) a0 (by omega) (by omega) d e (f.mono (by omega)) ?_
  refine B n x (E + g1) (k - m1) (by omega) (by omega) (by omega) (by omega) (by omega) e ?_ M2
  rw [Int.sub_sub]
  exact f
theorem EXK.up {c0 r0 c1 r1 m g w w2 lo lo2 : Int} (A : EXK K V CL c0 r0 c1 r1 m g w lo) (hw : w ≤ w2) (hl : lo ≤ lo2) : EXK K V CL c0 r0 c1 r1 m g w2 lo2 :=
  fun n x E k a a0 b c d e f M => A n x E k (by omega) a0 (by omega) c d e f M
theorem e_NONE (hc : 0 ≤ c ∧ c < 2400) (hr : 0 ≤ r ∧ r < 6000) (a1 : K 0 c = 2) (a2 : K 1 r = 3) : EXK K V CL c r (c + 1) (r + 1) 1 (1) (1) (0) := by
  intro n x E k a a0 b c1 d e f M
  cases n with
  | zero => trivial
  | succ n =>
    refine i_NONE ⟨⟨hc, hr⟩, by omega, by omega, e, f.mono (by omega)⟩ ⟨a1, a2, ?_⟩
    have M2 := MEM.down _ _ _ _ _ _ M
    exact M2
theorem e_WHOLE (hc : 0 ≤ c ∧ c < 2400) (hr : 0 ≤ r ∧ r < 6000) (a1 : K 0 c = 3) (a2 : K 1 r = 1) (a3 : K 2 r = K 0 (c + 1)) (a4 : 0 ≤ K 0 (c + 1) ∧ K 0 (c + 1) ≤ 999999) : EXK K V CL c r (c + 2) (r + 1) 1 (1) (1) (0) := by
  intro n x E k a a0 b c1 d e f M
  cases n with
  | zero => trivial
  | succ n =>
    refine i_WHOLE ⟨⟨hc, hr⟩, by omega, by omega, e, f.mono (by omega)⟩ ⟨a1, a2, a3, a4, ?_⟩
    have M2 := MEM.down _ _ _ _ _ _ M
    exact M2
theorem e_REAL (hc : 0 ≤ c ∧ c < 2400) (hr : 0 ≤ r ∧ r < 6000) (a1 : K 0 c = 4) (a2 : K 1 r = 2) (a3 : 0 ≤ K 2 r ∧ K 2 r < 401) (a4 : CANR (K 6 (K 2 r)) ∧ 0 ≤ K 6 (K 2 r) ∧ K 0 (c + 1) = K 6 (K 2 r) / 4294967296 ∧ K 0 (c + 2) = w32 (K 6 (K 2 r))) : EXK K V CL c r (c + 3) (r + 1) 1 (1) (1) (0) := by
  intro n x E k a a0 b c1 d e f M
  cases n with
  | zero => trivial
  | succ n =>
    refine i_REAL ⟨⟨hc, hr⟩, by omega, by omega, e, f.mono (by omega)⟩ ⟨a1, a2, a3, a4, ?_⟩
    have M2 := MEM.down _ _ _ _ _ _ M
    exact M2
theorem e_GET (hc : 0 ≤ c ∧ c < 2400) (hr : 0 ≤ r ∧ r < 6000) (a1 : K 0 c = 5) (a2 : K 1 r = 4) (a3 : V (K 0 (c + 1)) r) : EXK K V CL c r (c + 2) (r + 1) 1 (1) (1) (0) := by
  intro n x E k a a0 b c1 d e f M
  cases n with
  | zero => trivial
  | succ n =>
    refine i_GET ⟨⟨hc, hr⟩, by omega, by omega, e, f.mono (by omega)⟩ ⟨a1, a2, a3, ?_⟩
    have M2 := MEM.down _ _ _ _ _ _ M
    exact M2
theorem e_WORK (hc : 0 ≤ c ∧ c < 2400) (hr : 0 ≤ r ∧ r < 6000) (a1 : K 0 c = 8) (a2 : K 1 r = 8) (a3 : wkO (K 0 (c + 1)) (K 2 r)) : EXK K V CL c r (c + 2) (r + 1) 1 (-1) (0) (2) := by
  intro n x E k a a0 b c1 d e f M
  cases n with
  | zero => trivial
  | succ n =>
    refine i_WORK ⟨⟨hc, hr⟩, by omega, by omega, e, f.mono (by omega)⟩ ⟨a1, a2, a3, by omega, ?_⟩
    have M2 := MEM.down _ _ _ _ _ _ M
    exact M2
theorem e_COMP (hc : 0 ≤ c ∧ c < 2400) (hr : 0 ≤ r ∧ r < 6000) (a1 : K 0 c = 9) (a2 : K 1 r = 8) (a3 : cmO (K 0 (c + 1)) (K 2 r)) : EXK K V CL c r (c + 2) (r + 1) 1 (-1) (0) (2) := by
  intro n x E k a a0 b c1 d e f M
  cases n with
  | zero => trivial
  | succ n =>
    refine i_COMP ⟨⟨hc, hr⟩, by omega, by omega, e, f.mono (by omega)⟩ ⟨a1, a2, a3, by omega, ?_⟩
    have M2 := MEM.down _ _ _ _ _ _ M
    exact M2
theorem e_NEG (hc : 0 ≤ c ∧ c < 2400) (hr : 0 ≤ r ∧ r < 6000) (a1 : K 0 c = 10) (a2 : K 1 r = 9) : EXK K V CL c r (c + 1) (r + 1) 1 (0) (0) (1) := by
  intro n x E k a a0 b c1 d e f M
  cases n with
  | zero => trivial
  | succ n =>
    refine i_NEG ⟨⟨hc, hr⟩, by omega, by omega, e, f.mono (by omega)⟩ ⟨a1, a2, by omega, ?_⟩
    have M2 := MEM.down _ _ _ _ _ _ M
    rw [Int.add_zero] at M2
    exact M2
theorem e_ITEM (hc : 0 ≤ c ∧ c < 2400) (hr : 0 ≤ r ∧ r < 6000) (a1 : K 0 c = 11) (a2 : K 1 r = 10) : EXK K V CL c r (c + 1) (r + 1) 1 (-1) (0) (2) := by
  intro n x E k a a0 b c1 d e f M
  cases n with
  | zero => trivial
  | succ n =>
    refine i_ITEM ⟨⟨hc, hr⟩, by omega, by omega, e, f.mono (by omega)⟩ ⟨a1, a2, by omega, ?_⟩
    have M2 := MEM.down _ _ _ _ _ _ M
    exact M2
theorem e_MAKE (hc : 0 ≤ c ∧ c < 2400) (hr : 0 ≤ r ∧ r < 6000) (a1 : K 0 c = 12) (a2 : K 1 r = 11) (a3 : K 2 r = K 0 (c + 1) + 4) (a4 : 0 ≤ K 0 (c + 1) ∧ K 0 (c + 1) ≤ 3) : EXK K V CL c r (c + 2) (r + 1) 1 (0) (0) (1) := by
  intro n x E k a a0 b c1 d e f M
  cases n with
  | zero => trivial
  | succ n =>
    refine i_MAKE ⟨⟨hc, hr⟩, by omega, by omega, e, f.mono (by omega)⟩ ⟨a1, a2, a3, a4, by omega, ?_⟩
    have M2 := MEM.down _ _ _ _ _ _ M
    rw [Int.add_zero] at M2
    exact M2
theorem e_ONE (hc : 0 ≤ c ∧ c < 2400) (hr : 0 ≤ r ∧ r < 6000) (a1 : 25 ≤ K 0 c ∧ K 0 c ≤ 29) (a2 : K 1 r = K 0 c - 13) : EXK K V CL c r (c + 1) (r + 1) 1 (0) (0) (1) := by
  intro n x E k a a0 b c1 d e f M
  cases n with
  | zero => trivial
  | succ n =>
    refine i_ONE ⟨⟨hc, hr⟩, by omega, by omega, e, f.mono (by omega)⟩ ⟨a1, a2, by omega, ?_⟩
    have M2 := MEM.down _ _ _ _ _ _ M
    rw [Int.add_zero] at M2
    exact M2
theorem e_TWO2 (hc : 0 ≤ c ∧ c < 2400) (hr : 0 ≤ r ∧ r < 6000) (a1 : 30 ≤ K 0 c ∧ K 0 c ≤ 31) (a2 : K 1 r = K 0 c - 13) : EXK K V CL c r (c + 1) (r + 1) 1 (-1) (0) (2) := by
  intro n x E k a a0 b c1 d e f M
  cases n with
  | zero => trivial
  | succ n =>
    refine i_TWO2 ⟨⟨hc, hr⟩, by omega, by omega, e, f.mono (by omega)⟩ ⟨a1, a2, by omega, ?_⟩
    have M2 := MEM.down _ _ _ _ _ _ M
    exact M2
theorem e_CALL (hc : 0 ≤ c ∧ c < 2400) (hr : 0 ≤ r ∧ r < 6000) (a1 : K 0 c = 13) (a2 : K 1 r = 7) (a3 : CL c r) (a4 : 0 ≤ K 0 (c + 2)) : EXK K V CL c r (c + 3) (r + 1) 1 (1 - K 0 (c + 2)) (1) (K 0 (c + 2)) := by
  intro n x E k a a0 b c1 d e f M
  cases n with
  | zero => trivial
  | succ n =>
    refine i_CALL ⟨⟨hc, hr⟩, by omega, by omega, e, f.mono (by omega)⟩ ⟨a1, a2, a3, by omega, ?_⟩
    have M2 := MEM.down _ _ _ _ _ _ M
    rw [show E - K 0 (c + 2) + 1 = E + (1 - K 0 (c + 2)) by omega]
    exact M2
end PC
