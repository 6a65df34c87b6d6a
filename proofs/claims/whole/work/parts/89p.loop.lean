/-! THE PURE SIDE, 86: the law's loop over the relation: printed by wip/tools/gen89p.py -/
/-- read, run and stand keep a relation -/
def OpR (RA : HV → Prop) (m1 m2 : Nat) (as1 as2 : List AV) : Prop := ∀ h, RA h → Sp fz1 1899 m1 as1 h (fun x h1 => h1 50 = h 50 ∧ Sp fz1 1899 m2 as2 h1 (fun y h2 => x = y ∧ RA h2 ∧ h2 50 = h 50))
theorem law_loop {RA : HV → Prop} {L : Int} (hL : 0 ≤ L ∧ L ≤ 3584) (hB : ∀ h, RA h → RB h) (hU : ∀ h h2, RA h → RB h2 → UF h h2 → RA h2)
    (oread : OpR RA 24 320 [(3, 64)] [(3, 6603)]) (orun : ∀ a b c e f g : Int, I32 c → I32 e → I32 f → I32 g → OpR RA 164 380 [(3, 64), (0, a), (0, b), (0, c), (0, e), (0, f), (0, g)] [(3, 6603), (0, a), (0, b), (0, c), (0, e), (0, f), (0, g)])
    (ostand : ∀ a b : Int, OpR RA 237 413 [(3, 64), (0, a), (0, b)] [(3, 6603), (0, a), (0, b)]) : ∀ (n : Nat) (i : Int) (h : HV), 0 ≤ i → L - i ≤ n → RA h → h 50 (-1) = L → (∀ k, 0 ≤ k → k < L → I32 (h 50 k)) → G fz1 1900 0 1 [(3, 50), (3, 64), (3, 6603), (0, i)] [] h (fun r h' => r = 1 ∧ h' 0 0 ≤ 600001 ∧ h' 0 1 ≤ 7302250) := by
  intro n
  induction n with
  | zero =>
    intro i h hi hn R h50 hI
    refine law_head hi h50 hL.1 hL.2 (fun w => ?_) (fun w => by omega)
    have B := hB h R
    have RM := B.2.2.2.2.2.2.2.2.2.2.2.2.2.2.2.2.2.2.2.2.2.2.1
    have VL := B.2.2.2.2.2.2.2.2.2.2.2.2.2.2.2.2.2.2.2.2.2.1
    have W := B.2.2.2.2.2.2.2.2.2.2.2.2.2.2.2.2.2.1.1
    unfold RRm rm at RM
    unfold RVl at VL
    unfold RW at W
    refine ⟨rfl, ?_, ?_⟩ <;> omega
  | succ n ih =>
    intro i h hi hn R h50 hI
    have B := hB h R
    refine law_head hi h50 hL.1 hL.2 (fun w => ?_) (fun w b b0 b1 => ?_)
    · have RM := B.2.2.2.2.2.2.2.2.2.2.2.2.2.2.2.2.2.2.2.2.2.2.1
      have VL := B.2.2.2.2.2.2.2.2.2.2.2.2.2.2.2.2.2.2.2.2.2.1
      have W := B.2.2.2.2.2.2.2.2.2.2.2.2.2.2.2.2.2.1.1
      unfold RRm rm at RM
      unfold RVl at VL
      unfold RW at W
      refine ⟨rfl, ?_, ?_⟩ <;> omega
    · have nx : ∀ h2, RA h2 → h2 50 = h 50 → G fz1 1900 0 32 [(3, 50), (3, 64), (3, 6603), (0, i)] [] h2 (fun r h' => r = 1 ∧ h' 0 0 ≤ 600001 ∧ h' 0 1 ≤ 7302250) := fun h2 R2 e => law_next hi (by omega) (ih (i + 7) h2 (by omega) (by omega) R2 (by rw [e]; exact h50) (by rw [e]; exact hI))
      have k1 : i + 7 ≤ h 50 (-1) := by omega
      have k2 : h 50 (-1) ≤ 3584 := by omega
      have fin : ∀ (x y : Int) (h2 : HV), x = y ∧ RB h2 ∧ UF h h2 ∧ h2 50 = h 50 → x = y ∧ G fz1 1900 0 32 [(3, 50), (3, 64), (3, 6603), (0, i)] [] h2 (fun r h' => r = 1 ∧ h' 0 0 ≤ 600001 ∧ h' 0 1 ≤ 7302250) := fun x y h2 q => ⟨q.1, nx h2 (hU h h2 R q.2.1 q.2.2.1) q.2.2.2⟩
      have fin2 : ∀ (x y : Int) (h2 : HV), x = y ∧ RA h2 ∧ h2 50 = h 50 → x = y ∧ G fz1 1900 0 32 [(3, 50), (3, 64), (3, 6603), (0, i)] [] h2 (fun r h' => r = 1 ∧ h' 0 0 ≤ 600001 ∧ h' 0 1 ≤ 7302250) := fun x y h2 q => ⟨q.1, nx h2 q.2.1 q.2.2⟩
      have cases : b = 2 ∨ b = 3 ∨ b = 4 ∨ b = 5 ∨ b = 6 ∨ b = 7 ∨ b = 8 ∨ b = 9 ∨ b = 10 ∨ b = 11 ∨ b = 12 ∨ b = 13 ∨ b = 14 ∨ b = 15 ∨ b = 16 ∨ b = 17 ∨ b = 18 ∨ b = 19 ∨ b = 20 ∨ b = 21 ∨ b = 22 ∨ b = 23 ∨ b = 24 ∨ b = 25 ∨ b = 26 ∨ b = 27 ∨ b = 28 ∨ b = 29 ∨ b = 30 ∨ b = 31 ∨ b = 32 := by omega
      rcases cases with rfl | rfl | rfl | rfl | rfl | rfl | rfl | rfl | rfl | rfl | rfl | rfl | rfl | rfl | rfl | rfl | rfl | rfl | rfl | rfl | rfl | rfl | rfl | rfl | rfl | rfl | rfl | rfl | rfl | rfl | rfl
      · exact law_b2 (by decide) hi k1 k2 ((st_feed (d := 1898) B).imp fun x h1 s => ⟨s.1, s.2.imp fun y h2 q => fin x y h2 q⟩)
      · exact law_b3 (by decide) hi k1 k2 ((oread h R).imp fun x h1 s => ⟨s.1, s.2.imp fun y h2 q => fin2 x y h2 q⟩)
      · exact law_b4 (by decide) hi k1 k2 ((st_count (d := 1898) B).imp fun x h1 s => ⟨s.1, s.2.imp fun y h2 q => fin x y h2 q⟩)
      · exact law_b5 (by decide) hi k1 k2 ((st_pupil (d := 1895) B).imp fun x h1 s => ⟨s.1, s.2.imp fun y h2 q => fin x y h2 q⟩)
      · exact law_b6 (by decide) hi k1 k2 ((st_parent (d := 1898) B).imp fun x h1 s => ⟨s.1, s.2.imp fun y h2 q => fin x y h2 q⟩)
      · exact law_b7 (by decide) hi k1 k2 ((st_person (d := 1897) B).imp fun x h1 s => ⟨s.1, s.2.imp fun y h2 q => fin x y h2 q⟩)
      · exact law_b8 (by decide) hi k1 k2 ((st_level (d := 1896) B).imp fun x h1 s => ⟨s.1, s.2.imp fun y h2 q => fin x y h2 q⟩)
      · exact law_b9 (by decide) hi k1 k2 ((st_marks (d := 1896) B).imp fun x h1 s => ⟨s.1, s.2.imp fun y h2 q => fin x y h2 q⟩)
      · exact law_b10 (by decide) hi k1 k2 ((st_mark (d := 1896) B (hI _ (by omega) (by omega))).imp fun x h1 s => ⟨s.1, s.2.imp fun y h2 q => fin x y h2 q⟩)
      · exact law_b11 (by decide) hi k1 k2 ((st_markOf (d := 1896) B).imp fun x h1 s => ⟨s.1, s.2.imp fun y h2 q => fin x y h2 q⟩)
      · exact law_b12 (by decide) hi k1 k2 ((orun _ _ _ _ _ _ (hI _ (by omega) (by omega)) (hI _ (by omega) (by omega)) (hI _ (by omega) (by omega)) (hI _ (by omega) (by omega)) h R).imp fun x h1 s => ⟨s.1, s.2.imp fun y h2 q => fin2 x y h2 q⟩)
      · exact law_b13 (by decide) hi k1 k2 ((st_gave (d := 1896) B).imp fun x h1 s => ⟨s.1, s.2.imp fun y h2 q => fin x y h2 q⟩)
      · exact law_b14 (by decide) hi k1 k2 ((st_steps (d := 1899) B).imp fun x h1 s => ⟨s.1, s.2.imp fun y h2 q => fin x y h2 q⟩)
      · exact law_b15 (by decide) hi k1 k2 ((ostand _ _ h R).imp fun x h1 s => ⟨s.1, s.2.imp fun y h2 q => fin2 x y h2 q⟩)
      · exact law_b16 (by decide) hi k1 k2 ((st_standing (d := 1898) B).imp fun x h1 s => ⟨s.1, s.2.imp fun y h2 q => fin x y h2 q⟩)
      · exact law_b17 (by decide) hi k1 k2 ((st_week (d := 1896) B).imp fun x h1 s => ⟨s.1, s.2.imp fun y h2 q => fin x y h2 q⟩)
      · exact law_b18 (by decide) hi k1 k2 ((st_bar (d := 1896) B).imp fun x h1 s => ⟨s.1, s.2.imp fun y h2 q => fin x y h2 q⟩)
      · exact law_b19 (by decide) hi k1 k2 ((st_wish (d := 1896) B).imp fun x h1 s => ⟨s.1, s.2.imp fun y h2 q => fin x y h2 q⟩)
      · exact law_b20 (by decide) hi k1 k2 ((st_build (d := 1892) B).imp fun x h1 s => ⟨s.1, s.2.imp fun y h2 q => fin x y h2 q⟩)
      · exact law_b21 (by decide) hi k1 k2 ((st_table (d := 1898) B).imp fun x h1 s => ⟨s.1, s.2.imp fun y h2 q => fin x y h2 q⟩)
      · exact law_b22 (by decide) hi k1 k2 ((st_unit (d := 1895) B).imp fun x h1 s => ⟨s.1, s.2.imp fun y h2 q => fin x y h2 q⟩)
      · exact law_b23 (by decide) hi k1 k2 ((st_prefer (d := 1896) B).imp fun x h1 s => ⟨s.1, s.2.imp fun y h2 q => fin x y h2 q⟩)
      · exact law_b24 (by decide) hi k1 k2 ((st_lottery (d := 1895) B).imp fun x h1 s => ⟨s.1, s.2.imp fun y h2 q => fin x y h2 q⟩)
      · exact law_b25 (by decide) hi k1 k2 ((st_ticket (d := 1896) B).imp fun x h1 s => ⟨s.1, s.2.imp fun y h2 q => fin x y h2 q⟩)
      · exact law_b26 (by decide) hi k1 k2 ((st_match (d := 1892) B).imp fun x h1 s => ⟨s.1, s.2.imp fun y h2 q => fin x y h2 q⟩)
      · exact law_b27 (by decide) hi k1 k2 ((st_placed (d := 1897) B).imp fun x h1 s => ⟨s.1, s.2.imp fun y h2 q => fin x y h2 q⟩)
      · exact law_b28 (by decide) hi k1 k2 ((st_stable (d := 1893) B).imp fun x h1 s => ⟨s.1, s.2.imp fun y h2 q => fin x y h2 q⟩)
      · exact law_b29 (by decide) hi k1 k2 ((st_absent (d := 1896) B).imp fun x h1 s => ⟨s.1, s.2.imp fun y h2 q => fin x y h2 q⟩)
      · exact law_b30 (by decide) hi k1 k2 ((st_cover (d := 1883) B).imp fun x h1 s => ⟨s.1, s.2.imp fun y h2 q => fin x y h2 q⟩)
      · exact law_b31 (by decide) hi k1 k2 ((st_covers (d := 1897) B).imp fun x h1 s => ⟨s.1, s.2.imp fun y h2 q => fin x y h2 q⟩)
      · exact nx h R rfl
