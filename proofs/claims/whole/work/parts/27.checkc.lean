/-! 10.checkc: the numbered instructions checked by the kernel: printed by wip/tools/genchk.py -/
set_option maxRecDepth 100000 in
theorem cb_0_0 : chkB 0 (pcs 0 0) (blk 0 0) (hts_ 0 0) = true := by decide +kernel
set_option maxRecDepth 100000 in
theorem cb_0_1 : chkB 0 (pcs 0 1) (blk 0 1) (hts_ 0 1) = true := by decide +kernel
set_option maxRecDepth 100000 in
theorem cp_0_2_0 : chkP 0 (pcs 0 2) (List.take 50 (blk 0 2)) (List.take 50 (hts_ 0 2)) = some 230 := by decide +kernel
set_option maxRecDepth 100000 in
theorem cp_0_2_e : chkB 0 230 (List.drop 50 (blk 0 2)) (List.drop 50 (hts_ 0 2)) = true := by decide +kernel
theorem cb_0_2 : chkB 0 (pcs 0 2) (blk 0 2) (hts_ 0 2) = true := chkB_cut 50 cp_0_2_0 (cp_0_2_e)
set_option maxRecDepth 100000 in
theorem cb_0_3 : chkB 0 (pcs 0 3) (blk 0 3) (hts_ 0 3) = true := by decide +kernel
set_option maxRecDepth 100000 in
theorem cb_0_4 : chkB 0 (pcs 0 4) (blk 0 4) (hts_ 0 4) = true := by decide +kernel
set_option maxRecDepth 100000 in
theorem cb_0_5 : chkB 0 (pcs 0 5) (blk 0 5) (hts_ 0 5) = true := by decide +kernel
set_option maxRecDepth 100000 in
theorem cb_0_6 : chkB 0 (pcs 0 6) (blk 0 6) (hts_ 0 6) = true := by decide +kernel
set_option maxRecDepth 100000 in
theorem cb_0_7 : chkB 0 (pcs 0 7) (blk 0 7) (hts_ 0 7) = true := by decide +kernel
set_option maxRecDepth 100000 in
theorem cb_0_8 : chkB 0 (pcs 0 8) (blk 0 8) (hts_ 0 8) = true := by decide +kernel
set_option maxRecDepth 100000 in
theorem cb_0_9 : chkB 0 (pcs 0 9) (blk 0 9) (hts_ 0 9) = true := by decide +kernel
set_option maxRecDepth 100000 in
theorem cb_0_10 : chkB 0 (pcs 0 10) (blk 0 10) (hts_ 0 10) = true := by decide +kernel
set_option maxRecDepth 100000 in
theorem cb_0_11 : chkB 0 (pcs 0 11) (blk 0 11) (hts_ 0 11) = true := by decide +kernel
set_option maxRecDepth 100000 in
theorem cp_0_12_0 : chkP 0 (pcs 0 12) (List.take 50 (blk 0 12)) (List.take 50 (hts_ 0 12)) = some 581 := by decide +kernel
set_option maxRecDepth 100000 in
theorem cp_0_12_e : chkB 0 581 (List.drop 50 (blk 0 12)) (List.drop 50 (hts_ 0 12)) = true := by decide +kernel
theorem cb_0_12 : chkB 0 (pcs 0 12) (blk 0 12) (hts_ 0 12) = true := chkB_cut 50 cp_0_12_0 (cp_0_12_e)
set_option maxRecDepth 100000 in
theorem cb_0_13 : chkB 0 (pcs 0 13) (blk 0 13) (hts_ 0 13) = true := by decide +kernel
set_option maxRecDepth 100000 in
theorem cb_0_14 : chkB 0 (pcs 0 14) (blk 0 14) (hts_ 0 14) = true := by decide +kernel
set_option maxRecDepth 100000 in
theorem cb_0_15 : chkB 0 (pcs 0 15) (blk 0 15) (hts_ 0 15) = true := by decide +kernel
set_option maxRecDepth 100000 in
theorem cb_0_16 : chkB 0 (pcs 0 16) (blk 0 16) (hts_ 0 16) = true := by decide +kernel
set_option maxRecDepth 100000 in
theorem cb_0_17 : chkB 0 (pcs 0 17) (blk 0 17) (hts_ 0 17) = true := by decide +kernel
set_option maxRecDepth 100000 in
theorem cb_0_18 : chkB 0 (pcs 0 18) (blk 0 18) (hts_ 0 18) = true := by decide +kernel
set_option maxRecDepth 100000 in
theorem cb_0_19 : chkB 0 (pcs 0 19) (blk 0 19) (hts_ 0 19) = true := by decide +kernel
set_option maxRecDepth 100000 in
theorem cb_0_20 : chkB 0 (pcs 0 20) (blk 0 20) (hts_ 0 20) = true := by decide +kernel
set_option maxRecDepth 100000 in
theorem cb_0_21 : chkB 0 (pcs 0 21) (blk 0 21) (hts_ 0 21) = true := by decide +kernel
set_option maxRecDepth 100000 in
theorem cb_0_22 : chkB 0 (pcs 0 22) (blk 0 22) (hts_ 0 22) = true := by decide +kernel
set_option maxRecDepth 100000 in
theorem cb_0_23 : chkB 0 (pcs 0 23) (blk 0 23) (hts_ 0 23) = true := by decide +kernel
set_option maxRecDepth 100000 in
theorem cb_0_24 : chkB 0 (pcs 0 24) (blk 0 24) (hts_ 0 24) = true := by decide +kernel
set_option maxRecDepth 100000 in
theorem cb_0_25 : chkB 0 (pcs 0 25) (blk 0 25) (hts_ 0 25) = true := by decide +kernel
set_option maxRecDepth 100000 in
theorem cb_0_26 : chkB 0 (pcs 0 26) (blk 0 26) (hts_ 0 26) = true := by decide +kernel
set_option maxRecDepth 100000 in
theorem cb_0_27 : chkB 0 (pcs 0 27) (blk 0 27) (hts_ 0 27) = true := by decide +kernel
set_option maxRecDepth 100000 in
theorem cb_0_28 : chkB 0 (pcs 0 28) (blk 0 28) (hts_ 0 28) = true := by decide +kernel
set_option maxRecDepth 100000 in
theorem cb_0_29 : chkB 0 (pcs 0 29) (blk 0 29) (hts_ 0 29) = true := by decide +kernel
set_option maxRecDepth 100000 in
theorem cb_0_30 : chkB 0 (pcs 0 30) (blk 0 30) (hts_ 0 30) = true := by decide +kernel
set_option maxRecDepth 100000 in
theorem cb_0_31 : chkB 0 (pcs 0 31) (blk 0 31) (hts_ 0 31) = true := by decide +kernel
set_option maxRecDepth 100000 in
theorem cb_0_32 : chkB 0 (pcs 0 32) (blk 0 32) (hts_ 0 32) = true := by decide +kernel
set_option maxRecDepth 100000 in
theorem cb_0_33 : chkB 0 (pcs 0 33) (blk 0 33) (hts_ 0 33) = true := by decide +kernel
set_option maxRecDepth 100000 in
theorem okB_0 : OKB 0 := ⟨by decide +kernel, fun b hb => match b, hb with
  | 0, _ => cb_0_0
  | 1, _ => cb_0_1
  | 2, _ => cb_0_2
  | 3, _ => cb_0_3
  | 4, _ => cb_0_4
  | 5, _ => cb_0_5
  | 6, _ => cb_0_6
  | 7, _ => cb_0_7
  | 8, _ => cb_0_8
  | 9, _ => cb_0_9
  | 10, _ => cb_0_10
  | 11, _ => cb_0_11
  | 12, _ => cb_0_12
  | 13, _ => cb_0_13
  | 14, _ => cb_0_14
  | 15, _ => cb_0_15
  | 16, _ => cb_0_16
  | 17, _ => cb_0_17
  | 18, _ => cb_0_18
  | 19, _ => cb_0_19
  | 20, _ => cb_0_20
  | 21, _ => cb_0_21
  | 22, _ => cb_0_22
  | 23, _ => cb_0_23
  | 24, _ => cb_0_24
  | 25, _ => cb_0_25
  | 26, _ => cb_0_26
  | 27, _ => cb_0_27
  | 28, _ => cb_0_28
  | 29, _ => cb_0_29
  | 30, _ => cb_0_30
  | 31, _ => cb_0_31
  | 32, _ => cb_0_32
  | 33, _ => cb_0_33
  | q + 34, h => absurd (show q + 34 < 34 from h) (by omega)⟩
set_option maxRecDepth 100000 in
theorem cb_32_0 : chkB 32 (pcs 32 0) (blk 32 0) (hts_ 32 0) = true := by decide +kernel
set_option maxRecDepth 100000 in
theorem cb_32_1 : chkB 32 (pcs 32 1) (blk 32 1) (hts_ 32 1) = true := by decide +kernel
set_option maxRecDepth 100000 in
theorem cb_32_2 : chkB 32 (pcs 32 2) (blk 32 2) (hts_ 32 2) = true := by decide +kernel
set_option maxRecDepth 100000 in
theorem cb_32_3 : chkB 32 (pcs 32 3) (blk 32 3) (hts_ 32 3) = true := by decide +kernel
set_option maxRecDepth 100000 in
theorem cb_32_4 : chkB 32 (pcs 32 4) (blk 32 4) (hts_ 32 4) = true := by decide +kernel
set_option maxRecDepth 100000 in
theorem cb_32_5 : chkB 32 (pcs 32 5) (blk 32 5) (hts_ 32 5) = true := by decide +kernel
set_option maxRecDepth 100000 in
theorem cb_32_6 : chkB 32 (pcs 32 6) (blk 32 6) (hts_ 32 6) = true := by decide +kernel
set_option maxRecDepth 100000 in
theorem cb_32_7 : chkB 32 (pcs 32 7) (blk 32 7) (hts_ 32 7) = true := by decide +kernel
set_option maxRecDepth 100000 in
theorem cb_32_8 : chkB 32 (pcs 32 8) (blk 32 8) (hts_ 32 8) = true := by decide +kernel
set_option maxRecDepth 100000 in
theorem cb_32_9 : chkB 32 (pcs 32 9) (blk 32 9) (hts_ 32 9) = true := by decide +kernel
set_option maxRecDepth 100000 in
theorem cb_32_10 : chkB 32 (pcs 32 10) (blk 32 10) (hts_ 32 10) = true := by decide +kernel
set_option maxRecDepth 100000 in
theorem okB_32 : OKB 32 := ⟨by decide +kernel, fun b hb => match b, hb with
  | 0, _ => cb_32_0
  | 1, _ => cb_32_1
  | 2, _ => cb_32_2
  | 3, _ => cb_32_3
  | 4, _ => cb_32_4
  | 5, _ => cb_32_5
  | 6, _ => cb_32_6
  | 7, _ => cb_32_7
  | 8, _ => cb_32_8
  | 9, _ => cb_32_9
  | 10, _ => cb_32_10
  | q + 11, h => absurd (show q + 11 < 11 from h) (by omega)⟩
set_option maxRecDepth 100000 in
theorem okM_32 : OM 32 := ⟨rfl, by decide +kernel⟩
set_option maxRecDepth 100000 in
theorem cb_173_0 : chkB 173 (pcs 173 0) (blk 173 0) (hts_ 173 0) = true := by decide +kernel
set_option maxRecDepth 100000 in
theorem cb_173_1 : chkB 173 (pcs 173 1) (blk 173 1) (hts_ 173 1) = true := by decide +kernel
set_option maxRecDepth 100000 in
theorem cb_173_2 : chkB 173 (pcs 173 2) (blk 173 2) (hts_ 173 2) = true := by decide +kernel
set_option maxRecDepth 100000 in
theorem cb_173_3 : chkB 173 (pcs 173 3) (blk 173 3) (hts_ 173 3) = true := by decide +kernel
set_option maxRecDepth 100000 in
theorem cb_173_4 : chkB 173 (pcs 173 4) (blk 173 4) (hts_ 173 4) = true := by decide +kernel
set_option maxRecDepth 100000 in
theorem cb_173_5 : chkB 173 (pcs 173 5) (blk 173 5) (hts_ 173 5) = true := by decide +kernel
set_option maxRecDepth 100000 in
theorem cb_173_6 : chkB 173 (pcs 173 6) (blk 173 6) (hts_ 173 6) = true := by decide +kernel
set_option maxRecDepth 100000 in
theorem cb_173_7 : chkB 173 (pcs 173 7) (blk 173 7) (hts_ 173 7) = true := by decide +kernel
set_option maxRecDepth 100000 in
theorem cb_173_8 : chkB 173 (pcs 173 8) (blk 173 8) (hts_ 173 8) = true := by decide +kernel
set_option maxRecDepth 100000 in
theorem cb_173_9 : chkB 173 (pcs 173 9) (blk 173 9) (hts_ 173 9) = true := by decide +kernel
set_option maxRecDepth 100000 in
theorem cb_173_10 : chkB 173 (pcs 173 10) (blk 173 10) (hts_ 173 10) = true := by decide +kernel
set_option maxRecDepth 100000 in
theorem cb_173_11 : chkB 173 (pcs 173 11) (blk 173 11) (hts_ 173 11) = true := by decide +kernel
set_option maxRecDepth 100000 in
theorem cb_173_12 : chkB 173 (pcs 173 12) (blk 173 12) (hts_ 173 12) = true := by decide +kernel
set_option maxRecDepth 100000 in
theorem cb_173_13 : chkB 173 (pcs 173 13) (blk 173 13) (hts_ 173 13) = true := by decide +kernel
set_option maxRecDepth 100000 in
theorem cb_173_14 : chkB 173 (pcs 173 14) (blk 173 14) (hts_ 173 14) = true := by decide +kernel
set_option maxRecDepth 100000 in
theorem cb_173_15 : chkB 173 (pcs 173 15) (blk 173 15) (hts_ 173 15) = true := by decide +kernel
set_option maxRecDepth 100000 in
theorem cb_173_16 : chkB 173 (pcs 173 16) (blk 173 16) (hts_ 173 16) = true := by decide +kernel
set_option maxRecDepth 100000 in
theorem cb_173_17 : chkB 173 (pcs 173 17) (blk 173 17) (hts_ 173 17) = true := by decide +kernel
set_option maxRecDepth 100000 in
theorem cb_173_18 : chkB 173 (pcs 173 18) (blk 173 18) (hts_ 173 18) = true := by decide +kernel
set_option maxRecDepth 100000 in
theorem cb_173_19 : chkB 173 (pcs 173 19) (blk 173 19) (hts_ 173 19) = true := by decide +kernel
set_option maxRecDepth 100000 in
theorem cb_173_20 : chkB 173 (pcs 173 20) (blk 173 20) (hts_ 173 20) = true := by decide +kernel
set_option maxRecDepth 100000 in
theorem cb_173_21 : chkB 173 (pcs 173 21) (blk 173 21) (hts_ 173 21) = true := by decide +kernel
set_option maxRecDepth 100000 in
theorem cb_173_22 : chkB 173 (pcs 173 22) (blk 173 22) (hts_ 173 22) = true := by decide +kernel
set_option maxRecDepth 100000 in
theorem cb_173_23 : chkB 173 (pcs 173 23) (blk 173 23) (hts_ 173 23) = true := by decide +kernel
set_option maxRecDepth 100000 in
theorem cb_173_24 : chkB 173 (pcs 173 24) (blk 173 24) (hts_ 173 24) = true := by decide +kernel
set_option maxRecDepth 100000 in
theorem cb_173_25 : chkB 173 (pcs 173 25) (blk 173 25) (hts_ 173 25) = true := by decide +kernel
set_option maxRecDepth 100000 in
theorem cb_173_26 : chkB 173 (pcs 173 26) (blk 173 26) (hts_ 173 26) = true := by decide +kernel
set_option maxRecDepth 100000 in
theorem cb_173_27 : chkB 173 (pcs 173 27) (blk 173 27) (hts_ 173 27) = true := by decide +kernel
set_option maxRecDepth 100000 in
theorem cb_173_28 : chkB 173 (pcs 173 28) (blk 173 28) (hts_ 173 28) = true := by decide +kernel
set_option maxRecDepth 100000 in
theorem cb_173_29 : chkB 173 (pcs 173 29) (blk 173 29) (hts_ 173 29) = true := by decide +kernel
set_option maxRecDepth 100000 in
theorem cb_173_30 : chkB 173 (pcs 173 30) (blk 173 30) (hts_ 173 30) = true := by decide +kernel
set_option maxRecDepth 100000 in
theorem cb_173_31 : chkB 173 (pcs 173 31) (blk 173 31) (hts_ 173 31) = true := by decide +kernel
set_option maxRecDepth 100000 in
theorem cb_173_32 : chkB 173 (pcs 173 32) (blk 173 32) (hts_ 173 32) = true := by decide +kernel
set_option maxRecDepth 100000 in
theorem cb_173_33 : chkB 173 (pcs 173 33) (blk 173 33) (hts_ 173 33) = true := by decide +kernel
set_option maxRecDepth 100000 in
theorem cb_173_34 : chkB 173 (pcs 173 34) (blk 173 34) (hts_ 173 34) = true := by decide +kernel
set_option maxRecDepth 100000 in
theorem okB_173 : OKB 173 := ⟨by decide +kernel, fun b hb => match b, hb with
  | 0, _ => cb_173_0
  | 1, _ => cb_173_1
  | 2, _ => cb_173_2
  | 3, _ => cb_173_3
  | 4, _ => cb_173_4
  | 5, _ => cb_173_5
  | 6, _ => cb_173_6
  | 7, _ => cb_173_7
  | 8, _ => cb_173_8
  | 9, _ => cb_173_9
  | 10, _ => cb_173_10
  | 11, _ => cb_173_11
  | 12, _ => cb_173_12
  | 13, _ => cb_173_13
  | 14, _ => cb_173_14
  | 15, _ => cb_173_15
  | 16, _ => cb_173_16
  | 17, _ => cb_173_17
  | 18, _ => cb_173_18
  | 19, _ => cb_173_19
  | 20, _ => cb_173_20
  | 21, _ => cb_173_21
  | 22, _ => cb_173_22
  | 23, _ => cb_173_23
  | 24, _ => cb_173_24
  | 25, _ => cb_173_25
  | 26, _ => cb_173_26
  | 27, _ => cb_173_27
  | 28, _ => cb_173_28
  | 29, _ => cb_173_29
  | 30, _ => cb_173_30
  | 31, _ => cb_173_31
  | 32, _ => cb_173_32
  | 33, _ => cb_173_33
  | 34, _ => cb_173_34
  | q + 35, h => absurd (show q + 35 < 35 from h) (by omega)⟩
set_option maxRecDepth 100000 in
theorem okM_173 : OM 173 := ⟨rfl, by decide +kernel⟩
set_option maxRecDepth 100000 in
theorem cb_204_0 : chkB 204 (pcs 204 0) (blk 204 0) (hts_ 204 0) = true := by decide +kernel
set_option maxRecDepth 100000 in
theorem cb_204_1 : chkB 204 (pcs 204 1) (blk 204 1) (hts_ 204 1) = true := by decide +kernel
set_option maxRecDepth 100000 in
theorem cb_204_2 : chkB 204 (pcs 204 2) (blk 204 2) (hts_ 204 2) = true := by decide +kernel
set_option maxRecDepth 100000 in
theorem cb_204_3 : chkB 204 (pcs 204 3) (blk 204 3) (hts_ 204 3) = true := by decide +kernel
set_option maxRecDepth 100000 in
theorem cb_204_4 : chkB 204 (pcs 204 4) (blk 204 4) (hts_ 204 4) = true := by decide +kernel
set_option maxRecDepth 100000 in
theorem cb_204_5 : chkB 204 (pcs 204 5) (blk 204 5) (hts_ 204 5) = true := by decide +kernel
set_option maxRecDepth 100000 in
theorem cb_204_6 : chkB 204 (pcs 204 6) (blk 204 6) (hts_ 204 6) = true := by decide +kernel
set_option maxRecDepth 100000 in
theorem cb_204_7 : chkB 204 (pcs 204 7) (blk 204 7) (hts_ 204 7) = true := by decide +kernel
set_option maxRecDepth 100000 in
theorem cb_204_8 : chkB 204 (pcs 204 8) (blk 204 8) (hts_ 204 8) = true := by decide +kernel
set_option maxRecDepth 100000 in
theorem cp_204_9_0 : chkP 204 (pcs 204 9) (List.take 50 (blk 204 9)) (List.take 50 (hts_ 204 9)) = some 171 := by decide +kernel
set_option maxRecDepth 100000 in
theorem cp_204_9_e : chkB 204 171 (List.drop 50 (blk 204 9)) (List.drop 50 (hts_ 204 9)) = true := by decide +kernel
theorem cb_204_9 : chkB 204 (pcs 204 9) (blk 204 9) (hts_ 204 9) = true := chkB_cut 50 cp_204_9_0 (cp_204_9_e)
set_option maxRecDepth 100000 in
theorem cb_204_10 : chkB 204 (pcs 204 10) (blk 204 10) (hts_ 204 10) = true := by decide +kernel
set_option maxRecDepth 100000 in
theorem cb_204_11 : chkB 204 (pcs 204 11) (blk 204 11) (hts_ 204 11) = true := by decide +kernel
set_option maxRecDepth 100000 in
theorem cb_204_12 : chkB 204 (pcs 204 12) (blk 204 12) (hts_ 204 12) = true := by decide +kernel
set_option maxRecDepth 100000 in
theorem cb_204_13 : chkB 204 (pcs 204 13) (blk 204 13) (hts_ 204 13) = true := by decide +kernel
set_option maxRecDepth 100000 in
theorem cb_204_14 : chkB 204 (pcs 204 14) (blk 204 14) (hts_ 204 14) = true := by decide +kernel
set_option maxRecDepth 100000 in
theorem okB_204 : OKB 204 := ⟨by decide +kernel, fun b hb => match b, hb with
  | 0, _ => cb_204_0
  | 1, _ => cb_204_1
  | 2, _ => cb_204_2
  | 3, _ => cb_204_3
  | 4, _ => cb_204_4
  | 5, _ => cb_204_5
  | 6, _ => cb_204_6
  | 7, _ => cb_204_7
  | 8, _ => cb_204_8
  | 9, _ => cb_204_9
  | 10, _ => cb_204_10
  | 11, _ => cb_204_11
  | 12, _ => cb_204_12
  | 13, _ => cb_204_13
  | 14, _ => cb_204_14
  | q + 15, h => absurd (show q + 15 < 15 from h) (by omega)⟩
set_option maxRecDepth 100000 in
theorem okM_204 : OM 204 := ⟨rfl, by decide +kernel⟩
set_option maxRecDepth 100000 in
theorem cb_219_0 : chkB 219 (pcs 219 0) (blk 219 0) (hts_ 219 0) = true := by decide +kernel
set_option maxRecDepth 100000 in
theorem cb_219_1 : chkB 219 (pcs 219 1) (blk 219 1) (hts_ 219 1) = true := by decide +kernel
set_option maxRecDepth 100000 in
theorem cb_219_2 : chkB 219 (pcs 219 2) (blk 219 2) (hts_ 219 2) = true := by decide +kernel
set_option maxRecDepth 100000 in
theorem cb_219_3 : chkB 219 (pcs 219 3) (blk 219 3) (hts_ 219 3) = true := by decide +kernel
set_option maxRecDepth 100000 in
theorem cb_219_4 : chkB 219 (pcs 219 4) (blk 219 4) (hts_ 219 4) = true := by decide +kernel
set_option maxRecDepth 100000 in
theorem cb_219_5 : chkB 219 (pcs 219 5) (blk 219 5) (hts_ 219 5) = true := by decide +kernel
set_option maxRecDepth 100000 in
theorem cb_219_6 : chkB 219 (pcs 219 6) (blk 219 6) (hts_ 219 6) = true := by decide +kernel
set_option maxRecDepth 100000 in
theorem cb_219_7 : chkB 219 (pcs 219 7) (blk 219 7) (hts_ 219 7) = true := by decide +kernel
set_option maxRecDepth 100000 in
theorem cb_219_8 : chkB 219 (pcs 219 8) (blk 219 8) (hts_ 219 8) = true := by decide +kernel
set_option maxRecDepth 100000 in
theorem cb_219_9 : chkB 219 (pcs 219 9) (blk 219 9) (hts_ 219 9) = true := by decide +kernel
set_option maxRecDepth 100000 in
theorem cb_219_10 : chkB 219 (pcs 219 10) (blk 219 10) (hts_ 219 10) = true := by decide +kernel
set_option maxRecDepth 100000 in
theorem cb_219_11 : chkB 219 (pcs 219 11) (blk 219 11) (hts_ 219 11) = true := by decide +kernel
set_option maxRecDepth 100000 in
theorem okB_219 : OKB 219 := ⟨by decide +kernel, fun b hb => match b, hb with
  | 0, _ => cb_219_0
  | 1, _ => cb_219_1
  | 2, _ => cb_219_2
  | 3, _ => cb_219_3
  | 4, _ => cb_219_4
  | 5, _ => cb_219_5
  | 6, _ => cb_219_6
  | 7, _ => cb_219_7
  | 8, _ => cb_219_8
  | 9, _ => cb_219_9
  | 10, _ => cb_219_10
  | 11, _ => cb_219_11
  | q + 12, h => absurd (show q + 12 < 12 from h) (by omega)⟩
set_option maxRecDepth 100000 in
theorem okM_219 : OM 219 := ⟨rfl, by decide +kernel⟩
set_option maxRecDepth 100000 in
theorem cp_317_0_0 : chkP 317 (pcs 317 0) (List.take 50 (blk 317 0)) (List.take 50 (hts_ 317 0)) = some 82 := by decide +kernel
set_option maxRecDepth 100000 in
theorem cp_317_0_1 : chkP 317 82 (List.take 50 (List.drop 50 (blk 317 0))) (List.take 50 (List.drop 50 (hts_ 317 0))) = some 156 := by decide +kernel
set_option maxRecDepth 100000 in
theorem cp_317_0_2 : chkP 317 156 (List.take 50 (List.drop 50 (List.drop 50 (blk 317 0)))) (List.take 50 (List.drop 50 (List.drop 50 (hts_ 317 0)))) = some 232 := by decide +kernel
set_option maxRecDepth 100000 in
theorem cp_317_0_3 : chkP 317 232 (List.take 50 (List.drop 50 (List.drop 50 (List.drop 50 (blk 317 0))))) (List.take 50 (List.drop 50 (List.drop 50 (List.drop 50 (hts_ 317 0))))) = some 329 := by decide +kernel
set_option maxRecDepth 100000 in
theorem cp_317_0_4 : chkP 317 329 (List.take 50 (List.drop 50 (List.drop 50 (List.drop 50 (List.drop 50 (blk 317 0)))))) (List.take 50 (List.drop 50 (List.drop 50 (List.drop 50 (List.drop 50 (hts_ 317 0)))))) = some 437 := by decide +kernel
set_option maxRecDepth 100000 in
theorem cp_317_0_5 : chkP 317 437 (List.take 50 (List.drop 50 (List.drop 50 (List.drop 50 (List.drop 50 (List.drop 50 (blk 317 0))))))) (List.take 50 (List.drop 50 (List.drop 50 (List.drop 50 (List.drop 50 (List.drop 50 (hts_ 317 0))))))) = some 545 := by decide +kernel
set_option maxRecDepth 100000 in
theorem cp_317_0_6 : chkP 317 545 (List.take 50 (List.drop 50 (List.drop 50 (List.drop 50 (List.drop 50 (List.drop 50 (List.drop 50 (blk 317 0)))))))) (List.take 50 (List.drop 50 (List.drop 50 (List.drop 50 (List.drop 50 (List.drop 50 (List.drop 50 (hts_ 317 0)))))))) = some 646 := by decide +kernel
set_option maxRecDepth 100000 in
theorem cp_317_0_7 : chkP 317 646 (List.take 50 (List.drop 50 (List.drop 50 (List.drop 50 (List.drop 50 (List.drop 50 (List.drop 50 (List.drop 50 (blk 317 0))))))))) (List.take 50 (List.drop 50 (List.drop 50 (List.drop 50 (List.drop 50 (List.drop 50 (List.drop 50 (List.drop 50 (hts_ 317 0))))))))) = some 748 := by decide +kernel
set_option maxRecDepth 100000 in
theorem cp_317_0_e : chkB 317 748 (List.drop 50 (List.drop 50 (List.drop 50 (List.drop 50 (List.drop 50 (List.drop 50 (List.drop 50 (List.drop 50 (blk 317 0))))))))) (List.drop 50 (List.drop 50 (List.drop 50 (List.drop 50 (List.drop 50 (List.drop 50 (List.drop 50 (List.drop 50 (hts_ 317 0))))))))) = true := by decide +kernel
theorem cb_317_0 : chkB 317 (pcs 317 0) (blk 317 0) (hts_ 317 0) = true := chkB_cut 50 cp_317_0_0 (chkB_cut 50 cp_317_0_1 (chkB_cut 50 cp_317_0_2 (chkB_cut 50 cp_317_0_3 (chkB_cut 50 cp_317_0_4 (chkB_cut 50 cp_317_0_5 (chkB_cut 50 cp_317_0_6 (chkB_cut 50 cp_317_0_7 (cp_317_0_e))))))))
set_option maxRecDepth 100000 in
theorem okB_317 : OKB 317 := ⟨by decide +kernel, fun b hb => match b, hb with
  | 0, _ => cb_317_0
  | q + 1, h => absurd (show q + 1 < 1 from h) (by omega)⟩
set_option maxRecDepth 100000 in
theorem okM_317 : OM 317 := ⟨rfl, by decide +kernel⟩
set_option maxRecDepth 100000 in
theorem cb_320_0 : chkB 320 (pcs 320 0) (blk 320 0) (hts_ 320 0) = true := by decide +kernel
set_option maxRecDepth 100000 in
theorem cb_320_1 : chkB 320 (pcs 320 1) (blk 320 1) (hts_ 320 1) = true := by decide +kernel
set_option maxRecDepth 100000 in
theorem cb_320_2 : chkB 320 (pcs 320 2) (blk 320 2) (hts_ 320 2) = true := by decide +kernel
set_option maxRecDepth 100000 in
theorem cb_320_3 : chkB 320 (pcs 320 3) (blk 320 3) (hts_ 320 3) = true := by decide +kernel
set_option maxRecDepth 100000 in
theorem cb_320_4 : chkB 320 (pcs 320 4) (blk 320 4) (hts_ 320 4) = true := by decide +kernel
set_option maxRecDepth 100000 in
theorem cb_320_5 : chkB 320 (pcs 320 5) (blk 320 5) (hts_ 320 5) = true := by decide +kernel
set_option maxRecDepth 100000 in
theorem cb_320_6 : chkB 320 (pcs 320 6) (blk 320 6) (hts_ 320 6) = true := by decide +kernel
set_option maxRecDepth 100000 in
theorem cb_320_7 : chkB 320 (pcs 320 7) (blk 320 7) (hts_ 320 7) = true := by decide +kernel
set_option maxRecDepth 100000 in
theorem cb_320_8 : chkB 320 (pcs 320 8) (blk 320 8) (hts_ 320 8) = true := by decide +kernel
set_option maxRecDepth 100000 in
theorem cb_320_9 : chkB 320 (pcs 320 9) (blk 320 9) (hts_ 320 9) = true := by decide +kernel
set_option maxRecDepth 100000 in
theorem cb_320_10 : chkB 320 (pcs 320 10) (blk 320 10) (hts_ 320 10) = true := by decide +kernel
set_option maxRecDepth 100000 in
theorem okB_320 : OKB 320 := ⟨by decide +kernel, fun b hb => match b, hb with
  | 0, _ => cb_320_0
  | 1, _ => cb_320_1
  | 2, _ => cb_320_2
  | 3, _ => cb_320_3
  | 4, _ => cb_320_4
  | 5, _ => cb_320_5
  | 6, _ => cb_320_6
  | 7, _ => cb_320_7
  | 8, _ => cb_320_8
  | 9, _ => cb_320_9
  | 10, _ => cb_320_10
  | q + 11, h => absurd (show q + 11 < 11 from h) (by omega)⟩
set_option maxRecDepth 100000 in
theorem okM_320 : OM 320 := ⟨rfl, by decide +kernel⟩
set_option maxRecDepth 100000 in
theorem cb_321_0 : chkB 321 (pcs 321 0) (blk 321 0) (hts_ 321 0) = true := by decide +kernel
set_option maxRecDepth 100000 in
theorem cb_321_1 : chkB 321 (pcs 321 1) (blk 321 1) (hts_ 321 1) = true := by decide +kernel
set_option maxRecDepth 100000 in
theorem cb_321_2 : chkB 321 (pcs 321 2) (blk 321 2) (hts_ 321 2) = true := by decide +kernel
set_option maxRecDepth 100000 in
theorem cb_321_3 : chkB 321 (pcs 321 3) (blk 321 3) (hts_ 321 3) = true := by decide +kernel
set_option maxRecDepth 100000 in
theorem cb_321_4 : chkB 321 (pcs 321 4) (blk 321 4) (hts_ 321 4) = true := by decide +kernel
set_option maxRecDepth 100000 in
theorem cb_321_5 : chkB 321 (pcs 321 5) (blk 321 5) (hts_ 321 5) = true := by decide +kernel
set_option maxRecDepth 100000 in
theorem cb_321_6 : chkB 321 (pcs 321 6) (blk 321 6) (hts_ 321 6) = true := by decide +kernel
set_option maxRecDepth 100000 in
theorem cb_321_7 : chkB 321 (pcs 321 7) (blk 321 7) (hts_ 321 7) = true := by decide +kernel
set_option maxRecDepth 100000 in
theorem cb_321_8 : chkB 321 (pcs 321 8) (blk 321 8) (hts_ 321 8) = true := by decide +kernel
set_option maxRecDepth 100000 in
theorem cb_321_9 : chkB 321 (pcs 321 9) (blk 321 9) (hts_ 321 9) = true := by decide +kernel
set_option maxRecDepth 100000 in
theorem cb_321_10 : chkB 321 (pcs 321 10) (blk 321 10) (hts_ 321 10) = true := by decide +kernel
set_option maxRecDepth 100000 in
theorem cb_321_11 : chkB 321 (pcs 321 11) (blk 321 11) (hts_ 321 11) = true := by decide +kernel
set_option maxRecDepth 100000 in
theorem cb_321_12 : chkB 321 (pcs 321 12) (blk 321 12) (hts_ 321 12) = true := by decide +kernel
set_option maxRecDepth 100000 in
theorem cb_321_13 : chkB 321 (pcs 321 13) (blk 321 13) (hts_ 321 13) = true := by decide +kernel
set_option maxRecDepth 100000 in
theorem cb_321_14 : chkB 321 (pcs 321 14) (blk 321 14) (hts_ 321 14) = true := by decide +kernel
set_option maxRecDepth 100000 in
theorem cb_321_15 : chkB 321 (pcs 321 15) (blk 321 15) (hts_ 321 15) = true := by decide +kernel
set_option maxRecDepth 100000 in
theorem cb_321_16 : chkB 321 (pcs 321 16) (blk 321 16) (hts_ 321 16) = true := by decide +kernel
set_option maxRecDepth 100000 in
theorem cb_321_17 : chkB 321 (pcs 321 17) (blk 321 17) (hts_ 321 17) = true := by decide +kernel
set_option maxRecDepth 100000 in
theorem cb_321_18 : chkB 321 (pcs 321 18) (blk 321 18) (hts_ 321 18) = true := by decide +kernel
set_option maxRecDepth 100000 in
theorem cb_321_19 : chkB 321 (pcs 321 19) (blk 321 19) (hts_ 321 19) = true := by decide +kernel
set_option maxRecDepth 100000 in
theorem cb_321_20 : chkB 321 (pcs 321 20) (blk 321 20) (hts_ 321 20) = true := by decide +kernel
set_option maxRecDepth 100000 in
theorem cb_321_21 : chkB 321 (pcs 321 21) (blk 321 21) (hts_ 321 21) = true := by decide +kernel
set_option maxRecDepth 100000 in
theorem cb_321_22 : chkB 321 (pcs 321 22) (blk 321 22) (hts_ 321 22) = true := by decide +kernel
set_option maxRecDepth 100000 in
theorem cb_321_23 : chkB 321 (pcs 321 23) (blk 321 23) (hts_ 321 23) = true := by decide +kernel
set_option maxRecDepth 100000 in
theorem cb_321_24 : chkB 321 (pcs 321 24) (blk 321 24) (hts_ 321 24) = true := by decide +kernel
set_option maxRecDepth 100000 in
theorem cb_321_25 : chkB 321 (pcs 321 25) (blk 321 25) (hts_ 321 25) = true := by decide +kernel
set_option maxRecDepth 100000 in
theorem cb_321_26 : chkB 321 (pcs 321 26) (blk 321 26) (hts_ 321 26) = true := by decide +kernel
set_option maxRecDepth 100000 in
theorem cp_321_27_0 : chkP 321 (pcs 321 27) (List.take 50 (blk 321 27)) (List.take 50 (hts_ 321 27)) = some 554 := by decide +kernel
set_option maxRecDepth 100000 in
theorem cp_321_27_e : chkB 321 554 (List.drop 50 (blk 321 27)) (List.drop 50 (hts_ 321 27)) = true := by decide +kernel
theorem cb_321_27 : chkB 321 (pcs 321 27) (blk 321 27) (hts_ 321 27) = true := chkB_cut 50 cp_321_27_0 (cp_321_27_e)
set_option maxRecDepth 100000 in
theorem cb_321_28 : chkB 321 (pcs 321 28) (blk 321 28) (hts_ 321 28) = true := by decide +kernel
set_option maxRecDepth 100000 in
theorem cb_321_29 : chkB 321 (pcs 321 29) (blk 321 29) (hts_ 321 29) = true := by decide +kernel
set_option maxRecDepth 100000 in
theorem cb_321_30 : chkB 321 (pcs 321 30) (blk 321 30) (hts_ 321 30) = true := by decide +kernel
set_option maxRecDepth 100000 in
theorem cb_321_31 : chkB 321 (pcs 321 31) (blk 321 31) (hts_ 321 31) = true := by decide +kernel
set_option maxRecDepth 100000 in
theorem okB_321 : OKB 321 := ⟨by decide +kernel, fun b hb => match b, hb with
  | 0, _ => cb_321_0
  | 1, _ => cb_321_1
  | 2, _ => cb_321_2
  | 3, _ => cb_321_3
  | 4, _ => cb_321_4
  | 5, _ => cb_321_5
  | 6, _ => cb_321_6
  | 7, _ => cb_321_7
  | 8, _ => cb_321_8
  | 9, _ => cb_321_9
  | 10, _ => cb_321_10
  | 11, _ => cb_321_11
  | 12, _ => cb_321_12
  | 13, _ => cb_321_13
  | 14, _ => cb_321_14
  | 15, _ => cb_321_15
  | 16, _ => cb_321_16
  | 17, _ => cb_321_17
  | 18, _ => cb_321_18
  | 19, _ => cb_321_19
  | 20, _ => cb_321_20
  | 21, _ => cb_321_21
  | 22, _ => cb_321_22
  | 23, _ => cb_321_23
  | 24, _ => cb_321_24
  | 25, _ => cb_321_25
  | 26, _ => cb_321_26
  | 27, _ => cb_321_27
  | 28, _ => cb_321_28
  | 29, _ => cb_321_29
  | 30, _ => cb_321_30
  | 31, _ => cb_321_31
  | q + 32, h => absurd (show q + 32 < 32 from h) (by omega)⟩
set_option maxRecDepth 100000 in
theorem okM_321 : OM 321 := ⟨rfl, by decide +kernel⟩
set_option maxRecDepth 100000 in
theorem cb_336_0 : chkB 336 (pcs 336 0) (blk 336 0) (hts_ 336 0) = true := by decide +kernel
set_option maxRecDepth 100000 in
theorem cb_336_1 : chkB 336 (pcs 336 1) (blk 336 1) (hts_ 336 1) = true := by decide +kernel
set_option maxRecDepth 100000 in
theorem cb_336_2 : chkB 336 (pcs 336 2) (blk 336 2) (hts_ 336 2) = true := by decide +kernel
set_option maxRecDepth 100000 in
theorem cb_336_3 : chkB 336 (pcs 336 3) (blk 336 3) (hts_ 336 3) = true := by decide +kernel
set_option maxRecDepth 100000 in
theorem cb_336_4 : chkB 336 (pcs 336 4) (blk 336 4) (hts_ 336 4) = true := by decide +kernel
set_option maxRecDepth 100000 in
theorem cb_336_5 : chkB 336 (pcs 336 5) (blk 336 5) (hts_ 336 5) = true := by decide +kernel
set_option maxRecDepth 100000 in
theorem cb_336_6 : chkB 336 (pcs 336 6) (blk 336 6) (hts_ 336 6) = true := by decide +kernel
set_option maxRecDepth 100000 in
theorem cb_336_7 : chkB 336 (pcs 336 7) (blk 336 7) (hts_ 336 7) = true := by decide +kernel
set_option maxRecDepth 100000 in
theorem cb_336_8 : chkB 336 (pcs 336 8) (blk 336 8) (hts_ 336 8) = true := by decide +kernel
set_option maxRecDepth 100000 in
theorem cb_336_9 : chkB 336 (pcs 336 9) (blk 336 9) (hts_ 336 9) = true := by decide +kernel
set_option maxRecDepth 100000 in
theorem cb_336_10 : chkB 336 (pcs 336 10) (blk 336 10) (hts_ 336 10) = true := by decide +kernel
set_option maxRecDepth 100000 in
theorem cb_336_11 : chkB 336 (pcs 336 11) (blk 336 11) (hts_ 336 11) = true := by decide +kernel
set_option maxRecDepth 100000 in
theorem cb_336_12 : chkB 336 (pcs 336 12) (blk 336 12) (hts_ 336 12) = true := by decide +kernel
set_option maxRecDepth 100000 in
theorem cb_336_13 : chkB 336 (pcs 336 13) (blk 336 13) (hts_ 336 13) = true := by decide +kernel
set_option maxRecDepth 100000 in
theorem cb_336_14 : chkB 336 (pcs 336 14) (blk 336 14) (hts_ 336 14) = true := by decide +kernel
set_option maxRecDepth 100000 in
theorem cb_336_15 : chkB 336 (pcs 336 15) (blk 336 15) (hts_ 336 15) = true := by decide +kernel
set_option maxRecDepth 100000 in
theorem okB_336 : OKB 336 := ⟨by decide +kernel, fun b hb => match b, hb with
  | 0, _ => cb_336_0
  | 1, _ => cb_336_1
  | 2, _ => cb_336_2
  | 3, _ => cb_336_3
  | 4, _ => cb_336_4
  | 5, _ => cb_336_5
  | 6, _ => cb_336_6
  | 7, _ => cb_336_7
  | 8, _ => cb_336_8
  | 9, _ => cb_336_9
  | 10, _ => cb_336_10
  | 11, _ => cb_336_11
  | 12, _ => cb_336_12
  | 13, _ => cb_336_13
  | 14, _ => cb_336_14
  | 15, _ => cb_336_15
  | q + 16, h => absurd (show q + 16 < 16 from h) (by omega)⟩
set_option maxRecDepth 100000 in
theorem okM_336 : OM 336 := ⟨rfl, by decide +kernel⟩
set_option maxRecDepth 100000 in
theorem cb_345_0 : chkB 345 (pcs 345 0) (blk 345 0) (hts_ 345 0) = true := by decide +kernel
set_option maxRecDepth 100000 in
theorem cb_345_1 : chkB 345 (pcs 345 1) (blk 345 1) (hts_ 345 1) = true := by decide +kernel
set_option maxRecDepth 100000 in
theorem cb_345_2 : chkB 345 (pcs 345 2) (blk 345 2) (hts_ 345 2) = true := by decide +kernel
set_option maxRecDepth 100000 in
theorem cb_345_3 : chkB 345 (pcs 345 3) (blk 345 3) (hts_ 345 3) = true := by decide +kernel
set_option maxRecDepth 100000 in
theorem cb_345_4 : chkB 345 (pcs 345 4) (blk 345 4) (hts_ 345 4) = true := by decide +kernel
set_option maxRecDepth 100000 in
theorem cb_345_5 : chkB 345 (pcs 345 5) (blk 345 5) (hts_ 345 5) = true := by decide +kernel
set_option maxRecDepth 100000 in
theorem cb_345_6 : chkB 345 (pcs 345 6) (blk 345 6) (hts_ 345 6) = true := by decide +kernel
set_option maxRecDepth 100000 in
theorem cb_345_7 : chkB 345 (pcs 345 7) (blk 345 7) (hts_ 345 7) = true := by decide +kernel
set_option maxRecDepth 100000 in
theorem cb_345_8 : chkB 345 (pcs 345 8) (blk 345 8) (hts_ 345 8) = true := by decide +kernel
set_option maxRecDepth 100000 in
theorem cb_345_9 : chkB 345 (pcs 345 9) (blk 345 9) (hts_ 345 9) = true := by decide +kernel
set_option maxRecDepth 100000 in
theorem cb_345_10 : chkB 345 (pcs 345 10) (blk 345 10) (hts_ 345 10) = true := by decide +kernel
set_option maxRecDepth 100000 in
theorem cb_345_11 : chkB 345 (pcs 345 11) (blk 345 11) (hts_ 345 11) = true := by decide +kernel
set_option maxRecDepth 100000 in
theorem cb_345_12 : chkB 345 (pcs 345 12) (blk 345 12) (hts_ 345 12) = true := by decide +kernel
set_option maxRecDepth 100000 in
theorem cb_345_13 : chkB 345 (pcs 345 13) (blk 345 13) (hts_ 345 13) = true := by decide +kernel
set_option maxRecDepth 100000 in
theorem okB_345 : OKB 345 := ⟨by decide +kernel, fun b hb => match b, hb with
  | 0, _ => cb_345_0
  | 1, _ => cb_345_1
  | 2, _ => cb_345_2
  | 3, _ => cb_345_3
  | 4, _ => cb_345_4
  | 5, _ => cb_345_5
  | 6, _ => cb_345_6
  | 7, _ => cb_345_7
  | 8, _ => cb_345_8
  | 9, _ => cb_345_9
  | 10, _ => cb_345_10
  | 11, _ => cb_345_11
  | 12, _ => cb_345_12
  | 13, _ => cb_345_13
  | q + 14, h => absurd (show q + 14 < 14 from h) (by omega)⟩
set_option maxRecDepth 100000 in
theorem okM_345 : OM 345 := ⟨rfl, by decide +kernel⟩
set_option maxRecDepth 100000 in
theorem cb_362_0 : chkB 362 (pcs 362 0) (blk 362 0) (hts_ 362 0) = true := by decide +kernel
set_option maxRecDepth 100000 in
theorem cb_362_1 : chkB 362 (pcs 362 1) (blk 362 1) (hts_ 362 1) = true := by decide +kernel
set_option maxRecDepth 100000 in
theorem cb_362_2 : chkB 362 (pcs 362 2) (blk 362 2) (hts_ 362 2) = true := by decide +kernel
set_option maxRecDepth 100000 in
theorem cb_362_3 : chkB 362 (pcs 362 3) (blk 362 3) (hts_ 362 3) = true := by decide +kernel
set_option maxRecDepth 100000 in
theorem cb_362_4 : chkB 362 (pcs 362 4) (blk 362 4) (hts_ 362 4) = true := by decide +kernel
set_option maxRecDepth 100000 in
theorem cb_362_5 : chkB 362 (pcs 362 5) (blk 362 5) (hts_ 362 5) = true := by decide +kernel
set_option maxRecDepth 100000 in
theorem cb_362_6 : chkB 362 (pcs 362 6) (blk 362 6) (hts_ 362 6) = true := by decide +kernel
set_option maxRecDepth 100000 in
theorem cb_362_7 : chkB 362 (pcs 362 7) (blk 362 7) (hts_ 362 7) = true := by decide +kernel
set_option maxRecDepth 100000 in
theorem cb_362_8 : chkB 362 (pcs 362 8) (blk 362 8) (hts_ 362 8) = true := by decide +kernel
set_option maxRecDepth 100000 in
theorem cb_362_9 : chkB 362 (pcs 362 9) (blk 362 9) (hts_ 362 9) = true := by decide +kernel
set_option maxRecDepth 100000 in
theorem cb_362_10 : chkB 362 (pcs 362 10) (blk 362 10) (hts_ 362 10) = true := by decide +kernel
set_option maxRecDepth 100000 in
theorem cb_362_11 : chkB 362 (pcs 362 11) (blk 362 11) (hts_ 362 11) = true := by decide +kernel
set_option maxRecDepth 100000 in
theorem okB_362 : OKB 362 := ⟨by decide +kernel, fun b hb => match b, hb with
  | 0, _ => cb_362_0
  | 1, _ => cb_362_1
  | 2, _ => cb_362_2
  | 3, _ => cb_362_3
  | 4, _ => cb_362_4
  | 5, _ => cb_362_5
  | 6, _ => cb_362_6
  | 7, _ => cb_362_7
  | 8, _ => cb_362_8
  | 9, _ => cb_362_9
  | 10, _ => cb_362_10
  | 11, _ => cb_362_11
  | q + 12, h => absurd (show q + 12 < 12 from h) (by omega)⟩
set_option maxRecDepth 100000 in
theorem okM_362 : OM 362 := ⟨rfl, by decide +kernel⟩
set_option maxRecDepth 100000 in
theorem cb_382_0 : chkB 382 (pcs 382 0) (blk 382 0) (hts_ 382 0) = true := by decide +kernel
set_option maxRecDepth 100000 in
theorem cb_382_1 : chkB 382 (pcs 382 1) (blk 382 1) (hts_ 382 1) = true := by decide +kernel
set_option maxRecDepth 100000 in
theorem cb_382_2 : chkB 382 (pcs 382 2) (blk 382 2) (hts_ 382 2) = true := by decide +kernel
set_option maxRecDepth 100000 in
theorem cb_382_3 : chkB 382 (pcs 382 3) (blk 382 3) (hts_ 382 3) = true := by decide +kernel
set_option maxRecDepth 100000 in
theorem cb_382_4 : chkB 382 (pcs 382 4) (blk 382 4) (hts_ 382 4) = true := by decide +kernel
set_option maxRecDepth 100000 in
theorem cb_382_5 : chkB 382 (pcs 382 5) (blk 382 5) (hts_ 382 5) = true := by decide +kernel
set_option maxRecDepth 100000 in
theorem cb_382_6 : chkB 382 (pcs 382 6) (blk 382 6) (hts_ 382 6) = true := by decide +kernel
set_option maxRecDepth 100000 in
theorem cb_382_7 : chkB 382 (pcs 382 7) (blk 382 7) (hts_ 382 7) = true := by decide +kernel
set_option maxRecDepth 100000 in
theorem cb_382_8 : chkB 382 (pcs 382 8) (blk 382 8) (hts_ 382 8) = true := by decide +kernel
set_option maxRecDepth 100000 in
theorem cb_382_9 : chkB 382 (pcs 382 9) (blk 382 9) (hts_ 382 9) = true := by decide +kernel
set_option maxRecDepth 100000 in
theorem cb_382_10 : chkB 382 (pcs 382 10) (blk 382 10) (hts_ 382 10) = true := by decide +kernel
set_option maxRecDepth 100000 in
theorem cb_382_11 : chkB 382 (pcs 382 11) (blk 382 11) (hts_ 382 11) = true := by decide +kernel
set_option maxRecDepth 100000 in
theorem cb_382_12 : chkB 382 (pcs 382 12) (blk 382 12) (hts_ 382 12) = true := by decide +kernel
set_option maxRecDepth 100000 in
theorem cb_382_13 : chkB 382 (pcs 382 13) (blk 382 13) (hts_ 382 13) = true := by decide +kernel
set_option maxRecDepth 100000 in
theorem cb_382_14 : chkB 382 (pcs 382 14) (blk 382 14) (hts_ 382 14) = true := by decide +kernel
set_option maxRecDepth 100000 in
theorem okB_382 : OKB 382 := ⟨by decide +kernel, fun b hb => match b, hb with
  | 0, _ => cb_382_0
  | 1, _ => cb_382_1
  | 2, _ => cb_382_2
  | 3, _ => cb_382_3
  | 4, _ => cb_382_4
  | 5, _ => cb_382_5
  | 6, _ => cb_382_6
  | 7, _ => cb_382_7
  | 8, _ => cb_382_8
  | 9, _ => cb_382_9
  | 10, _ => cb_382_10
  | 11, _ => cb_382_11
  | 12, _ => cb_382_12
  | 13, _ => cb_382_13
  | 14, _ => cb_382_14
  | q + 15, h => absurd (show q + 15 < 15 from h) (by omega)⟩
set_option maxRecDepth 100000 in
theorem okM_382 : OM 382 := ⟨rfl, by decide +kernel⟩
set_option maxRecDepth 100000 in
theorem cb_383_0 : chkB 383 (pcs 383 0) (blk 383 0) (hts_ 383 0) = true := by decide +kernel
set_option maxRecDepth 100000 in
theorem cb_383_1 : chkB 383 (pcs 383 1) (blk 383 1) (hts_ 383 1) = true := by decide +kernel
set_option maxRecDepth 100000 in
theorem cb_383_2 : chkB 383 (pcs 383 2) (blk 383 2) (hts_ 383 2) = true := by decide +kernel
set_option maxRecDepth 100000 in
theorem cb_383_3 : chkB 383 (pcs 383 3) (blk 383 3) (hts_ 383 3) = true := by decide +kernel
set_option maxRecDepth 100000 in
theorem cb_383_4 : chkB 383 (pcs 383 4) (blk 383 4) (hts_ 383 4) = true := by decide +kernel
set_option maxRecDepth 100000 in
theorem cb_383_5 : chkB 383 (pcs 383 5) (blk 383 5) (hts_ 383 5) = true := by decide +kernel
set_option maxRecDepth 100000 in
theorem cb_383_6 : chkB 383 (pcs 383 6) (blk 383 6) (hts_ 383 6) = true := by decide +kernel
set_option maxRecDepth 100000 in
theorem cb_383_7 : chkB 383 (pcs 383 7) (blk 383 7) (hts_ 383 7) = true := by decide +kernel
set_option maxRecDepth 100000 in
theorem cb_383_8 : chkB 383 (pcs 383 8) (blk 383 8) (hts_ 383 8) = true := by decide +kernel
set_option maxRecDepth 100000 in
theorem cb_383_9 : chkB 383 (pcs 383 9) (blk 383 9) (hts_ 383 9) = true := by decide +kernel
set_option maxRecDepth 100000 in
theorem cb_383_10 : chkB 383 (pcs 383 10) (blk 383 10) (hts_ 383 10) = true := by decide +kernel
set_option maxRecDepth 100000 in
theorem cb_383_11 : chkB 383 (pcs 383 11) (blk 383 11) (hts_ 383 11) = true := by decide +kernel
set_option maxRecDepth 100000 in
theorem cb_383_12 : chkB 383 (pcs 383 12) (blk 383 12) (hts_ 383 12) = true := by decide +kernel
set_option maxRecDepth 100000 in
theorem cb_383_13 : chkB 383 (pcs 383 13) (blk 383 13) (hts_ 383 13) = true := by decide +kernel
set_option maxRecDepth 100000 in
theorem cb_383_14 : chkB 383 (pcs 383 14) (blk 383 14) (hts_ 383 14) = true := by decide +kernel
set_option maxRecDepth 100000 in
theorem cb_383_15 : chkB 383 (pcs 383 15) (blk 383 15) (hts_ 383 15) = true := by decide +kernel
set_option maxRecDepth 100000 in
theorem cb_383_16 : chkB 383 (pcs 383 16) (blk 383 16) (hts_ 383 16) = true := by decide +kernel
set_option maxRecDepth 100000 in
theorem cb_383_17 : chkB 383 (pcs 383 17) (blk 383 17) (hts_ 383 17) = true := by decide +kernel
set_option maxRecDepth 100000 in
theorem cb_383_18 : chkB 383 (pcs 383 18) (blk 383 18) (hts_ 383 18) = true := by decide +kernel
set_option maxRecDepth 100000 in
theorem cb_383_19 : chkB 383 (pcs 383 19) (blk 383 19) (hts_ 383 19) = true := by decide +kernel
set_option maxRecDepth 100000 in
theorem cb_383_20 : chkB 383 (pcs 383 20) (blk 383 20) (hts_ 383 20) = true := by decide +kernel
set_option maxRecDepth 100000 in
theorem cb_383_21 : chkB 383 (pcs 383 21) (blk 383 21) (hts_ 383 21) = true := by decide +kernel
set_option maxRecDepth 100000 in
theorem okB_383 : OKB 383 := ⟨by decide +kernel, fun b hb => match b, hb with
  | 0, _ => cb_383_0
  | 1, _ => cb_383_1
  | 2, _ => cb_383_2
  | 3, _ => cb_383_3
  | 4, _ => cb_383_4
  | 5, _ => cb_383_5
  | 6, _ => cb_383_6
  | 7, _ => cb_383_7
  | 8, _ => cb_383_8
  | 9, _ => cb_383_9
  | 10, _ => cb_383_10
  | 11, _ => cb_383_11
  | 12, _ => cb_383_12
  | 13, _ => cb_383_13
  | 14, _ => cb_383_14
  | 15, _ => cb_383_15
  | 16, _ => cb_383_16
  | 17, _ => cb_383_17
  | 18, _ => cb_383_18
  | 19, _ => cb_383_19
  | 20, _ => cb_383_20
  | 21, _ => cb_383_21
  | q + 22, h => absurd (show q + 22 < 22 from h) (by omega)⟩
set_option maxRecDepth 100000 in
theorem okM_383 : OM 383 := ⟨rfl, by decide +kernel⟩
set_option maxRecDepth 100000 in
theorem cb_388_0 : chkB 388 (pcs 388 0) (blk 388 0) (hts_ 388 0) = true := by decide +kernel
set_option maxRecDepth 100000 in
theorem cp_388_1_0 : chkP 388 (pcs 388 1) (List.take 50 (blk 388 1)) (List.take 50 (hts_ 388 1)) = some 106 := by decide +kernel
set_option maxRecDepth 100000 in
theorem cp_388_1_e : chkB 388 106 (List.drop 50 (blk 388 1)) (List.drop 50 (hts_ 388 1)) = true := by decide +kernel
theorem cb_388_1 : chkB 388 (pcs 388 1) (blk 388 1) (hts_ 388 1) = true := chkB_cut 50 cp_388_1_0 (cp_388_1_e)
set_option maxRecDepth 100000 in
theorem cb_388_2 : chkB 388 (pcs 388 2) (blk 388 2) (hts_ 388 2) = true := by decide +kernel
set_option maxRecDepth 100000 in
theorem cb_388_3 : chkB 388 (pcs 388 3) (blk 388 3) (hts_ 388 3) = true := by decide +kernel
set_option maxRecDepth 100000 in
theorem cb_388_4 : chkB 388 (pcs 388 4) (blk 388 4) (hts_ 388 4) = true := by decide +kernel
set_option maxRecDepth 100000 in
theorem cb_388_5 : chkB 388 (pcs 388 5) (blk 388 5) (hts_ 388 5) = true := by decide +kernel
set_option maxRecDepth 100000 in
theorem cb_388_6 : chkB 388 (pcs 388 6) (blk 388 6) (hts_ 388 6) = true := by decide +kernel
set_option maxRecDepth 100000 in
theorem cb_388_7 : chkB 388 (pcs 388 7) (blk 388 7) (hts_ 388 7) = true := by decide +kernel
set_option maxRecDepth 100000 in
theorem cb_388_8 : chkB 388 (pcs 388 8) (blk 388 8) (hts_ 388 8) = true := by decide +kernel
set_option maxRecDepth 100000 in
theorem cb_388_9 : chkB 388 (pcs 388 9) (blk 388 9) (hts_ 388 9) = true := by decide +kernel
set_option maxRecDepth 100000 in
theorem cb_388_10 : chkB 388 (pcs 388 10) (blk 388 10) (hts_ 388 10) = true := by decide +kernel
set_option maxRecDepth 100000 in
theorem cb_388_11 : chkB 388 (pcs 388 11) (blk 388 11) (hts_ 388 11) = true := by decide +kernel
set_option maxRecDepth 100000 in
theorem cb_388_12 : chkB 388 (pcs 388 12) (blk 388 12) (hts_ 388 12) = true := by decide +kernel
set_option maxRecDepth 100000 in
theorem cb_388_13 : chkB 388 (pcs 388 13) (blk 388 13) (hts_ 388 13) = true := by decide +kernel
set_option maxRecDepth 100000 in
theorem cb_388_14 : chkB 388 (pcs 388 14) (blk 388 14) (hts_ 388 14) = true := by decide +kernel
set_option maxRecDepth 100000 in
theorem cb_388_15 : chkB 388 (pcs 388 15) (blk 388 15) (hts_ 388 15) = true := by decide +kernel
set_option maxRecDepth 100000 in
theorem cb_388_16 : chkB 388 (pcs 388 16) (blk 388 16) (hts_ 388 16) = true := by decide +kernel
set_option maxRecDepth 100000 in
theorem okB_388 : OKB 388 := ⟨by decide +kernel, fun b hb => match b, hb with
  | 0, _ => cb_388_0
  | 1, _ => cb_388_1
  | 2, _ => cb_388_2
  | 3, _ => cb_388_3
  | 4, _ => cb_388_4
  | 5, _ => cb_388_5
  | 6, _ => cb_388_6
  | 7, _ => cb_388_7
  | 8, _ => cb_388_8
  | 9, _ => cb_388_9
  | 10, _ => cb_388_10
  | 11, _ => cb_388_11
  | 12, _ => cb_388_12
  | 13, _ => cb_388_13
  | 14, _ => cb_388_14
  | 15, _ => cb_388_15
  | 16, _ => cb_388_16
  | q + 17, h => absurd (show q + 17 < 17 from h) (by omega)⟩
set_option maxRecDepth 100000 in
theorem okM_388 : OM 388 := ⟨rfl, by decide +kernel⟩
set_option maxRecDepth 100000 in
theorem cb_391_0 : chkB 391 (pcs 391 0) (blk 391 0) (hts_ 391 0) = true := by decide +kernel
set_option maxRecDepth 100000 in
theorem cb_391_1 : chkB 391 (pcs 391 1) (blk 391 1) (hts_ 391 1) = true := by decide +kernel
set_option maxRecDepth 100000 in
theorem cb_391_2 : chkB 391 (pcs 391 2) (blk 391 2) (hts_ 391 2) = true := by decide +kernel
set_option maxRecDepth 100000 in
theorem cb_391_3 : chkB 391 (pcs 391 3) (blk 391 3) (hts_ 391 3) = true := by decide +kernel
set_option maxRecDepth 100000 in
theorem cb_391_4 : chkB 391 (pcs 391 4) (blk 391 4) (hts_ 391 4) = true := by decide +kernel
set_option maxRecDepth 100000 in
theorem cb_391_5 : chkB 391 (pcs 391 5) (blk 391 5) (hts_ 391 5) = true := by decide +kernel
set_option maxRecDepth 100000 in
theorem cb_391_6 : chkB 391 (pcs 391 6) (blk 391 6) (hts_ 391 6) = true := by decide +kernel
set_option maxRecDepth 100000 in
theorem cb_391_7 : chkB 391 (pcs 391 7) (blk 391 7) (hts_ 391 7) = true := by decide +kernel
set_option maxRecDepth 100000 in
theorem cb_391_8 : chkB 391 (pcs 391 8) (blk 391 8) (hts_ 391 8) = true := by decide +kernel
set_option maxRecDepth 100000 in
theorem cb_391_9 : chkB 391 (pcs 391 9) (blk 391 9) (hts_ 391 9) = true := by decide +kernel
set_option maxRecDepth 100000 in
theorem cb_391_10 : chkB 391 (pcs 391 10) (blk 391 10) (hts_ 391 10) = true := by decide +kernel
set_option maxRecDepth 100000 in
theorem cb_391_11 : chkB 391 (pcs 391 11) (blk 391 11) (hts_ 391 11) = true := by decide +kernel
set_option maxRecDepth 100000 in
theorem cb_391_12 : chkB 391 (pcs 391 12) (blk 391 12) (hts_ 391 12) = true := by decide +kernel
set_option maxRecDepth 100000 in
theorem cb_391_13 : chkB 391 (pcs 391 13) (blk 391 13) (hts_ 391 13) = true := by decide +kernel
set_option maxRecDepth 100000 in
theorem cb_391_14 : chkB 391 (pcs 391 14) (blk 391 14) (hts_ 391 14) = true := by decide +kernel
set_option maxRecDepth 100000 in
theorem okB_391 : OKB 391 := ⟨by decide +kernel, fun b hb => match b, hb with
  | 0, _ => cb_391_0
  | 1, _ => cb_391_1
  | 2, _ => cb_391_2
  | 3, _ => cb_391_3
  | 4, _ => cb_391_4
  | 5, _ => cb_391_5
  | 6, _ => cb_391_6
  | 7, _ => cb_391_7
  | 8, _ => cb_391_8
  | 9, _ => cb_391_9
  | 10, _ => cb_391_10
  | 11, _ => cb_391_11
  | 12, _ => cb_391_12
  | 13, _ => cb_391_13
  | 14, _ => cb_391_14
  | q + 15, h => absurd (show q + 15 < 15 from h) (by omega)⟩
set_option maxRecDepth 100000 in
theorem okM_391 : OM 391 := ⟨rfl, by decide +kernel⟩
set_option maxRecDepth 100000 in
theorem cb_399_0 : chkB 399 (pcs 399 0) (blk 399 0) (hts_ 399 0) = true := by decide +kernel
set_option maxRecDepth 100000 in
theorem cb_399_1 : chkB 399 (pcs 399 1) (blk 399 1) (hts_ 399 1) = true := by decide +kernel
set_option maxRecDepth 100000 in
theorem cb_399_2 : chkB 399 (pcs 399 2) (blk 399 2) (hts_ 399 2) = true := by decide +kernel
set_option maxRecDepth 100000 in
theorem cb_399_3 : chkB 399 (pcs 399 3) (blk 399 3) (hts_ 399 3) = true := by decide +kernel
set_option maxRecDepth 100000 in
theorem cb_399_4 : chkB 399 (pcs 399 4) (blk 399 4) (hts_ 399 4) = true := by decide +kernel
set_option maxRecDepth 100000 in
theorem cb_399_5 : chkB 399 (pcs 399 5) (blk 399 5) (hts_ 399 5) = true := by decide +kernel
set_option maxRecDepth 100000 in
theorem cb_399_6 : chkB 399 (pcs 399 6) (blk 399 6) (hts_ 399 6) = true := by decide +kernel
set_option maxRecDepth 100000 in
theorem cb_399_7 : chkB 399 (pcs 399 7) (blk 399 7) (hts_ 399 7) = true := by decide +kernel
set_option maxRecDepth 100000 in
theorem cb_399_8 : chkB 399 (pcs 399 8) (blk 399 8) (hts_ 399 8) = true := by decide +kernel
set_option maxRecDepth 100000 in
theorem cb_399_9 : chkB 399 (pcs 399 9) (blk 399 9) (hts_ 399 9) = true := by decide +kernel
set_option maxRecDepth 100000 in
theorem cb_399_10 : chkB 399 (pcs 399 10) (blk 399 10) (hts_ 399 10) = true := by decide +kernel
set_option maxRecDepth 100000 in
theorem cb_399_11 : chkB 399 (pcs 399 11) (blk 399 11) (hts_ 399 11) = true := by decide +kernel
set_option maxRecDepth 100000 in
theorem cb_399_12 : chkB 399 (pcs 399 12) (blk 399 12) (hts_ 399 12) = true := by decide +kernel
set_option maxRecDepth 100000 in
theorem cb_399_13 : chkB 399 (pcs 399 13) (blk 399 13) (hts_ 399 13) = true := by decide +kernel
set_option maxRecDepth 100000 in
theorem cb_399_14 : chkB 399 (pcs 399 14) (blk 399 14) (hts_ 399 14) = true := by decide +kernel
set_option maxRecDepth 100000 in
theorem cb_399_15 : chkB 399 (pcs 399 15) (blk 399 15) (hts_ 399 15) = true := by decide +kernel
set_option maxRecDepth 100000 in
theorem okB_399 : OKB 399 := ⟨by decide +kernel, fun b hb => match b, hb with
  | 0, _ => cb_399_0
  | 1, _ => cb_399_1
  | 2, _ => cb_399_2
  | 3, _ => cb_399_3
  | 4, _ => cb_399_4
  | 5, _ => cb_399_5
  | 6, _ => cb_399_6
  | 7, _ => cb_399_7
  | 8, _ => cb_399_8
  | 9, _ => cb_399_9
  | 10, _ => cb_399_10
  | 11, _ => cb_399_11
  | 12, _ => cb_399_12
  | 13, _ => cb_399_13
  | 14, _ => cb_399_14
  | 15, _ => cb_399_15
  | q + 16, h => absurd (show q + 16 < 16 from h) (by omega)⟩
set_option maxRecDepth 100000 in
theorem okM_399 : OM 399 := ⟨rfl, by decide +kernel⟩
set_option maxRecDepth 100000 in
theorem cb_402_0 : chkB 402 (pcs 402 0) (blk 402 0) (hts_ 402 0) = true := by decide +kernel
set_option maxRecDepth 100000 in
theorem cb_402_1 : chkB 402 (pcs 402 1) (blk 402 1) (hts_ 402 1) = true := by decide +kernel
set_option maxRecDepth 100000 in
theorem cb_402_2 : chkB 402 (pcs 402 2) (blk 402 2) (hts_ 402 2) = true := by decide +kernel
set_option maxRecDepth 100000 in
theorem cb_402_3 : chkB 402 (pcs 402 3) (blk 402 3) (hts_ 402 3) = true := by decide +kernel
set_option maxRecDepth 100000 in
theorem cb_402_4 : chkB 402 (pcs 402 4) (blk 402 4) (hts_ 402 4) = true := by decide +kernel
set_option maxRecDepth 100000 in
theorem cb_402_5 : chkB 402 (pcs 402 5) (blk 402 5) (hts_ 402 5) = true := by decide +kernel
set_option maxRecDepth 100000 in
theorem cb_402_6 : chkB 402 (pcs 402 6) (blk 402 6) (hts_ 402 6) = true := by decide +kernel
set_option maxRecDepth 100000 in
theorem okB_402 : OKB 402 := ⟨by decide +kernel, fun b hb => match b, hb with
  | 0, _ => cb_402_0
  | 1, _ => cb_402_1
  | 2, _ => cb_402_2
  | 3, _ => cb_402_3
  | 4, _ => cb_402_4
  | 5, _ => cb_402_5
  | 6, _ => cb_402_6
  | q + 7, h => absurd (show q + 7 < 7 from h) (by omega)⟩
set_option maxRecDepth 100000 in
theorem okM_402 : OM 402 := ⟨rfl, by decide +kernel⟩
set_option maxRecDepth 100000 in
theorem cb_403_0 : chkB 403 (pcs 403 0) (blk 403 0) (hts_ 403 0) = true := by decide +kernel
set_option maxRecDepth 100000 in
theorem cb_403_1 : chkB 403 (pcs 403 1) (blk 403 1) (hts_ 403 1) = true := by decide +kernel
set_option maxRecDepth 100000 in
theorem cb_403_2 : chkB 403 (pcs 403 2) (blk 403 2) (hts_ 403 2) = true := by decide +kernel
set_option maxRecDepth 100000 in
theorem cb_403_3 : chkB 403 (pcs 403 3) (blk 403 3) (hts_ 403 3) = true := by decide +kernel
set_option maxRecDepth 100000 in
theorem cb_403_4 : chkB 403 (pcs 403 4) (blk 403 4) (hts_ 403 4) = true := by decide +kernel
set_option maxRecDepth 100000 in
theorem cb_403_5 : chkB 403 (pcs 403 5) (blk 403 5) (hts_ 403 5) = true := by decide +kernel
set_option maxRecDepth 100000 in
theorem cb_403_6 : chkB 403 (pcs 403 6) (blk 403 6) (hts_ 403 6) = true := by decide +kernel
set_option maxRecDepth 100000 in
theorem cb_403_7 : chkB 403 (pcs 403 7) (blk 403 7) (hts_ 403 7) = true := by decide +kernel
set_option maxRecDepth 100000 in
theorem cb_403_8 : chkB 403 (pcs 403 8) (blk 403 8) (hts_ 403 8) = true := by decide +kernel
set_option maxRecDepth 100000 in
theorem cb_403_9 : chkB 403 (pcs 403 9) (blk 403 9) (hts_ 403 9) = true := by decide +kernel
set_option maxRecDepth 100000 in
theorem cb_403_10 : chkB 403 (pcs 403 10) (blk 403 10) (hts_ 403 10) = true := by decide +kernel
set_option maxRecDepth 100000 in
theorem cb_403_11 : chkB 403 (pcs 403 11) (blk 403 11) (hts_ 403 11) = true := by decide +kernel
set_option maxRecDepth 100000 in
theorem cb_403_12 : chkB 403 (pcs 403 12) (blk 403 12) (hts_ 403 12) = true := by decide +kernel
set_option maxRecDepth 100000 in
theorem cb_403_13 : chkB 403 (pcs 403 13) (blk 403 13) (hts_ 403 13) = true := by decide +kernel
set_option maxRecDepth 100000 in
theorem cb_403_14 : chkB 403 (pcs 403 14) (blk 403 14) (hts_ 403 14) = true := by decide +kernel
set_option maxRecDepth 100000 in
theorem cb_403_15 : chkB 403 (pcs 403 15) (blk 403 15) (hts_ 403 15) = true := by decide +kernel
set_option maxRecDepth 100000 in
theorem cb_403_16 : chkB 403 (pcs 403 16) (blk 403 16) (hts_ 403 16) = true := by decide +kernel
set_option maxRecDepth 100000 in
theorem cb_403_17 : chkB 403 (pcs 403 17) (blk 403 17) (hts_ 403 17) = true := by decide +kernel
set_option maxRecDepth 100000 in
theorem cb_403_18 : chkB 403 (pcs 403 18) (blk 403 18) (hts_ 403 18) = true := by decide +kernel
set_option maxRecDepth 100000 in
theorem cb_403_19 : chkB 403 (pcs 403 19) (blk 403 19) (hts_ 403 19) = true := by decide +kernel
set_option maxRecDepth 100000 in
theorem cb_403_20 : chkB 403 (pcs 403 20) (blk 403 20) (hts_ 403 20) = true := by decide +kernel
set_option maxRecDepth 100000 in
theorem cb_403_21 : chkB 403 (pcs 403 21) (blk 403 21) (hts_ 403 21) = true := by decide +kernel
set_option maxRecDepth 100000 in
theorem cb_403_22 : chkB 403 (pcs 403 22) (blk 403 22) (hts_ 403 22) = true := by decide +kernel
set_option maxRecDepth 100000 in
theorem cb_403_23 : chkB 403 (pcs 403 23) (blk 403 23) (hts_ 403 23) = true := by decide +kernel
set_option maxRecDepth 100000 in
theorem cb_403_24 : chkB 403 (pcs 403 24) (blk 403 24) (hts_ 403 24) = true := by decide +kernel
set_option maxRecDepth 100000 in
theorem cb_403_25 : chkB 403 (pcs 403 25) (blk 403 25) (hts_ 403 25) = true := by decide +kernel
set_option maxRecDepth 100000 in
theorem cb_403_26 : chkB 403 (pcs 403 26) (blk 403 26) (hts_ 403 26) = true := by decide +kernel
set_option maxRecDepth 100000 in
theorem cb_403_27 : chkB 403 (pcs 403 27) (blk 403 27) (hts_ 403 27) = true := by decide +kernel
set_option maxRecDepth 100000 in
theorem cb_403_28 : chkB 403 (pcs 403 28) (blk 403 28) (hts_ 403 28) = true := by decide +kernel
set_option maxRecDepth 100000 in
theorem cb_403_29 : chkB 403 (pcs 403 29) (blk 403 29) (hts_ 403 29) = true := by decide +kernel
set_option maxRecDepth 100000 in
theorem cb_403_30 : chkB 403 (pcs 403 30) (blk 403 30) (hts_ 403 30) = true := by decide +kernel
set_option maxRecDepth 100000 in
theorem cb_403_31 : chkB 403 (pcs 403 31) (blk 403 31) (hts_ 403 31) = true := by decide +kernel
set_option maxRecDepth 100000 in
theorem cb_403_32 : chkB 403 (pcs 403 32) (blk 403 32) (hts_ 403 32) = true := by decide +kernel
set_option maxRecDepth 100000 in
theorem cb_403_33 : chkB 403 (pcs 403 33) (blk 403 33) (hts_ 403 33) = true := by decide +kernel
set_option maxRecDepth 100000 in
theorem cb_403_34 : chkB 403 (pcs 403 34) (blk 403 34) (hts_ 403 34) = true := by decide +kernel
set_option maxRecDepth 100000 in
theorem okB_403 : OKB 403 := ⟨by decide +kernel, fun b hb => match b, hb with
  | 0, _ => cb_403_0
  | 1, _ => cb_403_1
  | 2, _ => cb_403_2
  | 3, _ => cb_403_3
  | 4, _ => cb_403_4
  | 5, _ => cb_403_5
  | 6, _ => cb_403_6
  | 7, _ => cb_403_7
  | 8, _ => cb_403_8
  | 9, _ => cb_403_9
  | 10, _ => cb_403_10
  | 11, _ => cb_403_11
  | 12, _ => cb_403_12
  | 13, _ => cb_403_13
  | 14, _ => cb_403_14
  | 15, _ => cb_403_15
  | 16, _ => cb_403_16
  | 17, _ => cb_403_17
  | 18, _ => cb_403_18
  | 19, _ => cb_403_19
  | 20, _ => cb_403_20
  | 21, _ => cb_403_21
  | 22, _ => cb_403_22
  | 23, _ => cb_403_23
  | 24, _ => cb_403_24
  | 25, _ => cb_403_25
  | 26, _ => cb_403_26
  | 27, _ => cb_403_27
  | 28, _ => cb_403_28
  | 29, _ => cb_403_29
  | 30, _ => cb_403_30
  | 31, _ => cb_403_31
  | 32, _ => cb_403_32
  | 33, _ => cb_403_33
  | 34, _ => cb_403_34
  | q + 35, h => absurd (show q + 35 < 35 from h) (by omega)⟩
set_option maxRecDepth 100000 in
theorem okM_403 : OM 403 := ⟨rfl, by decide +kernel⟩
set_option maxRecDepth 100000 in
theorem cb_410_0 : chkB 410 (pcs 410 0) (blk 410 0) (hts_ 410 0) = true := by decide +kernel
set_option maxRecDepth 100000 in
theorem cb_410_1 : chkB 410 (pcs 410 1) (blk 410 1) (hts_ 410 1) = true := by decide +kernel
set_option maxRecDepth 100000 in
theorem cb_410_2 : chkB 410 (pcs 410 2) (blk 410 2) (hts_ 410 2) = true := by decide +kernel
set_option maxRecDepth 100000 in
theorem cb_410_3 : chkB 410 (pcs 410 3) (blk 410 3) (hts_ 410 3) = true := by decide +kernel
set_option maxRecDepth 100000 in
theorem cb_410_4 : chkB 410 (pcs 410 4) (blk 410 4) (hts_ 410 4) = true := by decide +kernel
set_option maxRecDepth 100000 in
theorem cb_410_5 : chkB 410 (pcs 410 5) (blk 410 5) (hts_ 410 5) = true := by decide +kernel
set_option maxRecDepth 100000 in
theorem cb_410_6 : chkB 410 (pcs 410 6) (blk 410 6) (hts_ 410 6) = true := by decide +kernel
set_option maxRecDepth 100000 in
theorem cb_410_7 : chkB 410 (pcs 410 7) (blk 410 7) (hts_ 410 7) = true := by decide +kernel
set_option maxRecDepth 100000 in
theorem cb_410_8 : chkB 410 (pcs 410 8) (blk 410 8) (hts_ 410 8) = true := by decide +kernel
set_option maxRecDepth 100000 in
theorem cb_410_9 : chkB 410 (pcs 410 9) (blk 410 9) (hts_ 410 9) = true := by decide +kernel
set_option maxRecDepth 100000 in
theorem cb_410_10 : chkB 410 (pcs 410 10) (blk 410 10) (hts_ 410 10) = true := by decide +kernel
set_option maxRecDepth 100000 in
theorem cb_410_11 : chkB 410 (pcs 410 11) (blk 410 11) (hts_ 410 11) = true := by decide +kernel
set_option maxRecDepth 100000 in
theorem cb_410_12 : chkB 410 (pcs 410 12) (blk 410 12) (hts_ 410 12) = true := by decide +kernel
set_option maxRecDepth 100000 in
theorem cb_410_13 : chkB 410 (pcs 410 13) (blk 410 13) (hts_ 410 13) = true := by decide +kernel
set_option maxRecDepth 100000 in
theorem cb_410_14 : chkB 410 (pcs 410 14) (blk 410 14) (hts_ 410 14) = true := by decide +kernel
set_option maxRecDepth 100000 in
theorem cb_410_15 : chkB 410 (pcs 410 15) (blk 410 15) (hts_ 410 15) = true := by decide +kernel
set_option maxRecDepth 100000 in
theorem cb_410_16 : chkB 410 (pcs 410 16) (blk 410 16) (hts_ 410 16) = true := by decide +kernel
set_option maxRecDepth 100000 in
theorem cb_410_17 : chkB 410 (pcs 410 17) (blk 410 17) (hts_ 410 17) = true := by decide +kernel
set_option maxRecDepth 100000 in
theorem cb_410_18 : chkB 410 (pcs 410 18) (blk 410 18) (hts_ 410 18) = true := by decide +kernel
set_option maxRecDepth 100000 in
theorem cb_410_19 : chkB 410 (pcs 410 19) (blk 410 19) (hts_ 410 19) = true := by decide +kernel
set_option maxRecDepth 100000 in
theorem cb_410_20 : chkB 410 (pcs 410 20) (blk 410 20) (hts_ 410 20) = true := by decide +kernel
set_option maxRecDepth 100000 in
theorem cb_410_21 : chkB 410 (pcs 410 21) (blk 410 21) (hts_ 410 21) = true := by decide +kernel
set_option maxRecDepth 100000 in
theorem cb_410_22 : chkB 410 (pcs 410 22) (blk 410 22) (hts_ 410 22) = true := by decide +kernel
set_option maxRecDepth 100000 in
theorem cb_410_23 : chkB 410 (pcs 410 23) (blk 410 23) (hts_ 410 23) = true := by decide +kernel
set_option maxRecDepth 100000 in
theorem cb_410_24 : chkB 410 (pcs 410 24) (blk 410 24) (hts_ 410 24) = true := by decide +kernel
set_option maxRecDepth 100000 in
theorem cb_410_25 : chkB 410 (pcs 410 25) (blk 410 25) (hts_ 410 25) = true := by decide +kernel
set_option maxRecDepth 100000 in
theorem cb_410_26 : chkB 410 (pcs 410 26) (blk 410 26) (hts_ 410 26) = true := by decide +kernel
set_option maxRecDepth 100000 in
theorem cb_410_27 : chkB 410 (pcs 410 27) (blk 410 27) (hts_ 410 27) = true := by decide +kernel
set_option maxRecDepth 100000 in
theorem cb_410_28 : chkB 410 (pcs 410 28) (blk 410 28) (hts_ 410 28) = true := by decide +kernel
set_option maxRecDepth 100000 in
theorem cb_410_29 : chkB 410 (pcs 410 29) (blk 410 29) (hts_ 410 29) = true := by decide +kernel
set_option maxRecDepth 100000 in
theorem okB_410 : OKB 410 := ⟨by decide +kernel, fun b hb => match b, hb with
  | 0, _ => cb_410_0
  | 1, _ => cb_410_1
  | 2, _ => cb_410_2
  | 3, _ => cb_410_3
  | 4, _ => cb_410_4
  | 5, _ => cb_410_5
  | 6, _ => cb_410_6
  | 7, _ => cb_410_7
  | 8, _ => cb_410_8
  | 9, _ => cb_410_9
  | 10, _ => cb_410_10
  | 11, _ => cb_410_11
  | 12, _ => cb_410_12
  | 13, _ => cb_410_13
  | 14, _ => cb_410_14
  | 15, _ => cb_410_15
  | 16, _ => cb_410_16
  | 17, _ => cb_410_17
  | 18, _ => cb_410_18
  | 19, _ => cb_410_19
  | 20, _ => cb_410_20
  | 21, _ => cb_410_21
  | 22, _ => cb_410_22
  | 23, _ => cb_410_23
  | 24, _ => cb_410_24
  | 25, _ => cb_410_25
  | 26, _ => cb_410_26
  | 27, _ => cb_410_27
  | 28, _ => cb_410_28
  | 29, _ => cb_410_29
  | q + 30, h => absurd (show q + 30 < 30 from h) (by omega)⟩
set_option maxRecDepth 100000 in
theorem okM_410 : OM 410 := ⟨rfl, by decide +kernel⟩
set_option maxRecDepth 100000 in
theorem cb_413_0 : chkB 413 (pcs 413 0) (blk 413 0) (hts_ 413 0) = true := by decide +kernel
set_option maxRecDepth 100000 in
theorem cb_413_1 : chkB 413 (pcs 413 1) (blk 413 1) (hts_ 413 1) = true := by decide +kernel
set_option maxRecDepth 100000 in
theorem cb_413_2 : chkB 413 (pcs 413 2) (blk 413 2) (hts_ 413 2) = true := by decide +kernel
set_option maxRecDepth 100000 in
theorem cb_413_3 : chkB 413 (pcs 413 3) (blk 413 3) (hts_ 413 3) = true := by decide +kernel
set_option maxRecDepth 100000 in
theorem cb_413_4 : chkB 413 (pcs 413 4) (blk 413 4) (hts_ 413 4) = true := by decide +kernel
set_option maxRecDepth 100000 in
theorem cb_413_5 : chkB 413 (pcs 413 5) (blk 413 5) (hts_ 413 5) = true := by decide +kernel
set_option maxRecDepth 100000 in
theorem cb_413_6 : chkB 413 (pcs 413 6) (blk 413 6) (hts_ 413 6) = true := by decide +kernel
set_option maxRecDepth 100000 in
theorem cb_413_7 : chkB 413 (pcs 413 7) (blk 413 7) (hts_ 413 7) = true := by decide +kernel
set_option maxRecDepth 100000 in
theorem cb_413_8 : chkB 413 (pcs 413 8) (blk 413 8) (hts_ 413 8) = true := by decide +kernel
set_option maxRecDepth 100000 in
theorem cb_413_9 : chkB 413 (pcs 413 9) (blk 413 9) (hts_ 413 9) = true := by decide +kernel
set_option maxRecDepth 100000 in
theorem cb_413_10 : chkB 413 (pcs 413 10) (blk 413 10) (hts_ 413 10) = true := by decide +kernel
set_option maxRecDepth 100000 in
theorem cb_413_11 : chkB 413 (pcs 413 11) (blk 413 11) (hts_ 413 11) = true := by decide +kernel
set_option maxRecDepth 100000 in
theorem cb_413_12 : chkB 413 (pcs 413 12) (blk 413 12) (hts_ 413 12) = true := by decide +kernel
set_option maxRecDepth 100000 in
theorem cb_413_13 : chkB 413 (pcs 413 13) (blk 413 13) (hts_ 413 13) = true := by decide +kernel
set_option maxRecDepth 100000 in
theorem okB_413 : OKB 413 := ⟨by decide +kernel, fun b hb => match b, hb with
  | 0, _ => cb_413_0
  | 1, _ => cb_413_1
  | 2, _ => cb_413_2
  | 3, _ => cb_413_3
  | 4, _ => cb_413_4
  | 5, _ => cb_413_5
  | 6, _ => cb_413_6
  | 7, _ => cb_413_7
  | 8, _ => cb_413_8
  | 9, _ => cb_413_9
  | 10, _ => cb_413_10
  | 11, _ => cb_413_11
  | 12, _ => cb_413_12
  | 13, _ => cb_413_13
  | q + 14, h => absurd (show q + 14 < 14 from h) (by omega)⟩
set_option maxRecDepth 100000 in
theorem okM_413 : OM 413 := ⟨rfl, by decide +kernel⟩
set_option maxRecDepth 100000 in
theorem cb_421_0 : chkB 421 (pcs 421 0) (blk 421 0) (hts_ 421 0) = true := by decide +kernel
set_option maxRecDepth 100000 in
theorem cb_421_1 : chkB 421 (pcs 421 1) (blk 421 1) (hts_ 421 1) = true := by decide +kernel
set_option maxRecDepth 100000 in
theorem cb_421_2 : chkB 421 (pcs 421 2) (blk 421 2) (hts_ 421 2) = true := by decide +kernel
set_option maxRecDepth 100000 in
theorem cb_421_3 : chkB 421 (pcs 421 3) (blk 421 3) (hts_ 421 3) = true := by decide +kernel
set_option maxRecDepth 100000 in
theorem cb_421_4 : chkB 421 (pcs 421 4) (blk 421 4) (hts_ 421 4) = true := by decide +kernel
set_option maxRecDepth 100000 in
theorem cb_421_5 : chkB 421 (pcs 421 5) (blk 421 5) (hts_ 421 5) = true := by decide +kernel
set_option maxRecDepth 100000 in
theorem cb_421_6 : chkB 421 (pcs 421 6) (blk 421 6) (hts_ 421 6) = true := by decide +kernel
set_option maxRecDepth 100000 in
theorem cb_421_7 : chkB 421 (pcs 421 7) (blk 421 7) (hts_ 421 7) = true := by decide +kernel
set_option maxRecDepth 100000 in
theorem cb_421_8 : chkB 421 (pcs 421 8) (blk 421 8) (hts_ 421 8) = true := by decide +kernel
set_option maxRecDepth 100000 in
theorem cb_421_9 : chkB 421 (pcs 421 9) (blk 421 9) (hts_ 421 9) = true := by decide +kernel
set_option maxRecDepth 100000 in
theorem cb_421_10 : chkB 421 (pcs 421 10) (blk 421 10) (hts_ 421 10) = true := by decide +kernel
set_option maxRecDepth 100000 in
theorem cb_421_11 : chkB 421 (pcs 421 11) (blk 421 11) (hts_ 421 11) = true := by decide +kernel
set_option maxRecDepth 100000 in
theorem cb_421_12 : chkB 421 (pcs 421 12) (blk 421 12) (hts_ 421 12) = true := by decide +kernel
set_option maxRecDepth 100000 in
theorem cb_421_13 : chkB 421 (pcs 421 13) (blk 421 13) (hts_ 421 13) = true := by decide +kernel
set_option maxRecDepth 100000 in
theorem cp_421_14_0 : chkP 421 (pcs 421 14) (List.take 50 (blk 421 14)) (List.take 50 (hts_ 421 14)) = some 337 := by decide +kernel
set_option maxRecDepth 100000 in
theorem cp_421_14_e : chkB 421 337 (List.drop 50 (blk 421 14)) (List.drop 50 (hts_ 421 14)) = true := by decide +kernel
theorem cb_421_14 : chkB 421 (pcs 421 14) (blk 421 14) (hts_ 421 14) = true := chkB_cut 50 cp_421_14_0 (cp_421_14_e)
set_option maxRecDepth 100000 in
theorem cb_421_15 : chkB 421 (pcs 421 15) (blk 421 15) (hts_ 421 15) = true := by decide +kernel
set_option maxRecDepth 100000 in
theorem cb_421_16 : chkB 421 (pcs 421 16) (blk 421 16) (hts_ 421 16) = true := by decide +kernel
set_option maxRecDepth 100000 in
theorem cb_421_17 : chkB 421 (pcs 421 17) (blk 421 17) (hts_ 421 17) = true := by decide +kernel
set_option maxRecDepth 100000 in
theorem cb_421_18 : chkB 421 (pcs 421 18) (blk 421 18) (hts_ 421 18) = true := by decide +kernel
set_option maxRecDepth 100000 in
theorem cb_421_19 : chkB 421 (pcs 421 19) (blk 421 19) (hts_ 421 19) = true := by decide +kernel
set_option maxRecDepth 100000 in
theorem cb_421_20 : chkB 421 (pcs 421 20) (blk 421 20) (hts_ 421 20) = true := by decide +kernel
set_option maxRecDepth 100000 in
theorem cb_421_21 : chkB 421 (pcs 421 21) (blk 421 21) (hts_ 421 21) = true := by decide +kernel
set_option maxRecDepth 100000 in
theorem cb_421_22 : chkB 421 (pcs 421 22) (blk 421 22) (hts_ 421 22) = true := by decide +kernel
set_option maxRecDepth 100000 in
theorem okB_421 : OKB 421 := ⟨by decide +kernel, fun b hb => match b, hb with
  | 0, _ => cb_421_0
  | 1, _ => cb_421_1
  | 2, _ => cb_421_2
  | 3, _ => cb_421_3
  | 4, _ => cb_421_4
  | 5, _ => cb_421_5
  | 6, _ => cb_421_6
  | 7, _ => cb_421_7
  | 8, _ => cb_421_8
  | 9, _ => cb_421_9
  | 10, _ => cb_421_10
  | 11, _ => cb_421_11
  | 12, _ => cb_421_12
  | 13, _ => cb_421_13
  | 14, _ => cb_421_14
  | 15, _ => cb_421_15
  | 16, _ => cb_421_16
  | 17, _ => cb_421_17
  | 18, _ => cb_421_18
  | 19, _ => cb_421_19
  | 20, _ => cb_421_20
  | 21, _ => cb_421_21
  | 22, _ => cb_421_22
  | q + 23, h => absurd (show q + 23 < 23 from h) (by omega)⟩
set_option maxRecDepth 100000 in
theorem okM_421 : OM 421 := ⟨rfl, by decide +kernel⟩
set_option maxRecDepth 100000 in
theorem cb_435_0 : chkB 435 (pcs 435 0) (blk 435 0) (hts_ 435 0) = true := by decide +kernel
set_option maxRecDepth 100000 in
theorem cb_435_1 : chkB 435 (pcs 435 1) (blk 435 1) (hts_ 435 1) = true := by decide +kernel
set_option maxRecDepth 100000 in
theorem cb_435_2 : chkB 435 (pcs 435 2) (blk 435 2) (hts_ 435 2) = true := by decide +kernel
set_option maxRecDepth 100000 in
theorem cb_435_3 : chkB 435 (pcs 435 3) (blk 435 3) (hts_ 435 3) = true := by decide +kernel
set_option maxRecDepth 100000 in
theorem cb_435_4 : chkB 435 (pcs 435 4) (blk 435 4) (hts_ 435 4) = true := by decide +kernel
set_option maxRecDepth 100000 in
theorem cb_435_5 : chkB 435 (pcs 435 5) (blk 435 5) (hts_ 435 5) = true := by decide +kernel
set_option maxRecDepth 100000 in
theorem cb_435_6 : chkB 435 (pcs 435 6) (blk 435 6) (hts_ 435 6) = true := by decide +kernel
set_option maxRecDepth 100000 in
theorem cb_435_7 : chkB 435 (pcs 435 7) (blk 435 7) (hts_ 435 7) = true := by decide +kernel
set_option maxRecDepth 100000 in
theorem cb_435_8 : chkB 435 (pcs 435 8) (blk 435 8) (hts_ 435 8) = true := by decide +kernel
set_option maxRecDepth 100000 in
theorem cb_435_9 : chkB 435 (pcs 435 9) (blk 435 9) (hts_ 435 9) = true := by decide +kernel
set_option maxRecDepth 100000 in
theorem cb_435_10 : chkB 435 (pcs 435 10) (blk 435 10) (hts_ 435 10) = true := by decide +kernel
set_option maxRecDepth 100000 in
theorem cb_435_11 : chkB 435 (pcs 435 11) (blk 435 11) (hts_ 435 11) = true := by decide +kernel
set_option maxRecDepth 100000 in
theorem cb_435_12 : chkB 435 (pcs 435 12) (blk 435 12) (hts_ 435 12) = true := by decide +kernel
set_option maxRecDepth 100000 in
theorem cb_435_13 : chkB 435 (pcs 435 13) (blk 435 13) (hts_ 435 13) = true := by decide +kernel
set_option maxRecDepth 100000 in
theorem cb_435_14 : chkB 435 (pcs 435 14) (blk 435 14) (hts_ 435 14) = true := by decide +kernel
set_option maxRecDepth 100000 in
theorem cb_435_15 : chkB 435 (pcs 435 15) (blk 435 15) (hts_ 435 15) = true := by decide +kernel
set_option maxRecDepth 100000 in
theorem cb_435_16 : chkB 435 (pcs 435 16) (blk 435 16) (hts_ 435 16) = true := by decide +kernel
set_option maxRecDepth 100000 in
theorem cb_435_17 : chkB 435 (pcs 435 17) (blk 435 17) (hts_ 435 17) = true := by decide +kernel
set_option maxRecDepth 100000 in
theorem cb_435_18 : chkB 435 (pcs 435 18) (blk 435 18) (hts_ 435 18) = true := by decide +kernel
set_option maxRecDepth 100000 in
theorem cb_435_19 : chkB 435 (pcs 435 19) (blk 435 19) (hts_ 435 19) = true := by decide +kernel
set_option maxRecDepth 100000 in
theorem cb_435_20 : chkB 435 (pcs 435 20) (blk 435 20) (hts_ 435 20) = true := by decide +kernel
set_option maxRecDepth 100000 in
theorem cb_435_21 : chkB 435 (pcs 435 21) (blk 435 21) (hts_ 435 21) = true := by decide +kernel
set_option maxRecDepth 100000 in
theorem cb_435_22 : chkB 435 (pcs 435 22) (blk 435 22) (hts_ 435 22) = true := by decide +kernel
set_option maxRecDepth 100000 in
theorem cb_435_23 : chkB 435 (pcs 435 23) (blk 435 23) (hts_ 435 23) = true := by decide +kernel
set_option maxRecDepth 100000 in
theorem cb_435_24 : chkB 435 (pcs 435 24) (blk 435 24) (hts_ 435 24) = true := by decide +kernel
set_option maxRecDepth 100000 in
theorem cb_435_25 : chkB 435 (pcs 435 25) (blk 435 25) (hts_ 435 25) = true := by decide +kernel
set_option maxRecDepth 100000 in
theorem cb_435_26 : chkB 435 (pcs 435 26) (blk 435 26) (hts_ 435 26) = true := by decide +kernel
set_option maxRecDepth 100000 in
theorem cb_435_27 : chkB 435 (pcs 435 27) (blk 435 27) (hts_ 435 27) = true := by decide +kernel
set_option maxRecDepth 100000 in
theorem cb_435_28 : chkB 435 (pcs 435 28) (blk 435 28) (hts_ 435 28) = true := by decide +kernel
set_option maxRecDepth 100000 in
theorem cb_435_29 : chkB 435 (pcs 435 29) (blk 435 29) (hts_ 435 29) = true := by decide +kernel
set_option maxRecDepth 100000 in
theorem cb_435_30 : chkB 435 (pcs 435 30) (blk 435 30) (hts_ 435 30) = true := by decide +kernel
set_option maxRecDepth 100000 in
theorem cb_435_31 : chkB 435 (pcs 435 31) (blk 435 31) (hts_ 435 31) = true := by decide +kernel
set_option maxRecDepth 100000 in
theorem cb_435_32 : chkB 435 (pcs 435 32) (blk 435 32) (hts_ 435 32) = true := by decide +kernel
set_option maxRecDepth 100000 in
theorem cb_435_33 : chkB 435 (pcs 435 33) (blk 435 33) (hts_ 435 33) = true := by decide +kernel
set_option maxRecDepth 100000 in
theorem cb_435_34 : chkB 435 (pcs 435 34) (blk 435 34) (hts_ 435 34) = true := by decide +kernel
set_option maxRecDepth 100000 in
theorem cb_435_35 : chkB 435 (pcs 435 35) (blk 435 35) (hts_ 435 35) = true := by decide +kernel
set_option maxRecDepth 100000 in
theorem okB_435 : OKB 435 := ⟨by decide +kernel, fun b hb => match b, hb with
  | 0, _ => cb_435_0
  | 1, _ => cb_435_1
  | 2, _ => cb_435_2
  | 3, _ => cb_435_3
  | 4, _ => cb_435_4
  | 5, _ => cb_435_5
  | 6, _ => cb_435_6
  | 7, _ => cb_435_7
  | 8, _ => cb_435_8
  | 9, _ => cb_435_9
  | 10, _ => cb_435_10
  | 11, _ => cb_435_11
  | 12, _ => cb_435_12
  | 13, _ => cb_435_13
  | 14, _ => cb_435_14
  | 15, _ => cb_435_15
  | 16, _ => cb_435_16
  | 17, _ => cb_435_17
  | 18, _ => cb_435_18
  | 19, _ => cb_435_19
  | 20, _ => cb_435_20
  | 21, _ => cb_435_21
  | 22, _ => cb_435_22
  | 23, _ => cb_435_23
  | 24, _ => cb_435_24
  | 25, _ => cb_435_25
  | 26, _ => cb_435_26
  | 27, _ => cb_435_27
  | 28, _ => cb_435_28
  | 29, _ => cb_435_29
  | 30, _ => cb_435_30
  | 31, _ => cb_435_31
  | 32, _ => cb_435_32
  | 33, _ => cb_435_33
  | 34, _ => cb_435_34
  | 35, _ => cb_435_35
  | q + 36, h => absurd (show q + 36 < 36 from h) (by omega)⟩
set_option maxRecDepth 100000 in
theorem okM_435 : OM 435 := ⟨rfl, by decide +kernel⟩
set_option maxRecDepth 100000 in
theorem cb_440_0 : chkB 440 (pcs 440 0) (blk 440 0) (hts_ 440 0) = true := by decide +kernel
set_option maxRecDepth 100000 in
theorem cb_440_1 : chkB 440 (pcs 440 1) (blk 440 1) (hts_ 440 1) = true := by decide +kernel
set_option maxRecDepth 100000 in
theorem cb_440_2 : chkB 440 (pcs 440 2) (blk 440 2) (hts_ 440 2) = true := by decide +kernel
set_option maxRecDepth 100000 in
theorem cb_440_3 : chkB 440 (pcs 440 3) (blk 440 3) (hts_ 440 3) = true := by decide +kernel
set_option maxRecDepth 100000 in
theorem cb_440_4 : chkB 440 (pcs 440 4) (blk 440 4) (hts_ 440 4) = true := by decide +kernel
set_option maxRecDepth 100000 in
theorem cb_440_5 : chkB 440 (pcs 440 5) (blk 440 5) (hts_ 440 5) = true := by decide +kernel
set_option maxRecDepth 100000 in
theorem cb_440_6 : chkB 440 (pcs 440 6) (blk 440 6) (hts_ 440 6) = true := by decide +kernel
set_option maxRecDepth 100000 in
theorem cb_440_7 : chkB 440 (pcs 440 7) (blk 440 7) (hts_ 440 7) = true := by decide +kernel
set_option maxRecDepth 100000 in
theorem cb_440_8 : chkB 440 (pcs 440 8) (blk 440 8) (hts_ 440 8) = true := by decide +kernel
set_option maxRecDepth 100000 in
theorem cb_440_9 : chkB 440 (pcs 440 9) (blk 440 9) (hts_ 440 9) = true := by decide +kernel
set_option maxRecDepth 100000 in
theorem cb_440_10 : chkB 440 (pcs 440 10) (blk 440 10) (hts_ 440 10) = true := by decide +kernel
set_option maxRecDepth 100000 in
theorem cb_440_11 : chkB 440 (pcs 440 11) (blk 440 11) (hts_ 440 11) = true := by decide +kernel
set_option maxRecDepth 100000 in
theorem cb_440_12 : chkB 440 (pcs 440 12) (blk 440 12) (hts_ 440 12) = true := by decide +kernel
set_option maxRecDepth 100000 in
theorem cb_440_13 : chkB 440 (pcs 440 13) (blk 440 13) (hts_ 440 13) = true := by decide +kernel
set_option maxRecDepth 100000 in
theorem cb_440_14 : chkB 440 (pcs 440 14) (blk 440 14) (hts_ 440 14) = true := by decide +kernel
set_option maxRecDepth 100000 in
theorem cb_440_15 : chkB 440 (pcs 440 15) (blk 440 15) (hts_ 440 15) = true := by decide +kernel
set_option maxRecDepth 100000 in
theorem cb_440_16 : chkB 440 (pcs 440 16) (blk 440 16) (hts_ 440 16) = true := by decide +kernel
set_option maxRecDepth 100000 in
theorem cb_440_17 : chkB 440 (pcs 440 17) (blk 440 17) (hts_ 440 17) = true := by decide +kernel
set_option maxRecDepth 100000 in
theorem cp_440_18_0 : chkP 440 (pcs 440 18) (List.take 50 (blk 440 18)) (List.take 50 (hts_ 440 18)) = some 415 := by decide +kernel
set_option maxRecDepth 100000 in
theorem cp_440_18_e : chkB 440 415 (List.drop 50 (blk 440 18)) (List.drop 50 (hts_ 440 18)) = true := by decide +kernel
theorem cb_440_18 : chkB 440 (pcs 440 18) (blk 440 18) (hts_ 440 18) = true := chkB_cut 50 cp_440_18_0 (cp_440_18_e)
set_option maxRecDepth 100000 in
theorem cb_440_19 : chkB 440 (pcs 440 19) (blk 440 19) (hts_ 440 19) = true := by decide +kernel
set_option maxRecDepth 100000 in
theorem cb_440_20 : chkB 440 (pcs 440 20) (blk 440 20) (hts_ 440 20) = true := by decide +kernel
set_option maxRecDepth 100000 in
theorem cb_440_21 : chkB 440 (pcs 440 21) (blk 440 21) (hts_ 440 21) = true := by decide +kernel
set_option maxRecDepth 100000 in
theorem okB_440 : OKB 440 := ⟨by decide +kernel, fun b hb => match b, hb with
  | 0, _ => cb_440_0
  | 1, _ => cb_440_1
  | 2, _ => cb_440_2
  | 3, _ => cb_440_3
  | 4, _ => cb_440_4
  | 5, _ => cb_440_5
  | 6, _ => cb_440_6
  | 7, _ => cb_440_7
  | 8, _ => cb_440_8
  | 9, _ => cb_440_9
  | 10, _ => cb_440_10
  | 11, _ => cb_440_11
  | 12, _ => cb_440_12
  | 13, _ => cb_440_13
  | 14, _ => cb_440_14
  | 15, _ => cb_440_15
  | 16, _ => cb_440_16
  | 17, _ => cb_440_17
  | 18, _ => cb_440_18
  | 19, _ => cb_440_19
  | 20, _ => cb_440_20
  | 21, _ => cb_440_21
  | q + 22, h => absurd (show q + 22 < 22 from h) (by omega)⟩
set_option maxRecDepth 100000 in
theorem okM_440 : OM 440 := ⟨rfl, by decide +kernel⟩
