/-! 10.checkc: the numbered instructions checked by the kernel: printed by wip/tools/genchk.py -/
set_option maxRecDepth 100000 in
theorem cb_0_0 : chkB 0 (pcs 0 0) (blk 0 0) (hts_ 0 0) = true := by decide +kernel
set_option maxRecDepth 100000 in
theorem cb_0_1 : chkB 0 (pcs 0 1) (blk 0 1) (hts_ 0 1) = true := by decide +kernel
set_option maxRecDepth 100000 in
theorem cp_0_2_0 : chkP 0 (pcs 0 2) (List.take 50 (blk 0 2)) (List.take 50 (hts_ 0 2)) = some 230 := by decide +kernel
set_option maxRecDepth 100000 in
theorem cp_0_2_e : chkB 0 230 (List.drop 50 (blk 0 2)) (List.drop 50 (hts_ 0 2)) = true := by decide +kernel
theorem cb_0_2 : chkB 0 (pcs 0 2) (blk 0 2) (hts_ 0 2) = true := chkB_cut 50 cp_0_2_0 (cp_0_2_e)
set_option maxRecDepth 100000 in
theorem cb_0_3 : chkB 0 (pcs 0 3) (blk 0 3) (hts_ 0 3) = true := by decide +kernel
set_option maxRecDepth 100000 in
theorem cb_0_4 : chkB 0 (pcs 0 4) (blk 0 4) (hts_ 0 4) = true := by decide +kernel
set_option maxRecDepth 100000 in
theorem cb_0_5 : chkB 0 (pcs 0 5) (blk 0 5) (hts_ 0 5) = true := by decide +kernel
set_option maxRecDepth 100000 in
theorem cb_0_6 : chkB 0 (pcs 0 6) (blk 0 6) (hts_ 0 6) = true := by decide +kernel
set_option maxRecDepth 100000 in
theorem cb_0_7 : chkB 0 (pcs 0 7) (blk 0 7) (hts_ 0 7) = true := by decide +kernel
set_option maxRecDepth 100000 in
theorem cb_0_8 : chkB 0 (pcs 0 8) (blk 0 8) (hts_ 0 8) = true := by decide +kernel
set_option maxRecDepth 100000 in
theorem cb_0_9 : chkB 0 (pcs 0 9) (blk 0 9) (hts_ 0 9) = true := by decide +kernel
set_option maxRecDepth 100000 in
theorem cb_0_10 : chkB 0 (pcs 0 10) (blk 0 10) (hts_ 0 10) = true := by decide +kernel
set_option maxRecDepth 100000 in
theorem cb_0_11 : chkB 0 (pcs 0 11) (blk 0 11) (hts_ 0 11) = true := by decide +kernel
set_option maxRecDepth 100000 in
theorem cp_0_12_0 : chkP 0 (pcs 0 12) (List.take 50 (blk 0 12)) (List.take 50 (hts_ 0 12)) = some 581 := by decide +kernel
set_option maxRecDepth 100000 in
theorem cp_0_12_e : chkB 0 581 (List.drop 50 (blk 0 12)) (List.drop 50 (hts_ 0 12)) = true := by decide +kernel
theorem cb_0_12 : chkB 0 (pcs 0 12) (blk 0 12) (hts_ 0 12) = true := chkB_cut 50 cp_0_12_0 (cp_0_12_e)
set_option maxRecDepth 100000 in
theorem cb_0_13 : chkB 0 (pcs 0 13) (blk 0 13) (hts_ 0 13) = true := by decide +kernel
set_option maxRecDepth 100000 in
theorem cb_0_14 : chkB 0 (pcs 0 14) (blk 0 14) (hts_ 0 14) = true := by decide +kernel
set_option maxRecDepth 100000 in
theorem cb_0_15 : chkB 0 (pcs 0 15) (blk 0 15) (hts_ 0 15) = true := by decide +kernel
set_option maxRecDepth 100000 in
theorem cb_0_16 : chkB 0 (pcs 0 16) (blk 0 16) (hts_ 0 16) = true := by decide +kernel
set_option maxRecDepth 100000 in
theorem cb_0_17 : chkB 0 (pcs 0 17) (blk 0 17) (hts_ 0 17) = true := by decide +kernel
set_option maxRecDepth 100000 in
theorem cb_0_18 : chkB 0 (pcs 0 18) (blk 0 18) (hts_ 0 18) = true := by decide +kernel
set_option maxRecDepth 100000 in
theorem cb_0_19 : chkB 0 (pcs 0 19) (blk 0 19) (hts_ 0 19) = true := by decide +kernel
set_option maxRecDepth 100000 in
theorem cb_0_20 : chkB 0 (pcs 0 20) (blk 0 20) (hts_ 0 20) = true := by decide +kernel
set_option maxRecDepth 100000 in
theorem cb_0_21 : chkB 0 (pcs 0 21) (blk 0 21) (hts_ 0 21) = true := by decide +kernel
set_option maxRecDepth 100000 in
theorem cb_0_22 : chkB 0 (pcs 0 22) (blk 0 22) (hts_ 0 22) = true := by decide +kernel
set_option maxRecDepth 100000 in
theorem cb_0_23 : chkB 0 (pcs 0 23) (blk 0 23) (hts_ 0 23) = true := by decide +kernel
set_option maxRecDepth 100000 in
theorem cb_0_24 : chkB 0 (pcs 0 24) (blk 0 24) (hts_ 0 24) = true := by decide +kernel
set_option maxRecDepth 100000 in
theorem cb_0_25 : chkB 0 (pcs 0 25) (blk 0 25) (hts_ 0 25) = true := by decide +kernel
set_option maxRecDepth 100000 in
theorem cb_0_26 : chkB 0 (pcs 0 26) (blk 0 26) (hts_ 0 26) = true := by decide +kernel
set_option maxRecDepth 100000 in
theorem cb_0_27 : chkB 0 (pcs 0 27) (blk 0 27) (hts_ 0 27) = true := by decide +kernel
set_option maxRecDepth 100000 in
theorem cb_0_28 : chkB 0 (pcs 0 28) (blk 0 28) (hts_ 0 28) = true := by decide +kernel
set_option maxRecDepth 100000 in
theorem cb_0_29 : chkB 0 (pcs 0 29) (blk 0 29) (hts_ 0 29) = true := by decide +kernel
set_option maxRecDepth 100000 in
theorem cb_0_30 : chkB 0 (pcs 0 30) (blk 0 30) (hts_ 0 30) = true := by decide +kernel
set_option maxRecDepth 100000 in
theorem cb_0_31 : chkB 0 (pcs 0 31) (blk 0 31) (hts_ 0 31) = true := by decide +kernel
set_option maxRecDepth 100000 in
theorem cb_0_32 : chkB 0 (pcs 0 32) (blk 0 32) (hts_ 0 32) = true := by decide +kernel
set_option maxRecDepth 100000 in
theorem cb_0_33 : chkB 0 (pcs 0 33) (blk 0 33) (hts_ 0 33) = true := by decide +kernel
set_option maxRecDepth 100000 in
theorem okB_0 : OKB 0 := ⟨by decide +kernel, fun b hb => match b, hb with
  | 0, _ => cb_0_0
  | 1, _ => cb_0_1
  | 2, _ => cb_0_2
  | 3, _ => cb_0_3
  | 4, _ => cb_0_4
  | 5, _ => cb_0_5
  | 6, _ => cb_0_6
  | 7, _ => cb_0_7
  | 8, _ => cb_0_8
  | 9, _ => cb_0_9
  | 10, _ => cb_0_10
  | 11, _ => cb_0_11
  | 12, _ => cb_0_12
  | 13, _ => cb_0_13
  | 14, _ => cb_0_14
  | 15, _ => cb_0_15
  | 16, _ => cb_0_16
  | 17, _ => cb_0_17
  | 18, _ => cb_0_18
  | 19, _ => cb_0_19
  | 20, _ => cb_0_20
  | 21, _ => cb_0_21
  | 22, _ => cb_0_22
  | 23, _ => cb_0_23
  | 24, _ => cb_0_24
  | 25, _ => cb_0_25
  | 26, _ => cb_0_26
  | 27, _ => cb_0_27
  | 28, _ => cb_0_28
  | 29, _ => cb_0_29
  | 30, _ => cb_0_30
  | 31, _ => cb_0_31
  | 32, _ => cb_0_32
  | 33, _ => cb_0_33
  | q + 34, h => absurd (show q + 34 < 34 from h) (by omega)⟩
set_option maxRecDepth 100000 in
theorem cb_32_0 : chkB 32 (pcs 32 0) (blk 32 0) (hts_ 32 0) = true := by decide +kernel
set_option maxRecDepth 100000 in
theorem cb_32_1 : chkB 32 (pcs 32 1) (blk 32 1) (hts_ 32 1) = true := by decide +kernel
set_option maxRecDepth 100000 in
theorem cb_32_2 : chkB 32 (pcs 32 2) (blk 32 2) (hts_ 32 2) = true := by decide +kernel
set_option maxRecDepth 100000 in
theorem cb_32_3 : chkB 32 (pcs 32 3) (blk 32 3) (hts_ 32 3) = true := by decide +kernel
set_option maxRecDepth 100000 in
theorem cb_32_4 : chkB 32 (pcs 32 4) (blk 32 4) (hts_ 32 4) = true := by decide +kernel
set_option maxRecDepth 100000 in
theorem cb_32_5 : chkB 32 (pcs 32 5) (blk 32 5) (hts_ 32 5) = true := by decide +kernel
set_option maxRecDepth 100000 in
theorem cb_32_6 : chkB 32 (pcs 32 6) (blk 32 6) (hts_ 32 6) = true := by decide +kernel
set_option maxRecDepth 100000 in
theorem cb_32_7 : chkB 32 (pcs 32 7) (blk 32 7) (hts_ 32 7) = true := by decide +kernel
set_option maxRecDepth 100000 in
theorem cb_32_8 : chkB 32 (pcs 32 8) (blk 32 8) (hts_ 32 8) = true := by decide +kernel
set_option maxRecDepth 100000 in
theorem cb_32_9 : chkB 32 (pcs 32 9) (blk 32 9) (hts_ 32 9) = true := by decide +kernel
set_option maxRecDepth 100000 in
theorem cb_32_10 : chkB 32 (pcs 32 10) (blk 32 10) (hts_ 32 10) = true := by decide +kernel
set_option maxRecDepth 100000 in
theorem okB_32 : OKB 32 := ⟨by decide +kernel, fun b hb => match b, hb with
  | 0, _ => cb_32_0
  | 1, _ => cb_32_1
  | 2, _ => cb_32_2
  | 3, _ => cb_32_3
  | 4, _ => cb_32_4
  | 5, _ => cb_32_5
  | 6, _ => cb_32_6
  | 7, _ => cb_32_7
  | 8, _ => cb_32_8
  | 9, _ => cb_32_9
  | 10, _ => cb_32_10
  | q + 11, h => absurd (show q + 11 < 11 from h) (by omega)⟩
set_option maxRecDepth 100000 in
theorem okM_32 : OM 32 := ⟨rfl, by decide +kernel⟩
set_option maxRecDepth 100000 in
theorem cb_173_0 : chkB 173 (pcs 173 0) (blk 173 0) (hts_ 173 0) = true := by decide +kernel
set_option maxRecDepth 100000 in
theorem cb_173_1 : chkB 173 (pcs 173 1) (blk 173 1) (hts_ 173 1) = true := by decide +kernel
set_option maxRecDepth 100000 in
theorem cb_173_2 : chkB 173 (pcs 173 2) (blk 173 2) (hts_ 173 2) = true := by decide +kernel
set_option maxRecDepth 100000 in
theorem cb_173_3 : chkB 173 (pcs 173 3) (blk 173 3) (hts_ 173 3) = true := by decide +kernel
set_option maxRecDepth 100000 in
theorem cb_173_4 : chkB 173 (pcs 173 4) (blk 173 4) (hts_ 173 4) = true := by decide +kernel
set_option maxRecDepth 100000 in
theorem cb_173_5 : chkB 173 (pcs 173 5) (blk 173 5) (hts_ 173 5) = true := by decide +kernel
set_option maxRecDepth 100000 in
theorem cb_173_6 : chkB 173 (pcs 173 6) (blk 173 6) (hts_ 173 6) = true := by decide +kernel
set_option maxRecDepth 100000 in
theorem cb_173_7 : chkB 173 (pcs 173 7) (blk 173 7) (hts_ 173 7) = true := by decide +kernel
set_option maxRecDepth 100000 in
theorem cb_173_8 : chkB 173 (pcs 173 8) (blk 173 8) (hts_ 173 8) = true := by decide +kernel
set_option maxRecDepth 100000 in
theorem cb_173_9 : chkB 173 (pcs 173 9) (blk 173 9) (hts_ 173 9) = true := by decide +kernel
set_option maxRecDepth 100000 in
theorem cb_173_10 : chkB 173 (pcs 173 10) (blk 173 10) (hts_ 173 10) = true := by decide +kernel
set_option maxRecDepth 100000 in
theorem cb_173_11 : chkB 173 (pcs 173 11) (blk 173 11) (hts_ 173 11) = true := by decide +kernel
set_option maxRecDepth 100000 in
theorem cb_173_12 : chkB 173 (pcs 173 12) (blk 173 12) (hts_ 173 12) = true := by decide +kernel
set_option maxRecDepth 100000 in
theorem cb_173_13 : chkB 173 (pcs 173 13) (blk 173 13) (hts_ 173 13) = true := by decide +kernel
set_option maxRecDepth 100000 in
theorem cb_173_14 : chkB 173 (pcs 173 14) (blk 173 14) (hts_ 173 14) = true := by decide +kernel
set_option maxRecDepth 100000 in
theorem cb_173_15 : chkB 173 (pcs 173 15) (blk 173 15) (hts_ 173 15) = true := by decide +kernel
set_option maxRecDepth 100000 in
theorem cb_173_16 : chkB 173 (pcs 173 16) (blk 173 16) (hts_ 173 16) = true := by decide +kernel
set_option maxRecDepth 100000 in
theorem cb_173_17 : chkB 173 (pcs 173 17) (blk 173 17) (hts_ 173 17) = true := by decide +kernel
set_option maxRecDepth 100000 in
theorem cb_173_18 : chkB 173 (pcs 173 18) (blk 173 18) (hts_ 173 18) = true := by decide +kernel
set_option maxRecDepth 100000 in
theorem cb_173_19 : chkB 173 (pcs 173 19) (blk 173 19) (hts_ 173 19) = true := by decide +kernel
set_option maxRecDepth 100000 in
theorem cb_173_20 : chkB 173 (pcs 173 20) (blk 173 20) (hts_ 173 20) = true := by decide +kernel
set_option maxRecDepth 100000 in
theorem cb_173_21 : chkB 173 (pcs 173 21) (blk 173 21) (hts_ 173 21) = true := by decide +kernel
set_option maxRecDepth 100000 in
theorem cb_173_22 : chkB 173 (pcs 173 22) (blk 173 22) (hts_ 173 22) = true := by decide +kernel
set_option maxRecDepth 100000 in
theorem cb_173_23 : chkB 173 (pcs 173 23) (blk 173 23) (hts_ 173 23) = true := by decide +kernel
set_option maxRecDepth 100000 in
theorem cb_173_24 : chkB 173 (pcs 173 24) (blk 173 24) (hts_ 173 24) = true := by decide +kernel
set_option maxRecDepth 100000 in
theorem cb_173_25 : chkB 173 (pcs 173 25) (blk 173 25) (hts_ 173 25) = true := by decide +kernel
set_option maxRecDepth 100000 in
theorem cb_173_26 : chkB 173 (pcs 173 26) (blk 173 26) (hts_ 173 26) = true := by decide +kernel
set_option maxRecDepth 100000 in
theorem cb_173_27 : chkB 173 (pcs 173 27) (blk 173 27) (hts_ 173 27) = true := by decide +kernel
set_option maxRecDepth 100000 in
theorem cb_173_28 : chkB 173 (pcs 173 28) (blk 173 28) (hts_ 173 28) = true := by decide +kernel
set_option maxRecDepth 100000 in
theorem cb_173_29 : chkB 173 (pcs 173 29) (blk 173 29) (hts_ 173 29) = true := by decide +kernel
set_option maxRecDepth 100000 in
theorem cb_173_30 : chkB 173 (pcs 173 30) (blk 173 30) (hts_ 173 30) = true := by decide +kernel
set_option maxRecDepth 100000 in
theorem cb_173_31 : chkB 173 (pcs 173 31) (blk 173 31) (hts_ 173 31) = true := by decide +kernel
set_option maxRecDepth 100000 in
theorem cb_173_32 : chkB 173 (pcs 173 32) (blk 173 32) (hts_ 173 32) = true := by decide +kernel
set_option maxRecDepth 100000 in
theorem cb_173_33 : chkB 173 (pcs 173 33) (blk 173 33) (hts_ 173 33) = true := by decide +kernel
set_option maxRecDepth 100000 in
theorem cb_173_34 : chkB 173 (pcs 173 34) (blk 173 34) (hts_ 173 34) = true := by decide +kernel
set_option maxRecDepth 100000 in
theorem okB_173 : OKB 173 := ⟨by decide +kernel, fun b hb => match b, hb with
  | 0, _ => cb_173_0
  | 1, _ => cb_173_1
  | 2, _ => cb_173_2
  | 3, _ => cb_173_3
  | 4, _ => cb_173_4
  | 5, _ => cb_173_5
  | 6, _ => cb_173_6
  | 7, _ => cb_173_7
  | 8, _ => cb_173_8
  | 9, _ => cb_173_9
  | 10, _ => cb_173_10
  | 11, _ => cb_173_11
  | 12, _ => cb_173_12
  | 13, _ => cb_173_13
  | 14, _ => cb_173_14
  | 15, _ => cb_173_15
  | 16, _ => cb_173_16
  | 17, _ => cb_173_17
  | 18, _ => cb_173_18
  | 19, _ => cb_173_19
  | 20, _ => cb_173_20
  | 21, _ => cb_173_21
  | 22, _ => cb_173_22
  | 23, _ => cb_173_23
  | 24, _ => cb_173_24
  | 25, _ => cb_173_25
  | 26, _ => cb_173_26
  | 27, _ => cb_173_27
  | 28, _ => cb_173_28
  | 29, _ => cb_173_29
  | 30, _ => cb_173_30
  | 31, _ => cb_173_31
  | 32, _ => cb_173_32
  | 33, _ => cb_173_33
  | 34, _ => cb_173_34
  | q + 35, h => absurd (show q + 35 < 35 from h) (by omega)⟩
set_option maxRecDepth 100000 in
theorem okM_173 : OM 173 := ⟨rfl, by decide +kernel⟩
set_option maxRecDepth 100000 in
theorem cb_204_0 : chkB 204 (pcs 204 0) (blk 204 0) (hts_ 204 0) = true := by decide +kernel
set_option maxRecDepth 100000 in
theorem cb_204_1 : chkB 204 (pcs 204 1) (blk 204 1) (hts_ 204 1) = true := by decide +kernel
set_option maxRecDepth 100000 in
theorem cb_204_2 : chkB 204 (pcs 204 2) (blk 204 2) (hts_ 204 2) = true := by decide +kernel
set_option maxRecDepth 100000 in
theorem cb_204_3 : chkB 204 (pcs 204 3) (blk 204 3) (hts_ 204 3) = true := by decide +kernel
set_option maxRecDepth 100000 in
theorem cb_204_4 : chkB 204 (pcs 204 4) (blk 204 4) (hts_ 204 4) = true := by decide +kernel
set_option maxRecDepth 100000 in
theorem cb_204_5 : chkB 204 (pcs 204 5) (blk 204 5) (hts_ 204 5) = true := by decide +kernel
set_option maxRecDepth 100000 in
theorem cb_204_6 : chkB 204 (pcs 204 6) (blk 204 6) (hts_ 204 6) = true := by decide +kernel
set_option maxRecDepth 100000 in
theorem cb_204_7 : chkB 204 (pcs 204 7) (blk 204 7) (hts_ 204 7) = true := by decide +kernel
set_option maxRecDepth 100000 in
theorem cb_204_8 : chkB 204 (pcs 204 8) (blk 204 8) (hts_ 204 8) = true := by decide +kernel
set_option maxRecDepth 100000 in
theorem cp_204_9_0 : chkP 204 (pcs 204 9) (List.take 50 (blk 204 9)) (List.take 50 (hts_ 204 9)) = some 171 := by decide +kernel
set_option maxRecDepth 100000 in
theorem cp_204_9_e : chkB 204 171 (List.drop 50 (blk 204 9)) (List.drop 50 (hts_ 204 9)) = true := by decide +kernel
theorem cb_204_9 : chkB 204 (pcs 204 9) (blk 204 9) (hts_ 204 9) = true := chkB_cut 50 cp_204_9_0 (cp_204_9_e)
set_option maxRecDepth 100000 in
theorem cb_204_10 : chkB 204 (pcs 204 10) (blk 204 10) (hts_ 204 10) = true := by decide +kernel
set_option maxRecDepth 100000 in
theorem cb_204_11 : chkB 204 (pcs 204 11) (blk 204 11) (hts_ 204 11) = true := by decide +kernel
set_option maxRecDepth 100000 in
theorem cb_204_12 : chkB 204 (pcs 204 12) (blk 204 12) (hts_ 204 12) = true := by decide +kernel
set_option maxRecDepth 100000 in
theorem cb_204_13 : chkB 204 (pcs 204 13) (blk 204 13) (hts_ 204 13) = true := by decide +kernel
set_option maxRecDepth 100000 in
theorem cb_204_14 : chkB 204 (pcs 204 14) (blk 204 14) (hts_ 204 14) = true := by decide +kernel
set_option maxRecDepth 100000 in
theorem okB_204 : OKB 204 := ⟨by decide +kernel, fun b hb => match b, hb with
  | 0, _ => cb_204_0
  | 1, _ => cb_204_1
  | 2, _ => cb_204_2
  | 3, _ => cb_204_3
  | 4, _ => cb_204_4
  | 5, _ => cb_204_5
  | 6, _ => cb_204_6
  | 7, _ => cb_204_7
  | 8, _ => cb_204_8
  | 9, _ => cb_204_9
  | 10, _ => cb_204_10
  | 11, _ => cb_204_11
  | 12, _ => cb_204_12
  | 13, _ => cb_204_13
  | 14, _ => cb_204_14
  | q + 15, h => absurd (show q + 15 < 15 from h) (by omega)⟩
set_option maxRecDepth 100000 in
theorem okM_204 : OM 204 := ⟨rfl, by decide +kernel⟩
set_option maxRecDepth 100000 in
theorem cb_219_0 : chkB 219 (pcs 219 0) (blk 219 0) (hts_ 219 0) = true := by decide +kernel
set_option maxRecDepth 100000 in
theorem cb_219_1 : chkB 219 (pcs 219 1) (blk 219 1) (hts_ 219 1) = true := by decide +kernel
set_option maxRecDepth 100000 in
theorem cb_219_2 : chkB 219 (pcs 219 2) (blk 219 2) (hts_ 219 2) = true := by decide +kernel
set_option maxRecDepth 100000 in
theorem cb_219_3 : chkB 219 (pcs 219 3) (blk 219 3) (hts_ 219 3) = true := by decide +kernel
set_option maxRecDepth 100000 in
theorem cb_219_4 : chkB 219 (pcs 219 4) (blk 219 4) (hts_ 219 4) = true := by decide +kernel
set_option maxRecDepth 100000 in
theorem cb_219_5 : chkB 219 (pcs 219 5) (blk 219 5) (hts_ 219 5) = true := by decide +kernel
set_option maxRecDepth 100000 in
theorem cb_219_6 : chkB 219 (pcs 219 6) (blk 219 6) (hts_ 219 6) = true := by decide +kernel
set_option maxRecDepth 100000 in
theorem cb_219_7 : chkB 219 (pcs 219 7) (blk 219 7) (hts_ 219 7) = true := by decide +kernel
set_option maxRecDepth 100000 in
theorem cb_219_8 : chkB 219 (pcs 219 8) (blk 219 8) (hts_ 219 8) = true := by decide +kernel
set_option maxRecDepth 100000 in
theorem cb_219_9 : chkB 219 (pcs 219 9) (blk 219 9) (hts_ 219 9) = true := by decide +kernel
set_option maxRecDepth 100000 in
theorem cb_219_10 : chkB 219 (pcs 219 10) (blk 219 10) (hts_ 219 10) = true := by decide +kernel
set_option maxRecDepth 100000 in
theorem cb_219_11 : chkB 219 (pcs 219 11) (blk 219 11) (hts_ 219 11) = true := by decide +kernel
set_option maxRecDepth 100000 in
theorem okB_219 : OKB 219 := ⟨by decide +kernel, fun b hb => match b, hb with
  | 0, _ => cb_219_0
  | 1, _ => cb_219_1
  | 2, _ => cb_219_2
  | 3, _ => cb_219_3
  | 4, _ => cb_219_4
  | 5, _ => cb_219_5
  | 6, _ => cb_219_6
  | 7, _ => cb_219_7
  | 8, _ => cb_219_8
  | 9, _ => cb_219_9
  | 10, _ => cb_219_10
  | 11, _ => cb_219_11
  | q + 12, h => absurd (show q + 12 < 12 from h) (by omega)⟩
set_option maxRecDepth 100000 in
theorem okM_219 : OM 219 := ⟨rfl, by decide +kernel⟩
set_option maxRecDepth 100000 in
theorem cp_317_0_0 : chkP 317 (pcs 317 0) (List.take 50 (blk 317 0)) (List.take 50 (hts_ 317 0)) = some 82 := by decide +kernel
set_option maxRecDepth 100000 in
theorem cp_317_0_1 : chkP 317 82 (List.take 50 (List.drop 50 (blk 317 0))) (List.take 50 (List.drop 50 (hts_ 317 0))) = some 156 := by decide +kernel
set_option maxRecDepth 100000 in
theorem cp_317_0_2 : chkP 317 156 (List.take 50 (List.drop 50 (List.drop 50 (blk 317 0)))) (List.take 50 (List.drop 50 (List.drop 50 (hts_ 317 0)))) = some 232 := by decide +kernel
set_option maxRecDepth 100000 in
theorem cp_317_0_3 : chkP 317 232 (List.take 50 (List.drop 50 (List.drop 50 (List.drop 50 (blk 317 0))))) (List.take 50 (List.drop 50 (List.drop 50 (List.drop 50 (hts_ 317 0))))) = some 329 := by decide +kernel
set_option maxRecDepth 100000 in
theorem cp_317_0_4 : chkP 317 329 (List.take 50 (List.drop 50 (List.drop 50 (List.drop 50 (List.drop 50 (blk 317 0)))))) (List.take 50 (List.drop 50 (List.drop 50 (List.drop 50 (List.drop 50 (hts_ 317 0)))))) = some 437 := by decide +kernel
set_option maxRecDepth 100000 in
theorem cp_317_0_5 : chkP 317 437 (List.take 50 (List.drop 50 (List.drop 50 (List.drop 50 (List.drop 50 (List.drop 50 (blk 317 0))))))) (List.take 50 (List.drop 50 (List.drop 50 (List.drop 50 (List.drop 50 (List.drop 50 (hts_ 317 0))))))) = some 545 := by decide +kernel
set_option maxRecDepth 100000 in
theorem cp_317_0_6 : chkP 317 545 (List.take 50 (List.drop 50 (List.drop 50 (List.drop 50 (List.drop 50 (List.drop 50 (List.drop 50 (blk 317 0)))))))) (List.take 50 (List.drop 50 (List.drop 50 (List.drop 50 (List.drop 50 (List.drop 50 (List.drop 50 (hts_ 317 0)))))))) = some 646 := by decide +kernel
set_option maxRecDepth 100000 in
theorem cp_317_0_7 : chkP 317 646 (List.take 50 (List.drop 50 (List.drop 50 (List.drop 50 (List.drop 50 (List.drop 50 (List.drop 50 (List.drop 50 (blk 317 0))))))))) (List.take 50 (List.drop 50 (List.drop 50 (List.drop 50 (List.drop 50 (List.drop 50 (List.drop 50 (List.drop 50 (hts_ 317 0))))))))) = some 748 := by decide +kernel
set_option maxRecDepth 100000 in
theorem cp_317_0_e : chkB 317 748 (List.drop 50 (List.drop 50 (List.drop 50 (List.drop 50 (List.drop 50 (List.drop 50 (List.drop 50 (List.drop 50 (blk 317 0))))))))) (List.drop 50 (List.drop 50 (List.drop 50 (List.drop 50 (List.drop 50 (List.drop 50 (List.drop 50 (List.drop 50 (hts_ 317 0))))))))) = true := by decide +kernel
theorem cb_317_0 : chkB 317 (pcs 317 0) (blk 317 0) (hts_ 317 0) = true := chkB_cut 50 cp_317_0_0 (chkB_cut 50 cp_317_0_1 (chkB_cut 50 cp_317_0_2 (chkB_cut 50 cp_317_0_3 (chkB_cut 50 cp_317_0_4 (chkB_cut 50 cp_317_0_5 (chkB_cut 50 cp_317_0_6 (chkB_cut 50 cp_317_0_7 (cp_317_0_e))))))))
set_option maxRecDepth 100000 in
theorem okB_317 : OKB 317 := ⟨by decide +kernel, fun b hb => match b, hb with
  | 0, _ => cb_317_0
  | q + 1, h => absurd (show q + 1 < 1 from h) (by omega)⟩
set_option maxRecDepth 100000 in
theorem okM_317 : OM 317 := ⟨rfl, by decide +kernel⟩
set_option maxRecDepth 100000 in
theorem cb_320_0 : chkB 320 (pcs 320 0) (blk 320 0) (hts_ 320 0) = true := by decide +kernel
set_option maxRecDepth 100000 in
theorem cb_320_1 : chkB 320 (pcs 320 1) (blk 320 1) (hts_ 320 1) = true := by decide +kernel
set_option maxRecDepth 100000 in
theorem cb_320_2 : chkB 320 (pcs 320 2) (blk 320 2) (hts_ 320 2) = true := by decide +kernel
set_option maxRecDepth 100000 in
theorem cb_320_3 : chkB 320 (pcs 320 3) (blk 320 3) (hts_ 320 3) = true := by decide +kernel
set_option maxRecDepth 100000 in
theorem cb_320_4 : chkB 320 (pcs 320 4) (blk 320 4) (hts_ 320 4) = true := by decide +kernel
set_option maxRecDepth 100000 in
theorem cb_320_5 : chkB 320 (pcs 320 5) (blk 320 5) (hts_ 320 5) = true := by decide +kernel
set_option maxRecDepth 100000 in
theorem cb_320_6 : chkB 320 (pcs 320 6) (blk 320 6) (hts_ 320 6) = true := by decide +kernel
set_option maxRecDepth 100000 in
theorem cb_320_7 : chkB 320 (pcs 320 7) (blk 320 7) (hts_ 320 7) = true := by decide +kernel
set_option maxRecDepth 100000 in
theorem cb_320_8 : chkB 320 (pcs 320 8) (blk 320 8) (hts_ 320 8) = true := by decide +kernel
set_option maxRecDepth 100000 in
theorem cb_320_9 : chkB 320 (pcs 320 9) (blk 320 9) (hts_ 320 9) = true := by decide +kernel
set_option maxRecDepth 100000 in
theorem cb_320_10 : chkB 320 (pcs 320 10) (blk 320 10) (hts_ 320 10) = true := by decide +kernel
set_option maxRecDepth 100000 in
theorem okB_320 : OKB 320 := ⟨by decide +kernel, fun b hb => match b, hb with
  | 0, _ => cb_320_0
  | 1, _ => cb_320_1
  | 2, _ => cb_320_2
  | 3, _ => cb_320_3
  | 4, _ => cb_320_4
  | 5, _ => cb_320_5
  | 6, _ => cb_320_6
  | 7, _ => cb_320_7
  | 8, _ => cb_320_8
  | 9, _ => cb_320_9
  | 10, _ => cb_320_10
  | q + 11, h => absurd (show q + 11 < 11 from h) (by omega)⟩
set_option maxRecDepth 100000 in
theorem okM_320 : OM 320 := ⟨rfl, by decide +kernel⟩
set_option maxRecDepth 100000 in
theorem cb_321_0 : chkB 321 (pcs 321 0) (blk 321 0) (hts_ 321 0) = true := by decide +kernel
set_option maxRecDepth 100000 in
theorem cb_321_1 : chkB 321 (pcs 321 1) (blk 321 1) (hts_ 321 1) = true := by decide +kernel
set_option maxRecDepth 100000 in
theorem cb_321_2 : chkB 321 (pcs 321 2) (blk 321 2) (hts_ 321 2) = true := by decide +kernel
set_option maxRecDepth 100000 in
theorem cb_321_3 : chkB 321 (pcs 321 3) (blk 321 3) (hts_ 321 3) = true := by decide +kernel
set_option maxRecDepth 100000 in
theorem cb_321_4 : chkB 321 (pcs 321 4) (blk 321 4) (hts_ 321 4) = true := by decide +kernel
set_option maxRecDepth 100000 in
theorem cb_321_5 : chkB 321 (pcs 321 5) (blk 321 5) (hts_ 321 5) = true := by decide +kernel
set_option maxRecDepth 100000 in
theorem cb_321_6 : chkB 321 (pcs 321 6) (blk 321 6) (hts_ 321 6) = true := by decide +kernel
set_option maxRecDepth 100000 in
theorem cb_321_7 : chkB 321 (pcs 321 7) (blk 321 7) (hts_ 321 7) = true := by decide +kernel
set_option maxRecDepth 100000 in
theorem cb_321_8 : chkB 321 (pcs 321 8) (blk 321 8) (hts_ 321 8) = true := by decide +kernel
set_option maxRecDepth 100000 in
theorem cb_321_9 : chkB 321 (pcs 321 9) (blk 321 9) (hts_ 321 9) = true := by decide +kernel
set_option maxRecDepth 100000 in
theorem cb_321_10 : chkB 321 (pcs 321 10) (blk 321 10) (hts_ 321 10) = true := by decide +kernel
set_option maxRecDepth 100000 in
theorem cb_321_11 : chkB 321 (pcs 321 11) (blk 321 11) (hts_ 321 11) = true := by decide +kernel
set_option maxRecDepth 100000 in
theorem cb_321_12 : chkB 321 (pcs 321 12) (blk 321 12) (hts_ 321 12) = true := by decide +kernel
set_option maxRecDepth 100000 in
theorem cb_321_13 : chkB 321 (pcs 321 13) (blk 321 13) (hts_ 321 13) = true := by decide +kernel
set_option maxRecDepth 100000 in
theorem cb_321_14 : chkB 321 (pcs 321 14) (blk 321 14) (hts_ 321 14) = true := by decide +kernel
set_option maxRecDepth 100000 in
theorem cb_321_15 : chkB 321 (pcs 321 15) (blk 321 15) (hts_ 321 15) = true := by decide +kernel
set_option maxRecDepth 100000 in
theorem cb_321_16 : chkB 321 (pcs 321 16) (blk 321 16) (hts_ 321 16) = true := by decide +kernel
set_option maxRecDepth 100000 in
theorem cb_321_17 : chkB 321 (pcs 321 17) (blk 321 17) (hts_ 321 17) = true := by decide +kernel
set_option maxRecDepth 100000 in
theorem cb_321_18 : chkB 321 (pcs 321 18) (blk 321 18) (hts_ 321 18) = true := by decide +kernel
set_option maxRecDepth 100000 in
theorem cb_321_19 : chkB 321 (pcs 321 19) (blk 321 19) (hts_ 321 19) = true := by decide +kernel
set_option maxRecDepth 100000 in
theorem cb_321_20 : chkB 321 (pcs 321 20) (blk 321 20) (hts_ 321 20) = true := by decide +kernel
set_option maxRecDepth 100000 in
theorem cb_321_21 : chkB 321 (pcs 321 21) (blk 321 21) (hts_ 321 21) = true := by decide +kernel
set_option maxRecDepth 100000 in
theorem cb_321_22 : chkB 321 (pcs 321 22) (blk 321 22) (hts_ 321 22) = true := by decide +kernel
set_option maxRecDepth 100000 in
theorem cb_321_23 : chkB 321 (pcs 321 23) (blk 321 23) (hts_ 321 23) = true := by decide +kernel
set_option maxRecDepth 100000 in
theorem cb_321_24 : chkB 321 (pcs 321 24) (blk 321 24) (hts_ 321 24) = true := by decide +kernel
set_option maxRecDepth 100000 in
theorem cb_321_25 : chkB 321 (pcs 321 25) (blk 321 25) (hts_ 321 25) = true := by decide +kernel
set_option maxRecDepth 100000 in
theorem cb_321_26 : chkB 321 (pcs 321 26) (blk 321 26) (hts_ 321 26) = true := by decide +kernel
set_option maxRecDepth 100000 in
theorem cp_321_27_0 : chkP 321 (pcs 321 27) (List.take 50 (blk 321 27)) (List.take 50 (hts_ 321 27)) = some 554 := by decide +kernel
set_option maxRecDepth 100000 in
theorem cp_321_27_e : chkB 321 554 (List.drop 50 (blk 321 27)) (List.drop 50 (hts_ 321 27)) = true := by decide +kernel
theorem cb_321_27 : chkB 321 (pcs 321 27) (blk 321 27) (hts_ 321 27) = true := chkB_cut 50 cp_321_27_0 (cp_321_27_e)
set_option maxRecDepth 100000 in
theorem cb_321_28 : chkB 321 (pcs 321 28) (blk 321 28) (hts_ 321 28) = true := by decide +kernel
set_option maxRecDepth 100000 in
theorem cb_321_29 : chkB 321 (pcs 321 29) (blk 321 29) (hts_ 321 29) = true := by decide +kernel
set_option maxRecDepth 100000 in
theorem cb_321_30 : chkB 321 (pcs 321 30) (blk 321 30) (hts_ 321 30) = true := by decide +kernel
set_option maxRecDepth 100000 in
theorem cb_321_31 : chkB 321 (pcs 321 31) (blk 321 31) (hts_ 321 31) = true := by decide +kernel
set_option maxRecDepth 100000 in
theorem okB_321 : OKB 321 := ⟨by decide +kernel, fun b hb => match b, hb with
  | 0, _ => cb_321_0
  | 1, _ => cb_321_1
  | 2, _ => cb_321_2
  | 3, _ => cb_321_3
  | 4, _ => cb_321_4
  | 5, _ => cb_321_5
  | 6, _ => cb_321_6
  | 7, _ => cb_321_7
  | 8, _ => cb_321_8
  | 9, _ => cb_321_9
  | 10, _ => cb_321_10
  | 11, _ => cb_321_11
  | 12, _ => cb_321_12
  | 13, _ => cb_321_13
  | 14, _ => cb_321_14
  | 15, _ => cb_321_15
  | 16, _ => cb_321_16
  | 17, _ => cb_321_17
  | 18, _ => cb_321_18
  | 19, _ => cb_321_19
  | 20, _ => cb_321_20
  | 21, _ => cb_321_21
  | 22, _ => cb_321_22
  | 23, _ => cb_321_23
  | 24, _ => cb_321_24
  | 25, _ => cb_321_25
  | 26, _ => cb_321_26
  | 27, _ => cb_321_27
  | 28, _ => cb_321_28
  | 29, _ => cb_321_29
  | 30, _ => cb_321_30
  | 31, _ => cb_321_31
  | q + 32, h => absurd (show q + 32 < 32 from h) (by omega)⟩
set_option maxRecDepth 100000 in
theorem okM_321 : OM 321 := ⟨rfl, by decide +kernel⟩
set_option maxRecDepth 100000 in
theorem cb_336_0 : chkB 336 (pcs 336 0) (blk 336 0) (hts_ 336 0) = true := by decide +kernel
set_option maxRecDepth 100000 in
theorem cb_336_1 : chkB 336 (pcs 336 1) (blk 336 1) (hts_ 336 1) = true := by decide +kernel
set_option maxRecDepth 100000 in
theorem cb_336_2 : chkB 336 (pcs 336 2) (blk 336 2) (hts_ 336 2) = true := by decide +kernel
set_option maxRecDepth 100000 in
theorem cb_336_3 : chkB 336 (pcs 336 3) (blk 336 3) (hts_ 336 3) = true := by decide +kernel
set_option maxRecDepth 100000 in
theorem cb_336_4 : chkB 336 (pcs 336 4) (blk 336 4) (hts_ 336 4) = true := by decide +kernel
set_option maxRecDepth 100000 in
theorem cb_336_5 : chkB 336 (pcs 336 5) (blk 336 5) (hts_ 336 5) = true := by decide +kernel
set_option maxRecDepth 100000 in
theorem cb_336_6 : chkB 336 (pcs 336 6) (blk 336 6) (hts_ 336 6) = true := by decide +kernel
set_option maxRecDepth 100000 in
theorem cb_336_7 : chkB 336 (pcs 336 7) (blk 336 7) (hts_ 336 7) = true := by decide +kernel
set_option maxRecDepth 100000 in
theorem cb_336_8 : chkB 336 (pcs 336 8) (blk 336 8) (hts_ 336 8) = true := by decide +kernel
set_option maxRecDepth 100000 in
theorem cb_336_9 : chkB 336 (pcs 336 9) (blk 336 9) (hts_ 336 9) = true := by decide +kernel
set_option maxRecDepth 100000 in
theorem cb_336_10 : chkB 336 (pcs 336 10) (blk 336 10) (hts_ 336 10) = true := by decide +kernel
set_option maxRecDepth 100000 in
theorem cb_336_11 : chkB 336 (pcs 336 11) (blk 336 11) (hts_ 336 11) = true := by decide +kernel
set_option maxRecDepth 100000 in
theorem cb_336_12 : chkB 336 (pcs 336 12) (blk 336 12) (hts_ 336 12) = true := by decide +kernel
set_option maxRecDepth 100000 in
theorem cb_336_13 : chkB 336 (pcs 336 13) (blk 336 13) (hts_ 336 13) = true := by decide +kernel
set_option maxRecDepth 100000 in
theorem cb_336_14 : chkB 336 (pcs 336 14) (blk 336 14) (hts_ 336 14) = true := by decide +kernel
set_option maxRecDepth 100000 in
theorem cb_336_15 : chkB 336 (pcs 336 15) (blk 336 15) (hts_ 336 15) = true := by decide +kernel
set_option maxRecDepth 100000 in
theorem okB_336 : OKB 336 := ⟨by decide +kernel, fun b hb => match b, hb with
  | 0, _ => cb_336_0
  | 1, _ => cb_336_1
  | 2, _ => cb_336_2
  | 3, _ => cb_336_3
  | 4, _ => cb_336_4
  | 5, _ => cb_336_5
  | 6, _ => cb_336_6
  | 7, _ => cb_336_7
  | 8, _ => cb_336_8
  | 9, _ => cb_336_9
  | 10, _ => cb_336_10
  | 11, _ => cb_336_11
  | 12, _ => cb_336_12
  | 13, _ => cb_336_13
  | 14, _ => cb_336_14
  | 15, _ => cb_336_15
  | q + 16, h => absurd (show q + 16 < 16 from h) (by omega)⟩
set_option maxRecDepth 100000 in
theorem okM_336 : OM 336 := ⟨rfl, by decide +kernel⟩
set_option maxRecDepth 100000 in
theorem cb_345_0 : chkB 345 (pcs 345 0) (blk 345 0) (hts_ 345 0) = true := by decide +kernel
set_option maxRecDepth 100000 in
theorem cb_345_1 : chkB 345 (pcs 345 1) (blk 345 1) (hts_ 345 1) = true := by decide +kernel
set_option maxRecDepth 100000 in
theorem cb_345_2 : chkB 345 (pcs 345 2) (blk 345 2) (hts_ 345 2) = true := by decide +kernel
set_option maxRecDepth 100000 in
theorem cb_345_3 : chkB 345 (pcs 345 3) (blk 345 3) (hts_ 345 3) = true := by decide +kernel
set_option maxRecDepth 100000 in
theorem cb_345_4 : chkB 345 (pcs 345 4) (blk 345 4) (hts_ 345 4) = true := by decide +kernel
set_option maxRecDepth 100000 in
theorem cb_345_5 : chkB 345 (pcs 345 5) (blk 345 5) (hts_ 345 5) = true := by decide +kernel
set_option maxRecDepth 100000 in
theorem cb_345_6 : chkB 345 (pcs 345 6) (blk 345 6) (hts_ 345 6) = true := by decide +kernel
set_option maxRecDepth 100000 in
theorem cb_345_7 : chkB 345 (pcs 345 7) (blk 345 7) (hts_ 345 7) = true := by decide +kernel
set_option maxRecDepth 100000 in
theorem cb_345_8 : chkB 345 (pcs 345 8) (blk 345 8) (hts_ 345 8) = true := by decide +kernel
set_option maxRecDepth 100000 in
theorem cb_345_9 : chkB 345 (pcs 345 9) (blk 345 9) (hts_ 345 9) = true := by decide +kernel
set_option maxRecDepth 100000 in
theorem cb_345_10 : chkB 345 (pcs 345 10) (blk 345 10) (hts_ 345 10) = true := by decide +kernel
set_option maxRecDepth 100000 in
theorem cb_345_11 : chkB 345 (pcs 345 11) (blk 345 11) (hts_ 345 11) = true := by decide +kernel
set_option maxRecDepth 100000 in
theorem cb_345_12 : chkB 345 (pcs 345 12) (blk 345 12) (hts_ 345 12) = true := by decide +kernel
set_option maxRecDepth 100000 in
theorem cb_345_13 : chkB 345 (pcs 345 13) (blk 345 13) (hts_ 345 13) = true := by decide +kernel
set_option maxRecDepth 100000 in
theorem okB_345 : OKB 345 := ⟨by decide +kernel, fun b hb => match b, hb with
  | 0, _ => cb_345_0
  | 1, _ => cb_345_1
  | 2, _ => cb_345_2
  | 3, _ => cb_345_3
  | 4, _ => cb_345_4
  | 5, _ => cb_345_5
  | 6, _ => cb_345_6
  | 7, _ => cb_345_7
  | 8, _ => cb_345_8
  | 9, _ => cb_345_9
  | 10, _ => cb_345_10
  | 11, _ => cb_345_11
  | 12, _ => cb_345_12
  | 13, _ => cb_345_13
  | q + 14, h => absurd (show q + 14 < 14 from h) (by omega)⟩
set_option maxRecDepth 100000 in
theorem okM_345 : OM 345 := ⟨rfl, by decide +kernel⟩
set_option maxRecDepth 100000 in
theorem cb_362_0 : chkB 362 (pcs 362 0) (blk 362 0) (hts_ 362 0) = true := by decide +kernel
set_option maxRecDepth 100000 in
theorem cb_362_1 : chkB 362 (pcs 362 1) (blk 362 1) (hts_ 362 1) = true := by decide +kernel
set_option maxRecDepth 100000 in
theorem cb_362_2 : chkB 362 (pcs 362 2) (blk 362 2) (hts_ 362 2) = true := by decide +kernel
set_option maxRecDepth 100000 in
theorem cb_362_3 : chkB 362 (pcs 362 3) (blk 362 3) (hts_ 362 3) = true := by decide +kernel
set_option maxRecDepth 100000 in
theorem cb_362_4 : chkB 362 (pcs 362 4) (blk 362 4) (hts_ 362 4) = true := by decide +kernel
set_option maxRecDepth 100000 in
theorem cb_362_5 : chkB 362 (pcs 362 5) (blk 362 5) (hts_ 362 5) = true := by decide +kernel
set_option maxRecDepth 100000 in
theorem cb_362_6 : chkB 362 (pcs 362 6) (blk 362 6) (hts_ 362 6) = true := by decide +kernel
set_option maxRecDepth 100000 in
theorem cb_362_7 : chkB 362 (pcs 362 7) (blk 362 7) (hts_ 362 7) = true := by decide +kernel
set_option maxRecDepth 100000 in
theorem cb_362_8 : chkB 362 (pcs 362 8) (blk 362 8) (hts_ 362 8) = true := by decide +kernel
set_option maxRecDepth 100000 in
theorem cb_362_9 : chkB 362 (pcs 362 9) (blk 362 9) (hts_ 362 9) = true := by decide +kernel
set_option maxRecDepth 100000 in
theorem cb_362_10 : chkB 362 (pcs 362 10) (blk 362 10) (hts_ 362 10) = true := by decide +kernel
set_option maxRecDepth 100000 in
theorem cb_362_11 : chkB 362 (pcs 362 11) (blk 362 11) (hts_ 362 11) = true := by decide +kernel
set_option maxRecDepth 100000 in
theorem okB_362 : OKB 362 := ⟨by decide +kernel, fun b hb => match b, hb with
  | 0, _ => cb_362_0
  | 1, _ => cb_362_1
  | 2, _ => cb_362_2
  | 3, _ => cb_362_3
  | 4, _ => cb_362_4
  | 5, _ => cb_362_5
  | 6, _ => cb_362_6
  | 7, _ => cb_362_7
  | 8, _ => cb_362_8
  | 9, _ => cb_362_9
  | 10, _ => cb_362_10
  | 11, _ => cb_362_11
  | q + 12, h => absurd (show q + 12 < 12 from h) (by omega)⟩
set_option maxRecDepth 100000 in
theorem okM_362 : OM 362 := ⟨rfl, by decide +kernel⟩
set_option maxRecDepth 100000 in
theorem cb_382_0 : chkB 382 (pcs 382 0) (blk 382 0) (hts_ 382 0) = true := by decide +kernel
set_option maxRecDepth 100000 in
theorem cb_382_1 : chkB 382 (pcs 382 1) (blk 382 1) (hts_ 382 1) = true := by decide +kernel
set_option maxRecDepth 100000 in
theorem cb_382_2 : chkB 382 (pcs 382 2) (blk 382 2) (hts_ 382 2) = true := by decide +kernel
set_option maxRecDepth 100000 in
theorem cb_382_3 : chkB 382 (pcs 382 3) (blk 382 3) (hts_ 382 3) = true := by decide +kernel
set_option maxRecDepth 100000 in
theorem cb_382_4 : chkB 382 (pcs 382 4) (blk 382 4) (hts_ 382 4) = true := by decide +kernel
set_option maxRecDepth 100000 in
theorem cb_382_5 : chkB 382 (pcs 382 5) (blk 382 5) (hts_ 382 5) = true := by decide +kernel
set_option maxRecDepth 100000 in
theorem cb_382_6 : chkB 382 (pcs 382 6) (blk 382 6) (hts_ 382 6) = true := by decide +kernel
set_option maxRecDepth 100000 in
theorem cb_382_7 : chkB 382 (pcs 382 7) (blk 382 7) (hts_ 382 7) = true := by decide +kernel
set_option maxRecDepth 100000 in
theorem cb_382_8 : chkB 382 (pcs 382 8) (blk 382 8) (hts_ 382 8) = true := by decide +kernel
set_option maxRecDepth 100000 in
theorem cb_382_9 : chkB 382 (pcs 382 9) (blk 382 9) (hts_ 382 9) = true := by decide +kernel
set_option maxRecDepth 100000 in
theorem cb_382_10 : chkB 382 (pcs 382 10) (blk 382 10) (hts_ 382 10) = true := by decide +kernel
set_option maxRecDepth 100000 in
theorem cb_382_11 : chkB 382 (pcs 382 11) (blk 382 11) (hts_ 382 11) = true := by decide +kernel
set_option maxRecDepth 100000 in
theorem cb_382_12 : chkB 382 (pcs 382 12) (blk 382 12) (hts_ 382 12) = true := by decide +kernel
set_option maxRecDepth 100000 in
theorem cb_382_13 : chkB 382 (pcs 382 13) (blk 382 13) (hts_ 382 13) = true := by decide +kernel
set_option maxRecDepth 100000 in
theorem cb_382_14 : chkB 382 (pcs 382 14) (blk 382 14) (hts_ 382 14) = true := by decide +kernel
set_option maxRecDepth 100000 in
theorem okB_382 : OKB 382 := ⟨by decide +kernel, fun b hb => match b, hb with
  | 0, _ => cb_382_0
  | 1, _ => cb_382_1
  | 2, _ => cb_382_2
  | 3, _ => cb_382_3
  | 4, _ => cb_382_4
  | 5, _ => cb_382_5
  | 6, _ => cb_382_6
  | 7, _ => cb_382_7
  | 8, _ => cb_382_8
  | 9, _ => cb_382_9
  | 10, _ => cb_382_10
  | 11, _ => cb_382_11
  | 12, _ => cb_382_12
  | 13, _ => cb_382_13
  | 14, _ => cb_382_14
  | q + 15, h => absurd (show q + 15 < 15 from h) (by omega)⟩
set_option maxRecDepth 100000 in
theorem okM_382 : OM 382 := ⟨rfl, by decide +kernel⟩
set_option maxRecDepth 100000 in
theorem cb_383_0 : chkB 383 (pcs 383 0) (blk 383 0) (hts_ 383 0) = true := by decide +kernel
set_option maxRecDepth 100000 in
theorem cb_383_1 : chkB 383 (pcs 383 1) (blk 383 1) (hts_ 383 1) = true := by decide +kernel
set_option maxRecDepth 100000 in
theorem cb_383_2 : chkB 383 (pcs 383 2) (blk 383 2) (hts_ 383 2) = true := by decide +kernel
set_option maxRecDepth 100000 in
theorem cb_383_3 : chkB 383 (pcs 383 3) (blk 383 3) (hts_ 383 3) = true := by decide +kernel
set_option maxRecDepth 100000 in
theorem cb_383_4 : chkB 383 (pcs 383 4) (blk 383 4) (hts_ 383 4) = true := by decide +kernel
set_option maxRecDepth 100000 in
theorem cb_383_5 : chkB 383 (pcs 383 5) (blk 383 5) (hts_ 383 5) = true := by decide +kernel
set_option maxRecDepth 100000 in
theorem cb_383_6 : chkB 383 (pcs 383 6) (blk 383 6) (hts_ 383 6) = true := by decide +kernel
set_option maxRecDepth 100000 in
theorem cb_383_7 : chkB 383 (pcs 383 7) (blk 383 7) (hts_ 383 7) = true := by decide +kernel
set_option maxRecDepth 100000 in
theorem cb_383_8 : chkB 383 (pcs 383 8) (blk 383 8) (hts_ 383 8) = true := by decide +kernel
set_option maxRecDepth 100000 in
theorem cb_383_9 : chkB 383 (pcs 383 9) (blk 383 9) (hts_ 383 9) = true := by decide +kernel
set_option maxRecDepth 100000 in
theorem cb_383_10 : chkB 383 (pcs 383 10) (blk 383 10) (hts_ 383 10) = true := by decide +kernel
set_option maxRecDepth 100000 in
theorem cb_383_11 : chkB 383 (pcs 383 11) (blk 383 11) (hts_ 383 11) = true := by decide +kernel
set_option maxRecDepth 100000 in
theorem cb_383_12 : chkB 383 (pcs 383 12) (blk 383 12) (hts_ 383 12) = true := by decide +kernel
set_option maxRecDepth 100000 in
theorem cb_383_13 : chkB 383 (pcs 383 13) (blk 383 13) (hts_ 383 13) = true := by decide +kernel
set_option maxRecDepth 100000 in
theorem cb_383_14 : chkB 383 (pcs 383 14) (blk 383 14) (hts_ 383 14) = true := by decide +kernel
set_option maxRecDepth 100000 in
theorem cb_383_15 : chkB 383 (pcs 383 15) (blk 383 15) (hts_ 383 15) = true := by decide +kernel
set_option maxRecDepth 100000 in
theorem cb_383_16 : chkB 383 (pcs 383 16) (blk 383 16) (hts_ 383 16) = true := by decide +kernel
set_option maxRecDepth 100000 in
theorem cb_383_17 : chkB 383 (pcs 383 17) (blk 383 17) (hts_ 383 17) = true := by decide +kernel
set_option maxRecDepth 100000 in
theorem cb_383_18 : chkB 383 (pcs 383 18) (blk 383 18) (hts_ 383 18) = true := by decide +kernel
set_option maxRecDepth 100000 in
theorem cb_383_19 : chkB 383 (pcs 383 19) (blk 383 19) (hts_ 383 19) = true := by decide +kernel
set_option maxRecDepth 100000 in
theorem cb_383_20 : chkB 383 (pcs 383 20) (blk 383 20) (hts_ 383 20) = true := by decide +kernel
set_option maxRecDepth 100000 in
theorem cb_383_21 : chkB 383 (pcs 383 21) (blk 383 21) (hts_ 383 21) = true := by decide +kernel
set_option maxRecDepth 100000 in
theorem okB_383 : OKB 383 := ⟨by decide +kernel, fun b hb => match b, hb with
  | 0, _ => cb_383_0
  | 1, _ => cb_383_1
  | 2, _ => cb_383_2
  | 3, _ => cb_383_3
  | 4, _ => cb_383_4
  | 5, _ => cb_383_5
  | 6, _ => cb_383_6
  | 7, _ => cb_383_7
  | 8, _ => cb_383_8
  | 9, _ => cb_383_9
  | 10, _ => cb_383_10
  | 11, _ => cb_383_11
  | 12, _ => cb_383_12
  | 13, _ => cb_383_13
  | 14, _ => cb_383_14
  | 15, _ => cb_383_15
  | 16, _ => cb_383_16
  | 17, _ => cb_383_17
  | 18, _ => cb_383_18
  | 19, _ => cb_383_19
  | 20, _ => cb_383_20
  | 21, _ => cb_383_21
  | q + 22, h => absurd (show q + 22 < 22 from h) (by omega)⟩
set_option maxRecDepth 100000 in
theorem okM_383 : OM 383 := ⟨rfl, by decide +kernel⟩
set_option maxRecDepth 100000 in
theorem cb_388_0 : chkB 388 (pcs 388 0) (blk 388 0) (hts_ 388 0) = true := by decide +kernel
set_option maxRecDepth 100000 in
theorem cp_388_1_0 : chkP 388 (pcs 388 1) (List.take 50 (blk 388 1)) (List.take 50 (hts_ 388 1)) = some 106 := by decide +kernel
set_option maxRecDepth 100000 in
theorem cp_388_1_e : chkB 388 106 (List.drop 50 (blk 388 1)) (List.drop 50 (hts_ 388 1)) = true := by decide +kernel
theorem cb_388_1 : chkB 388 (pcs 388 1) (blk 388 1) (hts_ 388 1) = true := chkB_cut 50 cp_388_1_0 (cp_388_1_e)
set_option maxRecDepth 100000 in
theorem cb_388_2 : chkB 388 (pcs 388 2) (blk 388 2) (hts_ 388 2) = true := by decide +kernel
set_option maxRecDepth 100000 in
theorem cb_388_3 : chkB 388 (pcs 388 3) (blk 388 3) (hts_ 388 3) = true := by decide +kernel
set_option maxRecDepth 100000 in
theorem cb_388_4 : chkB 388 (pcs 388 4) (blk 388 4) (hts_ 388 4) = true := by decide +kernel
set_option maxRecDepth 100000 in
theorem cb_388_5 : chkB 388 (pcs 388 5) (blk 388 5) (hts_ 388 5) = true := by decide +kernel
set_option maxRecDepth 100000 in
theorem cb_388_6 : chkB 388 (pcs 388 6) (blk 388 6) (hts_ 388 6) = true := by decide +kernel
set_option maxRecDepth 100000 in
theorem cb_388_7 : chkB 388 (pcs 388 7) (blk 388 7) (hts_ 388 7) = true := by decide +kernel
set_option maxRecDepth 100000 in
theorem cb_388_8 : chkB 388 (pcs 388 8) (blk 388 8) (hts_ 388 8) = true := by decide +kernel
set_option maxRecDepth 100000 in
theorem cb_388_9 : chkB 388 (pcs 388 9) (blk 388 9) (hts_ 388 9) = true := by decide +kernel
set_option maxRecDepth 100000 in
theorem cb_388_10 : chkB 388 (pcs 388 10) (blk 388 10) (hts_ 388 10) = true := by decide +kernel
set_option maxRecDepth 100000 in
theorem cb_388_11 : chkB 388 (pcs 388 11) (blk 388 11) (hts_ 388 11) = true := by decide +kernel
set_option maxRecDepth 100000 in
theorem cb_388_12 : chkB 388 (pcs 388 12) (blk 388 12) (hts_ 388 12) = true := by decide +kernel
set_option maxRecDepth 100000 in
theorem cb_388_13 : chkB 388 (pcs 388 13) (blk 388 13) (hts_ 388 13) = true := by decide +kernel
set_option maxRecDepth 100000 in
theorem cb_388_14 : chkB 388 (pcs 388 14) (blk 388 14) (hts_ 388 14) = true := by decide +kernel
set_option maxRecDepth 100000 in
theorem cb_388_15 : chkB 388 (pcs 388 15) (blk 388 15) (hts_ 388 15) = true := by decide +kernel
set_option maxRecDepth 100000 in
theorem cb_388_16 : chkB 388 (pcs 388 16) (blk 388 16) (hts_ 388 16) = true := by decide +kernel
set_option maxRecDepth 100000 in
theorem okB_388 : OKB 388 := ⟨by decide +kernel, fun b hb => match b, hb with
  | 0, _ => cb_388_0
  | 1, _ => cb_388_1
  | 2, _ => cb_388_2
  | 3, _ => cb_388_3
  | 4, _ => cb_388_4
  | 5, _ => cb_388_5
  | 6, _ => cb_388_6
  | 7, _ => cb_388_7
  | 8, _ => cb_388_8
  | 9, _ => cb_388_9
  | 10, _ => cb_388_10
  | 11, _ => cb_388_11
  | 12, _ => cb_388_12
  | 13, _ => cb_388_13
  | 14, _ => cb_388_14
  | 15, _ => cb_388_15
  | 16, _ => cb_388_16
  | q + 17, h => absurd (show q + 17 < 17 from h) (by omega)⟩
set_option maxRecDepth 100000 in
theorem okM_388 : OM 388 := ⟨rfl, by decide +kernel⟩
set_option maxRecDepth 100000 in
theorem cb_391_0 : chkB 391 (pcs 391 0) (blk 391 0) (hts_ 391 0) = true := by decide +kernel
set_option maxRecDepth 100000 in
theorem cb_391_1 : chkB 391 (pcs 391 1) (blk 391 1) (hts_ 391 1) = true := by decide +kernel
set_option maxRecDepth 100000 in
theorem cb_391_2 : chkB 391 (pcs 391 2) (blk 391 2) (hts_ 391 2) = true := by decide +kernel
set_option maxRecDepth 100000 in
theorem cb_391_3 : chkB 391 (pcs 391 3) (blk 391 3) (hts_ 391 3) = true := by decide +kernel
set_option maxRecDepth 100000 in
theorem cb_391_4 : chkB 391 (pcs 391 4) (blk 391 4) (hts_ 391 4) = true := by decide +kernel
set_option maxRecDepth 100000 in
theorem cb_391_5 : chkB 391 (pcs 391 5) (blk 391 5) (hts_ 391 5) = true := by decide +kernel
set_option maxRecDepth 100000 in
theorem cb_391_6 : chkB 391 (pcs 391 6) (blk 391 6) (hts_ 391 6) = true := by decide +kernel
set_option maxRecDepth 100000 in
theorem cb_391_7 : chkB 391 (pcs 391 7) (blk 391 7) (hts_ 391 7) = true := by decide +kernel
set_option maxRecDepth 100000 in
theorem cb_391_8 : chkB 391 (pcs 391 8) (blk 391 8) (hts_ 391 8) = true := by decide +kernel
set_option maxRecDepth 100000 in
theorem cb_391_9 : chkB 391 (pcs 391 9) (blk 391 9) (hts_ 391 9) = true := by decide +kernel
set_option maxRecDepth 100000 in
theorem cb_391_10 : chkB 391 (pcs 391 10) (blk 391 10) (hts_ 391 10) = true := by decide +kernel
set_option maxRecDepth 100000 in
theorem cb_391_11 : chkB 391 (pcs 391 11) (blk 391 11) (hts_ 391 11) = true := by decide +kernel
set_option maxRecDepth 100000 in
theorem cb_391_12 : chkB 391 (pcs 391 12) (blk 391 12) (hts_ 391 12) = true := by decide +kernel
set_option maxRecDepth 100000 in
theorem cb_391_13 : chkB 391 (pcs 391 13) (blk 391 13) (hts_ 391 13) = true := by decide +kernel
set_option maxRecDepth 100000 in
theorem cb_391_14 : chkB 391 (pcs 391 14) (blk 391 14) (hts_ 391 14) = true := by decide +kernel
set_option maxRecDepth 100000 in
theorem okB_391 : OKB 391 := ⟨by decide +kernel, fun b hb => match b, hb with
  | 0, _ => cb_391_0
  | 1, _ => cb_391_1
  | 2, _ => cb_391_2
  | 3, _ => cb_391_3
  | 4, _ => cb_391_4
  | 5, _ => cb_391_5
  | 6, _ => cb_391_6
  | 7, _ => cb_391_7
  | 8, _ => cb_391_8
  | 9, _ => cb_391_9
  | 10, _ => cb_391_10
  | 11, _ => cb_391_11
  | 12, _ => cb_391_12
  | 13, _ => cb_391_13
  | 14, _ => cb_391_14
  | q + 15, h => absurd (show q + 15 < 15 from h) (by omega)⟩
set_option maxRecDepth 100000 in
theorem okM_391 : OM 391 := ⟨rfl, by decide +kernel⟩
set_option maxRecDepth 100000 in
theorem cb_399_0 : chkB 399 (pcs 399 0) (blk 399 0) (hts_ 399 0) = true := by decide +kernel
set_option maxRecDepth 100000 in
theorem cb_399_1 : chkB 399 (pcs 399 1) (blk 399 1) (hts_ 399 1) = true := by decide +kernel
set_option maxRecDepth 100000 in
theorem cb_399_2 : chkB 399 (pcs 399 2) (blk 399 2) (hts_ 399 2) = true := by decide +kernel
set_option maxRecDepth 100000 in
theorem cb_399_3 : chkB 399 (pcs 399 3) (blk 399 3) (hts_ 399 3) = true := by decide +kernel
set_option maxRecDepth 100000 in
theorem cb_399_4 : chkB 399 (pcs 399 4) (blk 399 4) (hts_ 399 4) = true := by decide +kernel
set_option maxRecDepth 100000 in
theorem cb_399_5 : chkB 399 (pcs 399 5) (blk 399 5) (hts_ 399 5) = true := by decide +kernel
set_option maxRecDepth 100000 in
theorem cb_399_6 : chkB 399 (pcs 399 6) (blk 399 6) (hts_ 399 6) = true := by decide +kernel
set_option maxRecDepth 100000 in
theorem cb_399_7 : chkB 399 (pcs 399 7) (blk 399 7) (hts_ 399 7) = true := by decide +kernel
set_option maxRecDepth 100000 in
theorem cb_399_8 : chkB 399 (pcs 399 8) (blk 399 8) (hts_ 399 8) = true := by decide +kernel
set_option maxRecDepth 100000 in
theorem cb_399_9 : chkB 399 (pcs 399 9) (blk 399 9) (hts_ 399 9) = true := by decide +kernel
set_option maxRecDepth 100000 in
theorem cb_399_10 : chkB 399 (pcs 399 10) (blk 399 10) (hts_ 399 10) = true := by decide +kernel
set_option maxRecDepth 100000 in
theorem cb_399_11 : chkB 399 (pcs 399 11) (blk 399 11) (hts_ 399 11) = true := by decide +kernel
set_option maxRecDepth 100000 in
theorem cb_399_12 : chkB 399 (pcs 399 12) (blk 399 12) (hts_ 399 12) = true := by decide +kernel
set_option maxRecDepth 100000 in
theorem cb_399_13 : chkB 399 (pcs 399 13) (blk 399 13) (hts_ 399 13) = true := by decide +kernel
set_option maxRecDepth 100000 in
theorem cb_399_14 : chkB 399 (pcs 399 14) (blk 399 14) (hts_ 399 14) = true := by decide +kernel
set_option maxRecDepth 100000 in
theorem cb_399_15 : chkB 399 (pcs 399 15) (blk 399 15) (hts_ 399 15) = true := by decide +kernel
set_option maxRecDepth 100000 in
theorem okB_399 : OKB 399 := ⟨by decide +kernel, fun b hb => match b, hb with
  | 0, _ => cb_399_0
  | 1, _ => cb_399_1
  | 2, _ => cb_399_2
  | 3, _ => cb_399_3
  | 4, _ => cb_399_4
  | 5, _ => cb_399_5
  | 6, _ => cb_399_6
  | 7, _ => cb_399_7
  | 8, _ => cb_399_8
  | 9, _ => cb_399_9
  | 10, _ => cb_399_10
  | 11, _ => cb_399_11
  | 12, _ => cb_399_12
  | 13, _ => cb_399_13
  | 14, _ => cb_399_14
  | 15, _ => cb_399_15
  | q + 16, h => absurd (show q + 16 < 16 from h) (by omega)⟩
set_option maxRecDepth 100000 in
theorem okM_399 : OM 399 := ⟨rfl, by decide +kernel⟩
set_option maxRecDepth 100000 in
theorem cb_402_0 : chkB 402 (pcs 402 0) (blk 402 0) (hts_ 402 0) = true := by decide +kernel
set_option maxRecDepth 100000 in
theorem cb_402_1 : chkB 402 (pcs 402 1) (blk 402 1) (hts_ 402 1) = true := by decide +kernel
set_option maxRecDepth 100000 in
theorem cb_402_2 : chkB 402 (pcs 402 2) (blk 402 2) (hts_ 402 2) = true := by decide +kernel
set_option maxRecDepth 100000 in
theorem cb_402_3 : chkB 402 (pcs 402 3) (blk 402 3) (hts_ 402 3) = true := by decide +kernel
set_option maxRecDepth 100000 in
theorem cb_402_4 : chkB 402 (pcs 402 4) (blk 402 4) (hts_ 402 4) = true := by decide +kernel
set_option maxRecDepth 100000 in
theorem cb_402_5 : chkB 402 (pcs 402 5) (blk 402 5) (hts_ 402 5) = true := by decide +kernel
set_option maxRecDepth 100000 in
theorem cb_402_6 : chkB 402 (pcs 402 6) (blk 402 6) (hts_ 402 6) = true := by decide +kernel
set_option maxRecDepth 100000 in
theorem okB_402 : OKB 402 := ⟨by decide +kernel, fun b hb => match b, hb with
  | 0, _ => cb_402_0
  | 1, _ => cb_402_1
  | 2, _ => cb_402_2
  | 3, _ => cb_402_3
  | 4, _ => cb_402_4
  | 5, _ => cb_402_5
  | 6, _ => cb_402_6
  | q + 7, h => absurd (show q + 7 < 7 from h) (by omega)⟩
set_option maxRecDepth 100000 in
theorem okM_402 : OM 402 := ⟨rfl, by decide +kernel⟩
set_option maxRecDepth 100000 in
theorem cb_403_0 : chkB 403 (pcs 403 0) (blk 403 0) (hts_ 403 0) = true := by decide +kernel
set_option maxRecDepth 100000 in
theorem cb_403_1 : chkB 403 (pcs 403 1) (blk 403 1) (hts_ 403 1) = true := by decide +kernel
set_option maxRecDepth 100000 in
theorem cb_403_2 : chkB 403 (pcs 403 2) (blk 403 2) (hts_ 403 2) = true := by decide +kernel
set_option maxRecDepth 100000 in
theorem cb_403_3 : chkB 403 (pcs 403 3) (blk 403 3) (hts_ 403 3) = true := by decide +kernel
set_option maxRecDepth 100000 in
theorem cb_403_4 : chkB 403 (pcs 403 4) (blk 403 4) (hts_ 403 4) = true := by decide +kernel
set_option maxRecDepth 100000 in
theorem cb_403_5 : chkB 403 (pcs 403 5) (blk 403 5) (hts_ 403 5) = true := by decide +kernel
set_option maxRecDepth 100000 in
theorem cb_403_6 : chkB 403 (pcs 403 6) (blk 403 6) (hts_ 403 6) = true := by decide +kernel
set_option maxRecDepth 100000 in
theorem cb_403_7 : chkB 403 (pcs 403 7) (blk 403 7) (hts_ 403 7) = true := by decide +kernel
set_option maxRecDepth 100000 in
theorem cb_403_8 : chkB 403 (pcs 403 8) (blk 403 8) (hts_ 403 8) = true := by decide +kernel
set_option maxRecDepth 100000 in
theorem cb_403_9 : chkB 403 (pcs 403 9) (blk 403 9) (hts_ 403 9) = true := by decide +kernel
set_option maxRecDepth 100000 in
theorem cb_403_10 : chkB 403 (pcs 403 10) (blk 403 10) (hts_ 403 10) = true := by decide +kernel
set_option maxRecDepth 100000 in
theorem cb_403_11 : chkB 403 (pcs 403 11) (blk 403 11) (hts_ 403 11) = true := by decide +kernel
set_option maxRecDepth 100000 in
theorem cb_403_12 : chkB 403 (pcs 403 12) (blk 403 12) (hts_ 403 12) = true := by decide +kernel
set_option maxRecDepth 100000 in
theorem cb_403_13 : chkB 403 (pcs 403 13) (blk 403 13) (hts_ 403 13) = true := by decide +kernel
set_option maxRecDepth 100000 in
theorem cb_403_14 : chkB 403 (pcs 403 14) (blk 403 14) (hts_ 403 14) = true := by decide +kernel
set_option maxRecDepth 100000 in
theorem cb_403_15 : chkB 403 (pcs 403 15) (blk 403 15) (hts_ 403 15) = true := by decide +kernel
set_option maxRecDepth 100000 in
theorem cb_403_16 : chkB 403 (pcs 403 16) (blk 403 16) (hts_ 403 16) = true := by decide +kernel
set_option maxRecDepth 100000 in
theorem cb_403_17 : chkB 403 (pcs 403 17) (blk 403 17) (hts_ 403 17) = true := by decide +kernel
set_option maxRecDepth 100000 in
theorem cb_403_18 : chkB 403 (pcs 403 18) (blk 403 18) (hts_ 403 18) = true := by decide +kernel
set_option maxRecDepth 100000 in
theorem cb_403_19 : chkB 403 (pcs 403 19) (blk 403 19) (hts_ 403 19) = true := by decide +kernel
set_option maxRecDepth 100000 in
theorem cb_403_20 : chkB 403 (pcs 403 20) (blk 403 20) (hts_ 403 20) = true := by decide +kernel
set_option maxRecDepth 100000 in
theorem cb_403_21 : chkB 403 (pcs 403 21) (blk 403 21) (hts_ 403 21) = true := by decide +kernel
set_option maxRecDepth 100000 in
theorem cb_403_22 : chkB 403 (pcs 403 22) (blk 403 22) (hts_ 403 22) = true := by decide +kernel
set_option maxRecDepth 100000 in
theorem cb_403_23 : chkB 403 (pcs 403 23) (blk 403 23) (hts_ 403 23) = true := by decide +kernel
set_option maxRecDepth 100000 in
theorem cb_403_24 : chkB 403 (pcs 403 24) (blk 403 24) (hts_ 403 24) = true := by decide +kernel
set_option maxRecDepth 100000 in
theorem cb_403_25 : chkB 403 (pcs 403 25) (blk 403 25) (hts_ 403 25) = true := by decide +kernel
set_option maxRecDepth 100000 in
theorem cb_403_26 : chkB 403 (pcs 403 26) (blk 403 26) (hts_ 403 26) = true := by decide +kernel
set_option maxRecDepth 100000 in
theorem cb_403_27 : chkB 403 (pcs 403 27) (blk 403 27) (hts_ 403 27) = true := by decide +kernel
set_option maxRecDepth 100000 in
theorem cb_403_28 : chkB 403 (pcs 403 28) (blk 403 28) (hts_ 403 28) = true := by decide +kernel
set_option maxRecDepth 100000 in
theorem cb_403_29 : chkB 403 (pcs 403 29) (blk 403 29) (hts_ 403 29) = true := by decide +kernel
set_option maxRecDepth 100000 in
theorem cb_403_30 : chkB 403 (pcs 403 30) (blk 403 30) (hts_ 403 30) = true := by decide +kernel
set_option maxRecDepth 100000 in
theorem cb_403_31 : chkB 403 (pcs 403 31) (blk 403 31) (hts_ 403 31) = true := by decide +kernel
set_option maxRecDepth 100000 in
theorem cb_403_32 : chkB 403 (pcs 403 32) (blk 403 32) (hts_ 403 32) = true := by decide +kernel
set_option maxRecDepth 100000 in
theorem cb_403_33 : chkB 403 (pcs 403 33) (blk 403 33) (hts_ 403 33) = true := by decide +kernel
set_option maxRecDepth 100000 in
theorem cb_403_34 : chkB 403 (pcs 403 34) (blk 403 34) (hts_ 403 34) = true := by decide +kernel
set_option maxRecDepth 100000 in
theorem okB_403 : OKB 403 := ⟨by decide +kernel, fun b hb => match b, hb with
  | 0, _ => cb_403_0
  | 1, _ => cb_403_1
  | 2, _ => cb_403_2
  | 3, _ => cb_403_3
  | 4, _ => cb_403_4
  | 5, _ => cb_403_5
  | 6, _ => cb_403_6
  | 7, _ => cb_403_7
  | 8, _ => cb_403_8
  | 9, _ => cb_403_9
  | 10, _ => cb_403_10
  | 11, _ => cb_403_11
  | 12, _ => cb_403_12
  | 13, _ => cb_403_13
  | 14, _ => cb_403_14
  | 15, _ => cb_403_15
  | 16, _ => cb_403_16
  | 17, _ => cb_403_17
  | 18, _ => cb_403_18
  | 19, _ => cb_403_19
  | 20, _ => cb_403_20
  | 21, _ => cb_403_21
  | 22, _ => cb_403_22
  | 23, _ => cb_403_23
  | 24, _ => cb_403_24
  | 25, _ => cb_403_25
  | 26, _ => cb_403_26
  | 27, _ => cb_403_27
  | 28, _ => cb_403_28
  | 29, _ => cb_403_29
  | 30, _ => cb_403_30
  | 31, _ => cb_403_31
  | 32, _ => cb_403_32
  | 33, _ => cb_403_33
  | 34, _ => cb_403_34
  | q + 35, h => absurd (show q + 35 < 35 from h) (by omega)⟩
set_option maxRecDepth 100000 in
theorem okM_403 : OM 403 := ⟨rfl, by decide +kernel⟩
set_option maxRecDepth 100000 in
theorem cb_410_0 : chkB 410 (pcs 410 0) (blk 410 0) (hts_ 410 0) = true := by decide +kernel
set_option maxRecDepth 100000 in
theorem cb_410_1 : chkB 410 (pcs 410 1) (blk 410 1) (hts_ 410 1) = true := by decide +kernel
set_option maxRecDepth 100000 in
theorem cb_410_2 : chkB 410 (pcs 410 2) (blk 410 2) (hts_ 410 2) = true := by decide +kernel
set_option maxRecDepth 100000 in
theorem cb_410_3 : chkB 410 (pcs 410 3) (blk 410 3) (hts_ 410 3) = true := by decide +kernel
set_option maxRecDepth 100000 in
theorem cb_410_4 : chkB 410 (pcs 410 4) (blk 410 4) (hts_ 410 4) = true := by decide +kernel
set_option maxRecDepth 100000 in
theorem cb_410_5 : chkB 410 (pcs 410 5) (blk 410 5) (hts_ 410 5) = true := by decide +kernel
set_option maxRecDepth 100000 in
theorem cb_410_6 : chkB 410 (pcs 410 6) (blk 410 6) (hts_ 410 6) = true := by decide +kernel
set_option maxRecDepth 100000 in
theorem cb_410_7 : chkB 410 (pcs 410 7) (blk 410 7) (hts_ 410 7) = true := by decide +kernel
set_option maxRecDepth 100000 in
theorem cb_410_8 : chkB 410 (pcs 410 8) (blk 410 8) (hts_ 410 8) = true := by decide +kernel
set_option maxRecDepth 100000 in
theorem cb_410_9 : chkB 410 (pcs 410 9) (blk 410 9) (hts_ 410 9) = true := by decide +kernel
set_option maxRecDepth 100000 in
theorem cb_410_10 : chkB 410 (pcs 410 10) (blk 410 10) (hts_ 410 10) = true := by decide +kernel
set_option maxRecDepth 100000 in
theorem cb_410_11 : chkB 410 (pcs 410 11) (blk 410 11) (hts_ 410 11) = true := by decide +kernel
set_option maxRecDepth 100000 in
theorem cb_410_12 : chkB 410 (pcs 410 12) (blk 410 12) (hts_ 410 12) = true := by decide +kernel
set_option maxRecDepth 100000 in
theorem cb_410_13 : chkB 410 (pcs 410 13) (blk 410 13) (hts_ 410 13) = true := by decide +kernel
set_option maxRecDepth 100000 in
theorem cb_410_14 : chkB 410 (pcs 410 14) (blk 410 14) (hts_ 410 14) = true := by decide +kernel
set_option maxRecDepth 100000 in
theorem cb_410_15 : chkB 410 (pcs 410 15) (blk 410 15) (hts_ 410 15) = true := by decide +kernel
set_option maxRecDepth 100000 in
theorem cb_410_16 : chkB 410 (pcs 410 16) (blk 410 16) (hts_ 410 16) = true := by decide +kernel
set_option maxRecDepth 100000 in
theorem cb_410_17 : chkB 410 (pcs 410 17) (blk 410 17) (hts_ 410 17) = true := by decide +kernel
set_option maxRecDepth 100000 in
theorem cb_410_18 : chkB 410 (pcs 410 18) (blk 410 18) (hts_ 410 18) = true := by decide +kernel
set_option maxRecDepth 100000 in
theorem cb_410_19 : chkB 410 (pcs 410 19) (blk 410 19) (hts_ 410 19) = true := by decide +kernel
set_option maxRecDepth 100000 in
theorem cb_410_20 : chkB 410 (pcs 410 20) (blk 410 20) (hts_ 410 20) = true := by decide +kernel
set_option maxRecDepth 100000 in
theorem cb_410_21 : chkB 410 (pcs 410 21) (blk 410 21) (hts_ 410 21) = true := by decide +kernel
set_option maxRecDepth 100000 in
theorem cb_410_22 : chkB 410 (pcs 410 22) (blk 410 22) (hts_ 410 22) = true := by decide +kernel
set_option maxRecDepth 100000 in
theorem cb_410_23 : chkB 410 (pcs 410 23) (blk 410 23) (hts_ 410 23) = true := by decide +kernel
set_option maxRecDepth 100000 in
theorem cb_410_24 : chkB 410 (pcs 410 24) (blk 410 24) (hts_ 410 24) = true := by decide +kernel
set_option maxRecDepth 100000 in
theorem cb_410_25 : chkB 410 (pcs 410 25) (blk 410 25) (hts_ 410 25) = true := by decide +kernel
set_option maxRecDepth 100000 in
theorem cb_410_26 : chkB 410 (pcs 410 26) (blk 410 26) (hts_ 410 26) = true := by decide +kernel
set_option maxRecDepth 100000 in
theorem cb_410_27 : chkB 410 (pcs 410 27) (blk 410 27) (hts_ 410 27) = true := by decide +kernel
set_option maxRecDepth 100000 in
theorem cb_410_28 : chkB 410 (pcs 410 28) (blk 410 28) (hts_ 410 28) = true := by decide +kernel
set_option maxRecDepth 100000 in
theorem cb_410_29 : chkB 410 (pcs 410 29) (blk 410 29) (hts_ 410 29) = true := by decide +kernel
set_option maxRecDepth 100000 in
theorem okB_410 : OKB 410 := ⟨by decide +kernel, fun b hb => match b, hb with
  | 0, _ => cb_410_0
  | 1, _ => cb_410_1
  | 2, _ => cb_410_2
  | 3, _ => cb_410_3
  | 4, _ => cb_410_4
  | 5, _ => cb_410_5
  | 6, _ => cb_410_6
  | 7, _ => cb_410_7
  | 8, _ => cb_410_8
  | 9, _ => cb_410_9
  | 10, _ => cb_410_10
  | 11, _ => cb_410_11
  | 12, _ => cb_410_12
  | 13, _ => cb_410_13
  | 14, _ => cb_410_14
  | 15, _ => cb_410_15
  | 16, _ => cb_410_16
  | 17, _ => cb_410_17
  | 18, _ => cb_410_18
  | 19, _ => cb_410_19
  | 20, _ => cb_410_20
  | 21, _ => cb_410_21
  | 22, _ => cb_410_22
  | 23, _ => cb_410_23
  | 24, _ => cb_410_24
  | 25, _ => cb_410_25
  | 26, _ => cb_410_26
  | 27, _ => cb_410_27
  | 28, _ => cb_410_28
  | 29, _ => cb_410_29
  | q + 30, h => absurd (show q + 30 < 30 from h) (by omega)⟩
set_option maxRecDepth 100000 in
theorem okM_410 : OM 410 := ⟨rfl, by decide +kernel⟩
set_option maxRecDepth 100000 in
theorem cb_413_0 : chkB 413 (pcs 413 0) (blk 413 0) (hts_ 413 0) = true := by decide +kernel
set_option maxRecDepth 100000 in
theorem cb_413_1 : chkB 413 (pcs 413 1) (blk 413 1) (hts_ 413 1) = true := by decide +kernel
set_option maxRecDepth 100000 in
theorem cb_413_2 : chkB 413 (pcs 413 2) (blk 413 2) (hts_ 413 2) = true := by decide +kernel
set_option maxRecDepth 100000 in
theorem cb_413_3 : chkB 413 (pcs 413 3) (blk 413 3) (hts_ 413 3) = true := by decide +kernel
set_option maxRecDepth 100000 in
theorem cb_413_4 : chkB 413 (pcs 413 4) (blk 413 4) (hts_ 413 4) = true := by decide +kernel
set_option maxRecDepth 100000 in
theorem cb_413_5 : chkB 413 (pcs 413 5) (blk 413 5) (hts_ 413 5) = true := by decide +kernel
set_option maxRecDepth 100000 in
theorem cb_413_6 : chkB 413 (pcs 413 6) (blk 413 6) (hts_ 413 6) = true := by decide +kernel
set_option maxRecDepth 100000 in
theorem cb_413_7 : chkB 413 (pcs 413 7) (blk 413 7) (hts_ 413 7) = true := by decide +kernel
set_option maxRecDepth 100000 in
theorem cb_413_8 : chkB 413 (pcs 413 8) (blk 413 8) (hts_ 413 8) = true := by decide +kernel
set_option maxRecDepth 100000 in
theorem cb_413_9 : chkB 413 (pcs 413 9) (blk 413 9) (hts_ 413 9) = true := by decide +kernel
set_option maxRecDepth 100000 in
theorem cb_413_10 : chkB 413 (pcs 413 10) (blk 413 10) (hts_ 413 10) = true := by decide +kernel
set_option maxRecDepth 100000 in
theorem cb_413_11 : chkB 413 (pcs 413 11) (blk 413 11) (hts_ 413 11) = true := by decide +kernel
set_option maxRecDepth 100000 in
theorem cb_413_12 : chkB 413 (pcs 413 12) (blk 413 12) (hts_ 413 12) = true := by decide +kernel
set_option maxRecDepth 100000 in
theorem cb_413_13 : chkB 413 (pcs 413 13) (blk 413 13) (hts_ 413 13) = true := by decide +kernel
set_option maxRecDepth 100000 in
theorem okB_413 : OKB 413 := ⟨by decide +kernel, fun b hb => match b, hb with
  | 0, _ => cb_413_0
  | 1, _ => cb_413_1
  | 2, _ => cb_413_2
  | 3, _ => cb_413_3
  | 4, _ => cb_413_4
  | 5, _ => cb_413_5
  | 6, _ => cb_413_6
  | 7, _ => cb_413_7
  | 8, _ => cb_413_8
  | 9, _ => cb_413_9
  | 10, _ => cb_413_10
  | 11, _ => cb_413_11
  | 12, _ => cb_413_12
  | 13, _ => cb_413_13
  | q + 14, h => absurd (show q + 14 < 14 from h) (by omega)⟩
set_option maxRecDepth 100000 in
theorem okM_413 : OM 413 := ⟨rfl, by decide +kernel⟩
set_option maxRecDepth 100000 in
theorem cb_421_0 : chkB 421 (pcs 421 0) (blk 421 0) (hts_ 421 0) = true := by decide +kernel
set_option maxRecDepth 100000 in
theorem cb_421_1 : chkB 421 (pcs 421 1) (blk 421 1) (hts_ 421 1) = true := by decide +kernel
set_option maxRecDepth 100000 in
theorem cb_421_2 : chkB 421 (pcs 421 2) (blk 421 2) (hts_ 421 2) = true := by decide +kernel
set_option maxRecDepth 100000 in
theorem cb_421_3 : chkB 421 (pcs 421 3) (blk 421 3) (hts_ 421 3) = true := by decide +kernel
set_option maxRecDepth 100000 in
theorem cb_421_4 : chkB 421 (pcs 421 4) (blk 421 4) (hts_ 421 4) = true := by decide +kernel
set_option maxRecDepth 100000 in
theorem cb_421_5 : chkB 421 (pcs 421 5) (blk 421 5) (hts_ 421 5) = true := by decide +kernel
set_option maxRecDepth 100000 in
theorem cb_421_6 : chkB 421 (pcs 421 6) (blk 421 6) (hts_ 421 6) = true := by decide +kernel
set_option maxRecDepth 100000 in
theorem cb_421_7 : chkB 421 (pcs 421 7) (blk 421 7) (hts_ 421 7) = true := by decide +kernel
set_option maxRecDepth 100000 in
theorem cb_421_8 : chkB 421 (pcs 421 8) (blk 421 8) (hts_ 421 8) = true := by decide +kernel
set_option maxRecDepth 100000 in
theorem cb_421_9 : chkB 421 (pcs 421 9) (blk 421 9) (hts_ 421 9) = true := by decide +kernel
set_option maxRecDepth 100000 in
theorem cb_421_10 : chkB 421 (pcs 421 10) (blk 421 10) (hts_ 421 10) = true := by decide +kernel
set_option maxRecDepth 100000 in
theorem cb_421_11 : chkB 421 (pcs 421 11) (blk 421 11) (hts_ 421 11) = true := by decide +kernel
set_option maxRecDepth 100000 in
theorem cb_421_12 : chkB 421 (pcs 421 12) (blk 421 12) (hts_ 421 12) = true := by decide +kernel
set_option maxRecDepth 100000 in
theorem cb_421_13 : chkB 421 (pcs 421 13) (blk 421 13) (hts_ 421 13) = true := by decide +kernel
set_option maxRecDepth 100000 in
theorem cp_421_14_0 : chkP 421 (pcs 421 14) (List.take 50 (blk 421 14)) (List.take 50 (hts_ 421 14)) = some 337 := by decide +kernel
set_option maxRecDepth 100000 in
theorem cp_421_14_e : chkB 421 337 (List.drop 50 (blk 421 14)) (List.drop 50 (hts_ 421 14)) = true := by decide +kernel
theorem cb_421_14 : chkB 421 (pcs 421 14) (blk 421 14) (hts_ 421 14) = true := chkB_cut 50 cp_421_14_0 (cp_421_14_e)
set_option maxRecDepth 100000 in
theorem cb_421_15 : chkB 421 (pcs 421 15) (blk 421 15) (hts_ 421 15) = true := by decide +kernel
set_option maxRecDepth 100000 in
theorem cb_421_16 : chkB 421 (pcs 421 16) (blk 421 16) (hts_ 421 16) = true := by decide +kernel
set_option maxRecDepth 100000 in
theorem cb_421_17 : chkB 421 (pcs 421 17) (blk 421 17) (hts_ 421 17) = true := by decide +kernel
set_option maxRecDepth 100000 in
theorem cb_421_18 : chkB 421 (pcs 421 18) (blk 421 18) (hts_ 421 18) = true := by decide +kernel
set_option maxRecDepth 100000 in
theorem cb_421_19 : chkB 421 (pcs 421 19) (blk 421 19) (hts_ 421 19) = true := by decide +kernel
set_option maxRecDepth 100000 in
theorem cb_421_20 : chkB 421 (pcs 421 20) (blk 421 20) (hts_ 421 20) = true := by decide +kernel
set_option maxRecDepth 100000 in
theorem cb_421_21 : chkB 421 (pcs 421 21) (blk 421 21) (hts_ 421 21) = true := by decide +kernel
set_option maxRecDepth 100000 in
theorem cb_421_22 : chkB 421 (pcs 421 22) (blk 421 22) (hts_ 421 22) = true := by decide +kernel
set_option maxRecDepth 100000 in
theorem okB_421 : OKB 421 := ⟨by decide +kernel, fun b hb => match b, hb with
  | 0, _ => cb_421_0
  | 1, _ => cb_421_1
  | 2, _ => cb_421_2
  | 3, _ => cb_421_3
  | 4, _ => cb_421_4
  | 5, _ => cb_421_5
  | 6, _ => cb_421_6
  | 7, _ => cb_421_7
  | 8, _ => cb_421_8
  | 9, _ => cb_421_9
  | 10, _ => cb_421_10
  | 11, _ => cb_421_11
  | 12, _ => cb_421_12
  | 13, _ => cb_421_13
  | 14, _ => cb_421_14
  | 15, _ => cb_421_15
  | 16, _ => cb_421_16
  | 17, _ => cb_421_17
  | 18, _ => cb_421_18
  | 19, _ => cb_421_19
  | 20, _ => cb_421_20
  | 21, _ => cb_421_21
  | 22, _ => cb_421_22
  | q + 23, h => absurd (show q + 23 < 23 from h) (by omega)⟩
set_option maxRecDepth 100000 in
theorem okM_421 : OM 421 := ⟨rfl, by decide +kernel⟩
set_option maxRecDepth 100000 in
theorem cb_435_0 : chkB 435 (pcs 435 0) (blk 435 0) (hts_ 435 0) = true := by decide +kernel
set_option maxRecDepth 100000 in
theorem cb_435_1 : chkB 435 (pcs 435 1) (blk 435 1) (hts_ 435 1) = true := by decide +kernel
set_option maxRecDepth 100000 in
theorem cb_435_2 : chkB 435 (pcs 435 2) (blk 435 2) (hts_ 435 2) = true := by decide +kernel
set_option maxRecDepth 100000 in
theorem cb_435_3 : chkB 435 (pcs 435 3) (blk 435 3) (hts_ 435 3) = true := by decide +kernel
set_option maxRecDepth 100000 in
theorem cb_435_4 : chkB 435 (pcs 435 4) (blk 435 4) (hts_ 435 4) = true := by decide +kernel
set_option maxRecDepth 100000 in
theorem cb_435_5 : chkB 435 (pcs 435 5) (blk 435 5) (hts_ 435 5) = true := by decide +kernel
set_option maxRecDepth 100000 in
theorem cb_435_6 : chkB 435 (pcs 435 6) (blk 435 6) (hts_ 435 6) = true := by decide +kernel
set_option maxRecDepth 100000 in
theorem cb_435_7 : chkB 435 (pcs 435 7) (blk 435 7) (hts_ 435 7) = true := by decide +kernel
set_option maxRecDepth 100000 in
theorem cb_435_8 : chkB 435 (pcs 435 8) (blk 435 8) (hts_ 435 8) = true := by decide +kernel
set_option maxRecDepth 100000 in
theorem cb_435_9 : chkB 435 (pcs 435 9) (blk 435 9) (hts_ 435 9) = true := by decide +kernel
set_option maxRecDepth 100000 in
theorem cb_435_10 : chkB 435 (pcs 435 10) (blk 435 10) (hts_ 435 10) = true := by decide +kernel
set_option maxRecDepth 100000 in
theorem cb_435_11 : chkB 435 (pcs 435 11) (blk 435 11) (hts_ 435 11) = true := by decide +kernel
set_option maxRecDepth 100000 in
theorem cb_435_12 : chkB 435 (pcs 435 12) (blk 435 12) (hts_ 435 12) = true := by decide +kernel
set_option maxRecDepth 100000 in
theorem cb_435_13 : chkB 435 (pcs 435 13) (blk 435 13) (hts_ 435 13) = true := by decide +kernel
set_option maxRecDepth 100000 in
theorem cb_435_14 : chkB 435 (pcs 435 14) (blk 435 14) (hts_ 435 14) = true := by decide +kernel
set_option maxRecDepth 100000 in
theorem cb_435_15 : chkB 435 (pcs 435 15) (blk 435 15) (hts_ 435 15) = true := by decide +kernel
set_option maxRecDepth 100000 in
theorem cb_435_16 : chkB 435 (pcs 435 16) (blk 435 16) (hts_ 435 16) = true := by decide +kernel
set_option maxRecDepth 100000 in
theorem cb_435_17 : chkB 435 (pcs 435 17) (blk 435 17) (hts_ 435 17) = true := by decide +kernel
set_option maxRecDepth 100000 in
theorem cb_435_18 : chkB 435 (pcs 435 18) (blk 435 18) (hts_ 435 18) = true := by decide +kernel
set_option maxRecDepth 100000 in
theorem cb_435_19 : chkB 435 (pcs 435 19) (blk 435 19) (hts_ 435 19) = true := by decide +kernel
set_option maxRecDepth 100000 in
theorem cb_435_20 : chkB 435 (pcs 435 20) (blk 435 20) (hts_ 435 20) = true := by decide +kernel
set_option maxRecDepth 100000 in
theorem cb_435_21 : chkB 435 (pcs 435 21) (blk 435 21) (hts_ 435 21) = true := by decide +kernel
set_option maxRecDepth 100000 in
theorem cb_435_22 : chkB 435 (pcs 435 22) (blk 435 22) (hts_ 435 22) = true := by decide +kernel
set_option maxRecDepth 100000 in
theorem cb_435_23 : chkB 435 (pcs 435 23) (blk 435 23) (hts_ 435 23) = true := by decide +kernel
set_option maxRecDepth 100000 in
theorem cb_435_24 : chkB 435 (pcs 435 24) (blk 435 24) (hts_ 435 24) = true := by decide +kernel
set_option maxRecDepth 100000 in
theorem cb_435_25 : chkB 435 (pcs 435 25) (blk 435 25) (hts_ 435 25) = true := by decide +kernel
set_option maxRecDepth 100000 in
theorem cb_435_26 : chkB 435 (pcs 435 26) (blk 435 26) (hts_ 435 26) = true := by decide +kernel
set_option maxRecDepth 100000 in
theorem cb_435_27 : chkB 435 (pcs 435 27) (blk 435 27) (hts_ 435 27) = true := by decide +kernel
set_option maxRecDepth 100000 in
theorem cb_435_28 : chkB 435 (pcs 435 28) (blk 435 28) (hts_ 435 28) = true := by decide +kernel
set_option maxRecDepth 100000 in
theorem cb_435_29 : chkB 435 (pcs 435 29) (blk 435 29) (hts_ 435 29) = true := by decide +kernel
set_option maxRecDepth 100000 in
theorem cb_435_30 : chkB 435 (pcs 435 30) (blk 435 30) (hts_ 435 30) = true := by decide +kernel
set_option maxRecDepth 100000 in
theorem cb_435_31 : chkB 435 (pcs 435 31) (blk 435 31) (hts_ 435 31) = true := by decide +kernel
set_option maxRecDepth 100000 in
theorem cb_435_32 : chkB 435 (pcs 435 32) (blk 435 32) (hts_ 435 32) = true := by decide +kernel
set_option maxRecDepth 100000 in
theorem cb_435_33 : chkB 435 (pcs 435 33) (blk 435 33) (hts_ 435 33) = true := by decide +kernel
set_option maxRecDepth 100000 in
theorem cb_435_34 : chkB 435 (pcs 435 34) (blk 435 34) (hts_ 435 34) = true := by decide +kernel
set_option maxRecDepth 100000 in
theorem cb_435_35 : chkB 435 (pcs 435 35) (blk 435 35) (hts_ 435 35) = true := by decide +kernel
set_option maxRecDepth 100000 in
theorem okB_435 : OKB 435 := ⟨by decide +kernel, fun b hb => match b, hb with
  | 0, _ => cb_435_0
  | 1, _ => cb_435_1
  | 2, _ => cb_435_2
  | 3, _ => cb_435_3
  | 4, _ => cb_435_4
  | 5, _ => cb_435_5
  | 6, _ => cb_435_6
  | 7, _ => cb_435_7
  | 8, _ => cb_435_8
  | 9, _ => cb_435_9
  | 10, _ => cb_435_10
  | 11, _ => cb_435_11
  | 12, _ => cb_435_12
  | 13, _ => cb_435_13
  | 14, _ => cb_435_14
  | 15, _ => cb_435_15
  | 16, _ => cb_435_16
  | 17, _ => cb_435_17
  | 18, _ => cb_435_18
  | 19, _ => cb_435_19
  | 20, _ => cb_435_20
  | 21, _ => cb_435_21
  | 22, _ => cb_435_22
  | 23, _ => cb_435_23
  | 24, _ => cb_435_24
  | 25, _ => cb_435_25
  | 26, _ => cb_435_26
  | 27, _ => cb_435_27
  | 28, _ => cb_435_28
  | 29, _ => cb_435_29
  | 30, _ => cb_435_30
  | 31, _ => cb_435_31
  | 32, _ => cb_435_32
  | 33, _ => cb_435_33
  | 34, _ => cb_435_34
  | 35, _ => cb_435_35
  | q + 36, h => absurd (show q + 36 < 36 from h) (by omega)⟩
set_option maxRecDepth 100000 in
theorem okM_435 : OM 435 := ⟨rfl, by decide +kernel⟩
set_option maxRecDepth 100000 in
theorem cb_440_0 : chkB 440 (pcs 440 0) (blk 440 0) (hts_ 440 0) = true := by decide +kernel
set_option maxRecDepth 100000 in
theorem cb_440_1 : chkB 440 (pcs 440 1) (blk 440 1) (hts_ 440 1) = true := by decide +kernel
set_option maxRecDepth 100000 in
theorem cb_440_2 : chkB 440 (pcs 440 2) (blk 440 2) (hts_ 440 2) = true := by decide +kernel
set_option maxRecDepth 100000 in
theorem cb_440_3 : chkB 440 (pcs 440 3) (blk 440 3) (hts_ 440 3) = true := by decide +kernel
set_option maxRecDepth 100000 in
theorem cb_440_4 : chkB 440 (pcs 440 4) (blk 440 4) (hts_ 440 4) = true := by decide +kernel
set_option maxRecDepth 100000 in
theorem cb_440_5 : chkB 440 (pcs 440 5) (blk 440 5) (hts_ 440 5) = true := by decide +kernel
set_option maxRecDepth 100000 in
theorem cb_440_6 : chkB 440 (pcs 440 6) (blk 440 6) (hts_ 440 6) = true := by decide +kernel
set_option maxRecDepth 100000 in
theorem cb_440_7 : chkB 440 (pcs 440 7) (blk 440 7) (hts_ 440 7) = true := by decide +kernel
set_option maxRecDepth 100000 in
theorem cb_440_8 : chkB 440 (pcs 440 8) (blk 440 8) (hts_ 440 8) = true := by decide +kernel
set_option maxRecDepth 100000 in
theorem cb_440_9 : chkB 440 (pcs 440 9) (blk 440 9) (hts_ 440 9) = true := by decide +kernel
set_option maxRecDepth 100000 in
theorem cb_440_10 : chkB 440 (pcs 440 10) (blk 440 10) (hts_ 440 10) = true := by decide +kernel
set_option maxRecDepth 100000 in
theorem cb_440_11 : chkB 440 (pcs 440 11) (blk 440 11) (hts_ 440 11) = true := by decide +kernel
set_option maxRecDepth 100000 in
theorem cb_440_12 : chkB 440 (pcs 440 12) (blk 440 12) (hts_ 440 12) = true := by decide +kernel
set_option maxRecDepth 100000 in
theorem cb_440_13 : chkB 440 (pcs 440 13) (blk 440 13) (hts_ 440 13) = true := by decide +kernel
set_option maxRecDepth 100000 in
theorem cb_440_14 : chkB 440 (pcs 440 14) (blk 440 14) (hts_ 440 14) = true := by decide +kernel
set_option maxRecDepth 100000 in
theorem cb_440_15 : chkB 440 (pcs 440 15) (blk 440 15) (hts_ 440 15) = true := by decide +kernel
set_option maxRecDepth 100000 in
theorem cb_440_16 : chkB 440 (pcs 440 16) (blk 440 16) (hts_ 440 16) = true := by decide +kernel
set_option maxRecDepth 100000 in
theorem cb_440_17 : chkB 440 (pcs 440 17) (blk 440 17) (hts_ 440 17) = true := by decide +kernel
set_option maxRecDepth 100000 in
theorem cp_440_18_0 : chkP 440 (pcs 440 18) (List.take 50 (blk 440 18)) (List.take 50 (hts_ 440 18)) = some 415 := by decide +kernel
set_option maxRecDepth 100000 in
theorem cp_440_18_e : chkB 440 415 (List.drop 50 (blk 440 18)) (List.drop 50 (hts_ 440 18)) = true := by decide +kernel
theorem cb_440_18 : chkB 440 (pcs 440 18) (blk 440 18) (hts_ 440 18) = true := chkB_cut 50 cp_440_18_0 (cp_440_18_e)
set_option maxRecDepth 100000 in
theorem cb_440_19 : chkB 440 (pcs 440 19) (blk 440 19) (hts_ 440 19) = true := by decide +kernel
set_option maxRecDepth 100000 in
theorem cb_440_20 : chkB 440 (pcs 440 20) (blk 440 20) (hts_ 440 20) = true := by decide +kernel
set_option maxRecDepth 100000 in
theorem cb_440_21 : chkB 440 (pcs 440 21) (blk 440 21) (hts_ 440 21) = true := by decide +kernel
set_option maxRecDepth 100000 in
theorem okB_440 : OKB 440 := ⟨by decide +kernel, fun b hb => match b, hb with
  | 0, _ => cb_440_0
  | 1, _ => cb_440_1
  | 2, _ => cb_440_2
  | 3, _ => cb_440_3
  | 4, _ => cb_440_4
  | 5, _ => cb_440_5
  | 6, _ => cb_440_6
  | 7, _ => cb_440_7
  | 8, _ => cb_440_8
  | 9, _ => cb_440_9
  | 10, _ => cb_440_10
  | 11, _ => cb_440_11
  | 12, _ => cb_440_12
  | 13, _ => cb_440_13
  | 14, _ => cb_440_14
  | 15, _ => cb_440_15
  | 16, _ => cb_440_16
  | 17, _ => cb_440_17
  | 18, _ => cb_440_18
  | 19, _ => cb_440_19
  | 20, _ => cb_440_20
  | 21, _ => cb_440_21
  | q + 22, h => absurd (show q + 22 < 22 from h) (by omega)⟩
set_option maxRecDepth 100000 in
theorem okM_440 : OM 440 := ⟨rfl, by decide +kernel⟩
theorem OKall (k : Nat) (h : k < 445) : OKB k := by
  match k, h with
  | 0, _ => exact okB_0
  | 1, _ => exact okB_1
  | 2, _ => exact okB_2
  | 3, _ => exact okB_3
  | 4, _ => exact okB_4
  | 5, _ => exact okB_5
  | 6, _ => exact okB_6
  | 7, _ => exact okB_7
  | 8, _ => exact okB_8
  | 9, _ => exact okB_9
  | 10, _ => exact okB_10
  | 11, _ => exact okB_11
  | 12, _ => exact okB_12
  | 13, _ => exact okB_13
  | 14, _ => exact okB_14
  | 15, _ => exact okB_15
  | 16, _ => exact okB_16
  | 17, _ => exact okB_17
  | 18, _ => exact okB_18
  | 19, _ => exact okB_19
  | 20, _ => exact okB_20
  | 21, _ => exact okB_21
  | 22, _ => exact okB_22
  | 23, _ => exact okB_23
  | 24, _ => exact okB_24
  | 25, _ => exact okB_25
  | 26, _ => exact okB_26
  | 27, _ => exact okB_27
  | 28, _ => exact okB_28
  | 29, _ => exact okB_29
  | 30, _ => exact okB_30
  | 31, _ => exact okB_31
  | 32, _ => exact okB_32
  | 33, _ => exact okB_33
  | 34, _ => exact okB_34
  | 35, _ => exact okB_35
  | 36, _ => exact okB_36
  | 37, _ => exact okB_37
  | 38, _ => exact okB_38
  | 39, _ => exact okB_39
  | 40, _ => exact okB_40
  | 41, _ => exact okB_41
  | 42, _ => exact okB_42
  | 43, _ => exact okB_43
  | 44, _ => exact okB_44
  | 45, _ => exact okB_45
  | 46, _ => exact okB_46
  | 47, _ => exact okB_47
  | 48, _ => exact okB_48
  | 49, _ => exact okB_49
  | 50, _ => exact okB_50
  | 51, _ => exact okB_51
  | 52, _ => exact okB_52
  | 53, _ => exact okB_53
  | 54, _ => exact okB_54
  | 55, _ => exact okB_55
  | 56, _ => exact okB_56
  | 57, _ => exact okB_57
  | 58, _ => exact okB_58
  | 59, _ => exact okB_59
  | 60, _ => exact okB_60
  | 61, _ => exact okB_61
  | 62, _ => exact okB_62
  | 63, _ => exact okB_63
  | 64, _ => exact okB_64
  | 65, _ => exact okB_65
  | 66, _ => exact okB_66
  | 67, _ => exact okB_67
  | 68, _ => exact okB_68
  | 69, _ => exact okB_69
  | 70, _ => exact okB_70
  | 71, _ => exact okB_71
  | 72, _ => exact okB_72
  | 73, _ => exact okB_73
  | 74, _ => exact okB_74
  | 75, _ => exact okB_75
  | 76, _ => exact okB_76
  | 77, _ => exact okB_77
  | 78, _ => exact okB_78
  | 79, _ => exact okB_79
  | 80, _ => exact okB_80
  | 81, _ => exact okB_81
  | 82, _ => exact okB_82
  | 83, _ => exact okB_83
  | 84, _ => exact okB_84
  | 85, _ => exact okB_85
  | 86, _ => exact okB_86
  | 87, _ => exact okB_87
  | 88, _ => exact okB_88
  | 89, _ => exact okB_89
  | 90, _ => exact okB_90
  | 91, _ => exact okB_91
  | 92, _ => exact okB_92
  | 93, _ => exact okB_93
  | 94, _ => exact okB_94
  | 95, _ => exact okB_95
  | 96, _ => exact okB_96
  | 97, _ => exact okB_97
  | 98, _ => exact okB_98
  | 99, _ => exact okB_99
  | 100, _ => exact okB_100
  | 101, _ => exact okB_101
  | 102, _ => exact okB_102
  | 103, _ => exact okB_103
  | 104, _ => exact okB_104
  | 105, _ => exact okB_105
  | 106, _ => exact okB_106
  | 107, _ => exact okB_107
  | 108, _ => exact okB_108
  | 109, _ => exact okB_109
  | 110, _ => exact okB_110
  | 111, _ => exact okB_111
  | 112, _ => exact okB_112
  | 113, _ => exact okB_113
  | 114, _ => exact okB_114
  | 115, _ => exact okB_115
  | 116, _ => exact okB_116
  | 117, _ => exact okB_117
  | 118, _ => exact okB_118
  | 119, _ => exact okB_119
  | 120, _ => exact okB_120
  | 121, _ => exact okB_121
  | 122, _ => exact okB_122
  | 123, _ => exact okB_123
  | 124, _ => exact okB_124
  | 125, _ => exact okB_125
  | 126, _ => exact okB_126
  | 127, _ => exact okB_127
  | 128, _ => exact okB_128
  | 129, _ => exact okB_129
  | 130, _ => exact okB_130
  | 131, _ => exact okB_131
  | 132, _ => exact okB_132
  | 133, _ => exact okB_133
  | 134, _ => exact okB_134
  | 135, _ => exact okB_135
  | 136, _ => exact okB_136
  | 137, _ => exact okB_137
  | 138, _ => exact okB_138
  | 139, _ => exact okB_139
  | 140, _ => exact okB_140
  | 141, _ => exact okB_141
  | 142, _ => exact okB_142
  | 143, _ => exact okB_143
  | 144, _ => exact okB_144
  | 145, _ => exact okB_145
  | 146, _ => exact okB_146
  | 147, _ => exact okB_147
  | 148, _ => exact okB_148
  | 149, _ => exact okB_149
  | 150, _ => exact okB_150
  | 151, _ => exact okB_151
  | 152, _ => exact okB_152
  | 153, _ => exact okB_153
  | 154, _ => exact okB_154
  | 155, _ => exact okB_155
  | 156, _ => exact okB_156
  | 157, _ => exact okB_157
  | 158, _ => exact okB_158
  | 159, _ => exact okB_159
  | 160, _ => exact okB_160
  | 161, _ => exact okB_161
  | 162, _ => exact okB_162
  | 163, _ => exact okB_163
  | 164, _ => exact okB_164
  | 165, _ => exact okB_165
  | 166, _ => exact okB_166
  | 167, _ => exact okB_167
  | 168, _ => exact okB_168
  | 169, _ => exact okB_169
  | 170, _ => exact okB_170
  | 171, _ => exact okB_171
  | 172, _ => exact okB_172
  | 173, _ => exact okB_173
  | 174, _ => exact okB_174
  | 175, _ => exact okB_175
  | 176, _ => exact okB_176
  | 177, _ => exact okB_177
  | 178, _ => exact okB_178
  | 179, _ => exact okB_179
  | 180, _ => exact okB_180
  | 181, _ => exact okB_181
  | 182, _ => exact okB_182
  | 183, _ => exact okB_183
  | 184, _ => exact okB_184
  | 185, _ => exact okB_185
  | 186, _ => exact okB_186
  | 187, _ => exact okB_187
  | 188, _ => exact okB_188
  | 189, _ => exact okB_189
  | 190, _ => exact okB_190
  | 191, _ => exact okB_191
  | 192, _ => exact okB_192
  | 193, _ => exact okB_193
  | 194, _ => exact okB_194
  | 195, _ => exact okB_195
  | 196, _ => exact okB_196
  | 197, _ => exact okB_197
  | 198, _ => exact okB_198
  | 199, _ => exact okB_199
  | 200, _ => exact okB_200
  | 201, _ => exact okB_201
  | 202, _ => exact okB_202
  | 203, _ => exact okB_203
  | 204, _ => exact okB_204
  | 205, _ => exact okB_205
  | 206, _ => exact okB_206
  | 207, _ => exact okB_207
  | 208, _ => exact okB_208
  | 209, _ => exact okB_209
  | 210, _ => exact okB_210
  | 211, _ => exact okB_211
  | 212, _ => exact okB_212
  | 213, _ => exact okB_213
  | 214, _ => exact okB_214
  | 215, _ => exact okB_215
  | 216, _ => exact okB_216
  | 217, _ => exact okB_217
  | 218, _ => exact okB_218
  | 219, _ => exact okB_219
  | 220, _ => exact okB_220
  | 221, _ => exact okB_221
  | 222, _ => exact okB_222
  | 223, _ => exact okB_223
  | 224, _ => exact okB_224
  | 225, _ => exact okB_225
  | 226, _ => exact okB_226
  | 227, _ => exact okB_227
  | 228, _ => exact okB_228
  | 229, _ => exact okB_229
  | 230, _ => exact okB_230
  | 231, _ => exact okB_231
  | 232, _ => exact okB_232
  | 233, _ => exact okB_233
  | 234, _ => exact okB_234
  | 235, _ => exact okB_235
  | 236, _ => exact okB_236
  | 237, _ => exact okB_237
  | 238, _ => exact okB_238
  | 239, _ => exact okB_239
  | 240, _ => exact okB_240
  | 241, _ => exact okB_241
  | 242, _ => exact okB_242
  | 243, _ => exact okB_243
  | 244, _ => exact okB_244
  | 245, _ => exact okB_245
  | 246, _ => exact okB_246
  | 247, _ => exact okB_247
  | 248, _ => exact okB_248
  | 249, _ => exact okB_249
  | 250, _ => exact okB_250
  | 251, _ => exact okB_251
  | 252, _ => exact okB_252
  | 253, _ => exact okB_253
  | 254, _ => exact okB_254
  | 255, _ => exact okB_255
  | 256, _ => exact okB_256
  | 257, _ => exact okB_257
  | 258, _ => exact okB_258
  | 259, _ => exact okB_259
  | 260, _ => exact okB_260
  | 261, _ => exact okB_261
  | 262, _ => exact okB_262
  | 263, _ => exact okB_263
  | 264, _ => exact okB_264
  | 265, _ => exact okB_265
  | 266, _ => exact okB_266
  | 267, _ => exact okB_267
  | 268, _ => exact okB_268
  | 269, _ => exact okB_269
  | 270, _ => exact okB_270
  | 271, _ => exact okB_271
  | 272, _ => exact okB_272
  | 273, _ => exact okB_273
  | 274, _ => exact okB_274
  | 275, _ => exact okB_275
  | 276, _ => exact okB_276
  | 277, _ => exact okB_277
  | 278, _ => exact okB_278
  | 279, _ => exact okB_279
  | 280, _ => exact okB_280
  | 281, _ => exact okB_281
  | 282, _ => exact okB_282
  | 283, _ => exact okB_283
  | 284, _ => exact okB_284
  | 285, _ => exact okB_285
  | 286, _ => exact okB_286
  | 287, _ => exact okB_287
  | 288, _ => exact okB_288
  | 289, _ => exact okB_289
  | 290, _ => exact okB_290
  | 291, _ => exact okB_291
  | 292, _ => exact okB_292
  | 293, _ => exact okB_293
  | 294, _ => exact okB_294
  | 295, _ => exact okB_295
  | 296, _ => exact okB_296
  | 297, _ => exact okB_297
  | 298, _ => exact okB_298
  | 299, _ => exact okB_299
  | 300, _ => exact okB_300
  | 301, _ => exact okB_301
  | 302, _ => exact okB_302
  | 303, _ => exact okB_303
  | 304, _ => exact okB_304
  | 305, _ => exact okB_305
  | 306, _ => exact okB_306
  | 307, _ => exact okB_307
  | 308, _ => exact okB_308
  | 309, _ => exact okB_309
  | 310, _ => exact okB_310
  | 311, _ => exact okB_311
  | 312, _ => exact okB_312
  | 313, _ => exact okB_313
  | 314, _ => exact okB_314
  | 315, _ => exact okB_315
  | 316, _ => exact okB_316
  | 317, _ => exact okB_317
  | 318, _ => exact okB_318
  | 319, _ => exact okB_319
  | 320, _ => exact okB_320
  | 321, _ => exact okB_321
  | 322, _ => exact okB_322
  | 323, _ => exact okB_323
  | 324, _ => exact okB_324
  | 325, _ => exact okB_325
  | 326, _ => exact okB_326
  | 327, _ => exact okB_327
  | 328, _ => exact okB_328
  | 329, _ => exact okB_329
  | 330, _ => exact okB_330
  | 331, _ => exact okB_331
  | 332, _ => exact okB_332
  | 333, _ => exact okB_333
  | 334, _ => exact okB_334
  | 335, _ => exact okB_335
  | 336, _ => exact okB_336
  | 337, _ => exact okB_337
  | 338, _ => exact okB_338
  | 339, _ => exact okB_339
  | 340, _ => exact okB_340
  | 341, _ => exact okB_341
  | 342, _ => exact okB_342
  | 343, _ => exact okB_343
  | 344, _ => exact okB_344
  | 345, _ => exact okB_345
  | 346, _ => exact okB_346
  | 347, _ => exact okB_347
  | 348, _ => exact okB_348
  | 349, _ => exact okB_349
  | 350, _ => exact okB_350
  | 351, _ => exact okB_351
  | 352, _ => exact okB_352
  | 353, _ => exact okB_353
  | 354, _ => exact okB_354
  | 355, _ => exact okB_355
  | 356, _ => exact okB_356
  | 357, _ => exact okB_357
  | 358, _ => exact okB_358
  | 359, _ => exact okB_359
  | 360, _ => exact okB_360
  | 361, _ => exact okB_361
  | 362, _ => exact okB_362
  | 363, _ => exact okB_363
  | 364, _ => exact okB_364
  | 365, _ => exact okB_365
  | 366, _ => exact okB_366
  | 367, _ => exact okB_367
  | 368, _ => exact okB_368
  | 369, _ => exact okB_369
  | 370, _ => exact okB_370
  | 371, _ => exact okB_371
  | 372, _ => exact okB_372
  | 373, _ => exact okB_373
  | 374, _ => exact okB_374
  | 375, _ => exact okB_375
  | 376, _ => exact okB_376
  | 377, _ => exact okB_377
  | 378, _ => exact okB_378
  | 379, _ => exact okB_379
  | 380, _ => exact okB_380
  | 381, _ => exact okB_381
  | 382, _ => exact okB_382
  | 383, _ => exact okB_383
  | 384, _ => exact okB_384
  | 385, _ => exact okB_385
  | 386, _ => exact okB_386
  | 387, _ => exact okB_387
  | 388, _ => exact okB_388
  | 389, _ => exact okB_389
  | 390, _ => exact okB_390
  | 391, _ => exact okB_391
  | 392, _ => exact okB_392
  | 393, _ => exact okB_393
  | 394, _ => exact okB_394
  | 395, _ => exact okB_395
  | 396, _ => exact okB_396
  | 397, _ => exact okB_397
  | 398, _ => exact okB_398
  | 399, _ => exact okB_399
  | 400, _ => exact okB_400
  | 401, _ => exact okB_401
  | 402, _ => exact okB_402
  | 403, _ => exact okB_403
  | 404, _ => exact okB_404
  | 405, _ => exact okB_405
  | 406, _ => exact okB_406
  | 407, _ => exact okB_407
  | 408, _ => exact okB_408
  | 409, _ => exact okB_409
  | 410, _ => exact okB_410
  | 411, _ => exact okB_411
  | 412, _ => exact okB_412
  | 413, _ => exact okB_413
  | 414, _ => exact okB_414
  | 415, _ => exact okB_415
  | 416, _ => exact okB_416
  | 417, _ => exact okB_417
  | 418, _ => exact okB_418
  | 419, _ => exact okB_419
  | 420, _ => exact okB_420
  | 421, _ => exact okB_421
  | 422, _ => exact okB_422
  | 423, _ => exact okB_423
  | 424, _ => exact okB_424
  | 425, _ => exact okB_425
  | 426, _ => exact okB_426
  | 427, _ => exact okB_427
  | 428, _ => exact okB_428
  | 429, _ => exact okB_429
  | 430, _ => exact okB_430
  | 431, _ => exact okB_431
  | 432, _ => exact okB_432
  | 433, _ => exact okB_433
  | 434, _ => exact okB_434
  | 435, _ => exact okB_435
  | 436, _ => exact okB_436
  | 437, _ => exact okB_437
  | 438, _ => exact okB_438
  | 439, _ => exact okB_439
  | 440, _ => exact okB_440
  | 441, _ => exact okB_441
  | 442, _ => exact okB_442
  | 443, _ => exact okB_443
  | 444, _ => exact okB_444
  | q + 445, h => exact absurd h (by omega)
theorem OMall (k : Nat) (h : k < 445) (h0 : 0 < k) : OM k := by
  match k, h, h0 with
  | 0, _, h0 => exact absurd h0 (by omega)
  | 1, _, _ => exact okM_1
  | 2, _, _ => exact okM_2
  | 3, _, _ => exact okM_3
  | 4, _, _ => exact okM_4
  | 5, _, _ => exact okM_5
  | 6, _, _ => exact okM_6
  | 7, _, _ => exact okM_7
  | 8, _, _ => exact okM_8
  | 9, _, _ => exact okM_9
  | 10, _, _ => exact okM_10
  | 11, _, _ => exact okM_11
  | 12, _, _ => exact okM_12
  | 13, _, _ => exact okM_13
  | 14, _, _ => exact okM_14
  | 15, _, _ => exact okM_15
  | 16, _, _ => exact okM_16
  | 17, _, _ => exact okM_17
  | 18, _, _ => exact okM_18
  | 19, _, _ => exact okM_19
  | 20, _, _ => exact okM_20
  | 21, _, _ => exact okM_21
  | 22, _, _ => exact okM_22
  | 23, _, _ => exact okM_23
  | 24, _, _ => exact okM_24
  | 25, _, _ => exact okM_25
  | 26, _, _ => exact okM_26
  | 27, _, _ => exact okM_27
  | 28, _, _ => exact okM_28
  | 29, _, _ => exact okM_29
  | 30, _, _ => exact okM_30
  | 31, _, _ => exact okM_31
  | 32, _, _ => exact okM_32
  | 33, _, _ => exact okM_33
  | 34, _, _ => exact okM_34
  | 35, _, _ => exact okM_35
  | 36, _, _ => exact okM_36
  | 37, _, _ => exact okM_37
  | 38, _, _ => exact okM_38
  | 39, _, _ => exact okM_39
  | 40, _, _ => exact okM_40
  | 41, _, _ => exact okM_41
  | 42, _, _ => exact okM_42
  | 43, _, _ => exact okM_43
  | 44, _, _ => exact okM_44
  | 45, _, _ => exact okM_45
  | 46, _, _ => exact okM_46
  | 47, _, _ => exact okM_47
  | 48, _, _ => exact okM_48
  | 49, _, _ => exact okM_49
  | 50, _, _ => exact okM_50
  | 51, _, _ => exact okM_51
  | 52, _, _ => exact okM_52
  | 53, _, _ => exact okM_53
  | 54, _, _ => exact okM_54
  | 55, _, _ => exact okM_55
  | 56, _, _ => exact okM_56
  | 57, _, _ => exact okM_57
  | 58, _, _ => exact okM_58
  | 59, _, _ => exact okM_59
  | 60, _, _ => exact okM_60
  | 61, _, _ => exact okM_61
  | 62, _, _ => exact okM_62
  | 63, _, _ => exact okM_63
  | 64, _, _ => exact okM_64
  | 65, _, _ => exact okM_65
  | 66, _, _ => exact okM_66
  | 67, _, _ => exact okM_67
  | 68, _, _ => exact okM_68
  | 69, _, _ => exact okM_69
  | 70, _, _ => exact okM_70
  | 71, _, _ => exact okM_71
  | 72, _, _ => exact okM_72
  | 73, _, _ => exact okM_73
  | 74, _, _ => exact okM_74
  | 75, _, _ => exact okM_75
  | 76, _, _ => exact okM_76
  | 77, _, _ => exact okM_77
  | 78, _, _ => exact okM_78
  | 79, _, _ => exact okM_79
  | 80, _, _ => exact okM_80
  | 81, _, _ => exact okM_81
  | 82, _, _ => exact okM_82
  | 83, _, _ => exact okM_83
  | 84, _, _ => exact okM_84
  | 85, _, _ => exact okM_85
  | 86, _, _ => exact okM_86
  | 87, _, _ => exact okM_87
  | 88, _, _ => exact okM_88
  | 89, _, _ => exact okM_89
  | 90, _, _ => exact okM_90
  | 91, _, _ => exact okM_91
  | 92, _, _ => exact okM_92
  | 93, _, _ => exact okM_93
  | 94, _, _ => exact okM_94
  | 95, _, _ => exact okM_95
  | 96, _, _ => exact okM_96
  | 97, _, _ => exact okM_97
  | 98, _, _ => exact okM_98
  | 99, _, _ => exact okM_99
  | 100, _, _ => exact okM_100
  | 101, _, _ => exact okM_101
  | 102, _, _ => exact okM_102
  | 103, _, _ => exact okM_103
  | 104, _, _ => exact okM_104
  | 105, _, _ => exact okM_105
  | 106, _, _ => exact okM_106
  | 107, _, _ => exact okM_107
  | 108, _, _ => exact okM_108
  | 109, _, _ => exact okM_109
  | 110, _, _ => exact okM_110
  | 111, _, _ => exact okM_111
  | 112, _, _ => exact okM_112
  | 113, _, _ => exact okM_113
  | 114, _, _ => exact okM_114
  | 115, _, _ => exact okM_115
  | 116, _, _ => exact okM_116
  | 117, _, _ => exact okM_117
  | 118, _, _ => exact okM_118
  | 119, _, _ => exact okM_119
  | 120, _, _ => exact okM_120
  | 121, _, _ => exact okM_121
  | 122, _, _ => exact okM_122
  | 123, _, _ => exact okM_123
  | 124, _, _ => exact okM_124
  | 125, _, _ => exact okM_125
  | 126, _, _ => exact okM_126
  | 127, _, _ => exact okM_127
  | 128, _, _ => exact okM_128
  | 129, _, _ => exact okM_129
  | 130, _, _ => exact okM_130
  | 131, _, _ => exact okM_131
  | 132, _, _ => exact okM_132
  | 133, _, _ => exact okM_133
  | 134, _, _ => exact okM_134
  | 135, _, _ => exact okM_135
  | 136, _, _ => exact okM_136
  | 137, _, _ => exact okM_137
  | 138, _, _ => exact okM_138
  | 139, _, _ => exact okM_139
  | 140, _, _ => exact okM_140
  | 141, _, _ => exact okM_141
  | 142, _, _ => exact okM_142
  | 143, _, _ => exact okM_143
  | 144, _, _ => exact okM_144
  | 145, _, _ => exact okM_145
  | 146, _, _ => exact okM_146
  | 147, _, _ => exact okM_147
  | 148, _, _ => exact okM_148
  | 149, _, _ => exact okM_149
  | 150, _, _ => exact okM_150
  | 151, _, _ => exact okM_151
  | 152, _, _ => exact okM_152
  | 153, _, _ => exact okM_153
  | 154, _, _ => exact okM_154
  | 155, _, _ => exact okM_155
  | 156, _, _ => exact okM_156
  | 157, _, _ => exact okM_157
  | 158, _, _ => exact okM_158
  | 159, _, _ => exact okM_159
  | 160, _, _ => exact okM_160
  | 161, _, _ => exact okM_161
  | 162, _, _ => exact okM_162
  | 163, _, _ => exact okM_163
  | 164, _, _ => exact okM_164
  | 165, _, _ => exact okM_165
  | 166, _, _ => exact okM_166
  | 167, _, _ => exact okM_167
  | 168, _, _ => exact okM_168
  | 169, _, _ => exact okM_169
  | 170, _, _ => exact okM_170
  | 171, _, _ => exact okM_171
  | 172, _, _ => exact okM_172
  | 173, _, _ => exact okM_173
  | 174, _, _ => exact okM_174
  | 175, _, _ => exact okM_175
  | 176, _, _ => exact okM_176
  | 177, _, _ => exact okM_177
  | 178, _, _ => exact okM_178
  | 179, _, _ => exact okM_179
  | 180, _, _ => exact okM_180
  | 181, _, _ => exact okM_181
  | 182, _, _ => exact okM_182
  | 183, _, _ => exact okM_183
  | 184, _, _ => exact okM_184
  | 185, _, _ => exact okM_185
  | 186, _, _ => exact okM_186
  | 187, _, _ => exact okM_187
  | 188, _, _ => exact okM_188
  | 189, _, _ => exact okM_189
  | 190, _, _ => exact okM_190
  | 191, _, _ => exact okM_191
  | 192, _, _ => exact okM_192
  | 193, _, _ => exact okM_193
  | 194, _, _ => exact okM_194
  | 195, _, _ => exact okM_195
  | 196, _, _ => exact okM_196
  | 197, _, _ => exact okM_197
  | 198, _, _ => exact okM_198
  | 199, _, _ => exact okM_199
  | 200, _, _ => exact okM_200
  | 201, _, _ => exact okM_201
  | 202, _, _ => exact okM_202
  | 203, _, _ => exact okM_203
  | 204, _, _ => exact okM_204
  | 205, _, _ => exact okM_205
  | 206, _, _ => exact okM_206
  | 207, _, _ => exact okM_207
  | 208, _, _ => exact okM_208
  | 209, _, _ => exact okM_209
  | 210, _, _ => exact okM_210
  | 211, _, _ => exact okM_211
  | 212, _, _ => exact okM_212
  | 213, _, _ => exact okM_213
  | 214, _, _ => exact okM_214
  | 215, _, _ => exact okM_215
  | 216, _, _ => exact okM_216
  | 217, _, _ => exact okM_217
  | 218, _, _ => exact okM_218
  | 219, _, _ => exact okM_219
  | 220, _, _ => exact okM_220
  | 221, _, _ => exact okM_221
  | 222, _, _ => exact okM_222
  | 223, _, _ => exact okM_223
  | 224, _, _ => exact okM_224
  | 225, _, _ => exact okM_225
  | 226, _, _ => exact okM_226
  | 227, _, _ => exact okM_227
  | 228, _, _ => exact okM_228
  | 229, _, _ => exact okM_229
  | 230, _, _ => exact okM_230
  | 231, _, _ => exact okM_231
  | 232, _, _ => exact okM_232
  | 233, _, _ => exact okM_233
  | 234, _, _ => exact okM_234
  | 235, _, _ => exact okM_235
  | 236, _, _ => exact okM_236
  | 237, _, _ => exact okM_237
  | 238, _, _ => exact okM_238
  | 239, _, _ => exact okM_239
  | 240, _, _ => exact okM_240
  | 241, _, _ => exact okM_241
  | 242, _, _ => exact okM_242
  | 243, _, _ => exact okM_243
  | 244, _, _ => exact okM_244
  | 245, _, _ => exact okM_245
  | 246, _, _ => exact okM_246
  | 247, _, _ => exact okM_247
  | 248, _, _ => exact okM_248
  | 249, _, _ => exact okM_249
  | 250, _, _ => exact okM_250
  | 251, _, _ => exact okM_251
  | 252, _, _ => exact okM_252
  | 253, _, _ => exact okM_253
  | 254, _, _ => exact okM_254
  | 255, _, _ => exact okM_255
  | 256, _, _ => exact okM_256
  | 257, _, _ => exact okM_257
  | 258, _, _ => exact okM_258
  | 259, _, _ => exact okM_259
  | 260, _, _ => exact okM_260
  | 261, _, _ => exact okM_261
  | 262, _, _ => exact okM_262
  | 263, _, _ => exact okM_263
  | 264, _, _ => exact okM_264
  | 265, _, _ => exact okM_265
  | 266, _, _ => exact okM_266
  | 267, _, _ => exact okM_267
  | 268, _, _ => exact okM_268
  | 269, _, _ => exact okM_269
  | 270, _, _ => exact okM_270
  | 271, _, _ => exact okM_271
  | 272, _, _ => exact okM_272
  | 273, _, _ => exact okM_273
  | 274, _, _ => exact okM_274
  | 275, _, _ => exact okM_275
  | 276, _, _ => exact okM_276
  | 277, _, _ => exact okM_277
  | 278, _, _ => exact okM_278
  | 279, _, _ => exact okM_279
  | 280, _, _ => exact okM_280
  | 281, _, _ => exact okM_281
  | 282, _, _ => exact okM_282
  | 283, _, _ => exact okM_283
  | 284, _, _ => exact okM_284
  | 285, _, _ => exact okM_285
  | 286, _, _ => exact okM_286
  | 287, _, _ => exact okM_287
  | 288, _, _ => exact okM_288
  | 289, _, _ => exact okM_289
  | 290, _, _ => exact okM_290
  | 291, _, _ => exact okM_291
  | 292, _, _ => exact okM_292
  | 293, _, _ => exact okM_293
  | 294, _, _ => exact okM_294
  | 295, _, _ => exact okM_295
  | 296, _, _ => exact okM_296
  | 297, _, _ => exact okM_297
  | 298, _, _ => exact okM_298
  | 299, _, _ => exact okM_299
  | 300, _, _ => exact okM_300
  | 301, _, _ => exact okM_301
  | 302, _, _ => exact okM_302
  | 303, _, _ => exact okM_303
  | 304, _, _ => exact okM_304
  | 305, _, _ => exact okM_305
  | 306, _, _ => exact okM_306
  | 307, _, _ => exact okM_307
  | 308, _, _ => exact okM_308
  | 309, _, _ => exact okM_309
  | 310, _, _ => exact okM_310
  | 311, _, _ => exact okM_311
  | 312, _, _ => exact okM_312
  | 313, _, _ => exact okM_313
  | 314, _, _ => exact okM_314
  | 315, _, _ => exact okM_315
  | 316, _, _ => exact okM_316
  | 317, _, _ => exact okM_317
  | 318, _, _ => exact okM_318
  | 319, _, _ => exact okM_319
  | 320, _, _ => exact okM_320
  | 321, _, _ => exact okM_321
  | 322, _, _ => exact okM_322
  | 323, _, _ => exact okM_323
  | 324, _, _ => exact okM_324
  | 325, _, _ => exact okM_325
  | 326, _, _ => exact okM_326
  | 327, _, _ => exact okM_327
  | 328, _, _ => exact okM_328
  | 329, _, _ => exact okM_329
  | 330, _, _ => exact okM_330
  | 331, _, _ => exact okM_331
  | 332, _, _ => exact okM_332
  | 333, _, _ => exact okM_333
  | 334, _, _ => exact okM_334
  | 335, _, _ => exact okM_335
  | 336, _, _ => exact okM_336
  | 337, _, _ => exact okM_337
  | 338, _, _ => exact okM_338
  | 339, _, _ => exact okM_339
  | 340, _, _ => exact okM_340
  | 341, _, _ => exact okM_341
  | 342, _, _ => exact okM_342
  | 343, _, _ => exact okM_343
  | 344, _, _ => exact okM_344
  | 345, _, _ => exact okM_345
  | 346, _, _ => exact okM_346
  | 347, _, _ => exact okM_347
  | 348, _, _ => exact okM_348
  | 349, _, _ => exact okM_349
  | 350, _, _ => exact okM_350
  | 351, _, _ => exact okM_351
  | 352, _, _ => exact okM_352
  | 353, _, _ => exact okM_353
  | 354, _, _ => exact okM_354
  | 355, _, _ => exact okM_355
  | 356, _, _ => exact okM_356
  | 357, _, _ => exact okM_357
  | 358, _, _ => exact okM_358
  | 359, _, _ => exact okM_359
  | 360, _, _ => exact okM_360
  | 361, _, _ => exact okM_361
  | 362, _, _ => exact okM_362
  | 363, _, _ => exact okM_363
  | 364, _, _ => exact okM_364
  | 365, _, _ => exact okM_365
  | 366, _, _ => exact okM_366
  | 367, _, _ => exact okM_367
  | 368, _, _ => exact okM_368
  | 369, _, _ => exact okM_369
  | 370, _, _ => exact okM_370
  | 371, _, _ => exact okM_371
  | 372, _, _ => exact okM_372
  | 373, _, _ => exact okM_373
  | 374, _, _ => exact okM_374
  | 375, _, _ => exact okM_375
  | 376, _, _ => exact okM_376
  | 377, _, _ => exact okM_377
  | 378, _, _ => exact okM_378
  | 379, _, _ => exact okM_379
  | 380, _, _ => exact okM_380
  | 381, _, _ => exact okM_381
  | 382, _, _ => exact okM_382
  | 383, _, _ => exact okM_383
  | 384, _, _ => exact okM_384
  | 385, _, _ => exact okM_385
  | 386, _, _ => exact okM_386
  | 387, _, _ => exact okM_387
  | 388, _, _ => exact okM_388
  | 389, _, _ => exact okM_389
  | 390, _, _ => exact okM_390
  | 391, _, _ => exact okM_391
  | 392, _, _ => exact okM_392
  | 393, _, _ => exact okM_393
  | 394, _, _ => exact okM_394
  | 395, _, _ => exact okM_395
  | 396, _, _ => exact okM_396
  | 397, _, _ => exact okM_397
  | 398, _, _ => exact okM_398
  | 399, _, _ => exact okM_399
  | 400, _, _ => exact okM_400
  | 401, _, _ => exact okM_401
  | 402, _, _ => exact okM_402
  | 403, _, _ => exact okM_403
  | 404, _, _ => exact okM_404
  | 405, _, _ => exact okM_405
  | 406, _, _ => exact okM_406
  | 407, _, _ => exact okM_407
  | 408, _, _ => exact okM_408
  | 409, _, _ => exact okM_409
  | 410, _, _ => exact okM_410
  | 411, _, _ => exact okM_411
  | 412, _, _ => exact okM_412
  | 413, _, _ => exact okM_413
  | 414, _, _ => exact okM_414
  | 415, _, _ => exact okM_415
  | 416, _, _ => exact okM_416
  | 417, _, _ => exact okM_417
  | 418, _, _ => exact okM_418
  | 419, _, _ => exact okM_419
  | 420, _, _ => exact okM_420
  | 421, _, _ => exact okM_421
  | 422, _, _ => exact okM_422
  | 423, _, _ => exact okM_423
  | 424, _, _ => exact okM_424
  | 425, _, _ => exact okM_425
  | 426, _, _ => exact okM_426
  | 427, _, _ => exact okM_427
  | 428, _, _ => exact okM_428
  | 429, _, _ => exact okM_429
  | 430, _, _ => exact okM_430
  | 431, _, _ => exact okM_431
  | 432, _, _ => exact okM_432
  | 433, _, _ => exact okM_433
  | 434, _, _ => exact okM_434
  | 435, _, _ => exact okM_435
  | 436, _, _ => exact okM_436
  | 437, _, _ => exact okM_437
  | 438, _, _ => exact okM_438
  | 439, _, _ => exact okM_439
  | 440, _, _ => exact okM_440
  | 441, _, _ => exact okM_441
  | 442, _, _ => exact okM_442
  | 443, _, _ => exact okM_443
  | 444, _, _ => exact okM_444
  | q + 445, h, _ => exact absurd h (by omega)
