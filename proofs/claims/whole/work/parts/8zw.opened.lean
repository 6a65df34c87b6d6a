/-! THE PURE SIDE, 205: what the opened school holds: printed by wip/tools/gen8zw.py -/
section SM
variable {T S : Int} {h hr g gr k kr : HV}
theorem opC_o {o : Int} (x64 : o ≠ 64) (x1157 : o ≠ 1157) (x1927 : o ≠ 1927) (x2016 : o ≠ 2016) (x2080 : o ≠ 2080) (x2568 : o ≠ 2568) (x2656 : o ≠ 2656) (x2953 : o ≠ 2953) (x3104 : o ≠ 3104) (x3168 : o ≠ 3168) (x3232 : o ≠ 3232) : opC T h o = h o := by
  unfold opC
  rw [hs_ne x64, hs_ne x64, hs_ne x64, hs_ne x64, hs_ne x2953, fillH_ne x3232, fillH_ne x3168, fillH_ne x3104, hs_ne x2953, hs_ne x2568, fillH_ne x2656, hs_ne x2568, hs_ne x1927, hs_ne x1927, fillH_ne x2080, fillH_ne x2016, hs_ne x1927, hs_ne x1157]
theorem opRH_o {o : Int} (x6603 : o ≠ 6603) (x11680 : o ≠ 11680) (x11744 : o ≠ 11744) (x11808 : o ≠ 11808) : opRH h o = h o := by
  unfold opRH
  rw [hs_ne x6603, hs_ne x6603, hs_ne x6603, hs_ne x6603, fillH_ne x11744, fillH_ne x11680, fillH_ne x11808, hs_ne x6603, hs_ne x6603, hs_ne x6603]
theorem oc_64_10 : opC T h 64 10 = 0 := by
  unfold opC
  rw [hcell (by decide), hcell (by decide), hcell (by decide), hcel1]
theorem oc_64_12 : opC T h 64 12 = 0 := by
  unfold opC
  rw [hcell (by decide), hcel1]
theorem oc_64_16 : opC T h 64 16 = 0 := by
  unfold opC
  rw [hcel1]
theorem oc_1157_3 : opC T h 1157 3 = T := by
  unfold opC
  rw [hs_ne (by decide), hs_ne (by decide), hs_ne (by decide), hs_ne (by decide), hs_ne (by decide), fillH_ne (by decide), fillH_ne (by decide), fillH_ne (by decide), hs_ne (by decide), hs_ne (by decide), fillH_ne (by decide), hs_ne (by decide), hs_ne (by decide), hs_ne (by decide), fillH_ne (by decide), fillH_ne (by decide), hs_ne (by decide), hcel1]
theorem oc_1927_0 : opC T h 1927 0 = T := by
  unfold opC
  rw [hs_ne (by decide), hs_ne (by decide), hs_ne (by decide), hs_ne (by decide), hs_ne (by decide), fillH_ne (by decide), fillH_ne (by decide), fillH_ne (by decide), hs_ne (by decide), hs_ne (by decide), fillH_ne (by decide), hs_ne (by decide), hcell (by decide), hcell (by decide), fillH_ne (by decide), fillH_ne (by decide), hcel1]
theorem oc_1927_13 : opC T h 1927 13 = 0 := by
  unfold opC
  rw [hs_ne (by decide), hs_ne (by decide), hs_ne (by decide), hs_ne (by decide), hs_ne (by decide), fillH_ne (by decide), fillH_ne (by decide), fillH_ne (by decide), hs_ne (by decide), hs_ne (by decide), fillH_ne (by decide), hs_ne (by decide), hcell (by decide), hcel1]
theorem oc_1927_14 : opC T h 1927 14 = 0 := by
  unfold opC
  rw [hs_ne (by decide), hs_ne (by decide), hs_ne (by decide), hs_ne (by decide), hs_ne (by decide), fillH_ne (by decide), fillH_ne (by decide), fillH_ne (by decide), hs_ne (by decide), hs_ne (by decide), fillH_ne (by decide), hs_ne (by decide), hcel1]
theorem oc_2568_1 : opC T h 2568 1 = T := by
  unfold opC
  rw [hs_ne (by decide), hs_ne (by decide), hs_ne (by decide), hs_ne (by decide), hs_ne (by decide), fillH_ne (by decide), fillH_ne (by decide), fillH_ne (by decide), hs_ne (by decide), hcell (by decide), fillH_ne (by decide), hcel1]
theorem oc_2568_4 : opC T h 2568 4 = 0 := by
  unfold opC
  rw [hs_ne (by decide), hs_ne (by decide), hs_ne (by decide), hs_ne (by decide), hs_ne (by decide), fillH_ne (by decide), fillH_ne (by decide), fillH_ne (by decide), hs_ne (by decide), hcel1]
theorem oc_2953_1 : opC T h 2953 1 = T := by
  unfold opC
  rw [hs_ne (by decide), hs_ne (by decide), hs_ne (by decide), hs_ne (by decide), hcell (by decide), fillH_ne (by decide), fillH_ne (by decide), fillH_ne (by decide), hcel1]
theorem oc_2953_6 : opC T h 2953 6 = 0 := by
  unfold opC
  rw [hs_ne (by decide), hs_ne (by decide), hs_ne (by decide), hs_ne (by decide), hcel1]
theorem or_6603_53 : opRH h 6603 53 = 0 := by
  unfold opRH
  rw [hcell (by decide), hcell (by decide), hcell (by decide), hcell (by decide), fillH_ne (by decide), fillH_ne (by decide), fillH_ne (by decide), hcell (by decide), hcell (by decide), hcel1]
theorem or_6603_58 : opRH h 6603 58 = 0 := by
  unfold opRH
  rw [hcell (by decide), hcell (by decide), hcell (by decide), hcell (by decide), fillH_ne (by decide), fillH_ne (by decide), fillH_ne (by decide), hcell (by decide), hcel1]
theorem or_6603_61 : opRH h 6603 61 = -9 := by
  unfold opRH
  rw [hcell (by decide), hcell (by decide), hcell (by decide), hcell (by decide), fillH_ne (by decide), fillH_ne (by decide), fillH_ne (by decide), hcel1]
theorem or_6603_69 : opRH h 6603 69 = 0 := by
  unfold opRH
  rw [hcell (by decide), hcell (by decide), hcell (by decide), hcel1]
theorem or_6603_70 : opRH h 6603 70 = 0 := by
  unfold opRH
  rw [hcell (by decide), hcell (by decide), hcel1]
theorem or_6603_71 : opRH h 6603 71 = 0 := by
  unfold opRH
  rw [hcell (by decide), hcel1]
theorem or_6603_86 : opRH h 6603 86 = 0 := by
  unfold opRH
  rw [hcel1]
theorem ok_64 {i : Int} (w : i ≠ 10 ∧ i ≠ 11 ∧ i ≠ 12 ∧ i ≠ 16) : opC T h 64 i = h 64 i := by
  unfold opC
  rw [hcell (by omega), hcell (by omega), hcell (by omega), hcell (by omega), hs_ne (by decide), fillH_ne (by decide), fillH_ne (by decide), fillH_ne (by decide), hs_ne (by decide), hs_ne (by decide), fillH_ne (by decide), hs_ne (by decide), hs_ne (by decide), hs_ne (by decide), fillH_ne (by decide), fillH_ne (by decide), hs_ne (by decide), hs_ne (by decide)]
theorem ok_1157 {i : Int} (w : i ≠ 3) : opC T h 1157 i = h 1157 i := by
  unfold opC
  rw [hs_ne (by decide), hs_ne (by decide), hs_ne (by decide), hs_ne (by decide), hs_ne (by decide), fillH_ne (by decide), fillH_ne (by decide), fillH_ne (by decide), hs_ne (by decide), hs_ne (by decide), fillH_ne (by decide), hs_ne (by decide), hs_ne (by decide), hs_ne (by decide), fillH_ne (by decide), fillH_ne (by decide), hs_ne (by decide), hcell (by omega)]
theorem ok_1927 {i : Int} (w : i ≠ 0 ∧ i ≠ 13 ∧ i ≠ 14) : opC T h 1927 i = h 1927 i := by
  unfold opC
  rw [hs_ne (by decide), hs_ne (by decide), hs_ne (by decide), hs_ne (by decide), hs_ne (by decide), fillH_ne (by decide), fillH_ne (by decide), fillH_ne (by decide), hs_ne (by decide), hs_ne (by decide), fillH_ne (by decide), hs_ne (by decide), hcell (by omega), hcell (by omega), fillH_ne (by decide), fillH_ne (by decide), hcell (by omega), hs_ne (by decide)]
theorem ok_6603 {i : Int} (w : i ≠ 53 ∧ i ≠ 58 ∧ i ≠ 61 ∧ i ≠ 69 ∧ i ≠ 70 ∧ i ≠ 71 ∧ i ≠ 86) : opRH h 6603 i = h 6603 i := by
  unfold opRH
  rw [hcell (by omega), hcell (by omega), hcell (by omega), hcell (by omega), fillH_ne (by decide), fillH_ne (by decide), fillH_ne (by decide), hcell (by omega), hcell (by omega), hcell (by omega)]
theorem oa_2016 {i : Int} (i0 : 0 ≤ i) (i1 : i < 10) : opC T h 2016 i = 0 := by
  unfold opC
  rw [hs_ne (by decide), hs_ne (by decide), hs_ne (by decide), hs_ne (by decide), hs_ne (by decide), fillH_ne (by decide), fillH_ne (by decide), fillH_ne (by decide), hs_ne (by decide), hs_ne (by decide), fillH_ne (by decide), hs_ne (by decide), hs_ne (by decide), hs_ne (by decide), fillH_ne (by decide), fillH_v, if_pos ⟨rfl, i0, i1⟩]
theorem oa_2080 {i : Int} (i0 : 0 ≤ i) (i1 : i < 240) : opC T h 2080 i = 0 := by
  unfold opC
  rw [hs_ne (by decide), hs_ne (by decide), hs_ne (by decide), hs_ne (by decide), hs_ne (by decide), fillH_ne (by decide), fillH_ne (by decide), fillH_ne (by decide), hs_ne (by decide), hs_ne (by decide), fillH_ne (by decide), hs_ne (by decide), hs_ne (by decide), hs_ne (by decide), fillH_v, if_pos ⟨rfl, i0, i1⟩]
theorem oa_2656 {i : Int} (i0 : 0 ≤ i) (i1 : i < 10) : opC T h 2656 i = 0 := by
  unfold opC
  rw [hs_ne (by decide), hs_ne (by decide), hs_ne (by decide), hs_ne (by decide), hs_ne (by decide), fillH_ne (by decide), fillH_ne (by decide), fillH_ne (by decide), hs_ne (by decide), hs_ne (by decide), fillH_v, if_pos ⟨rfl, i0, i1⟩]
theorem oa_3104 {i : Int} (i0 : 0 ≤ i) (i1 : i < 24) : opC T h 3104 i = 0 := by
  unfold opC
  rw [hs_ne (by decide), hs_ne (by decide), hs_ne (by decide), hs_ne (by decide), hs_ne (by decide), fillH_ne (by decide), fillH_ne (by decide), fillH_v, if_pos ⟨rfl, i0, i1⟩]
theorem oa_3168 {i : Int} (i0 : 0 ≤ i) (i1 : i < 192) : opC T h 3168 i = 0 := by
  unfold opC
  rw [hs_ne (by decide), hs_ne (by decide), hs_ne (by decide), hs_ne (by decide), hs_ne (by decide), fillH_ne (by decide), fillH_v, if_pos ⟨rfl, i0, i1⟩]
theorem oa_3232 {i : Int} (i0 : 0 ≤ i) (i1 : i < 24) : opC T h 3232 i = -9 := by
  unfold opC
  rw [hs_ne (by decide), hs_ne (by decide), hs_ne (by decide), hs_ne (by decide), hs_ne (by decide), fillH_v, if_pos ⟨rfl, i0, i1⟩]
theorem oa_11808 {i : Int} (i0 : 0 ≤ i) (i1 : i < 240) : opRH h 11808 i = 0 := by
  unfold opRH
  rw [hs_ne (by decide), hs_ne (by decide), hs_ne (by decide), hs_ne (by decide), fillH_ne (by decide), fillH_ne (by decide), fillH_v, if_pos ⟨rfl, i0, i1⟩]
theorem oa_11680 {i : Int} (i0 : 0 ≤ i) (i1 : i < 10) : opRH h 11680 i = 0 := by
  unfold opRH
  rw [hs_ne (by decide), hs_ne (by decide), hs_ne (by decide), hs_ne (by decide), fillH_ne (by decide), fillH_v, if_pos ⟨rfl, i0, i1⟩]
theorem oa_11744 {i : Int} (i0 : 0 ≤ i) (i1 : i < 10) : opRH h 11744 i = 0 := by
  unfold opRH
  rw [hs_ne (by decide), hs_ne (by decide), hs_ne (by decide), hs_ne (by decide), fillH_v, if_pos ⟨rfl, i0, i1⟩]
end SM
