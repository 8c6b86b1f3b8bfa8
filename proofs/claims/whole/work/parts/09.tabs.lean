/-! what the tables' words say, by number (written by wip/whole/prog/mknames.py) -/
theorem gw_l1 {w : Cond} (i : Nat) (h : tables_1_1[i]? = some w) : w ∈ lw_tbl := List.mem_append_right _ (show w ∈ tables_1 from List.mem_append_left _ (List.mem_of_getElem? h))
theorem gw_w1 {w : Cond} (i : Nat) (h : tables_1_1[i]? = some w) (hg : goodWord w = true) : w ∈ gw_all := List.mem_filter.mpr ⟨gw_l1 i h, hg⟩
theorem gw_l2 {w : Cond} (i : Nat) (h : tables_1_2[i]? = some w) : w ∈ lw_tbl := List.mem_append_right _ (show w ∈ tables_1 from List.mem_append_right _ (List.mem_append_left _ (List.mem_of_getElem? h)))
theorem gw_w2 {w : Cond} (i : Nat) (h : tables_1_2[i]? = some w) (hg : goodWord w = true) : w ∈ gw_all := List.mem_filter.mpr ⟨gw_l2 i h, hg⟩
theorem gw_l3 {w : Cond} (i : Nat) (h : tables_1_3[i]? = some w) : w ∈ lw_tbl := List.mem_append_right _ (show w ∈ tables_1 from List.mem_append_right _ (List.mem_append_right _ (List.mem_append_left _ (List.mem_of_getElem? h))))
theorem gw_w3 {w : Cond} (i : Nat) (h : tables_1_3[i]? = some w) (hg : goodWord w = true) : w ∈ gw_all := List.mem_filter.mpr ⟨gw_l3 i h, hg⟩
theorem gw_l4 {w : Cond} (i : Nat) (h : tables_1_4[i]? = some w) : w ∈ lw_tbl := List.mem_append_right _ (show w ∈ tables_1 from List.mem_append_right _ (List.mem_append_right _ (List.mem_append_right _ (List.mem_append_left _ (List.mem_of_getElem? h)))))
theorem gw_w4 {w : Cond} (i : Nat) (h : tables_1_4[i]? = some w) (hg : goodWord w = true) : w ∈ gw_all := List.mem_filter.mpr ⟨gw_l4 i h, hg⟩
theorem gw_l5 {w : Cond} (i : Nat) (h : tables_1_5[i]? = some w) : w ∈ lw_tbl := List.mem_append_right _ (show w ∈ tables_1 from List.mem_append_right _ (List.mem_append_right _ (List.mem_append_right _ (List.mem_append_right _ (List.mem_of_getElem? h)))))
theorem gw_w5 {w : Cond} (i : Nat) (h : tables_1_5[i]? = some w) (hg : goodWord w = true) : w ∈ gw_all := List.mem_filter.mpr ⟨gw_l5 i h, hg⟩
theorem gw_sl1 {w : Cond} {q : MethodName × Nat} (h : q ∈ lw_privs) (hw : w = Cond.selects q.1.cls q.1 q.1) (hg : goodWord w = true) : w ∈ gw_all := List.mem_filter.mpr ⟨List.mem_append_left _ (by rw [hw]; exact List.mem_map.mpr ⟨q, h, rfl⟩), hg⟩
theorem gw_inCC : ∀ w ∈ u_ws (gw_c 0).1 (gw_c 0).2.1 (gw_c 0).2.2, w ∈ gw_all := by
  intro w hw
  obtain ⟨k, hk, rfl⟩ := List.mem_map.mp hw
  have hk' : k < 4 := List.mem_range.mp hk
  match k, hk' with
  | 0, _ => exact gw_w2 81 (by decide +kernel) rfl
  | 1, _ => exact gw_w2 83 (by decide +kernel) rfl
  | 2, _ => exact gw_w2 85 (by decide +kernel) rfl
  | 3, _ => exact gw_w2 87 (by decide +kernel) rfl
theorem gw_kCC : gw_Cok 0 := ⟨rfl, rfl, gw_inCC, by decide +kernel, by decide +kernel⟩
theorem gw_k2CC : gw_C2 0 := ⟨gw_kCC, by decide +kernel, gw_w1 16 (by decide +kernel) rfl, gw_w1 1 (by decide +kernel) rfl⟩
theorem gw_inMe : ∀ w ∈ u_ws (gw_c 1).1 (gw_c 1).2.1 (gw_c 1).2.2, w ∈ gw_all := by
  intro w hw
  obtain ⟨k, hk, rfl⟩ := List.mem_map.mp hw
  have hk' : k < 8 := List.mem_range.mp hk
  match k, hk' with
  | 0, _ => exact gw_w1 122 (by decide +kernel) rfl
  | 1, _ => exact gw_w1 124 (by decide +kernel) rfl
  | 2, _ => exact gw_w1 126 (by decide +kernel) rfl
  | 3, _ => exact gw_w1 128 (by decide +kernel) rfl
  | 4, _ => exact gw_w1 130 (by decide +kernel) rfl
  | 5, _ => exact gw_w1 132 (by decide +kernel) rfl
  | 6, _ => exact gw_w1 134 (by decide +kernel) rfl
  | 7, _ => exact gw_w1 136 (by decide +kernel) rfl
theorem gw_kMe : gw_Cok 1 := ⟨rfl, rfl, gw_inMe, by decide +kernel, by decide +kernel⟩
theorem gw_k2Me : gw_C2 1 := ⟨gw_kMe, by decide +kernel, gw_w1 25 (by decide +kernel) rfl, gw_w1 2 (by decide +kernel) rfl⟩
theorem gw_inCu : ∀ w ∈ u_ws (gw_c 2).1 (gw_c 2).2.1 (gw_c 2).2.2, w ∈ gw_all := by
  intro w hw
  obtain ⟨k, hk, rfl⟩ := List.mem_map.mp hw
  have hk' : k < 6 := List.mem_range.mp hk
  match k, hk' with
  | 0, _ => exact gw_w1 88 (by decide +kernel) rfl
  | 1, _ => exact gw_w1 90 (by decide +kernel) rfl
  | 2, _ => exact gw_w1 92 (by decide +kernel) rfl
  | 3, _ => exact gw_w1 94 (by decide +kernel) rfl
  | 4, _ => exact gw_w1 96 (by decide +kernel) rfl
  | 5, _ => exact gw_w1 98 (by decide +kernel) rfl
theorem gw_kCu : gw_Cok 2 := ⟨rfl, rfl, gw_inCu, by decide +kernel, by decide +kernel⟩
theorem gw_k2Cu : gw_C2 2 := ⟨gw_kCu, by decide +kernel, gw_w1 32 (by decide +kernel) rfl, gw_w1 3 (by decide +kernel) rfl⟩
theorem gw_inPo : ∀ w ∈ u_ws (gw_c 3).1 (gw_c 3).2.1 (gw_c 3).2.2, w ∈ gw_all := by
  intro w hw
  obtain ⟨k, hk, rfl⟩ := List.mem_map.mp hw
  have hk' : k < 5 := List.mem_range.mp hk
  match k, hk' with
  | 0, _ => exact gw_w1 60 (by decide +kernel) rfl
  | 1, _ => exact gw_w1 62 (by decide +kernel) rfl
  | 2, _ => exact gw_w1 64 (by decide +kernel) rfl
  | 3, _ => exact gw_w1 66 (by decide +kernel) rfl
  | 4, _ => exact gw_w1 68 (by decide +kernel) rfl
theorem gw_kPo : gw_Cok 3 := ⟨rfl, rfl, gw_inPo, by decide +kernel, by decide +kernel⟩
theorem gw_k2Po : gw_C2 3 := ⟨gw_kPo, by decide +kernel, gw_w1 39 (by decide +kernel) rfl, gw_w1 4 (by decide +kernel) rfl⟩
theorem gw_inMa : ∀ w ∈ u_ws (gw_c 4).1 (gw_c 4).2.1 (gw_c 4).2.2, w ∈ gw_all := by
  intro w hw
  obtain ⟨k, hk, rfl⟩ := List.mem_map.mp hw
  have hk' : k < 10 := List.mem_range.mp hk
  match k, hk' with
  | 0, _ => exact gw_w1 186 (by decide +kernel) rfl
  | 1, _ => exact gw_w1 188 (by decide +kernel) rfl
  | 2, _ => exact gw_w1 190 (by decide +kernel) rfl
  | 3, _ => exact gw_w1 192 (by decide +kernel) rfl
  | 4, _ => exact gw_w1 194 (by decide +kernel) rfl
  | 5, _ => exact gw_w1 196 (by decide +kernel) rfl
  | 6, _ => exact gw_w1 198 (by decide +kernel) rfl
  | 7, _ => exact gw_w1 200 (by decide +kernel) rfl
  | 8, _ => exact gw_w1 202 (by decide +kernel) rfl
  | 9, _ => exact gw_w1 204 (by decide +kernel) rfl
theorem gw_kMa : gw_Cok 4 := ⟨rfl, rfl, gw_inMa, by decide +kernel, by decide +kernel⟩
theorem gw_k2Ma : gw_C2 4 := ⟨gw_kMa, by decide +kernel, gw_w1 140 (by decide +kernel) rfl, gw_w1 5 (by decide +kernel) rfl⟩
theorem gw_inFr : ∀ w ∈ u_ws (gw_c 5).1 (gw_c 5).2.1 (gw_c 5).2.2, w ∈ gw_all := by
  intro w hw
  obtain ⟨k, hk, rfl⟩ := List.mem_map.mp hw
  have hk' : k < 5 := List.mem_range.mp hk
  match k, hk' with
  | 0, _ => exact gw_w1 161 (by decide +kernel) rfl
  | 1, _ => exact gw_w1 163 (by decide +kernel) rfl
  | 2, _ => exact gw_w1 165 (by decide +kernel) rfl
  | 3, _ => exact gw_w1 167 (by decide +kernel) rfl
  | 4, _ => exact gw_w1 169 (by decide +kernel) rfl
theorem gw_kFr : gw_Cok 5 := ⟨rfl, rfl, gw_inFr, by decide +kernel, by decide +kernel⟩
theorem gw_k2Fr : gw_C2 5 := ⟨gw_kFr, by decide +kernel, gw_w1 147 (by decide +kernel) rfl, gw_w1 6 (by decide +kernel) rfl⟩
theorem gw_inCh : ∀ w ∈ u_ws (gw_c 6).1 (gw_c 6).2.1 (gw_c 6).2.2, w ∈ gw_all := by
  intro w hw
  obtain ⟨k, hk, rfl⟩ := List.mem_map.mp hw
  have hk' : k < 5 := List.mem_range.mp hk
  match k, hk' with
  | 0, _ => exact gw_w2 66 (by decide +kernel) rfl
  | 1, _ => exact gw_w2 68 (by decide +kernel) rfl
  | 2, _ => exact gw_w2 70 (by decide +kernel) rfl
  | 3, _ => exact gw_w2 72 (by decide +kernel) rfl
  | 4, _ => exact gw_w2 74 (by decide +kernel) rfl
theorem gw_kCh : gw_Cok 6 := ⟨rfl, rfl, gw_inCh, by decide +kernel, by decide +kernel⟩
theorem gw_k2Ch : gw_C2 6 := ⟨gw_kCh, by decide +kernel, gw_w1 208 (by decide +kernel) rfl, gw_w1 7 (by decide +kernel) rfl⟩
theorem gw_inPa : ∀ w ∈ u_ws (gw_c 7).1 (gw_c 7).2.1 (gw_c 7).2.2, w ∈ gw_all := by
  intro w hw
  obtain ⟨k, hk, rfl⟩ := List.mem_map.mp hw
  have hk' : k < 8 := List.mem_range.mp hk
  match k, hk' with
  | 0, _ => exact gw_w2 44 (by decide +kernel) rfl
  | 1, _ => exact gw_w2 46 (by decide +kernel) rfl
  | 2, _ => exact gw_w2 48 (by decide +kernel) rfl
  | 3, _ => exact gw_w2 50 (by decide +kernel) rfl
  | 4, _ => exact gw_w2 52 (by decide +kernel) rfl
  | 5, _ => exact gw_w2 54 (by decide +kernel) rfl
  | 6, _ => exact gw_w2 56 (by decide +kernel) rfl
  | 7, _ => exact gw_w2 58 (by decide +kernel) rfl
theorem gw_kPa : gw_Cok 7 := ⟨rfl, rfl, gw_inPa, by decide +kernel, by decide +kernel⟩
theorem gw_k2Pa : gw_C2 7 := ⟨gw_kPa, by decide +kernel, gw_w1 236 (by decide +kernel) rfl, gw_w1 9 (by decide +kernel) rfl⟩
theorem gw_inSy : ∀ w ∈ u_ws (gw_c 8).1 (gw_c 8).2.1 (gw_c 8).2.2, w ∈ gw_all := by
  intro w hw
  obtain ⟨k, hk, rfl⟩ := List.mem_map.mp hw
  have hk' : k < 2 := List.mem_range.mp hk
  match k, hk' with
  | 0, _ => exact gw_w1 230 (by decide +kernel) rfl
  | 1, _ => exact gw_w1 232 (by decide +kernel) rfl
theorem gw_kSy : gw_Cok 8 := ⟨rfl, rfl, gw_inSy, by decide +kernel, by decide +kernel⟩
theorem gw_k2Sy : gw_C2 8 := ⟨gw_kSy, by decide +kernel, gw_w1 216 (by decide +kernel) rfl, gw_w1 8 (by decide +kernel) rfl⟩
theorem gw_inKn : ∀ w ∈ u_ws (gw_c 9).1 (gw_c 9).2.1 (gw_c 9).2.2, w ∈ gw_all := by
  intro w hw
  obtain ⟨k, hk, rfl⟩ := List.mem_map.mp hw
  have hk' : k < 1 := List.mem_range.mp hk
  match k, hk' with
  | 0, _ => exact gw_w2 10 (by decide +kernel) rfl
theorem gw_kKn : gw_Cok 9 := ⟨rfl, rfl, gw_inKn, by decide +kernel, by decide +kernel⟩
theorem gw_k2Kn : gw_C2 9 := ⟨gw_kKn, by decide +kernel, gw_w2 4 (by decide +kernel) rfl, gw_w1 10 (by decide +kernel) rfl⟩
theorem gw_inBa : ∀ w ∈ u_ws (gw_c 10).1 (gw_c 10).2.1 (gw_c 10).2.2, w ∈ gw_all := by
  intro w hw
  obtain ⟨k, hk, rfl⟩ := List.mem_map.mp hw
  have hk' : k < 2 := List.mem_range.mp hk
  match k, hk' with
  | 0, _ => exact gw_w2 23 (by decide +kernel) rfl
  | 1, _ => exact gw_w2 25 (by decide +kernel) rfl
theorem gw_kBa : gw_Cok 10 := ⟨rfl, rfl, gw_inBa, by decide +kernel, by decide +kernel⟩
theorem gw_k2Ba : gw_C2 10 := ⟨gw_kBa, by decide +kernel, gw_w2 15 (by decide +kernel) rfl, gw_w1 11 (by decide +kernel) rfl⟩
theorem gw_inMo : ∀ w ∈ u_ws (gw_c 11).1 (gw_c 11).2.1 (gw_c 11).2.2, w ∈ gw_all := by
  intro w hw
  obtain ⟨k, hk, rfl⟩ := List.mem_map.mp hw
  have hk' : k < 33 := List.mem_range.mp hk
  match k, hk' with
  | 0, _ => exact gw_w4 5 (by decide +kernel) rfl
  | 1, _ => exact gw_w4 7 (by decide +kernel) rfl
  | 2, _ => exact gw_w4 9 (by decide +kernel) rfl
  | 3, _ => exact gw_w4 11 (by decide +kernel) rfl
  | 4, _ => exact gw_w4 13 (by decide +kernel) rfl
  | 5, _ => exact gw_w4 15 (by decide +kernel) rfl
  | 6, _ => exact gw_w4 17 (by decide +kernel) rfl
  | 7, _ => exact gw_w4 19 (by decide +kernel) rfl
  | 8, _ => exact gw_w4 21 (by decide +kernel) rfl
  | 9, _ => exact gw_w4 23 (by decide +kernel) rfl
  | 10, _ => exact gw_w4 25 (by decide +kernel) rfl
  | 11, _ => exact gw_w4 27 (by decide +kernel) rfl
  | 12, _ => exact gw_w4 29 (by decide +kernel) rfl
  | 13, _ => exact gw_w4 31 (by decide +kernel) rfl
  | 14, _ => exact gw_w4 33 (by decide +kernel) rfl
  | 15, _ => exact gw_w4 35 (by decide +kernel) rfl
  | 16, _ => exact gw_w4 37 (by decide +kernel) rfl
  | 17, _ => exact gw_w4 39 (by decide +kernel) rfl
  | 18, _ => exact gw_w4 41 (by decide +kernel) rfl
  | 19, _ => exact gw_w4 43 (by decide +kernel) rfl
  | 20, _ => exact gw_w4 45 (by decide +kernel) rfl
  | 21, _ => exact gw_w4 47 (by decide +kernel) rfl
  | 22, _ => exact gw_w4 49 (by decide +kernel) rfl
  | 23, _ => exact gw_w4 51 (by decide +kernel) rfl
  | 24, _ => exact gw_w4 53 (by decide +kernel) rfl
  | 25, _ => exact gw_w4 55 (by decide +kernel) rfl
  | 26, _ => exact gw_w4 57 (by decide +kernel) rfl
  | 27, _ => exact gw_w4 59 (by decide +kernel) rfl
  | 28, _ => exact gw_w4 61 (by decide +kernel) rfl
  | 29, _ => exact gw_w4 63 (by decide +kernel) rfl
  | 30, _ => exact gw_w4 65 (by decide +kernel) rfl
  | 31, _ => exact gw_w4 67 (by decide +kernel) rfl
  | 32, _ => exact gw_w4 69 (by decide +kernel) rfl
theorem gw_kMo : gw_Cok 11 := ⟨rfl, rfl, gw_inMo, by decide +kernel, by decide +kernel⟩
theorem gw_k2Mo : gw_C2 11 := ⟨gw_kMo, by decide +kernel, gw_w3 207 (by decide +kernel) rfl, gw_w1 12 (by decide +kernel) rfl⟩
theorem f_Po_21 : gw_F "CostChecker$Potential" 21 3 0 0 false := ⟨gw_kPo, by decide +kernel, gw_w1 44 (by decide +kernel) rfl, rfl, rfl⟩
theorem f_Ba_25 : gw_F "CostChecker$Balance" 25 3 0 0 false := ⟨gw_kPo, by decide +kernel, gw_w1 45 (by decide +kernel) rfl, rfl, rfl⟩
theorem f_CC_84 : gw_F "CostChecker" 84 3 0 0 false := ⟨gw_kPo, by decide +kernel, gw_w1 46 (by decide +kernel) rfl, rfl, rfl⟩
theorem f_Kn_55 : gw_F "CostChecker$Known" 55 3 0 0 false := ⟨gw_kPo, by decide +kernel, gw_w1 47 (by decide +kernel) rfl, rfl, rfl⟩
theorem f_Po_25 : gw_F "CostChecker$Potential" 25 3 1 0 false := ⟨gw_kPo, by decide +kernel, gw_w1 48 (by decide +kernel) rfl, rfl, rfl⟩
theorem f_Ba_31 : gw_F "CostChecker$Balance" 31 3 1 0 false := ⟨gw_kPo, by decide +kernel, gw_w1 49 (by decide +kernel) rfl, rfl, rfl⟩
theorem f_Kn_60 : gw_F "CostChecker$Known" 60 3 1 0 false := ⟨gw_kPo, by decide +kernel, gw_w1 50 (by decide +kernel) rfl, rfl, rfl⟩
theorem f_Po_9 : gw_F "CostChecker$Potential" 9 3 2 2 true := ⟨gw_kPo, by decide +kernel, gw_w1 51 (by decide +kernel) rfl, rfl, rfl⟩
theorem f_Ba_41 : gw_F "CostChecker$Balance" 41 3 2 2 true := ⟨gw_kPo, by decide +kernel, gw_w1 52 (by decide +kernel) rfl, rfl, rfl⟩
theorem f_Kn_69 : gw_F "CostChecker$Known" 69 3 2 2 true := ⟨gw_kPo, by decide +kernel, gw_w1 53 (by decide +kernel) rfl, rfl, rfl⟩
theorem f_Po_15 : gw_F "CostChecker$Potential" 15 3 3 2 true := ⟨gw_kPo, by decide +kernel, gw_w1 54 (by decide +kernel) rfl, rfl, rfl⟩
theorem f_Ba_34 : gw_F "CostChecker$Balance" 34 3 3 2 true := ⟨gw_kPo, by decide +kernel, gw_w1 55 (by decide +kernel) rfl, rfl, rfl⟩
theorem f_Kn_66 : gw_F "CostChecker$Known" 66 3 3 2 true := ⟨gw_kPo, by decide +kernel, gw_w1 56 (by decide +kernel) rfl, rfl, rfl⟩
theorem f_Po_18 : gw_F "CostChecker$Potential" 18 3 4 2 true := ⟨gw_kPo, by decide +kernel, gw_w1 57 (by decide +kernel) rfl, rfl, rfl⟩
theorem f_Ba_38 : gw_F "CostChecker$Balance" 38 3 4 2 true := ⟨gw_kPo, by decide +kernel, gw_w1 58 (by decide +kernel) rfl, rfl, rfl⟩
theorem f_Kn_63 : gw_F "CostChecker$Known" 63 3 4 2 true := ⟨gw_kPo, by decide +kernel, gw_w1 59 (by decide +kernel) rfl, rfl, rfl⟩
theorem f_Cu_28 : gw_F "CostChecker$Cut" 28 2 0 0 false := ⟨gw_kCu, by decide +kernel, gw_w1 72 (by decide +kernel) rfl, rfl, rfl⟩
theorem f_Pa_40 : gw_F "CostChecker$Path" 40 2 0 0 false := ⟨gw_kCu, by decide +kernel, gw_w1 73 (by decide +kernel) rfl, rfl, rfl⟩
theorem f_Ch_50 : gw_F "CostChecker$Checker" 50 2 0 0 false := ⟨gw_kCu, by decide +kernel, gw_w1 74 (by decide +kernel) rfl, rfl, rfl⟩
theorem f_Me_39 : gw_F "CostChecker$Method" 39 2 0 0 false := ⟨gw_kCu, by decide +kernel, gw_w1 75 (by decide +kernel) rfl, rfl, rfl⟩
theorem f_Cu_32 : gw_F "CostChecker$Cut" 32 2 1 0 false := ⟨gw_kCu, by decide +kernel, gw_w1 76 (by decide +kernel) rfl, rfl, rfl⟩
theorem f_Kn_27 : gw_F "CostChecker$Known" 27 2 1 0 false := ⟨gw_kCu, by decide +kernel, gw_w1 77 (by decide +kernel) rfl, rfl, rfl⟩
theorem f_Cu_9 : gw_F "CostChecker$Cut" 9 2 2 2 true := ⟨gw_kCu, by decide +kernel, gw_w1 78 (by decide +kernel) rfl, rfl, rfl⟩
theorem f_Kn_33 : gw_F "CostChecker$Known" 33 2 2 2 true := ⟨gw_kCu, by decide +kernel, gw_w1 79 (by decide +kernel) rfl, rfl, rfl⟩
theorem f_Cu_15 : gw_F "CostChecker$Cut" 15 2 3 2 true := ⟨gw_kCu, by decide +kernel, gw_w1 80 (by decide +kernel) rfl, rfl, rfl⟩
theorem f_Kn_37 : gw_F "CostChecker$Known" 37 2 3 2 true := ⟨gw_kCu, by decide +kernel, gw_w1 81 (by decide +kernel) rfl, rfl, rfl⟩
theorem f_Cu_18 : gw_F "CostChecker$Cut" 18 2 4 2 true := ⟨gw_kCu, by decide +kernel, gw_w1 82 (by decide +kernel) rfl, rfl, rfl⟩
theorem f_Kn_40 : gw_F "CostChecker$Known" 40 2 4 2 true := ⟨gw_kCu, by decide +kernel, gw_w1 83 (by decide +kernel) rfl, rfl, rfl⟩
theorem f_Cu_23 : gw_F "CostChecker$Cut" 23 2 5 2 true := ⟨gw_kCu, by decide +kernel, gw_w1 84 (by decide +kernel) rfl, rfl, rfl⟩
theorem f_Pa_59 : gw_F "CostChecker$Path" 59 2 5 2 true := ⟨gw_kCu, by decide +kernel, gw_w1 85 (by decide +kernel) rfl, rfl, rfl⟩
theorem f_Ch_63 : gw_F "CostChecker$Checker" 63 2 5 2 true := ⟨gw_kCu, by decide +kernel, gw_w1 86 (by decide +kernel) rfl, rfl, rfl⟩
theorem f_CC_80 : gw_F "CostChecker" 80 2 5 2 true := ⟨gw_kCu, by decide +kernel, gw_w1 87 (by decide +kernel) rfl, rfl, rfl⟩
theorem f_Me_24 : gw_F "CostChecker$Method" 24 1 0 0 true := ⟨gw_kMe, by decide +kernel, gw_w1 101 (by decide +kernel) rfl, rfl, rfl⟩
theorem f_CC_156 : gw_F "CostChecker" 156 1 0 0 true := ⟨gw_kMe, by decide +kernel, gw_w1 102 (by decide +kernel) rfl, rfl, rfl⟩
theorem f_Me_9 : gw_F "CostChecker$Method" 9 1 1 2 true := ⟨gw_kMe, by decide +kernel, gw_w1 103 (by decide +kernel) rfl, rfl, rfl⟩
theorem f_Ma_69 : gw_F "CostChecker$Machine" 69 1 1 2 true := ⟨gw_kMe, by decide +kernel, gw_w1 104 (by decide +kernel) rfl, rfl, rfl⟩
theorem f_Ch_103 : gw_F "CostChecker$Checker" 103 1 1 2 true := ⟨gw_kMe, by decide +kernel, gw_w1 105 (by decide +kernel) rfl, rfl, rfl⟩
theorem f_CC_153 : gw_F "CostChecker" 153 1 1 2 true := ⟨gw_kMe, by decide +kernel, gw_w1 106 (by decide +kernel) rfl, rfl, rfl⟩
theorem f_Me_15 : gw_F "CostChecker$Method" 15 1 2 2 true := ⟨gw_kMe, by decide +kernel, gw_w1 107 (by decide +kernel) rfl, rfl, rfl⟩
theorem f_Ma_74 : gw_F "CostChecker$Machine" 74 1 2 2 true := ⟨gw_kMe, by decide +kernel, gw_w1 108 (by decide +kernel) rfl, rfl, rfl⟩
theorem f_Ch_107 : gw_F "CostChecker$Checker" 107 1 2 2 true := ⟨gw_kMe, by decide +kernel, gw_w1 109 (by decide +kernel) rfl, rfl, rfl⟩
theorem f_CC_150 : gw_F "CostChecker" 150 1 2 2 true := ⟨gw_kMe, by decide +kernel, gw_w1 110 (by decide +kernel) rfl, rfl, rfl⟩
theorem f_Ch_33 : gw_F "CostChecker$Checker" 33 1 3 0 false := ⟨gw_kMe, by decide +kernel, gw_w1 111 (by decide +kernel) rfl, rfl, rfl⟩
theorem f_Me_32 : gw_F "CostChecker$Method" 32 1 3 0 false := ⟨gw_kMe, by decide +kernel, gw_w1 112 (by decide +kernel) rfl, rfl, rfl⟩
theorem f_CC_54 : gw_F "CostChecker" 54 1 3 0 false := ⟨gw_kMe, by decide +kernel, gw_w1 113 (by decide +kernel) rfl, rfl, rfl⟩
theorem f_Me_20 : gw_F "CostChecker$Method" 20 1 4 2 true := ⟨gw_kMe, by decide +kernel, gw_w1 114 (by decide +kernel) rfl, rfl, rfl⟩
theorem f_Ch_42 : gw_F "CostChecker$Checker" 42 1 4 2 true := ⟨gw_kMe, by decide +kernel, gw_w1 115 (by decide +kernel) rfl, rfl, rfl⟩
theorem f_CC_105 : gw_F "CostChecker" 105 1 4 2 true := ⟨gw_kMe, by decide +kernel, gw_w1 116 (by decide +kernel) rfl, rfl, rfl⟩
theorem f_Me_29 : gw_F "CostChecker$Method" 29 1 5 0 false := ⟨gw_kMe, by decide +kernel, gw_w1 117 (by decide +kernel) rfl, rfl, rfl⟩
theorem f_Ch_39 : gw_F "CostChecker$Checker" 39 1 5 0 false := ⟨gw_kMe, by decide +kernel, gw_w1 118 (by decide +kernel) rfl, rfl, rfl⟩
theorem f_Ch_169 : gw_F "CostChecker$Checker" 169 1 6 3 false := ⟨gw_kMe, by decide +kernel, gw_w1 119 (by decide +kernel) rfl, rfl, rfl⟩
theorem f_CC_96 : gw_F "CostChecker" 96 1 6 3 false := ⟨gw_kMe, by decide +kernel, gw_w1 120 (by decide +kernel) rfl, rfl, rfl⟩
theorem f_CC_121 : gw_F "CostChecker" 121 1 7 0 false := ⟨gw_kMe, by decide +kernel, gw_w1 121 (by decide +kernel) rfl, rfl, rfl⟩
theorem f_Fr_9 : gw_F "CostChecker$Frame" 9 5 0 2 true := ⟨gw_kFr, by decide +kernel, gw_w1 152 (by decide +kernel) rfl, rfl, rfl⟩
theorem f_Ma_89 : gw_F "CostChecker$Machine" 89 5 0 2 true := ⟨gw_kFr, by decide +kernel, gw_w1 153 (by decide +kernel) rfl, rfl, rfl⟩
theorem f_Fr_15 : gw_F "CostChecker$Frame" 15 5 1 2 true := ⟨gw_kFr, by decide +kernel, gw_w1 154 (by decide +kernel) rfl, rfl, rfl⟩
theorem f_Fr_25 : gw_F "CostChecker$Frame" 25 5 2 0 false := ⟨gw_kFr, by decide +kernel, gw_w1 155 (by decide +kernel) rfl, rfl, rfl⟩
theorem f_Ma_62 : gw_F "CostChecker$Machine" 62 5 2 0 false := ⟨gw_kFr, by decide +kernel, gw_w1 156 (by decide +kernel) rfl, rfl, rfl⟩
theorem f_Fr_18 : gw_F "CostChecker$Frame" 18 5 3 0 false := ⟨gw_kFr, by decide +kernel, gw_w1 157 (by decide +kernel) rfl, rfl, rfl⟩
theorem f_Ma_56 : gw_F "CostChecker$Machine" 56 5 3 0 false := ⟨gw_kFr, by decide +kernel, gw_w1 158 (by decide +kernel) rfl, rfl, rfl⟩
theorem f_Fr_22 : gw_F "CostChecker$Frame" 22 5 4 0 false := ⟨gw_kFr, by decide +kernel, gw_w1 159 (by decide +kernel) rfl, rfl, rfl⟩
theorem f_Ma_59 : gw_F "CostChecker$Machine" 59 5 4 0 false := ⟨gw_kFr, by decide +kernel, gw_w1 160 (by decide +kernel) rfl, rfl, rfl⟩
theorem f_Ma_21 : gw_F "CostChecker$Machine" 21 4 0 2 true := ⟨gw_kMa, by decide +kernel, gw_w1 172 (by decide +kernel) rfl, rfl, rfl⟩
theorem f_Ma_11 : gw_F "CostChecker$Machine" 11 4 1 2 true := ⟨gw_kMa, by decide +kernel, gw_w1 173 (by decide +kernel) rfl, rfl, rfl⟩
theorem f_Ma_45 : gw_F "CostChecker$Machine" 45 4 2 0 false := ⟨gw_kMa, by decide +kernel, gw_w1 174 (by decide +kernel) rfl, rfl, rfl⟩
theorem f_Ma_17 : gw_F "CostChecker$Machine" 17 4 3 2 true := ⟨gw_kMa, by decide +kernel, gw_w1 175 (by decide +kernel) rfl, rfl, rfl⟩
theorem f_Ma_26 : gw_F "CostChecker$Machine" 26 4 4 0 false := ⟨gw_kMa, by decide +kernel, gw_w1 176 (by decide +kernel) rfl, rfl, rfl⟩
theorem f_Ma_42 : gw_F "CostChecker$Machine" 42 4 5 0 false := ⟨gw_kMa, by decide +kernel, gw_w1 177 (by decide +kernel) rfl, rfl, rfl⟩
theorem f_Ma_30 : gw_F "CostChecker$Machine" 30 4 6 0 false := ⟨gw_kMa, by decide +kernel, gw_w1 178 (by decide +kernel) rfl, rfl, rfl⟩
theorem f_CC_134 : gw_F "CostChecker" 134 4 6 0 false := ⟨gw_kMa, by decide +kernel, gw_w1 179 (by decide +kernel) rfl, rfl, rfl⟩
theorem f_Ma_33 : gw_F "CostChecker$Machine" 33 4 7 0 false := ⟨gw_kMa, by decide +kernel, gw_w1 180 (by decide +kernel) rfl, rfl, rfl⟩
theorem f_CC_137 : gw_F "CostChecker" 137 4 7 0 false := ⟨gw_kMa, by decide +kernel, gw_w1 181 (by decide +kernel) rfl, rfl, rfl⟩
theorem f_Ma_36 : gw_F "CostChecker$Machine" 36 4 8 0 false := ⟨gw_kMa, by decide +kernel, gw_w1 182 (by decide +kernel) rfl, rfl, rfl⟩
theorem f_CC_140 : gw_F "CostChecker" 140 4 8 0 false := ⟨gw_kMa, by decide +kernel, gw_w1 183 (by decide +kernel) rfl, rfl, rfl⟩
theorem f_Ma_39 : gw_F "CostChecker$Machine" 39 4 9 0 false := ⟨gw_kMa, by decide +kernel, gw_w1 184 (by decide +kernel) rfl, rfl, rfl⟩
theorem f_CC_143 : gw_F "CostChecker" 143 4 9 0 false := ⟨gw_kMa, by decide +kernel, gw_w1 185 (by decide +kernel) rfl, rfl, rfl⟩
theorem f_Sy_9 : gw_F "CostChecker$Symbols" 9 8 0 2 true := ⟨gw_kSy, by decide +kernel, gw_w1 221 (by decide +kernel) rfl, rfl, rfl⟩
theorem f_Po_28 : gw_F "CostChecker$Potential" 28 8 0 2 true := ⟨gw_kSy, by decide +kernel, gw_w1 222 (by decide +kernel) rfl, rfl, rfl⟩
theorem f_Ba_48 : gw_F "CostChecker$Balance" 48 8 0 2 true := ⟨gw_kSy, by decide +kernel, gw_w1 223 (by decide +kernel) rfl, rfl, rfl⟩
theorem f_Kn_47 : gw_F "CostChecker$Known" 47 8 0 2 true := ⟨gw_kSy, by decide +kernel, gw_w1 224 (by decide +kernel) rfl, rfl, rfl⟩
theorem f_Pa_104 : gw_F "CostChecker$Path" 104 8 0 2 true := ⟨gw_kSy, by decide +kernel, gw_w1 225 (by decide +kernel) rfl, rfl, rfl⟩
theorem f_Sy_15 : gw_F "CostChecker$Symbols" 15 8 1 2 true := ⟨gw_kSy, by decide +kernel, gw_w1 226 (by decide +kernel) rfl, rfl, rfl⟩
theorem f_Ba_43 : gw_F "CostChecker$Balance" 43 8 1 2 true := ⟨gw_kSy, by decide +kernel, gw_w1 227 (by decide +kernel) rfl, rfl, rfl⟩
theorem f_Kn_52 : gw_F "CostChecker$Known" 52 8 1 2 true := ⟨gw_kSy, by decide +kernel, gw_w1 228 (by decide +kernel) rfl, rfl, rfl⟩
theorem f_Pa_107 : gw_F "CostChecker$Path" 107 8 1 2 true := ⟨gw_kSy, by decide +kernel, gw_w1 229 (by decide +kernel) rfl, rfl, rfl⟩
theorem f_Kn_9 : gw_F "CostChecker$Known" 9 9 0 2 true := ⟨gw_kKn, by decide +kernel, gw_w2 9 (by decide +kernel) rfl, rfl, rfl⟩
theorem f_Ba_9 : gw_F "CostChecker$Balance" 9 10 0 2 true := ⟨gw_kBa, by decide +kernel, gw_w2 20 (by decide +kernel) rfl, rfl, rfl⟩
theorem f_Ba_15 : gw_F "CostChecker$Balance" 15 10 1 1 false := ⟨gw_kBa, by decide +kernel, gw_w2 21 (by decide +kernel) rfl, rfl, rfl⟩
theorem f_Pa_90 : gw_F "CostChecker$Path" 90 10 1 1 false := ⟨gw_kBa, by decide +kernel, gw_w2 22 (by decide +kernel) rfl, rfl, rfl⟩
theorem f_Pa_12 : gw_F "CostChecker$Path" 12 7 0 2 true := ⟨gw_kPa, by decide +kernel, gw_w2 28 (by decide +kernel) rfl, rfl, rfl⟩
theorem f_Ch_190 : gw_F "CostChecker$Checker" 190 7 0 2 true := ⟨gw_kPa, by decide +kernel, gw_w2 29 (by decide +kernel) rfl, rfl, rfl⟩
theorem f_Pa_18 : gw_F "CostChecker$Path" 18 7 1 2 true := ⟨gw_kPa, by decide +kernel, gw_w2 30 (by decide +kernel) rfl, rfl, rfl⟩
theorem f_Ch_141 : gw_F "CostChecker$Checker" 141 7 1 2 true := ⟨gw_kPa, by decide +kernel, gw_w2 31 (by decide +kernel) rfl, rfl, rfl⟩
theorem f_Pa_22 : gw_F "CostChecker$Path" 22 7 2 2 true := ⟨gw_kPa, by decide +kernel, gw_w2 32 (by decide +kernel) rfl, rfl, rfl⟩
theorem f_Ch_144 : gw_F "CostChecker$Checker" 144 7 2 2 true := ⟨gw_kPa, by decide +kernel, gw_w2 33 (by decide +kernel) rfl, rfl, rfl⟩
theorem f_Pa_50 : gw_F "CostChecker$Path" 50 7 3 0 false := ⟨gw_kPa, by decide +kernel, gw_w2 34 (by decide +kernel) rfl, rfl, rfl⟩
theorem f_Ch_96 : gw_F "CostChecker$Checker" 96 7 3 0 false := ⟨gw_kPa, by decide +kernel, gw_w2 35 (by decide +kernel) rfl, rfl, rfl⟩
theorem f_Pa_46 : gw_F "CostChecker$Path" 46 7 4 0 false := ⟨gw_kPa, by decide +kernel, gw_w2 36 (by decide +kernel) rfl, rfl, rfl⟩
theorem f_Ch_80 : gw_F "CostChecker$Checker" 80 7 4 0 false := ⟨gw_kPa, by decide +kernel, gw_w2 37 (by decide +kernel) rfl, rfl, rfl⟩
theorem f_Pa_47 : gw_F "CostChecker$Path" 47 7 5 0 false := ⟨gw_kPa, by decide +kernel, gw_w2 38 (by decide +kernel) rfl, rfl, rfl⟩
theorem f_Ch_85 : gw_F "CostChecker$Checker" 85 7 5 0 false := ⟨gw_kPa, by decide +kernel, gw_w2 39 (by decide +kernel) rfl, rfl, rfl⟩
theorem f_Pa_29 : gw_F "CostChecker$Path" 29 7 6 2 true := ⟨gw_kPa, by decide +kernel, gw_w2 40 (by decide +kernel) rfl, rfl, rfl⟩
theorem f_Ch_59 : gw_F "CostChecker$Checker" 59 7 6 2 true := ⟨gw_kPa, by decide +kernel, gw_w2 41 (by decide +kernel) rfl, rfl, rfl⟩
theorem f_Pa_35 : gw_F "CostChecker$Path" 35 7 7 2 true := ⟨gw_kPa, by decide +kernel, gw_w2 42 (by decide +kernel) rfl, rfl, rfl⟩
theorem f_Ch_152 : gw_F "CostChecker$Checker" 152 7 7 2 true := ⟨gw_kPa, by decide +kernel, gw_w2 43 (by decide +kernel) rfl, rfl, rfl⟩
theorem f_Ch_24 : gw_F "CostChecker$Checker" 24 6 0 2 true := ⟨gw_kCh, by decide +kernel, gw_w2 61 (by decide +kernel) rfl, rfl, rfl⟩
theorem f_Ch_28 : gw_F "CostChecker$Checker" 28 6 1 2 false := ⟨gw_kCh, by decide +kernel, gw_w2 62 (by decide +kernel) rfl, rfl, rfl⟩
theorem f_Ch_11 : gw_F "CostChecker$Checker" 11 6 2 2 true := ⟨gw_kCh, by decide +kernel, gw_w2 63 (by decide +kernel) rfl, rfl, rfl⟩
theorem f_Ch_20 : gw_F "CostChecker$Checker" 20 6 3 2 true := ⟨gw_kCh, by decide +kernel, gw_w2 64 (by decide +kernel) rfl, rfl, rfl⟩
theorem f_Ch_73 : gw_F "CostChecker$Checker" 73 6 4 0 false := ⟨gw_kCh, by decide +kernel, gw_w2 65 (by decide +kernel) rfl, rfl, rfl⟩
theorem f_CC_14 : gw_F "CostChecker" 14 0 0 2 true := ⟨gw_kCC, by decide +kernel, gw_w2 77 (by decide +kernel) rfl, rfl, rfl⟩
theorem f_CC_23 : gw_F "CostChecker" 23 0 1 2 true := ⟨gw_kCC, by decide +kernel, gw_w2 78 (by decide +kernel) rfl, rfl, rfl⟩
theorem f_CC_30 : gw_F "CostChecker" 30 0 2 2 true := ⟨gw_kCC, by decide +kernel, gw_w2 79 (by decide +kernel) rfl, rfl, rfl⟩
theorem f_CC_34 : gw_F "CostChecker" 34 0 3 2 true := ⟨gw_kCC, by decide +kernel, gw_w2 80 (by decide +kernel) rfl, rfl, rfl⟩
theorem f_CC_167 : Cond.fieldLink "CostChecker" 167 gw_tC gw_tN "[I" ∈ gw_all := gw_w3 17 (by decide +kernel) rfl
theorem f_CC_170 : Cond.fieldLink "CostChecker" 170 gw_tC gw_pN "[I" ∈ gw_all := gw_w3 19 (by decide +kernel) rfl
theorem f_Mo_7 : gw_F "CostCheckerModel" 7 11 0 2 true := ⟨gw_kMo, by decide +kernel, gw_w3 212 (by decide +kernel) rfl, rfl, rfl⟩
theorem f_Mo_13 : gw_F "CostCheckerModel" 13 11 1 2 true := ⟨gw_kMo, by decide +kernel, gw_w3 213 (by decide +kernel) rfl, rfl, rfl⟩
theorem f_Mo_16 : gw_F "CostCheckerModel" 16 11 2 2 true := ⟨gw_kMo, by decide +kernel, gw_w3 214 (by decide +kernel) rfl, rfl, rfl⟩
theorem f_Mo_19 : gw_F "CostCheckerModel" 19 11 3 2 true := ⟨gw_kMo, by decide +kernel, gw_w3 215 (by decide +kernel) rfl, rfl, rfl⟩
theorem f_Mo_23 : gw_F "CostCheckerModel" 23 11 4 2 true := ⟨gw_kMo, by decide +kernel, gw_w3 216 (by decide +kernel) rfl, rfl, rfl⟩
theorem f_Mo_26 : gw_F "CostCheckerModel" 26 11 5 2 true := ⟨gw_kMo, by decide +kernel, gw_w3 217 (by decide +kernel) rfl, rfl, rfl⟩
theorem f_Mo_29 : gw_F "CostCheckerModel" 29 11 6 2 true := ⟨gw_kMo, by decide +kernel, gw_w3 218 (by decide +kernel) rfl, rfl, rfl⟩
theorem f_Mo_32 : gw_F "CostCheckerModel" 32 11 7 2 true := ⟨gw_kMo, by decide +kernel, gw_w3 219 (by decide +kernel) rfl, rfl, rfl⟩
theorem f_Mo_35 : gw_F "CostCheckerModel" 35 11 8 2 true := ⟨gw_kMo, by decide +kernel, gw_w3 220 (by decide +kernel) rfl, rfl, rfl⟩
theorem f_Mo_38 : gw_F "CostCheckerModel" 38 11 9 2 true := ⟨gw_kMo, by decide +kernel, gw_w3 221 (by decide +kernel) rfl, rfl, rfl⟩
theorem f_Mo_41 : gw_F "CostCheckerModel" 41 11 10 2 true := ⟨gw_kMo, by decide +kernel, gw_w3 222 (by decide +kernel) rfl, rfl, rfl⟩
theorem f_Mo_44 : gw_F "CostCheckerModel" 44 11 11 2 true := ⟨gw_kMo, by decide +kernel, gw_w3 223 (by decide +kernel) rfl, rfl, rfl⟩
theorem f_Mo_47 : gw_F "CostCheckerModel" 47 11 12 2 true := ⟨gw_kMo, by decide +kernel, gw_w3 224 (by decide +kernel) rfl, rfl, rfl⟩
theorem f_Mo_50 : gw_F "CostCheckerModel" 50 11 13 2 true := ⟨gw_kMo, by decide +kernel, gw_w3 225 (by decide +kernel) rfl, rfl, rfl⟩
theorem f_Mo_53 : gw_F "CostCheckerModel" 53 11 14 2 true := ⟨gw_kMo, by decide +kernel, gw_w3 226 (by decide +kernel) rfl, rfl, rfl⟩
theorem f_Mo_56 : gw_F "CostCheckerModel" 56 11 15 2 true := ⟨gw_kMo, by decide +kernel, gw_w3 227 (by decide +kernel) rfl, rfl, rfl⟩
theorem f_Mo_149 : gw_F "CostCheckerModel" 149 11 16 0 false := ⟨gw_kMo, by decide +kernel, gw_w3 228 (by decide +kernel) rfl, rfl, rfl⟩
theorem f_Mo_153 : gw_F "CostCheckerModel" 153 11 17 0 false := ⟨gw_kMo, by decide +kernel, gw_w3 229 (by decide +kernel) rfl, rfl, rfl⟩
theorem f_Mo_60 : gw_F "CostCheckerModel" 60 11 18 2 true := ⟨gw_kMo, by decide +kernel, gw_w3 230 (by decide +kernel) rfl, rfl, rfl⟩
theorem f_Mo_63 : gw_F "CostCheckerModel" 63 11 19 2 true := ⟨gw_kMo, by decide +kernel, gw_w3 231 (by decide +kernel) rfl, rfl, rfl⟩
theorem f_Mo_66 : gw_F "CostCheckerModel" 66 11 20 2 true := ⟨gw_kMo, by decide +kernel, gw_w3 232 (by decide +kernel) rfl, rfl, rfl⟩
theorem f_Mo_238 : gw_F "CostCheckerModel" 238 11 21 0 false := ⟨gw_kMo, by decide +kernel, gw_w3 233 (by decide +kernel) rfl, rfl, rfl⟩
theorem f_Mo_69 : gw_F "CostCheckerModel" 69 11 22 2 true := ⟨gw_kMo, by decide +kernel, gw_w3 234 (by decide +kernel) rfl, rfl, rfl⟩
theorem f_Mo_72 : gw_F "CostCheckerModel" 72 11 23 2 true := ⟨gw_kMo, by decide +kernel, gw_w3 235 (by decide +kernel) rfl, rfl, rfl⟩
theorem f_Mo_75 : gw_F "CostCheckerModel" 75 11 24 2 true := ⟨gw_kMo, by decide +kernel, gw_w3 236 (by decide +kernel) rfl, rfl, rfl⟩
theorem f_Mo_78 : gw_F "CostCheckerModel" 78 11 25 2 true := ⟨gw_kMo, by decide +kernel, gw_w3 237 (by decide +kernel) rfl, rfl, rfl⟩
theorem f_Mo_81 : gw_F "CostCheckerModel" 81 11 26 2 true := ⟨gw_kMo, by decide +kernel, gw_w3 238 (by decide +kernel) rfl, rfl, rfl⟩
theorem f_Mo_241 : gw_F "CostCheckerModel" 241 11 27 0 false := ⟨gw_kMo, by decide +kernel, gw_w3 239 (by decide +kernel) rfl, rfl, rfl⟩
theorem f_Mo_247 : gw_F "CostCheckerModel" 247 11 28 0 false := ⟨gw_kMo, by decide +kernel, gw_w4 0 (by decide +kernel) rfl, rfl, rfl⟩
theorem f_Mo_250 : gw_F "CostCheckerModel" 250 11 29 0 false := ⟨gw_kMo, by decide +kernel, gw_w4 1 (by decide +kernel) rfl, rfl, rfl⟩
theorem f_Mo_253 : gw_F "CostCheckerModel" 253 11 30 0 false := ⟨gw_kMo, by decide +kernel, gw_w4 2 (by decide +kernel) rfl, rfl, rfl⟩
theorem f_Mo_244 : gw_F "CostCheckerModel" 244 11 31 0 false := ⟨gw_kMo, by decide +kernel, gw_w4 3 (by decide +kernel) rfl, rfl, rfl⟩
theorem f_Mo_256 : gw_F "CostCheckerModel" 256 11 32 0 false := ⟨gw_kMo, by decide +kernel, gw_w4 4 (by decide +kernel) rfl, rfl, rfl⟩
abbrev y_CC_init : gw_Y := (n_CC_init, prog_1_method_1_code, 3, none)
abbrev y_Me_init : gw_Y := (n_Me_init, prog_8_method_1_code, 3, none)
abbrev y_Cu_init : gw_Y := (n_Cu_init, prog_4_method_1_code, 2, none)
abbrev y_Po_init : gw_Y := (n_Po_init, prog_10_method_1_code, 1, none)
abbrev y_Ma_init : gw_Y := (n_Ma_init, prog_7_method_1_code, 3, none)
abbrev y_Fr_init : gw_Y := (n_Fr_init, prog_5_method_1_code, 1, none)
abbrev y_Ch_init : gw_Y := (n_Ch_init, prog_3_method_1_code, 3, none)
abbrev y_Sy_init : gw_Y := (n_Sy_init, prog_11_method_1_code, 1, none)
abbrev y_Pa_init : gw_Y := (n_Pa_init, prog_9_method_1_code, 2, none)
abbrev y_Kn_init : gw_Y := (n_Kn_init, prog_6_method_1_code, 1, none)
abbrev y_Ba_init : gw_Y := (n_Ba_init, prog_2_method_1_code, 1, none)
abbrev y_CC_put : gw_Y := (n_CC_put, prog_1_method_2_code, 5, some .int)
abbrev y_CC_methodAt : gw_Y := (n_CC_methodAt, prog_1_method_15_code, 2, some (.object "CostChecker$Method"))
abbrev y_CC_isBetween : gw_Y := (n_CC_isBetween, prog_1_method_19_code, 3, some .boolean)
abbrev y_Me_append : gw_Y := (n_Me_append, prog_8_method_3_code, 3, some .boolean)
abbrev y_CC_noteChange : gw_Y := (n_CC_noteChange, prog_1_method_17_code, 4, some .boolean)
abbrev y_CC_clear : gw_Y := (n_CC_clear, prog_1_method_3_code, 3, some .boolean)
abbrev y_Me_reset : gw_Y := (n_Me_reset, prog_8_method_2_code, 1, none)
abbrev y_Cu_reset : gw_Y := (n_Cu_reset, prog_4_method_2_code, 3, none)
abbrev y_Po_reset : gw_Y := (n_Po_reset, prog_10_method_2_code, 1, none)
abbrev y_CC_cut : gw_Y := (n_CC_cut, prog_1_method_4_code, 4, some .boolean)
abbrev y_Me_addCut : gw_Y := (n_Me_addCut, prog_8_method_6_code, 4, some .boolean)
abbrev y_Me_findCut : gw_Y := (n_Me_findCut, prog_8_method_5_code, 3, some (.object "CostChecker$Cut"))
abbrev y_CC_claim : gw_Y := (n_CC_claim, prog_1_method_5_code, 7, some .boolean)
abbrev y_CC_cutAt : gw_Y := (n_CC_cutAt, prog_1_method_16_code, 4, some (.object "CostChecker$Cut"))
abbrev y_CC_areTwoSides : gw_Y := (n_CC_areTwoSides, prog_1_method_23_code, 2, some .boolean)
abbrev y_Cu_addClaim : gw_Y := (n_Cu_addClaim, prog_4_method_3_code, 4, some .boolean)
abbrev y_CC_base : gw_Y := (n_CC_base, prog_1_method_6_code, 6, some .boolean)
abbrev y_CC_isPotential : gw_Y := (n_CC_isPotential, prog_1_method_22_code, 1, some .boolean)
abbrev y_CC_term : gw_Y := (n_CC_term, prog_1_method_7_code, 7, some .boolean)
abbrev y_Po_addTerm : gw_Y := (n_Po_addTerm, prog_10_method_3_code, 4, some .boolean)
abbrev y_CC_check : gw_Y := (n_CC_check, prog_1_method_8_code, 4, some .int)
abbrev y_Ch_answerFor : gw_Y := (n_Ch_answerFor, prog_3_method_2_code, 4, some .int)
abbrev y_Ch_reasonAtCut : gw_Y := (n_Ch_reasonAtCut, prog_3_method_3_code, 3, some .int)
abbrev y_Pa_beginAt : gw_Y := (n_Pa_beginAt, prog_9_method_2_code, 3, some .boolean)
abbrev y_Sy_standForThemselves : gw_Y := (n_Sy_standForThemselves, prog_11_method_3_code, 2, none)
abbrev y_Sy_set : gw_Y := (n_Sy_set, prog_11_method_2_code, 5, none)
abbrev y_Ba_reset : gw_Y := (n_Ba_reset, prog_2_method_2_code, 2, none)
abbrev y_Ba_addPotential : gw_Y := (n_Ba_addPotential, prog_2_method_5_code, 9, none)
abbrev y_Ba_addDifference : gw_Y := (n_Ba_addDifference, prog_2_method_4_code, 5, none)
abbrev y_Kn_forgetAll : gw_Y := (n_Kn_forgetAll, prog_6_method_2_code, 3, none)
abbrev y_Kn_learnClaims : gw_Y := (n_Kn_learnClaims, prog_6_method_6_code, 3, some .boolean)
abbrev y_Kn_learn : gw_Y := (n_Kn_learn, prog_6_method_5_code, 9, some .boolean)
abbrev y_Kn_boundOf : gw_Y := (n_Kn_boundOf, prog_6_method_4_code, 3, some .long)
abbrev y_Kn_allowsNegative : gw_Y := (n_Kn_allowsNegative, prog_6_method_9_code, 7, some .boolean)
abbrev y_Ch_reasonFrom : gw_Y := (n_Ch_reasonFrom, prog_3_method_4_code, 9, some .int)
abbrev y_Me_hasPlace : gw_Y := (n_Me_hasPlace, prog_8_method_4_code, 2, some .boolean)
abbrev y_Ch_reasonAtEnd : gw_Y := (n_Ch_reasonAtEnd, prog_3_method_8_code, 4, some .int)
abbrev y_Kn_showsClaims : gw_Y := (n_Kn_showsClaims, prog_6_method_7_code, 8, some .boolean)
abbrev y_Po_speaksOfNothing : gw_Y := (n_Po_speaksOfNothing, prog_10_method_5_code, 3, some .boolean)
abbrev y_Ba_isShownNotNegative : gw_Y := (n_Ba_isShownNotNegative, prog_2_method_7_code, 10, some .boolean)
abbrev y_CC_isCramped : gw_Y := (n_CC_isCramped, prog_1_method_24_code, 7, some .boolean)
abbrev y_Pa_countInstruction : gw_Y := (n_Pa_countInstruction, prog_9_method_4_code, 1, none)
abbrev y_Ch_reasonBehind : gw_Y := (n_Ch_reasonBehind, prog_3_method_5_code, 4, some .int)
abbrev y_Pa_drop : gw_Y := (n_Pa_drop, prog_9_method_6_code, 2, none)
abbrev y_Pa_copyFrom : gw_Y := (n_Pa_copyFrom, prog_9_method_3_code, 3, none)
abbrev y_Sy_copyFrom : gw_Y := (n_Sy_copyFrom, prog_11_method_4_code, 2, none)
abbrev y_Kn_copyFrom : gw_Y := (n_Kn_copyFrom, prog_6_method_3_code, 2, none)
abbrev y_Ba_copyFrom : gw_Y := (n_Ba_copyFrom, prog_2_method_3_code, 2, none)
abbrev y_Pa_learnLess : gw_Y := (n_Pa_learnLess, prog_9_method_10_code, 6, some .boolean)
abbrev y_Ch_reasonOfNew : gw_Y := (n_Ch_reasonOfNew, prog_3_method_6_code, 5, some .int)
abbrev y_Kn_showsNotNegative : gw_Y := (n_Kn_showsNotNegative, prog_6_method_8_code, 4, some .boolean)
abbrev y_Ba_payWords : gw_Y := (n_Ba_payWords, prog_2_method_6_code, 4, none)
abbrev y_Ch_reasonOfCall : gw_Y := (n_Ch_reasonOfCall, prog_3_method_7_code, 5, some .int)
abbrev y_Pa_push : gw_Y := (n_Pa_push, prog_9_method_5_code, 4, none)
abbrev y_Pa_performPlain : gw_Y := (n_Pa_performPlain, prog_9_method_7_code, 3, none)
abbrev y_Pa_pushSum : gw_Y := (n_Pa_pushSum, prog_9_method_8_code, 5, none)
abbrev y_Pa_pushDifference : gw_Y := (n_Pa_pushDifference, prog_9_method_9_code, 5, none)
abbrev y_CC_accepted : gw_Y := (n_CC_accepted, prog_1_method_9_code, 3, some .boolean)
abbrev y_CC_bound : gw_Y := (n_CC_bound, prog_1_method_10_code, 8, some .long)
abbrev y_CC_areValues : gw_Y := (n_CC_areValues, prog_1_method_21_code, 3, some .boolean)
abbrev y_CC_isValue : gw_Y := (n_CC_isValue, prog_1_method_20_code, 1, some .boolean)
abbrev y_Cu_holdsFor : gw_Y := (n_Cu_holdsFor, prog_4_method_4_code, 3, some .boolean)
abbrev y_Po_valueFor : gw_Y := (n_Po_valueFor, prog_10_method_4_code, 5, some .long)
abbrev y_CC_depth : gw_Y := (n_CC_depth, prog_1_method_11_code, 3, some .int)
abbrev y_CC_measureDepth : gw_Y := (n_CC_measureDepth, prog_1_method_18_code, 5, none)
abbrev y_CC_feed : gw_Y := (n_CC_feed, prog_1_method_12_code, 2, some .boolean)
abbrev y_Ma_addInput : gw_Y := (n_Ma_addInput, prog_7_method_2_code, 2, some .boolean)
abbrev y_CC_run : gw_Y := (n_CC_run, prog_1_method_13_code, 6, some .int)
abbrev y_Ma_runToEnd : gw_Y := (n_Ma_runToEnd, prog_7_method_3_code, 6, some .int)
abbrev y_Fr_enter : gw_Y := (n_Fr_enter, prog_5_method_2_code, 5, none)
abbrev y_Ma_step : gw_Y := (n_Ma_step, prog_7_method_4_code, 6, some .int)
abbrev y_Ma_perform : gw_Y := (n_Ma_perform, prog_7_method_5_code, 4, some .int)
abbrev y_Fr_push : gw_Y := (n_Fr_push, prog_5_method_3_code, 2, none)
abbrev y_Fr_pop : gw_Y := (n_Fr_pop, prog_5_method_4_code, 1, some .int)
abbrev y_Ma_pushSum : gw_Y := (n_Ma_pushSum, prog_7_method_6_code, 3, some .int)
abbrev y_Ma_growLocal : gw_Y := (n_Ma_growLocal, prog_7_method_7_code, 3, some .int)
abbrev y_Ma_goIf : gw_Y := (n_Ma_goIf, prog_7_method_8_code, 5, none)
abbrev y_Ma_takeWords : gw_Y := (n_Ma_takeWords, prog_7_method_9_code, 2, some .int)
abbrev y_Ma_enterCalled : gw_Y := (n_Ma_enterCalled, prog_7_method_10_code, 6, none)
abbrev y_Ma_leave : gw_Y := (n_Ma_leave, prog_7_method_11_code, 2, some .int)
abbrev y_Ma_nextInput : gw_Y := (n_Ma_nextInput, prog_7_method_12_code, 1, some .int)
abbrev y_CC_ran : gw_Y := (n_CC_ran, prog_1_method_14_code, 2, some .int)
abbrev y_Mo_init : gw_Y := (n_Mo_init, prog_13_method_1_code, 2, none)
abbrev y_Mo_put : gw_Y := (n_Mo_put, prog_13_method_4_code, 4, some .int)
abbrev y_Mo_in : gw_Y := (n_Mo_in, prog_13_method_2_code, 6, some .boolean)
abbrev y_Mo_changed : gw_Y := (n_Mo_changed, prog_13_method_3_code, 3, none)
abbrev y_Mo_clear : gw_Y := (n_Mo_clear, prog_13_method_6_code, 2, some .boolean)
abbrev y_Mo_plain : gw_Y := (n_Mo_plain, prog_13_method_5_code, 4, none)
abbrev y_Mo_cut : gw_Y := (n_Mo_cut, prog_13_method_8_code, 3, some .boolean)
abbrev y_Mo_cutAt : gw_Y := (n_Mo_cutAt, prog_13_method_7_code, 4, some .int)
abbrev y_Mo_claim : gw_Y := (n_Mo_claim, prog_13_method_9_code, 8, some .boolean)
abbrev y_Mo_base : gw_Y := (n_Mo_base, prog_13_method_10_code, 6, some .boolean)
abbrev y_Mo_term : gw_Y := (n_Mo_term, prog_13_method_11_code, 8, some .boolean)
abbrev y_Mo_check : gw_Y := (n_Mo_check, prog_13_method_19_code, 6, some .int)
abbrev y_Mo_checkCut : gw_Y := (n_Mo_checkCut, prog_13_method_21_code, 4, some .int)
abbrev y_Mo_begin : gw_Y := (n_Mo_begin, prog_13_method_20_code, 5, none)
abbrev y_Mo_know : gw_Y := (n_Mo_know, prog_13_method_14_code, 9, none)
abbrev y_Mo_least : gw_Y := (n_Mo_least, prog_13_method_13_code, 4, some .long)
abbrev y_Mo_addTerm : gw_Y := (n_Mo_addTerm, prog_13_method_16_code, 15, none)
abbrev y_Mo_findBounds : gw_Y := (n_Mo_findBounds, prog_13_method_12_code, 10, some .boolean)
abbrev y_Mo_negative : gw_Y := (n_Mo_negative, prog_13_method_18_code, 8, some .boolean)
abbrev y_Mo_advance : gw_Y := (n_Mo_advance, prog_13_method_22_code, 13, some .int)
abbrev y_Mo_end : gw_Y := (n_Mo_end, prog_13_method_35_code, 10, some .int)
abbrev y_Mo_localSide : gw_Y := (n_Mo_localSide, prog_13_method_33_code, 3, some .long)
abbrev y_Mo_localNumber : gw_Y := (n_Mo_localNumber, prog_13_method_34_code, 3, some .long)
abbrev y_Mo_follows : gw_Y := (n_Mo_follows, prog_13_method_15_code, 13, some .boolean)
abbrev y_Mo_shown : gw_Y := (n_Mo_shown, prog_13_method_17_code, 13, some .boolean)
abbrev y_Mo_part : gw_Y := (n_Mo_part, prog_13_method_27_code, 16, some .int)
abbrev y_Mo_pop : gw_Y := (n_Mo_pop, prog_13_method_24_code, 3, some .int)
abbrev y_Mo_learn : gw_Y := (n_Mo_learn, prog_13_method_28_code, 9, none)
abbrev y_Mo_memory : gw_Y := (n_Mo_memory, prog_13_method_29_code, 3, some .int)
abbrev y_Mo_called : gw_Y := (n_Mo_called, prog_13_method_32_code, 12, some .int)
abbrev y_Mo_side : gw_Y := (n_Mo_side, prog_13_method_30_code, 4, some .long)
abbrev y_Mo_extra : gw_Y := (n_Mo_extra, prog_13_method_31_code, 4, some .long)
abbrev y_Mo_push : gw_Y := (n_Mo_push, prog_13_method_23_code, 8, none)
abbrev y_Mo_simple : gw_Y := (n_Mo_simple, prog_13_method_25_code, 7, none)
abbrev y_Mo_combine : gw_Y := (n_Mo_combine, prog_13_method_26_code, 11, none)
abbrev y_Mo_accepted : gw_Y := (n_Mo_accepted, prog_13_method_36_code, 2, some .boolean)
abbrev y_Mo_bound : gw_Y := (n_Mo_bound, prog_13_method_37_code, 12, some .long)
abbrev y_Mo_argument : gw_Y := (n_Mo_argument, prog_13_method_38_code, 4, some .long)
abbrev y_Mo_depth : gw_Y := (n_Mo_depth, prog_13_method_39_code, 7, some .int)
abbrev y_Mo_calls : gw_Y := (n_Mo_calls, prog_13_method_41_code, 5, some .boolean)
abbrev y_Mo_greatest : gw_Y := (n_Mo_greatest, prog_13_method_40_code, 2, some .int)
abbrev y_Mo_feed : gw_Y := (n_Mo_feed, prog_13_method_42_code, 2, some .boolean)
abbrev y_Mo_run : gw_Y := (n_Mo_run, prog_13_method_44_code, 6, some .int)
abbrev y_Mo_enter : gw_Y := (n_Mo_enter, prog_13_method_43_code, 6, none)
abbrev y_Mo_makeStep : gw_Y := (n_Mo_makeStep, prog_13_method_48_code, 10, some .int)
abbrev y_Mo_take : gw_Y := (n_Mo_take, prog_13_method_45_code, 2, some .int)
abbrev y_Mo_leave : gw_Y := (n_Mo_leave, prog_13_method_50_code, 3, some .int)
abbrev y_Mo_give : gw_Y := (n_Mo_give, prog_13_method_46_code, 3, none)
abbrev y_Mo_choose : gw_Y := (n_Mo_choose, prog_13_method_49_code, 6, some .int)
abbrev y_Mo_work : gw_Y := (n_Mo_work, prog_13_method_51_code, 7, some .boolean)
abbrev y_Mo_fits : gw_Y := (n_Mo_fits, prog_13_method_47_code, 2, some .boolean)
abbrev y_Mo_ran : gw_Y := (n_Mo_ran, prog_13_method_52_code, 2, some .int)
abbrev y_La_law : gw_Y := (x, code, maxLocals, ret)
theorem o_CC_init : gw_Ok y_CC_init 0 := ⟨gw_w1 19 (by decide +kernel) rfl, gw_w1 1 (by decide +kernel) rfl, ⟨by decide +kernel, by decide +kernel, by decide +kernel⟩, by decide, by decide +kernel⟩
theorem o_Me_init : gw_Ok y_Me_init 1 := ⟨gw_w1 28 (by decide +kernel) rfl, gw_w1 2 (by decide +kernel) rfl, ⟨by decide +kernel, by decide +kernel, by decide +kernel⟩, by decide, by decide +kernel⟩
theorem o_Cu_init : gw_Ok y_Cu_init 0 := ⟨gw_w1 35 (by decide +kernel) rfl, gw_w1 3 (by decide +kernel) rfl, ⟨by decide +kernel, by decide +kernel, by decide +kernel⟩, by decide, by decide +kernel⟩
theorem o_Po_init : gw_Ok y_Po_init 0 := ⟨gw_w1 42 (by decide +kernel) rfl, gw_w1 4 (by decide +kernel) rfl, ⟨by decide +kernel, by decide +kernel, by decide +kernel⟩, by decide, by decide +kernel⟩
theorem o_Ma_init : gw_Ok y_Ma_init 1 := ⟨gw_w1 143 (by decide +kernel) rfl, gw_w1 5 (by decide +kernel) rfl, ⟨by decide +kernel, by decide +kernel, by decide +kernel⟩, by decide, by decide +kernel⟩
theorem o_Fr_init : gw_Ok y_Fr_init 0 := ⟨gw_w1 150 (by decide +kernel) rfl, gw_w1 6 (by decide +kernel) rfl, ⟨by decide +kernel, by decide +kernel, by decide +kernel⟩, by decide, by decide +kernel⟩
theorem o_Ch_init : gw_Ok y_Ch_init 1 := ⟨gw_w1 211 (by decide +kernel) rfl, gw_w1 7 (by decide +kernel) rfl, ⟨by decide +kernel, by decide +kernel, by decide +kernel⟩, by decide, by decide +kernel⟩
theorem o_Sy_init : gw_Ok y_Sy_init 0 := ⟨gw_w1 219 (by decide +kernel) rfl, gw_w1 8 (by decide +kernel) rfl, ⟨by decide +kernel, by decide +kernel, by decide +kernel⟩, by decide, by decide +kernel⟩
theorem o_Pa_init : gw_Ok y_Pa_init 0 := ⟨gw_w1 239 (by decide +kernel) rfl, gw_w1 9 (by decide +kernel) rfl, ⟨by decide +kernel, by decide +kernel, by decide +kernel⟩, by decide, by decide +kernel⟩
theorem o_Kn_init : gw_Ok y_Kn_init 0 := ⟨gw_w2 7 (by decide +kernel) rfl, gw_w1 10 (by decide +kernel) rfl, ⟨by decide +kernel, by decide +kernel, by decide +kernel⟩, by decide, by decide +kernel⟩
theorem o_Ba_init : gw_Ok y_Ba_init 0 := ⟨gw_w2 18 (by decide +kernel) rfl, gw_w1 11 (by decide +kernel) rfl, ⟨by decide +kernel, by decide +kernel, by decide +kernel⟩, by decide, by decide +kernel⟩
theorem o_CC_put : gw_Ok y_CC_put 3 := ⟨gw_w2 93 (by decide +kernel) rfl, gw_w1 1 (by decide +kernel) rfl, ⟨by decide +kernel, by decide +kernel, by decide +kernel⟩, by decide, by decide +kernel⟩
theorem o_CC_methodAt : gw_Ok y_CC_methodAt 1 := ⟨gw_w2 97 (by decide +kernel) rfl, gw_w1 1 (by decide +kernel) rfl, ⟨by decide +kernel, by decide +kernel, by decide +kernel⟩, by decide, by decide +kernel⟩
theorem o_CC_isBetween : gw_Ok y_CC_isBetween 3 := ⟨gw_w2 100 (by decide +kernel) rfl, gw_w1 1 (by decide +kernel) rfl, ⟨by decide +kernel, by decide +kernel, by decide +kernel⟩, by decide, by decide +kernel⟩
theorem o_Me_append : gw_Ok y_Me_append 2 := ⟨gw_w2 104 (by decide +kernel) rfl, gw_w1 2 (by decide +kernel) rfl, ⟨by decide +kernel, by decide +kernel, by decide +kernel⟩, by decide, by decide +kernel⟩
theorem o_CC_noteChange : gw_Ok y_CC_noteChange 2 := ⟨gw_w2 108 (by decide +kernel) rfl, gw_w1 1 (by decide +kernel) rfl, ⟨by decide +kernel, by decide +kernel, by decide +kernel⟩, by decide, by decide +kernel⟩
theorem o_CC_clear : gw_Ok y_CC_clear 1 := ⟨gw_w2 112 (by decide +kernel) rfl, gw_w1 1 (by decide +kernel) rfl, ⟨by decide +kernel, by decide +kernel, by decide +kernel⟩, by decide, by decide +kernel⟩
theorem o_Me_reset : gw_Ok y_Me_reset 0 := ⟨gw_w2 116 (by decide +kernel) rfl, gw_w1 2 (by decide +kernel) rfl, ⟨by decide +kernel, by decide +kernel, by decide +kernel⟩, by decide, by decide +kernel⟩
theorem o_Cu_reset : gw_Ok y_Cu_reset 1 := ⟨gw_w2 120 (by decide +kernel) rfl, gw_w1 3 (by decide +kernel) rfl, ⟨by decide +kernel, by decide +kernel, by decide +kernel⟩, by decide, by decide +kernel⟩
theorem o_Po_reset : gw_Ok y_Po_reset 0 := ⟨gw_w2 124 (by decide +kernel) rfl, gw_w1 4 (by decide +kernel) rfl, ⟨by decide +kernel, by decide +kernel, by decide +kernel⟩, by decide, by decide +kernel⟩
theorem o_CC_cut : gw_Ok y_CC_cut 2 := ⟨gw_w2 128 (by decide +kernel) rfl, gw_w1 1 (by decide +kernel) rfl, ⟨by decide +kernel, by decide +kernel, by decide +kernel⟩, by decide, by decide +kernel⟩
theorem o_Me_addCut : gw_Ok y_Me_addCut 1 := ⟨gw_w2 132 (by decide +kernel) rfl, gw_w1 2 (by decide +kernel) rfl, ⟨by decide +kernel, by decide +kernel, by decide +kernel⟩, by decide, by decide +kernel⟩
theorem o_Me_findCut : gw_Ok y_Me_findCut 1 := ⟨gw_w2 137 (by decide +kernel) rfl, gw_w1 2 (by decide +kernel) rfl, ⟨by decide +kernel, by decide +kernel, by decide +kernel⟩, by decide, by decide +kernel⟩
theorem o_CC_claim : gw_Ok y_CC_claim 5 := ⟨gw_w2 141 (by decide +kernel) rfl, gw_w1 1 (by decide +kernel) rfl, ⟨by decide +kernel, by decide +kernel, by decide +kernel⟩, by decide, by decide +kernel⟩
theorem o_CC_cutAt : gw_Ok y_CC_cutAt 2 := ⟨gw_w2 145 (by decide +kernel) rfl, gw_w1 1 (by decide +kernel) rfl, ⟨by decide +kernel, by decide +kernel, by decide +kernel⟩, by decide, by decide +kernel⟩
theorem o_CC_areTwoSides : gw_Ok y_CC_areTwoSides 2 := ⟨gw_w2 149 (by decide +kernel) rfl, gw_w1 1 (by decide +kernel) rfl, ⟨by decide +kernel, by decide +kernel, by decide +kernel⟩, by decide, by decide +kernel⟩
theorem o_Cu_addClaim : gw_Ok y_Cu_addClaim 3 := ⟨gw_w2 153 (by decide +kernel) rfl, gw_w1 3 (by decide +kernel) rfl, ⟨by decide +kernel, by decide +kernel, by decide +kernel⟩, by decide, by decide +kernel⟩
theorem o_CC_base : gw_Ok y_CC_base 4 := ⟨gw_w2 157 (by decide +kernel) rfl, gw_w1 1 (by decide +kernel) rfl, ⟨by decide +kernel, by decide +kernel, by decide +kernel⟩, by decide, by decide +kernel⟩
theorem o_CC_isPotential : gw_Ok y_CC_isPotential 1 := ⟨gw_w2 160 (by decide +kernel) rfl, gw_w1 1 (by decide +kernel) rfl, ⟨by decide +kernel, by decide +kernel, by decide +kernel⟩, by decide, by decide +kernel⟩
theorem o_CC_term : gw_Ok y_CC_term 5 := ⟨gw_w2 164 (by decide +kernel) rfl, gw_w1 1 (by decide +kernel) rfl, ⟨by decide +kernel, by decide +kernel, by decide +kernel⟩, by decide, by decide +kernel⟩
theorem o_Po_addTerm : gw_Ok y_Po_addTerm 3 := ⟨gw_w2 168 (by decide +kernel) rfl, gw_w1 4 (by decide +kernel) rfl, ⟨by decide +kernel, by decide +kernel, by decide +kernel⟩, by decide, by decide +kernel⟩
theorem o_CC_check : gw_Ok y_CC_check 1 := ⟨gw_w2 172 (by decide +kernel) rfl, gw_w1 1 (by decide +kernel) rfl, ⟨by decide +kernel, by decide +kernel, by decide +kernel⟩, by decide, by decide +kernel⟩
theorem o_Ch_answerFor : gw_Ok y_Ch_answerFor 1 := ⟨gw_w2 176 (by decide +kernel) rfl, gw_w1 7 (by decide +kernel) rfl, ⟨by decide +kernel, by decide +kernel, by decide +kernel⟩, by decide, by decide +kernel⟩
theorem o_Ch_reasonAtCut : gw_Ok y_Ch_reasonAtCut 1 := ⟨gw_w2 180 (by decide +kernel) rfl, gw_w1 7 (by decide +kernel) rfl, ⟨by decide +kernel, by decide +kernel, by decide +kernel⟩, by decide, by decide +kernel⟩
theorem o_Pa_beginAt : gw_Ok y_Pa_beginAt 1 := ⟨gw_w2 184 (by decide +kernel) rfl, gw_w1 9 (by decide +kernel) rfl, ⟨by decide +kernel, by decide +kernel, by decide +kernel⟩, by decide, by decide +kernel⟩
theorem o_Sy_standForThemselves : gw_Ok y_Sy_standForThemselves 0 := ⟨gw_w2 188 (by decide +kernel) rfl, gw_w1 8 (by decide +kernel) rfl, ⟨by decide +kernel, by decide +kernel, by decide +kernel⟩, by decide, by decide +kernel⟩
theorem o_Sy_set : gw_Ok y_Sy_set 3 := ⟨gw_w2 192 (by decide +kernel) rfl, gw_w1 8 (by decide +kernel) rfl, ⟨by decide +kernel, by decide +kernel, by decide +kernel⟩, by decide, by decide +kernel⟩
theorem o_Ba_reset : gw_Ok y_Ba_reset 0 := ⟨gw_w2 196 (by decide +kernel) rfl, gw_w1 11 (by decide +kernel) rfl, ⟨by decide +kernel, by decide +kernel, by decide +kernel⟩, by decide, by decide +kernel⟩
theorem o_Ba_addPotential : gw_Ok y_Ba_addPotential 3 := ⟨gw_w2 200 (by decide +kernel) rfl, gw_w1 11 (by decide +kernel) rfl, ⟨by decide +kernel, by decide +kernel, by decide +kernel⟩, by decide, by decide +kernel⟩
theorem o_Ba_addDifference : gw_Ok y_Ba_addDifference 3 := ⟨gw_w2 204 (by decide +kernel) rfl, gw_w1 11 (by decide +kernel) rfl, ⟨by decide +kernel, by decide +kernel, by decide +kernel⟩, by decide, by decide +kernel⟩
theorem o_Kn_forgetAll : gw_Ok y_Kn_forgetAll 0 := ⟨gw_w2 208 (by decide +kernel) rfl, gw_w1 10 (by decide +kernel) rfl, ⟨by decide +kernel, by decide +kernel, by decide +kernel⟩, by decide, by decide +kernel⟩
theorem o_Kn_learnClaims : gw_Ok y_Kn_learnClaims 1 := ⟨gw_w2 213 (by decide +kernel) rfl, gw_w1 10 (by decide +kernel) rfl, ⟨by decide +kernel, by decide +kernel, by decide +kernel⟩, by decide, by decide +kernel⟩
theorem o_Kn_learn : gw_Ok y_Kn_learn 3 := ⟨gw_w2 217 (by decide +kernel) rfl, gw_w1 10 (by decide +kernel) rfl, ⟨by decide +kernel, by decide +kernel, by decide +kernel⟩, by decide, by decide +kernel⟩
theorem o_Kn_boundOf : gw_Ok y_Kn_boundOf 2 := ⟨gw_w2 221 (by decide +kernel) rfl, gw_w1 10 (by decide +kernel) rfl, ⟨by decide +kernel, by decide +kernel, by decide +kernel⟩, by decide, by decide +kernel⟩
theorem o_Kn_allowsNegative : gw_Ok y_Kn_allowsNegative 1 := ⟨gw_w2 225 (by decide +kernel) rfl, gw_w1 10 (by decide +kernel) rfl, ⟨by decide +kernel, by decide +kernel, by decide +kernel⟩, by decide, by decide +kernel⟩
theorem o_Ch_reasonFrom : gw_Ok y_Ch_reasonFrom 1 := ⟨gw_w2 229 (by decide +kernel) rfl, gw_w1 7 (by decide +kernel) rfl, ⟨by decide +kernel, by decide +kernel, by decide +kernel⟩, by decide, by decide +kernel⟩
theorem o_Me_hasPlace : gw_Ok y_Me_hasPlace 1 := ⟨gw_w2 233 (by decide +kernel) rfl, gw_w1 2 (by decide +kernel) rfl, ⟨by decide +kernel, by decide +kernel, by decide +kernel⟩, by decide, by decide +kernel⟩
theorem o_Ch_reasonAtEnd : gw_Ok y_Ch_reasonAtEnd 2 := ⟨gw_w2 238 (by decide +kernel) rfl, gw_w1 7 (by decide +kernel) rfl, ⟨by decide +kernel, by decide +kernel, by decide +kernel⟩, by decide, by decide +kernel⟩
theorem o_Kn_showsClaims : gw_Ok y_Kn_showsClaims 2 := ⟨gw_w3 2 (by decide +kernel) rfl, gw_w1 10 (by decide +kernel) rfl, ⟨by decide +kernel, by decide +kernel, by decide +kernel⟩, by decide, by decide +kernel⟩
theorem o_Po_speaksOfNothing : gw_Ok y_Po_speaksOfNothing 1 := ⟨gw_w3 6 (by decide +kernel) rfl, gw_w1 4 (by decide +kernel) rfl, ⟨by decide +kernel, by decide +kernel, by decide +kernel⟩, by decide, by decide +kernel⟩
theorem o_Ba_isShownNotNegative : gw_Ok y_Ba_isShownNotNegative 1 := ⟨gw_w3 11 (by decide +kernel) rfl, gw_w1 11 (by decide +kernel) rfl, ⟨by decide +kernel, by decide +kernel, by decide +kernel⟩, by decide, by decide +kernel⟩
theorem o_CC_isCramped : gw_Ok y_CC_isCramped 4 := ⟨gw_w3 16 (by decide +kernel) rfl, gw_w1 1 (by decide +kernel) rfl, ⟨by decide +kernel, by decide +kernel, by decide +kernel⟩, by decide, by decide +kernel⟩
theorem o_Pa_countInstruction : gw_Ok y_Pa_countInstruction 0 := ⟨gw_w3 24 (by decide +kernel) rfl, gw_w1 9 (by decide +kernel) rfl, ⟨by decide +kernel, by decide +kernel, by decide +kernel⟩, by decide, by decide +kernel⟩
theorem o_Ch_reasonBehind : gw_Ok y_Ch_reasonBehind 2 := ⟨gw_w3 28 (by decide +kernel) rfl, gw_w1 7 (by decide +kernel) rfl, ⟨by decide +kernel, by decide +kernel, by decide +kernel⟩, by decide, by decide +kernel⟩
theorem o_Pa_drop : gw_Ok y_Pa_drop 1 := ⟨gw_w3 32 (by decide +kernel) rfl, gw_w1 9 (by decide +kernel) rfl, ⟨by decide +kernel, by decide +kernel, by decide +kernel⟩, by decide, by decide +kernel⟩
theorem o_Pa_copyFrom : gw_Ok y_Pa_copyFrom 1 := ⟨gw_w3 39 (by decide +kernel) rfl, gw_w1 9 (by decide +kernel) rfl, ⟨by decide +kernel, by decide +kernel, by decide +kernel⟩, by decide, by decide +kernel⟩
theorem o_Sy_copyFrom : gw_Ok y_Sy_copyFrom 1 := ⟨gw_w3 43 (by decide +kernel) rfl, gw_w1 8 (by decide +kernel) rfl, ⟨by decide +kernel, by decide +kernel, by decide +kernel⟩, by decide, by decide +kernel⟩
theorem o_Kn_copyFrom : gw_Ok y_Kn_copyFrom 1 := ⟨gw_w3 51 (by decide +kernel) rfl, gw_w1 10 (by decide +kernel) rfl, ⟨by decide +kernel, by decide +kernel, by decide +kernel⟩, by decide, by decide +kernel⟩
theorem o_Ba_copyFrom : gw_Ok y_Ba_copyFrom 1 := ⟨gw_w3 56 (by decide +kernel) rfl, gw_w1 11 (by decide +kernel) rfl, ⟨by decide +kernel, by decide +kernel, by decide +kernel⟩, by decide, by decide +kernel⟩
theorem o_Pa_learnLess : gw_Ok y_Pa_learnLess 1 := ⟨gw_w3 61 (by decide +kernel) rfl, gw_w1 9 (by decide +kernel) rfl, ⟨by decide +kernel, by decide +kernel, by decide +kernel⟩, by decide, by decide +kernel⟩
theorem o_Ch_reasonOfNew : gw_Ok y_Ch_reasonOfNew 1 := ⟨gw_w3 66 (by decide +kernel) rfl, gw_w1 7 (by decide +kernel) rfl, ⟨by decide +kernel, by decide +kernel, by decide +kernel⟩, by decide, by decide +kernel⟩
theorem o_Kn_showsNotNegative : gw_Ok y_Kn_showsNotNegative 2 := ⟨gw_w3 70 (by decide +kernel) rfl, gw_w1 10 (by decide +kernel) rfl, ⟨by decide +kernel, by decide +kernel, by decide +kernel⟩, by decide, by decide +kernel⟩
theorem o_Ba_payWords : gw_Ok y_Ba_payWords 2 := ⟨gw_w3 74 (by decide +kernel) rfl, gw_w1 11 (by decide +kernel) rfl, ⟨by decide +kernel, by decide +kernel, by decide +kernel⟩, by decide, by decide +kernel⟩
theorem o_Ch_reasonOfCall : gw_Ok y_Ch_reasonOfCall 2 := ⟨gw_w3 80 (by decide +kernel) rfl, gw_w1 7 (by decide +kernel) rfl, ⟨by decide +kernel, by decide +kernel, by decide +kernel⟩, by decide, by decide +kernel⟩
theorem o_Pa_push : gw_Ok y_Pa_push 2 := ⟨gw_w3 86 (by decide +kernel) rfl, gw_w1 9 (by decide +kernel) rfl, ⟨by decide +kernel, by decide +kernel, by decide +kernel⟩, by decide, by decide +kernel⟩
theorem o_Pa_performPlain : gw_Ok y_Pa_performPlain 2 := ⟨gw_w3 90 (by decide +kernel) rfl, gw_w1 9 (by decide +kernel) rfl, ⟨by decide +kernel, by decide +kernel, by decide +kernel⟩, by decide, by decide +kernel⟩
theorem o_Pa_pushSum : gw_Ok y_Pa_pushSum 2 := ⟨gw_w3 97 (by decide +kernel) rfl, gw_w1 9 (by decide +kernel) rfl, ⟨by decide +kernel, by decide +kernel, by decide +kernel⟩, by decide, by decide +kernel⟩
theorem o_Pa_pushDifference : gw_Ok y_Pa_pushDifference 2 := ⟨gw_w3 101 (by decide +kernel) rfl, gw_w1 9 (by decide +kernel) rfl, ⟨by decide +kernel, by decide +kernel, by decide +kernel⟩, by decide, by decide +kernel⟩
theorem o_CC_accepted : gw_Ok y_CC_accepted 1 := ⟨gw_w3 105 (by decide +kernel) rfl, gw_w1 1 (by decide +kernel) rfl, ⟨by decide +kernel, by decide +kernel, by decide +kernel⟩, by decide, by decide +kernel⟩
theorem o_CC_bound : gw_Ok y_CC_bound 5 := ⟨gw_w3 109 (by decide +kernel) rfl, gw_w1 1 (by decide +kernel) rfl, ⟨by decide +kernel, by decide +kernel, by decide +kernel⟩, by decide, by decide +kernel⟩
theorem o_CC_areValues : gw_Ok y_CC_areValues 3 := ⟨gw_w3 112 (by decide +kernel) rfl, gw_w1 1 (by decide +kernel) rfl, ⟨by decide +kernel, by decide +kernel, by decide +kernel⟩, by decide, by decide +kernel⟩
theorem o_CC_isValue : gw_Ok y_CC_isValue 1 := ⟨gw_w3 115 (by decide +kernel) rfl, gw_w1 1 (by decide +kernel) rfl, ⟨by decide +kernel, by decide +kernel, by decide +kernel⟩, by decide, by decide +kernel⟩
theorem o_Cu_holdsFor : gw_Ok y_Cu_holdsFor 1 := ⟨gw_w3 122 (by decide +kernel) rfl, gw_w1 3 (by decide +kernel) rfl, ⟨by decide +kernel, by decide +kernel, by decide +kernel⟩, by decide, by decide +kernel⟩
theorem o_Po_valueFor : gw_Ok y_Po_valueFor 1 := ⟨gw_w3 126 (by decide +kernel) rfl, gw_w1 4 (by decide +kernel) rfl, ⟨by decide +kernel, by decide +kernel, by decide +kernel⟩, by decide, by decide +kernel⟩
theorem o_CC_depth : gw_Ok y_CC_depth 1 := ⟨gw_w3 130 (by decide +kernel) rfl, gw_w1 1 (by decide +kernel) rfl, ⟨by decide +kernel, by decide +kernel, by decide +kernel⟩, by decide, by decide +kernel⟩
theorem o_CC_measureDepth : gw_Ok y_CC_measureDepth 1 := ⟨gw_w3 134 (by decide +kernel) rfl, gw_w1 1 (by decide +kernel) rfl, ⟨by decide +kernel, by decide +kernel, by decide +kernel⟩, by decide, by decide +kernel⟩
theorem o_CC_feed : gw_Ok y_CC_feed 1 := ⟨gw_w3 139 (by decide +kernel) rfl, gw_w1 1 (by decide +kernel) rfl, ⟨by decide +kernel, by decide +kernel, by decide +kernel⟩, by decide, by decide +kernel⟩
theorem o_Ma_addInput : gw_Ok y_Ma_addInput 1 := ⟨gw_w3 143 (by decide +kernel) rfl, gw_w1 5 (by decide +kernel) rfl, ⟨by decide +kernel, by decide +kernel, by decide +kernel⟩, by decide, by decide +kernel⟩
theorem o_CC_run : gw_Ok y_CC_run 4 := ⟨gw_w3 147 (by decide +kernel) rfl, gw_w1 1 (by decide +kernel) rfl, ⟨by decide +kernel, by decide +kernel, by decide +kernel⟩, by decide, by decide +kernel⟩
theorem o_Ma_runToEnd : gw_Ok y_Ma_runToEnd 4 := ⟨gw_w3 151 (by decide +kernel) rfl, gw_w1 5 (by decide +kernel) rfl, ⟨by decide +kernel, by decide +kernel, by decide +kernel⟩, by decide, by decide +kernel⟩
theorem o_Fr_enter : gw_Ok y_Fr_enter 4 := ⟨gw_w3 155 (by decide +kernel) rfl, gw_w1 6 (by decide +kernel) rfl, ⟨by decide +kernel, by decide +kernel, by decide +kernel⟩, by decide, by decide +kernel⟩
theorem o_Ma_step : gw_Ok y_Ma_step 0 := ⟨gw_w3 159 (by decide +kernel) rfl, gw_w1 5 (by decide +kernel) rfl, ⟨by decide +kernel, by decide +kernel, by decide +kernel⟩, by decide, by decide +kernel⟩
theorem o_Ma_perform : gw_Ok y_Ma_perform 3 := ⟨gw_w3 164 (by decide +kernel) rfl, gw_w1 5 (by decide +kernel) rfl, ⟨by decide +kernel, by decide +kernel, by decide +kernel⟩, by decide, by decide +kernel⟩
theorem o_Fr_push : gw_Ok y_Fr_push 1 := ⟨gw_w3 168 (by decide +kernel) rfl, gw_w1 6 (by decide +kernel) rfl, ⟨by decide +kernel, by decide +kernel, by decide +kernel⟩, by decide, by decide +kernel⟩
theorem o_Fr_pop : gw_Ok y_Fr_pop 0 := ⟨gw_w3 172 (by decide +kernel) rfl, gw_w1 6 (by decide +kernel) rfl, ⟨by decide +kernel, by decide +kernel, by decide +kernel⟩, by decide, by decide +kernel⟩
theorem o_Ma_pushSum : gw_Ok y_Ma_pushSum 3 := ⟨gw_w3 175 (by decide +kernel) rfl, gw_w1 5 (by decide +kernel) rfl, ⟨by decide +kernel, by decide +kernel, by decide +kernel⟩, by decide, by decide +kernel⟩
theorem o_Ma_growLocal : gw_Ok y_Ma_growLocal 3 := ⟨gw_w3 179 (by decide +kernel) rfl, gw_w1 5 (by decide +kernel) rfl, ⟨by decide +kernel, by decide +kernel, by decide +kernel⟩, by decide, by decide +kernel⟩
theorem o_Ma_goIf : gw_Ok y_Ma_goIf 3 := ⟨gw_w3 182 (by decide +kernel) rfl, gw_w1 5 (by decide +kernel) rfl, ⟨by decide +kernel, by decide +kernel, by decide +kernel⟩, by decide, by decide +kernel⟩
theorem o_Ma_takeWords : gw_Ok y_Ma_takeWords 1 := ⟨gw_w3 186 (by decide +kernel) rfl, gw_w1 5 (by decide +kernel) rfl, ⟨by decide +kernel, by decide +kernel, by decide +kernel⟩, by decide, by decide +kernel⟩
theorem o_Ma_enterCalled : gw_Ok y_Ma_enterCalled 2 := ⟨gw_w3 191 (by decide +kernel) rfl, gw_w1 5 (by decide +kernel) rfl, ⟨by decide +kernel, by decide +kernel, by decide +kernel⟩, by decide, by decide +kernel⟩
theorem o_Ma_leave : gw_Ok y_Ma_leave 1 := ⟨gw_w3 196 (by decide +kernel) rfl, gw_w1 5 (by decide +kernel) rfl, ⟨by decide +kernel, by decide +kernel, by decide +kernel⟩, by decide, by decide +kernel⟩
theorem o_Ma_nextInput : gw_Ok y_Ma_nextInput 0 := ⟨gw_w3 200 (by decide +kernel) rfl, gw_w1 5 (by decide +kernel) rfl, ⟨by decide +kernel, by decide +kernel, by decide +kernel⟩, by decide, by decide +kernel⟩
theorem o_CC_ran : gw_Ok y_CC_ran 1 := ⟨gw_w3 205 (by decide +kernel) rfl, gw_w1 1 (by decide +kernel) rfl, ⟨by decide +kernel, by decide +kernel, by decide +kernel⟩, by decide, by decide +kernel⟩
theorem o_Mo_init : gw_Ok y_Mo_init 0 := ⟨gw_w3 210 (by decide +kernel) rfl, gw_w1 12 (by decide +kernel) rfl, ⟨by decide +kernel, by decide +kernel, by decide +kernel⟩, by decide, by decide +kernel⟩
theorem o_Mo_put : gw_Ok y_Mo_put 3 := ⟨gw_w4 76 (by decide +kernel) rfl, gw_w1 12 (by decide +kernel) rfl, ⟨by decide +kernel, by decide +kernel, by decide +kernel⟩, by decide, by decide +kernel⟩
theorem o_Mo_in : gw_Ok y_Mo_in 3 := ⟨gw_w4 80 (by decide +kernel) rfl, gw_w1 12 (by decide +kernel) rfl, ⟨by decide +kernel, by decide +kernel, by decide +kernel⟩, by decide, by decide +kernel⟩
theorem o_Mo_changed : gw_Ok y_Mo_changed 1 := ⟨gw_w4 87 (by decide +kernel) rfl, gw_w1 12 (by decide +kernel) rfl, ⟨by decide +kernel, by decide +kernel, by decide +kernel⟩, by decide, by decide +kernel⟩
theorem o_Mo_clear : gw_Ok y_Mo_clear 1 := ⟨gw_w4 91 (by decide +kernel) rfl, gw_w1 12 (by decide +kernel) rfl, ⟨by decide +kernel, by decide +kernel, by decide +kernel⟩, by decide, by decide +kernel⟩
theorem o_Mo_plain : gw_Ok y_Mo_plain 2 := ⟨gw_w4 95 (by decide +kernel) rfl, gw_w1 12 (by decide +kernel) rfl, ⟨by decide +kernel, by decide +kernel, by decide +kernel⟩, by decide, by decide +kernel⟩
theorem o_Mo_cut : gw_Ok y_Mo_cut 2 := ⟨gw_w4 99 (by decide +kernel) rfl, gw_w1 12 (by decide +kernel) rfl, ⟨by decide +kernel, by decide +kernel, by decide +kernel⟩, by decide, by decide +kernel⟩
theorem o_Mo_cutAt : gw_Ok y_Mo_cutAt 2 := ⟨gw_w4 104 (by decide +kernel) rfl, gw_w1 12 (by decide +kernel) rfl, ⟨by decide +kernel, by decide +kernel, by decide +kernel⟩, by decide, by decide +kernel⟩
theorem o_Mo_claim : gw_Ok y_Mo_claim 5 := ⟨gw_w4 108 (by decide +kernel) rfl, gw_w1 12 (by decide +kernel) rfl, ⟨by decide +kernel, by decide +kernel, by decide +kernel⟩, by decide, by decide +kernel⟩
theorem o_Mo_base : gw_Ok y_Mo_base 4 := ⟨gw_w4 113 (by decide +kernel) rfl, gw_w1 12 (by decide +kernel) rfl, ⟨by decide +kernel, by decide +kernel, by decide +kernel⟩, by decide, by decide +kernel⟩
theorem o_Mo_term : gw_Ok y_Mo_term 5 := ⟨gw_w4 119 (by decide +kernel) rfl, gw_w1 12 (by decide +kernel) rfl, ⟨by decide +kernel, by decide +kernel, by decide +kernel⟩, by decide, by decide +kernel⟩
theorem o_Mo_check : gw_Ok y_Mo_check 1 := ⟨gw_w4 125 (by decide +kernel) rfl, gw_w1 12 (by decide +kernel) rfl, ⟨by decide +kernel, by decide +kernel, by decide +kernel⟩, by decide, by decide +kernel⟩
theorem o_Mo_checkCut : gw_Ok y_Mo_checkCut 2 := ⟨gw_w4 129 (by decide +kernel) rfl, gw_w1 12 (by decide +kernel) rfl, ⟨by decide +kernel, by decide +kernel, by decide +kernel⟩, by decide, by decide +kernel⟩
theorem o_Mo_begin : gw_Ok y_Mo_begin 1 := ⟨gw_w4 133 (by decide +kernel) rfl, gw_w1 12 (by decide +kernel) rfl, ⟨by decide +kernel, by decide +kernel, by decide +kernel⟩, by decide, by decide +kernel⟩
theorem o_Mo_know : gw_Ok y_Mo_know 4 := ⟨gw_w4 138 (by decide +kernel) rfl, gw_w1 12 (by decide +kernel) rfl, ⟨by decide +kernel, by decide +kernel, by decide +kernel⟩, by decide, by decide +kernel⟩
theorem o_Mo_least : gw_Ok y_Mo_least 2 := ⟨gw_w4 141 (by decide +kernel) rfl, gw_w1 12 (by decide +kernel) rfl, ⟨by decide +kernel, by decide +kernel, by decide +kernel⟩, by decide, by decide +kernel⟩
theorem o_Mo_addTerm : gw_Ok y_Mo_addTerm 7 := ⟨gw_w4 145 (by decide +kernel) rfl, gw_w1 12 (by decide +kernel) rfl, ⟨by decide +kernel, by decide +kernel, by decide +kernel⟩, by decide, by decide +kernel⟩
theorem o_Mo_findBounds : gw_Ok y_Mo_findBounds 1 := ⟨gw_w4 150 (by decide +kernel) rfl, gw_w1 12 (by decide +kernel) rfl, ⟨by decide +kernel, by decide +kernel, by decide +kernel⟩, by decide, by decide +kernel⟩
theorem o_Mo_negative : gw_Ok y_Mo_negative 1 := ⟨gw_w4 154 (by decide +kernel) rfl, gw_w1 12 (by decide +kernel) rfl, ⟨by decide +kernel, by decide +kernel, by decide +kernel⟩, by decide, by decide +kernel⟩
theorem o_Mo_advance : gw_Ok y_Mo_advance 2 := ⟨gw_w4 158 (by decide +kernel) rfl, gw_w1 12 (by decide +kernel) rfl, ⟨by decide +kernel, by decide +kernel, by decide +kernel⟩, by decide, by decide +kernel⟩
theorem o_Mo_end : gw_Ok y_Mo_end 2 := ⟨gw_w4 162 (by decide +kernel) rfl, gw_w1 12 (by decide +kernel) rfl, ⟨by decide +kernel, by decide +kernel, by decide +kernel⟩, by decide, by decide +kernel⟩
theorem o_Mo_localSide : gw_Ok y_Mo_localSide 2 := ⟨gw_w4 166 (by decide +kernel) rfl, gw_w1 12 (by decide +kernel) rfl, ⟨by decide +kernel, by decide +kernel, by decide +kernel⟩, by decide, by decide +kernel⟩
theorem o_Mo_localNumber : gw_Ok y_Mo_localNumber 2 := ⟨gw_w4 170 (by decide +kernel) rfl, gw_w1 12 (by decide +kernel) rfl, ⟨by decide +kernel, by decide +kernel, by decide +kernel⟩, by decide, by decide +kernel⟩
theorem o_Mo_follows : gw_Ok y_Mo_follows 5 := ⟨gw_w4 174 (by decide +kernel) rfl, gw_w1 12 (by decide +kernel) rfl, ⟨by decide +kernel, by decide +kernel, by decide +kernel⟩, by decide, by decide +kernel⟩
theorem o_Mo_shown : gw_Ok y_Mo_shown 2 := ⟨gw_w4 178 (by decide +kernel) rfl, gw_w1 12 (by decide +kernel) rfl, ⟨by decide +kernel, by decide +kernel, by decide +kernel⟩, by decide, by decide +kernel⟩
theorem o_Mo_part : gw_Ok y_Mo_part 3 := ⟨gw_w4 185 (by decide +kernel) rfl, gw_w1 12 (by decide +kernel) rfl, ⟨by decide +kernel, by decide +kernel, by decide +kernel⟩, by decide, by decide +kernel⟩
theorem o_Mo_pop : gw_Ok y_Mo_pop 1 := ⟨gw_w4 189 (by decide +kernel) rfl, gw_w1 12 (by decide +kernel) rfl, ⟨by decide +kernel, by decide +kernel, by decide +kernel⟩, by decide, by decide +kernel⟩
theorem o_Mo_learn : gw_Ok y_Mo_learn 5 := ⟨gw_w4 193 (by decide +kernel) rfl, gw_w1 12 (by decide +kernel) rfl, ⟨by decide +kernel, by decide +kernel, by decide +kernel⟩, by decide, by decide +kernel⟩
theorem o_Mo_memory : gw_Ok y_Mo_memory 1 := ⟨gw_w4 197 (by decide +kernel) rfl, gw_w1 12 (by decide +kernel) rfl, ⟨by decide +kernel, by decide +kernel, by decide +kernel⟩, by decide, by decide +kernel⟩
theorem o_Mo_called : gw_Ok y_Mo_called 2 := ⟨gw_w4 202 (by decide +kernel) rfl, gw_w1 12 (by decide +kernel) rfl, ⟨by decide +kernel, by decide +kernel, by decide +kernel⟩, by decide, by decide +kernel⟩
theorem o_Mo_side : gw_Ok y_Mo_side 3 := ⟨gw_w4 206 (by decide +kernel) rfl, gw_w1 12 (by decide +kernel) rfl, ⟨by decide +kernel, by decide +kernel, by decide +kernel⟩, by decide, by decide +kernel⟩
theorem o_Mo_extra : gw_Ok y_Mo_extra 3 := ⟨gw_w4 210 (by decide +kernel) rfl, gw_w1 12 (by decide +kernel) rfl, ⟨by decide +kernel, by decide +kernel, by decide +kernel⟩, by decide, by decide +kernel⟩
theorem o_Mo_push : gw_Ok y_Mo_push 3 := ⟨gw_w4 214 (by decide +kernel) rfl, gw_w1 12 (by decide +kernel) rfl, ⟨by decide +kernel, by decide +kernel, by decide +kernel⟩, by decide, by decide +kernel⟩
theorem o_Mo_simple : gw_Ok y_Mo_simple 3 := ⟨gw_w4 218 (by decide +kernel) rfl, gw_w1 12 (by decide +kernel) rfl, ⟨by decide +kernel, by decide +kernel, by decide +kernel⟩, by decide, by decide +kernel⟩
theorem o_Mo_combine : gw_Ok y_Mo_combine 6 := ⟨gw_w4 222 (by decide +kernel) rfl, gw_w1 12 (by decide +kernel) rfl, ⟨by decide +kernel, by decide +kernel, by decide +kernel⟩, by decide, by decide +kernel⟩
theorem o_Mo_accepted : gw_Ok y_Mo_accepted 1 := ⟨gw_w4 226 (by decide +kernel) rfl, gw_w1 12 (by decide +kernel) rfl, ⟨by decide +kernel, by decide +kernel, by decide +kernel⟩, by decide, by decide +kernel⟩
theorem o_Mo_bound : gw_Ok y_Mo_bound 5 := ⟨gw_w4 230 (by decide +kernel) rfl, gw_w1 12 (by decide +kernel) rfl, ⟨by decide +kernel, by decide +kernel, by decide +kernel⟩, by decide, by decide +kernel⟩
theorem o_Mo_argument : gw_Ok y_Mo_argument 4 := ⟨gw_w4 236 (by decide +kernel) rfl, gw_w1 12 (by decide +kernel) rfl, ⟨by decide +kernel, by decide +kernel, by decide +kernel⟩, by decide, by decide +kernel⟩
theorem o_Mo_depth : gw_Ok y_Mo_depth 1 := ⟨gw_w5 0 (by decide +kernel) rfl, gw_w1 12 (by decide +kernel) rfl, ⟨by decide +kernel, by decide +kernel, by decide +kernel⟩, by decide, by decide +kernel⟩
theorem o_Mo_calls : gw_Ok y_Mo_calls 2 := ⟨gw_w5 4 (by decide +kernel) rfl, gw_w1 12 (by decide +kernel) rfl, ⟨by decide +kernel, by decide +kernel, by decide +kernel⟩, by decide, by decide +kernel⟩
theorem o_Mo_greatest : gw_Ok y_Mo_greatest 2 := ⟨gw_w5 7 (by decide +kernel) rfl, gw_w1 12 (by decide +kernel) rfl, ⟨by decide +kernel, by decide +kernel, by decide +kernel⟩, by decide, by decide +kernel⟩
theorem o_Mo_feed : gw_Ok y_Mo_feed 1 := ⟨gw_w5 11 (by decide +kernel) rfl, gw_w1 12 (by decide +kernel) rfl, ⟨by decide +kernel, by decide +kernel, by decide +kernel⟩, by decide, by decide +kernel⟩
theorem o_Mo_run : gw_Ok y_Mo_run 4 := ⟨gw_w5 15 (by decide +kernel) rfl, gw_w1 12 (by decide +kernel) rfl, ⟨by decide +kernel, by decide +kernel, by decide +kernel⟩, by decide, by decide +kernel⟩
theorem o_Mo_enter : gw_Ok y_Mo_enter 4 := ⟨gw_w5 19 (by decide +kernel) rfl, gw_w1 12 (by decide +kernel) rfl, ⟨by decide +kernel, by decide +kernel, by decide +kernel⟩, by decide, by decide +kernel⟩
theorem o_Mo_makeStep : gw_Ok y_Mo_makeStep 0 := ⟨gw_w5 23 (by decide +kernel) rfl, gw_w1 12 (by decide +kernel) rfl, ⟨by decide +kernel, by decide +kernel, by decide +kernel⟩, by decide, by decide +kernel⟩
theorem o_Mo_take : gw_Ok y_Mo_take 1 := ⟨gw_w5 27 (by decide +kernel) rfl, gw_w1 12 (by decide +kernel) rfl, ⟨by decide +kernel, by decide +kernel, by decide +kernel⟩, by decide, by decide +kernel⟩
theorem o_Mo_leave : gw_Ok y_Mo_leave 1 := ⟨gw_w5 31 (by decide +kernel) rfl, gw_w1 12 (by decide +kernel) rfl, ⟨by decide +kernel, by decide +kernel, by decide +kernel⟩, by decide, by decide +kernel⟩
theorem o_Mo_give : gw_Ok y_Mo_give 2 := ⟨gw_w5 35 (by decide +kernel) rfl, gw_w1 12 (by decide +kernel) rfl, ⟨by decide +kernel, by decide +kernel, by decide +kernel⟩, by decide, by decide +kernel⟩
theorem o_Mo_choose : gw_Ok y_Mo_choose 3 := ⟨gw_w5 39 (by decide +kernel) rfl, gw_w1 12 (by decide +kernel) rfl, ⟨by decide +kernel, by decide +kernel, by decide +kernel⟩, by decide, by decide +kernel⟩
theorem o_Mo_work : gw_Ok y_Mo_work 3 := ⟨gw_w5 43 (by decide +kernel) rfl, gw_w1 12 (by decide +kernel) rfl, ⟨by decide +kernel, by decide +kernel, by decide +kernel⟩, by decide, by decide +kernel⟩
theorem o_Mo_fits : gw_Ok y_Mo_fits 1 := ⟨gw_w5 46 (by decide +kernel) rfl, gw_w1 12 (by decide +kernel) rfl, ⟨by decide +kernel, by decide +kernel, by decide +kernel⟩, by decide, by decide +kernel⟩
theorem o_Mo_ran : gw_Ok y_Mo_ran 1 := ⟨gw_w5 51 (by decide +kernel) rfl, gw_w1 12 (by decide +kernel) rfl, ⟨by decide +kernel, by decide +kernel, by decide +kernel⟩, by decide, by decide +kernel⟩
theorem k_La_9 : gw_KI "CostCheckerLaw" 9 y_CC_init 0 := ⟨o_CC_init, Or.inl (gw_w1 17 (by decide +kernel) rfl), gw_w1 18 (by decide +kernel) rfl, rfl, rfl⟩
theorem k_CC_11 : gw_KI "CostChecker" 11 y_Me_init 1 := ⟨o_Me_init, Or.inl (gw_w1 26 (by decide +kernel) rfl), gw_w1 27 (by decide +kernel) rfl, rfl, rfl⟩
theorem k_Me_28 : gw_KI "CostChecker$Method" 28 y_Cu_init 0 := ⟨o_Cu_init, Or.inl (gw_w1 33 (by decide +kernel) rfl), gw_w1 34 (by decide +kernel) rfl, rfl, rfl⟩
theorem k_Cu_27 : gw_KI "CostChecker$Cut" 27 y_Po_init 0 := ⟨o_Po_init, Or.inr ⟨_, gw_l1 40 (by decide +kernel)⟩, gw_w1 41 (by decide +kernel) rfl, rfl, rfl⟩
theorem k_CC_20 : gw_KI "CostChecker" 20 y_Ma_init 1 := ⟨o_Ma_init, Or.inl (gw_w1 141 (by decide +kernel) rfl), gw_w1 142 (by decide +kernel) rfl, rfl, rfl⟩
theorem k_Ma_25 : gw_KI "CostChecker$Machine" 25 y_Fr_init 0 := ⟨o_Fr_init, Or.inr ⟨_, gw_l1 148 (by decide +kernel)⟩, gw_w1 149 (by decide +kernel) rfl, rfl, rfl⟩
theorem k_CC_29 : gw_KI "CostChecker" 29 y_Ch_init 1 := ⟨o_Ch_init, Or.inl (gw_w1 209 (by decide +kernel) rfl), gw_w1 210 (by decide +kernel) rfl, rfl, rfl⟩
theorem k_Ch_19 : gw_KI "CostChecker$Checker" 19 y_Sy_init 0 := ⟨o_Sy_init, Or.inr ⟨_, gw_l1 217 (by decide +kernel)⟩, gw_w1 218 (by decide +kernel) rfl, rfl, rfl⟩
theorem k_Ch_32 : gw_KI "CostChecker$Checker" 32 y_Pa_init 0 := ⟨o_Pa_init, Or.inl (gw_w1 237 (by decide +kernel) rfl), gw_w1 238 (by decide +kernel) rfl, rfl, rfl⟩
theorem k_Pa_11 : gw_KI "CostChecker$Path" 11 y_Sy_init 0 := ⟨o_Sy_init, Or.inr ⟨_, gw_l2 2 (by decide +kernel)⟩, gw_w1 218 (by decide +kernel) rfl, rfl, rfl⟩
theorem k_Pa_28 : gw_KI "CostChecker$Path" 28 y_Kn_init 0 := ⟨o_Kn_init, Or.inr ⟨_, gw_l2 5 (by decide +kernel)⟩, gw_w2 6 (by decide +kernel) rfl, rfl, rfl⟩
theorem k_Pa_39 : gw_KI "CostChecker$Path" 39 y_Ba_init 0 := ⟨o_Ba_init, Or.inr ⟨_, gw_l2 16 (by decide +kernel)⟩, gw_w2 17 (by decide +kernel) rfl, rfl, rfl⟩
theorem k_La_13 : gw_KV "CostCheckerLaw" 13 y_CC_put 0 3 := ⟨o_CC_put, Or.inl (gw_w2 90 (by decide +kernel) rfl), gw_w2 91 (by decide +kernel) rfl, gw_w2 92 (by decide +kernel) rfl, rfl, rfl⟩
theorem k_CC_38 : gw_KV "CostChecker" 38 y_CC_methodAt 0 1 := ⟨o_CC_methodAt, Or.inl (gw_w2 94 (by decide +kernel) rfl), gw_w2 96 (by decide +kernel) rfl, gw_sl1 (q := (n_CC_methodAt, 4)) (by decide +kernel) rfl rfl, rfl, rfl⟩
theorem k_CC_42 : gw_KS "CostChecker" 42 y_CC_isBetween 3 := ⟨o_CC_isBetween, Or.inl (gw_w2 98 (by decide +kernel) rfl), gw_w2 99 (by decide +kernel) rfl⟩
theorem k_CC_46 : gw_KV "CostChecker" 46 y_Me_append 1 2 := ⟨o_Me_append, Or.inl (gw_w2 101 (by decide +kernel) rfl), gw_w2 102 (by decide +kernel) rfl, gw_w2 103 (by decide +kernel) rfl, rfl, rfl⟩
theorem k_CC_50 : gw_KV "CostChecker" 50 y_CC_noteChange 0 2 := ⟨o_CC_noteChange, Or.inl (gw_w2 105 (by decide +kernel) rfl), gw_w2 107 (by decide +kernel) rfl, gw_sl1 (q := (n_CC_noteChange, 4)) (by decide +kernel) rfl rfl, rfl, rfl⟩
theorem k_La_18 : gw_KV "CostCheckerLaw" 18 y_CC_clear 0 1 := ⟨o_CC_clear, Or.inl (gw_w2 109 (by decide +kernel) rfl), gw_w2 110 (by decide +kernel) rfl, gw_w2 111 (by decide +kernel) rfl, rfl, rfl⟩
theorem k_CC_58 : gw_KV "CostChecker" 58 y_Me_reset 1 0 := ⟨o_Me_reset, Or.inl (gw_w2 113 (by decide +kernel) rfl), gw_w2 114 (by decide +kernel) rfl, gw_w2 115 (by decide +kernel) rfl, rfl, rfl⟩
theorem k_Me_35 : gw_KV "CostChecker$Method" 35 y_Cu_reset 2 1 := ⟨o_Cu_reset, Or.inl (gw_w2 117 (by decide +kernel) rfl), gw_w2 118 (by decide +kernel) rfl, gw_w2 119 (by decide +kernel) rfl, rfl, rfl⟩
theorem k_Cu_35 : gw_KV "CostChecker$Cut" 35 y_Po_reset 3 0 := ⟨o_Po_reset, Or.inl (gw_w2 121 (by decide +kernel) rfl), gw_w2 122 (by decide +kernel) rfl, gw_w2 123 (by decide +kernel) rfl, rfl, rfl⟩
theorem k_La_23 : gw_KV "CostCheckerLaw" 23 y_CC_cut 0 2 := ⟨o_CC_cut, Or.inl (gw_w2 125 (by decide +kernel) rfl), gw_w2 126 (by decide +kernel) rfl, gw_w2 127 (by decide +kernel) rfl, rfl, rfl⟩
theorem k_CC_61 : gw_KV "CostChecker" 61 y_Me_addCut 1 1 := ⟨o_Me_addCut, Or.inl (gw_w2 129 (by decide +kernel) rfl), gw_w2 130 (by decide +kernel) rfl, gw_w2 131 (by decide +kernel) rfl, rfl, rfl⟩
theorem k_Me_42 : gw_KS "CostChecker$Method" 42 y_CC_isBetween 3 := ⟨o_CC_isBetween, Or.inr ⟨_, gw_l2 133 (by decide +kernel)⟩, gw_w2 99 (by decide +kernel) rfl⟩
theorem k_Me_46 : gw_KV "CostChecker$Method" 46 y_Me_findCut 1 1 := ⟨o_Me_findCut, Or.inl (gw_w2 134 (by decide +kernel) rfl), gw_w2 135 (by decide +kernel) rfl, gw_w2 136 (by decide +kernel) rfl, rfl, rfl⟩
theorem k_La_28 : gw_KV "CostCheckerLaw" 28 y_CC_claim 0 5 := ⟨o_CC_claim, Or.inl (gw_w2 138 (by decide +kernel) rfl), gw_w2 139 (by decide +kernel) rfl, gw_w2 140 (by decide +kernel) rfl, rfl, rfl⟩
theorem k_CC_65 : gw_KV "CostChecker" 65 y_CC_cutAt 0 2 := ⟨o_CC_cutAt, Or.inl (gw_w2 142 (by decide +kernel) rfl), gw_w2 144 (by decide +kernel) rfl, gw_sl1 (q := (n_CC_cutAt, 4)) (by decide +kernel) rfl rfl, rfl, rfl⟩
theorem k_CC_146 : gw_KV "CostChecker" 146 y_Me_findCut 1 1 := ⟨o_Me_findCut, Or.inl (gw_w2 146 (by decide +kernel) rfl), gw_w2 135 (by decide +kernel) rfl, gw_w2 136 (by decide +kernel) rfl, rfl, rfl⟩
theorem k_CC_69 : gw_KS "CostChecker" 69 y_CC_areTwoSides 2 := ⟨o_CC_areTwoSides, Or.inl (gw_w2 147 (by decide +kernel) rfl), gw_w2 148 (by decide +kernel) rfl⟩
theorem k_CC_72 : gw_KV "CostChecker" 72 y_Cu_addClaim 2 3 := ⟨o_Cu_addClaim, Or.inl (gw_w2 150 (by decide +kernel) rfl), gw_w2 151 (by decide +kernel) rfl, gw_w2 152 (by decide +kernel) rfl, rfl, rfl⟩
theorem k_La_33 : gw_KV "CostCheckerLaw" 33 y_CC_base 0 4 := ⟨o_CC_base, Or.inl (gw_w2 154 (by decide +kernel) rfl), gw_w2 155 (by decide +kernel) rfl, gw_w2 156 (by decide +kernel) rfl, rfl, rfl⟩
theorem k_CC_77 : gw_KS "CostChecker" 77 y_CC_isPotential 1 := ⟨o_CC_isPotential, Or.inl (gw_w2 158 (by decide +kernel) rfl), gw_w2 159 (by decide +kernel) rfl⟩
theorem k_La_38 : gw_KV "CostCheckerLaw" 38 y_CC_term 0 5 := ⟨o_CC_term, Or.inl (gw_w2 161 (by decide +kernel) rfl), gw_w2 162 (by decide +kernel) rfl, gw_w2 163 (by decide +kernel) rfl, rfl, rfl⟩
theorem k_CC_89 : gw_KV "CostChecker" 89 y_Po_addTerm 3 3 := ⟨o_Po_addTerm, Or.inl (gw_w2 165 (by decide +kernel) rfl), gw_w2 166 (by decide +kernel) rfl, gw_w2 167 (by decide +kernel) rfl, rfl, rfl⟩
theorem k_La_42 : gw_KV "CostCheckerLaw" 42 y_CC_check 0 1 := ⟨o_CC_check, Or.inl (gw_w2 169 (by decide +kernel) rfl), gw_w2 170 (by decide +kernel) rfl, gw_w2 171 (by decide +kernel) rfl, rfl, rfl⟩
theorem k_CC_92 : gw_KV "CostChecker" 92 y_Ch_answerFor 6 1 := ⟨o_Ch_answerFor, Or.inl (gw_w2 173 (by decide +kernel) rfl), gw_w2 174 (by decide +kernel) rfl, gw_w2 175 (by decide +kernel) rfl, rfl, rfl⟩
theorem k_Ch_46 : gw_KV "CostChecker$Checker" 46 y_Ch_reasonAtCut 6 1 := ⟨o_Ch_reasonAtCut, Or.inl (gw_w2 177 (by decide +kernel) rfl), gw_w2 179 (by decide +kernel) rfl, gw_sl1 (q := (n_Ch_reasonAtCut, 5)) (by decide +kernel) rfl rfl, rfl, rfl⟩
theorem k_Ch_55 : gw_KV "CostChecker$Checker" 55 y_Pa_beginAt 7 1 := ⟨o_Pa_beginAt, Or.inl (gw_w2 181 (by decide +kernel) rfl), gw_w2 182 (by decide +kernel) rfl, gw_w2 183 (by decide +kernel) rfl, rfl, rfl⟩
theorem k_Pa_53 : gw_KV "CostChecker$Path" 53 y_Sy_standForThemselves 8 0 := ⟨o_Sy_standForThemselves, Or.inl (gw_w2 185 (by decide +kernel) rfl), gw_w2 186 (by decide +kernel) rfl, gw_w2 187 (by decide +kernel) rfl, rfl, rfl⟩
theorem k_Sy_19 : gw_KV "CostChecker$Symbols" 19 y_Sy_set 8 3 := ⟨o_Sy_set, Or.inl (gw_w2 189 (by decide +kernel) rfl), gw_w2 190 (by decide +kernel) rfl, gw_w2 191 (by decide +kernel) rfl, rfl, rfl⟩
theorem k_Pa_56 : gw_KV "CostChecker$Path" 56 y_Ba_reset 10 0 := ⟨o_Ba_reset, Or.inl (gw_w2 193 (by decide +kernel) rfl), gw_w2 194 (by decide +kernel) rfl, gw_w2 195 (by decide +kernel) rfl, rfl, rfl⟩
theorem k_Pa_63 : gw_KV "CostChecker$Path" 63 y_Ba_addPotential 10 3 := ⟨o_Ba_addPotential, Or.inl (gw_w2 197 (by decide +kernel) rfl), gw_w2 198 (by decide +kernel) rfl, gw_w2 199 (by decide +kernel) rfl, rfl, rfl⟩
theorem k_Ba_51 : gw_KV "CostChecker$Balance" 51 y_Ba_addDifference 10 3 := ⟨o_Ba_addDifference, Or.inl (gw_w2 201 (by decide +kernel) rfl), gw_w2 202 (by decide +kernel) rfl, gw_w2 203 (by decide +kernel) rfl, rfl, rfl⟩
theorem k_Pa_67 : gw_KV "CostChecker$Path" 67 y_Kn_forgetAll 9 0 := ⟨o_Kn_forgetAll, Or.inl (gw_w2 205 (by decide +kernel) rfl), gw_w2 206 (by decide +kernel) rfl, gw_w2 207 (by decide +kernel) rfl, rfl, rfl⟩
theorem k_Pa_70 : gw_KV "CostChecker$Path" 70 y_Kn_learnClaims 9 1 := ⟨o_Kn_learnClaims, Or.inl (gw_w2 210 (by decide +kernel) rfl), gw_w2 211 (by decide +kernel) rfl, gw_w2 212 (by decide +kernel) rfl, rfl, rfl⟩
theorem k_Kn_43 : gw_KV "CostChecker$Known" 43 y_Kn_learn 9 3 := ⟨o_Kn_learn, Or.inl (gw_w2 214 (by decide +kernel) rfl), gw_w2 215 (by decide +kernel) rfl, gw_w2 216 (by decide +kernel) rfl, rfl, rfl⟩
theorem k_Kn_23 : gw_KV "CostChecker$Known" 23 y_Kn_boundOf 9 2 := ⟨o_Kn_boundOf, Or.inl (gw_w2 218 (by decide +kernel) rfl), gw_w2 219 (by decide +kernel) rfl, gw_w2 220 (by decide +kernel) rfl, rfl, rfl⟩
theorem k_Ch_67 : gw_KV "CostChecker$Checker" 67 y_Kn_allowsNegative 9 1 := ⟨o_Kn_allowsNegative, Or.inl (gw_w2 222 (by decide +kernel) rfl), gw_w2 223 (by decide +kernel) rfl, gw_w2 224 (by decide +kernel) rfl, rfl, rfl⟩
theorem k_Ch_76 : gw_KV "CostChecker$Checker" 76 y_Ch_reasonFrom 6 1 := ⟨o_Ch_reasonFrom, Or.inl (gw_w2 226 (by decide +kernel) rfl), gw_w2 228 (by decide +kernel) rfl, gw_sl1 (q := (n_Ch_reasonFrom, 5)) (by decide +kernel) rfl rfl, rfl, rfl⟩
theorem k_Ch_81 : gw_KV "CostChecker$Checker" 81 y_Me_hasPlace 1 1 := ⟨o_Me_hasPlace, Or.inl (gw_w2 230 (by decide +kernel) rfl), gw_w2 231 (by decide +kernel) rfl, gw_w2 232 (by decide +kernel) rfl, rfl, rfl⟩
theorem k_Ch_88 : gw_KV "CostChecker$Checker" 88 y_Me_findCut 1 1 := ⟨o_Me_findCut, Or.inl (gw_w2 234 (by decide +kernel) rfl), gw_w2 135 (by decide +kernel) rfl, gw_w2 136 (by decide +kernel) rfl, rfl, rfl⟩
theorem k_Ch_92 : gw_KV "CostChecker$Checker" 92 y_Ch_reasonAtEnd 6 2 := ⟨o_Ch_reasonAtEnd, Or.inl (gw_w2 235 (by decide +kernel) rfl), gw_w2 237 (by decide +kernel) rfl, gw_sl1 (q := (n_Ch_reasonAtEnd, 5)) (by decide +kernel) rfl rfl, rfl, rfl⟩
theorem k_Ch_173 : gw_KV "CostChecker$Checker" 173 y_Kn_showsClaims 9 2 := ⟨o_Kn_showsClaims, Or.inl (gw_w2 239 (by decide +kernel) rfl), gw_w3 0 (by decide +kernel) rfl, gw_w3 1 (by decide +kernel) rfl, rfl, rfl⟩
theorem k_Ch_177 : gw_KV "CostChecker$Checker" 177 y_Po_speaksOfNothing 3 1 := ⟨o_Po_speaksOfNothing, Or.inl (gw_w3 3 (by decide +kernel) rfl), gw_w3 4 (by decide +kernel) rfl, gw_w3 5 (by decide +kernel) rfl, rfl, rfl⟩
theorem k_Ch_183 : gw_KV "CostChecker$Checker" 183 y_Ba_addPotential 10 3 := ⟨o_Ba_addPotential, Or.inl (gw_w3 7 (by decide +kernel) rfl), gw_w2 198 (by decide +kernel) rfl, gw_w2 199 (by decide +kernel) rfl, rfl, rfl⟩
theorem k_Ch_193 : gw_KV "CostChecker$Checker" 193 y_Ba_isShownNotNegative 10 1 := ⟨o_Ba_isShownNotNegative, Or.inl (gw_w3 8 (by decide +kernel) rfl), gw_w3 9 (by decide +kernel) rfl, gw_w3 10 (by decide +kernel) rfl, rfl, rfl⟩
theorem k_Ba_59 : gw_KV "CostChecker$Balance" 59 y_Kn_boundOf 9 2 := ⟨o_Kn_boundOf, Or.inl (gw_w3 12 (by decide +kernel) rfl), gw_w2 219 (by decide +kernel) rfl, gw_w2 220 (by decide +kernel) rfl, rfl, rfl⟩
theorem k_Ch_99 : gw_KS "CostChecker$Checker" 99 y_CC_isCramped 4 := ⟨o_CC_isCramped, Or.inr ⟨_, gw_l3 14 (by decide +kernel)⟩, gw_w3 15 (by decide +kernel) rfl⟩
theorem k_Ch_110 : gw_KV "CostChecker$Checker" 110 y_Pa_countInstruction 7 0 := ⟨o_Pa_countInstruction, Or.inl (gw_w3 21 (by decide +kernel) rfl), gw_w3 22 (by decide +kernel) rfl, gw_w3 23 (by decide +kernel) rfl, rfl, rfl⟩
theorem k_Ch_113 : gw_KV "CostChecker$Checker" 113 y_Ch_reasonBehind 6 2 := ⟨o_Ch_reasonBehind, Or.inl (gw_w3 25 (by decide +kernel) rfl), gw_w3 27 (by decide +kernel) rfl, gw_sl1 (q := (n_Ch_reasonBehind, 5)) (by decide +kernel) rfl rfl, rfl, rfl⟩
theorem k_Ch_133 : gw_KV "CostChecker$Checker" 133 y_Pa_drop 7 1 := ⟨o_Pa_drop, Or.inl (gw_w3 29 (by decide +kernel) rfl), gw_w3 30 (by decide +kernel) rfl, gw_w3 31 (by decide +kernel) rfl, rfl, rfl⟩
theorem k_Ch_137 : gw_KV "CostChecker$Checker" 137 y_Pa_copyFrom 7 1 := ⟨o_Pa_copyFrom, Or.inl (gw_w3 36 (by decide +kernel) rfl), gw_w3 37 (by decide +kernel) rfl, gw_w3 38 (by decide +kernel) rfl, rfl, rfl⟩
theorem k_Pa_74 : gw_KV "CostChecker$Path" 74 y_Sy_copyFrom 8 1 := ⟨o_Sy_copyFrom, Or.inl (gw_w3 40 (by decide +kernel) rfl), gw_w3 41 (by decide +kernel) rfl, gw_w3 42 (by decide +kernel) rfl, rfl, rfl⟩
theorem k_Pa_84 : gw_KV "CostChecker$Path" 84 y_Kn_copyFrom 9 1 := ⟨o_Kn_copyFrom, Or.inl (gw_w3 48 (by decide +kernel) rfl), gw_w3 49 (by decide +kernel) rfl, gw_w3 50 (by decide +kernel) rfl, rfl, rfl⟩
theorem k_Pa_87 : gw_KV "CostChecker$Path" 87 y_Ba_copyFrom 10 1 := ⟨o_Ba_copyFrom, Or.inl (gw_w3 53 (by decide +kernel) rfl), gw_w3 54 (by decide +kernel) rfl, gw_w3 55 (by decide +kernel) rfl, rfl, rfl⟩
theorem k_Ch_117 : gw_KV "CostChecker$Checker" 117 y_Pa_learnLess 7 1 := ⟨o_Pa_learnLess, Or.inl (gw_w3 58 (by decide +kernel) rfl), gw_w3 59 (by decide +kernel) rfl, gw_w3 60 (by decide +kernel) rfl, rfl, rfl⟩
theorem k_Pa_125 : gw_KV "CostChecker$Path" 125 y_Kn_learn 9 3 := ⟨o_Kn_learn, Or.inl (gw_w3 62 (by decide +kernel) rfl), gw_w2 215 (by decide +kernel) rfl, gw_w2 216 (by decide +kernel) rfl, rfl, rfl⟩
theorem k_Ch_121 : gw_KV "CostChecker$Checker" 121 y_Ch_reasonOfNew 6 1 := ⟨o_Ch_reasonOfNew, Or.inl (gw_w3 63 (by decide +kernel) rfl), gw_w3 65 (by decide +kernel) rfl, gw_sl1 (q := (n_Ch_reasonOfNew, 5)) (by decide +kernel) rfl rfl, rfl, rfl⟩
theorem k_Ch_148 : gw_KV "CostChecker$Checker" 148 y_Kn_showsNotNegative 9 2 := ⟨o_Kn_showsNotNegative, Or.inl (gw_w3 67 (by decide +kernel) rfl), gw_w3 68 (by decide +kernel) rfl, gw_w3 69 (by decide +kernel) rfl, rfl, rfl⟩
theorem k_Ch_156 : gw_KV "CostChecker$Checker" 156 y_Ba_payWords 10 2 := ⟨o_Ba_payWords, Or.inl (gw_w3 71 (by decide +kernel) rfl), gw_w3 72 (by decide +kernel) rfl, gw_w3 73 (by decide +kernel) rfl, rfl, rfl⟩
theorem k_Ch_125 : gw_KV "CostChecker$Checker" 125 y_Ch_reasonOfCall 6 2 := ⟨o_Ch_reasonOfCall, Or.inl (gw_w3 77 (by decide +kernel) rfl), gw_w3 79 (by decide +kernel) rfl, gw_sl1 (q := (n_Ch_reasonOfCall, 5)) (by decide +kernel) rfl rfl, rfl, rfl⟩
theorem k_Ch_162 : gw_KV "CostChecker$Checker" 162 y_Sy_standForThemselves 8 0 := ⟨o_Sy_standForThemselves, Or.inl (gw_w3 81 (by decide +kernel) rfl), gw_w2 186 (by decide +kernel) rfl, gw_w2 187 (by decide +kernel) rfl, rfl, rfl⟩
theorem k_Ch_165 : gw_KV "CostChecker$Checker" 165 y_Sy_set 8 3 := ⟨o_Sy_set, Or.inl (gw_w3 82 (by decide +kernel) rfl), gw_w2 190 (by decide +kernel) rfl, gw_w2 191 (by decide +kernel) rfl, rfl, rfl⟩
theorem k_Ch_187 : gw_KV "CostChecker$Checker" 187 y_Pa_push 7 2 := ⟨o_Pa_push, Or.inl (gw_w3 83 (by decide +kernel) rfl), gw_w3 84 (by decide +kernel) rfl, gw_w3 85 (by decide +kernel) rfl, rfl, rfl⟩
theorem k_Ch_129 : gw_KV "CostChecker$Checker" 129 y_Pa_performPlain 7 2 := ⟨o_Pa_performPlain, Or.inl (gw_w3 87 (by decide +kernel) rfl), gw_w3 88 (by decide +kernel) rfl, gw_w3 89 (by decide +kernel) rfl, rfl, rfl⟩
theorem k_Pa_100 : gw_KV "CostChecker$Path" 100 y_Pa_push 7 2 := ⟨o_Pa_push, Or.inl (gw_w3 91 (by decide +kernel) rfl), gw_w3 84 (by decide +kernel) rfl, gw_w3 85 (by decide +kernel) rfl, rfl, rfl⟩
theorem k_Pa_110 : gw_KV "CostChecker$Path" 110 y_Pa_drop 7 1 := ⟨o_Pa_drop, Or.inl (gw_w3 92 (by decide +kernel) rfl), gw_w3 30 (by decide +kernel) rfl, gw_w3 31 (by decide +kernel) rfl, rfl, rfl⟩
theorem k_Pa_114 : gw_KV "CostChecker$Path" 114 y_Sy_set 8 3 := ⟨o_Sy_set, Or.inl (gw_w3 93 (by decide +kernel) rfl), gw_w2 190 (by decide +kernel) rfl, gw_w2 191 (by decide +kernel) rfl, rfl, rfl⟩
theorem k_Pa_118 : gw_KV "CostChecker$Path" 118 y_Pa_pushSum 7 2 := ⟨o_Pa_pushSum, Or.inl (gw_w3 94 (by decide +kernel) rfl), gw_w3 96 (by decide +kernel) rfl, gw_sl1 (q := (n_Pa_pushSum, 8)) (by decide +kernel) rfl rfl, rfl, rfl⟩
theorem k_Pa_122 : gw_KV "CostChecker$Path" 122 y_Pa_pushDifference 7 2 := ⟨o_Pa_pushDifference, Or.inl (gw_w3 98 (by decide +kernel) rfl), gw_w3 100 (by decide +kernel) rfl, gw_sl1 (q := (n_Pa_pushDifference, 8)) (by decide +kernel) rfl rfl, rfl, rfl⟩
theorem k_La_47 : gw_KV "CostCheckerLaw" 47 y_CC_accepted 0 1 := ⟨o_CC_accepted, Or.inl (gw_w3 102 (by decide +kernel) rfl), gw_w3 103 (by decide +kernel) rfl, gw_w3 104 (by decide +kernel) rfl, rfl, rfl⟩
theorem k_La_51 : gw_KV "CostCheckerLaw" 51 y_CC_bound 0 5 := ⟨o_CC_bound, Or.inl (gw_w3 106 (by decide +kernel) rfl), gw_w3 107 (by decide +kernel) rfl, gw_w3 108 (by decide +kernel) rfl, rfl, rfl⟩
theorem k_CC_100 : gw_KS "CostChecker" 100 y_CC_areValues 3 := ⟨o_CC_areValues, Or.inl (gw_w3 110 (by decide +kernel) rfl), gw_w3 111 (by decide +kernel) rfl⟩
theorem k_CC_124 : gw_KS "CostChecker" 124 y_CC_isValue 1 := ⟨o_CC_isValue, Or.inl (gw_w3 113 (by decide +kernel) rfl), gw_w3 114 (by decide +kernel) rfl⟩
theorem k_CC_109 : gw_KV "CostChecker" 109 y_Cu_holdsFor 2 1 := ⟨o_Cu_holdsFor, Or.inl (gw_w3 119 (by decide +kernel) rfl), gw_w3 120 (by decide +kernel) rfl, gw_w3 121 (by decide +kernel) rfl, rfl, rfl⟩
theorem k_CC_113 : gw_KV "CostChecker" 113 y_Po_valueFor 3 1 := ⟨o_Po_valueFor, Or.inl (gw_w3 123 (by decide +kernel) rfl), gw_w3 124 (by decide +kernel) rfl, gw_w3 125 (by decide +kernel) rfl, rfl, rfl⟩
theorem k_La_56 : gw_KV "CostCheckerLaw" 56 y_CC_depth 0 1 := ⟨o_CC_depth, Or.inl (gw_w3 127 (by decide +kernel) rfl), gw_w3 128 (by decide +kernel) rfl, gw_w3 129 (by decide +kernel) rfl, rfl, rfl⟩
theorem k_CC_117 : gw_KV "CostChecker" 117 y_CC_measureDepth 0 1 := ⟨o_CC_measureDepth, Or.inl (gw_w3 131 (by decide +kernel) rfl), gw_w3 133 (by decide +kernel) rfl, gw_sl1 (q := (n_CC_measureDepth, 4)) (by decide +kernel) rfl rfl, rfl, rfl⟩
theorem k_La_60 : gw_KV "CostCheckerLaw" 60 y_CC_feed 0 1 := ⟨o_CC_feed, Or.inl (gw_w3 136 (by decide +kernel) rfl), gw_w3 137 (by decide +kernel) rfl, gw_w3 138 (by decide +kernel) rfl, rfl, rfl⟩
theorem k_CC_127 : gw_KV "CostChecker" 127 y_Ma_addInput 4 1 := ⟨o_Ma_addInput, Or.inl (gw_w3 140 (by decide +kernel) rfl), gw_w3 141 (by decide +kernel) rfl, gw_w3 142 (by decide +kernel) rfl, rfl, rfl⟩
theorem k_La_64 : gw_KV "CostCheckerLaw" 64 y_CC_run 0 4 := ⟨o_CC_run, Or.inl (gw_w3 144 (by decide +kernel) rfl), gw_w3 145 (by decide +kernel) rfl, gw_w3 146 (by decide +kernel) rfl, rfl, rfl⟩
theorem k_CC_130 : gw_KV "CostChecker" 130 y_Ma_runToEnd 4 4 := ⟨o_Ma_runToEnd, Or.inl (gw_w3 148 (by decide +kernel) rfl), gw_w3 149 (by decide +kernel) rfl, gw_w3 150 (by decide +kernel) rfl, rfl, rfl⟩
theorem k_Ma_48 : gw_KV "CostChecker$Machine" 48 y_Fr_enter 5 4 := ⟨o_Fr_enter, Or.inl (gw_w3 152 (by decide +kernel) rfl), gw_w3 153 (by decide +kernel) rfl, gw_w3 154 (by decide +kernel) rfl, rfl, rfl⟩
theorem k_Ma_52 : gw_KV "CostChecker$Machine" 52 y_Ma_step 4 0 := ⟨o_Ma_step, Or.inl (gw_w3 156 (by decide +kernel) rfl), gw_w3 158 (by decide +kernel) rfl, gw_sl1 (q := (n_Ma_step, 10)) (by decide +kernel) rfl rfl, rfl, rfl⟩
theorem k_Ma_65 : gw_KS "CostChecker$Machine" 65 y_CC_isCramped 4 := ⟨o_CC_isCramped, Or.inr ⟨_, gw_l3 160 (by decide +kernel)⟩, gw_w3 15 (by decide +kernel) rfl⟩
theorem k_Ma_77 : gw_KV "CostChecker$Machine" 77 y_Ma_perform 4 3 := ⟨o_Ma_perform, Or.inl (gw_w3 161 (by decide +kernel) rfl), gw_w3 163 (by decide +kernel) rfl, gw_sl1 (q := (n_Ma_perform, 10)) (by decide +kernel) rfl rfl, rfl, rfl⟩
theorem k_Ma_85 : gw_KV "CostChecker$Machine" 85 y_Fr_push 5 1 := ⟨o_Fr_push, Or.inl (gw_w3 165 (by decide +kernel) rfl), gw_w3 166 (by decide +kernel) rfl, gw_w3 167 (by decide +kernel) rfl, rfl, rfl⟩
theorem k_Ma_92 : gw_KV "CostChecker$Machine" 92 y_Fr_pop 5 0 := ⟨o_Fr_pop, Or.inl (gw_w3 169 (by decide +kernel) rfl), gw_w3 170 (by decide +kernel) rfl, gw_w3 171 (by decide +kernel) rfl, rfl, rfl⟩
theorem k_Ma_95 : gw_KS "CostChecker$Machine" 95 y_Ma_pushSum 3 := ⟨o_Ma_pushSum, Or.inl (gw_w3 173 (by decide +kernel) rfl), gw_w3 174 (by decide +kernel) rfl⟩
theorem k_Ma_119 : gw_KS "CostChecker$Machine" 119 y_CC_isValue 1 := ⟨o_CC_isValue, Or.inr ⟨_, gw_l3 176 (by decide +kernel)⟩, gw_w3 114 (by decide +kernel) rfl⟩
theorem k_Ma_98 : gw_KS "CostChecker$Machine" 98 y_Ma_growLocal 3 := ⟨o_Ma_growLocal, Or.inl (gw_w3 177 (by decide +kernel) rfl), gw_w3 178 (by decide +kernel) rfl⟩
theorem k_Ma_101 : gw_KS "CostChecker$Machine" 101 y_Ma_goIf 3 := ⟨o_Ma_goIf, Or.inl (gw_w3 180 (by decide +kernel) rfl), gw_w3 181 (by decide +kernel) rfl⟩
theorem k_Ma_105 : gw_KV "CostChecker$Machine" 105 y_Ma_takeWords 4 1 := ⟨o_Ma_takeWords, Or.inl (gw_w3 183 (by decide +kernel) rfl), gw_w3 185 (by decide +kernel) rfl, gw_sl1 (q := (n_Ma_takeWords, 10)) (by decide +kernel) rfl rfl, rfl, rfl⟩
theorem k_Ma_109 : gw_KV "CostChecker$Machine" 109 y_Ma_enterCalled 4 2 := ⟨o_Ma_enterCalled, Or.inl (gw_w3 188 (by decide +kernel) rfl), gw_w3 190 (by decide +kernel) rfl, gw_sl1 (q := (n_Ma_enterCalled, 10)) (by decide +kernel) rfl rfl, rfl, rfl⟩
theorem k_Ma_113 : gw_KV "CostChecker$Machine" 113 y_Ma_leave 4 1 := ⟨o_Ma_leave, Or.inl (gw_w3 193 (by decide +kernel) rfl), gw_w3 195 (by decide +kernel) rfl, gw_sl1 (q := (n_Ma_leave, 10)) (by decide +kernel) rfl rfl, rfl, rfl⟩
theorem k_Ma_116 : gw_KV "CostChecker$Machine" 116 y_Ma_nextInput 4 0 := ⟨o_Ma_nextInput, Or.inl (gw_w3 197 (by decide +kernel) rfl), gw_w3 199 (by decide +kernel) rfl, gw_sl1 (q := (n_Ma_nextInput, 10)) (by decide +kernel) rfl rfl, rfl, rfl⟩
theorem k_Ma_81 : gw_KV "CostChecker$Machine" 81 y_Me_hasPlace 1 1 := ⟨o_Me_hasPlace, Or.inl (gw_w3 201 (by decide +kernel) rfl), gw_w2 231 (by decide +kernel) rfl, gw_w2 232 (by decide +kernel) rfl, rfl, rfl⟩
theorem k_La_69 : gw_KV "CostCheckerLaw" 69 y_CC_ran 0 1 := ⟨o_CC_ran, Or.inl (gw_w3 202 (by decide +kernel) rfl), gw_w3 203 (by decide +kernel) rfl, gw_w3 204 (by decide +kernel) rfl, rfl, rfl⟩
theorem k_La_12 : gw_KI "CostCheckerLaw" 12 y_Mo_init 0 := ⟨o_Mo_init, Or.inl (gw_w3 208 (by decide +kernel) rfl), gw_w3 209 (by decide +kernel) rfl, rfl, rfl⟩
theorem k_La_17 : gw_KV "CostCheckerLaw" 17 y_Mo_put 11 3 := ⟨o_Mo_put, Or.inl (gw_w4 73 (by decide +kernel) rfl), gw_w4 74 (by decide +kernel) rfl, gw_w4 75 (by decide +kernel) rfl, rfl, rfl⟩
theorem k_Mo_86 : gw_KS "CostCheckerModel" 86 y_Mo_in 3 := ⟨o_Mo_in, Or.inl (gw_w4 78 (by decide +kernel) rfl), gw_w4 79 (by decide +kernel) rfl⟩
theorem k_Mo_96 : gw_KV "CostCheckerModel" 96 y_Mo_changed 11 1 := ⟨o_Mo_changed, Or.inl (gw_w4 84 (by decide +kernel) rfl), gw_w4 86 (by decide +kernel) rfl, gw_sl1 (q := (n_Mo_changed, 33)) (by decide +kernel) rfl rfl, rfl, rfl⟩
theorem k_La_22 : gw_KV "CostCheckerLaw" 22 y_Mo_clear 11 1 := ⟨o_Mo_clear, Or.inl (gw_w4 88 (by decide +kernel) rfl), gw_w4 89 (by decide +kernel) rfl, gw_w4 90 (by decide +kernel) rfl, rfl, rfl⟩
theorem k_Mo_100 : gw_KV "CostCheckerModel" 100 y_Mo_plain 11 2 := ⟨o_Mo_plain, Or.inl (gw_w4 92 (by decide +kernel) rfl), gw_w4 94 (by decide +kernel) rfl, gw_sl1 (q := (n_Mo_plain, 33)) (by decide +kernel) rfl rfl, rfl, rfl⟩
theorem k_La_27 : gw_KV "CostCheckerLaw" 27 y_Mo_cut 11 2 := ⟨o_Mo_cut, Or.inl (gw_w4 96 (by decide +kernel) rfl), gw_w4 97 (by decide +kernel) rfl, gw_w4 98 (by decide +kernel) rfl, rfl, rfl⟩
theorem k_Mo_106 : gw_KV "CostCheckerModel" 106 y_Mo_cutAt 11 2 := ⟨o_Mo_cutAt, Or.inl (gw_w4 101 (by decide +kernel) rfl), gw_w4 103 (by decide +kernel) rfl, gw_sl1 (q := (n_Mo_cutAt, 33)) (by decide +kernel) rfl rfl, rfl, rfl⟩
theorem k_La_32 : gw_KV "CostCheckerLaw" 32 y_Mo_claim 11 5 := ⟨o_Mo_claim, Or.inl (gw_w4 105 (by decide +kernel) rfl), gw_w4 106 (by decide +kernel) rfl, gw_w4 107 (by decide +kernel) rfl, rfl, rfl⟩
theorem k_La_37 : gw_KV "CostCheckerLaw" 37 y_Mo_base 11 4 := ⟨o_Mo_base, Or.inl (gw_w4 110 (by decide +kernel) rfl), gw_w4 111 (by decide +kernel) rfl, gw_w4 112 (by decide +kernel) rfl, rfl, rfl⟩
theorem k_La_41 : gw_KV "CostCheckerLaw" 41 y_Mo_term 11 5 := ⟨o_Mo_term, Or.inl (gw_w4 116 (by decide +kernel) rfl), gw_w4 117 (by decide +kernel) rfl, gw_w4 118 (by decide +kernel) rfl, rfl, rfl⟩
theorem k_La_46 : gw_KV "CostCheckerLaw" 46 y_Mo_check 11 1 := ⟨o_Mo_check, Or.inl (gw_w4 122 (by decide +kernel) rfl), gw_w4 123 (by decide +kernel) rfl, gw_w4 124 (by decide +kernel) rfl, rfl, rfl⟩
theorem k_Mo_128 : gw_KV "CostCheckerModel" 128 y_Mo_checkCut 11 2 := ⟨o_Mo_checkCut, Or.inl (gw_w4 126 (by decide +kernel) rfl), gw_w4 128 (by decide +kernel) rfl, gw_sl1 (q := (n_Mo_checkCut, 33)) (by decide +kernel) rfl rfl, rfl, rfl⟩
theorem k_Mo_139 : gw_KV "CostCheckerModel" 139 y_Mo_begin 11 1 := ⟨o_Mo_begin, Or.inl (gw_w4 130 (by decide +kernel) rfl), gw_w4 132 (by decide +kernel) rfl, gw_sl1 (q := (n_Mo_begin, 33)) (by decide +kernel) rfl rfl, rfl, rfl⟩
theorem k_Mo_131 : gw_KV "CostCheckerModel" 131 y_Mo_know 11 4 := ⟨o_Mo_know, Or.inl (gw_w4 135 (by decide +kernel) rfl), gw_w4 137 (by decide +kernel) rfl, gw_sl1 (q := (n_Mo_know, 33)) (by decide +kernel) rfl rfl, rfl, rfl⟩
theorem k_Mo_120 : gw_KS "CostCheckerModel" 120 y_Mo_least 2 := ⟨o_Mo_least, Or.inl (gw_w4 139 (by decide +kernel) rfl), gw_w4 140 (by decide +kernel) rfl⟩
theorem k_Mo_135 : gw_KV "CostCheckerModel" 135 y_Mo_addTerm 11 7 := ⟨o_Mo_addTerm, Or.inl (gw_w4 142 (by decide +kernel) rfl), gw_w4 144 (by decide +kernel) rfl, gw_sl1 (q := (n_Mo_addTerm, 33)) (by decide +kernel) rfl rfl, rfl, rfl⟩
theorem k_Mo_142 : gw_KV "CostCheckerModel" 142 y_Mo_findBounds 11 1 := ⟨o_Mo_findBounds, Or.inl (gw_w4 147 (by decide +kernel) rfl), gw_w4 149 (by decide +kernel) rfl, gw_sl1 (q := (n_Mo_findBounds, 33)) (by decide +kernel) rfl rfl, rfl, rfl⟩
theorem k_Mo_146 : gw_KV "CostCheckerModel" 146 y_Mo_negative 11 1 := ⟨o_Mo_negative, Or.inl (gw_w4 151 (by decide +kernel) rfl), gw_w4 153 (by decide +kernel) rfl, gw_sl1 (q := (n_Mo_negative, 33)) (by decide +kernel) rfl rfl, rfl, rfl⟩
theorem k_Mo_156 : gw_KV "CostCheckerModel" 156 y_Mo_advance 11 2 := ⟨o_Mo_advance, Or.inl (gw_w4 155 (by decide +kernel) rfl), gw_w4 157 (by decide +kernel) rfl, gw_sl1 (q := (n_Mo_advance, 33)) (by decide +kernel) rfl rfl, rfl, rfl⟩
theorem k_Mo_159 : gw_KV "CostCheckerModel" 159 y_Mo_end 11 2 := ⟨o_Mo_end, Or.inl (gw_w4 159 (by decide +kernel) rfl), gw_w4 161 (by decide +kernel) rfl, gw_sl1 (q := (n_Mo_end, 33)) (by decide +kernel) rfl rfl, rfl, rfl⟩
theorem k_Mo_211 : gw_KV "CostCheckerModel" 211 y_Mo_localSide 11 2 := ⟨o_Mo_localSide, Or.inl (gw_w4 163 (by decide +kernel) rfl), gw_w4 165 (by decide +kernel) rfl, gw_sl1 (q := (n_Mo_localSide, 33)) (by decide +kernel) rfl rfl, rfl, rfl⟩
theorem k_Mo_215 : gw_KV "CostCheckerModel" 215 y_Mo_localNumber 11 2 := ⟨o_Mo_localNumber, Or.inl (gw_w4 167 (by decide +kernel) rfl), gw_w4 169 (by decide +kernel) rfl, gw_sl1 (q := (n_Mo_localNumber, 33)) (by decide +kernel) rfl rfl, rfl, rfl⟩
theorem k_Mo_200 : gw_KV "CostCheckerModel" 200 y_Mo_follows 11 5 := ⟨o_Mo_follows, Or.inl (gw_w4 171 (by decide +kernel) rfl), gw_w4 173 (by decide +kernel) rfl, gw_sl1 (q := (n_Mo_follows, 33)) (by decide +kernel) rfl rfl, rfl, rfl⟩
theorem k_Mo_218 : gw_KV "CostCheckerModel" 218 y_Mo_shown 11 2 := ⟨o_Mo_shown, Or.inl (gw_w4 175 (by decide +kernel) rfl), gw_w4 177 (by decide +kernel) rfl, gw_sl1 (q := (n_Mo_shown, 33)) (by decide +kernel) rfl rfl, rfl, rfl⟩
theorem k_Mo_168 : gw_KV "CostCheckerModel" 168 y_Mo_part 11 3 := ⟨o_Mo_part, Or.inl (gw_w4 182 (by decide +kernel) rfl), gw_w4 184 (by decide +kernel) rfl, gw_sl1 (q := (n_Mo_part, 33)) (by decide +kernel) rfl rfl, rfl, rfl⟩
theorem k_Mo_189 : gw_KV "CostCheckerModel" 189 y_Mo_pop 11 1 := ⟨o_Mo_pop, Or.inl (gw_w4 186 (by decide +kernel) rfl), gw_w4 188 (by decide +kernel) rfl, gw_sl1 (q := (n_Mo_pop, 33)) (by decide +kernel) rfl rfl, rfl, rfl⟩
theorem k_Mo_196 : gw_KV "CostCheckerModel" 196 y_Mo_learn 11 5 := ⟨o_Mo_learn, Or.inl (gw_w4 190 (by decide +kernel) rfl), gw_w4 192 (by decide +kernel) rfl, gw_sl1 (q := (n_Mo_learn, 33)) (by decide +kernel) rfl rfl, rfl, rfl⟩
theorem k_Mo_172 : gw_KV "CostCheckerModel" 172 y_Mo_memory 11 1 := ⟨o_Mo_memory, Or.inl (gw_w4 194 (by decide +kernel) rfl), gw_w4 196 (by decide +kernel) rfl, gw_sl1 (q := (n_Mo_memory, 33)) (by decide +kernel) rfl rfl, rfl, rfl⟩
theorem k_Mo_176 : gw_KV "CostCheckerModel" 176 y_Mo_called 11 2 := ⟨o_Mo_called, Or.inl (gw_w4 199 (by decide +kernel) rfl), gw_w4 201 (by decide +kernel) rfl, gw_sl1 (q := (n_Mo_called, 33)) (by decide +kernel) rfl rfl, rfl, rfl⟩
theorem k_Mo_204 : gw_KV "CostCheckerModel" 204 y_Mo_side 11 3 := ⟨o_Mo_side, Or.inl (gw_w4 203 (by decide +kernel) rfl), gw_w4 205 (by decide +kernel) rfl, gw_sl1 (q := (n_Mo_side, 33)) (by decide +kernel) rfl rfl, rfl, rfl⟩
theorem k_Mo_208 : gw_KV "CostCheckerModel" 208 y_Mo_extra 11 3 := ⟨o_Mo_extra, Or.inl (gw_w4 207 (by decide +kernel) rfl), gw_w4 209 (by decide +kernel) rfl, gw_sl1 (q := (n_Mo_extra, 33)) (by decide +kernel) rfl rfl, rfl, rfl⟩
theorem k_Mo_183 : gw_KV "CostCheckerModel" 183 y_Mo_push 11 3 := ⟨o_Mo_push, Or.inl (gw_w4 211 (by decide +kernel) rfl), gw_w4 213 (by decide +kernel) rfl, gw_sl1 (q := (n_Mo_push, 33)) (by decide +kernel) rfl rfl, rfl, rfl⟩
theorem k_Mo_179 : gw_KV "CostCheckerModel" 179 y_Mo_simple 11 3 := ⟨o_Mo_simple, Or.inl (gw_w4 215 (by decide +kernel) rfl), gw_w4 217 (by decide +kernel) rfl, gw_sl1 (q := (n_Mo_simple, 33)) (by decide +kernel) rfl rfl, rfl, rfl⟩
theorem k_Mo_192 : gw_KV "CostCheckerModel" 192 y_Mo_combine 11 6 := ⟨o_Mo_combine, Or.inl (gw_w4 219 (by decide +kernel) rfl), gw_w4 221 (by decide +kernel) rfl, gw_sl1 (q := (n_Mo_combine, 33)) (by decide +kernel) rfl rfl, rfl, rfl⟩
theorem k_La_50 : gw_KV "CostCheckerLaw" 50 y_Mo_accepted 11 1 := ⟨o_Mo_accepted, Or.inl (gw_w4 223 (by decide +kernel) rfl), gw_w4 224 (by decide +kernel) rfl, gw_w4 225 (by decide +kernel) rfl, rfl, rfl⟩
theorem k_La_55 : gw_KV "CostCheckerLaw" 55 y_Mo_bound 11 5 := ⟨o_Mo_bound, Or.inl (gw_w4 227 (by decide +kernel) rfl), gw_w4 228 (by decide +kernel) rfl, gw_w4 229 (by decide +kernel) rfl, rfl, rfl⟩
theorem k_Mo_226 : gw_KV "CostCheckerModel" 226 y_Mo_accepted 11 1 := ⟨o_Mo_accepted, Or.inl (gw_w4 233 (by decide +kernel) rfl), gw_w4 224 (by decide +kernel) rfl, gw_w4 225 (by decide +kernel) rfl, rfl, rfl⟩
theorem k_Mo_228 : gw_KS "CostCheckerModel" 228 y_Mo_argument 4 := ⟨o_Mo_argument, Or.inl (gw_w4 234 (by decide +kernel) rfl), gw_w4 235 (by decide +kernel) rfl⟩
theorem k_La_59 : gw_KV "CostCheckerLaw" 59 y_Mo_depth 11 1 := ⟨o_Mo_depth, Or.inl (gw_w4 237 (by decide +kernel) rfl), gw_w4 238 (by decide +kernel) rfl, gw_w4 239 (by decide +kernel) rfl, rfl, rfl⟩
theorem k_Mo_232 : gw_KV "CostCheckerModel" 232 y_Mo_calls 11 2 := ⟨o_Mo_calls, Or.inl (gw_w5 1 (by decide +kernel) rfl), gw_w5 3 (by decide +kernel) rfl, gw_sl1 (q := (n_Mo_calls, 33)) (by decide +kernel) rfl rfl, rfl, rfl⟩
theorem k_Mo_235 : gw_KS "CostCheckerModel" 235 y_Mo_greatest 2 := ⟨o_Mo_greatest, Or.inl (gw_w5 5 (by decide +kernel) rfl), gw_w5 6 (by decide +kernel) rfl⟩
theorem k_La_63 : gw_KV "CostCheckerLaw" 63 y_Mo_feed 11 1 := ⟨o_Mo_feed, Or.inl (gw_w5 8 (by decide +kernel) rfl), gw_w5 9 (by decide +kernel) rfl, gw_w5 10 (by decide +kernel) rfl, rfl, rfl⟩
theorem k_La_68 : gw_KV "CostCheckerLaw" 68 y_Mo_run 11 4 := ⟨o_Mo_run, Or.inl (gw_w5 12 (by decide +kernel) rfl), gw_w5 13 (by decide +kernel) rfl, gw_w5 14 (by decide +kernel) rfl, rfl, rfl⟩
theorem k_Mo_259 : gw_KV "CostCheckerModel" 259 y_Mo_enter 11 4 := ⟨o_Mo_enter, Or.inl (gw_w5 16 (by decide +kernel) rfl), gw_w5 18 (by decide +kernel) rfl, gw_sl1 (q := (n_Mo_enter, 33)) (by decide +kernel) rfl rfl, rfl, rfl⟩
theorem k_Mo_263 : gw_KV "CostCheckerModel" 263 y_Mo_makeStep 11 0 := ⟨o_Mo_makeStep, Or.inl (gw_w5 20 (by decide +kernel) rfl), gw_w5 22 (by decide +kernel) rfl, gw_sl1 (q := (n_Mo_makeStep, 33)) (by decide +kernel) rfl rfl, rfl, rfl⟩
theorem k_Mo_267 : gw_KV "CostCheckerModel" 267 y_Mo_take 11 1 := ⟨o_Mo_take, Or.inl (gw_w5 24 (by decide +kernel) rfl), gw_w5 26 (by decide +kernel) rfl, gw_sl1 (q := (n_Mo_take, 33)) (by decide +kernel) rfl rfl, rfl, rfl⟩
theorem k_Mo_270 : gw_KV "CostCheckerModel" 270 y_Mo_leave 11 1 := ⟨o_Mo_leave, Or.inl (gw_w5 28 (by decide +kernel) rfl), gw_w5 30 (by decide +kernel) rfl, gw_sl1 (q := (n_Mo_leave, 33)) (by decide +kernel) rfl rfl, rfl, rfl⟩
theorem k_Mo_280 : gw_KV "CostCheckerModel" 280 y_Mo_give 11 2 := ⟨o_Mo_give, Or.inl (gw_w5 32 (by decide +kernel) rfl), gw_w5 34 (by decide +kernel) rfl, gw_sl1 (q := (n_Mo_give, 33)) (by decide +kernel) rfl rfl, rfl, rfl⟩
theorem k_Mo_273 : gw_KV "CostCheckerModel" 273 y_Mo_choose 11 3 := ⟨o_Mo_choose, Or.inl (gw_w5 36 (by decide +kernel) rfl), gw_w5 38 (by decide +kernel) rfl, gw_sl1 (q := (n_Mo_choose, 33)) (by decide +kernel) rfl rfl, rfl, rfl⟩
theorem k_Mo_276 : gw_KV "CostCheckerModel" 276 y_Mo_work 11 3 := ⟨o_Mo_work, Or.inl (gw_w5 40 (by decide +kernel) rfl), gw_w5 42 (by decide +kernel) rfl, gw_sl1 (q := (n_Mo_work, 33)) (by decide +kernel) rfl rfl, rfl, rfl⟩
theorem k_Mo_283 : gw_KS "CostCheckerModel" 283 y_Mo_fits 1 := ⟨o_Mo_fits, Or.inl (gw_w5 44 (by decide +kernel) rfl), gw_w5 45 (by decide +kernel) rfl⟩
theorem k_La_72 : gw_KV "CostCheckerLaw" 72 y_Mo_ran 11 1 := ⟨o_Mo_ran, Or.inl (gw_w5 48 (by decide +kernel) rfl), gw_w5 49 (by decide +kernel) rfl, gw_w5 50 (by decide +kernel) rfl, rfl, rfl⟩
theorem j_CC_3 : Cond.methodLink "CostChecker" 3 Lib.objectInit ∈ gw_all := gw_w1 20 (by decide +kernel) rfl
theorem j_Me_3 : Cond.methodLink "CostChecker$Method" 3 Lib.objectInit ∈ gw_all := gw_w1 29 (by decide +kernel) rfl
theorem j_Cu_3 : Cond.methodLink "CostChecker$Cut" 3 Lib.objectInit ∈ gw_all := gw_w1 36 (by decide +kernel) rfl
theorem j_Po_3 : Cond.methodLink "CostChecker$Potential" 3 Lib.objectInit ∈ gw_all := gw_w1 43 (by decide +kernel) rfl
theorem j_Ma_3 : Cond.methodLink "CostChecker$Machine" 3 Lib.objectInit ∈ gw_all := gw_w1 144 (by decide +kernel) rfl
theorem j_Fr_3 : Cond.methodLink "CostChecker$Frame" 3 Lib.objectInit ∈ gw_all := gw_w1 151 (by decide +kernel) rfl
theorem j_Ch_3 : Cond.methodLink "CostChecker$Checker" 3 Lib.objectInit ∈ gw_all := gw_w1 212 (by decide +kernel) rfl
theorem j_Sy_3 : Cond.methodLink "CostChecker$Symbols" 3 Lib.objectInit ∈ gw_all := gw_w1 220 (by decide +kernel) rfl
theorem j_Pa_3 : Cond.methodLink "CostChecker$Path" 3 Lib.objectInit ∈ gw_all := gw_w2 0 (by decide +kernel) rfl
theorem j_Kn_3 : Cond.methodLink "CostChecker$Known" 3 Lib.objectInit ∈ gw_all := gw_w2 8 (by decide +kernel) rfl
theorem j_Ba_3 : Cond.methodLink "CostChecker$Balance" 3 Lib.objectInit ∈ gw_all := gw_w2 19 (by decide +kernel) rfl
theorem j_Pa_94 : Cond.methodLink "CostChecker$Path" 94 Lib.Math.max.name ∈ gw_all := gw_w3 33 (by decide +kernel) rfl
theorem j_Sy_23 : Cond.methodLink "CostChecker$Symbols" 23 arraycopyName ∈ gw_all := gw_w3 44 (by decide +kernel) rfl
theorem j_Pa_78 : Cond.methodLink "CostChecker$Path" 78 arraycopyName ∈ gw_all := gw_w3 47 (by decide +kernel) rfl
theorem j_Kn_17 : Cond.methodLink "CostChecker$Known" 17 arraycopyName ∈ gw_all := gw_w3 52 (by decide +kernel) rfl
theorem j_Ba_19 : Cond.methodLink "CostChecker$Balance" 19 arraycopyName ∈ gw_all := gw_w3 57 (by decide +kernel) rfl
theorem j_CC_159 : Cond.methodLink "CostChecker" 159 Lib.Math.max.name ∈ gw_all := gw_w3 135 (by decide +kernel) rfl
theorem j_Ma_123 : Cond.methodLink "CostChecker$Machine" 123 Lib.Math.max.name ∈ gw_all := gw_w3 192 (by decide +kernel) rfl
theorem j_Mo_1 : Cond.methodLink "CostCheckerModel" 1 Lib.objectInit ∈ gw_all := gw_w3 211 (by decide +kernel) rfl
theorem gw_jo1 : Cond.instanceMethod Lib.objectInit ∈ gw_all := gw_w1 21 (by decide +kernel) rfl
theorem gw_jm1 : Cond.static Lib.Math.max.name ∈ gw_all := gw_w3 34 (by decide +kernel) rfl
theorem gw_jm2 : Cond.initialized "java/lang/Math" ∈ gw_all := gw_w1 13 (by decide +kernel) rfl
theorem gw_js1 : Cond.native arraycopyName ∈ gw_all := gw_w3 46 (by decide +kernel) rfl
theorem gw_js2 : Cond.static arraycopyName ∈ gw_all := gw_w3 45 (by decide +kernel) rfl
theorem gw_js3 : Cond.initialized "java/lang/System" ∈ gw_all := gw_w1 14 (by decide +kernel) rfl
theorem gw_aI : Cond.arrayClass .int ∈ gw_all := gw_w1 71 (by decide +kernel) rfl
theorem gw_aL : Cond.arrayClass .long ∈ gw_all := gw_w1 235 (by decide +kernel) rfl
theorem gw_aZ : Cond.arrayClass .boolean ∈ gw_all := gw_w4 72 (by decide +kernel) rfl
theorem gw_jo2 : Cond.code Lib.objectInit ⟨#[0xb1]⟩ 1 none ∈ gw_all := gw_w1 22 (by decide +kernel) rfl
theorem gw_jm3 : Cond.code Lib.Math.max.name Lib.Math.max.code 2 (some .int) ∈ gw_all := gw_w3 35 (by decide +kernel) rfl
theorem c_La_7 : Cond.classLink "CostCheckerLaw" 7 (gw_c 0).1 ∈ gw_all := gw_w1 15 (by decide +kernel) rfl
theorem c_CC_9 : Cond.classLink "CostChecker" 9 (gw_c 1).1 ∈ gw_all := gw_w1 23 (by decide +kernel) rfl
theorem e_CC_9 : Cond.classLink "CostChecker" 9 "CostChecker$Method" ∈ gw_all := gw_w1 23 (by decide +kernel) rfl
theorem v_Me : Cond.arrayOver (.object "CostChecker$Method") ∈ lw_tbl := gw_l1 24 (by decide +kernel)
theorem c_Me_18 : Cond.classLink "CostChecker$Method" 18 (gw_c 2).1 ∈ gw_all := gw_w1 30 (by decide +kernel) rfl
theorem e_Me_18 : Cond.classLink "CostChecker$Method" 18 "CostChecker$Cut" ∈ gw_all := gw_w1 30 (by decide +kernel) rfl
theorem v_Cu : Cond.arrayOver (.object "CostChecker$Cut") ∈ lw_tbl := gw_l1 31 (by decide +kernel)
theorem c_Cu_21 : Cond.classLink "CostChecker$Cut" 21 (gw_c 3).1 ∈ gw_all := gw_w1 37 (by decide +kernel) rfl
theorem e_Cu_21 : Cond.classLink "CostChecker$Cut" 21 "CostChecker$Potential" ∈ gw_all := gw_w1 37 (by decide +kernel) rfl
theorem v_Po : Cond.arrayOver (.object "CostChecker$Potential") ∈ lw_tbl := gw_l1 38 (by decide +kernel)
theorem c_CC_18 : Cond.classLink "CostChecker" 18 (gw_c 4).1 ∈ gw_all := gw_w1 139 (by decide +kernel) rfl
theorem c_Ma_9 : Cond.classLink "CostChecker$Machine" 9 (gw_c 5).1 ∈ gw_all := gw_w1 145 (by decide +kernel) rfl
theorem e_Ma_9 : Cond.classLink "CostChecker$Machine" 9 "CostChecker$Frame" ∈ gw_all := gw_w1 145 (by decide +kernel) rfl
theorem v_Fr : Cond.arrayOver (.object "CostChecker$Frame") ∈ lw_tbl := gw_l1 146 (by decide +kernel)
theorem c_CC_27 : Cond.classLink "CostChecker" 27 (gw_c 6).1 ∈ gw_all := gw_w1 207 (by decide +kernel) rfl
theorem c_Ch_9 : Cond.classLink "CostChecker$Checker" 9 (gw_c 7).1 ∈ gw_all := gw_w1 213 (by decide +kernel) rfl
theorem e_Ch_9 : Cond.classLink "CostChecker$Checker" 9 "CostChecker$Path" ∈ gw_all := gw_w1 213 (by decide +kernel) rfl
theorem v_Pa : Cond.arrayOver (.object "CostChecker$Path") ∈ lw_tbl := gw_l1 214 (by decide +kernel)
theorem c_Ch_17 : Cond.classLink "CostChecker$Checker" 17 (gw_c 8).1 ∈ gw_all := gw_w1 215 (by decide +kernel) rfl
theorem c_Pa_9 : Cond.classLink "CostChecker$Path" 9 (gw_c 8).1 ∈ gw_all := gw_w2 1 (by decide +kernel) rfl
theorem c_Pa_26 : Cond.classLink "CostChecker$Path" 26 (gw_c 9).1 ∈ gw_all := gw_w2 3 (by decide +kernel) rfl
theorem c_Pa_33 : Cond.classLink "CostChecker$Path" 33 (gw_c 10).1 ∈ gw_all := gw_w2 13 (by decide +kernel) rfl
theorem e_Pa_33 : Cond.classLink "CostChecker$Path" 33 "CostChecker$Balance" ∈ gw_all := gw_w2 13 (by decide +kernel) rfl
theorem v_Ba : Cond.arrayOver (.object "CostChecker$Balance") ∈ lw_tbl := gw_l2 14 (by decide +kernel)
theorem c_La_10 : Cond.classLink "CostCheckerLaw" 10 (gw_c 11).1 ∈ gw_all := gw_w3 206 (by decide +kernel) rfl
theorem i_Kn_15 : Cond.constantLong "CostChecker$Known" 15 1152921504606846976 ∈ gw_all := gw_w2 209 (by decide +kernel) rfl
theorem i_Ba_65 : Cond.constantLong "CostChecker$Balance" 65 1152921504606846976 ∈ gw_all := gw_w3 13 (by decide +kernel) rfl
theorem i_Ba_55 : Cond.constantLong "CostChecker$Balance" 55 2 ∈ gw_all := gw_w3 75 (by decide +kernel) rfl
theorem i_Ba_57 : Cond.constantLong "CostChecker$Balance" 57 (-1) ∈ gw_all := gw_w3 76 (by decide +kernel) rfl
theorem i_CC_165 : Cond.constant "CostChecker" 165 (-1000000) ∈ gw_all := gw_w3 116 (by decide +kernel) rfl
theorem i_CC_166 : Cond.constant "CostChecker" 166 1000000 ∈ gw_all := gw_w3 117 (by decide +kernel) rfl
theorem i_CC_103 : Cond.constantLong "CostChecker" 103 (-1) ∈ gw_all := gw_w3 118 (by decide +kernel) rfl
theorem i_Ma_122 : Cond.constant "CostChecker$Machine" 122 1000000000 ∈ gw_all := gw_w3 187 (by decide +kernel) rfl
theorem i_Mo_84 : Cond.constantLong "CostCheckerModel" 84 3 ∈ gw_all := gw_w4 77 (by decide +kernel) rfl
theorem i_Mo_90 : Cond.constantLong "CostCheckerModel" 90 14 ∈ gw_all := gw_w4 81 (by decide +kernel) rfl
theorem i_Mo_92 : Cond.constantLong "CostCheckerModel" 92 (-1000) ∈ gw_all := gw_w4 82 (by decide +kernel) rfl
theorem i_Mo_94 : Cond.constantLong "CostCheckerModel" 94 1000 ∈ gw_all := gw_w4 83 (by decide +kernel) rfl
theorem i_Mo_104 : Cond.constantLong "CostCheckerModel" 104 23 ∈ gw_all := gw_w4 100 (by decide +kernel) rfl
theorem i_Mo_110 : Cond.constantLong "CostCheckerModel" 110 4 ∈ gw_all := gw_w4 109 (by decide +kernel) rfl
theorem i_Mo_112 : Cond.constantLong "CostCheckerModel" 112 (-10000) ∈ gw_all := gw_w4 114 (by decide +kernel) rfl
theorem i_Mo_114 : Cond.constantLong "CostCheckerModel" 114 10000 ∈ gw_all := gw_w4 115 (by decide +kernel) rfl
theorem i_Mo_116 : Cond.constantLong "CostCheckerModel" 116 100 ∈ gw_all := gw_w4 120 (by decide +kernel) rfl
theorem i_Mo_118 : Cond.constantLong "CostCheckerModel" 118 24 ∈ gw_all := gw_w4 121 (by decide +kernel) rfl
theorem i_Mo_124 : Cond.constantLong "CostCheckerModel" 124 1000000000000000 ∈ gw_all := gw_w4 134 (by decide +kernel) rfl
theorem i_Mo_126 : Cond.constantLong "CostCheckerModel" 126 5 ∈ gw_all := gw_w4 146 (by decide +kernel) rfl
theorem i_Mo_162 : Cond.constantLong "CostCheckerModel" 162 40 ∈ gw_all := gw_w4 179 (by decide +kernel) rfl
theorem i_Mo_164 : Cond.constantLong "CostCheckerModel" 164 2 ∈ gw_all := gw_w4 180 (by decide +kernel) rfl
theorem i_Mo_166 : Cond.constantLong "CostCheckerModel" 166 6 ∈ gw_all := gw_w4 181 (by decide +kernel) rfl
theorem i_Mo_187 : Cond.constantLong "CostCheckerModel" 187 (-1) ∈ gw_all := gw_w4 198 (by decide +kernel) rfl
theorem i_Mo_222 : Cond.constantLong "CostCheckerModel" 222 (-1000000) ∈ gw_all := gw_w4 231 (by decide +kernel) rfl
theorem i_Mo_224 : Cond.constantLong "CostCheckerModel" 224 1000000 ∈ gw_all := gw_w4 232 (by decide +kernel) rfl
theorem i_Mo_287 : Cond.constant "CostCheckerModel" 287 1000000000 ∈ gw_all := gw_w5 47 (by decide +kernel) rfl
