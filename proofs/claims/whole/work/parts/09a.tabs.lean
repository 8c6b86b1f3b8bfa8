/-! what the tables' words say, by number (written by wip/whole/prog/mknames.py) -/
theorem gw_l1 {w : Cond} (i : Nat) (h : tables_1_1[i]? = some w) : w ∈ lw_tbl := List.mem_append_right _ (show w ∈ tables_1 from List.mem_append_left _ (List.mem_of_getElem? h))
theorem gw_w1 {w : Cond} (i : Nat) (h : tables_1_1[i]? = some w) (hg : goodWord w = true) : w ∈ gw_all := List.mem_filter.mpr ⟨gw_l1 i h, hg⟩
theorem gw_l2 {w : Cond} (i : Nat) (h : tables_1_2[i]? = some w) : w ∈ lw_tbl := List.mem_append_right _ (show w ∈ tables_1 from List.mem_append_right _ (List.mem_append_left _ (List.mem_of_getElem? h)))
theorem gw_w2 {w : Cond} (i : Nat) (h : tables_1_2[i]? = some w) (hg : goodWord w = true) : w ∈ gw_all := List.mem_filter.mpr ⟨gw_l2 i h, hg⟩
theorem gw_l3 {w : Cond} (i : Nat) (h : tables_1_3[i]? = some w) : w ∈ lw_tbl := List.mem_append_right _ (show w ∈ tables_1 from List.mem_append_right _ (List.mem_append_right _ (List.mem_append_left _ (List.mem_of_getElem? h))))
theorem gw_w3 {w : Cond} (i : Nat) (h : tables_1_3[i]? = some w) (hg : goodWord w = true) : w ∈ gw_all := List.mem_filter.mpr ⟨gw_l3 i h, hg⟩
theorem gw_l4 {w : Cond} (i : Nat) (h : tables_1_4[i]? = some w) : w ∈ lw_tbl := List.mem_append_right _ (show w ∈ tables_1 from List.mem_append_right _ (List.mem_append_right _ (List.mem_append_right _ (List.mem_append_left _ (List.mem_of_getElem? h)))))
theorem gw_w4 {w : Cond} (i : Nat) (h : tables_1_4[i]? = some w) (hg : goodWord w = true) : w ∈ gw_all := List.mem_filter.mpr ⟨gw_l4 i h, hg⟩
theorem gw_l5 {w : Cond} (i : Nat) (h : tables_1_5[i]? = some w) : w ∈ lw_tbl := List.mem_append_right _ (show w ∈ tables_1 from List.mem_append_right _ (List.mem_append_right _ (List.mem_append_right _ (List.mem_append_right _ (List.mem_of_getElem? h)))))
theorem gw_w5 {w : Cond} (i : Nat) (h : tables_1_5[i]? = some w) (hg : goodWord w = true) : w ∈ gw_all := List.mem_filter.mpr ⟨gw_l5 i h, hg⟩
theorem gw_sl1 {w : Cond} {q : MethodName × Nat} (h : q ∈ lw_privs) (hw : w = Cond.selects q.1.cls q.1 q.1) (hg : goodWord w = true) : w ∈ gw_all := List.mem_filter.mpr ⟨List.mem_append_left _ (by rw [hw]; exact List.mem_map.mpr ⟨q, h, rfl⟩), hg⟩
theorem gw_inCC : ∀ w ∈ u_ws (gw_c 0).1 (gw_c 0).2.1 (gw_c 0).2.2, w ∈ gw_all := by
  intro w hw
  obtain ⟨k, hk, rfl⟩ := List.mem_map.mp hw
  have hk' : k < 4 := List.mem_range.mp hk
  by_cases h0 : k = 0
  · subst h0; exact gw_w2 81 rfl rfl
  by_cases h1 : k = 1
  · subst h1; exact gw_w2 83 rfl rfl
  by_cases h2 : k = 2
  · subst h2; exact gw_w2 85 rfl rfl
  by_cases h3 : k = 3
  · subst h3; exact gw_w2 87 rfl rfl
  exact absurd hk' (by omega)
theorem gw_kCC : gw_Cok 0 := ⟨rfl, rfl, gw_inCC, by decide +kernel, by decide +kernel⟩
theorem gw_k2CC : gw_C2 0 := ⟨gw_kCC, by decide +kernel, gw_w1 16 rfl rfl, gw_w1 1 rfl rfl⟩
theorem gw_inMe : ∀ w ∈ u_ws (gw_c 1).1 (gw_c 1).2.1 (gw_c 1).2.2, w ∈ gw_all := by
  intro w hw
  obtain ⟨k, hk, rfl⟩ := List.mem_map.mp hw
  have hk' : k < 8 := List.mem_range.mp hk
  by_cases h0 : k = 0
  · subst h0; exact gw_w1 122 rfl rfl
  by_cases h1 : k = 1
  · subst h1; exact gw_w1 124 rfl rfl
  by_cases h2 : k = 2
  · subst h2; exact gw_w1 126 rfl rfl
  by_cases h3 : k = 3
  · subst h3; exact gw_w1 128 rfl rfl
  by_cases h4 : k = 4
  · subst h4; exact gw_w1 130 rfl rfl
  by_cases h5 : k = 5
  · subst h5; exact gw_w1 132 rfl rfl
  by_cases h6 : k = 6
  · subst h6; exact gw_w1 134 rfl rfl
  by_cases h7 : k = 7
  · subst h7; exact gw_w1 136 rfl rfl
  exact absurd hk' (by omega)
theorem gw_kMe : gw_Cok 1 := ⟨rfl, rfl, gw_inMe, by decide +kernel, by decide +kernel⟩
theorem gw_k2Me : gw_C2 1 := ⟨gw_kMe, by decide +kernel, gw_w1 25 rfl rfl, gw_w1 2 rfl rfl⟩
theorem gw_inCu : ∀ w ∈ u_ws (gw_c 2).1 (gw_c 2).2.1 (gw_c 2).2.2, w ∈ gw_all := by
  intro w hw
  obtain ⟨k, hk, rfl⟩ := List.mem_map.mp hw
  have hk' : k < 6 := List.mem_range.mp hk
  by_cases h0 : k = 0
  · subst h0; exact gw_w1 88 rfl rfl
  by_cases h1 : k = 1
  · subst h1; exact gw_w1 90 rfl rfl
  by_cases h2 : k = 2
  · subst h2; exact gw_w1 92 rfl rfl
  by_cases h3 : k = 3
  · subst h3; exact gw_w1 94 rfl rfl
  by_cases h4 : k = 4
  · subst h4; exact gw_w1 96 rfl rfl
  by_cases h5 : k = 5
  · subst h5; exact gw_w1 98 rfl rfl
  exact absurd hk' (by omega)
theorem gw_kCu : gw_Cok 2 := ⟨rfl, rfl, gw_inCu, by decide +kernel, by decide +kernel⟩
theorem gw_k2Cu : gw_C2 2 := ⟨gw_kCu, by decide +kernel, gw_w1 32 rfl rfl, gw_w1 3 rfl rfl⟩
theorem gw_inPo : ∀ w ∈ u_ws (gw_c 3).1 (gw_c 3).2.1 (gw_c 3).2.2, w ∈ gw_all := by
  intro w hw
  obtain ⟨k, hk, rfl⟩ := List.mem_map.mp hw
  have hk' : k < 5 := List.mem_range.mp hk
  by_cases h0 : k = 0
  · subst h0; exact gw_w1 60 rfl rfl
  by_cases h1 : k = 1
  · subst h1; exact gw_w1 62 rfl rfl
  by_cases h2 : k = 2
  · subst h2; exact gw_w1 64 rfl rfl
  by_cases h3 : k = 3
  · subst h3; exact gw_w1 66 rfl rfl
  by_cases h4 : k = 4
  · subst h4; exact gw_w1 68 rfl rfl
  exact absurd hk' (by omega)
theorem gw_kPo : gw_Cok 3 := ⟨rfl, rfl, gw_inPo, by decide +kernel, by decide +kernel⟩
theorem gw_k2Po : gw_C2 3 := ⟨gw_kPo, by decide +kernel, gw_w1 39 rfl rfl, gw_w1 4 rfl rfl⟩
theorem gw_inMa : ∀ w ∈ u_ws (gw_c 4).1 (gw_c 4).2.1 (gw_c 4).2.2, w ∈ gw_all := by
  intro w hw
  obtain ⟨k, hk, rfl⟩ := List.mem_map.mp hw
  have hk' : k < 10 := List.mem_range.mp hk
  by_cases h0 : k = 0
  · subst h0; exact gw_w1 186 rfl rfl
  by_cases h1 : k = 1
  · subst h1; exact gw_w1 188 rfl rfl
  by_cases h2 : k = 2
  · subst h2; exact gw_w1 190 rfl rfl
  by_cases h3 : k = 3
  · subst h3; exact gw_w1 192 rfl rfl
  by_cases h4 : k = 4
  · subst h4; exact gw_w1 194 rfl rfl
  by_cases h5 : k = 5
  · subst h5; exact gw_w1 196 rfl rfl
  by_cases h6 : k = 6
  · subst h6; exact gw_w1 198 rfl rfl
  by_cases h7 : k = 7
  · subst h7; exact gw_w1 200 rfl rfl
  by_cases h8 : k = 8
  · subst h8; exact gw_w1 202 rfl rfl
  by_cases h9 : k = 9
  · subst h9; exact gw_w1 204 rfl rfl
  exact absurd hk' (by omega)
theorem gw_kMa : gw_Cok 4 := ⟨rfl, rfl, gw_inMa, by decide +kernel, by decide +kernel⟩
theorem gw_k2Ma : gw_C2 4 := ⟨gw_kMa, by decide +kernel, gw_w1 140 rfl rfl, gw_w1 5 rfl rfl⟩
theorem gw_inFr : ∀ w ∈ u_ws (gw_c 5).1 (gw_c 5).2.1 (gw_c 5).2.2, w ∈ gw_all := by
  intro w hw
  obtain ⟨k, hk, rfl⟩ := List.mem_map.mp hw
  have hk' : k < 5 := List.mem_range.mp hk
  by_cases h0 : k = 0
  · subst h0; exact gw_w1 161 rfl rfl
  by_cases h1 : k = 1
  · subst h1; exact gw_w1 163 rfl rfl
  by_cases h2 : k = 2
  · subst h2; exact gw_w1 165 rfl rfl
  by_cases h3 : k = 3
  · subst h3; exact gw_w1 167 rfl rfl
  by_cases h4 : k = 4
  · subst h4; exact gw_w1 169 rfl rfl
  exact absurd hk' (by omega)
theorem gw_kFr : gw_Cok 5 := ⟨rfl, rfl, gw_inFr, by decide +kernel, by decide +kernel⟩
theorem gw_k2Fr : gw_C2 5 := ⟨gw_kFr, by decide +kernel, gw_w1 147 rfl rfl, gw_w1 6 rfl rfl⟩
theorem gw_inCh : ∀ w ∈ u_ws (gw_c 6).1 (gw_c 6).2.1 (gw_c 6).2.2, w ∈ gw_all := by
  intro w hw
  obtain ⟨k, hk, rfl⟩ := List.mem_map.mp hw
  have hk' : k < 5 := List.mem_range.mp hk
  by_cases h0 : k = 0
  · subst h0; exact gw_w2 66 rfl rfl
  by_cases h1 : k = 1
  · subst h1; exact gw_w2 68 rfl rfl
  by_cases h2 : k = 2
  · subst h2; exact gw_w2 70 rfl rfl
  by_cases h3 : k = 3
  · subst h3; exact gw_w2 72 rfl rfl
  by_cases h4 : k = 4
  · subst h4; exact gw_w2 74 rfl rfl
  exact absurd hk' (by omega)
theorem gw_kCh : gw_Cok 6 := ⟨rfl, rfl, gw_inCh, by decide +kernel, by decide +kernel⟩
theorem gw_k2Ch : gw_C2 6 := ⟨gw_kCh, by decide +kernel, gw_w1 208 rfl rfl, gw_w1 7 rfl rfl⟩
theorem gw_inPa : ∀ w ∈ u_ws (gw_c 7).1 (gw_c 7).2.1 (gw_c 7).2.2, w ∈ gw_all := by
  intro w hw
  obtain ⟨k, hk, rfl⟩ := List.mem_map.mp hw
  have hk' : k < 8 := List.mem_range.mp hk
  by_cases h0 : k = 0
  · subst h0; exact gw_w2 44 rfl rfl
  by_cases h1 : k = 1
  · subst h1; exact gw_w2 46 rfl rfl
  by_cases h2 : k = 2
  · subst h2; exact gw_w2 48 rfl rfl
  by_cases h3 : k = 3
  · subst h3; exact gw_w2 50 rfl rfl
  by_cases h4 : k = 4
  · subst h4; exact gw_w2 52 rfl rfl
  by_cases h5 : k = 5
  · subst h5; exact gw_w2 54 rfl rfl
  by_cases h6 : k = 6
  · subst h6; exact gw_w2 56 rfl rfl
  by_cases h7 : k = 7
  · subst h7; exact gw_w2 58 rfl rfl
  exact absurd hk' (by omega)
theorem gw_kPa : gw_Cok 7 := ⟨rfl, rfl, gw_inPa, by decide +kernel, by decide +kernel⟩
theorem gw_k2Pa : gw_C2 7 := ⟨gw_kPa, by decide +kernel, gw_w1 236 rfl rfl, gw_w1 9 rfl rfl⟩
theorem gw_inSy : ∀ w ∈ u_ws (gw_c 8).1 (gw_c 8).2.1 (gw_c 8).2.2, w ∈ gw_all := by
  intro w hw
  obtain ⟨k, hk, rfl⟩ := List.mem_map.mp hw
  have hk' : k < 2 := List.mem_range.mp hk
  by_cases h0 : k = 0
  · subst h0; exact gw_w1 230 rfl rfl
  by_cases h1 : k = 1
  · subst h1; exact gw_w1 232 rfl rfl
  exact absurd hk' (by omega)
theorem gw_kSy : gw_Cok 8 := ⟨rfl, rfl, gw_inSy, by decide +kernel, by decide +kernel⟩
theorem gw_k2Sy : gw_C2 8 := ⟨gw_kSy, by decide +kernel, gw_w1 216 rfl rfl, gw_w1 8 rfl rfl⟩
theorem gw_inKn : ∀ w ∈ u_ws (gw_c 9).1 (gw_c 9).2.1 (gw_c 9).2.2, w ∈ gw_all := by
  intro w hw
  obtain ⟨k, hk, rfl⟩ := List.mem_map.mp hw
  have hk' : k < 1 := List.mem_range.mp hk
  by_cases h0 : k = 0
  · subst h0; exact gw_w2 10 rfl rfl
  exact absurd hk' (by omega)
theorem gw_kKn : gw_Cok 9 := ⟨rfl, rfl, gw_inKn, by decide +kernel, by decide +kernel⟩
theorem gw_k2Kn : gw_C2 9 := ⟨gw_kKn, by decide +kernel, gw_w2 4 rfl rfl, gw_w1 10 rfl rfl⟩
theorem gw_inBa : ∀ w ∈ u_ws (gw_c 10).1 (gw_c 10).2.1 (gw_c 10).2.2, w ∈ gw_all := by
  intro w hw
  obtain ⟨k, hk, rfl⟩ := List.mem_map.mp hw
  have hk' : k < 2 := List.mem_range.mp hk
  by_cases h0 : k = 0
  · subst h0; exact gw_w2 23 rfl rfl
  by_cases h1 : k = 1
  · subst h1; exact gw_w2 25 rfl rfl
  exact absurd hk' (by omega)
theorem gw_kBa : gw_Cok 10 := ⟨rfl, rfl, gw_inBa, by decide +kernel, by decide +kernel⟩
theorem gw_k2Ba : gw_C2 10 := ⟨gw_kBa, by decide +kernel, gw_w2 15 rfl rfl, gw_w1 11 rfl rfl⟩
theorem gw_inMo : ∀ w ∈ u_ws (gw_c 11).1 (gw_c 11).2.1 (gw_c 11).2.2, w ∈ gw_all := by
  intro w hw
  obtain ⟨k, hk, rfl⟩ := List.mem_map.mp hw
  have hk' : k < 33 := List.mem_range.mp hk
  by_cases h0 : k = 0
  · subst h0; exact gw_w4 5 rfl rfl
  by_cases h1 : k = 1
  · subst h1; exact gw_w4 7 rfl rfl
  by_cases h2 : k = 2
  · subst h2; exact gw_w4 9 rfl rfl
  by_cases h3 : k = 3
  · subst h3; exact gw_w4 11 rfl rfl
  by_cases h4 : k = 4
  · subst h4; exact gw_w4 13 rfl rfl
  by_cases h5 : k = 5
  · subst h5; exact gw_w4 15 rfl rfl
  by_cases h6 : k = 6
  · subst h6; exact gw_w4 17 rfl rfl
  by_cases h7 : k = 7
  · subst h7; exact gw_w4 19 rfl rfl
  by_cases h8 : k = 8
  · subst h8; exact gw_w4 21 rfl rfl
  by_cases h9 : k = 9
  · subst h9; exact gw_w4 23 rfl rfl
  by_cases h10 : k = 10
  · subst h10; exact gw_w4 25 rfl rfl
  by_cases h11 : k = 11
  · subst h11; exact gw_w4 27 rfl rfl
  by_cases h12 : k = 12
  · subst h12; exact gw_w4 29 rfl rfl
  by_cases h13 : k = 13
  · subst h13; exact gw_w4 31 rfl rfl
  by_cases h14 : k = 14
  · subst h14; exact gw_w4 33 rfl rfl
  by_cases h15 : k = 15
  · subst h15; exact gw_w4 35 rfl rfl
  by_cases h16 : k = 16
  · subst h16; exact gw_w4 37 rfl rfl
  by_cases h17 : k = 17
  · subst h17; exact gw_w4 39 rfl rfl
  by_cases h18 : k = 18
  · subst h18; exact gw_w4 41 rfl rfl
  by_cases h19 : k = 19
  · subst h19; exact gw_w4 43 rfl rfl
  by_cases h20 : k = 20
  · subst h20; exact gw_w4 45 rfl rfl
  by_cases h21 : k = 21
  · subst h21; exact gw_w4 47 rfl rfl
  by_cases h22 : k = 22
  · subst h22; exact gw_w4 49 rfl rfl
  by_cases h23 : k = 23
  · subst h23; exact gw_w4 51 rfl rfl
  by_cases h24 : k = 24
  · subst h24; exact gw_w4 53 rfl rfl
  by_cases h25 : k = 25
  · subst h25; exact gw_w4 55 rfl rfl
  by_cases h26 : k = 26
  · subst h26; exact gw_w4 57 rfl rfl
  by_cases h27 : k = 27
  · subst h27; exact gw_w4 59 rfl rfl
  by_cases h28 : k = 28
  · subst h28; exact gw_w4 61 rfl rfl
  by_cases h29 : k = 29
  · subst h29; exact gw_w4 63 rfl rfl
  by_cases h30 : k = 30
  · subst h30; exact gw_w4 65 rfl rfl
  by_cases h31 : k = 31
  · subst h31; exact gw_w4 67 rfl rfl
  by_cases h32 : k = 32
  · subst h32; exact gw_w4 69 rfl rfl
  exact absurd hk' (by omega)
theorem gw_kMo : gw_Cok 11 := ⟨rfl, rfl, gw_inMo, by decide +kernel, by decide +kernel⟩
theorem gw_k2Mo : gw_C2 11 := ⟨gw_kMo, by decide +kernel, gw_w3 207 rfl rfl, gw_w1 12 rfl rfl⟩
theorem f_Po_21 : gw_F "CostChecker$Potential" 21 3 0 0 false := ⟨gw_kPo, by decide +kernel, gw_w1 44 rfl rfl, rfl, rfl⟩
theorem f_Ba_25 : gw_F "CostChecker$Balance" 25 3 0 0 false := ⟨gw_kPo, by decide +kernel, gw_w1 45 rfl rfl, rfl, rfl⟩
theorem f_CC_84 : gw_F "CostChecker" 84 3 0 0 false := ⟨gw_kPo, by decide +kernel, gw_w1 46 rfl rfl, rfl, rfl⟩
theorem f_Kn_55 : gw_F "CostChecker$Known" 55 3 0 0 false := ⟨gw_kPo, by decide +kernel, gw_w1 47 rfl rfl, rfl, rfl⟩
theorem f_Po_25 : gw_F "CostChecker$Potential" 25 3 1 0 false := ⟨gw_kPo, by decide +kernel, gw_w1 48 rfl rfl, rfl, rfl⟩
theorem f_Ba_31 : gw_F "CostChecker$Balance" 31 3 1 0 false := ⟨gw_kPo, by decide +kernel, gw_w1 49 rfl rfl, rfl, rfl⟩
theorem f_Kn_60 : gw_F "CostChecker$Known" 60 3 1 0 false := ⟨gw_kPo, by decide +kernel, gw_w1 50 rfl rfl, rfl, rfl⟩
theorem f_Po_9 : gw_F "CostChecker$Potential" 9 3 2 2 true := ⟨gw_kPo, by decide +kernel, gw_w1 51 rfl rfl, rfl, rfl⟩
theorem f_Ba_41 : gw_F "CostChecker$Balance" 41 3 2 2 true := ⟨gw_kPo, by decide +kernel, gw_w1 52 rfl rfl, rfl, rfl⟩
theorem f_Kn_69 : gw_F "CostChecker$Known" 69 3 2 2 true := ⟨gw_kPo, by decide +kernel, gw_w1 53 rfl rfl, rfl, rfl⟩
theorem f_Po_15 : gw_F "CostChecker$Potential" 15 3 3 2 true := ⟨gw_kPo, by decide +kernel, gw_w1 54 rfl rfl, rfl, rfl⟩
theorem f_Ba_34 : gw_F "CostChecker$Balance" 34 3 3 2 true := ⟨gw_kPo, by decide +kernel, gw_w1 55 rfl rfl, rfl, rfl⟩
theorem f_Kn_66 : gw_F "CostChecker$Known" 66 3 3 2 true := ⟨gw_kPo, by decide +kernel, gw_w1 56 rfl rfl, rfl, rfl⟩
theorem f_Po_18 : gw_F "CostChecker$Potential" 18 3 4 2 true := ⟨gw_kPo, by decide +kernel, gw_w1 57 rfl rfl, rfl, rfl⟩
theorem f_Ba_38 : gw_F "CostChecker$Balance" 38 3 4 2 true := ⟨gw_kPo, by decide +kernel, gw_w1 58 rfl rfl, rfl, rfl⟩
theorem f_Kn_63 : gw_F "CostChecker$Known" 63 3 4 2 true := ⟨gw_kPo, by decide +kernel, gw_w1 59 rfl rfl, rfl, rfl⟩
theorem f_Cu_28 : gw_F "CostChecker$Cut" 28 2 0 0 false := ⟨gw_kCu, by decide +kernel, gw_w1 72 rfl rfl, rfl, rfl⟩
theorem f_Pa_40 : gw_F "CostChecker$Path" 40 2 0 0 false := ⟨gw_kCu, by decide +kernel, gw_w1 73 rfl rfl, rfl, rfl⟩
theorem f_Ch_50 : gw_F "CostChecker$Checker" 50 2 0 0 false := ⟨gw_kCu, by decide +kernel, gw_w1 74 rfl rfl, rfl, rfl⟩
theorem f_Me_39 : gw_F "CostChecker$Method" 39 2 0 0 false := ⟨gw_kCu, by decide +kernel, gw_w1 75 rfl rfl, rfl, rfl⟩
theorem f_Cu_32 : gw_F "CostChecker$Cut" 32 2 1 0 false := ⟨gw_kCu, by decide +kernel, gw_w1 76 rfl rfl, rfl, rfl⟩
theorem f_Kn_27 : gw_F "CostChecker$Known" 27 2 1 0 false := ⟨gw_kCu, by decide +kernel, gw_w1 77 rfl rfl, rfl, rfl⟩
theorem f_Cu_9 : gw_F "CostChecker$Cut" 9 2 2 2 true := ⟨gw_kCu, by decide +kernel, gw_w1 78 rfl rfl, rfl, rfl⟩
theorem f_Kn_33 : gw_F "CostChecker$Known" 33 2 2 2 true := ⟨gw_kCu, by decide +kernel, gw_w1 79 rfl rfl, rfl, rfl⟩
theorem f_Cu_15 : gw_F "CostChecker$Cut" 15 2 3 2 true := ⟨gw_kCu, by decide +kernel, gw_w1 80 rfl rfl, rfl, rfl⟩
theorem f_Kn_37 : gw_F "CostChecker$Known" 37 2 3 2 true := ⟨gw_kCu, by decide +kernel, gw_w1 81 rfl rfl, rfl, rfl⟩
theorem f_Cu_18 : gw_F "CostChecker$Cut" 18 2 4 2 true := ⟨gw_kCu, by decide +kernel, gw_w1 82 rfl rfl, rfl, rfl⟩
theorem f_Kn_40 : gw_F "CostChecker$Known" 40 2 4 2 true := ⟨gw_kCu, by decide +kernel, gw_w1 83 rfl rfl, rfl, rfl⟩
theorem f_Cu_23 : gw_F "CostChecker$Cut" 23 2 5 2 true := ⟨gw_kCu, by decide +kernel, gw_w1 84 rfl rfl, rfl, rfl⟩
theorem f_Pa_59 : gw_F "CostChecker$Path" 59 2 5 2 true := ⟨gw_kCu, by decide +kernel, gw_w1 85 rfl rfl, rfl, rfl⟩
theorem f_Ch_63 : gw_F "CostChecker$Checker" 63 2 5 2 true := ⟨gw_kCu, by decide +kernel, gw_w1 86 rfl rfl, rfl, rfl⟩
theorem f_CC_80 : gw_F "CostChecker" 80 2 5 2 true := ⟨gw_kCu, by decide +kernel, gw_w1 87 rfl rfl, rfl, rfl⟩
theorem f_Me_24 : gw_F "CostChecker$Method" 24 1 0 0 true := ⟨gw_kMe, by decide +kernel, gw_w1 101 rfl rfl, rfl, rfl⟩
theorem f_CC_156 : gw_F "CostChecker" 156 1 0 0 true := ⟨gw_kMe, by decide +kernel, gw_w1 102 rfl rfl, rfl, rfl⟩
theorem f_Me_9 : gw_F "CostChecker$Method" 9 1 1 2 true := ⟨gw_kMe, by decide +kernel, gw_w1 103 rfl rfl, rfl, rfl⟩
theorem f_Ma_69 : gw_F "CostChecker$Machine" 69 1 1 2 true := ⟨gw_kMe, by decide +kernel, gw_w1 104 rfl rfl, rfl, rfl⟩
theorem f_Ch_103 : gw_F "CostChecker$Checker" 103 1 1 2 true := ⟨gw_kMe, by decide +kernel, gw_w1 105 rfl rfl, rfl, rfl⟩
theorem f_CC_153 : gw_F "CostChecker" 153 1 1 2 true := ⟨gw_kMe, by decide +kernel, gw_w1 106 rfl rfl, rfl, rfl⟩
theorem f_Me_15 : gw_F "CostChecker$Method" 15 1 2 2 true := ⟨gw_kMe, by decide +kernel, gw_w1 107 rfl rfl, rfl, rfl⟩
theorem f_Ma_74 : gw_F "CostChecker$Machine" 74 1 2 2 true := ⟨gw_kMe, by decide +kernel, gw_w1 108 rfl rfl, rfl, rfl⟩
theorem f_Ch_107 : gw_F "CostChecker$Checker" 107 1 2 2 true := ⟨gw_kMe, by decide +kernel, gw_w1 109 rfl rfl, rfl, rfl⟩
theorem f_CC_150 : gw_F "CostChecker" 150 1 2 2 true := ⟨gw_kMe, by decide +kernel, gw_w1 110 rfl rfl, rfl, rfl⟩
theorem f_Ch_33 : gw_F "CostChecker$Checker" 33 1 3 0 false := ⟨gw_kMe, by decide +kernel, gw_w1 111 rfl rfl, rfl, rfl⟩
theorem f_Me_32 : gw_F "CostChecker$Method" 32 1 3 0 false := ⟨gw_kMe, by decide +kernel, gw_w1 112 rfl rfl, rfl, rfl⟩
theorem f_CC_54 : gw_F "CostChecker" 54 1 3 0 false := ⟨gw_kMe, by decide +kernel, gw_w1 113 rfl rfl, rfl, rfl⟩
theorem f_Me_20 : gw_F "CostChecker$Method" 20 1 4 2 true := ⟨gw_kMe, by decide +kernel, gw_w1 114 rfl rfl, rfl, rfl⟩
theorem f_Ch_42 : gw_F "CostChecker$Checker" 42 1 4 2 true := ⟨gw_kMe, by decide +kernel, gw_w1 115 rfl rfl, rfl, rfl⟩
theorem f_CC_105 : gw_F "CostChecker" 105 1 4 2 true := ⟨gw_kMe, by decide +kernel, gw_w1 116 rfl rfl, rfl, rfl⟩
theorem f_Me_29 : gw_F "CostChecker$Method" 29 1 5 0 false := ⟨gw_kMe, by decide +kernel, gw_w1 117 rfl rfl, rfl, rfl⟩
theorem f_Ch_39 : gw_F "CostChecker$Checker" 39 1 5 0 false := ⟨gw_kMe, by decide +kernel, gw_w1 118 rfl rfl, rfl, rfl⟩
theorem f_Ch_169 : gw_F "CostChecker$Checker" 169 1 6 3 false := ⟨gw_kMe, by decide +kernel, gw_w1 119 rfl rfl, rfl, rfl⟩
theorem f_CC_96 : gw_F "CostChecker" 96 1 6 3 false := ⟨gw_kMe, by decide +kernel, gw_w1 120 rfl rfl, rfl, rfl⟩
theorem f_CC_121 : gw_F "CostChecker" 121 1 7 0 false := ⟨gw_kMe, by decide +kernel, gw_w1 121 rfl rfl, rfl, rfl⟩
theorem f_Fr_9 : gw_F "CostChecker$Frame" 9 5 0 2 true := ⟨gw_kFr, by decide +kernel, gw_w1 152 rfl rfl, rfl, rfl⟩
theorem f_Ma_89 : gw_F "CostChecker$Machine" 89 5 0 2 true := ⟨gw_kFr, by decide +kernel, gw_w1 153 rfl rfl, rfl, rfl⟩
theorem f_Fr_15 : gw_F "CostChecker$Frame" 15 5 1 2 true := ⟨gw_kFr, by decide +kernel, gw_w1 154 rfl rfl, rfl, rfl⟩
theorem f_Fr_25 : gw_F "CostChecker$Frame" 25 5 2 0 false := ⟨gw_kFr, by decide +kernel, gw_w1 155 rfl rfl, rfl, rfl⟩
theorem f_Ma_62 : gw_F "CostChecker$Machine" 62 5 2 0 false := ⟨gw_kFr, by decide +kernel, gw_w1 156 rfl rfl, rfl, rfl⟩
theorem f_Fr_18 : gw_F "CostChecker$Frame" 18 5 3 0 false := ⟨gw_kFr, by decide +kernel, gw_w1 157 rfl rfl, rfl, rfl⟩
theorem f_Ma_56 : gw_F "CostChecker$Machine" 56 5 3 0 false := ⟨gw_kFr, by decide +kernel, gw_w1 158 rfl rfl, rfl, rfl⟩
theorem f_Fr_22 : gw_F "CostChecker$Frame" 22 5 4 0 false := ⟨gw_kFr, by decide +kernel, gw_w1 159 rfl rfl, rfl, rfl⟩
theorem f_Ma_59 : gw_F "CostChecker$Machine" 59 5 4 0 false := ⟨gw_kFr, by decide +kernel, gw_w1 160 rfl rfl, rfl, rfl⟩
theorem f_Ma_21 : gw_F "CostChecker$Machine" 21 4 0 2 true := ⟨gw_kMa, by decide +kernel, gw_w1 172 rfl rfl, rfl, rfl⟩
theorem f_Ma_11 : gw_F "CostChecker$Machine" 11 4 1 2 true := ⟨gw_kMa, by decide +kernel, gw_w1 173 rfl rfl, rfl, rfl⟩
theorem f_Ma_45 : gw_F "CostChecker$Machine" 45 4 2 0 false := ⟨gw_kMa, by decide +kernel, gw_w1 174 rfl rfl, rfl, rfl⟩
theorem f_Ma_17 : gw_F "CostChecker$Machine" 17 4 3 2 true := ⟨gw_kMa, by decide +kernel, gw_w1 175 rfl rfl, rfl, rfl⟩
theorem f_Ma_26 : gw_F "CostChecker$Machine" 26 4 4 0 false := ⟨gw_kMa, by decide +kernel, gw_w1 176 rfl rfl, rfl, rfl⟩
theorem f_Ma_42 : gw_F "CostChecker$Machine" 42 4 5 0 false := ⟨gw_kMa, by decide +kernel, gw_w1 177 rfl rfl, rfl, rfl⟩
theorem f_Ma_30 : gw_F "CostChecker$Machine" 30 4 6 0 false := ⟨gw_kMa, by decide +kernel, gw_w1 178 rfl rfl, rfl, rfl⟩
theorem f_CC_134 : gw_F "CostChecker" 134 4 6 0 false := ⟨gw_kMa, by decide +kernel, gw_w1 179 rfl rfl, rfl, rfl⟩
theorem f_Ma_33 : gw_F "CostChecker$Machine" 33 4 7 0 false := ⟨gw_kMa, by decide +kernel, gw_w1 180 rfl rfl, rfl, rfl⟩
theorem f_CC_137 : gw_F "CostChecker" 137 4 7 0 false := ⟨gw_kMa, by decide +kernel, gw_w1 181 rfl rfl, rfl, rfl⟩
theorem f_Ma_36 : gw_F "CostChecker$Machine" 36 4 8 0 false := ⟨gw_kMa, by decide +kernel, gw_w1 182 rfl rfl, rfl, rfl⟩
theorem f_CC_140 : gw_F "CostChecker" 140 4 8 0 false := ⟨gw_kMa, by decide +kernel, gw_w1 183 rfl rfl, rfl, rfl⟩
theorem f_Ma_39 : gw_F "CostChecker$Machine" 39 4 9 0 false := ⟨gw_kMa, by decide +kernel, gw_w1 184 rfl rfl, rfl, rfl⟩
theorem f_CC_143 : gw_F "CostChecker" 143 4 9 0 false := ⟨gw_kMa, by decide +kernel, gw_w1 185 rfl rfl, rfl, rfl⟩
theorem f_Sy_9 : gw_F "CostChecker$Symbols" 9 8 0 2 true := ⟨gw_kSy, by decide +kernel, gw_w1 221 rfl rfl, rfl, rfl⟩
theorem f_Po_28 : gw_F "CostChecker$Potential" 28 8 0 2 true := ⟨gw_kSy, by decide +kernel, gw_w1 222 rfl rfl, rfl, rfl⟩
theorem f_Ba_48 : gw_F "CostChecker$Balance" 48 8 0 2 true := ⟨gw_kSy, by decide +kernel, gw_w1 223 rfl rfl, rfl, rfl⟩
theorem f_Kn_47 : gw_F "CostChecker$Known" 47 8 0 2 true := ⟨gw_kSy, by decide +kernel, gw_w1 224 rfl rfl, rfl, rfl⟩
theorem f_Pa_104 : gw_F "CostChecker$Path" 104 8 0 2 true := ⟨gw_kSy, by decide +kernel, gw_w1 225 rfl rfl, rfl, rfl⟩
theorem f_Sy_15 : gw_F "CostChecker$Symbols" 15 8 1 2 true := ⟨gw_kSy, by decide +kernel, gw_w1 226 rfl rfl, rfl, rfl⟩
theorem f_Ba_43 : gw_F "CostChecker$Balance" 43 8 1 2 true := ⟨gw_kSy, by decide +kernel, gw_w1 227 rfl rfl, rfl, rfl⟩
theorem f_Kn_52 : gw_F "CostChecker$Known" 52 8 1 2 true := ⟨gw_kSy, by decide +kernel, gw_w1 228 rfl rfl, rfl, rfl⟩
theorem f_Pa_107 : gw_F "CostChecker$Path" 107 8 1 2 true := ⟨gw_kSy, by decide +kernel, gw_w1 229 rfl rfl, rfl, rfl⟩
theorem f_Kn_9 : gw_F "CostChecker$Known" 9 9 0 2 true := ⟨gw_kKn, by decide +kernel, gw_w2 9 rfl rfl, rfl, rfl⟩
theorem f_Ba_9 : gw_F "CostChecker$Balance" 9 10 0 2 true := ⟨gw_kBa, by decide +kernel, gw_w2 20 rfl rfl, rfl, rfl⟩
theorem f_Ba_15 : gw_F "CostChecker$Balance" 15 10 1 1 false := ⟨gw_kBa, by decide +kernel, gw_w2 21 rfl rfl, rfl, rfl⟩
theorem f_Pa_90 : gw_F "CostChecker$Path" 90 10 1 1 false := ⟨gw_kBa, by decide +kernel, gw_w2 22 rfl rfl, rfl, rfl⟩
theorem f_Pa_12 : gw_F "CostChecker$Path" 12 7 0 2 true := ⟨gw_kPa, by decide +kernel, gw_w2 28 rfl rfl, rfl, rfl⟩
theorem f_Ch_190 : gw_F "CostChecker$Checker" 190 7 0 2 true := ⟨gw_kPa, by decide +kernel, gw_w2 29 rfl rfl, rfl, rfl⟩
theorem f_Pa_18 : gw_F "CostChecker$Path" 18 7 1 2 true := ⟨gw_kPa, by decide +kernel, gw_w2 30 rfl rfl, rfl, rfl⟩
theorem f_Ch_141 : gw_F "CostChecker$Checker" 141 7 1 2 true := ⟨gw_kPa, by decide +kernel, gw_w2 31 rfl rfl, rfl, rfl⟩
theorem f_Pa_22 : gw_F "CostChecker$Path" 22 7 2 2 true := ⟨gw_kPa, by decide +kernel, gw_w2 32 rfl rfl, rfl, rfl⟩
theorem f_Ch_144 : gw_F "CostChecker$Checker" 144 7 2 2 true := ⟨gw_kPa, by decide +kernel, gw_w2 33 rfl rfl, rfl, rfl⟩
theorem f_Pa_50 : gw_F "CostChecker$Path" 50 7 3 0 false := ⟨gw_kPa, by decide +kernel, gw_w2 34 rfl rfl, rfl, rfl⟩
theorem f_Ch_96 : gw_F "CostChecker$Checker" 96 7 3 0 false := ⟨gw_kPa, by decide +kernel, gw_w2 35 rfl rfl, rfl, rfl⟩
theorem f_Pa_46 : gw_F "CostChecker$Path" 46 7 4 0 false := ⟨gw_kPa, by decide +kernel, gw_w2 36 rfl rfl, rfl, rfl⟩
theorem f_Ch_80 : gw_F "CostChecker$Checker" 80 7 4 0 false := ⟨gw_kPa, by decide +kernel, gw_w2 37 rfl rfl, rfl, rfl⟩
theorem f_Pa_47 : gw_F "CostChecker$Path" 47 7 5 0 false := ⟨gw_kPa, by decide +kernel, gw_w2 38 rfl rfl, rfl, rfl⟩
theorem f_Ch_85 : gw_F "CostChecker$Checker" 85 7 5 0 false := ⟨gw_kPa, by decide +kernel, gw_w2 39 rfl rfl, rfl, rfl⟩
theorem f_Pa_29 : gw_F "CostChecker$Path" 29 7 6 2 true := ⟨gw_kPa, by decide +kernel, gw_w2 40 rfl rfl, rfl, rfl⟩
theorem f_Ch_59 : gw_F "CostChecker$Checker" 59 7 6 2 true := ⟨gw_kPa, by decide +kernel, gw_w2 41 rfl rfl, rfl, rfl⟩
theorem f_Pa_35 : gw_F "CostChecker$Path" 35 7 7 2 true := ⟨gw_kPa, by decide +kernel, gw_w2 42 rfl rfl, rfl, rfl⟩
theorem f_Ch_152 : gw_F "CostChecker$Checker" 152 7 7 2 true := ⟨gw_kPa, by decide +kernel, gw_w2 43 rfl rfl, rfl, rfl⟩
theorem f_Ch_24 : gw_F "CostChecker$Checker" 24 6 0 2 true := ⟨gw_kCh, by decide +kernel, gw_w2 61 rfl rfl, rfl, rfl⟩
theorem f_Ch_28 : gw_F "CostChecker$Checker" 28 6 1 2 false := ⟨gw_kCh, by decide +kernel, gw_w2 62 rfl rfl, rfl, rfl⟩
theorem f_Ch_11 : gw_F "CostChecker$Checker" 11 6 2 2 true := ⟨gw_kCh, by decide +kernel, gw_w2 63 rfl rfl, rfl, rfl⟩
theorem f_Ch_20 : gw_F "CostChecker$Checker" 20 6 3 2 true := ⟨gw_kCh, by decide +kernel, gw_w2 64 rfl rfl, rfl, rfl⟩
theorem f_Ch_73 : gw_F "CostChecker$Checker" 73 6 4 0 false := ⟨gw_kCh, by decide +kernel, gw_w2 65 rfl rfl, rfl, rfl⟩
theorem f_CC_14 : gw_F "CostChecker" 14 0 0 2 true := ⟨gw_kCC, by decide +kernel, gw_w2 77 rfl rfl, rfl, rfl⟩
theorem f_CC_23 : gw_F "CostChecker" 23 0 1 2 true := ⟨gw_kCC, by decide +kernel, gw_w2 78 rfl rfl, rfl, rfl⟩
theorem f_CC_30 : gw_F "CostChecker" 30 0 2 2 true := ⟨gw_kCC, by decide +kernel, gw_w2 79 rfl rfl, rfl, rfl⟩
theorem f_CC_34 : gw_F "CostChecker" 34 0 3 2 true := ⟨gw_kCC, by decide +kernel, gw_w2 80 rfl rfl, rfl, rfl⟩
theorem f_CC_167 : Cond.fieldLink "CostChecker" 167 gw_tC gw_tN "[I" ∈ gw_all := gw_w3 17 rfl rfl
theorem f_CC_170 : Cond.fieldLink "CostChecker" 170 gw_tC gw_pN "[I" ∈ gw_all := gw_w3 19 rfl rfl
theorem f_Mo_7 : gw_F "CostCheckerModel" 7 11 0 2 true := ⟨gw_kMo, by decide +kernel, gw_w3 212 rfl rfl, rfl, rfl⟩
theorem f_Mo_13 : gw_F "CostCheckerModel" 13 11 1 2 true := ⟨gw_kMo, by decide +kernel, gw_w3 213 rfl rfl, rfl, rfl⟩
theorem f_Mo_16 : gw_F "CostCheckerModel" 16 11 2 2 true := ⟨gw_kMo, by decide +kernel, gw_w3 214 rfl rfl, rfl, rfl⟩
theorem f_Mo_19 : gw_F "CostCheckerModel" 19 11 3 2 true := ⟨gw_kMo, by decide +kernel, gw_w3 215 rfl rfl, rfl, rfl⟩
theorem f_Mo_23 : gw_F "CostCheckerModel" 23 11 4 2 true := ⟨gw_kMo, by decide +kernel, gw_w3 216 rfl rfl, rfl, rfl⟩
theorem f_Mo_26 : gw_F "CostCheckerModel" 26 11 5 2 true := ⟨gw_kMo, by decide +kernel, gw_w3 217 rfl rfl, rfl, rfl⟩
theorem f_Mo_29 : gw_F "CostCheckerModel" 29 11 6 2 true := ⟨gw_kMo, by decide +kernel, gw_w3 218 rfl rfl, rfl, rfl⟩
theorem f_Mo_32 : gw_F "CostCheckerModel" 32 11 7 2 true := ⟨gw_kMo, by decide +kernel, gw_w3 219 rfl rfl, rfl, rfl⟩
theorem f_Mo_35 : gw_F "CostCheckerModel" 35 11 8 2 true := ⟨gw_kMo, by decide +kernel, gw_w3 220 rfl rfl, rfl, rfl⟩
theorem f_Mo_38 : gw_F "CostCheckerModel" 38 11 9 2 true := ⟨gw_kMo, by decide +kernel, gw_w3 221 rfl rfl, rfl, rfl⟩
theorem f_Mo_41 : gw_F "CostCheckerModel" 41 11 10 2 true := ⟨gw_kMo, by decide +kernel, gw_w3 222 rfl rfl, rfl, rfl⟩
theorem f_Mo_44 : gw_F "CostCheckerModel" 44 11 11 2 true := ⟨gw_kMo, by decide +kernel, gw_w3 223 rfl rfl, rfl, rfl⟩
theorem f_Mo_47 : gw_F "CostCheckerModel" 47 11 12 2 true := ⟨gw_kMo, by decide +kernel, gw_w3 224 rfl rfl, rfl, rfl⟩
theorem f_Mo_50 : gw_F "CostCheckerModel" 50 11 13 2 true := ⟨gw_kMo, by decide +kernel, gw_w3 225 rfl rfl, rfl, rfl⟩
theorem f_Mo_53 : gw_F "CostCheckerModel" 53 11 14 2 true := ⟨gw_kMo, by decide +kernel, gw_w3 226 rfl rfl, rfl, rfl⟩
theorem f_Mo_56 : gw_F "CostCheckerModel" 56 11 15 2 true := ⟨gw_kMo, by decide +kernel, gw_w3 227 rfl rfl, rfl, rfl⟩
theorem f_Mo_149 : gw_F "CostCheckerModel" 149 11 16 0 false := ⟨gw_kMo, by decide +kernel, gw_w3 228 rfl rfl, rfl, rfl⟩
theorem f_Mo_153 : gw_F "CostCheckerModel" 153 11 17 0 false := ⟨gw_kMo, by decide +kernel, gw_w3 229 rfl rfl, rfl, rfl⟩
theorem f_Mo_60 : gw_F "CostCheckerModel" 60 11 18 2 true := ⟨gw_kMo, by decide +kernel, gw_w3 230 rfl rfl, rfl, rfl⟩
theorem f_Mo_63 : gw_F "CostCheckerModel" 63 11 19 2 true := ⟨gw_kMo, by decide +kernel, gw_w3 231 rfl rfl, rfl, rfl⟩
theorem f_Mo_66 : gw_F "CostCheckerModel" 66 11 20 2 true := ⟨gw_kMo, by decide +kernel, gw_w3 232 rfl rfl, rfl, rfl⟩
theorem f_Mo_238 : gw_F "CostCheckerModel" 238 11 21 0 false := ⟨gw_kMo, by decide +kernel, gw_w3 233 rfl rfl, rfl, rfl⟩
theorem f_Mo_69 : gw_F "CostCheckerModel" 69 11 22 2 true := ⟨gw_kMo, by decide +kernel, gw_w3 234 rfl rfl, rfl, rfl⟩
theorem f_Mo_72 : gw_F "CostCheckerModel" 72 11 23 2 true := ⟨gw_kMo, by decide +kernel, gw_w3 235 rfl rfl, rfl, rfl⟩
theorem f_Mo_75 : gw_F "CostCheckerModel" 75 11 24 2 true := ⟨gw_kMo, by decide +kernel, gw_w3 236 rfl rfl, rfl, rfl⟩
theorem f_Mo_78 : gw_F "CostCheckerModel" 78 11 25 2 true := ⟨gw_kMo, by decide +kernel, gw_w3 237 rfl rfl, rfl, rfl⟩
theorem f_Mo_81 : gw_F "CostCheckerModel" 81 11 26 2 true := ⟨gw_kMo, by decide +kernel, gw_w3 238 rfl rfl, rfl, rfl⟩
theorem f_Mo_241 : gw_F "CostCheckerModel" 241 11 27 0 false := ⟨gw_kMo, by decide +kernel, gw_w3 239 rfl rfl, rfl, rfl⟩
theorem f_Mo_247 : gw_F "CostCheckerModel" 247 11 28 0 false := ⟨gw_kMo, by decide +kernel, gw_w4 0 rfl rfl, rfl, rfl⟩
theorem f_Mo_250 : gw_F "CostCheckerModel" 250 11 29 0 false := ⟨gw_kMo, by decide +kernel, gw_w4 1 rfl rfl, rfl, rfl⟩
theorem f_Mo_253 : gw_F "CostCheckerModel" 253 11 30 0 false := ⟨gw_kMo, by decide +kernel, gw_w4 2 rfl rfl, rfl, rfl⟩
theorem f_Mo_244 : gw_F "CostCheckerModel" 244 11 31 0 false := ⟨gw_kMo, by decide +kernel, gw_w4 3 rfl rfl, rfl, rfl⟩
theorem f_Mo_256 : gw_F "CostCheckerModel" 256 11 32 0 false := ⟨gw_kMo, by decide +kernel, gw_w4 4 rfl rfl, rfl, rfl⟩
abbrev y_CC_init : gw_Y := (n_CC_init, prog_1_method_1_code, 3, none)
abbrev y_Me_init : gw_Y := (n_Me_init, prog_8_method_1_code, 3, none)
abbrev y_Cu_init : gw_Y := (n_Cu_init, prog_4_method_1_code, 2, none)
abbrev y_Po_init : gw_Y := (n_Po_init, prog_10_method_1_code, 1, none)
abbrev y_Ma_init : gw_Y := (n_Ma_init, prog_7_method_1_code, 3, none)
abbrev y_Fr_init : gw_Y := (n_Fr_init, prog_5_method_1_code, 1, none)
abbrev y_Ch_init : gw_Y := (n_Ch_init, prog_3_method_1_code, 3, none)
abbrev y_Sy_init : gw_Y := (n_Sy_init, prog_11_method_1_code, 1, none)
abbrev y_Pa_init : gw_Y := (n_Pa_init, prog_9_method_1_code, 2, none)
abbrev y_Kn_init : gw_Y := (n_Kn_init, prog_6_method_1_code, 1, none)
abbrev y_Ba_init : gw_Y := (n_Ba_init, prog_2_method_1_code, 1, none)
abbrev y_CC_put : gw_Y := (n_CC_put, prog_1_method_2_code, 5, some .int)
abbrev y_CC_methodAt : gw_Y := (n_CC_methodAt, prog_1_method_15_code, 2, some (.object "CostChecker$Method"))
abbrev y_CC_isBetween : gw_Y := (n_CC_isBetween, prog_1_method_19_code, 3, some .boolean)
abbrev y_Me_append : gw_Y := (n_Me_append, prog_8_method_3_code, 3, some .boolean)
abbrev y_CC_noteChange : gw_Y := (n_CC_noteChange, prog_1_method_17_code, 4, some .boolean)
abbrev y_CC_clear : gw_Y := (n_CC_clear, prog_1_method_3_code, 3, some .boolean)
abbrev y_Me_reset : gw_Y := (n_Me_reset, prog_8_method_2_code, 1, none)
abbrev y_Cu_reset : gw_Y := (n_Cu_reset, prog_4_method_2_code, 3, none)
abbrev y_Po_reset : gw_Y := (n_Po_reset, prog_10_method_2_code, 1, none)
abbrev y_CC_cut : gw_Y := (n_CC_cut, prog_1_method_4_code, 4, some .boolean)
abbrev y_Me_addCut : gw_Y := (n_Me_addCut, prog_8_method_6_code, 4, some .boolean)
abbrev y_Me_findCut : gw_Y := (n_Me_findCut, prog_8_method_5_code, 3, some (.object "CostChecker$Cut"))
abbrev y_CC_claim : gw_Y := (n_CC_claim, prog_1_method_5_code, 7, some .boolean)
abbrev y_CC_cutAt : gw_Y := (n_CC_cutAt, prog_1_method_16_code, 4, some (.object "CostChecker$Cut"))
abbrev y_CC_areTwoSides : gw_Y := (n_CC_areTwoSides, prog_1_method_23_code, 2, some .boolean)
abbrev y_Cu_addClaim : gw_Y := (n_Cu_addClaim, prog_4_method_3_code, 4, some .boolean)
abbrev y_CC_base : gw_Y := (n_CC_base, prog_1_method_6_code, 6, some .boolean)
abbrev y_CC_isPotential : gw_Y := (n_CC_isPotential, prog_1_method_22_code, 1, some .boolean)
abbrev y_CC_term : gw_Y := (n_CC_term, prog_1_method_7_code, 7, some .boolean)
abbrev y_Po_addTerm : gw_Y := (n_Po_addTerm, prog_10_method_3_code, 4, some .boolean)
abbrev y_CC_check : gw_Y := (n_CC_check, prog_1_method_8_code, 4, some .int)
abbrev y_Ch_answerFor : gw_Y := (n_Ch_answerFor, prog_3_method_2_code, 4, some .int)
abbrev y_Ch_reasonAtCut : gw_Y := (n_Ch_reasonAtCut, prog_3_method_3_code, 3, some .int)
abbrev y_Pa_beginAt : gw_Y := (n_Pa_beginAt, prog_9_method_2_code, 3, some .boolean)
abbrev y_Sy_standForThemselves : gw_Y := (n_Sy_standForThemselves, prog_11_method_3_code, 2, none)
abbrev y_Sy_set : gw_Y := (n_Sy_set, prog_11_method_2_code, 5, none)
abbrev y_Ba_reset : gw_Y := (n_Ba_reset, prog_2_method_2_code, 2, none)
abbrev y_Ba_addPotential : gw_Y := (n_Ba_addPotential, prog_2_method_5_code, 9, none)
abbrev y_Ba_addDifference : gw_Y := (n_Ba_addDifference, prog_2_method_4_code, 5, none)
abbrev y_Kn_forgetAll : gw_Y := (n_Kn_forgetAll, prog_6_method_2_code, 3, none)
abbrev y_Kn_learnClaims : gw_Y := (n_Kn_learnClaims, prog_6_method_6_code, 3, some .boolean)
abbrev y_Kn_learn : gw_Y := (n_Kn_learn, prog_6_method_5_code, 9, some .boolean)
abbrev y_Kn_boundOf : gw_Y := (n_Kn_boundOf, prog_6_method_4_code, 3, some .long)
abbrev y_Kn_allowsNegative : gw_Y := (n_Kn_allowsNegative, prog_6_method_9_code, 7, some .boolean)
abbrev y_Ch_reasonFrom : gw_Y := (n_Ch_reasonFrom, prog_3_method_4_code, 9, some .int)
abbrev y_Me_hasPlace : gw_Y := (n_Me_hasPlace, prog_8_method_4_code, 2, some .boolean)
abbrev y_Ch_reasonAtEnd : gw_Y := (n_Ch_reasonAtEnd, prog_3_method_8_code, 4, some .int)
abbrev y_Kn_showsClaims : gw_Y := (n_Kn_showsClaims, prog_6_method_7_code, 8, some .boolean)
abbrev y_Po_speaksOfNothing : gw_Y := (n_Po_speaksOfNothing, prog_10_method_5_code, 3, some .boolean)
abbrev y_Ba_isShownNotNegative : gw_Y := (n_Ba_isShownNotNegative, prog_2_method_7_code, 10, some .boolean)
abbrev y_CC_isCramped : gw_Y := (n_CC_isCramped, prog_1_method_24_code, 7, some .boolean)
abbrev y_Pa_countInstruction : gw_Y := (n_Pa_countInstruction, prog_9_method_4_code, 1, none)
abbrev y_Ch_reasonBehind : gw_Y := (n_Ch_reasonBehind, prog_3_method_5_code, 4, some .int)
abbrev y_Pa_drop : gw_Y := (n_Pa_drop, prog_9_method_6_code, 2, none)
abbrev y_Pa_copyFrom : gw_Y := (n_Pa_copyFrom, prog_9_method_3_code, 3, none)
abbrev y_Sy_copyFrom : gw_Y := (n_Sy_copyFrom, prog_11_method_4_code, 2, none)
abbrev y_Kn_copyFrom : gw_Y := (n_Kn_copyFrom, prog_6_method_3_code, 2, none)
abbrev y_Ba_copyFrom : gw_Y := (n_Ba_copyFrom, prog_2_method_3_code, 2, none)
abbrev y_Pa_learnLess : gw_Y := (n_Pa_learnLess, prog_9_method_10_code, 6, some .boolean)
abbrev y_Ch_reasonOfNew : gw_Y := (n_Ch_reasonOfNew, prog_3_method_6_code, 5, some .int)
abbrev y_Kn_showsNotNegative : gw_Y := (n_Kn_showsNotNegative, prog_6_method_8_code, 4, some .boolean)
abbrev y_Ba_payWords : gw_Y := (n_Ba_payWords, prog_2_method_6_code, 4, none)
abbrev y_Ch_reasonOfCall : gw_Y := (n_Ch_reasonOfCall, prog_3_method_7_code, 5, some .int)
abbrev y_Pa_push : gw_Y := (n_Pa_push, prog_9_method_5_code, 4, none)
abbrev y_Pa_performPlain : gw_Y := (n_Pa_performPlain, prog_9_method_7_code, 3, none)
abbrev y_Pa_pushSum : gw_Y := (n_Pa_pushSum, prog_9_method_8_code, 5, none)
abbrev y_Pa_pushDifference : gw_Y := (n_Pa_pushDifference, prog_9_method_9_code, 5, none)
abbrev y_CC_accepted : gw_Y := (n_CC_accepted, prog_1_method_9_code, 3, some .boolean)
abbrev y_CC_bound : gw_Y := (n_CC_bound, prog_1_method_10_code, 8, some .long)
abbrev y_CC_areValues : gw_Y := (n_CC_areValues, prog_1_method_21_code, 3, some .boolean)
abbrev y_CC_isValue : gw_Y := (n_CC_isValue, prog_1_method_20_code, 1, some .boolean)
abbrev y_Cu_holdsFor : gw_Y := (n_Cu_holdsFor, prog_4_method_4_code, 3, some .boolean)
abbrev y_Po_valueFor : gw_Y := (n_Po_valueFor, prog_10_method_4_code, 5, some .long)
abbrev y_CC_depth : gw_Y := (n_CC_depth, prog_1_method_11_code, 3, some .int)
abbrev y_CC_measureDepth : gw_Y := (n_CC_measureDepth, prog_1_method_18_code, 5, none)
abbrev y_CC_feed : gw_Y := (n_CC_feed, prog_1_method_12_code, 2, some .boolean)
abbrev y_Ma_addInput : gw_Y := (n_Ma_addInput, prog_7_method_2_code, 2, some .boolean)
abbrev y_CC_run : gw_Y := (n_CC_run, prog_1_method_13_code, 6, some .int)
abbrev y_Ma_runToEnd : gw_Y := (n_Ma_runToEnd, prog_7_method_3_code, 6, some .int)
abbrev y_Fr_enter : gw_Y := (n_Fr_enter, prog_5_method_2_code, 5, none)
abbrev y_Ma_step : gw_Y := (n_Ma_step, prog_7_method_4_code, 6, some .int)
abbrev y_Ma_perform : gw_Y := (n_Ma_perform, prog_7_method_5_code, 4, some .int)
abbrev y_Fr_push : gw_Y := (n_Fr_push, prog_5_method_3_code, 2, none)
abbrev y_Fr_pop : gw_Y := (n_Fr_pop, prog_5_method_4_code, 1, some .int)
abbrev y_Ma_pushSum : gw_Y := (n_Ma_pushSum, prog_7_method_6_code, 3, some .int)
abbrev y_Ma_growLocal : gw_Y := (n_Ma_growLocal, prog_7_method_7_code, 3, some .int)
abbrev y_Ma_goIf : gw_Y := (n_Ma_goIf, prog_7_method_8_code, 5, none)
abbrev y_Ma_takeWords : gw_Y := (n_Ma_takeWords, prog_7_method_9_code, 2, some .int)
abbrev y_Ma_enterCalled : gw_Y := (n_Ma_enterCalled, prog_7_method_10_code, 6, none)
abbrev y_Ma_leave : gw_Y := (n_Ma_leave, prog_7_method_11_code, 2, some .int)
abbrev y_Ma_nextInput : gw_Y := (n_Ma_nextInput, prog_7_method_12_code, 1, some .int)
abbrev y_CC_ran : gw_Y := (n_CC_ran, prog_1_method_14_code, 2, some .int)
abbrev y_Mo_init : gw_Y := (n_Mo_init, prog_13_method_1_code, 2, none)
abbrev y_Mo_put : gw_Y := (n_Mo_put, prog_13_method_4_code, 4, some .int)
abbrev y_Mo_in : gw_Y := (n_Mo_in, prog_13_method_2_code, 6, some .boolean)
abbrev y_Mo_changed : gw_Y := (n_Mo_changed, prog_13_method_3_code, 3, none)
abbrev y_Mo_clear : gw_Y := (n_Mo_clear, prog_13_method_6_code, 2, some .boolean)
abbrev y_Mo_plain : gw_Y := (n_Mo_plain, prog_13_method_5_code, 4, none)
abbrev y_Mo_cut : gw_Y := (n_Mo_cut, prog_13_method_8_code, 3, some .boolean)
abbrev y_Mo_cutAt : gw_Y := (n_Mo_cutAt, prog_13_method_7_code, 4, some .int)
abbrev y_Mo_claim : gw_Y := (n_Mo_claim, prog_13_method_9_code, 8, some .boolean)
abbrev y_Mo_base : gw_Y := (n_Mo_base, prog_13_method_10_code, 6, some .boolean)
abbrev y_Mo_term : gw_Y := (n_Mo_term, prog_13_method_11_code, 8, some .boolean)
abbrev y_Mo_check : gw_Y := (n_Mo_check, prog_13_method_19_code, 6, some .int)
abbrev y_Mo_checkCut : gw_Y := (n_Mo_checkCut, prog_13_method_21_code, 4, some .int)
abbrev y_Mo_begin : gw_Y := (n_Mo_begin, prog_13_method_20_code, 5, none)
abbrev y_Mo_know : gw_Y := (n_Mo_know, prog_13_method_14_code, 9, none)
abbrev y_Mo_least : gw_Y := (n_Mo_least, prog_13_method_13_code, 4, some .long)
abbrev y_Mo_addTerm : gw_Y := (n_Mo_addTerm, prog_13_method_16_code, 15, none)
abbrev y_Mo_findBounds : gw_Y := (n_Mo_findBounds, prog_13_method_12_code, 10, some .boolean)
abbrev y_Mo_negative : gw_Y := (n_Mo_negative, prog_13_method_18_code, 8, some .boolean)
abbrev y_Mo_advance : gw_Y := (n_Mo_advance, prog_13_method_22_code, 13, some .int)
abbrev y_Mo_end : gw_Y := (n_Mo_end, prog_13_method_35_code, 10, some .int)
abbrev y_Mo_localSide : gw_Y := (n_Mo_localSide, prog_13_method_33_code, 3, some .long)
abbrev y_Mo_localNumber : gw_Y := (n_Mo_localNumber, prog_13_method_34_code, 3, some .long)
abbrev y_Mo_follows : gw_Y := (n_Mo_follows, prog_13_method_15_code, 13, some .boolean)
abbrev y_Mo_shown : gw_Y := (n_Mo_shown, prog_13_method_17_code, 13, some .boolean)
abbrev y_Mo_part : gw_Y := (n_Mo_part, prog_13_method_27_code, 16, some .int)
abbrev y_Mo_pop : gw_Y := (n_Mo_pop, prog_13_method_24_code, 3, some .int)
abbrev y_Mo_learn : gw_Y := (n_Mo_learn, prog_13_method_28_code, 9, none)
abbrev y_Mo_memory : gw_Y := (n_Mo_memory, prog_13_method_29_code, 3, some .int)
abbrev y_Mo_called : gw_Y := (n_Mo_called, prog_13_method_32_code, 12, some .int)
abbrev y_Mo_side : gw_Y := (n_Mo_side, prog_13_method_30_code, 4, some .long)
abbrev y_Mo_extra : gw_Y := (n_Mo_extra, prog_13_method_31_code, 4, some .long)
abbrev y_Mo_push : gw_Y := (n_Mo_push, prog_13_method_23_code, 8, none)
abbrev y_Mo_simple : gw_Y := (n_Mo_simple, prog_13_method_25_code, 7, none)
abbrev y_Mo_combine : gw_Y := (n_Mo_combine, prog_13_method_26_code, 11, none)
abbrev y_Mo_accepted : gw_Y := (n_Mo_accepted, prog_13_method_36_code, 2, some .boolean)
abbrev y_Mo_bound : gw_Y := (n_Mo_bound, prog_13_method_37_code, 12, some .long)
abbrev y_Mo_argument : gw_Y := (n_Mo_argument, prog_13_method_38_code, 4, some .long)
abbrev y_Mo_depth : gw_Y := (n_Mo_depth, prog_13_method_39_code, 7, some .int)
abbrev y_Mo_calls : gw_Y := (n_Mo_calls, prog_13_method_41_code, 5, some .boolean)
abbrev y_Mo_greatest : gw_Y := (n_Mo_greatest, prog_13_method_40_code, 2, some .int)
abbrev y_Mo_feed : gw_Y := (n_Mo_feed, prog_13_method_42_code, 2, some .boolean)
abbrev y_Mo_run : gw_Y := (n_Mo_run, prog_13_method_44_code, 6, some .int)
abbrev y_Mo_enter : gw_Y := (n_Mo_enter, prog_13_method_43_code, 6, none)
abbrev y_Mo_makeStep : gw_Y := (n_Mo_makeStep, prog_13_method_48_code, 10, some .int)
abbrev y_Mo_take : gw_Y := (n_Mo_take, prog_13_method_45_code, 2, some .int)
abbrev y_Mo_leave : gw_Y := (n_Mo_leave, prog_13_method_50_code, 3, some .int)
abbrev y_Mo_give : gw_Y := (n_Mo_give, prog_13_method_46_code, 3, none)
abbrev y_Mo_choose : gw_Y := (n_Mo_choose, prog_13_method_49_code, 6, some .int)
abbrev y_Mo_work : gw_Y := (n_Mo_work, prog_13_method_51_code, 7, some .boolean)
abbrev y_Mo_fits : gw_Y := (n_Mo_fits, prog_13_method_47_code, 2, some .boolean)
abbrev y_Mo_ran : gw_Y := (n_Mo_ran, prog_13_method_52_code, 2, some .int)
abbrev y_La_law : gw_Y := (x, code, maxLocals, ret)
