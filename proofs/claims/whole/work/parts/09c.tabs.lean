theorem k_La_9 : gw_KI "CostCheckerLaw" 9 y_CC_init 0 := ⟨o_CC_init, Or.inl (gw_w1 17 rfl rfl), gw_w1 18 rfl rfl, rfl, rfl⟩
theorem k_CC_11 : gw_KI "CostChecker" 11 y_Me_init 1 := ⟨o_Me_init, Or.inl (gw_w1 26 rfl rfl), gw_w1 27 rfl rfl, rfl, rfl⟩
theorem k_Me_28 : gw_KI "CostChecker$Method" 28 y_Cu_init 0 := ⟨o_Cu_init, Or.inl (gw_w1 33 rfl rfl), gw_w1 34 rfl rfl, rfl, rfl⟩
theorem k_Cu_27 : gw_KI "CostChecker$Cut" 27 y_Po_init 0 := ⟨o_Po_init, Or.inr ⟨"CostChecker", gw_l1 40 rfl⟩, gw_w1 41 rfl rfl, rfl, rfl⟩
theorem k_CC_20 : gw_KI "CostChecker" 20 y_Ma_init 1 := ⟨o_Ma_init, Or.inl (gw_w1 141 rfl rfl), gw_w1 142 rfl rfl, rfl, rfl⟩
theorem k_Ma_25 : gw_KI "CostChecker$Machine" 25 y_Fr_init 0 := ⟨o_Fr_init, Or.inr ⟨"CostChecker", gw_l1 148 rfl⟩, gw_w1 149 rfl rfl, rfl, rfl⟩
theorem k_CC_29 : gw_KI "CostChecker" 29 y_Ch_init 1 := ⟨o_Ch_init, Or.inl (gw_w1 209 rfl rfl), gw_w1 210 rfl rfl, rfl, rfl⟩
theorem k_Ch_19 : gw_KI "CostChecker$Checker" 19 y_Sy_init 0 := ⟨o_Sy_init, Or.inr ⟨"CostChecker", gw_l1 217 rfl⟩, gw_w1 218 rfl rfl, rfl, rfl⟩
theorem k_Ch_32 : gw_KI "CostChecker$Checker" 32 y_Pa_init 0 := ⟨o_Pa_init, Or.inl (gw_w1 237 rfl rfl), gw_w1 238 rfl rfl, rfl, rfl⟩
theorem k_Pa_11 : gw_KI "CostChecker$Path" 11 y_Sy_init 0 := ⟨o_Sy_init, Or.inr ⟨"CostChecker", gw_l2 2 rfl⟩, gw_w1 218 rfl rfl, rfl, rfl⟩
theorem k_Pa_28 : gw_KI "CostChecker$Path" 28 y_Kn_init 0 := ⟨o_Kn_init, Or.inr ⟨"CostChecker", gw_l2 5 rfl⟩, gw_w2 6 rfl rfl, rfl, rfl⟩
theorem k_Pa_39 : gw_KI "CostChecker$Path" 39 y_Ba_init 0 := ⟨o_Ba_init, Or.inr ⟨"CostChecker", gw_l2 16 rfl⟩, gw_w2 17 rfl rfl, rfl, rfl⟩
theorem k_La_13 : gw_KV "CostCheckerLaw" 13 y_CC_put 0 3 := ⟨o_CC_put, Or.inl (gw_w2 90 rfl rfl), gw_w2 91 rfl rfl, gw_w2 92 rfl rfl, rfl, rfl⟩
theorem k_CC_38 : gw_KV "CostChecker" 38 y_CC_methodAt 0 1 := ⟨o_CC_methodAt, Or.inl (gw_w2 94 rfl rfl), gw_w2 96 rfl rfl, gw_sl1 (q := (n_CC_methodAt, 4)) (by decide +kernel) rfl rfl, rfl, rfl⟩
theorem k_CC_42 : gw_KS "CostChecker" 42 y_CC_isBetween 3 := ⟨o_CC_isBetween, Or.inl (gw_w2 98 rfl rfl), gw_w2 99 rfl rfl⟩
theorem k_CC_46 : gw_KV "CostChecker" 46 y_Me_append 1 2 := ⟨o_Me_append, Or.inl (gw_w2 101 rfl rfl), gw_w2 102 rfl rfl, gw_w2 103 rfl rfl, rfl, rfl⟩
theorem k_CC_50 : gw_KV "CostChecker" 50 y_CC_noteChange 0 2 := ⟨o_CC_noteChange, Or.inl (gw_w2 105 rfl rfl), gw_w2 107 rfl rfl, gw_sl1 (q := (n_CC_noteChange, 4)) (by decide +kernel) rfl rfl, rfl, rfl⟩
theorem k_La_18 : gw_KV "CostCheckerLaw" 18 y_CC_clear 0 1 := ⟨o_CC_clear, Or.inl (gw_w2 109 rfl rfl), gw_w2 110 rfl rfl, gw_w2 111 rfl rfl, rfl, rfl⟩
theorem k_CC_58 : gw_KV "CostChecker" 58 y_Me_reset 1 0 := ⟨o_Me_reset, Or.inl (gw_w2 113 rfl rfl), gw_w2 114 rfl rfl, gw_w2 115 rfl rfl, rfl, rfl⟩
theorem k_Me_35 : gw_KV "CostChecker$Method" 35 y_Cu_reset 2 1 := ⟨o_Cu_reset, Or.inl (gw_w2 117 rfl rfl), gw_w2 118 rfl rfl, gw_w2 119 rfl rfl, rfl, rfl⟩
theorem k_Cu_35 : gw_KV "CostChecker$Cut" 35 y_Po_reset 3 0 := ⟨o_Po_reset, Or.inl (gw_w2 121 rfl rfl), gw_w2 122 rfl rfl, gw_w2 123 rfl rfl, rfl, rfl⟩
theorem k_La_23 : gw_KV "CostCheckerLaw" 23 y_CC_cut 0 2 := ⟨o_CC_cut, Or.inl (gw_w2 125 rfl rfl), gw_w2 126 rfl rfl, gw_w2 127 rfl rfl, rfl, rfl⟩
theorem k_CC_61 : gw_KV "CostChecker" 61 y_Me_addCut 1 1 := ⟨o_Me_addCut, Or.inl (gw_w2 129 rfl rfl), gw_w2 130 rfl rfl, gw_w2 131 rfl rfl, rfl, rfl⟩
theorem k_Me_42 : gw_KS "CostChecker$Method" 42 y_CC_isBetween 3 := ⟨o_CC_isBetween, Or.inr ⟨"CostChecker", gw_l2 133 rfl⟩, gw_w2 99 rfl rfl⟩
theorem k_Me_46 : gw_KV "CostChecker$Method" 46 y_Me_findCut 1 1 := ⟨o_Me_findCut, Or.inl (gw_w2 134 rfl rfl), gw_w2 135 rfl rfl, gw_w2 136 rfl rfl, rfl, rfl⟩
theorem k_La_28 : gw_KV "CostCheckerLaw" 28 y_CC_claim 0 5 := ⟨o_CC_claim, Or.inl (gw_w2 138 rfl rfl), gw_w2 139 rfl rfl, gw_w2 140 rfl rfl, rfl, rfl⟩
theorem k_CC_65 : gw_KV "CostChecker" 65 y_CC_cutAt 0 2 := ⟨o_CC_cutAt, Or.inl (gw_w2 142 rfl rfl), gw_w2 144 rfl rfl, gw_sl1 (q := (n_CC_cutAt, 4)) (by decide +kernel) rfl rfl, rfl, rfl⟩
theorem k_CC_146 : gw_KV "CostChecker" 146 y_Me_findCut 1 1 := ⟨o_Me_findCut, Or.inl (gw_w2 146 rfl rfl), gw_w2 135 rfl rfl, gw_w2 136 rfl rfl, rfl, rfl⟩
theorem k_CC_69 : gw_KS "CostChecker" 69 y_CC_areTwoSides 2 := ⟨o_CC_areTwoSides, Or.inl (gw_w2 147 rfl rfl), gw_w2 148 rfl rfl⟩
theorem k_CC_72 : gw_KV "CostChecker" 72 y_Cu_addClaim 2 3 := ⟨o_Cu_addClaim, Or.inl (gw_w2 150 rfl rfl), gw_w2 151 rfl rfl, gw_w2 152 rfl rfl, rfl, rfl⟩
theorem k_La_33 : gw_KV "CostCheckerLaw" 33 y_CC_base 0 4 := ⟨o_CC_base, Or.inl (gw_w2 154 rfl rfl), gw_w2 155 rfl rfl, gw_w2 156 rfl rfl, rfl, rfl⟩
theorem k_CC_77 : gw_KS "CostChecker" 77 y_CC_isPotential 1 := ⟨o_CC_isPotential, Or.inl (gw_w2 158 rfl rfl), gw_w2 159 rfl rfl⟩
theorem k_La_38 : gw_KV "CostCheckerLaw" 38 y_CC_term 0 5 := ⟨o_CC_term, Or.inl (gw_w2 161 rfl rfl), gw_w2 162 rfl rfl, gw_w2 163 rfl rfl, rfl, rfl⟩
theorem k_CC_89 : gw_KV "CostChecker" 89 y_Po_addTerm 3 3 := ⟨o_Po_addTerm, Or.inl (gw_w2 165 rfl rfl), gw_w2 166 rfl rfl, gw_w2 167 rfl rfl, rfl, rfl⟩
theorem k_La_42 : gw_KV "CostCheckerLaw" 42 y_CC_check 0 1 := ⟨o_CC_check, Or.inl (gw_w2 169 rfl rfl), gw_w2 170 rfl rfl, gw_w2 171 rfl rfl, rfl, rfl⟩
theorem k_CC_92 : gw_KV "CostChecker" 92 y_Ch_answerFor 6 1 := ⟨o_Ch_answerFor, Or.inl (gw_w2 173 rfl rfl), gw_w2 174 rfl rfl, gw_w2 175 rfl rfl, rfl, rfl⟩
theorem k_Ch_46 : gw_KV "CostChecker$Checker" 46 y_Ch_reasonAtCut 6 1 := ⟨o_Ch_reasonAtCut, Or.inl (gw_w2 177 rfl rfl), gw_w2 179 rfl rfl, gw_sl1 (q := (n_Ch_reasonAtCut, 5)) (by decide +kernel) rfl rfl, rfl, rfl⟩
theorem k_Ch_55 : gw_KV "CostChecker$Checker" 55 y_Pa_beginAt 7 1 := ⟨o_Pa_beginAt, Or.inl (gw_w2 181 rfl rfl), gw_w2 182 rfl rfl, gw_w2 183 rfl rfl, rfl, rfl⟩
theorem k_Pa_53 : gw_KV "CostChecker$Path" 53 y_Sy_standForThemselves 8 0 := ⟨o_Sy_standForThemselves, Or.inl (gw_w2 185 rfl rfl), gw_w2 186 rfl rfl, gw_w2 187 rfl rfl, rfl, rfl⟩
theorem k_Sy_19 : gw_KV "CostChecker$Symbols" 19 y_Sy_set 8 3 := ⟨o_Sy_set, Or.inl (gw_w2 189 rfl rfl), gw_w2 190 rfl rfl, gw_w2 191 rfl rfl, rfl, rfl⟩
theorem k_Pa_56 : gw_KV "CostChecker$Path" 56 y_Ba_reset 10 0 := ⟨o_Ba_reset, Or.inl (gw_w2 193 rfl rfl), gw_w2 194 rfl rfl, gw_w2 195 rfl rfl, rfl, rfl⟩
theorem k_Pa_63 : gw_KV "CostChecker$Path" 63 y_Ba_addPotential 10 3 := ⟨o_Ba_addPotential, Or.inl (gw_w2 197 rfl rfl), gw_w2 198 rfl rfl, gw_w2 199 rfl rfl, rfl, rfl⟩
theorem k_Ba_51 : gw_KV "CostChecker$Balance" 51 y_Ba_addDifference 10 3 := ⟨o_Ba_addDifference, Or.inl (gw_w2 201 rfl rfl), gw_w2 202 rfl rfl, gw_w2 203 rfl rfl, rfl, rfl⟩
theorem k_Pa_67 : gw_KV "CostChecker$Path" 67 y_Kn_forgetAll 9 0 := ⟨o_Kn_forgetAll, Or.inl (gw_w2 205 rfl rfl), gw_w2 206 rfl rfl, gw_w2 207 rfl rfl, rfl, rfl⟩
theorem k_Pa_70 : gw_KV "CostChecker$Path" 70 y_Kn_learnClaims 9 1 := ⟨o_Kn_learnClaims, Or.inl (gw_w2 210 rfl rfl), gw_w2 211 rfl rfl, gw_w2 212 rfl rfl, rfl, rfl⟩
theorem k_Kn_43 : gw_KV "CostChecker$Known" 43 y_Kn_learn 9 3 := ⟨o_Kn_learn, Or.inl (gw_w2 214 rfl rfl), gw_w2 215 rfl rfl, gw_w2 216 rfl rfl, rfl, rfl⟩
theorem k_Kn_23 : gw_KV "CostChecker$Known" 23 y_Kn_boundOf 9 2 := ⟨o_Kn_boundOf, Or.inl (gw_w2 218 rfl rfl), gw_w2 219 rfl rfl, gw_w2 220 rfl rfl, rfl, rfl⟩
theorem k_Ch_67 : gw_KV "CostChecker$Checker" 67 y_Kn_allowsNegative 9 1 := ⟨o_Kn_allowsNegative, Or.inl (gw_w2 222 rfl rfl), gw_w2 223 rfl rfl, gw_w2 224 rfl rfl, rfl, rfl⟩
theorem k_Ch_76 : gw_KV "CostChecker$Checker" 76 y_Ch_reasonFrom 6 1 := ⟨o_Ch_reasonFrom, Or.inl (gw_w2 226 rfl rfl), gw_w2 228 rfl rfl, gw_sl1 (q := (n_Ch_reasonFrom, 5)) (by decide +kernel) rfl rfl, rfl, rfl⟩
theorem k_Ch_81 : gw_KV "CostChecker$Checker" 81 y_Me_hasPlace 1 1 := ⟨o_Me_hasPlace, Or.inl (gw_w2 230 rfl rfl), gw_w2 231 rfl rfl, gw_w2 232 rfl rfl, rfl, rfl⟩
theorem k_Ch_88 : gw_KV "CostChecker$Checker" 88 y_Me_findCut 1 1 := ⟨o_Me_findCut, Or.inl (gw_w2 234 rfl rfl), gw_w2 135 rfl rfl, gw_w2 136 rfl rfl, rfl, rfl⟩
theorem k_Ch_92 : gw_KV "CostChecker$Checker" 92 y_Ch_reasonAtEnd 6 2 := ⟨o_Ch_reasonAtEnd, Or.inl (gw_w2 235 rfl rfl), gw_w2 237 rfl rfl, gw_sl1 (q := (n_Ch_reasonAtEnd, 5)) (by decide +kernel) rfl rfl, rfl, rfl⟩
theorem k_Ch_173 : gw_KV "CostChecker$Checker" 173 y_Kn_showsClaims 9 2 := ⟨o_Kn_showsClaims, Or.inl (gw_w2 239 rfl rfl), gw_w3 0 rfl rfl, gw_w3 1 rfl rfl, rfl, rfl⟩
theorem k_Ch_177 : gw_KV "CostChecker$Checker" 177 y_Po_speaksOfNothing 3 1 := ⟨o_Po_speaksOfNothing, Or.inl (gw_w3 3 rfl rfl), gw_w3 4 rfl rfl, gw_w3 5 rfl rfl, rfl, rfl⟩
theorem k_Ch_183 : gw_KV "CostChecker$Checker" 183 y_Ba_addPotential 10 3 := ⟨o_Ba_addPotential, Or.inl (gw_w3 7 rfl rfl), gw_w2 198 rfl rfl, gw_w2 199 rfl rfl, rfl, rfl⟩
theorem k_Ch_193 : gw_KV "CostChecker$Checker" 193 y_Ba_isShownNotNegative 10 1 := ⟨o_Ba_isShownNotNegative, Or.inl (gw_w3 8 rfl rfl), gw_w3 9 rfl rfl, gw_w3 10 rfl rfl, rfl, rfl⟩
theorem k_Ba_59 : gw_KV "CostChecker$Balance" 59 y_Kn_boundOf 9 2 := ⟨o_Kn_boundOf, Or.inl (gw_w3 12 rfl rfl), gw_w2 219 rfl rfl, gw_w2 220 rfl rfl, rfl, rfl⟩
theorem k_Ch_99 : gw_KS "CostChecker$Checker" 99 y_CC_isCramped 4 := ⟨o_CC_isCramped, Or.inr ⟨"CostChecker", gw_l3 14 rfl⟩, gw_w3 15 rfl rfl⟩
theorem k_Ch_110 : gw_KV "CostChecker$Checker" 110 y_Pa_countInstruction 7 0 := ⟨o_Pa_countInstruction, Or.inl (gw_w3 21 rfl rfl), gw_w3 22 rfl rfl, gw_w3 23 rfl rfl, rfl, rfl⟩
theorem k_Ch_113 : gw_KV "CostChecker$Checker" 113 y_Ch_reasonBehind 6 2 := ⟨o_Ch_reasonBehind, Or.inl (gw_w3 25 rfl rfl), gw_w3 27 rfl rfl, gw_sl1 (q := (n_Ch_reasonBehind, 5)) (by decide +kernel) rfl rfl, rfl, rfl⟩
theorem k_Ch_133 : gw_KV "CostChecker$Checker" 133 y_Pa_drop 7 1 := ⟨o_Pa_drop, Or.inl (gw_w3 29 rfl rfl), gw_w3 30 rfl rfl, gw_w3 31 rfl rfl, rfl, rfl⟩
theorem k_Ch_137 : gw_KV "CostChecker$Checker" 137 y_Pa_copyFrom 7 1 := ⟨o_Pa_copyFrom, Or.inl (gw_w3 36 rfl rfl), gw_w3 37 rfl rfl, gw_w3 38 rfl rfl, rfl, rfl⟩
theorem k_Pa_74 : gw_KV "CostChecker$Path" 74 y_Sy_copyFrom 8 1 := ⟨o_Sy_copyFrom, Or.inl (gw_w3 40 rfl rfl), gw_w3 41 rfl rfl, gw_w3 42 rfl rfl, rfl, rfl⟩
theorem k_Pa_84 : gw_KV "CostChecker$Path" 84 y_Kn_copyFrom 9 1 := ⟨o_Kn_copyFrom, Or.inl (gw_w3 48 rfl rfl), gw_w3 49 rfl rfl, gw_w3 50 rfl rfl, rfl, rfl⟩
theorem k_Pa_87 : gw_KV "CostChecker$Path" 87 y_Ba_copyFrom 10 1 := ⟨o_Ba_copyFrom, Or.inl (gw_w3 53 rfl rfl), gw_w3 54 rfl rfl, gw_w3 55 rfl rfl, rfl, rfl⟩
theorem k_Ch_117 : gw_KV "CostChecker$Checker" 117 y_Pa_learnLess 7 1 := ⟨o_Pa_learnLess, Or.inl (gw_w3 58 rfl rfl), gw_w3 59 rfl rfl, gw_w3 60 rfl rfl, rfl, rfl⟩
theorem k_Pa_125 : gw_KV "CostChecker$Path" 125 y_Kn_learn 9 3 := ⟨o_Kn_learn, Or.inl (gw_w3 62 rfl rfl), gw_w2 215 rfl rfl, gw_w2 216 rfl rfl, rfl, rfl⟩
theorem k_Ch_121 : gw_KV "CostChecker$Checker" 121 y_Ch_reasonOfNew 6 1 := ⟨o_Ch_reasonOfNew, Or.inl (gw_w3 63 rfl rfl), gw_w3 65 rfl rfl, gw_sl1 (q := (n_Ch_reasonOfNew, 5)) (by decide +kernel) rfl rfl, rfl, rfl⟩
theorem k_Ch_148 : gw_KV "CostChecker$Checker" 148 y_Kn_showsNotNegative 9 2 := ⟨o_Kn_showsNotNegative, Or.inl (gw_w3 67 rfl rfl), gw_w3 68 rfl rfl, gw_w3 69 rfl rfl, rfl, rfl⟩
theorem k_Ch_156 : gw_KV "CostChecker$Checker" 156 y_Ba_payWords 10 2 := ⟨o_Ba_payWords, Or.inl (gw_w3 71 rfl rfl), gw_w3 72 rfl rfl, gw_w3 73 rfl rfl, rfl, rfl⟩
theorem k_Ch_125 : gw_KV "CostChecker$Checker" 125 y_Ch_reasonOfCall 6 2 := ⟨o_Ch_reasonOfCall, Or.inl (gw_w3 77 rfl rfl), gw_w3 79 rfl rfl, gw_sl1 (q := (n_Ch_reasonOfCall, 5)) (by decide +kernel) rfl rfl, rfl, rfl⟩
theorem k_Ch_162 : gw_KV "CostChecker$Checker" 162 y_Sy_standForThemselves 8 0 := ⟨o_Sy_standForThemselves, Or.inl (gw_w3 81 rfl rfl), gw_w2 186 rfl rfl, gw_w2 187 rfl rfl, rfl, rfl⟩
theorem k_Ch_165 : gw_KV "CostChecker$Checker" 165 y_Sy_set 8 3 := ⟨o_Sy_set, Or.inl (gw_w3 82 rfl rfl), gw_w2 190 rfl rfl, gw_w2 191 rfl rfl, rfl, rfl⟩
theorem k_Ch_187 : gw_KV "CostChecker$Checker" 187 y_Pa_push 7 2 := ⟨o_Pa_push, Or.inl (gw_w3 83 rfl rfl), gw_w3 84 rfl rfl, gw_w3 85 rfl rfl, rfl, rfl⟩
theorem k_Ch_129 : gw_KV "CostChecker$Checker" 129 y_Pa_performPlain 7 2 := ⟨o_Pa_performPlain, Or.inl (gw_w3 87 rfl rfl), gw_w3 88 rfl rfl, gw_w3 89 rfl rfl, rfl, rfl⟩
theorem k_Pa_100 : gw_KV "CostChecker$Path" 100 y_Pa_push 7 2 := ⟨o_Pa_push, Or.inl (gw_w3 91 rfl rfl), gw_w3 84 rfl rfl, gw_w3 85 rfl rfl, rfl, rfl⟩
theorem k_Pa_110 : gw_KV "CostChecker$Path" 110 y_Pa_drop 7 1 := ⟨o_Pa_drop, Or.inl (gw_w3 92 rfl rfl), gw_w3 30 rfl rfl, gw_w3 31 rfl rfl, rfl, rfl⟩
theorem k_Pa_114 : gw_KV "CostChecker$Path" 114 y_Sy_set 8 3 := ⟨o_Sy_set, Or.inl (gw_w3 93 rfl rfl), gw_w2 190 rfl rfl, gw_w2 191 rfl rfl, rfl, rfl⟩
theorem k_Pa_118 : gw_KV "CostChecker$Path" 118 y_Pa_pushSum 7 2 := ⟨o_Pa_pushSum, Or.inl (gw_w3 94 rfl rfl), gw_w3 96 rfl rfl, gw_sl1 (q := (n_Pa_pushSum, 8)) (by decide +kernel) rfl rfl, rfl, rfl⟩
theorem k_Pa_122 : gw_KV "CostChecker$Path" 122 y_Pa_pushDifference 7 2 := ⟨o_Pa_pushDifference, Or.inl (gw_w3 98 rfl rfl), gw_w3 100 rfl rfl, gw_sl1 (q := (n_Pa_pushDifference, 8)) (by decide +kernel) rfl rfl, rfl, rfl⟩
theorem k_La_47 : gw_KV "CostCheckerLaw" 47 y_CC_accepted 0 1 := ⟨o_CC_accepted, Or.inl (gw_w3 102 rfl rfl), gw_w3 103 rfl rfl, gw_w3 104 rfl rfl, rfl, rfl⟩
theorem k_La_51 : gw_KV "CostCheckerLaw" 51 y_CC_bound 0 5 := ⟨o_CC_bound, Or.inl (gw_w3 106 rfl rfl), gw_w3 107 rfl rfl, gw_w3 108 rfl rfl, rfl, rfl⟩
theorem k_CC_100 : gw_KS "CostChecker" 100 y_CC_areValues 3 := ⟨o_CC_areValues, Or.inl (gw_w3 110 rfl rfl), gw_w3 111 rfl rfl⟩
theorem k_CC_124 : gw_KS "CostChecker" 124 y_CC_isValue 1 := ⟨o_CC_isValue, Or.inl (gw_w3 113 rfl rfl), gw_w3 114 rfl rfl⟩
theorem k_CC_109 : gw_KV "CostChecker" 109 y_Cu_holdsFor 2 1 := ⟨o_Cu_holdsFor, Or.inl (gw_w3 119 rfl rfl), gw_w3 120 rfl rfl, gw_w3 121 rfl rfl, rfl, rfl⟩
theorem k_CC_113 : gw_KV "CostChecker" 113 y_Po_valueFor 3 1 := ⟨o_Po_valueFor, Or.inl (gw_w3 123 rfl rfl), gw_w3 124 rfl rfl, gw_w3 125 rfl rfl, rfl, rfl⟩
theorem k_La_56 : gw_KV "CostCheckerLaw" 56 y_CC_depth 0 1 := ⟨o_CC_depth, Or.inl (gw_w3 127 rfl rfl), gw_w3 128 rfl rfl, gw_w3 129 rfl rfl, rfl, rfl⟩
theorem k_CC_117 : gw_KV "CostChecker" 117 y_CC_measureDepth 0 1 := ⟨o_CC_measureDepth, Or.inl (gw_w3 131 rfl rfl), gw_w3 133 rfl rfl, gw_sl1 (q := (n_CC_measureDepth, 4)) (by decide +kernel) rfl rfl, rfl, rfl⟩
theorem k_La_60 : gw_KV "CostCheckerLaw" 60 y_CC_feed 0 1 := ⟨o_CC_feed, Or.inl (gw_w3 136 rfl rfl), gw_w3 137 rfl rfl, gw_w3 138 rfl rfl, rfl, rfl⟩
theorem k_CC_127 : gw_KV "CostChecker" 127 y_Ma_addInput 4 1 := ⟨o_Ma_addInput, Or.inl (gw_w3 140 rfl rfl), gw_w3 141 rfl rfl, gw_w3 142 rfl rfl, rfl, rfl⟩
theorem k_La_64 : gw_KV "CostCheckerLaw" 64 y_CC_run 0 4 := ⟨o_CC_run, Or.inl (gw_w3 144 rfl rfl), gw_w3 145 rfl rfl, gw_w3 146 rfl rfl, rfl, rfl⟩
theorem k_CC_130 : gw_KV "CostChecker" 130 y_Ma_runToEnd 4 4 := ⟨o_Ma_runToEnd, Or.inl (gw_w3 148 rfl rfl), gw_w3 149 rfl rfl, gw_w3 150 rfl rfl, rfl, rfl⟩
theorem k_Ma_48 : gw_KV "CostChecker$Machine" 48 y_Fr_enter 5 4 := ⟨o_Fr_enter, Or.inl (gw_w3 152 rfl rfl), gw_w3 153 rfl rfl, gw_w3 154 rfl rfl, rfl, rfl⟩
theorem k_Ma_52 : gw_KV "CostChecker$Machine" 52 y_Ma_step 4 0 := ⟨o_Ma_step, Or.inl (gw_w3 156 rfl rfl), gw_w3 158 rfl rfl, gw_sl1 (q := (n_Ma_step, 10)) (by decide +kernel) rfl rfl, rfl, rfl⟩
theorem k_Ma_65 : gw_KS "CostChecker$Machine" 65 y_CC_isCramped 4 := ⟨o_CC_isCramped, Or.inr ⟨"CostChecker", gw_l3 160 rfl⟩, gw_w3 15 rfl rfl⟩
theorem k_Ma_77 : gw_KV "CostChecker$Machine" 77 y_Ma_perform 4 3 := ⟨o_Ma_perform, Or.inl (gw_w3 161 rfl rfl), gw_w3 163 rfl rfl, gw_sl1 (q := (n_Ma_perform, 10)) (by decide +kernel) rfl rfl, rfl, rfl⟩
theorem k_Ma_85 : gw_KV "CostChecker$Machine" 85 y_Fr_push 5 1 := ⟨o_Fr_push, Or.inl (gw_w3 165 rfl rfl), gw_w3 166 rfl rfl, gw_w3 167 rfl rfl, rfl, rfl⟩
theorem k_Ma_92 : gw_KV "CostChecker$Machine" 92 y_Fr_pop 5 0 := ⟨o_Fr_pop, Or.inl (gw_w3 169 rfl rfl), gw_w3 170 rfl rfl, gw_w3 171 rfl rfl, rfl, rfl⟩
theorem k_Ma_95 : gw_KS "CostChecker$Machine" 95 y_Ma_pushSum 3 := ⟨o_Ma_pushSum, Or.inl (gw_w3 173 rfl rfl), gw_w3 174 rfl rfl⟩
theorem k_Ma_119 : gw_KS "CostChecker$Machine" 119 y_CC_isValue 1 := ⟨o_CC_isValue, Or.inr ⟨"CostChecker", gw_l3 176 rfl⟩, gw_w3 114 rfl rfl⟩
theorem k_Ma_98 : gw_KS "CostChecker$Machine" 98 y_Ma_growLocal 3 := ⟨o_Ma_growLocal, Or.inl (gw_w3 177 rfl rfl), gw_w3 178 rfl rfl⟩
theorem k_Ma_101 : gw_KS "CostChecker$Machine" 101 y_Ma_goIf 3 := ⟨o_Ma_goIf, Or.inl (gw_w3 180 rfl rfl), gw_w3 181 rfl rfl⟩
theorem k_Ma_105 : gw_KV "CostChecker$Machine" 105 y_Ma_takeWords 4 1 := ⟨o_Ma_takeWords, Or.inl (gw_w3 183 rfl rfl), gw_w3 185 rfl rfl, gw_sl1 (q := (n_Ma_takeWords, 10)) (by decide +kernel) rfl rfl, rfl, rfl⟩
theorem k_Ma_109 : gw_KV "CostChecker$Machine" 109 y_Ma_enterCalled 4 2 := ⟨o_Ma_enterCalled, Or.inl (gw_w3 188 rfl rfl), gw_w3 190 rfl rfl, gw_sl1 (q := (n_Ma_enterCalled, 10)) (by decide +kernel) rfl rfl, rfl, rfl⟩
theorem k_Ma_113 : gw_KV "CostChecker$Machine" 113 y_Ma_leave 4 1 := ⟨o_Ma_leave, Or.inl (gw_w3 193 rfl rfl), gw_w3 195 rfl rfl, gw_sl1 (q := (n_Ma_leave, 10)) (by decide +kernel) rfl rfl, rfl, rfl⟩
theorem k_Ma_116 : gw_KV "CostChecker$Machine" 116 y_Ma_nextInput 4 0 := ⟨o_Ma_nextInput, Or.inl (gw_w3 197 rfl rfl), gw_w3 199 rfl rfl, gw_sl1 (q := (n_Ma_nextInput, 10)) (by decide +kernel) rfl rfl, rfl, rfl⟩
theorem k_Ma_81 : gw_KV "CostChecker$Machine" 81 y_Me_hasPlace 1 1 := ⟨o_Me_hasPlace, Or.inl (gw_w3 201 rfl rfl), gw_w2 231 rfl rfl, gw_w2 232 rfl rfl, rfl, rfl⟩
theorem k_La_69 : gw_KV "CostCheckerLaw" 69 y_CC_ran 0 1 := ⟨o_CC_ran, Or.inl (gw_w3 202 rfl rfl), gw_w3 203 rfl rfl, gw_w3 204 rfl rfl, rfl, rfl⟩
theorem k_La_12 : gw_KI "CostCheckerLaw" 12 y_Mo_init 0 := ⟨o_Mo_init, Or.inl (gw_w3 208 rfl rfl), gw_w3 209 rfl rfl, rfl, rfl⟩
theorem k_La_17 : gw_KV "CostCheckerLaw" 17 y_Mo_put 11 3 := ⟨o_Mo_put, Or.inl (gw_w4 73 rfl rfl), gw_w4 74 rfl rfl, gw_w4 75 rfl rfl, rfl, rfl⟩
theorem k_Mo_86 : gw_KS "CostCheckerModel" 86 y_Mo_in 3 := ⟨o_Mo_in, Or.inl (gw_w4 78 rfl rfl), gw_w4 79 rfl rfl⟩
theorem k_Mo_96 : gw_KV "CostCheckerModel" 96 y_Mo_changed 11 1 := ⟨o_Mo_changed, Or.inl (gw_w4 84 rfl rfl), gw_w4 86 rfl rfl, gw_sl1 (q := (n_Mo_changed, 33)) (by decide +kernel) rfl rfl, rfl, rfl⟩
theorem k_La_22 : gw_KV "CostCheckerLaw" 22 y_Mo_clear 11 1 := ⟨o_Mo_clear, Or.inl (gw_w4 88 rfl rfl), gw_w4 89 rfl rfl, gw_w4 90 rfl rfl, rfl, rfl⟩
theorem k_Mo_100 : gw_KV "CostCheckerModel" 100 y_Mo_plain 11 2 := ⟨o_Mo_plain, Or.inl (gw_w4 92 rfl rfl), gw_w4 94 rfl rfl, gw_sl1 (q := (n_Mo_plain, 33)) (by decide +kernel) rfl rfl, rfl, rfl⟩
theorem k_La_27 : gw_KV "CostCheckerLaw" 27 y_Mo_cut 11 2 := ⟨o_Mo_cut, Or.inl (gw_w4 96 rfl rfl), gw_w4 97 rfl rfl, gw_w4 98 rfl rfl, rfl, rfl⟩
theorem k_Mo_106 : gw_KV "CostCheckerModel" 106 y_Mo_cutAt 11 2 := ⟨o_Mo_cutAt, Or.inl (gw_w4 101 rfl rfl), gw_w4 103 rfl rfl, gw_sl1 (q := (n_Mo_cutAt, 33)) (by decide +kernel) rfl rfl, rfl, rfl⟩
theorem k_La_32 : gw_KV "CostCheckerLaw" 32 y_Mo_claim 11 5 := ⟨o_Mo_claim, Or.inl (gw_w4 105 rfl rfl), gw_w4 106 rfl rfl, gw_w4 107 rfl rfl, rfl, rfl⟩
theorem k_La_37 : gw_KV "CostCheckerLaw" 37 y_Mo_base 11 4 := ⟨o_Mo_base, Or.inl (gw_w4 110 rfl rfl), gw_w4 111 rfl rfl, gw_w4 112 rfl rfl, rfl, rfl⟩
theorem k_La_41 : gw_KV "CostCheckerLaw" 41 y_Mo_term 11 5 := ⟨o_Mo_term, Or.inl (gw_w4 116 rfl rfl), gw_w4 117 rfl rfl, gw_w4 118 rfl rfl, rfl, rfl⟩
theorem k_La_46 : gw_KV "CostCheckerLaw" 46 y_Mo_check 11 1 := ⟨o_Mo_check, Or.inl (gw_w4 122 rfl rfl), gw_w4 123 rfl rfl, gw_w4 124 rfl rfl, rfl, rfl⟩
theorem k_Mo_128 : gw_KV "CostCheckerModel" 128 y_Mo_checkCut 11 2 := ⟨o_Mo_checkCut, Or.inl (gw_w4 126 rfl rfl), gw_w4 128 rfl rfl, gw_sl1 (q := (n_Mo_checkCut, 33)) (by decide +kernel) rfl rfl, rfl, rfl⟩
theorem k_Mo_139 : gw_KV "CostCheckerModel" 139 y_Mo_begin 11 1 := ⟨o_Mo_begin, Or.inl (gw_w4 130 rfl rfl), gw_w4 132 rfl rfl, gw_sl1 (q := (n_Mo_begin, 33)) (by decide +kernel) rfl rfl, rfl, rfl⟩
theorem k_Mo_131 : gw_KV "CostCheckerModel" 131 y_Mo_know 11 4 := ⟨o_Mo_know, Or.inl (gw_w4 135 rfl rfl), gw_w4 137 rfl rfl, gw_sl1 (q := (n_Mo_know, 33)) (by decide +kernel) rfl rfl, rfl, rfl⟩
theorem k_Mo_120 : gw_KS "CostCheckerModel" 120 y_Mo_least 2 := ⟨o_Mo_least, Or.inl (gw_w4 139 rfl rfl), gw_w4 140 rfl rfl⟩
theorem k_Mo_135 : gw_KV "CostCheckerModel" 135 y_Mo_addTerm 11 7 := ⟨o_Mo_addTerm, Or.inl (gw_w4 142 rfl rfl), gw_w4 144 rfl rfl, gw_sl1 (q := (n_Mo_addTerm, 33)) (by decide +kernel) rfl rfl, rfl, rfl⟩
theorem k_Mo_142 : gw_KV "CostCheckerModel" 142 y_Mo_findBounds 11 1 := ⟨o_Mo_findBounds, Or.inl (gw_w4 147 rfl rfl), gw_w4 149 rfl rfl, gw_sl1 (q := (n_Mo_findBounds, 33)) (by decide +kernel) rfl rfl, rfl, rfl⟩
theorem k_Mo_146 : gw_KV "CostCheckerModel" 146 y_Mo_negative 11 1 := ⟨o_Mo_negative, Or.inl (gw_w4 151 rfl rfl), gw_w4 153 rfl rfl, gw_sl1 (q := (n_Mo_negative, 33)) (by decide +kernel) rfl rfl, rfl, rfl⟩
theorem k_Mo_156 : gw_KV "CostCheckerModel" 156 y_Mo_advance 11 2 := ⟨o_Mo_advance, Or.inl (gw_w4 155 rfl rfl), gw_w4 157 rfl rfl, gw_sl1 (q := (n_Mo_advance, 33)) (by decide +kernel) rfl rfl, rfl, rfl⟩
theorem k_Mo_159 : gw_KV "CostCheckerModel" 159 y_Mo_end 11 2 := ⟨o_Mo_end, Or.inl (gw_w4 159 rfl rfl), gw_w4 161 rfl rfl, gw_sl1 (q := (n_Mo_end, 33)) (by decide +kernel) rfl rfl, rfl, rfl⟩
theorem k_Mo_211 : gw_KV "CostCheckerModel" 211 y_Mo_localSide 11 2 := ⟨o_Mo_localSide, Or.inl (gw_w4 163 rfl rfl), gw_w4 165 rfl rfl, gw_sl1 (q := (n_Mo_localSide, 33)) (by decide +kernel) rfl rfl, rfl, rfl⟩
theorem k_Mo_215 : gw_KV "CostCheckerModel" 215 y_Mo_localNumber 11 2 := ⟨o_Mo_localNumber, Or.inl (gw_w4 167 rfl rfl), gw_w4 169 rfl rfl, gw_sl1 (q := (n_Mo_localNumber, 33)) (by decide +kernel) rfl rfl, rfl, rfl⟩
theorem k_Mo_200 : gw_KV "CostCheckerModel" 200 y_Mo_follows 11 5 := ⟨o_Mo_follows, Or.inl (gw_w4 171 rfl rfl), gw_w4 173 rfl rfl, gw_sl1 (q := (n_Mo_follows, 33)) (by decide +kernel) rfl rfl, rfl, rfl⟩
theorem k_Mo_218 : gw_KV "CostCheckerModel" 218 y_Mo_shown 11 2 := ⟨o_Mo_shown, Or.inl (gw_w4 175 rfl rfl), gw_w4 177 rfl rfl, gw_sl1 (q := (n_Mo_shown, 33)) (by decide +kernel) rfl rfl, rfl, rfl⟩
theorem k_Mo_168 : gw_KV "CostCheckerModel" 168 y_Mo_part 11 3 := ⟨o_Mo_part, Or.inl (gw_w4 182 rfl rfl), gw_w4 184 rfl rfl, gw_sl1 (q := (n_Mo_part, 33)) (by decide +kernel) rfl rfl, rfl, rfl⟩
theorem k_Mo_189 : gw_KV "CostCheckerModel" 189 y_Mo_pop 11 1 := ⟨o_Mo_pop, Or.inl (gw_w4 186 rfl rfl), gw_w4 188 rfl rfl, gw_sl1 (q := (n_Mo_pop, 33)) (by decide +kernel) rfl rfl, rfl, rfl⟩
theorem k_Mo_196 : gw_KV "CostCheckerModel" 196 y_Mo_learn 11 5 := ⟨o_Mo_learn, Or.inl (gw_w4 190 rfl rfl), gw_w4 192 rfl rfl, gw_sl1 (q := (n_Mo_learn, 33)) (by decide +kernel) rfl rfl, rfl, rfl⟩
theorem k_Mo_172 : gw_KV "CostCheckerModel" 172 y_Mo_memory 11 1 := ⟨o_Mo_memory, Or.inl (gw_w4 194 rfl rfl), gw_w4 196 rfl rfl, gw_sl1 (q := (n_Mo_memory, 33)) (by decide +kernel) rfl rfl, rfl, rfl⟩
theorem k_Mo_176 : gw_KV "CostCheckerModel" 176 y_Mo_called 11 2 := ⟨o_Mo_called, Or.inl (gw_w4 199 rfl rfl), gw_w4 201 rfl rfl, gw_sl1 (q := (n_Mo_called, 33)) (by decide +kernel) rfl rfl, rfl, rfl⟩
theorem k_Mo_204 : gw_KV "CostCheckerModel" 204 y_Mo_side 11 3 := ⟨o_Mo_side, Or.inl (gw_w4 203 rfl rfl), gw_w4 205 rfl rfl, gw_sl1 (q := (n_Mo_side, 33)) (by decide +kernel) rfl rfl, rfl, rfl⟩
theorem k_Mo_208 : gw_KV "CostCheckerModel" 208 y_Mo_extra 11 3 := ⟨o_Mo_extra, Or.inl (gw_w4 207 rfl rfl), gw_w4 209 rfl rfl, gw_sl1 (q := (n_Mo_extra, 33)) (by decide +kernel) rfl rfl, rfl, rfl⟩
theorem k_Mo_183 : gw_KV "CostCheckerModel" 183 y_Mo_push 11 3 := ⟨o_Mo_push, Or.inl (gw_w4 211 rfl rfl), gw_w4 213 rfl rfl, gw_sl1 (q := (n_Mo_push, 33)) (by decide +kernel) rfl rfl, rfl, rfl⟩
theorem k_Mo_179 : gw_KV "CostCheckerModel" 179 y_Mo_simple 11 3 := ⟨o_Mo_simple, Or.inl (gw_w4 215 rfl rfl), gw_w4 217 rfl rfl, gw_sl1 (q := (n_Mo_simple, 33)) (by decide +kernel) rfl rfl, rfl, rfl⟩
theorem k_Mo_192 : gw_KV "CostCheckerModel" 192 y_Mo_combine 11 6 := ⟨o_Mo_combine, Or.inl (gw_w4 219 rfl rfl), gw_w4 221 rfl rfl, gw_sl1 (q := (n_Mo_combine, 33)) (by decide +kernel) rfl rfl, rfl, rfl⟩
theorem k_La_50 : gw_KV "CostCheckerLaw" 50 y_Mo_accepted 11 1 := ⟨o_Mo_accepted, Or.inl (gw_w4 223 rfl rfl), gw_w4 224 rfl rfl, gw_w4 225 rfl rfl, rfl, rfl⟩
theorem k_La_55 : gw_KV "CostCheckerLaw" 55 y_Mo_bound 11 5 := ⟨o_Mo_bound, Or.inl (gw_w4 227 rfl rfl), gw_w4 228 rfl rfl, gw_w4 229 rfl rfl, rfl, rfl⟩
theorem k_Mo_226 : gw_KV "CostCheckerModel" 226 y_Mo_accepted 11 1 := ⟨o_Mo_accepted, Or.inl (gw_w4 233 rfl rfl), gw_w4 224 rfl rfl, gw_w4 225 rfl rfl, rfl, rfl⟩
theorem k_Mo_228 : gw_KS "CostCheckerModel" 228 y_Mo_argument 4 := ⟨o_Mo_argument, Or.inl (gw_w4 234 rfl rfl), gw_w4 235 rfl rfl⟩
theorem k_La_59 : gw_KV "CostCheckerLaw" 59 y_Mo_depth 11 1 := ⟨o_Mo_depth, Or.inl (gw_w4 237 rfl rfl), gw_w4 238 rfl rfl, gw_w4 239 rfl rfl, rfl, rfl⟩
theorem k_Mo_232 : gw_KV "CostCheckerModel" 232 y_Mo_calls 11 2 := ⟨o_Mo_calls, Or.inl (gw_w5 1 rfl rfl), gw_w5 3 rfl rfl, gw_sl1 (q := (n_Mo_calls, 33)) (by decide +kernel) rfl rfl, rfl, rfl⟩
theorem k_Mo_235 : gw_KS "CostCheckerModel" 235 y_Mo_greatest 2 := ⟨o_Mo_greatest, Or.inl (gw_w5 5 rfl rfl), gw_w5 6 rfl rfl⟩
theorem k_La_63 : gw_KV "CostCheckerLaw" 63 y_Mo_feed 11 1 := ⟨o_Mo_feed, Or.inl (gw_w5 8 rfl rfl), gw_w5 9 rfl rfl, gw_w5 10 rfl rfl, rfl, rfl⟩
theorem k_La_68 : gw_KV "CostCheckerLaw" 68 y_Mo_run 11 4 := ⟨o_Mo_run, Or.inl (gw_w5 12 rfl rfl), gw_w5 13 rfl rfl, gw_w5 14 rfl rfl, rfl, rfl⟩
theorem k_Mo_259 : gw_KV "CostCheckerModel" 259 y_Mo_enter 11 4 := ⟨o_Mo_enter, Or.inl (gw_w5 16 rfl rfl), gw_w5 18 rfl rfl, gw_sl1 (q := (n_Mo_enter, 33)) (by decide +kernel) rfl rfl, rfl, rfl⟩
theorem k_Mo_263 : gw_KV "CostCheckerModel" 263 y_Mo_makeStep 11 0 := ⟨o_Mo_makeStep, Or.inl (gw_w5 20 rfl rfl), gw_w5 22 rfl rfl, gw_sl1 (q := (n_Mo_makeStep, 33)) (by decide +kernel) rfl rfl, rfl, rfl⟩
theorem k_Mo_267 : gw_KV "CostCheckerModel" 267 y_Mo_take 11 1 := ⟨o_Mo_take, Or.inl (gw_w5 24 rfl rfl), gw_w5 26 rfl rfl, gw_sl1 (q := (n_Mo_take, 33)) (by decide +kernel) rfl rfl, rfl, rfl⟩
theorem k_Mo_270 : gw_KV "CostCheckerModel" 270 y_Mo_leave 11 1 := ⟨o_Mo_leave, Or.inl (gw_w5 28 rfl rfl), gw_w5 30 rfl rfl, gw_sl1 (q := (n_Mo_leave, 33)) (by decide +kernel) rfl rfl, rfl, rfl⟩
theorem k_Mo_280 : gw_KV "CostCheckerModel" 280 y_Mo_give 11 2 := ⟨o_Mo_give, Or.inl (gw_w5 32 rfl rfl), gw_w5 34 rfl rfl, gw_sl1 (q := (n_Mo_give, 33)) (by decide +kernel) rfl rfl, rfl, rfl⟩
theorem k_Mo_273 : gw_KV "CostCheckerModel" 273 y_Mo_choose 11 3 := ⟨o_Mo_choose, Or.inl (gw_w5 36 rfl rfl), gw_w5 38 rfl rfl, gw_sl1 (q := (n_Mo_choose, 33)) (by decide +kernel) rfl rfl, rfl, rfl⟩
theorem k_Mo_276 : gw_KV "CostCheckerModel" 276 y_Mo_work 11 3 := ⟨o_Mo_work, Or.inl (gw_w5 40 rfl rfl), gw_w5 42 rfl rfl, gw_sl1 (q := (n_Mo_work, 33)) (by decide +kernel) rfl rfl, rfl, rfl⟩
theorem k_Mo_283 : gw_KS "CostCheckerModel" 283 y_Mo_fits 1 := ⟨o_Mo_fits, Or.inl (gw_w5 44 rfl rfl), gw_w5 45 rfl rfl⟩
theorem k_La_72 : gw_KV "CostCheckerLaw" 72 y_Mo_ran 11 1 := ⟨o_Mo_ran, Or.inl (gw_w5 48 rfl rfl), gw_w5 49 rfl rfl, gw_w5 50 rfl rfl, rfl, rfl⟩
theorem j_CC_3 : Cond.methodLink "CostChecker" 3 Lib.objectInit ∈ gw_all := gw_w1 20 rfl rfl
theorem j_Me_3 : Cond.methodLink "CostChecker$Method" 3 Lib.objectInit ∈ gw_all := gw_w1 29 rfl rfl
theorem j_Cu_3 : Cond.methodLink "CostChecker$Cut" 3 Lib.objectInit ∈ gw_all := gw_w1 36 rfl rfl
theorem j_Po_3 : Cond.methodLink "CostChecker$Potential" 3 Lib.objectInit ∈ gw_all := gw_w1 43 rfl rfl
theorem j_Ma_3 : Cond.methodLink "CostChecker$Machine" 3 Lib.objectInit ∈ gw_all := gw_w1 144 rfl rfl
theorem j_Fr_3 : Cond.methodLink "CostChecker$Frame" 3 Lib.objectInit ∈ gw_all := gw_w1 151 rfl rfl
theorem j_Ch_3 : Cond.methodLink "CostChecker$Checker" 3 Lib.objectInit ∈ gw_all := gw_w1 212 rfl rfl
theorem j_Sy_3 : Cond.methodLink "CostChecker$Symbols" 3 Lib.objectInit ∈ gw_all := gw_w1 220 rfl rfl
theorem j_Pa_3 : Cond.methodLink "CostChecker$Path" 3 Lib.objectInit ∈ gw_all := gw_w2 0 rfl rfl
theorem j_Kn_3 : Cond.methodLink "CostChecker$Known" 3 Lib.objectInit ∈ gw_all := gw_w2 8 rfl rfl
theorem j_Ba_3 : Cond.methodLink "CostChecker$Balance" 3 Lib.objectInit ∈ gw_all := gw_w2 19 rfl rfl
theorem j_Pa_94 : Cond.methodLink "CostChecker$Path" 94 Lib.Math.max.name ∈ gw_all := gw_w3 33 rfl rfl
theorem j_Sy_23 : Cond.methodLink "CostChecker$Symbols" 23 arraycopyName ∈ gw_all := gw_w3 44 rfl rfl
theorem j_Pa_78 : Cond.methodLink "CostChecker$Path" 78 arraycopyName ∈ gw_all := gw_w3 47 rfl rfl
theorem j_Kn_17 : Cond.methodLink "CostChecker$Known" 17 arraycopyName ∈ gw_all := gw_w3 52 rfl rfl
theorem j_Ba_19 : Cond.methodLink "CostChecker$Balance" 19 arraycopyName ∈ gw_all := gw_w3 57 rfl rfl
theorem j_CC_159 : Cond.methodLink "CostChecker" 159 Lib.Math.max.name ∈ gw_all := gw_w3 135 rfl rfl
theorem j_Ma_123 : Cond.methodLink "CostChecker$Machine" 123 Lib.Math.max.name ∈ gw_all := gw_w3 192 rfl rfl
theorem j_Mo_1 : Cond.methodLink "CostCheckerModel" 1 Lib.objectInit ∈ gw_all := gw_w3 211 rfl rfl
theorem gw_jo1 : Cond.instanceMethod Lib.objectInit ∈ gw_all := gw_w1 21 rfl rfl
theorem gw_jm1 : Cond.static Lib.Math.max.name ∈ gw_all := gw_w3 34 rfl rfl
theorem gw_jm2 : Cond.initialized "java/lang/Math" ∈ gw_all := gw_w1 13 rfl rfl
theorem gw_js1 : Cond.native arraycopyName ∈ gw_all := gw_w3 46 rfl rfl
theorem gw_js2 : Cond.static arraycopyName ∈ gw_all := gw_w3 45 rfl rfl
theorem gw_js3 : Cond.initialized "java/lang/System" ∈ gw_all := gw_w1 14 rfl rfl
theorem gw_aI : Cond.arrayClass .int ∈ gw_all := gw_w1 71 rfl rfl
theorem gw_aL : Cond.arrayClass .long ∈ gw_all := gw_w1 235 rfl rfl
theorem gw_aZ : Cond.arrayClass .boolean ∈ gw_all := gw_w4 72 rfl rfl
theorem gw_jo2 : Cond.code Lib.objectInit ⟨#[0xb1]⟩ 1 none ∈ gw_all := gw_w1 22 rfl rfl
theorem gw_jm3 : Cond.code Lib.Math.max.name Lib.Math.max.code 2 (some .int) ∈ gw_all := gw_w3 35 rfl rfl
theorem c_La_7 : Cond.classLink "CostCheckerLaw" 7 (gw_c 0).1 ∈ gw_all := gw_w1 15 rfl rfl
theorem c_CC_9 : Cond.classLink "CostChecker" 9 (gw_c 1).1 ∈ gw_all := gw_w1 23 rfl rfl
theorem e_CC_9 : Cond.classLink "CostChecker" 9 "CostChecker$Method" ∈ gw_all := gw_w1 23 rfl rfl
theorem v_Me : Cond.arrayOver (.object "CostChecker$Method") ∈ lw_tbl := gw_l1 24 rfl
theorem c_Me_18 : Cond.classLink "CostChecker$Method" 18 (gw_c 2).1 ∈ gw_all := gw_w1 30 rfl rfl
theorem e_Me_18 : Cond.classLink "CostChecker$Method" 18 "CostChecker$Cut" ∈ gw_all := gw_w1 30 rfl rfl
theorem v_Cu : Cond.arrayOver (.object "CostChecker$Cut") ∈ lw_tbl := gw_l1 31 rfl
theorem c_Cu_21 : Cond.classLink "CostChecker$Cut" 21 (gw_c 3).1 ∈ gw_all := gw_w1 37 rfl rfl
theorem e_Cu_21 : Cond.classLink "CostChecker$Cut" 21 "CostChecker$Potential" ∈ gw_all := gw_w1 37 rfl rfl
theorem v_Po : Cond.arrayOver (.object "CostChecker$Potential") ∈ lw_tbl := gw_l1 38 rfl
theorem c_CC_18 : Cond.classLink "CostChecker" 18 (gw_c 4).1 ∈ gw_all := gw_w1 139 rfl rfl
theorem c_Ma_9 : Cond.classLink "CostChecker$Machine" 9 (gw_c 5).1 ∈ gw_all := gw_w1 145 rfl rfl
theorem e_Ma_9 : Cond.classLink "CostChecker$Machine" 9 "CostChecker$Frame" ∈ gw_all := gw_w1 145 rfl rfl
theorem v_Fr : Cond.arrayOver (.object "CostChecker$Frame") ∈ lw_tbl := gw_l1 146 rfl
theorem c_CC_27 : Cond.classLink "CostChecker" 27 (gw_c 6).1 ∈ gw_all := gw_w1 207 rfl rfl
theorem c_Ch_9 : Cond.classLink "CostChecker$Checker" 9 (gw_c 7).1 ∈ gw_all := gw_w1 213 rfl rfl
theorem e_Ch_9 : Cond.classLink "CostChecker$Checker" 9 "CostChecker$Path" ∈ gw_all := gw_w1 213 rfl rfl
theorem v_Pa : Cond.arrayOver (.object "CostChecker$Path") ∈ lw_tbl := gw_l1 214 rfl
theorem c_Ch_17 : Cond.classLink "CostChecker$Checker" 17 (gw_c 8).1 ∈ gw_all := gw_w1 215 rfl rfl
theorem c_Pa_9 : Cond.classLink "CostChecker$Path" 9 (gw_c 8).1 ∈ gw_all := gw_w2 1 rfl rfl
theorem c_Pa_26 : Cond.classLink "CostChecker$Path" 26 (gw_c 9).1 ∈ gw_all := gw_w2 3 rfl rfl
theorem c_Pa_33 : Cond.classLink "CostChecker$Path" 33 (gw_c 10).1 ∈ gw_all := gw_w2 13 rfl rfl
theorem e_Pa_33 : Cond.classLink "CostChecker$Path" 33 "CostChecker$Balance" ∈ gw_all := gw_w2 13 rfl rfl
theorem v_Ba : Cond.arrayOver (.object "CostChecker$Balance") ∈ lw_tbl := gw_l2 14 rfl
theorem c_La_10 : Cond.classLink "CostCheckerLaw" 10 (gw_c 11).1 ∈ gw_all := gw_w3 206 rfl rfl
theorem i_Kn_15 : Cond.constantLong "CostChecker$Known" 15 1152921504606846976 ∈ gw_all := gw_w2 209 rfl rfl
theorem i_Ba_65 : Cond.constantLong "CostChecker$Balance" 65 1152921504606846976 ∈ gw_all := gw_w3 13 rfl rfl
theorem i_Ba_55 : Cond.constantLong "CostChecker$Balance" 55 2 ∈ gw_all := gw_w3 75 rfl rfl
theorem i_Ba_57 : Cond.constantLong "CostChecker$Balance" 57 (-1) ∈ gw_all := gw_w3 76 rfl rfl
theorem i_CC_165 : Cond.constant "CostChecker" 165 (-1000000) ∈ gw_all := gw_w3 116 rfl rfl
theorem i_CC_166 : Cond.constant "CostChecker" 166 1000000 ∈ gw_all := gw_w3 117 rfl rfl
theorem i_CC_103 : Cond.constantLong "CostChecker" 103 (-1) ∈ gw_all := gw_w3 118 rfl rfl
theorem i_Ma_122 : Cond.constant "CostChecker$Machine" 122 1000000000 ∈ gw_all := gw_w3 187 rfl rfl
theorem i_Mo_84 : Cond.constantLong "CostCheckerModel" 84 3 ∈ gw_all := gw_w4 77 rfl rfl
theorem i_Mo_90 : Cond.constantLong "CostCheckerModel" 90 14 ∈ gw_all := gw_w4 81 rfl rfl
theorem i_Mo_92 : Cond.constantLong "CostCheckerModel" 92 (-1000) ∈ gw_all := gw_w4 82 rfl rfl
theorem i_Mo_94 : Cond.constantLong "CostCheckerModel" 94 1000 ∈ gw_all := gw_w4 83 rfl rfl
theorem i_Mo_104 : Cond.constantLong "CostCheckerModel" 104 23 ∈ gw_all := gw_w4 100 rfl rfl
theorem i_Mo_110 : Cond.constantLong "CostCheckerModel" 110 4 ∈ gw_all := gw_w4 109 rfl rfl
theorem i_Mo_112 : Cond.constantLong "CostCheckerModel" 112 (-10000) ∈ gw_all := gw_w4 114 rfl rfl
theorem i_Mo_114 : Cond.constantLong "CostCheckerModel" 114 10000 ∈ gw_all := gw_w4 115 rfl rfl
theorem i_Mo_116 : Cond.constantLong "CostCheckerModel" 116 100 ∈ gw_all := gw_w4 120 rfl rfl
theorem i_Mo_118 : Cond.constantLong "CostCheckerModel" 118 24 ∈ gw_all := gw_w4 121 rfl rfl
theorem i_Mo_124 : Cond.constantLong "CostCheckerModel" 124 1000000000000000 ∈ gw_all := gw_w4 134 rfl rfl
theorem i_Mo_126 : Cond.constantLong "CostCheckerModel" 126 5 ∈ gw_all := gw_w4 146 rfl rfl
theorem i_Mo_162 : Cond.constantLong "CostCheckerModel" 162 40 ∈ gw_all := gw_w4 179 rfl rfl
theorem i_Mo_164 : Cond.constantLong "CostCheckerModel" 164 2 ∈ gw_all := gw_w4 180 rfl rfl
theorem i_Mo_166 : Cond.constantLong "CostCheckerModel" 166 6 ∈ gw_all := gw_w4 181 rfl rfl
theorem i_Mo_187 : Cond.constantLong "CostCheckerModel" 187 (-1) ∈ gw_all := gw_w4 198 rfl rfl
theorem i_Mo_222 : Cond.constantLong "CostCheckerModel" 222 (-1000000) ∈ gw_all := gw_w4 231 rfl rfl
theorem i_Mo_224 : Cond.constantLong "CostCheckerModel" 224 1000000 ∈ gw_all := gw_w4 232 rfl rfl
theorem i_Mo_287 : Cond.constant "CostCheckerModel" 287 1000000000 ∈ gw_all := gw_w5 47 rfl rfl
