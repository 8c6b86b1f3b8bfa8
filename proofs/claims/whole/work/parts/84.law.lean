/-! the law, command by command -/
/-- the law's method under any name: its name is asked nowhere -/
abbrev y_La (nm : String) : gw_Y := (⟨x.cls, nm, x.desc⟩, code, maxLocals, ret)
def la_iv (sh : Nat → Nat × Nat) (R : Nat → Nat → Option Nat) (I : Nat → Nat → Int32) (S U : Nat → ab_Me) : Prop := pt_CX sh R ∧ pt_Ch sh R ∧ pt_Mo sh R ∧ cc_at R I S ∧ mc_at I U ∧ iv S U ∧ (∃ (st wd mr rt : Int32) (inp : List Int32), ma_at I st wd mr rt inp ∧ mr_at I st wd mr rt inp) ∧ I 532 3 = 0 ∧ I 532 4 = 0
theorem pt_Mo.kept {sh : Nat → Nat × Nat} {R R' : Nat → Nat → Option Nat} (h : pt_Mo sh R) (hq : R' 533 = R 533) : pt_Mo sh R' := by
  unfold pt_Mo
  rw [hq]
  exact h
theorem pt_Ch.kept {sh : Nat → Nat × Nat} {R R' : Nat → Nat → Option Nat} (h : pt_Ch sh R) (hq : ∀ q, 345 ≤ q → R' q = R q) : pt_Ch sh R' := by
  obtain ⟨a1, a2, a3, a4, a5, a6, a7⟩ := h
  exact ⟨a1, a2, by rw [hq _ (by decide)]; exact a3, by rw [hq _ (by decide)]; exact a4, by rw [hq _ (by decide)]; exact a5, a6.kept (hq _ (by decide)), fun i hi => ⟨by rw [hq _ (by decide)]; exact (a7 i hi).1, (a7 i hi).2.kept (fun q h1 h2 => hq q (by omega))⟩⟩
theorem same_k {x : Int32} {k k' : Nat} (h1 : k < 4) (h1' : k' < 4) (h2 : x = nI k) (h2' : x = nI k') : k = k' := (nI_eq (by omega) (by omega)).mp (h2.symm.trans h2')
theorem in15 {k : Nat} (h : k < 15) : 0 ≤ nI k ∧ nI k ≤ 14 := ⟨nI_pos' (by omega), (nI_leI (b := 14) (by omega) (by decide)).mpr (by omega)⟩
theorem in5 {k : Nat} (h : k < 5) : 0 ≤ nI k ∧ nI k ≤ 4 := ⟨nI_pos' (by omega), (nI_leI (b := 4) (by omega) (by decide)).mpr (by omega)⟩
theorem in2 {k : Nat} (h : k < 2) : 0 ≤ nI k ∧ nI k ≤ 1 := ⟨nI_pos' (by omega), (nI_leI (b := 1) (by omega) (by decide)).mpr (by omega)⟩
theorem in100 {k : Nat} (h1 : 1 ≤ k) (h : k ≤ 100) : 1 ≤ nI k ∧ nI k ≤ 100 := ⟨(nI_leI (a := 1) (by decide) (by omega)).mpr h1, (nI_leI (b := 100) (by omega) (by decide)).mpr h⟩
theorem iv.t0 {S U : Nat → ab_Me} (h : iv S U) {k i : Nat} {e : Nat × ab_Cu} (_ : k < 4) (hi : (S k).2.1[i]? = some e) : ∀ t ∈ e.2.2.1.2, t.1 ≤ 100 := ((h k).2.2.2.2.2.2.2.2.1 e (List.mem_of_getElem? hi)).2.1
theorem iv.t1 {S U : Nat → ab_Me} (h : iv S U) {k i : Nat} {e : Nat × ab_Cu} (_ : k < 4) (hi : (S k).2.1[i]? = some e) : ∀ t ∈ e.2.2.2.2, t.1 ≤ 100 := ((h k).2.2.2.2.2.2.2.2.1 e (List.mem_of_getElem? hi)).2.2
theorem iv.zero {S U : Nat → ab_Me} (h : iv S U) {k : Nat} {A : ab_Cu} (hm : (0, A) ∈ (U k).2.1) : (S k).2.1[0]? = some (0, A) := by
  obtain ⟨h1, h2, h3, h4, h5, ⟨C, h6⟩, h7⟩ := h k
  have := pw_mem h5 ((h4 _).mp hm) (List.mem_of_getElem? h6) rfl
  rw [this]
  exact h6
theorem iv.code {S U : Nat → ab_Me} (h : iv S U) : (fun j => (U j).1) = (fun j => (S j).1) := funext (fun j => (h j).1)
theorem setp0 {v : Nat} {b : Int32} {C : ab_Cu} (h0 : ∀ t ∈ C.2.1.2, t.1 ≤ 100) (h1 : ∀ t ∈ C.2.2.2, t.1 ≤ 100) (hv : v < 2) : ∀ t ∈ (cu_setp v (b, (cu_pot v C).2) C).2.1.2, t.1 ≤ 100 := by
  rcases (show v = 0 ∨ v = 1 by omega) with rfl | rfl
  · exact h0
  · exact h0
theorem setp1 {v : Nat} {b : Int32} {C : ab_Cu} (h0 : ∀ t ∈ C.2.1.2, t.1 ≤ 100) (h1 : ∀ t ∈ C.2.2.2, t.1 ≤ 100) (hv : v < 2) : ∀ t ∈ (cu_setp v (b, (cu_pot v C).2) C).2.2.2, t.1 ≤ 100 := by
  rcases (show v = 0 ∨ v = 1 by omega) with rfl | rfl
  · exact h1
  · exact h1
theorem setq0 {v g s : Nat} {C : ab_Cu} (h0 : ∀ t ∈ C.2.1.2, t.1 ≤ 100) (h1 : ∀ t ∈ C.2.2.2, t.1 ≤ 100) (hv : v < 2) (hg : g ≤ 100) : ∀ t ∈ (cu_setp v ((cu_pot v C).1, (cu_pot v C).2 ++ [(g, s / 5, s % 5)]) C).2.1.2, t.1 ≤ 100 := by
  rcases (show v = 0 ∨ v = 1 by omega) with rfl | rfl
  · intro t ht
    rcases List.mem_append.mp (show t ∈ C.2.1.2 ++ [(g, s / 5, s % 5)] from ht) with ht | ht
    · exact h0 t ht
    · rw [List.mem_singleton.mp ht]; exact hg
  · exact h0
theorem setq1 {v g s : Nat} {C : ab_Cu} (h0 : ∀ t ∈ C.2.1.2, t.1 ≤ 100) (h1 : ∀ t ∈ C.2.2.2, t.1 ≤ 100) (hv : v < 2) (hg : g ≤ 100) : ∀ t ∈ (cu_setp v ((cu_pot v C).1, (cu_pot v C).2 ++ [(g, s / 5, s % 5)]) C).2.2.2, t.1 ≤ 100 := by
  rcases (show v = 0 ∨ v = 1 by omega) with rfl | rfl
  · exact h1
  · intro t ht
    rcases List.mem_append.mp (show t ∈ C.2.2.2 ++ [(g, s / 5, s % 5)] from ht) with ht | ht
    · exact h1 t ht
    · rw [List.mem_singleton.mp ht]; exact hg
theorem bool_eq {a b : Bool} {P : Prop} (h1 : a = true ↔ P) (h2 : b = true ↔ P) : a = b := by
  cases a <;> cases b
  · rfl
  · exact absurd (h1.mpr (h2.mp rfl)) (by decide)
  · exact absurd (h2.mpr (h1.mp rfl)) (by decide)
  · rfl
theorem ran_eq {x r r' st wd mr rt : Int32} (q0 : x = 0 → r = st) (q1 : x = 1 → r = wd) (q2 : x = 2 → r = mr) (q3 : x = 3 → r = rt) (q4 : x ≠ 0 → x ≠ 1 → x ≠ 2 → x ≠ 3 → r = -1) (p0 : x = 0 → r' = st) (p1 : x = 1 → r' = wd) (p2 : x = 2 → r' = mr) (p3 : x = 3 → r' = rt) (p4 : x ≠ 0 → x ≠ 1 → x ≠ 2 → x ≠ 3 → r' = -1) : r = r' := by
  by_cases h0 : x = 0
  · rw [q0 h0, p0 h0]
  by_cases h1 : x = 1
  · rw [q1 h1, p1 h1]
  by_cases h2 : x = 2
  · rw [q2 h2, p2 h2]
  by_cases h3 : x = 3
  · rw [q3 h3, p3 h3]
  · rw [q4 h0 h1 h2 h3, p4 h0 h1 h2 h3]
section LA
variable {nm : String} {d : Nat} {sh : Nat → Nat × Nat} {X : Nat × (Nat → Int32)} {R : Nat → Nat → Option Nat} {I : Nat → Nat → Int32} {L : Nat → Nat → Int64} {Q : Option Value → gw_Mem → Prop}
theorem la_0 {S U : Nat → ab_Me} {z : Int32} {j : Nat} (hX : X.1 < 2 ^ 31) (hz : z = nI j) (hj : j + 6 ≤ X.1) (hi : la_iv sh R I S U) (next : ∀ (R' : Nat → Nat → Option Nat) (I' : Nat → Nat → Int32) (L' : Nat → Nat → Int64) (S' U' : Nat → ab_Me), la_iv sh R' I' S' U' → gw_Go (y_La nm) (d + 40) 0 0 610 [some (.ref 1048576), some (.ref 0), some (.ref 533), some (.int z)] [] (558, sh, X, R', I', L') Q) : gw_Go (y_La nm) (d + 40) 0 0 100 [some (.ref 1048576), some (.ref 0), some (.ref 533), some (.int z)] [] (558, sh, X, R, I, L) Q := by
  obtain ⟨h1, h2, h3, h4, h5, h6, ⟨st, wd, mr, rt, inp, h7, h8⟩, h9, h10⟩ := hi
  have s0 := h1.1.1
  have s533 := h3.1
  refine go_aload_n 1 d_La_law_100 rfl rfl ?_
  refine go_aload_n 0 d_La_law_101 rfl rfl ?_
  refine go_iload_n 3 d_La_law_102 rfl rfl ?_
  refine go_iconst (v := 1) d_La_law_103 rfl ?_
  refine go_iadd d_La_law_104 ?_
  refine go_sld (j + 1) d_La_law_105 (by rw [hz]; exact nI_add j 1) (by omega) (by assumption) ?_
  refine go_aload_n 0 d_La_law_106 rfl rfl ?_
  refine go_iload_n 3 d_La_law_107 rfl rfl ?_
  refine go_iconst (v := 2) d_La_law_108 rfl ?_
  refine go_iadd d_La_law_109 ?_
  refine go_sld (j + 2) d_La_law_110 (by rw [hz]; exact nI_add j 2) (by omega) (by assumption) ?_
  refine go_aload_n 0 d_La_law_111 rfl rfl ?_
  refine go_iload_n 3 d_La_law_112 rfl rfl ?_
  refine go_iconst (v := 3) d_La_law_113 rfl ?_
  refine go_iadd d_La_law_114 ?_
  refine go_sld (j + 3) d_La_law_115 (by rw [hz]; exact nI_add j 3) (by omega) (by assumption) ?_
  refine go_V3 d_La_law_116 k_La_13 (by assumption) (Nat.le_of_ble_eq_true rfl) (c_CC_put (d := d + 38) h1.1 h4 (fun hf => ?hf) (fun k kd a1 a2 a3 a4 a5 a6 I1 b1 b2 => ?_))
  case hf =>
    refine go_aload_n 2 d_La_law_119 rfl rfl ?_
    refine go_aload_n 0 d_La_law_120 rfl rfl ?_
    refine go_iload_n 3 d_La_law_121 rfl rfl ?_
    refine go_iconst (v := 1) d_La_law_122 rfl ?_
    refine go_iadd d_La_law_123 ?_
    refine go_sld (j + 1) d_La_law_124 (by rw [hz]; exact nI_add j 1) (by omega) (by assumption) ?_
    refine go_aload_n 0 d_La_law_125 rfl rfl ?_
    refine go_iload_n 3 d_La_law_126 rfl rfl ?_
    refine go_iconst (v := 2) d_La_law_127 rfl ?_
    refine go_iadd d_La_law_128 ?_
    refine go_sld (j + 2) d_La_law_129 (by rw [hz]; exact nI_add j 2) (by omega) (by assumption) ?_
    refine go_aload_n 0 d_La_law_130 rfl rfl ?_
    refine go_iload_n 3 d_La_law_131 rfl rfl ?_
    refine go_iconst (v := 3) d_La_law_132 rfl ?_
    refine go_iadd d_La_law_133 ?_
    refine go_sld (j + 3) d_La_law_134 (by rw [hz]; exact nI_add j 3) (by omega) (by assumption) ?_
    refine go_V3 d_La_law_135 k_La_17 (by assumption) (Nat.le_of_ble_eq_true rfl) (c_Mo_put (d := d + 38) h3 h5 (fun hg => ?_) (fun k kd a1 a2 a3 a4 a5 a6 I2 g1 g2 => absurd ⟨k, a1, a2, a4 ▸ in15 a3, a5, by rw [← (h6 k).1]; exact a6⟩ hf))
    refine go_icmp_eq 610 d_La_law_138 rfl (fun _ => ?_) (fun hn => absurd (rfl) hn)
    exact next R I L S U ⟨h1, h2, h3, h4, h5, h6, ⟨st, wd, mr, rt, inp, h7, h8⟩, h9, h10⟩
  refine go_aload_n 2 d_La_law_119 rfl rfl ?_
  refine go_aload_n 0 d_La_law_120 rfl rfl ?_
  refine go_iload_n 3 d_La_law_121 rfl rfl ?_
  refine go_iconst (v := 1) d_La_law_122 rfl ?_
  refine go_iadd d_La_law_123 ?_
  refine go_sld (j + 1) d_La_law_124 (by rw [hz]; exact nI_add j 1) (by omega) (by assumption) ?_
  refine go_aload_n 0 d_La_law_125 rfl rfl ?_
  refine go_iload_n 3 d_La_law_126 rfl rfl ?_
  refine go_iconst (v := 2) d_La_law_127 rfl ?_
  refine go_iadd d_La_law_128 ?_
  refine go_sld (j + 2) d_La_law_129 (by rw [hz]; exact nI_add j 2) (by omega) (by assumption) ?_
  refine go_aload_n 0 d_La_law_130 rfl rfl ?_
  refine go_iload_n 3 d_La_law_131 rfl rfl ?_
  refine go_iconst (v := 3) d_La_law_132 rfl ?_
  refine go_iadd d_La_law_133 ?_
  refine go_sld (j + 3) d_La_law_134 (by rw [hz]; exact nI_add j 3) (by omega) (by assumption) ?_
  refine go_V3 d_La_law_135 k_La_17 (by assumption) (Nat.le_of_ble_eq_true rfl) (c_Mo_put (d := d + 38) h3 (h5.kept (fun q a b => b2 q (by omega))) (fun hg => absurd ⟨k, a1, a2, a4 ▸ in15 a3, a5, by rw [(h6 k).1]; exact a6⟩ hg) (fun k' kd' a1' a2' a3' a4' a5' a6' I2 g1 g2 => ?_))
  refine go_icmp_eq 610 d_La_law_138 rfl (fun _ => ?_) (fun hn => absurd (by rw [same_k a1 a1' a2 a2', (h6 k').1]) hn)
  exact next R I2 L (cc_chg k (va_up S k ((S k).1 ++ [(kd, X.2 (j + 3))], (S k).2))) (cc_chg k (va_up U k ((U k).1 ++ [(kd, X.2 (j + 3))], (U k).2))) ⟨h1, h2, h3, cc_at.kept b1 (fun q hq => g2 q (by omega)), (by have e1 := same_k a1 a1' a2 a2'; subst e1; have e2 := (nI_eq (by omega) (by omega)).mp (a4.symm.trans a4'); subst e2; exact g1), ((h6.up ((h6 k).put a5)).chg k), ⟨st, wd, mr, rt, inp, h7.kept (by rw [g2 _ (by omega), b2 _ (by omega)]) (by rw [g2 _ (by omega), b2 _ (by omega)]), h8.kept (fun i _ => by rw [g2 _ (by omega), b2 _ (by omega)]) (by rw [g2 _ (by omega), b2 _ (by omega)])⟩, by rw [g2 _ (by omega), b2 _ (by omega)]; exact h9, by rw [g2 _ (by omega), b2 _ (by omega)]; exact h10⟩
theorem la_1 {S U : Nat → ab_Me} {z : Int32} {j : Nat} (hX : X.1 < 2 ^ 31) (hz : z = nI j) (hj : j + 6 ≤ X.1) (hi : la_iv sh R I S U) (next : ∀ (R' : Nat → Nat → Option Nat) (I' : Nat → Nat → Int32) (L' : Nat → Nat → Int64) (S' U' : Nat → ab_Me), la_iv sh R' I' S' U' → gw_Go (y_La nm) (d + 40) 0 0 610 [some (.ref 1048576), some (.ref 0), some (.ref 533), some (.int z)] [] (558, sh, X, R', I', L') Q) : gw_Go (y_La nm) (d + 40) 0 0 143 [some (.ref 1048576), some (.ref 0), some (.ref 533), some (.int z)] [] (558, sh, X, R, I, L) Q := by
  obtain ⟨h1, h2, h3, h4, h5, h6, ⟨st, wd, mr, rt, inp, h7, h8⟩, h9, h10⟩ := hi
  have s0 := h1.1.1
  have s533 := h3.1
  refine go_aload_n 1 d_La_law_143 rfl rfl ?_
  refine go_aload_n 0 d_La_law_144 rfl rfl ?_
  refine go_iload_n 3 d_La_law_145 rfl rfl ?_
  refine go_iconst (v := 1) d_La_law_146 rfl ?_
  refine go_iadd d_La_law_147 ?_
  refine go_sld (j + 1) d_La_law_148 (by rw [hz]; exact nI_add j 1) (by omega) (by assumption) ?_
  refine go_V1 d_La_law_149 k_La_18 (by assumption) (Nat.le_of_ble_eq_true rfl) (c_CC_clear (d := d + 36) h1.1 h4 (fun hf => ?hf) (fun k a1 a2 I1 b1 b2 => ?_))
  case hf =>
    refine go_aload_n 2 d_La_law_152 rfl rfl ?_
    refine go_aload_n 0 d_La_law_153 rfl rfl ?_
    refine go_iload_n 3 d_La_law_154 rfl rfl ?_
    refine go_iconst (v := 1) d_La_law_155 rfl ?_
    refine go_iadd d_La_law_156 ?_
    refine go_sld (j + 1) d_La_law_157 (by rw [hz]; exact nI_add j 1) (by omega) (by assumption) ?_
    refine go_V1 d_La_law_158 k_La_22 (by assumption) (Nat.le_of_ble_eq_true rfl) (c_Mo_clear (d := d + 38) h3 h5 (fun hg => ?_) (fun k a1 a2 I2 g1 g2 => absurd ⟨k, a1, a2⟩ hf))
    refine go_icmp_eq 610 d_La_law_161 rfl (fun _ => ?_) (fun hn => absurd (rfl) hn)
    exact next R I L S U ⟨h1, h2, h3, h4, h5, h6, ⟨st, wd, mr, rt, inp, h7, h8⟩, h9, h10⟩
  refine go_aload_n 2 d_La_law_152 rfl rfl ?_
  refine go_aload_n 0 d_La_law_153 rfl rfl ?_
  refine go_iload_n 3 d_La_law_154 rfl rfl ?_
  refine go_iconst (v := 1) d_La_law_155 rfl ?_
  refine go_iadd d_La_law_156 ?_
  refine go_sld (j + 1) d_La_law_157 (by rw [hz]; exact nI_add j 1) (by omega) (by assumption) ?_
  refine go_V1 d_La_law_158 k_La_22 (by assumption) (Nat.le_of_ble_eq_true rfl) (c_Mo_clear (d := d + 38) h3 (h5.kept (fun q a b => b2 q (by omega))) (fun hg => absurd ⟨k, a1, a2⟩ hg) (fun k' a1' a2' I2 g1 g2 => ?_))
  refine go_icmp_eq 610 d_La_law_161 rfl (fun _ => ?_) (fun hn => absurd (rfl) hn)
  exact next R I2 L (cc_chg k (va_up S k ([], [(0, cu_0)], (S k).2.2))) (cc_chg k (va_up U k ([], [(0, cu_0)], (U k).2.2))) ⟨h1, h2, h3, cc_at.kept b1 (fun q hq => g2 q (by omega)), (by have e1 := same_k a1 a1' a2 a2'; subst e1; exact g1), ((h6.up (by rw [(h6 k).2.1]; exact iv1_0.flag _)).chg k), ⟨st, wd, mr, rt, inp, h7.kept (by rw [g2 _ (by omega), b2 _ (by omega)]) (by rw [g2 _ (by omega), b2 _ (by omega)]), h8.kept (fun i _ => by rw [g2 _ (by omega), b2 _ (by omega)]) (by rw [g2 _ (by omega), b2 _ (by omega)])⟩, by rw [g2 _ (by omega), b2 _ (by omega)]; exact h9, by rw [g2 _ (by omega), b2 _ (by omega)]; exact h10⟩
theorem la_2 {S U : Nat → ab_Me} {z : Int32} {j : Nat} (hX : X.1 < 2 ^ 31) (hz : z = nI j) (hj : j + 6 ≤ X.1) (hi : la_iv sh R I S U) (next : ∀ (R' : Nat → Nat → Option Nat) (I' : Nat → Nat → Int32) (L' : Nat → Nat → Int64) (S' U' : Nat → ab_Me), la_iv sh R' I' S' U' → gw_Go (y_La nm) (d + 40) 0 0 610 [some (.ref 1048576), some (.ref 0), some (.ref 533), some (.int z)] [] (558, sh, X, R', I', L') Q) : gw_Go (y_La nm) (d + 40) 0 0 166 [some (.ref 1048576), some (.ref 0), some (.ref 533), some (.int z)] [] (558, sh, X, R, I, L) Q := by
  obtain ⟨h1, h2, h3, h4, h5, h6, ⟨st, wd, mr, rt, inp, h7, h8⟩, h9, h10⟩ := hi
  have s0 := h1.1.1
  have s533 := h3.1
  refine go_aload_n 1 d_La_law_166 rfl rfl ?_
  refine go_aload_n 0 d_La_law_167 rfl rfl ?_
  refine go_iload_n 3 d_La_law_168 rfl rfl ?_
  refine go_iconst (v := 1) d_La_law_169 rfl ?_
  refine go_iadd d_La_law_170 ?_
  refine go_sld (j + 1) d_La_law_171 (by rw [hz]; exact nI_add j 1) (by omega) (by assumption) ?_
  refine go_aload_n 0 d_La_law_172 rfl rfl ?_
  refine go_iload_n 3 d_La_law_173 rfl rfl ?_
  refine go_iconst (v := 2) d_La_law_174 rfl ?_
  refine go_iadd d_La_law_175 ?_
  refine go_sld (j + 2) d_La_law_176 (by rw [hz]; exact nI_add j 2) (by omega) (by assumption) ?_
  refine go_V2 d_La_law_177 k_La_23 (by assumption) (Nat.le_of_ble_eq_true rfl) (c_CC_cut (d := d + 36) h1.1 h4 h6.pl (fun hf => ?hf) (fun k p a1 a2 a3 a4 a5 a6 R1 I1 a c1 c2 c3 b1 br b2 => ?_))
  case hf =>
    refine go_aload_n 2 d_La_law_180 rfl rfl ?_
    refine go_aload_n 0 d_La_law_181 rfl rfl ?_
    refine go_iload_n 3 d_La_law_182 rfl rfl ?_
    refine go_iconst (v := 1) d_La_law_183 rfl ?_
    refine go_iadd d_La_law_184 ?_
    refine go_sld (j + 1) d_La_law_185 (by rw [hz]; exact nI_add j 1) (by omega) (by assumption) ?_
    refine go_aload_n 0 d_La_law_186 rfl rfl ?_
    refine go_iload_n 3 d_La_law_187 rfl rfl ?_
    refine go_iconst (v := 2) d_La_law_188 rfl ?_
    refine go_iadd d_La_law_189 ?_
    refine go_sld (j + 2) d_La_law_190 (by rw [hz]; exact nI_add j 2) (by omega) (by assumption) ?_
    refine go_V2 d_La_law_191 k_La_27 (by assumption) (Nat.le_of_ble_eq_true rfl) (c_Mo_cut (d := d + 37) h3 h5 (fun k hk c hc => h6.pl k hk c (((h6 k).2.2.2.1 c).mp hc)) (fun hg => ?_) (fun k p a1 a2 a3 a4 a5 a6 I2 g1 g2 => absurd ⟨k, p, a1, a2, a3, a4, by rw [← (h6 k).2.2.1]; exact a5, fun c hc => a6 c (((h6 k).2.2.2.1 c).mpr hc)⟩ hf))
    refine go_icmp_eq 610 d_La_law_194 rfl (fun _ => ?_) (fun hn => absurd (rfl) hn)
    exact next R I L S U ⟨h1, h2, h3, h4, h5, h6, ⟨st, wd, mr, rt, inp, h7, h8⟩, h9, h10⟩
  have hR : ∀ q, q < 2 ∨ 330 ≤ q → R1 q = R q := fun q hq => br q (by omega)
  have h3' : pt_Mo sh R1 := h3.kept (hR 533 (by omega))
  refine go_aload_n 2 d_La_law_180 rfl rfl ?_
  refine go_aload_n 0 d_La_law_181 rfl rfl ?_
  refine go_iload_n 3 d_La_law_182 rfl rfl ?_
  refine go_iconst (v := 1) d_La_law_183 rfl ?_
  refine go_iadd d_La_law_184 ?_
  refine go_sld (j + 1) d_La_law_185 (by rw [hz]; exact nI_add j 1) (by omega) (by assumption) ?_
  refine go_aload_n 0 d_La_law_186 rfl rfl ?_
  refine go_iload_n 3 d_La_law_187 rfl rfl ?_
  refine go_iconst (v := 2) d_La_law_188 rfl ?_
  refine go_iadd d_La_law_189 ?_
  refine go_sld (j + 2) d_La_law_190 (by rw [hz]; exact nI_add j 2) (by omega) (by assumption) ?_
  refine go_V2 d_La_law_191 k_La_27 (by assumption) (Nat.le_of_ble_eq_true rfl) (c_Mo_cut (d := d + 37) h3' (h5.kept (fun q a b => b2 q (by omega))) (fun k hk c hc => h6.pl k hk c (((h6 k).2.2.2.1 c).mp hc)) (fun hg => absurd ⟨k, p, a1, a2, a3, a4, by rw [(h6 k).2.2.1]; exact a5, fun c hc => a6 c (((h6 k).2.2.2.1 c).mp hc)⟩ hg) (fun k' p' a1' a2' a3' a4' a5' a6' I2 g1 g2 => ?_))
  refine go_icmp_eq 610 d_La_law_194 rfl (fun _ => ?_) (fun hn => absurd (rfl) hn)
  exact next R1 I2 L (cc_chg k (va_up S k ((S k).1, cs_ins a p (S k).2.1, (S k).2.2))) (cc_chg k (va_up U k ((U k).1, (U k).2.1 ++ [(p, cu_0)], (U k).2.2))) ⟨(h1.kept (fun q hq hm => br q (hm k a1))), (h2.kept (fun q hq => hR q (by omega))), h3', cc_at.kept b1 (fun q hq => g2 q (by omega)), (by have e1 := same_k a1 a1' a2 a2'; subst e1; have e2 := (nI_eq (by omega) (by omega)).mp (a4.symm.trans a4'); subst e2; exact g1), ((h6.up ((h6 k).cut c1 a3 a6 c2 c3)).chg k), ⟨st, wd, mr, rt, inp, h7.kept (by rw [g2 _ (by omega), b2 _ (by omega)]) (by rw [g2 _ (by omega), b2 _ (by omega)]), h8.kept (fun i _ => by rw [g2 _ (by omega), b2 _ (by omega)]) (by rw [g2 _ (by omega), b2 _ (by omega)])⟩, by rw [g2 _ (by omega), b2 _ (by omega)]; exact h9, by rw [g2 _ (by omega), b2 _ (by omega)]; exact h10⟩
theorem la_3 {S U : Nat → ab_Me} {z : Int32} {j : Nat} (hX : X.1 < 2 ^ 31) (hz : z = nI j) (hj : j + 6 ≤ X.1) (hi : la_iv sh R I S U) (next : ∀ (R' : Nat → Nat → Option Nat) (I' : Nat → Nat → Int32) (L' : Nat → Nat → Int64) (S' U' : Nat → ab_Me), la_iv sh R' I' S' U' → gw_Go (y_La nm) (d + 40) 0 0 610 [some (.ref 1048576), some (.ref 0), some (.ref 533), some (.int z)] [] (558, sh, X, R', I', L') Q) : gw_Go (y_La nm) (d + 40) 0 0 199 [some (.ref 1048576), some (.ref 0), some (.ref 533), some (.int z)] [] (558, sh, X, R, I, L) Q := by
  obtain ⟨h1, h2, h3, h4, h5, h6, ⟨st, wd, mr, rt, inp, h7, h8⟩, h9, h10⟩ := hi
  have s0 := h1.1.1
  have s533 := h3.1
  refine go_aload_n 1 d_La_law_199 rfl rfl ?_
  refine go_aload_n 0 d_La_law_200 rfl rfl ?_
  refine go_iload_n 3 d_La_law_201 rfl rfl ?_
  refine go_iconst (v := 1) d_La_law_202 rfl ?_
  refine go_iadd d_La_law_203 ?_
  refine go_sld (j + 1) d_La_law_204 (by rw [hz]; exact nI_add j 1) (by omega) (by assumption) ?_
  refine go_aload_n 0 d_La_law_205 rfl rfl ?_
  refine go_iload_n 3 d_La_law_206 rfl rfl ?_
  refine go_iconst (v := 2) d_La_law_207 rfl ?_
  refine go_iadd d_La_law_208 ?_
  refine go_sld (j + 2) d_La_law_209 (by rw [hz]; exact nI_add j 2) (by omega) (by assumption) ?_
  refine go_aload_n 0 d_La_law_210 rfl rfl ?_
  refine go_iload_n 3 d_La_law_211 rfl rfl ?_
  refine go_iconst (v := 3) d_La_law_212 rfl ?_
  refine go_iadd d_La_law_213 ?_
  refine go_sld (j + 3) d_La_law_214 (by rw [hz]; exact nI_add j 3) (by omega) (by assumption) ?_
  refine go_aload_n 0 d_La_law_215 rfl rfl ?_
  refine go_iload_n 3 d_La_law_216 rfl rfl ?_
  refine go_iconst (v := 4) d_La_law_217 rfl ?_
  refine go_iadd d_La_law_218 ?_
  refine go_sld (j + 4) d_La_law_219 (by rw [hz]; exact nI_add j 4) (by omega) (by assumption) ?_
  refine go_aload_n 0 d_La_law_220 rfl rfl ?_
  refine go_iload_n 3 d_La_law_221 rfl rfl ?_
  refine go_iconst (v := 5) d_La_law_222 rfl ?_
  refine go_iadd d_La_law_223 ?_
  refine go_sld (j + 5) d_La_law_224 (by rw [hz]; exact nI_add j 5) (by omega) (by assumption) ?_
  refine go_V5 d_La_law_225 k_La_28 (by assumption) (Nat.le_of_ble_eq_true rfl) (c_CC_claim (d := d + 37) h1.1 h4 h6.pl (fun hf => ?hf) h6.un (fun k i e a' b' a1 a2 a3 a4 a5 a6 a7 a8 a9 a10 a11 I1 b1 b2 => ?_))
  case hf =>
    refine go_aload_n 2 d_La_law_228 rfl rfl ?_
    refine go_aload_n 0 d_La_law_229 rfl rfl ?_
    refine go_iload_n 3 d_La_law_230 rfl rfl ?_
    refine go_iconst (v := 1) d_La_law_231 rfl ?_
    refine go_iadd d_La_law_232 ?_
    refine go_sld (j + 1) d_La_law_233 (by rw [hz]; exact nI_add j 1) (by omega) (by assumption) ?_
    refine go_aload_n 0 d_La_law_234 rfl rfl ?_
    refine go_iload_n 3 d_La_law_235 rfl rfl ?_
    refine go_iconst (v := 2) d_La_law_236 rfl ?_
    refine go_iadd d_La_law_237 ?_
    refine go_sld (j + 2) d_La_law_238 (by rw [hz]; exact nI_add j 2) (by omega) (by assumption) ?_
    refine go_aload_n 0 d_La_law_239 rfl rfl ?_
    refine go_iload_n 3 d_La_law_240 rfl rfl ?_
    refine go_iconst (v := 3) d_La_law_241 rfl ?_
    refine go_iadd d_La_law_242 ?_
    refine go_sld (j + 3) d_La_law_243 (by rw [hz]; exact nI_add j 3) (by omega) (by assumption) ?_
    refine go_aload_n 0 d_La_law_244 rfl rfl ?_
    refine go_iload_n 3 d_La_law_245 rfl rfl ?_
    refine go_iconst (v := 4) d_La_law_246 rfl ?_
    refine go_iadd d_La_law_247 ?_
    refine go_sld (j + 4) d_La_law_248 (by rw [hz]; exact nI_add j 4) (by omega) (by assumption) ?_
    refine go_aload_n 0 d_La_law_249 rfl rfl ?_
    refine go_iload_n 3 d_La_law_250 rfl rfl ?_
    refine go_iconst (v := 5) d_La_law_251 rfl ?_
    refine go_iadd d_La_law_252 ?_
    refine go_sld (j + 5) d_La_law_253 (by rw [hz]; exact nI_add j 5) (by omega) (by assumption) ?_
    refine go_V5 d_La_law_254 k_La_32 (by assumption) (Nat.le_of_ble_eq_true rfl) (c_Mo_claim (d := d + 37) h3 h5 (fun hg => ?_) (fun k hk => (h6.uok k hk).2.1) (fun k i e a' b' a1 a2 a3 a4 a5 a6 a7 a8 a9 a10 a11 I2 g1 g2 => absurd ⟨k, e, a1, a2, ((h6 k).2.2.2.1 e).mp (List.mem_of_getElem? a3), a4, ⟨a6 ▸ in5 a5, a8 ▸ in5 a7, fun hh => a9 ((nI_eq (by omega) (by omega)).mp (a6.symm.trans (hh.trans a8)))⟩, a10, a11⟩ hf))
    refine go_icmp_eq 610 d_La_law_257 rfl (fun _ => ?_) (fun hn => absurd (rfl) hn)
    exact next R I L S U ⟨h1, h2, h3, h4, h5, h6, ⟨st, wd, mr, rt, inp, h7, h8⟩, h9, h10⟩
  refine go_aload_n 2 d_La_law_228 rfl rfl ?_
  refine go_aload_n 0 d_La_law_229 rfl rfl ?_
  refine go_iload_n 3 d_La_law_230 rfl rfl ?_
  refine go_iconst (v := 1) d_La_law_231 rfl ?_
  refine go_iadd d_La_law_232 ?_
  refine go_sld (j + 1) d_La_law_233 (by rw [hz]; exact nI_add j 1) (by omega) (by assumption) ?_
  refine go_aload_n 0 d_La_law_234 rfl rfl ?_
  refine go_iload_n 3 d_La_law_235 rfl rfl ?_
  refine go_iconst (v := 2) d_La_law_236 rfl ?_
  refine go_iadd d_La_law_237 ?_
  refine go_sld (j + 2) d_La_law_238 (by rw [hz]; exact nI_add j 2) (by omega) (by assumption) ?_
  refine go_aload_n 0 d_La_law_239 rfl rfl ?_
  refine go_iload_n 3 d_La_law_240 rfl rfl ?_
  refine go_iconst (v := 3) d_La_law_241 rfl ?_
  refine go_iadd d_La_law_242 ?_
  refine go_sld (j + 3) d_La_law_243 (by rw [hz]; exact nI_add j 3) (by omega) (by assumption) ?_
  refine go_aload_n 0 d_La_law_244 rfl rfl ?_
  refine go_iload_n 3 d_La_law_245 rfl rfl ?_
  refine go_iconst (v := 4) d_La_law_246 rfl ?_
  refine go_iadd d_La_law_247 ?_
  refine go_sld (j + 4) d_La_law_248 (by rw [hz]; exact nI_add j 4) (by omega) (by assumption) ?_
  refine go_aload_n 0 d_La_law_249 rfl rfl ?_
  refine go_iload_n 3 d_La_law_250 rfl rfl ?_
  refine go_iconst (v := 5) d_La_law_251 rfl ?_
  refine go_iadd d_La_law_252 ?_
  refine go_sld (j + 5) d_La_law_253 (by rw [hz]; exact nI_add j 5) (by omega) (by assumption) ?_
  refine go_V5 d_La_law_254 k_La_32 (by assumption) (Nat.le_of_ble_eq_true rfl) (c_Mo_claim (d := d + 37) h3 (h5.kept (fun q a b => b2 q (by omega))) (fun hg => absurd ⟨k, e, a1, a2, ((h6 k).2.2.2.1 e).mpr (List.mem_of_getElem? a3), a4, ⟨a6 ▸ in5 a5, a8 ▸ in5 a7, fun hh => a9 ((nI_eq (by omega) (by omega)).mp (a6.symm.trans (hh.trans a8)))⟩, a10, a11⟩ hg) (fun k hk => (h6.uok k hk).2.1) (fun k' i' e' a'' b'' a1' a2' a3' a4' a5' a6' a7' a8' a9' a10' a11' I2 g1 g2 => ?_))
  refine go_icmp_eq 610 d_La_law_257 rfl (fun _ => ?_) (fun hn => absurd (rfl) hn)
  exact (by have e1 := same_k a1 a1' a2 a2'; subst e1; have e2 := h6.same a3 a3' (a4.trans a4'.symm); subst e2; have e3 := (nI_eq (by omega) (by omega)).mp (a6.symm.trans a6'); subst e3; have e4 := (nI_eq (by omega) (by omega)).mp (a8.symm.trans a8'); subst e4; exact next R I2 L (_) (_) ⟨h1, h2, h3, cc_at.kept b1 (fun q hq => g2 q (by omega)), g1, ((h6.up ((h6 k).set (C := (e'.2.1 ++ [(a', b', X.2 (j + 5))], e'.2.2)) a3 a3' (h6.t0 a1 a3) (h6.t1 a1 a3))).chg k), ⟨st, wd, mr, rt, inp, h7.kept (by rw [g2 _ (by omega), b2 _ (by omega)]) (by rw [g2 _ (by omega), b2 _ (by omega)]), h8.kept (fun i _ => by rw [g2 _ (by omega), b2 _ (by omega)]) (by rw [g2 _ (by omega), b2 _ (by omega)])⟩, by rw [g2 _ (by omega), b2 _ (by omega)]; exact h9, by rw [g2 _ (by omega), b2 _ (by omega)]; exact h10⟩)
theorem la_4 {S U : Nat → ab_Me} {z : Int32} {j : Nat} (hX : X.1 < 2 ^ 31) (hz : z = nI j) (hj : j + 6 ≤ X.1) (hi : la_iv sh R I S U) (next : ∀ (R' : Nat → Nat → Option Nat) (I' : Nat → Nat → Int32) (L' : Nat → Nat → Int64) (S' U' : Nat → ab_Me), la_iv sh R' I' S' U' → gw_Go (y_La nm) (d + 40) 0 0 610 [some (.ref 1048576), some (.ref 0), some (.ref 533), some (.int z)] [] (558, sh, X, R', I', L') Q) : gw_Go (y_La nm) (d + 40) 0 0 262 [some (.ref 1048576), some (.ref 0), some (.ref 533), some (.int z)] [] (558, sh, X, R, I, L) Q := by
  obtain ⟨h1, h2, h3, h4, h5, h6, ⟨st, wd, mr, rt, inp, h7, h8⟩, h9, h10⟩ := hi
  have s0 := h1.1.1
  have s533 := h3.1
  refine go_aload_n 1 d_La_law_262 rfl rfl ?_
  refine go_aload_n 0 d_La_law_263 rfl rfl ?_
  refine go_iload_n 3 d_La_law_264 rfl rfl ?_
  refine go_iconst (v := 1) d_La_law_265 rfl ?_
  refine go_iadd d_La_law_266 ?_
  refine go_sld (j + 1) d_La_law_267 (by rw [hz]; exact nI_add j 1) (by omega) (by assumption) ?_
  refine go_aload_n 0 d_La_law_268 rfl rfl ?_
  refine go_iload_n 3 d_La_law_269 rfl rfl ?_
  refine go_iconst (v := 2) d_La_law_270 rfl ?_
  refine go_iadd d_La_law_271 ?_
  refine go_sld (j + 2) d_La_law_272 (by rw [hz]; exact nI_add j 2) (by omega) (by assumption) ?_
  refine go_aload_n 0 d_La_law_273 rfl rfl ?_
  refine go_iload_n 3 d_La_law_274 rfl rfl ?_
  refine go_iconst (v := 3) d_La_law_275 rfl ?_
  refine go_iadd d_La_law_276 ?_
  refine go_sld (j + 3) d_La_law_277 (by rw [hz]; exact nI_add j 3) (by omega) (by assumption) ?_
  refine go_aload_n 0 d_La_law_278 rfl rfl ?_
  refine go_iload_n 3 d_La_law_279 rfl rfl ?_
  refine go_iconst (v := 4) d_La_law_280 rfl ?_
  refine go_iadd d_La_law_281 ?_
  refine go_sld (j + 4) d_La_law_282 (by rw [hz]; exact nI_add j 4) (by omega) (by assumption) ?_
  refine go_V4 d_La_law_283 k_La_33 (by assumption) (Nat.le_of_ble_eq_true rfl) (c_CC_base (d := d + 36) h1.1 h4 (fun hf => ?hf) (fun k i e v a1 a2 a3 a4 a5 a6 a7 I1 b1 b2 => ?_))
  case hf =>
    refine go_aload_n 2 d_La_law_286 rfl rfl ?_
    refine go_aload_n 0 d_La_law_287 rfl rfl ?_
    refine go_iload_n 3 d_La_law_288 rfl rfl ?_
    refine go_iconst (v := 1) d_La_law_289 rfl ?_
    refine go_iadd d_La_law_290 ?_
    refine go_sld (j + 1) d_La_law_291 (by rw [hz]; exact nI_add j 1) (by omega) (by assumption) ?_
    refine go_aload_n 0 d_La_law_292 rfl rfl ?_
    refine go_iload_n 3 d_La_law_293 rfl rfl ?_
    refine go_iconst (v := 2) d_La_law_294 rfl ?_
    refine go_iadd d_La_law_295 ?_
    refine go_sld (j + 2) d_La_law_296 (by rw [hz]; exact nI_add j 2) (by omega) (by assumption) ?_
    refine go_aload_n 0 d_La_law_297 rfl rfl ?_
    refine go_iload_n 3 d_La_law_298 rfl rfl ?_
    refine go_iconst (v := 3) d_La_law_299 rfl ?_
    refine go_iadd d_La_law_300 ?_
    refine go_sld (j + 3) d_La_law_301 (by rw [hz]; exact nI_add j 3) (by omega) (by assumption) ?_
    refine go_aload_n 0 d_La_law_302 rfl rfl ?_
    refine go_iload_n 3 d_La_law_303 rfl rfl ?_
    refine go_iconst (v := 4) d_La_law_304 rfl ?_
    refine go_iadd d_La_law_305 ?_
    refine go_sld (j + 4) d_La_law_306 (by rw [hz]; exact nI_add j 4) (by omega) (by assumption) ?_
    refine go_V4 d_La_law_307 k_La_37 (by assumption) (Nat.le_of_ble_eq_true rfl) (c_Mo_base (d := d + 37) h3 h5 (fun hg => ?_) (fun k i e v a1 a2 a3 a4 a5 a6 a7 I2 g1 g2 => absurd ⟨k, e, a1, a2, ((h6 k).2.2.2.1 e).mp (List.mem_of_getElem? a3), a4, a6 ▸ in2 a5, a7⟩ hf))
    refine go_icmp_eq 610 d_La_law_310 rfl (fun _ => ?_) (fun hn => absurd (rfl) hn)
    exact next R I L S U ⟨h1, h2, h3, h4, h5, h6, ⟨st, wd, mr, rt, inp, h7, h8⟩, h9, h10⟩
  refine go_aload_n 2 d_La_law_286 rfl rfl ?_
  refine go_aload_n 0 d_La_law_287 rfl rfl ?_
  refine go_iload_n 3 d_La_law_288 rfl rfl ?_
  refine go_iconst (v := 1) d_La_law_289 rfl ?_
  refine go_iadd d_La_law_290 ?_
  refine go_sld (j + 1) d_La_law_291 (by rw [hz]; exact nI_add j 1) (by omega) (by assumption) ?_
  refine go_aload_n 0 d_La_law_292 rfl rfl ?_
  refine go_iload_n 3 d_La_law_293 rfl rfl ?_
  refine go_iconst (v := 2) d_La_law_294 rfl ?_
  refine go_iadd d_La_law_295 ?_
  refine go_sld (j + 2) d_La_law_296 (by rw [hz]; exact nI_add j 2) (by omega) (by assumption) ?_
  refine go_aload_n 0 d_La_law_297 rfl rfl ?_
  refine go_iload_n 3 d_La_law_298 rfl rfl ?_
  refine go_iconst (v := 3) d_La_law_299 rfl ?_
  refine go_iadd d_La_law_300 ?_
  refine go_sld (j + 3) d_La_law_301 (by rw [hz]; exact nI_add j 3) (by omega) (by assumption) ?_
  refine go_aload_n 0 d_La_law_302 rfl rfl ?_
  refine go_iload_n 3 d_La_law_303 rfl rfl ?_
  refine go_iconst (v := 4) d_La_law_304 rfl ?_
  refine go_iadd d_La_law_305 ?_
  refine go_sld (j + 4) d_La_law_306 (by rw [hz]; exact nI_add j 4) (by omega) (by assumption) ?_
  refine go_V4 d_La_law_307 k_La_37 (by assumption) (Nat.le_of_ble_eq_true rfl) (c_Mo_base (d := d + 37) h3 (h5.kept (fun q a b => b2 q (by omega))) (fun hg => absurd ⟨k, e, a1, a2, ((h6 k).2.2.2.1 e).mpr (List.mem_of_getElem? a3), a4, a6 ▸ in2 a5, a7⟩ hg) (fun k' i' e' v' a1' a2' a3' a4' a5' a6' a7' I2 g1 g2 => ?_))
  refine go_icmp_eq 610 d_La_law_310 rfl (fun _ => ?_) (fun hn => absurd (rfl) hn)
  exact (by have e1 := same_k a1 a1' a2 a2'; subst e1; have e2 := h6.same a3 a3' (a4.trans a4'.symm); subst e2; have e3 := (nI_eq (by omega) (by omega)).mp (a6.symm.trans a6'); subst e3; exact next R I2 L (_) (_) ⟨h1, h2, h3, cc_at.kept b1 (fun q hq => g2 q (by omega)), g1, ((h6.up ((h6 k).set (C := cu_setp v (X.2 (j + 4), (cu_pot v e'.2).2) e'.2) a3 a3' (setp0 (h6.t0 a1 a3) (h6.t1 a1 a3) a5) (setp1 (h6.t0 a1 a3) (h6.t1 a1 a3) a5))).chg k), ⟨st, wd, mr, rt, inp, h7.kept (by rw [g2 _ (by omega), b2 _ (by omega)]) (by rw [g2 _ (by omega), b2 _ (by omega)]), h8.kept (fun i _ => by rw [g2 _ (by omega), b2 _ (by omega)]) (by rw [g2 _ (by omega), b2 _ (by omega)])⟩, by rw [g2 _ (by omega), b2 _ (by omega)]; exact h9, by rw [g2 _ (by omega), b2 _ (by omega)]; exact h10⟩)
theorem la_5 {S U : Nat → ab_Me} {z : Int32} {j : Nat} (hX : X.1 < 2 ^ 31) (hz : z = nI j) (hj : j + 6 ≤ X.1) (hi : la_iv sh R I S U) (next : ∀ (R' : Nat → Nat → Option Nat) (I' : Nat → Nat → Int32) (L' : Nat → Nat → Int64) (S' U' : Nat → ab_Me), la_iv sh R' I' S' U' → gw_Go (y_La nm) (d + 40) 0 0 610 [some (.ref 1048576), some (.ref 0), some (.ref 533), some (.int z)] [] (558, sh, X, R', I', L') Q) : gw_Go (y_La nm) (d + 40) 0 0 315 [some (.ref 1048576), some (.ref 0), some (.ref 533), some (.int z)] [] (558, sh, X, R, I, L) Q := by
  obtain ⟨h1, h2, h3, h4, h5, h6, ⟨st, wd, mr, rt, inp, h7, h8⟩, h9, h10⟩ := hi
  have s0 := h1.1.1
  have s533 := h3.1
  refine go_aload_n 1 d_La_law_315 rfl rfl ?_
  refine go_aload_n 0 d_La_law_316 rfl rfl ?_
  refine go_iload_n 3 d_La_law_317 rfl rfl ?_
  refine go_iconst (v := 1) d_La_law_318 rfl ?_
  refine go_iadd d_La_law_319 ?_
  refine go_sld (j + 1) d_La_law_320 (by rw [hz]; exact nI_add j 1) (by omega) (by assumption) ?_
  refine go_aload_n 0 d_La_law_321 rfl rfl ?_
  refine go_iload_n 3 d_La_law_322 rfl rfl ?_
  refine go_iconst (v := 2) d_La_law_323 rfl ?_
  refine go_iadd d_La_law_324 ?_
  refine go_sld (j + 2) d_La_law_325 (by rw [hz]; exact nI_add j 2) (by omega) (by assumption) ?_
  refine go_aload_n 0 d_La_law_326 rfl rfl ?_
  refine go_iload_n 3 d_La_law_327 rfl rfl ?_
  refine go_iconst (v := 3) d_La_law_328 rfl ?_
  refine go_iadd d_La_law_329 ?_
  refine go_sld (j + 3) d_La_law_330 (by rw [hz]; exact nI_add j 3) (by omega) (by assumption) ?_
  refine go_aload_n 0 d_La_law_331 rfl rfl ?_
  refine go_iload_n 3 d_La_law_332 rfl rfl ?_
  refine go_iconst (v := 4) d_La_law_333 rfl ?_
  refine go_iadd d_La_law_334 ?_
  refine go_sld (j + 4) d_La_law_335 (by rw [hz]; exact nI_add j 4) (by omega) (by assumption) ?_
  refine go_aload_n 0 d_La_law_336 rfl rfl ?_
  refine go_iload_n 3 d_La_law_337 rfl rfl ?_
  refine go_iconst (v := 5) d_La_law_338 rfl ?_
  refine go_iadd d_La_law_339 ?_
  refine go_sld (j + 5) d_La_law_340 (by rw [hz]; exact nI_add j 5) (by omega) (by assumption) ?_
  refine go_V5 d_La_law_341 k_La_38 (by assumption) (Nat.le_of_ble_eq_true rfl) (c_CC_term (d := d + 36) h1.1 h4 h6.pl h6.un (fun hf => ?hf) (fun k i e v g s a1 a2 a3 a4 a5 a6 a7 a8 a9 a10 a11 a12 a13 I1 b1 b2 => ?_))
  case hf =>
    refine go_aload_n 2 d_La_law_344 rfl rfl ?_
    refine go_aload_n 0 d_La_law_345 rfl rfl ?_
    refine go_iload_n 3 d_La_law_346 rfl rfl ?_
    refine go_iconst (v := 1) d_La_law_347 rfl ?_
    refine go_iadd d_La_law_348 ?_
    refine go_sld (j + 1) d_La_law_349 (by rw [hz]; exact nI_add j 1) (by omega) (by assumption) ?_
    refine go_aload_n 0 d_La_law_350 rfl rfl ?_
    refine go_iload_n 3 d_La_law_351 rfl rfl ?_
    refine go_iconst (v := 2) d_La_law_352 rfl ?_
    refine go_iadd d_La_law_353 ?_
    refine go_sld (j + 2) d_La_law_354 (by rw [hz]; exact nI_add j 2) (by omega) (by assumption) ?_
    refine go_aload_n 0 d_La_law_355 rfl rfl ?_
    refine go_iload_n 3 d_La_law_356 rfl rfl ?_
    refine go_iconst (v := 3) d_La_law_357 rfl ?_
    refine go_iadd d_La_law_358 ?_
    refine go_sld (j + 3) d_La_law_359 (by rw [hz]; exact nI_add j 3) (by omega) (by assumption) ?_
    refine go_aload_n 0 d_La_law_360 rfl rfl ?_
    refine go_iload_n 3 d_La_law_361 rfl rfl ?_
    refine go_iconst (v := 4) d_La_law_362 rfl ?_
    refine go_iadd d_La_law_363 ?_
    refine go_sld (j + 4) d_La_law_364 (by rw [hz]; exact nI_add j 4) (by omega) (by assumption) ?_
    refine go_aload_n 0 d_La_law_365 rfl rfl ?_
    refine go_iload_n 3 d_La_law_366 rfl rfl ?_
    refine go_iconst (v := 5) d_La_law_367 rfl ?_
    refine go_iadd d_La_law_368 ?_
    refine go_sld (j + 5) d_La_law_369 (by rw [hz]; exact nI_add j 5) (by omega) (by assumption) ?_
    refine go_V5 d_La_law_370 k_La_41 (by assumption) (Nat.le_of_ble_eq_true rfl) (c_Mo_term (d := d + 37) h3 h5 (fun k hk => (h6.uok k hk).2.1) (fun hg => ?_) (fun k i e v g s a1 a2 a3 a4 a5 a6 a7 a8 a9 a10 a11 a12 a13 I2 g1 g2 => absurd ⟨k, e, v, s, a1, a2, ((h6 k).2.2.2.1 e).mp (List.mem_of_getElem? a3), a4, a5, a6, a9 ▸ in100 a7 a8, a10, a11, a12, a13⟩ hf))
    refine go_icmp_eq 610 d_La_law_373 rfl (fun _ => ?_) (fun hn => absurd (rfl) hn)
    exact next R I L S U ⟨h1, h2, h3, h4, h5, h6, ⟨st, wd, mr, rt, inp, h7, h8⟩, h9, h10⟩
  refine go_aload_n 2 d_La_law_344 rfl rfl ?_
  refine go_aload_n 0 d_La_law_345 rfl rfl ?_
  refine go_iload_n 3 d_La_law_346 rfl rfl ?_
  refine go_iconst (v := 1) d_La_law_347 rfl ?_
  refine go_iadd d_La_law_348 ?_
  refine go_sld (j + 1) d_La_law_349 (by rw [hz]; exact nI_add j 1) (by omega) (by assumption) ?_
  refine go_aload_n 0 d_La_law_350 rfl rfl ?_
  refine go_iload_n 3 d_La_law_351 rfl rfl ?_
  refine go_iconst (v := 2) d_La_law_352 rfl ?_
  refine go_iadd d_La_law_353 ?_
  refine go_sld (j + 2) d_La_law_354 (by rw [hz]; exact nI_add j 2) (by omega) (by assumption) ?_
  refine go_aload_n 0 d_La_law_355 rfl rfl ?_
  refine go_iload_n 3 d_La_law_356 rfl rfl ?_
  refine go_iconst (v := 3) d_La_law_357 rfl ?_
  refine go_iadd d_La_law_358 ?_
  refine go_sld (j + 3) d_La_law_359 (by rw [hz]; exact nI_add j 3) (by omega) (by assumption) ?_
  refine go_aload_n 0 d_La_law_360 rfl rfl ?_
  refine go_iload_n 3 d_La_law_361 rfl rfl ?_
  refine go_iconst (v := 4) d_La_law_362 rfl ?_
  refine go_iadd d_La_law_363 ?_
  refine go_sld (j + 4) d_La_law_364 (by rw [hz]; exact nI_add j 4) (by omega) (by assumption) ?_
  refine go_aload_n 0 d_La_law_365 rfl rfl ?_
  refine go_iload_n 3 d_La_law_366 rfl rfl ?_
  refine go_iconst (v := 5) d_La_law_367 rfl ?_
  refine go_iadd d_La_law_368 ?_
  refine go_sld (j + 5) d_La_law_369 (by rw [hz]; exact nI_add j 5) (by omega) (by assumption) ?_
  refine go_V5 d_La_law_370 k_La_41 (by assumption) (Nat.le_of_ble_eq_true rfl) (c_Mo_term (d := d + 37) h3 (h5.kept (fun q a b => b2 q (by omega))) (fun k hk => (h6.uok k hk).2.1) (fun hg => absurd ⟨k, e, v, s, a1, a2, ((h6 k).2.2.2.1 e).mpr (List.mem_of_getElem? a3), a4, a5, a6, a9 ▸ in100 a7 a8, a10, a11, a12, a13⟩ hg) (fun k' i' e' v' g' s' a1' a2' a3' a4' a5' a6' a7' a8' a9' a10' a11' a12' a13' I2 g1 g2 => ?_))
  refine go_icmp_eq 610 d_La_law_373 rfl (fun _ => ?_) (fun hn => absurd (rfl) hn)
  exact (by have e1 := same_k a1 a1' a2 a2'; subst e1; have e2 := h6.same a3 a3' (a4.trans a4'.symm); subst e2; have e3 := (nI_eq (by omega) (by omega)).mp (a6.symm.trans a6'); subst e3; have e4 := (nI_eq (by omega) (by omega)).mp (a9.symm.trans a9'); subst e4; have e5 := (nI_eq (by omega) (by omega)).mp (a11.symm.trans a11'); subst e5; exact next R I2 L (_) (_) ⟨h1, h2, h3, cc_at.kept b1 (fun q hq => g2 q (by omega)), g1, ((h6.up ((h6 k).set (C := cu_setp v ((cu_pot v e'.2).1, (cu_pot v e'.2).2 ++ [(g, s / 5, s % 5)]) e'.2) a3 a3' (setq0 (h6.t0 a1 a3) (h6.t1 a1 a3) a5 a8) (setq1 (h6.t0 a1 a3) (h6.t1 a1 a3) a5 a8))).chg k), ⟨st, wd, mr, rt, inp, h7.kept (by rw [g2 _ (by omega), b2 _ (by omega)]) (by rw [g2 _ (by omega), b2 _ (by omega)]), h8.kept (fun i _ => by rw [g2 _ (by omega), b2 _ (by omega)]) (by rw [g2 _ (by omega), b2 _ (by omega)])⟩, by rw [g2 _ (by omega), b2 _ (by omega)]; exact h9, by rw [g2 _ (by omega), b2 _ (by omega)]; exact h10⟩)
theorem la_6 {S U : Nat → ab_Me} {z : Int32} {j : Nat} (hX : X.1 < 2 ^ 31) (hz : z = nI j) (hj : j + 6 ≤ X.1) (hi : la_iv sh R I S U) (next : ∀ (R' : Nat → Nat → Option Nat) (I' : Nat → Nat → Int32) (L' : Nat → Nat → Int64) (S' U' : Nat → ab_Me), la_iv sh R' I' S' U' → gw_Go (y_La nm) (d + 40) 0 0 610 [some (.ref 1048576), some (.ref 0), some (.ref 533), some (.int z)] [] (558, sh, X, R', I', L') Q) : gw_Go (y_La nm) (d + 40) 0 0 378 [some (.ref 1048576), some (.ref 0), some (.ref 533), some (.int z)] [] (558, sh, X, R, I, L) Q := by
  obtain ⟨h1, h2, h3, h4, h5, h6, ⟨st, wd, mr, rt, inp, h7, h8⟩, h9, h10⟩ := hi
  have s0 := h1.1.1
  have s533 := h3.1
  refine go_aload_n 1 d_La_law_378 rfl rfl ?_
  refine go_aload_n 0 d_La_law_379 rfl rfl ?_
  refine go_iload_n 3 d_La_law_380 rfl rfl ?_
  refine go_iconst (v := 1) d_La_law_381 rfl ?_
  refine go_iadd d_La_law_382 ?_
  refine go_sld (j + 1) d_La_law_383 (by rw [hz]; exact nI_add j 1) (by omega) (by assumption) ?_
  refine go_V1 d_La_law_384 k_La_42 (by assumption) (Nat.le_of_ble_eq_true rfl) (c_CC_check (d := d + 7) h1 h2 h6.sok h4 (fun hf => ?hf) (fun k a1 a2 R1 I1 L1 b1 br bp b2 bl => ?_))
  case hf =>
    refine go_aload_n 2 d_La_law_387 rfl rfl ?_
    refine go_aload_n 0 d_La_law_388 rfl rfl ?_
    refine go_iload_n 3 d_La_law_389 rfl rfl ?_
    refine go_iconst (v := 1) d_La_law_390 rfl ?_
    refine go_iadd d_La_law_391 ?_
    refine go_sld (j + 1) d_La_law_392 (by rw [hz]; exact nI_add j 1) (by omega) (by assumption) ?_
    refine go_V1 d_La_law_393 k_La_46 (by assumption) (Nat.le_of_ble_eq_true rfl) (c_Mo_check (d := d + 33) h3 h6.uok h5 (fun hg => ?_) (fun k a1 a2 I2 L2 g1 g2 g3 g4 => absurd ⟨k, a1, a2⟩ hf))
    refine go_icmp_eq 610 d_La_law_396 rfl (fun _ => ?_) (fun hn => absurd (rfl) hn)
    exact next R I L S U ⟨h1, h2, h3, h4, h5, h6, ⟨st, wd, mr, rt, inp, h7, h8⟩, h9, h10⟩
  have h3' : pt_Mo sh R1 := h3.kept (br 533 (by decide))
  refine go_aload_n 2 d_La_law_387 rfl rfl ?_
  refine go_aload_n 0 d_La_law_388 rfl rfl ?_
  refine go_iload_n 3 d_La_law_389 rfl rfl ?_
  refine go_iconst (v := 1) d_La_law_390 rfl ?_
  refine go_iadd d_La_law_391 ?_
  refine go_sld (j + 1) d_La_law_392 (by rw [hz]; exact nI_add j 1) (by omega) (by assumption) ?_
  refine go_V1 d_La_law_393 k_La_46 (by assumption) (Nat.le_of_ble_eq_true rfl) (c_Mo_check (d := d + 33) h3' h6.uok (h5.kept (fun q a b => b2 q (by omega))) (fun hg => absurd ⟨k, a1, a2⟩ hg) (fun k' a1' a2' I2 L2 g1 g2 g3 g4 => ?_))
  refine go_icmp_eq 610 d_La_law_396 rfl (fun _ => ?_) (fun hn => absurd (by rw [same_k a1 a1' a2 a2', h6.ans]) hn)
  exact (by have e1 := same_k a1 a1' a2 a2'; subst e1; rw [h6.ans] at g1; exact next R1 I2 L2 _ _ ⟨h1.kept (fun q hq hm => br q (by omega)), bp, h3', cc_at.kept b1 (fun q hq => g3 q (by omega) (by omega)), g1, h6.up ((h6 k).flag _), ⟨st, wd, mr, rt, inp, h7.kept (by rw [g3 _ (by decide) (by decide), b2 _ (by omega)]) (by rw [g3 _ (by decide) (by decide), b2 _ (by omega)]), h8.kept (fun i hi => by rw [g2 i (by omega) (by omega), b2 _ (by omega)]) (by rw [g3 _ (by decide) (by decide), b2 _ (by omega)])⟩, by rw [g3 _ (by decide) (by decide), b2 _ (by omega)]; exact h9, by rw [g3 _ (by decide) (by decide), b2 _ (by omega)]; exact h10⟩)
theorem la_7 {S U : Nat → ab_Me} {z : Int32} {j : Nat} (hX : X.1 < 2 ^ 31) (hz : z = nI j) (hj : j + 6 ≤ X.1) (hi : la_iv sh R I S U) (next : ∀ (R' : Nat → Nat → Option Nat) (I' : Nat → Nat → Int32) (L' : Nat → Nat → Int64) (S' U' : Nat → ab_Me), la_iv sh R' I' S' U' → gw_Go (y_La nm) (d + 40) 0 0 610 [some (.ref 1048576), some (.ref 0), some (.ref 533), some (.int z)] [] (558, sh, X, R', I', L') Q) : gw_Go (y_La nm) (d + 40) 0 0 401 [some (.ref 1048576), some (.ref 0), some (.ref 533), some (.int z)] [] (558, sh, X, R, I, L) Q := by
  obtain ⟨h1, h2, h3, h4, h5, h6, ⟨st, wd, mr, rt, inp, h7, h8⟩, h9, h10⟩ := hi
  have s0 := h1.1.1
  have s533 := h3.1
  refine go_aload_n 1 d_La_law_401 rfl rfl ?_
  refine go_aload_n 0 d_La_law_402 rfl rfl ?_
  refine go_iload_n 3 d_La_law_403 rfl rfl ?_
  refine go_iconst (v := 1) d_La_law_404 rfl ?_
  refine go_iadd d_La_law_405 ?_
  refine go_sld (j + 1) d_La_law_406 (by rw [hz]; exact nI_add j 1) (by omega) (by assumption) ?_
  refine go_V1 d_La_law_407 k_La_47 (by assumption) (Nat.le_of_ble_eq_true rfl) (c_CC_accepted (d := d + 38) h1.1 h4 (fun b hb => ?_))
  refine go_aload_n 2 d_La_law_410 rfl rfl ?_
  refine go_aload_n 0 d_La_law_411 rfl rfl ?_
  refine go_iload_n 3 d_La_law_412 rfl rfl ?_
  refine go_iconst (v := 1) d_La_law_413 rfl ?_
  refine go_iadd d_La_law_414 ?_
  refine go_sld (j + 1) d_La_law_415 (by rw [hz]; exact nI_add j 1) (by omega) (by assumption) ?_
  refine go_V1 d_La_law_416 k_La_50 (by assumption) (Nat.le_of_ble_eq_true rfl) (c_Mo_accepted (d := d + 38) h3 h5 (fun b' hb' => ?_))
  refine go_icmp_eq 610 d_La_law_419 rfl (fun _ => ?_) (fun hn => absurd (by rw [bool_eq (hb.trans ⟨fun ⟨k, q1, q2, q3⟩ => ⟨k, q1, q2, by rw [(h6 k).2.1]; exact q3⟩, fun ⟨k, q1, q2, q3⟩ => ⟨k, q1, q2, by rw [← (h6 k).2.1]; exact q3⟩⟩) hb']) hn)
  exact next R I L S U ⟨h1, h2, h3, h4, h5, h6, ⟨st, wd, mr, rt, inp, h7, h8⟩, h9, h10⟩
theorem la_8 {S U : Nat → ab_Me} {z : Int32} {j : Nat} (hX : X.1 < 2 ^ 31) (hz : z = nI j) (hj : j + 6 ≤ X.1) (hi : la_iv sh R I S U) (next : ∀ (R' : Nat → Nat → Option Nat) (I' : Nat → Nat → Int32) (L' : Nat → Nat → Int64) (S' U' : Nat → ab_Me), la_iv sh R' I' S' U' → gw_Go (y_La nm) (d + 40) 0 0 610 [some (.ref 1048576), some (.ref 0), some (.ref 533), some (.int z)] [] (558, sh, X, R', I', L') Q) : gw_Go (y_La nm) (d + 40) 0 0 424 [some (.ref 1048576), some (.ref 0), some (.ref 533), some (.int z)] [] (558, sh, X, R, I, L) Q := by
  obtain ⟨h1, h2, h3, h4, h5, h6, ⟨st, wd, mr, rt, inp, h7, h8⟩, h9, h10⟩ := hi
  have s0 := h1.1.1
  have s533 := h3.1
  refine go_aload_n 1 d_La_law_424 rfl rfl ?_
  refine go_aload_n 0 d_La_law_425 rfl rfl ?_
  refine go_iload_n 3 d_La_law_426 rfl rfl ?_
  refine go_iconst (v := 1) d_La_law_427 rfl ?_
  refine go_iadd d_La_law_428 ?_
  refine go_sld (j + 1) d_La_law_429 (by rw [hz]; exact nI_add j 1) (by omega) (by assumption) ?_
  refine go_aload_n 0 d_La_law_430 rfl rfl ?_
  refine go_iload_n 3 d_La_law_431 rfl rfl ?_
  refine go_iconst (v := 2) d_La_law_432 rfl ?_
  refine go_iadd d_La_law_433 ?_
  refine go_sld (j + 2) d_La_law_434 (by rw [hz]; exact nI_add j 2) (by omega) (by assumption) ?_
  refine go_aload_n 0 d_La_law_435 rfl rfl ?_
  refine go_iload_n 3 d_La_law_436 rfl rfl ?_
  refine go_iconst (v := 3) d_La_law_437 rfl ?_
  refine go_iadd d_La_law_438 ?_
  refine go_sld (j + 3) d_La_law_439 (by rw [hz]; exact nI_add j 3) (by omega) (by assumption) ?_
  refine go_aload_n 0 d_La_law_440 rfl rfl ?_
  refine go_iload_n 3 d_La_law_441 rfl rfl ?_
  refine go_iconst (v := 4) d_La_law_442 rfl ?_
  refine go_iadd d_La_law_443 ?_
  refine go_sld (j + 4) d_La_law_444 (by rw [hz]; exact nI_add j 4) (by omega) (by assumption) ?_
  refine go_aload_n 0 d_La_law_445 rfl rfl ?_
  refine go_iload_n 3 d_La_law_446 rfl rfl ?_
  refine go_iconst (v := 5) d_La_law_447 rfl ?_
  refine go_iadd d_La_law_448 ?_
  refine go_sld (j + 5) d_La_law_449 (by rw [hz]; exact nI_add j 5) (by omega) (by assumption) ?_
  refine go_V5 d_La_law_450 k_La_51 (by assumption) (Nat.le_of_ble_eq_true rfl) (c_CC_bound (d := d + 36) h1 h4 (fun k _ => (h6 k).2.2.2.2.2.1) h9 h10 (fun I1 f1 f2 f3 f4 => ?hf) (fun I1 f1 f2 f3 k v A a1 a2 a3 a4 a5 a6 a7 a8 => ?_))
  case hf =>
    refine go_aload_n 2 d_La_law_453 rfl rfl ?_
    refine go_aload_n 0 d_La_law_454 rfl rfl ?_
    refine go_iload_n 3 d_La_law_455 rfl rfl ?_
    refine go_iconst (v := 1) d_La_law_456 rfl ?_
    refine go_iadd d_La_law_457 ?_
    refine go_sld (j + 1) d_La_law_458 (by rw [hz]; exact nI_add j 1) (by omega) (by assumption) ?_
    refine go_aload_n 0 d_La_law_459 rfl rfl ?_
    refine go_iload_n 3 d_La_law_460 rfl rfl ?_
    refine go_iconst (v := 2) d_La_law_461 rfl ?_
    refine go_iadd d_La_law_462 ?_
    refine go_sld (j + 2) d_La_law_463 (by rw [hz]; exact nI_add j 2) (by omega) (by assumption) ?_
    refine go_aload_n 0 d_La_law_464 rfl rfl ?_
    refine go_iload_n 3 d_La_law_465 rfl rfl ?_
    refine go_iconst (v := 3) d_La_law_466 rfl ?_
    refine go_iadd d_La_law_467 ?_
    refine go_sld (j + 3) d_La_law_468 (by rw [hz]; exact nI_add j 3) (by omega) (by assumption) ?_
    refine go_aload_n 0 d_La_law_469 rfl rfl ?_
    refine go_iload_n 3 d_La_law_470 rfl rfl ?_
    refine go_iconst (v := 4) d_La_law_471 rfl ?_
    refine go_iadd d_La_law_472 ?_
    refine go_sld (j + 4) d_La_law_473 (by rw [hz]; exact nI_add j 4) (by omega) (by assumption) ?_
    refine go_aload_n 0 d_La_law_474 rfl rfl ?_
    refine go_iload_n 3 d_La_law_475 rfl rfl ?_
    refine go_iconst (v := 5) d_La_law_476 rfl ?_
    refine go_iadd d_La_law_477 ?_
    refine go_sld (j + 5) d_La_law_478 (by rw [hz]; exact nI_add j 5) (by omega) (by assumption) ?_
    refine go_V5 d_La_law_479 k_La_55 (by assumption) (Nat.le_of_ble_eq_true rfl) (c_Mo_bound (d := d + 37) h3 (h5.kept (fun q a b => f1 q (by omega))) (fun k hk => by obtain ⟨C, hC⟩ := (h6 k).2.2.2.2.2.2.1; exact ⟨C, List.mem_of_getElem? hC⟩) (fun k hk => (h6.uok k hk).2.1) (fun hg => ?_) (fun k v A a1 a2 a3 a4 a5 a6 a7 a8 => absurd ⟨k, v, A, a1, a2, a3, a4, by rw [← (h6 k).2.1]; exact a5, a6, h6.zero a7, a8⟩ f4))
    refine go_lcmp_eq 610 d_La_law_482 d_La_law_483 rfl (fun _ => ?_) (fun hn => by first | exact absurd hn (rfl) | exact absurd (rfl) hn)
    exact next R I1 L S U ⟨h1, h2, h3, h4.kept (fun q hq => f1 q (by omega)), h5.kept (fun q a b => f1 q (by omega)), h6, ⟨st, wd, mr, rt, inp, h7.kept (f1 _ (by decide)) (f1 _ (by decide)), h8.kept (fun i _ => by rw [f1 _ (by decide)]) (f1 _ (by decide))⟩, f2, f3⟩
  refine go_aload_n 2 d_La_law_453 rfl rfl ?_
  refine go_aload_n 0 d_La_law_454 rfl rfl ?_
  refine go_iload_n 3 d_La_law_455 rfl rfl ?_
  refine go_iconst (v := 1) d_La_law_456 rfl ?_
  refine go_iadd d_La_law_457 ?_
  refine go_sld (j + 1) d_La_law_458 (by rw [hz]; exact nI_add j 1) (by omega) (by assumption) ?_
  refine go_aload_n 0 d_La_law_459 rfl rfl ?_
  refine go_iload_n 3 d_La_law_460 rfl rfl ?_
  refine go_iconst (v := 2) d_La_law_461 rfl ?_
  refine go_iadd d_La_law_462 ?_
  refine go_sld (j + 2) d_La_law_463 (by rw [hz]; exact nI_add j 2) (by omega) (by assumption) ?_
  refine go_aload_n 0 d_La_law_464 rfl rfl ?_
  refine go_iload_n 3 d_La_law_465 rfl rfl ?_
  refine go_iconst (v := 3) d_La_law_466 rfl ?_
  refine go_iadd d_La_law_467 ?_
  refine go_sld (j + 3) d_La_law_468 (by rw [hz]; exact nI_add j 3) (by omega) (by assumption) ?_
  refine go_aload_n 0 d_La_law_469 rfl rfl ?_
  refine go_iload_n 3 d_La_law_470 rfl rfl ?_
  refine go_iconst (v := 4) d_La_law_471 rfl ?_
  refine go_iadd d_La_law_472 ?_
  refine go_sld (j + 4) d_La_law_473 (by rw [hz]; exact nI_add j 4) (by omega) (by assumption) ?_
  refine go_aload_n 0 d_La_law_474 rfl rfl ?_
  refine go_iload_n 3 d_La_law_475 rfl rfl ?_
  refine go_iconst (v := 5) d_La_law_476 rfl ?_
  refine go_iadd d_La_law_477 ?_
  refine go_sld (j + 5) d_La_law_478 (by rw [hz]; exact nI_add j 5) (by omega) (by assumption) ?_
  refine go_V5 d_La_law_479 k_La_55 (by assumption) (Nat.le_of_ble_eq_true rfl) (c_Mo_bound (d := d + 37) h3 (h5.kept (fun q a b => f1 q (by omega))) (fun k hk => by obtain ⟨C, hC⟩ := (h6 k).2.2.2.2.2.2.1; exact ⟨C, List.mem_of_getElem? hC⟩) (fun k hk => (h6.uok k hk).2.1) (fun hg => absurd ⟨k, v, A, a1, a2, a3, a4, by rw [(h6 k).2.1]; exact a5, a6, ((h6 k).2.2.2.1 _).mpr (List.mem_of_getElem? a7), a8⟩ hg) (fun k' v' A' a1' a2' a3' a4' a5' a6' a7' a8' => ?_))
  refine go_lcmp_eq 610 d_La_law_482 d_La_law_483 rfl (fun _ => ?_) (fun hn => by first | exact absurd hn ((by have e1 := same_k a1 a1' a2 a2'; subst e1; have e2 := (nI_eq (by omega) (by omega)).mp (a4.symm.trans a4'); subst e2; have e3 := h6.zero a7'; rw [a7] at e3; cases e3; rfl)) | exact absurd ((by have e1 := same_k a1 a1' a2 a2'; subst e1; have e2 := (nI_eq (by omega) (by omega)).mp (a4.symm.trans a4'); subst e2; have e3 := h6.zero a7'; rw [a7] at e3; cases e3; rfl)) hn)
  exact next R I1 L S U ⟨h1, h2, h3, h4.kept (fun q hq => f1 q (by omega)), h5.kept (fun q a b => f1 q (by omega)), h6, ⟨st, wd, mr, rt, inp, h7.kept (f1 _ (by decide)) (f1 _ (by decide)), h8.kept (fun i _ => by rw [f1 _ (by decide)]) (f1 _ (by decide))⟩, f2, f3⟩
theorem la_9 {S U : Nat → ab_Me} {z : Int32} {j : Nat} (hX : X.1 < 2 ^ 31) (hz : z = nI j) (hj : j + 6 ≤ X.1) (hi : la_iv sh R I S U) (next : ∀ (R' : Nat → Nat → Option Nat) (I' : Nat → Nat → Int32) (L' : Nat → Nat → Int64) (S' U' : Nat → ab_Me), la_iv sh R' I' S' U' → gw_Go (y_La nm) (d + 40) 0 0 610 [some (.ref 1048576), some (.ref 0), some (.ref 533), some (.int z)] [] (558, sh, X, R', I', L') Q) : gw_Go (y_La nm) (d + 40) 0 0 488 [some (.ref 1048576), some (.ref 0), some (.ref 533), some (.int z)] [] (558, sh, X, R, I, L) Q := by
  obtain ⟨h1, h2, h3, h4, h5, h6, ⟨st, wd, mr, rt, inp, h7, h8⟩, h9, h10⟩ := hi
  have s0 := h1.1.1
  have s533 := h3.1
  refine go_aload_n 1 d_La_law_488 rfl rfl ?_
  refine go_aload_n 0 d_La_law_489 rfl rfl ?_
  refine go_iload_n 3 d_La_law_490 rfl rfl ?_
  refine go_iconst (v := 1) d_La_law_491 rfl ?_
  refine go_iadd d_La_law_492 ?_
  refine go_sld (j + 1) d_La_law_493 (by rw [hz]; exact nI_add j 1) (by omega) (by assumption) ?_
  refine go_V1 d_La_law_494 k_La_56 (by assumption) (Nat.le_of_ble_eq_true rfl) (c_CC_depth (d := d + 37) h1.1 h4 (fun hf => ?hf) (fun k a1 a2 I1 b1 b2 => ?_))
  case hf =>
    refine go_aload_n 2 d_La_law_497 rfl rfl ?_
    refine go_aload_n 0 d_La_law_498 rfl rfl ?_
    refine go_iload_n 3 d_La_law_499 rfl rfl ?_
    refine go_iconst (v := 1) d_La_law_500 rfl ?_
    refine go_iadd d_La_law_501 ?_
    refine go_sld (j + 1) d_La_law_502 (by rw [hz]; exact nI_add j 1) (by omega) (by assumption) ?_
    refine go_V1 d_La_law_503 k_La_59 (by assumption) (Nat.le_of_ble_eq_true rfl) (c_Mo_depth (d := d + 38) h3 h5 (fun hg => ?_) (fun k a1 a2 => absurd ⟨k, a1, a2⟩ hf))
    refine go_icmp_eq 610 d_La_law_506 rfl (fun _ => ?_) (fun hn => absurd (rfl) hn)
    exact next R I L S U ⟨h1, h2, h3, h4, h5, h6, ⟨st, wd, mr, rt, inp, h7, h8⟩, h9, h10⟩
  refine go_aload_n 2 d_La_law_497 rfl rfl ?_
  refine go_aload_n 0 d_La_law_498 rfl rfl ?_
  refine go_iload_n 3 d_La_law_499 rfl rfl ?_
  refine go_iconst (v := 1) d_La_law_500 rfl ?_
  refine go_iadd d_La_law_501 ?_
  refine go_sld (j + 1) d_La_law_502 (by rw [hz]; exact nI_add j 1) (by omega) (by assumption) ?_
  refine go_V1 d_La_law_503 k_La_59 (by assumption) (Nat.le_of_ble_eq_true rfl) (c_Mo_depth (d := d + 38) h3 (h5.kept (fun q a b => b2 q (by omega))) (fun hg => absurd ⟨k, a1, a2⟩ hg) (fun k' a1' a2' => ?_))
  refine go_icmp_eq 610 d_La_law_506 rfl (fun _ => ?_) (fun hn => absurd (by rw [same_k a1 a1' a2 a2', h6.code]) hn)
  exact next R I1 L S U ⟨h1, h2, h3, b1, h5.kept (fun q a b => b2 q (by omega)), h6, ⟨st, wd, mr, rt, inp, h7.kept (b2 _ (by omega)) (b2 _ (by omega)), h8.kept (fun i _ => by rw [b2 _ (by omega)]) (b2 _ (by omega))⟩, by rw [b2 _ (by omega)]; exact h9, by rw [b2 _ (by omega)]; exact h10⟩
theorem la_10 {S U : Nat → ab_Me} {z : Int32} {j : Nat} (hX : X.1 < 2 ^ 31) (hz : z = nI j) (hj : j + 6 ≤ X.1) (hi : la_iv sh R I S U) (next : ∀ (R' : Nat → Nat → Option Nat) (I' : Nat → Nat → Int32) (L' : Nat → Nat → Int64) (S' U' : Nat → ab_Me), la_iv sh R' I' S' U' → gw_Go (y_La nm) (d + 40) 0 0 610 [some (.ref 1048576), some (.ref 0), some (.ref 533), some (.int z)] [] (558, sh, X, R', I', L') Q) : gw_Go (y_La nm) (d + 40) 0 0 511 [some (.ref 1048576), some (.ref 0), some (.ref 533), some (.int z)] [] (558, sh, X, R, I, L) Q := by
  obtain ⟨h1, h2, h3, h4, h5, h6, ⟨st, wd, mr, rt, inp, h7, h8⟩, h9, h10⟩ := hi
  have s0 := h1.1.1
  have s533 := h3.1
  refine go_aload_n 1 d_La_law_511 rfl rfl ?_
  refine go_aload_n 0 d_La_law_512 rfl rfl ?_
  refine go_iload_n 3 d_La_law_513 rfl rfl ?_
  refine go_iconst (v := 1) d_La_law_514 rfl ?_
  refine go_iadd d_La_law_515 ?_
  refine go_sld (j + 1) d_La_law_516 (by rw [hz]; exact nI_add j 1) (by omega) (by assumption) ?_
  refine go_V1 d_La_law_517 k_La_60 (by assumption) (Nat.le_of_ble_eq_true rfl) (c_CC_feed (d := d + 37) h1 h7 (fun hf => ?hf) (fun a1 a2 a3 I1 b1 b2 => ?_))
  case hf =>
    refine go_aload_n 2 d_La_law_520 rfl rfl ?_
    refine go_aload_n 0 d_La_law_521 rfl rfl ?_
    refine go_iload_n 3 d_La_law_522 rfl rfl ?_
    refine go_iconst (v := 1) d_La_law_523 rfl ?_
    refine go_iadd d_La_law_524 ?_
    refine go_sld (j + 1) d_La_law_525 (by rw [hz]; exact nI_add j 1) (by omega) (by assumption) ?_
    refine go_V1 d_La_law_526 k_La_63 (by assumption) (Nat.le_of_ble_eq_true rfl) (c_Mo_feed (d := d + 38) h3 h8 (fun hg => ?_) (fun a1 a2 a3 I2 g1 g2 => absurd ⟨a1, a2, a3⟩ hf))
    refine go_icmp_eq 610 d_La_law_529 rfl (fun _ => ?_) (fun hn => absurd (rfl) hn)
    exact next R I L S U ⟨h1, h2, h3, h4, h5, h6, ⟨st, wd, mr, rt, inp, h7, h8⟩, h9, h10⟩
  refine go_aload_n 2 d_La_law_520 rfl rfl ?_
  refine go_aload_n 0 d_La_law_521 rfl rfl ?_
  refine go_iload_n 3 d_La_law_522 rfl rfl ?_
  refine go_iconst (v := 1) d_La_law_523 rfl ?_
  refine go_iadd d_La_law_524 ?_
  refine go_sld (j + 1) d_La_law_525 (by rw [hz]; exact nI_add j 1) (by omega) (by assumption) ?_
  refine go_V1 d_La_law_526 k_La_63 (by assumption) (Nat.le_of_ble_eq_true rfl) (c_Mo_feed (d := d + 38) h3 (h8.kept (fun i _ => by rw [b2 _ (by decide) (by decide)]) (b2 _ (by decide) (by decide))) (fun hg => absurd ⟨a1, a2, a3⟩ hg) (fun a1' a2' a3' I2 g1 g2 => ?_))
  refine go_icmp_eq 610 d_La_law_529 rfl (fun _ => ?_) (fun hn => absurd (rfl) hn)
  exact next R I2 L S U ⟨h1, h2, h3, h4.kept (fun q hq => by rw [g2 q (by omega) (by omega), b2 q (by omega) (by omega)]), h5.kept (fun q a b => by rw [g2 q (by omega) (by omega), b2 q (by omega) (by omega)]), h6, ⟨st, wd, mr, rt, _, b1.kept (g2 _ (by decide) (by decide)) (g2 _ (by decide) (by decide)), g1⟩, by rw [g2 _ (by decide) (by decide), b2 _ (by decide) (by decide)]; exact h9, by rw [g2 _ (by decide) (by decide), b2 _ (by decide) (by decide)]; exact h10⟩
theorem la_11 {S U : Nat → ab_Me} {z : Int32} {j : Nat} (hX : X.1 < 2 ^ 31) (hz : z = nI j) (hj : j + 6 ≤ X.1) (hi : la_iv sh R I S U) (next : ∀ (R' : Nat → Nat → Option Nat) (I' : Nat → Nat → Int32) (L' : Nat → Nat → Int64) (S' U' : Nat → ab_Me), la_iv sh R' I' S' U' → gw_Go (y_La nm) (d + 40) 0 0 610 [some (.ref 1048576), some (.ref 0), some (.ref 533), some (.int z)] [] (558, sh, X, R', I', L') Q) : gw_Go (y_La nm) (d + 40) 0 0 534 [some (.ref 1048576), some (.ref 0), some (.ref 533), some (.int z)] [] (558, sh, X, R, I, L) Q := by
  obtain ⟨h1, h2, h3, h4, h5, h6, ⟨st, wd, mr, rt, inp, h7, h8⟩, h9, h10⟩ := hi
  have s0 := h1.1.1
  have s533 := h3.1
  refine go_aload_n 1 d_La_law_534 rfl rfl ?_
  refine go_aload_n 0 d_La_law_535 rfl rfl ?_
  refine go_iload_n 3 d_La_law_536 rfl rfl ?_
  refine go_iconst (v := 1) d_La_law_537 rfl ?_
  refine go_iadd d_La_law_538 ?_
  refine go_sld (j + 1) d_La_law_539 (by rw [hz]; exact nI_add j 1) (by omega) (by assumption) ?_
  refine go_aload_n 0 d_La_law_540 rfl rfl ?_
  refine go_iload_n 3 d_La_law_541 rfl rfl ?_
  refine go_iconst (v := 2) d_La_law_542 rfl ?_
  refine go_iadd d_La_law_543 ?_
  refine go_sld (j + 2) d_La_law_544 (by rw [hz]; exact nI_add j 2) (by omega) (by assumption) ?_
  refine go_aload_n 0 d_La_law_545 rfl rfl ?_
  refine go_iload_n 3 d_La_law_546 rfl rfl ?_
  refine go_iconst (v := 3) d_La_law_547 rfl ?_
  refine go_iadd d_La_law_548 ?_
  refine go_sld (j + 3) d_La_law_549 (by rw [hz]; exact nI_add j 3) (by omega) (by assumption) ?_
  refine go_aload_n 0 d_La_law_550 rfl rfl ?_
  refine go_iload_n 3 d_La_law_551 rfl rfl ?_
  refine go_iconst (v := 4) d_La_law_552 rfl ?_
  refine go_iadd d_La_law_553 ?_
  refine go_sld (j + 4) d_La_law_554 (by rw [hz]; exact nI_add j 4) (by omega) (by assumption) ?_
  refine go_V4 d_La_law_555 k_La_64 (by assumption) (Nat.le_of_ble_eq_true rfl) (c_CC_run (d := d + 33) h1 h4 h7 (fun hf => ?hf) (fun k a1 a2 a3 a4 I1 r hr b1 b2 => ?_))
  case hf =>
    refine go_aload_n 2 d_La_law_558 rfl rfl ?_
    refine go_aload_n 0 d_La_law_559 rfl rfl ?_
    refine go_iload_n 3 d_La_law_560 rfl rfl ?_
    refine go_iconst (v := 1) d_La_law_561 rfl ?_
    refine go_iadd d_La_law_562 ?_
    refine go_sld (j + 1) d_La_law_563 (by rw [hz]; exact nI_add j 1) (by omega) (by assumption) ?_
    refine go_aload_n 0 d_La_law_564 rfl rfl ?_
    refine go_iload_n 3 d_La_law_565 rfl rfl ?_
    refine go_iconst (v := 2) d_La_law_566 rfl ?_
    refine go_iadd d_La_law_567 ?_
    refine go_sld (j + 2) d_La_law_568 (by rw [hz]; exact nI_add j 2) (by omega) (by assumption) ?_
    refine go_aload_n 0 d_La_law_569 rfl rfl ?_
    refine go_iload_n 3 d_La_law_570 rfl rfl ?_
    refine go_iconst (v := 3) d_La_law_571 rfl ?_
    refine go_iadd d_La_law_572 ?_
    refine go_sld (j + 3) d_La_law_573 (by rw [hz]; exact nI_add j 3) (by omega) (by assumption) ?_
    refine go_aload_n 0 d_La_law_574 rfl rfl ?_
    refine go_iload_n 3 d_La_law_575 rfl rfl ?_
    refine go_iconst (v := 4) d_La_law_576 rfl ?_
    refine go_iadd d_La_law_577 ?_
    refine go_sld (j + 4) d_La_law_578 (by rw [hz]; exact nI_add j 4) (by omega) (by assumption) ?_
    refine go_V4 d_La_law_579 k_La_68 (by assumption) (Nat.le_of_ble_eq_true rfl) (c_Mo_run (d := d + 35) h3 h5 h8 (fun hg => ?_) (fun k a1 a2 a3 a4 I2 r hr g1 g2 => absurd ⟨k, a1, a2, by rw [← (h6 k).1]; exact a3, a4⟩ hf))
    refine go_icmp_eq 610 d_La_law_582 rfl (fun _ => ?_) (fun hn => absurd (rfl) hn)
    exact next R I L S U ⟨h1, h2, h3, h4, h5, h6, ⟨st, wd, mr, rt, inp, h7, h8⟩, h9, h10⟩
  refine go_aload_n 2 d_La_law_558 rfl rfl ?_
  refine go_aload_n 0 d_La_law_559 rfl rfl ?_
  refine go_iload_n 3 d_La_law_560 rfl rfl ?_
  refine go_iconst (v := 1) d_La_law_561 rfl ?_
  refine go_iadd d_La_law_562 ?_
  refine go_sld (j + 1) d_La_law_563 (by rw [hz]; exact nI_add j 1) (by omega) (by assumption) ?_
  refine go_aload_n 0 d_La_law_564 rfl rfl ?_
  refine go_iload_n 3 d_La_law_565 rfl rfl ?_
  refine go_iconst (v := 2) d_La_law_566 rfl ?_
  refine go_iadd d_La_law_567 ?_
  refine go_sld (j + 2) d_La_law_568 (by rw [hz]; exact nI_add j 2) (by omega) (by assumption) ?_
  refine go_aload_n 0 d_La_law_569 rfl rfl ?_
  refine go_iload_n 3 d_La_law_570 rfl rfl ?_
  refine go_iconst (v := 3) d_La_law_571 rfl ?_
  refine go_iadd d_La_law_572 ?_
  refine go_sld (j + 3) d_La_law_573 (by rw [hz]; exact nI_add j 3) (by omega) (by assumption) ?_
  refine go_aload_n 0 d_La_law_574 rfl rfl ?_
  refine go_iload_n 3 d_La_law_575 rfl rfl ?_
  refine go_iconst (v := 4) d_La_law_576 rfl ?_
  refine go_iadd d_La_law_577 ?_
  refine go_sld (j + 4) d_La_law_578 (by rw [hz]; exact nI_add j 4) (by omega) (by assumption) ?_
  refine go_V4 d_La_law_579 k_La_68 (by assumption) (Nat.le_of_ble_eq_true rfl) (c_Mo_run (d := d + 35) h3 (h5.kept (fun q a b => b2 q (by omega))) (h8.kept (fun i _ => by rw [b2 _ (by omega)]) (b2 _ (by omega))) (fun hg => absurd ⟨k, a1, a2, by rw [(h6 k).1]; exact a3, a4⟩ hg) (fun k' a1' a2' a3' a4' I2 r' hr' g1 g2 => ?_))
  refine go_icmp_eq 610 d_La_law_582 rfl (fun _ => ?_) (fun hn => absurd ((by rw [hr, hr', same_k a1 a1' a2 a2', h6.code])) hn)
  exact (by have e1 := same_k a1 a1' a2 a2'; subst e1; have e2 : r' = r := (by rw [hr, hr', h6.code]); subst e2; exact next R I2 L S U ⟨h1, h2, h3, h4.kept (fun q hq => by rw [g2 q (by omega) (by omega), b2 q (by omega)]), h5.kept (fun q a b => by rw [g2 q (by omega) (by omega), b2 q (by omega)]), h6, ⟨_, _, _, _, _, b1.kept (g2 _ (by decide) (by decide)) (g2 _ (by decide) (by decide)), g1⟩, by rw [g2 _ (by decide) (by decide), b2 _ (by omega)]; exact h9, by rw [g2 _ (by decide) (by decide), b2 _ (by omega)]; exact h10⟩)
theorem la_12 {S U : Nat → ab_Me} {z : Int32} {j : Nat} (hX : X.1 < 2 ^ 31) (hz : z = nI j) (hj : j + 6 ≤ X.1) (hi : la_iv sh R I S U) (next : ∀ (R' : Nat → Nat → Option Nat) (I' : Nat → Nat → Int32) (L' : Nat → Nat → Int64) (S' U' : Nat → ab_Me), la_iv sh R' I' S' U' → gw_Go (y_La nm) (d + 40) 0 0 610 [some (.ref 1048576), some (.ref 0), some (.ref 533), some (.int z)] [] (558, sh, X, R', I', L') Q) : gw_Go (y_La nm) (d + 40) 0 0 587 [some (.ref 1048576), some (.ref 0), some (.ref 533), some (.int z)] [] (558, sh, X, R, I, L) Q := by
  obtain ⟨h1, h2, h3, h4, h5, h6, ⟨st, wd, mr, rt, inp, h7, h8⟩, h9, h10⟩ := hi
  have s0 := h1.1.1
  have s533 := h3.1
  refine go_aload_n 1 d_La_law_587 rfl rfl ?_
  refine go_aload_n 0 d_La_law_588 rfl rfl ?_
  refine go_iload_n 3 d_La_law_589 rfl rfl ?_
  refine go_iconst (v := 1) d_La_law_590 rfl ?_
  refine go_iadd d_La_law_591 ?_
  refine go_sld (j + 1) d_La_law_592 (by rw [hz]; exact nI_add j 1) (by omega) (by assumption) ?_
  refine go_V1 d_La_law_593 k_La_69 (by assumption) (Nat.le_of_ble_eq_true rfl) (c_CC_ran h1 h7 (fun r q0 q1 q2 q3 q4 => ?_))
  refine go_aload_n 2 d_La_law_596 rfl rfl ?_
  refine go_aload_n 0 d_La_law_597 rfl rfl ?_
  refine go_iload_n 3 d_La_law_598 rfl rfl ?_
  refine go_iconst (v := 1) d_La_law_599 rfl ?_
  refine go_iadd d_La_law_600 ?_
  refine go_sld (j + 1) d_La_law_601 (by rw [hz]; exact nI_add j 1) (by omega) (by assumption) ?_
  refine go_V1 d_La_law_602 k_La_72 (by assumption) (Nat.le_of_ble_eq_true rfl) (c_Mo_ran h3 h8 (fun r' p0 p1 p2 p3 p4 => ?_))
  refine go_icmp_eq 610 d_La_law_605 rfl (fun _ => ?_) (fun hn => absurd (ran_eq q0 q1 q2 q3 q4 p0 p1 p2 p3 p4) hn)
  exact next R I L S U ⟨h1, h2, h3, h4, h5, h6, ⟨st, wd, mr, rt, inp, h7, h8⟩, h9, h10⟩
end LA
