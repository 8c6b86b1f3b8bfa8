/-! Method: its code, its cuts; the class's small static methods -/
section ST
variable {d : Nat} {M : gw_Mem} {Q : Option Value → gw_Mem → Prop}
theorem c_CC_isBetween {x lo hi : Int32} (hQ : ∀ b : Bool, (b = true ↔ lo ≤ x ∧ x ≤ hi) → Q (some (.int (bI b))) M) : gw_Call y_CC_isBetween d 0 0 [.int x, .int lo, .int hi] M Q := by
  refine gw_call o_CC_isBetween (Nat.le_of_ble_eq_true rfl) ?_
  refine go_iload_n 0 d_CC_isBetween_0 rfl rfl ?_
  refine go_iload_n 1 d_CC_isBetween_1 rfl rfl ?_
  refine go_icmp_lt 14 d_CC_isBetween_2 rfl (fun h2 => ?_) (fun h2 => ?_)
  · refine go_iconst (v := 0) d_CC_isBetween_14 rfl ?_
    exact go_zret d_CC_isBetween_15 rfl (Or.inl rfl) (hQ false ⟨fun h => (by cases h), fun h => absurd h.1 (Int32.not_le.mpr h2)⟩)
  · refine go_iload_n 0 d_CC_isBetween_5 rfl rfl ?_
    refine go_iload_n 2 d_CC_isBetween_6 rfl rfl ?_
    refine go_icmp_gt 14 d_CC_isBetween_7 rfl (fun h7 => ?_) (fun h7 => ?_)
    · refine go_iconst (v := 0) d_CC_isBetween_14 rfl ?_
      exact go_zret d_CC_isBetween_15 rfl (Or.inl rfl) (hQ false ⟨fun h => (by cases h), fun h => absurd h.2 (Int32.not_le.mpr h7)⟩)
    · refine go_iconst (v := 1) d_CC_isBetween_10 rfl ?_
      refine go_goto 15 d_CC_isBetween_11 rfl ?_
      exact go_zret d_CC_isBetween_15 rfl (Or.inr rfl) (hQ true ⟨fun _ => ⟨Int32.not_lt.mp h2, Int32.not_lt.mp h7⟩, fun _ => rfl⟩)
theorem c_CC_isValue {x : Int32} (hQ : ∀ b : Bool, (b = true ↔ -1000000 ≤ x ∧ x ≤ 1000000) → Q (some (.int (bI b))) M) : gw_Call y_CC_isValue (d + 1) 0 0 [.int x] M Q := by
  refine gw_call o_CC_isValue (Nat.le_of_ble_eq_true rfl) ?_
  refine go_iload_n 0 d_CC_isValue_0 rfl rfl ?_
  refine go_ldc d_CC_isValue_1 i_CC_165 ?_
  refine go_ldc d_CC_isValue_3 i_CC_166 ?_
  refine go_S3 d_CC_isValue_5 k_CC_42 (Nat.le_of_ble_eq_true rfl) (c_CC_isBetween (fun b hb => ?_))
  exact go_zret d_CC_isValue_8 rfl (bI_01 b) (hQ b hb)
theorem c_CC_isPotential {x : Int32} (hQ : ∀ b : Bool, (b = true ↔ 0 ≤ x ∧ x ≤ 1) → Q (some (.int (bI b))) M) : gw_Call y_CC_isPotential (d + 1) 0 0 [.int x] M Q := by
  refine gw_call o_CC_isPotential (Nat.le_of_ble_eq_true rfl) ?_
  refine go_iload_n 0 d_CC_isPotential_0 rfl rfl ?_
  refine go_iconst (v := 0) d_CC_isPotential_1 rfl ?_
  refine go_iconst (v := 1) d_CC_isPotential_2 rfl ?_
  refine go_S3 d_CC_isPotential_3 k_CC_42 (Nat.le_of_ble_eq_true rfl) (c_CC_isBetween (fun b hb => ?_))
  exact go_zret d_CC_isPotential_6 rfl (bI_01 b) (hQ b hb)
theorem c_CC_areValues {x y z : Int32} (hQ : ∀ b : Bool, (b = true ↔ (-1000000 ≤ x ∧ x ≤ 1000000) ∧ (-1000000 ≤ y ∧ y ≤ 1000000) ∧ (-1000000 ≤ z ∧ z ≤ 1000000)) → Q (some (.int (bI b))) M) : gw_Call y_CC_areValues (d + 2) 0 0 [.int x, .int y, .int z] M Q := by
  refine gw_call o_CC_areValues (Nat.le_of_ble_eq_true rfl) ?_
  refine go_iload_n 0 d_CC_areValues_0 rfl rfl ?_
  refine go_S1 d_CC_areValues_1 k_CC_124 (Nat.le_of_ble_eq_true rfl) (c_CC_isValue (fun b1 hb1 => ?_))
  refine go_if_eq 25 d_CC_areValues_4 rfl (fun h4 => ?_) (fun h4 => ?_)
  · refine go_iconst (v := 0) d_CC_areValues_25 rfl ?_
    first | exact go_zret d_CC_areValues_26 rfl (Or.inr rfl) (hQ true ⟨fun _ => ⟨hb1.mp (bI_n0.mp h4), hb2.mp (bI_n0.mp h11), hb3.mp (bI_n0.mp h18)⟩, fun _ => rfl⟩) | exact go_zret d_CC_areValues_26 rfl (Or.inl rfl) (hQ false ⟨fun h => (by cases h), fun h => (by rw [hb3.mpr h.2.2] at h18; cases h18)⟩) | exact go_zret d_CC_areValues_26 rfl (Or.inl rfl) (hQ false ⟨fun h => (by cases h), fun h => (by rw [hb2.mpr h.2.1] at h11; cases h11)⟩) | exact go_zret d_CC_areValues_26 rfl (Or.inl rfl) (hQ false ⟨fun h => (by cases h), fun h => (by rw [hb1.mpr h.1] at h4; cases h4)⟩)
  · refine go_iload_n 1 d_CC_areValues_7 rfl rfl ?_
    refine go_S1 d_CC_areValues_8 k_CC_124 (Nat.le_of_ble_eq_true rfl) (c_CC_isValue (fun b2 hb2 => ?_))
    refine go_if_eq 25 d_CC_areValues_11 rfl (fun h11 => ?_) (fun h11 => ?_)
    · refine go_iconst (v := 0) d_CC_areValues_25 rfl ?_
      first | exact go_zret d_CC_areValues_26 rfl (Or.inr rfl) (hQ true ⟨fun _ => ⟨hb1.mp (bI_n0.mp h4), hb2.mp (bI_n0.mp h11), hb3.mp (bI_n0.mp h18)⟩, fun _ => rfl⟩) | exact go_zret d_CC_areValues_26 rfl (Or.inl rfl) (hQ false ⟨fun h => (by cases h), fun h => (by rw [hb3.mpr h.2.2] at h18; cases h18)⟩) | exact go_zret d_CC_areValues_26 rfl (Or.inl rfl) (hQ false ⟨fun h => (by cases h), fun h => (by rw [hb2.mpr h.2.1] at h11; cases h11)⟩) | exact go_zret d_CC_areValues_26 rfl (Or.inl rfl) (hQ false ⟨fun h => (by cases h), fun h => (by rw [hb1.mpr h.1] at h4; cases h4)⟩)
    · refine go_iload_n 2 d_CC_areValues_14 rfl rfl ?_
      refine go_S1 d_CC_areValues_15 k_CC_124 (Nat.le_of_ble_eq_true rfl) (c_CC_isValue (fun b3 hb3 => ?_))
      refine go_if_eq 25 d_CC_areValues_18 rfl (fun h18 => ?_) (fun h18 => ?_)
      · refine go_iconst (v := 0) d_CC_areValues_25 rfl ?_
        first | exact go_zret d_CC_areValues_26 rfl (Or.inr rfl) (hQ true ⟨fun _ => ⟨hb1.mp (bI_n0.mp h4), hb2.mp (bI_n0.mp h11), hb3.mp (bI_n0.mp h18)⟩, fun _ => rfl⟩) | exact go_zret d_CC_areValues_26 rfl (Or.inl rfl) (hQ false ⟨fun h => (by cases h), fun h => (by rw [hb3.mpr h.2.2] at h18; cases h18)⟩) | exact go_zret d_CC_areValues_26 rfl (Or.inl rfl) (hQ false ⟨fun h => (by cases h), fun h => (by rw [hb2.mpr h.2.1] at h11; cases h11)⟩) | exact go_zret d_CC_areValues_26 rfl (Or.inl rfl) (hQ false ⟨fun h => (by cases h), fun h => (by rw [hb1.mpr h.1] at h4; cases h4)⟩)
      · refine go_iconst (v := 1) d_CC_areValues_21 rfl ?_
        refine go_goto 26 d_CC_areValues_22 rfl ?_
        first | exact go_zret d_CC_areValues_26 rfl (Or.inr rfl) (hQ true ⟨fun _ => ⟨hb1.mp (bI_n0.mp h4), hb2.mp (bI_n0.mp h11), hb3.mp (bI_n0.mp h18)⟩, fun _ => rfl⟩) | exact go_zret d_CC_areValues_26 rfl (Or.inl rfl) (hQ false ⟨fun h => (by cases h), fun h => (by rw [hb3.mpr h.2.2] at h18; cases h18)⟩) | exact go_zret d_CC_areValues_26 rfl (Or.inl rfl) (hQ false ⟨fun h => (by cases h), fun h => (by rw [hb2.mpr h.2.1] at h11; cases h11)⟩) | exact go_zret d_CC_areValues_26 rfl (Or.inl rfl) (hQ false ⟨fun h => (by cases h), fun h => (by rw [hb1.mpr h.1] at h4; cases h4)⟩)
theorem c_CC_areTwoSides {a b : Int32} (hQ : ∀ c : Bool, (c = true ↔ (0 ≤ a ∧ a ≤ 4) ∧ (0 ≤ b ∧ b ≤ 4) ∧ a ≠ b) → Q (some (.int (bI c))) M) : gw_Call y_CC_areTwoSides (d + 1) 0 0 [.int a, .int b] M Q := by
  refine gw_call o_CC_areTwoSides (Nat.le_of_ble_eq_true rfl) ?_
  refine go_iload_n 0 d_CC_areTwoSides_0 rfl rfl ?_
  refine go_iconst (v := 0) d_CC_areTwoSides_1 rfl ?_
  refine go_iconst (v := 4) d_CC_areTwoSides_2 rfl ?_
  refine go_S3 d_CC_areTwoSides_3 k_CC_42 (Nat.le_of_ble_eq_true rfl) (c_CC_isBetween (fun b1 hb1 => ?_))
  refine go_if_eq 27 d_CC_areTwoSides_6 rfl (fun h6 => ?_) (fun h6 => ?_)
  · refine go_iconst (v := 0) d_CC_areTwoSides_27 rfl ?_
    first | exact go_zret d_CC_areTwoSides_28 rfl (Or.inr rfl) (hQ true ⟨fun _ => ⟨hb1.mp (bI_n0.mp h6), hb2.mp (bI_n0.mp h15), h20⟩, fun _ => rfl⟩) | exact go_zret d_CC_areTwoSides_28 rfl (Or.inl rfl) (hQ false ⟨fun h => (by cases h), fun h => absurd h20 h.2.2⟩) | exact go_zret d_CC_areTwoSides_28 rfl (Or.inl rfl) (hQ false ⟨fun h => (by cases h), fun h => (by rw [hb2.mpr h.2.1] at h15; cases h15)⟩) | exact go_zret d_CC_areTwoSides_28 rfl (Or.inl rfl) (hQ false ⟨fun h => (by cases h), fun h => (by rw [hb1.mpr h.1] at h6; cases h6)⟩)
  · refine go_iload_n 1 d_CC_areTwoSides_9 rfl rfl ?_
    refine go_iconst (v := 0) d_CC_areTwoSides_10 rfl ?_
    refine go_iconst (v := 4) d_CC_areTwoSides_11 rfl ?_
    refine go_S3 d_CC_areTwoSides_12 k_CC_42 (Nat.le_of_ble_eq_true rfl) (c_CC_isBetween (fun b2 hb2 => ?_))
    refine go_if_eq 27 d_CC_areTwoSides_15 rfl (fun h15 => ?_) (fun h15 => ?_)
    · refine go_iconst (v := 0) d_CC_areTwoSides_27 rfl ?_
      first | exact go_zret d_CC_areTwoSides_28 rfl (Or.inr rfl) (hQ true ⟨fun _ => ⟨hb1.mp (bI_n0.mp h6), hb2.mp (bI_n0.mp h15), h20⟩, fun _ => rfl⟩) | exact go_zret d_CC_areTwoSides_28 rfl (Or.inl rfl) (hQ false ⟨fun h => (by cases h), fun h => absurd h20 h.2.2⟩) | exact go_zret d_CC_areTwoSides_28 rfl (Or.inl rfl) (hQ false ⟨fun h => (by cases h), fun h => (by rw [hb2.mpr h.2.1] at h15; cases h15)⟩) | exact go_zret d_CC_areTwoSides_28 rfl (Or.inl rfl) (hQ false ⟨fun h => (by cases h), fun h => (by rw [hb1.mpr h.1] at h6; cases h6)⟩)
    · refine go_iload_n 0 d_CC_areTwoSides_18 rfl rfl ?_
      refine go_iload_n 1 d_CC_areTwoSides_19 rfl rfl ?_
      refine go_icmp_eq 27 d_CC_areTwoSides_20 rfl (fun h20 => ?_) (fun h20 => ?_)
      · refine go_iconst (v := 0) d_CC_areTwoSides_27 rfl ?_
        first | exact go_zret d_CC_areTwoSides_28 rfl (Or.inr rfl) (hQ true ⟨fun _ => ⟨hb1.mp (bI_n0.mp h6), hb2.mp (bI_n0.mp h15), h20⟩, fun _ => rfl⟩) | exact go_zret d_CC_areTwoSides_28 rfl (Or.inl rfl) (hQ false ⟨fun h => (by cases h), fun h => absurd h20 h.2.2⟩) | exact go_zret d_CC_areTwoSides_28 rfl (Or.inl rfl) (hQ false ⟨fun h => (by cases h), fun h => (by rw [hb2.mpr h.2.1] at h15; cases h15)⟩) | exact go_zret d_CC_areTwoSides_28 rfl (Or.inl rfl) (hQ false ⟨fun h => (by cases h), fun h => (by rw [hb1.mpr h.1] at h6; cases h6)⟩)
      · refine go_iconst (v := 1) d_CC_areTwoSides_23 rfl ?_
        refine go_goto 28 d_CC_areTwoSides_24 rfl ?_
        first | exact go_zret d_CC_areTwoSides_28 rfl (Or.inr rfl) (hQ true ⟨fun _ => ⟨hb1.mp (bI_n0.mp h6), hb2.mp (bI_n0.mp h15), h20⟩, fun _ => rfl⟩) | exact go_zret d_CC_areTwoSides_28 rfl (Or.inl rfl) (hQ false ⟨fun h => (by cases h), fun h => absurd h20 h.2.2⟩) | exact go_zret d_CC_areTwoSides_28 rfl (Or.inl rfl) (hQ false ⟨fun h => (by cases h), fun h => (by rw [hb2.mpr h.2.1] at h15; cases h15)⟩) | exact go_zret d_CC_areTwoSides_28 rfl (Or.inl rfl) (hQ false ⟨fun h => (by cases h), fun h => (by rw [hb1.mpr h.1] at h6; cases h6)⟩)
end ST
/-- a method's cells: the object, its kinds, its numbers, its row of cuts, six cuts -/
def pt_Me (sh : Nat → Nat × Nat) (R : Nat → Nat → Option Nat) (o : Nat) : Prop := sh o = (0, 1) ∧ sh (o + 1) = (1, 24) ∧ sh (o + 2) = (1, 24) ∧ sh (o + 3) = (1 + 4, 6) ∧ R o 1 = some (o + 1) ∧ R o 2 = some (o + 2) ∧ R o 4 = some (o + 3) ∧ ∀ i, i < 6 → pt_Cu sh R (o + 4 + 13 * i)
theorem pt_Me.kept {sh : Nat → Nat × Nat} {R R' : Nat → Nat → Option Nat} {o : Nat} (h : pt_Me sh R o) (hq : ∀ q, o ≤ q → q < o + 82 → q ≠ o + 3 → R' q = R q) : pt_Me sh R' o := by
  obtain ⟨s0, s1, s2, s3, r1, r2, r4, hc⟩ := h
  have e0 := hq o (by omega) (by omega) (by omega)
  exact ⟨s0, s1, s2, s3, by rw [e0]; exact r1, by rw [e0]; exact r2, by rw [e0]; exact r4, fun i hi => (hc i hi).kept (fun q a b => hq q (by omega) (by omega) (by omega))⟩
/-- the code: kinds and numbers -/
def co_at (I : Nat → Nat → Int32) (o : Nat) (l : List (Nat × Int32)) : Prop := I o 3 = nI l.length ∧ l.length ≤ 24 ∧ ∀ (j : Nat) (t : Nat × Int32), l[j]? = some t → I (o + 1) j = nI t.1 ∧ I (o + 2) j = t.2 ∧ t.1 < 15
/-- the cuts, in their row, by way of which of the six cuts stands at each place -/
def cs_at (R : Nat → Nat → Option Nat) (I : Nat → Nat → Int32) (o : Nat) (w : Nat → Nat) (l : List (Nat × ab_Cu)) : Prop := I o 5 = nI l.length ∧ l.length ≤ 6 ∧ (∀ i, i < 6 → w i < 6) ∧ (∀ i j, i < 6 → j < 6 → w i = w j → i = j) ∧ (∀ i, i < 6 → R (o + 3) i = some (o + 4 + 13 * w i)) ∧ ∀ (i : Nat) (c : Nat × ab_Cu), l[i]? = some c → cu_at I (o + 4 + 13 * w i) c.1 c.2
section ME
variable {d n : Nat} {sh : Nat → Nat × Nat} {X : Nat × (Nat → Int32)} {R : Nat → Nat → Option Nat} {I : Nat → Nat → Int32} {L : Nat → Nat → Int64} {Q : Option Value → gw_Mem → Prop}
theorem c_Me_append {o k : Nat} {v : Int32} {l : List (Nat × Int32)} (hp : pt_Me sh R o) (ha : co_at I o l) (hk : k < 15) (hf : ¬ l.length < 24 → Q (some (.int 0)) (n, sh, X, R, I, L)) (hQ : l.length < 24 → ∀ I', co_at I' o (l ++ [(k, v)]) → (∀ q, q ≠ o → q ≠ o + 1 → q ≠ o + 2 → I' q = I q) → (∀ j, j ≠ 3 → I' o j = I o j) → Q (some (.int 1)) (n, sh, X, R, I', L)) : gw_Call y_Me_append d 0 0 [.ref o, .int (nI k), .int v] (n, sh, X, R, I, L) Q := by
  obtain ⟨s0, s1, s2, s3, r1, r2, r4, hc⟩ := hp
  obtain ⟨a2, a3, a4⟩ := ha
  refine gw_call o_Me_append (Nat.le_of_ble_eq_true rfl) ?_
  refine go_aload_n 0 d_Me_append_0 rfl rfl ?_
  refine go_getI d_Me_append_1 f_Me_32 (by assumption) ?_
  refine go_bipush (v := 24) d_Me_append_4 rfl ?_
  refine go_icmp_lt 11 d_Me_append_6 rfl (fun h6 => ?_) (fun h6 => ?_)
  · have hlt : l.length < 24 := by rw [a2] at h6; exact (nI_ltI (b := 24) (by omega) (by decide)).mp h6
    refine go_aload_n 0 d_Me_append_11 rfl rfl ?_
    refine go_getR d_Me_append_12 f_Me_9 (by assumption) (by assumption) ?_
    refine go_aload_n 0 d_Me_append_15 rfl rfl ?_
    refine go_getI d_Me_append_16 f_Me_32 (by assumption) ?_
    refine go_iload_n 1 d_Me_append_19 rfl rfl ?_
    refine go_iast (l.length) d_Me_append_20 (by assumption) (a2) (hlt) (by decide) ?_
    refine go_aload_n 0 d_Me_append_21 rfl rfl ?_
    refine go_getR d_Me_append_22 f_Me_15 (by assumption) (by assumption) ?_
    refine go_aload_n 0 d_Me_append_25 rfl rfl ?_
    refine go_getI d_Me_append_26 f_Me_32 (by assumption) ?_
    refine go_iload_n 2 d_Me_append_29 rfl rfl ?_
    refine go_iast (l.length) d_Me_append_30 (by assumption) (by simp [va_up, a2]) (hlt) (by decide) ?_
    refine go_aload_n 0 d_Me_append_31 rfl rfl ?_
    refine go_dup d_Me_append_32 rfl ?_
    refine go_getI d_Me_append_33 f_Me_32 (by assumption) ?_
    refine go_iconst (v := 1) d_Me_append_36 rfl ?_
    refine go_iadd d_Me_append_37 ?_
    refine go_putI d_Me_append_38 f_Me_32 (by assumption) ?_
    refine go_iconst (v := 1) d_Me_append_41 rfl ?_
    have key : ∀ (j : Nat) (t : Nat × Int32), (l ++ [(k, v)])[j]? = some t → (j ≠ l.length ∧ l[j]? = some t) ∨ (j = l.length ∧ t = (k, v)) := fun j t h => by rcases gw_app h with ⟨e1, e2⟩ | e; exact Or.inl ⟨by omega, e2⟩; exact Or.inr e
    exact go_zret d_Me_append_42 rfl (by first | exact Or.inl rfl | exact Or.inr rfl | assumption) (hQ hlt _ ⟨by simp [va_up, a2, nI_succ], by simp; omega, fun j t h => by rcases key j t h with ⟨e1, e2⟩ | ⟨rfl, rfl⟩; (have e4 := a4 j t e2; simp [va_up, e1, e4]); simp [va_up, hk]⟩ (fun q g0 g1 g2 => by simp [va_up, g0, g1, g2]) (fun j hj => by simp [va_up, hj]))
  · refine go_iconst (v := 0) d_Me_append_9 rfl ?_
    exact go_zret d_Me_append_10 rfl (by first | exact Or.inl rfl | exact Or.inr rfl | assumption) (hf (fun h => h6 (by rw [a2]; exact nI_lt h (by decide))))
theorem c_Me_hasPlace {o : Nat} {x : Int32} {l : List (Nat × Int32)} (hp : pt_Me sh R o) (ha : co_at I o l) (hQ : ∀ b : Bool, (b = true ↔ ∃ p, p < l.length ∧ x = nI p) → Q (some (.int (bI b))) (n, sh, X, R, I, L)) : gw_Call y_Me_hasPlace d 0 0 [.ref o, .int x] (n, sh, X, R, I, L) Q := by
  obtain ⟨s0, s1, s2, s3, r1, r2, r4, hc⟩ := hp
  obtain ⟨a2, a3, a4⟩ := ha
  refine gw_call o_Me_hasPlace (Nat.le_of_ble_eq_true rfl) ?_
  refine go_iload_n 1 d_Me_hasPlace_0 rfl rfl ?_
  refine go_if_lt 16 d_Me_hasPlace_1 rfl (fun h1 => ?_) (fun h1 => ?_)
  · refine go_iconst (v := 0) d_Me_hasPlace_16 rfl ?_
    first | exact go_zret d_Me_hasPlace_17 rfl (Or.inr rfl) (hQ true ⟨fun _ => by obtain ⟨j, hj, e⟩ := nI_of h1; refine ⟨j, ?_, e⟩; rw [a2, e] at h9; exact Nat.not_le.mp (fun hh => h9 (nI_le hh hj)), fun _ => rfl⟩) | exact go_zret d_Me_hasPlace_17 rfl (Or.inl rfl) (hQ false ⟨fun h => (by cases h), fun ⟨p, hp, e⟩ => absurd h9 (by rw [a2, e]; exact nI_ge hp (by omega))⟩) | exact go_zret d_Me_hasPlace_17 rfl (Or.inl rfl) (hQ false ⟨fun h => (by cases h), fun ⟨p, hp, e⟩ => absurd h1 (by rw [e]; exact nI_pos (by omega))⟩)
  · refine go_iload_n 1 d_Me_hasPlace_4 rfl rfl ?_
    refine go_aload_n 0 d_Me_hasPlace_5 rfl rfl ?_
    refine go_getI d_Me_hasPlace_6 f_Me_32 (by assumption) ?_
    refine go_icmp_ge 16 d_Me_hasPlace_9 rfl (fun h9 => ?_) (fun h9 => ?_)
    · refine go_iconst (v := 0) d_Me_hasPlace_16 rfl ?_
      first | exact go_zret d_Me_hasPlace_17 rfl (Or.inr rfl) (hQ true ⟨fun _ => by obtain ⟨j, hj, e⟩ := nI_of h1; refine ⟨j, ?_, e⟩; rw [a2, e] at h9; exact Nat.not_le.mp (fun hh => h9 (nI_le hh hj)), fun _ => rfl⟩) | exact go_zret d_Me_hasPlace_17 rfl (Or.inl rfl) (hQ false ⟨fun h => (by cases h), fun ⟨p, hp, e⟩ => absurd h9 (by rw [a2, e]; exact nI_ge hp (by omega))⟩) | exact go_zret d_Me_hasPlace_17 rfl (Or.inl rfl) (hQ false ⟨fun h => (by cases h), fun ⟨p, hp, e⟩ => absurd h1 (by rw [e]; exact nI_pos (by omega))⟩)
    · refine go_iconst (v := 1) d_Me_hasPlace_12 rfl ?_
      refine go_goto 17 d_Me_hasPlace_13 rfl ?_
      first | exact go_zret d_Me_hasPlace_17 rfl (Or.inr rfl) (hQ true ⟨fun _ => by obtain ⟨j, hj, e⟩ := nI_of h1; refine ⟨j, ?_, e⟩; rw [a2, e] at h9; exact Nat.not_le.mp (fun hh => h9 (nI_le hh hj)), fun _ => rfl⟩) | exact go_zret d_Me_hasPlace_17 rfl (Or.inl rfl) (hQ false ⟨fun h => (by cases h), fun ⟨p, hp, e⟩ => absurd h9 (by rw [a2, e]; exact nI_ge hp (by omega))⟩) | exact go_zret d_Me_hasPlace_17 rfl (Or.inl rfl) (hQ false ⟨fun h => (by cases h), fun ⟨p, hp, e⟩ => absurd h1 (by rw [e]; exact nI_pos (by omega))⟩)
theorem c_Me_findCut {o : Nat} {x : Int32} {w : Nat → Nat} {l : List (Nat × ab_Cu)} (hp : pt_Me sh R o) (ha : cs_at R I o w l) (hN : (∀ c ∈ l, nI c.1 ≠ x) → Q (some .null) (n, sh, X, R, I, L)) (hS : ∀ (i : Nat) (c : Nat × ab_Cu), l[i]? = some c → nI c.1 = x → Q (some (.ref (o + 4 + 13 * w i))) (n, sh, X, R, I, L)) : gw_Call y_Me_findCut d 0 0 [.ref o, .int x] (n, sh, X, R, I, L) Q := by
  obtain ⟨s0, s1, s2, s3, r1, r2, r4, hc⟩ := hp
  obtain ⟨a1, a2, a3, a4, a5, a6⟩ := ha
  refine gw_call o_Me_findCut (Nat.le_of_ble_eq_true rfl) ?_
  have loop : ∀ (ts : List (Nat × ab_Cu)) (i : Nat) (z : Int32), z = nI i → i ≤ l.length → l.drop i = ts → ((∀ c ∈ ts, nI c.1 ≠ x) → ∀ c ∈ l, nI c.1 ≠ x) → gw_Go y_Me_findCut d 0 0 2 [some (.ref o), some (.int x), some (.int z)] [] (n, sh, X, R, I, L) Q := by
    intro ts
    induction ts with
    | nil =>
      intro i z hz h0 hd hs
      have hi := gw_dropE hd
      refine go_iload_n 2 d_Me_findCut_2 rfl rfl ?_
      refine go_aload_n 0 d_Me_findCut_3 rfl rfl ?_
      refine go_getI d_Me_findCut_4 f_Me_29 (by assumption) ?_
      refine go_icmp_ge 36 d_Me_findCut_7 rfl (fun _ => ?_) (fun hn => absurd (by rw [a1, hz]; exact nI_le hi (by omega)) hn)
      refine go_null d_Me_findCut_36 ?_
      exact go_nret d_Me_findCut_37 rfl (hN (hs (fun c h => by cases h)))
    | cons t ts ih =>
      intro i z hz h0 hd hs
      obtain ⟨hi, ht, hn⟩ := gw_drop hd
      have hcu := hc (w i) (a3 i (by omega))
      have sc := hcu.1
      have hre := a5 i (by omega)
      have hpl := (a6 i t ht).1
      refine go_iload_n 2 d_Me_findCut_2 rfl rfl ?_
      refine go_aload_n 0 d_Me_findCut_3 rfl rfl ?_
      refine go_getI d_Me_findCut_4 f_Me_29 (by assumption) ?_
      refine go_icmp_ge 36 d_Me_findCut_7 rfl (fun hn => absurd hn (by rw [a1, hz]; exact nI_ge hi (by omega))) (fun _ => ?_)
      refine go_aload_n 0 d_Me_findCut_10 rfl rfl ?_
      refine go_getR d_Me_findCut_11 f_Me_20 (by assumption) (by assumption) ?_
      refine go_iload_n 2 d_Me_findCut_14 rfl rfl ?_
      refine go_aald (t := 1) (i) d_Me_findCut_15 (by assumption) (by decide) (hz) (by omega) (by decide) (by assumption) ?_
      refine go_getI d_Me_findCut_16 f_Me_39 (by assumption) ?_
      refine go_iload_n 1 d_Me_findCut_19 rfl rfl ?_
      refine go_icmp_ne 30 d_Me_findCut_20 rfl (fun h20 => ?_) (fun h20 => ?_)
      · refine go_iinc d_Me_findCut_30 rfl rfl (Nat.le_of_ble_eq_true rfl) ?_
        refine go_goto 2 d_Me_findCut_33 rfl ?_
        exact ih (i + 1) _ (gw_inc hz) (by omega) hn (fun hh => hs (fun c h => by rcases List.mem_cons.mp h with rfl | h; (rw [← hpl]; exact h20); exact hh c h))
      · refine go_aload_n 0 d_Me_findCut_23 rfl rfl ?_
        refine go_getR d_Me_findCut_24 f_Me_20 (by assumption) (by assumption) ?_
        refine go_iload_n 2 d_Me_findCut_27 rfl rfl ?_
        refine go_aald (t := 1) (i) d_Me_findCut_28 (by assumption) (by decide) (hz) (by omega) (by decide) (by assumption) ?_
        exact go_aret d_Me_findCut_29 rfl (hS i t ht (by rw [← hpl]; exact h20))
  refine go_iconst (v := 0) d_Me_findCut_0 rfl ?_
  refine go_istore_n 2 d_Me_findCut_1 rfl (Nat.le_of_ble_eq_true rfl) ?_
  exact loop _ 0 _ rfl (by omega) rfl (fun h => h)
end ME
