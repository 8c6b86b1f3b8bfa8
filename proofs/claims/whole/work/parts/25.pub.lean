/-! the public methods that change code and certificates -/
section PUB
variable {d n : Nat} {sh : Nat → Nat × Nat} {X : Nat × (Nat → Int32)} {R : Nat → Nat → Option Nat} {I : Nat → Nat → Int32} {L : Nat → Nat → Int64} {Q : Option Value → gw_Mem → Prop} {S : Nat → ab_Me}
/-- noteChange behind a change of method k that was made -/
theorem c_CC_note1 {k : Nat} {w : Nat → Nat} {A : ab_Me} {R' : Nat → Nat → Option Nat} {I' : Nat → Nat → Int32} (hp : pt_CC sh R) (hc : cc_at R I S) (hk : k < 4) (hm : me_at R' I' k w A) (hR : ∀ q, q ≠ 2 + 82 * k + 3 → R' q = R q) (hI : ∀ q, q < 2 + 82 * k ∨ 2 + 82 * k + 82 ≤ q → I' q = I q)
    (hQ : ∀ I2, cc_at R' I2 (cc_chg k (va_up S k A)) → (∀ q, q < 2 ∨ 330 ≤ q → I2 q = I q) → (∀ q j, j ≠ 6 → I2 q j = I' q j) → Q (some (.int 1)) (n, sh, X, R', I2, L)) : gw_Call y_CC_noteChange d 0 0 [.ref 0, .int (nI k), .int 1] (n, sh, X, R', I', L) Q := by
  refine c_CC_noteChange (b := true) (hp.kept (fun q a b => hR q (b k hk))) hk (fun h => by cases h) (fun _ I2 h0 h1 => ?_)
  refine hQ I2 ((hc.one hm hR hI).chg h0 h1) (fun q hq => ?_) (fun q j hj => h0 q j (Or.inl hj))
  funext j
  rw [h0 q j (Or.inr (fun i a b => by omega)), hI q (by omega)]
theorem c_CC_put {x y z : Int32} (hp : pt_CC sh R) (hc : cc_at R I S) (hf : ¬ (∃ k, k < 4 ∧ x = nI k ∧ (0 ≤ y ∧ y ≤ 14) ∧ (-1000 ≤ z ∧ z ≤ 1000) ∧ (S k).1.length < 24) → Q (some (.int (-1))) (n, sh, X, R, I, L))
    (hQ : ∀ k kd, k < 4 → x = nI k → kd < 15 → y = nI kd → (-1000 ≤ z ∧ z ≤ 1000) → (S k).1.length < 24 → ∀ I', cc_at R I' (cc_chg k (va_up S k ((S k).1 ++ [(kd, z)], (S k).2))) → (∀ q, q < 2 ∨ 330 ≤ q → I' q = I q) → Q (some (.int (nI (S k).1.length))) (n, sh, X, R, I', L)) : gw_Call y_CC_put (d + 1) 0 0 [.ref 0, .int x, .int y, .int z] (n, sh, X, R, I, L) Q := by
  have s0 := hp.1
  refine gw_call o_CC_put (Nat.le_of_ble_eq_true rfl) ?_
  refine go_aload_n 0 d_CC_put_0 rfl rfl ?_
  refine go_iload_n 1 d_CC_put_1 rfl rfl ?_
  refine go_V1 d_CC_put_2 k_CC_38 (by assumption) (Nat.le_of_ble_eq_true rfl) (c_CC_methodAt hp (fun hN => ?_) (fun k hk e => ?_))
  · skip
    refine go_astoreN d_CC_put_5 (Nat.le_of_ble_eq_true rfl) ?_
    refine go_aloadN d_CC_put_7 rfl ?_
    refine go_ifnullN 35 d_CC_put_9 rfl ?_
    refine go_iconst (v := (-1)) d_CC_put_35 rfl ?_
    exact go_iret d_CC_put_36 rfl (hf (fun ⟨k, a, b, _⟩ => hN ⟨k, a, b⟩))
  · subst e
    obtain ⟨w, g1, g2, g3, g4⟩ := hc k hk
    have hme := (hp.2.2.2 k hk).2
    have sm := hme.1
    refine go_astore d_CC_put_5 (Nat.le_of_ble_eq_true rfl) ?_
    refine go_aload d_CC_put_7 rfl ?_
    refine go_ifnull d_CC_put_9 ?_
    refine go_iload_n 2 d_CC_put_12 rfl rfl ?_
    refine go_iconst (v := 0) d_CC_put_13 rfl ?_
    refine go_bipush (v := 14) d_CC_put_14 rfl ?_
    refine go_S3 d_CC_put_16 k_CC_42 (Nat.le_of_ble_eq_true rfl) (c_CC_isBetween (fun b1 hb1 => ?_))
    refine go_if_eq 35 d_CC_put_19 rfl (fun h19 => ?_) (fun h19 => ?_)
    · refine go_iconst (v := (-1)) d_CC_put_35 rfl ?_
      first | exact go_iret d_CC_put_36 rfl (hf (fun ⟨k', q1, q2, q3, q4, q5⟩ => by rw [hb2.mpr q4] at h32; exact absurd h32 (by decide))) | exact go_iret d_CC_put_36 rfl (hf (fun ⟨k', q1, q2, q3, q4, q5⟩ => by rw [hb1.mpr q3] at h19; exact absurd h19 (by decide)))
    · refine go_iload_n 3 d_CC_put_22 rfl rfl ?_
      refine go_sipush (v := (-1000)) d_CC_put_23 rfl ?_
      refine go_sipush (v := 1000) d_CC_put_26 rfl ?_
      refine go_S3 d_CC_put_29 k_CC_42 (Nat.le_of_ble_eq_true rfl) (c_CC_isBetween (fun b2 hb2 => ?_))
      refine go_if_ne 37 d_CC_put_32 rfl (fun h32 => ?_) (fun h32 => ?_)
      · obtain ⟨y0, y14⟩ := hb1.mp (bI_n0.mp h19)
        have z2 := hb2.mp (bI_n0.mp h32)
        obtain ⟨kd, hkd, rfl⟩ := nI_of2 (n := 14) (by decide) (Int32.not_lt.mpr y0) y14
        refine go_aload_n 0 d_CC_put_37 rfl rfl ?_
        refine go_iload_n 1 d_CC_put_38 rfl rfl ?_
        refine go_aload d_CC_put_39 rfl ?_
        refine go_iload_n 2 d_CC_put_41 rfl rfl ?_
        refine go_iload_n 3 d_CC_put_42 rfl rfl ?_
        refine go_V2 d_CC_put_43 k_CC_46 (by assumption) (Nat.le_of_ble_eq_true rfl) (c_Me_append hme g2 (by omega) (fun hlen => ?_) (fun hlen I1 c1 c2 c3 => ?_))
        · skip
          refine go_V2 d_CC_put_46 k_CC_50 (by assumption) (Nat.le_of_ble_eq_true rfl) (c_CC_noteChange (b := false) hp hk (fun _ => ?_) (fun h => by cases h))
          refine go_if_eq 62 d_CC_put_49 rfl (fun _ => ?_) (fun hn => absurd (rfl) hn)
          refine go_iconst (v := (-1)) d_CC_put_62 rfl ?_
          exact go_iret d_CC_put_63 rfl (hf (fun ⟨k', q1, q2, q3, q4, q5⟩ => by have e := (nI_eq (by omega) (by omega)).mp q2; subst e; exact hlen q5))
        · have hm1 : me_at R I1 k w ((S k).1 ++ [(kd, z)], (S k).2) := ⟨by rw [c3 0 (by decide)]; exact g1, c1, g3.kept (c3 5 (by decide)) rfl (fun q a b => c2 q (by omega) (by omega) (by omega)), by rw [c3 6 (by decide)]; exact g4⟩
          refine go_V2 d_CC_put_46 k_CC_50 (by assumption) (Nat.le_of_ble_eq_true rfl) (c_CC_note1 hp hc hk hm1 (fun _ _ => rfl) (fun q hq => c2 q (by omega) (by omega) (by omega)) (fun I2 e1 e2 e3 => ?_))
          refine go_if_eq 62 d_CC_put_49 rfl (fun hn => absurd hn (by decide)) (fun _ => ?_)
          refine go_aload d_CC_put_52 rfl ?_
          refine go_getI d_CC_put_54 f_CC_54 (by assumption) ?_
          refine go_iconst (v := 1) d_CC_put_57 rfl ?_
          refine go_isub d_CC_put_58 ?_
          refine go_goto 63 d_CC_put_59 rfl ?_
          have el : I2 (2 + 82 * k) 3 - 1 = nI (S k).1.length := by rw [e3 _ 3 (by decide), c1.1, List.length_append]; exact nI_pred _
          rw [el]
          exact go_iret d_CC_put_63 rfl (hQ k kd hk rfl (by omega) rfl z2 hlen I2 e1 e2)
      · refine go_iconst (v := (-1)) d_CC_put_35 rfl ?_
        first | exact go_iret d_CC_put_36 rfl (hf (fun ⟨k', q1, q2, q3, q4, q5⟩ => by rw [hb2.mpr q4] at h32; exact absurd h32 (by decide))) | exact go_iret d_CC_put_36 rfl (hf (fun ⟨k', q1, q2, q3, q4, q5⟩ => by rw [hb1.mpr q3] at h19; exact absurd h19 (by decide)))
theorem c_CC_clear {x : Int32} (hp : pt_CC sh R) (hc : cc_at R I S) (hf : ¬ (∃ k, k < 4 ∧ x = nI k) → Q (some (.int 0)) (n, sh, X, R, I, L)) (hQ : ∀ k, k < 4 → x = nI k → ∀ I', cc_at R I' (cc_chg k (va_up S k ([], [(0, cu_0)], (S k).2.2))) → (∀ q, q < 2 ∨ 330 ≤ q → I' q = I q) → Q (some (.int 1)) (n, sh, X, R, I', L)) : gw_Call y_CC_clear (d + 3) 0 0 [.ref 0, .int x] (n, sh, X, R, I, L) Q := by
  have s0 := hp.1
  refine gw_call o_CC_clear (Nat.le_of_ble_eq_true rfl) ?_
  refine go_aload_n 0 d_CC_clear_0 rfl rfl ?_
  refine go_iload_n 1 d_CC_clear_1 rfl rfl ?_
  refine go_V1 d_CC_clear_2 k_CC_38 (by assumption) (Nat.le_of_ble_eq_true rfl) (c_CC_methodAt hp (fun hN => ?_) (fun k hk e => ?_))
  · skip
    refine go_astore_nN 2 d_CC_clear_5 rfl (Nat.le_of_ble_eq_true rfl) ?_
    refine go_aload_nN 2 d_CC_clear_6 rfl rfl ?_
    refine go_ifnonnullN d_CC_clear_7 ?_
    refine go_iconst (v := 0) d_CC_clear_10 rfl ?_
    exact go_zret d_CC_clear_11 rfl (by first | exact Or.inl rfl | exact Or.inr rfl | assumption) (hf hN)
  · subst e
    obtain ⟨w, g1, g2, g3, g4⟩ := hc k hk
    have hme := (hp.2.2.2 k hk).2
    have sm := hme.1
    refine go_astore_n 2 d_CC_clear_5 rfl (Nat.le_of_ble_eq_true rfl) ?_
    refine go_aload_n 2 d_CC_clear_6 rfl rfl ?_
    refine go_ifnonnull 12 d_CC_clear_7 rfl ?_
    refine go_aload_n 2 d_CC_clear_12 rfl rfl ?_
    refine go_V0 d_CC_clear_13 k_CC_58 (by assumption) (Nat.le_of_ble_eq_true rfl) (c_Me_reset hme g3 (fun I1 c1 c2 c3 c4 => ?_))
    have hm1 : me_at R I1 k w ([], [(0, cu_0)], (S k).2.2) := ⟨by rw [c4 0 (by decide) (by decide)]; exact g1, c1, c2, by rw [c4 6 (by decide) (by decide)]; exact g4⟩
    refine go_aload_n 0 d_CC_clear_16 rfl rfl ?_
    refine go_iload_n 1 d_CC_clear_17 rfl rfl ?_
    refine go_iconst (v := 1) d_CC_clear_18 rfl ?_
    refine go_V2 d_CC_clear_19 k_CC_50 (by assumption) (Nat.le_of_ble_eq_true rfl) (c_CC_note1 hp hc hk hm1 (fun _ _ => rfl) c3 (fun I2 e1 e2 e3 => ?_))
    exact go_zret d_CC_clear_22 rfl (by first | exact Or.inl rfl | exact Or.inr rfl | assumption) (hQ k hk rfl I2 e1 e2)
theorem c_CC_cut {x y : Int32} (hp : pt_CC sh R) (hc : cc_at R I S) (hpl : ∀ k, k < 4 → ∀ c ∈ (S k).2.1, c.1 < 24) (hf : ¬ (∃ k p, k < 4 ∧ x = nI k ∧ p < 24 ∧ y = nI p ∧ (S k).2.1.length < 6 ∧ ∀ c ∈ (S k).2.1, c.1 ≠ p) → Q (some (.int 0)) (n, sh, X, R, I, L))
    (hQ : ∀ k p, k < 4 → x = nI k → p < 24 → y = nI p → (S k).2.1.length < 6 → (∀ c ∈ (S k).2.1, c.1 ≠ p) → ∀ (R' : Nat → Nat → Option Nat) (I' : Nat → Nat → Int32) (a : Nat), a ≤ (S k).2.1.length → (∀ i c, (S k).2.1[i]? = some c → a ≤ i → p < c.1) → (0 < a → ∃ c, (S k).2.1[a - 1]? = some c ∧ c.1 ≤ p) → cc_at R' I' (cc_chg k (va_up S k ((S k).1, cs_ins a p (S k).2.1, (S k).2.2))) → (∀ q, q ≠ 2 + 82 * k + 3 → R' q = R q) → (∀ q, q < 2 ∨ 330 ≤ q → I' q = I q) → Q (some (.int 1)) (n, sh, X, R', I', L)) : gw_Call y_CC_cut (d + 3) 0 0 [.ref 0, .int x, .int y] (n, sh, X, R, I, L) Q := by
  have s0 := hp.1
  refine gw_call o_CC_cut (Nat.le_of_ble_eq_true rfl) ?_
  refine go_aload_n 0 d_CC_cut_0 rfl rfl ?_
  refine go_iload_n 1 d_CC_cut_1 rfl rfl ?_
  refine go_V1 d_CC_cut_2 k_CC_38 (by assumption) (Nat.le_of_ble_eq_true rfl) (c_CC_methodAt hp (fun hN => ?_) (fun k hk e => ?_))
  · skip
    refine go_astore_nN 3 d_CC_cut_5 rfl (Nat.le_of_ble_eq_true rfl) ?_
    refine go_aload_nN 3 d_CC_cut_6 rfl rfl ?_
    refine go_ifnullN 27 d_CC_cut_7 rfl ?_
    refine go_iconst (v := 0) d_CC_cut_27 rfl ?_
    exact go_zret d_CC_cut_28 rfl (by first | exact Or.inl rfl | exact Or.inr rfl | assumption) (hf (fun ⟨k, p, a, b, _⟩ => hN ⟨k, a, b⟩))
  · subst e
    obtain ⟨w, g1, g2, g3, g4⟩ := hc k hk
    have hme := (hp.2.2.2 k hk).2
    have sm := hme.1
    refine go_astore_n 3 d_CC_cut_5 rfl (Nat.le_of_ble_eq_true rfl) ?_
    refine go_aload_n 3 d_CC_cut_6 rfl rfl ?_
    refine go_ifnull d_CC_cut_7 ?_
    refine go_aload_n 0 d_CC_cut_10 rfl rfl ?_
    refine go_iload_n 1 d_CC_cut_11 rfl rfl ?_
    refine go_aload_n 3 d_CC_cut_12 rfl rfl ?_
    refine go_iload_n 2 d_CC_cut_13 rfl rfl ?_
    refine go_V1 d_CC_cut_14 k_CC_61 (by assumption) (Nat.le_of_ble_eq_true rfl) (c_Me_addCut hme g3 (hpl k hk) (fun hno => ?_) (fun p hp24 ey hlen hne R1 I1 w1 a ha hgt hle hcs hR hI e1 e2 e3 => ?_))
    · skip
      refine go_V2 d_CC_cut_17 k_CC_50 (by assumption) (Nat.le_of_ble_eq_true rfl) (c_CC_noteChange (b := false) hp hk (fun _ => ?_) (fun h => by cases h))
      refine go_if_eq 27 d_CC_cut_20 rfl (fun _ => ?_) (fun hn => absurd (rfl) hn)
      refine go_iconst (v := 0) d_CC_cut_27 rfl ?_
      exact go_zret d_CC_cut_28 rfl (by first | exact Or.inl rfl | exact Or.inr rfl | assumption) (hf (fun ⟨k', p, q1, q2, q3, q4, q5, q6⟩ => by have e := (nI_eq (by omega) (by omega)).mp q2; subst e; exact hno ⟨p, q3, q4, q5, q6⟩))
    · have hm1 : me_at R1 I1 k w1 ((S k).1, cs_ins a p (S k).2.1, (S k).2.2) := ⟨by rw [e3 0 (by decide)]; exact g1, g2.kept (e3 3 (by decide)) e1 e2, hcs, by rw [e3 6 (by decide)]; exact g4⟩
      refine go_V2 d_CC_cut_17 k_CC_50 (by assumption) (Nat.le_of_ble_eq_true rfl) (c_CC_note1 hp hc hk hm1 hR hI (fun I2 f1 f2 f3 => ?_))
      refine go_if_eq 27 d_CC_cut_20 rfl (fun hn => absurd hn (by decide)) (fun _ => ?_)
      refine go_iconst (v := 1) d_CC_cut_23 rfl ?_
      refine go_goto 28 d_CC_cut_24 rfl ?_
      exact go_zret d_CC_cut_28 rfl (by first | exact Or.inl rfl | exact Or.inr rfl | assumption) (hQ k p hk rfl hp24 ey hlen hne R1 I2 a ha hgt hle f1 hR f2)
end PUB
