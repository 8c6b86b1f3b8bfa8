/-! claim, base, term -/
theorem cs_at.set {R : Nat → Nat → Option Nat} {I I' : Nat → Nat → Int32} {o i : Nat} {w : Nat → Nat} {l : List (Nat × ab_Cu)} {c : Nat × ab_Cu} {A : ab_Cu} (h : cs_at R I o w l) (hi : l[i]? = some c) (hn : cu_at I' (o + 4 + 13 * w i) c.1 A) (hI : ∀ q, q < o + 4 + 13 * w i ∨ o + 4 + 13 * w i + 13 ≤ q → I' q = I q) : cs_at R I' o w (l.set i (c.1, A)) := by
  obtain ⟨h1, h2, h3, h4, h5, h6⟩ := h
  have hil := (List.getElem?_eq_some_iff.mp hi).1
  refine ⟨by rw [hI o (by omega), List.length_set]; exact h1, by rw [List.length_set]; exact h2, h3, h4, h5, fun j c' hc => ?_⟩
  by_cases hj : j = i
  · subst hj
    rw [List.getElem?_set_self hil] at hc
    cases hc
    exact hn
  · rw [List.getElem?_set_ne (Ne.symm hj)] at hc
    have hjl := (List.getElem?_eq_some_iff.mp hc).1
    have hd : w j ≠ w i := fun he => hj (h4 j i (by omega) (by omega) he)
    exact (h6 j c' hc).kept (fun q a b => hI q (by omega))
def cu_pot (w : Nat) (A : ab_Cu) : ab_Po := if w = 0 then A.2.1 else A.2.2
def cu_setp (w : Nat) (p : ab_Po) (A : ab_Cu) : ab_Cu := if w = 0 then (A.1, p, A.2.2) else (A.1, A.2.1, p)
theorem cu_at.pot {I : Nat → Nat → Int32} {o p w : Nat} {A : ab_Cu} (h : cu_at I o p A) (hw : w < 2) : po_at I (o + 5 + 4 * w) (cu_pot w A) := by
  have : w = 0 ∨ w = 1 := by omega
  rcases this with rfl | rfl
  · exact h.2.2.2.2.1
  · exact h.2.2.2.2.2
theorem pt_Cu.pot {sh : Nat → Nat × Nat} {R : Nat → Nat → Option Nat} {o w : Nat} (h : pt_Cu sh R o) (hw : w < 2) : R (o + 4) w = some (o + 5 + 4 * w) ∧ pt_Po sh R (o + 5 + 4 * w) := by
  obtain ⟨s0, s1, s2, s3, s4, r2, r3, r4, r5, q0, q1, p0, p1⟩ := h
  have : w = 0 ∨ w = 1 := by omega
  rcases this with rfl | rfl
  · exact ⟨q0, p0⟩
  · exact ⟨q1, p1⟩
theorem cu_at.setp {I I' : Nat → Nat → Int32} {o p w : Nat} {A : ab_Cu} {P : ab_Po} (h : cu_at I o p A) (hw : w < 2) (hn : po_at I' (o + 5 + 4 * w) P) (hI : ∀ q, q < o + 5 + 4 * w ∨ o + 5 + 4 * w + 4 ≤ q → I' q = I q) : cu_at I' o p (cu_setp w P A) := by
  obtain ⟨h1, h2, h3, h4, h5, h6⟩ := h
  have : w = 0 ∨ w = 1 := by omega
  rcases this with rfl | rfl
  · exact ⟨by rw [hI o (by omega)]; exact h1, by rw [hI o (by omega)]; exact h2, h3, fun j t ht => by rw [hI (o + 1) (by omega), hI (o + 2) (by omega), hI (o + 3) (by omega)]; exact h4 j t ht, hn, h6.kept (fun q a b => hI q (by omega))⟩
  · exact ⟨by rw [hI o (by omega)]; exact h1, by rw [hI o (by omega)]; exact h2, h3, fun j t ht => by rw [hI (o + 1) (by omega), hI (o + 2) (by omega), hI (o + 3) (by omega)]; exact h4 j t ht, h5.kept (fun q a b => hI q (by omega)), hn⟩
section PU2
variable {d n : Nat} {sh : Nat → Nat × Nat} {X : Nat × (Nat → Int32)} {R : Nat → Nat → Option Nat} {I : Nat → Nat → Int32} {L : Nat → Nat → Int64} {Q : Option Value → gw_Mem → Prop} {S : Nat → ab_Me}
theorem c_CC_cutAt {x y : Int32} (hp : pt_CC sh R) (hc : cc_at R I S) (hN : ¬ (∃ k c, k < 4 ∧ x = nI k ∧ c ∈ (S k).2.1 ∧ nI c.1 = y) → Q (some .null) (n, sh, X, R, I, L)) (hS : ∀ k i c w, k < 4 → x = nI k → me_at R I k w (S k) → (S k).2.1[i]? = some c → nI c.1 = y → Q (some (.ref (2 + 82 * k + 4 + 13 * w i))) (n, sh, X, R, I, L)) : gw_Call y_CC_cutAt (d + 1) 0 0 [.ref 0, .int x, .int y] (n, sh, X, R, I, L) Q := by
  have s0 := hp.1
  refine gw_call o_CC_cutAt (Nat.le_of_ble_eq_true rfl) ?_
  refine go_aload_n 0 d_CC_cutAt_0 rfl rfl ?_
  refine go_iload_n 1 d_CC_cutAt_1 rfl rfl ?_
  refine go_V1 d_CC_cutAt_2 k_CC_38 (by assumption) (Nat.le_of_ble_eq_true rfl) (c_CC_methodAt hp (fun hno => ?_) (fun k hk e => ?_))
  · skip
    refine go_astore_nN 3 d_CC_cutAt_5 rfl (Nat.le_of_ble_eq_true rfl) ?_
    refine go_aload_nN 3 d_CC_cutAt_6 rfl rfl ?_
    refine go_ifnonnullN d_CC_cutAt_7 ?_
    refine go_null d_CC_cutAt_10 ?_
    refine go_goto 19 d_CC_cutAt_11 rfl ?_
    exact go_nret d_CC_cutAt_19 rfl (hN (fun ⟨k, c, a, b, _⟩ => hno ⟨k, a, b⟩))
  · subst e
    obtain ⟨w, hw⟩ := hc k hk
    have hme := (hp.2.2.2 k hk).2
    have sm := hme.1
    refine go_astore_n 3 d_CC_cutAt_5 rfl (Nat.le_of_ble_eq_true rfl) ?_
    refine go_aload_n 3 d_CC_cutAt_6 rfl rfl ?_
    refine go_ifnonnull 14 d_CC_cutAt_7 rfl ?_
    refine go_aload_n 3 d_CC_cutAt_14 rfl rfl ?_
    refine go_iload_n 2 d_CC_cutAt_15 rfl rfl ?_
    refine go_V1 d_CC_cutAt_16 k_CC_146 (by assumption) (Nat.le_of_ble_eq_true rfl) (c_Me_findCut hme hw.2.2.1 (fun hno => ?_) (fun i c hi he => ?_))
    · exact go_nret d_CC_cutAt_19 rfl (hN (fun ⟨k', c, a, b, c1, c2⟩ => by have e := (nI_eq (by omega) (by omega)).mp b; subst e; exact hno c c1 c2))
    · exact go_aret d_CC_cutAt_19 rfl (hS k i c w hk rfl hw hi he)
theorem c_CC_claim {x y a b c : Int32} (hp : pt_CC sh R) (hc : cc_at R I S) (hpl : ∀ k, k < 4 → ∀ c ∈ (S k).2.1, c.1 < 24)
    (hf : ¬ (∃ k e, k < 4 ∧ x = nI k ∧ e ∈ (S k).2.1 ∧ nI e.1 = y ∧ ((0 ≤ a ∧ a ≤ 4) ∧ (0 ≤ b ∧ b ≤ 4) ∧ a ≠ b) ∧ (-1000 ≤ c ∧ c ≤ 1000) ∧ e.2.1.length < 6) → Q (some (.int 0)) (n, sh, X, R, I, L))
    (hu : ∀ k, k < 4 → ∀ (i j : Nat) (e f : Nat × ab_Cu), (S k).2.1[i]? = some e → (S k).2.1[j]? = some f → e.1 = f.1 → i = j)
    (hQ : ∀ k i e a' b', k < 4 → x = nI k → (S k).2.1[i]? = some e → nI e.1 = y → a' < 5 → a = nI a' → b' < 5 → b = nI b' → a' ≠ b' → (-1000 ≤ c ∧ c ≤ 1000) → e.2.1.length < 6 → ∀ I', cc_at R I' (cc_chg k (va_up S k ((S k).1, (S k).2.1.set i (e.1, (e.2.1 ++ [(a', b', c)], e.2.2)), (S k).2.2))) → (∀ q, q < 2 ∨ 330 ≤ q → I' q = I q) → Q (some (.int 1)) (n, sh, X, R, I', L)) : gw_Call y_CC_claim (d + 2) 0 0 [.ref 0, .int x, .int y, .int a, .int b, .int c] (n, sh, X, R, I, L) Q := by
  have s0 := hp.1
  refine gw_call o_CC_claim (Nat.le_of_ble_eq_true rfl) ?_
  refine go_aload_n 0 d_CC_claim_0 rfl rfl ?_
  refine go_iload_n 1 d_CC_claim_1 rfl rfl ?_
  refine go_iload_n 2 d_CC_claim_2 rfl rfl ?_
  refine go_V2 d_CC_claim_3 k_CC_65 (by assumption) (Nat.le_of_ble_eq_true rfl) (c_CC_cutAt hp hc (fun hno => ?_) (fun k i e w hk ex hw hi he => ?_))
  · skip
    refine go_astoreN d_CC_claim_6 (Nat.le_of_ble_eq_true rfl) ?_
    refine go_aloadN d_CC_claim_8 rfl ?_
    refine go_ifnullN 36 d_CC_claim_10 rfl ?_
    refine go_iconst (v := 0) d_CC_claim_36 rfl ?_
    exact go_zret d_CC_claim_37 rfl (by first | exact Or.inl rfl | exact Or.inr rfl | assumption) (hf (fun ⟨k, e, q1, q2, q3, q4, _⟩ => hno ⟨k, e, q1, q2, q3, q4⟩))
  · subst ex
    obtain ⟨g1, g2, g3, g4⟩ := hw
    have hme := (hp.2.2.2 k hk).2
    have hil := (List.getElem?_eq_some_iff.mp hi).1
    have hw6 := g3.2.2.1 i (by have := g3.2.1; omega)
    have hcu := hme.2.2.2.2.2.2.2 (w i) hw6
    have sc := hcu.1
    have hca := g3.2.2.2.2.2 i e hi
    refine go_astore d_CC_claim_6 (Nat.le_of_ble_eq_true rfl) ?_
    refine go_aload d_CC_claim_8 rfl ?_
    refine go_ifnull d_CC_claim_10 ?_
    refine go_iload_n 3 d_CC_claim_13 rfl rfl ?_
    refine go_iload d_CC_claim_14 rfl ?_
    refine go_S2 d_CC_claim_16 k_CC_69 (Nat.le_of_ble_eq_true rfl) (c_CC_areTwoSides (fun b1 hb1 => ?_))
    refine go_if_eq 36 d_CC_claim_19 rfl (fun h19 => ?_) (fun h19 => ?_)
    · refine go_iconst (v := 0) d_CC_claim_36 rfl ?_
      first | exact go_zret d_CC_claim_37 rfl (Or.inl rfl) (hf (fun ⟨k', e', q1, q2, q3, q4, q5, q6, q7⟩ => by rw [hb2.mpr q6] at h33; exact absurd h33 (by decide))) | exact go_zret d_CC_claim_37 rfl (Or.inl rfl) (hf (fun ⟨k', e', q1, q2, q3, q4, q5, q6, q7⟩ => by rw [hb1.mpr q5] at h19; exact absurd h19 (by decide)))
    · refine go_iload d_CC_claim_22 rfl ?_
      refine go_sipush (v := (-1000)) d_CC_claim_24 rfl ?_
      refine go_sipush (v := 1000) d_CC_claim_27 rfl ?_
      refine go_S3 d_CC_claim_30 k_CC_42 (Nat.le_of_ble_eq_true rfl) (c_CC_isBetween (fun b2 hb2 => ?_))
      refine go_if_ne 38 d_CC_claim_33 rfl (fun h33 => ?_) (fun h33 => ?_)
      · obtain ⟨⟨y0, y4⟩, ⟨z0, z4⟩, hab⟩ := hb1.mp (bI_n0.mp h19)
        have hc2 := hb2.mp (bI_n0.mp h33)
        obtain ⟨a', ha', rfl⟩ := nI_of2 (n := 4) (by decide) (Int32.not_lt.mpr y0) y4
        obtain ⟨b', hb', rfl⟩ := nI_of2 (n := 4) (by decide) (Int32.not_lt.mpr z0) z4
        refine go_aload_n 0 d_CC_claim_38 rfl rfl ?_
        refine go_iload_n 1 d_CC_claim_39 rfl rfl ?_
        refine go_aload d_CC_claim_40 rfl ?_
        refine go_iload_n 3 d_CC_claim_42 rfl rfl ?_
        refine go_iload d_CC_claim_43 rfl ?_
        refine go_iload d_CC_claim_45 rfl ?_
        refine go_V3 d_CC_claim_47 k_CC_72 (by assumption) (Nat.le_of_ble_eq_true rfl) (c_Cu_addClaim hcu hca (by omega) (by omega) (fun hlen => ?_) (fun hlen I1 c1 c2 => ?_))
        · skip
          refine go_V2 d_CC_claim_50 k_CC_50 (by assumption) (Nat.le_of_ble_eq_true rfl) (c_CC_noteChange (b := false) hp hk (fun _ => ?_) (fun h => by cases h))
          exact go_zret d_CC_claim_53 rfl (by first | exact Or.inl rfl | exact Or.inr rfl | assumption) (hf (fun ⟨k', e', q1, q2, q3, q4, q5, q6, q7⟩ => by have ek := (nI_eq (by omega) (by omega)).mp q2; subst ek; obtain ⟨j, hj⟩ := List.getElem?_of_mem q3; have hp1 := hpl k hk e (List.mem_of_getElem? hi); have hp2 := hpl k hk e' q3; have ep : e.1 = e'.1 := (nI_eq (by omega) (by omega)).mp (he.trans q4.symm); have ej := hu k hk i j e e' hi hj ep; subst ej; rw [hi] at hj; cases hj; exact hlen q7))
        · have hm1 : me_at R I1 k w ((S k).1, (S k).2.1.set i (e.1, (e.2.1 ++ [(a', b', c)], e.2.2)), (S k).2.2) := ⟨by rw [c2 _ (by omega)]; exact g1, g2.kept (by rw [c2 _ (by omega)]) (c2 _ (by omega)) (c2 _ (by omega)), g3.set hi c1 c2, by rw [c2 _ (by omega)]; exact g4⟩
          refine go_V2 d_CC_claim_50 k_CC_50 (by assumption) (Nat.le_of_ble_eq_true rfl) (c_CC_note1 hp hc hk hm1 (fun _ _ => rfl) (fun q hq => c2 q (by omega)) (fun I2 e1 e2 e3 => ?_))
          exact go_zret d_CC_claim_53 rfl (by first | exact Or.inl rfl | exact Or.inr rfl | assumption) (hQ k i e a' b' hk rfl hi he (by omega) rfl (by omega) rfl (fun h => hab (by rw [h])) hc2 hlen I2 e1 e2)
      · refine go_iconst (v := 0) d_CC_claim_36 rfl ?_
        first | exact go_zret d_CC_claim_37 rfl (Or.inl rfl) (hf (fun ⟨k', e', q1, q2, q3, q4, q5, q6, q7⟩ => by rw [hb2.mpr q6] at h33; exact absurd h33 (by decide))) | exact go_zret d_CC_claim_37 rfl (Or.inl rfl) (hf (fun ⟨k', e', q1, q2, q3, q4, q5, q6, q7⟩ => by rw [hb1.mpr q5] at h19; exact absurd h19 (by decide)))
theorem c_CC_base {x y a b : Int32} (hp : pt_CC sh R) (hc : cc_at R I S)
    (hf : ¬ (∃ k e, k < 4 ∧ x = nI k ∧ e ∈ (S k).2.1 ∧ nI e.1 = y ∧ (0 ≤ a ∧ a ≤ 1) ∧ (-10000 ≤ b ∧ b ≤ 10000)) → Q (some (.int 0)) (n, sh, X, R, I, L))
    (hQ : ∀ k i e v, k < 4 → x = nI k → (S k).2.1[i]? = some e → nI e.1 = y → v < 2 → a = nI v → (-10000 ≤ b ∧ b ≤ 10000) → ∀ I', cc_at R I' (cc_chg k (va_up S k ((S k).1, (S k).2.1.set i (e.1, cu_setp v (b, (cu_pot v e.2).2) e.2), (S k).2.2))) → (∀ q, q < 2 ∨ 330 ≤ q → I' q = I q) → Q (some (.int 1)) (n, sh, X, R, I', L)) : gw_Call y_CC_base (d + 3) 0 0 [.ref 0, .int x, .int y, .int a, .int b] (n, sh, X, R, I, L) Q := by
  have s0 := hp.1
  refine gw_call o_CC_base (Nat.le_of_ble_eq_true rfl) ?_
  refine go_aload_n 0 d_CC_base_0 rfl rfl ?_
  refine go_iload_n 1 d_CC_base_1 rfl rfl ?_
  refine go_iload_n 2 d_CC_base_2 rfl rfl ?_
  refine go_V2 d_CC_base_3 k_CC_65 (by assumption) (Nat.le_of_ble_eq_true rfl) (c_CC_cutAt hp hc (fun hno => ?_) (fun k i e w hk ex hw hi he => ?_))
  · skip
    refine go_astoreN d_CC_base_6 (Nat.le_of_ble_eq_true rfl) ?_
    refine go_aloadN d_CC_base_8 rfl ?_
    refine go_ifnullN 34 d_CC_base_10 rfl ?_
    refine go_iconst (v := 0) d_CC_base_34 rfl ?_
    exact go_zret d_CC_base_35 rfl (by first | exact Or.inl rfl | exact Or.inr rfl | assumption) (hf (fun ⟨k, e, q1, q2, q3, q4, _⟩ => hno ⟨k, e, q1, q2, q3, q4⟩))
  · subst ex
    obtain ⟨g1, g2, g3, g4⟩ := hw
    have hme := (hp.2.2.2 k hk).2
    have hil := (List.getElem?_eq_some_iff.mp hi).1
    have hw6 := g3.2.2.1 i (by have := g3.2.1; omega)
    have hcu := hme.2.2.2.2.2.2.2 (w i) hw6
    have sc := hcu.1
    have s4c := hcu.2.2.2.2.1
    have r5c := hcu.2.2.2.2.2.2.2.2.1
    have hca := g3.2.2.2.2.2 i e hi
    refine go_astore d_CC_base_6 (Nat.le_of_ble_eq_true rfl) ?_
    refine go_aload d_CC_base_8 rfl ?_
    refine go_ifnull d_CC_base_10 ?_
    refine go_iload_n 3 d_CC_base_13 rfl rfl ?_
    refine go_S1 d_CC_base_14 k_CC_77 (Nat.le_of_ble_eq_true rfl) (c_CC_isPotential (fun b1 hb1 => ?_))
    refine go_if_eq 34 d_CC_base_17 rfl (fun h17 => ?_) (fun h17 => ?_)
    · refine go_iconst (v := 0) d_CC_base_34 rfl ?_
      first | exact go_zret d_CC_base_35 rfl (Or.inl rfl) (hf (fun ⟨k', e', q1, q2, q3, q4, q5, q6⟩ => by rw [hb2.mpr q6] at h31; exact absurd h31 (by decide))) | exact go_zret d_CC_base_35 rfl (Or.inl rfl) (hf (fun ⟨k', e', q1, q2, q3, q4, q5, q6⟩ => by rw [hb1.mpr q5] at h17; exact absurd h17 (by decide)))
    · refine go_iload d_CC_base_20 rfl ?_
      refine go_sipush (v := (-10000)) d_CC_base_22 rfl ?_
      refine go_sipush (v := 10000) d_CC_base_25 rfl ?_
      refine go_S3 d_CC_base_28 k_CC_42 (Nat.le_of_ble_eq_true rfl) (c_CC_isBetween (fun b2 hb2 => ?_))
      refine go_if_ne 36 d_CC_base_31 rfl (fun h31 => ?_) (fun h31 => ?_)
      · obtain ⟨y0, y1⟩ := hb1.mp (bI_n0.mp h17)
        have hc2 := hb2.mp (bI_n0.mp h31)
        obtain ⟨v, hv, rfl⟩ := nI_of2 (n := 1) (by decide) (Int32.not_lt.mpr y0) y1
        obtain ⟨hrp, hpp⟩ := hcu.pot (w := v) (by omega)
        have sp := hpp.1
        have hpo := hca.pot (w := v) (by omega)
        refine go_aload d_CC_base_36 rfl ?_
        refine go_getR d_CC_base_38 f_CC_80 (by assumption) (by assumption) ?_
        refine go_iload_n 3 d_CC_base_41 rfl rfl ?_
        refine go_aald (t := 2) (v) d_CC_base_42 (by assumption) (by decide) (rfl) (by omega) (by decide) (by assumption) ?_
        refine go_iload d_CC_base_43 rfl ?_
        refine go_putI d_CC_base_45 f_CC_84 (by assumption) ?_
        have hpo1 : po_at (va_up I (2 + 82 * k + 4 + 13 * w i + 5 + 4 * v) (va_up (I (2 + 82 * k + 4 + 13 * w i + 5 + 4 * v)) 0 b)) (2 + 82 * k + 4 + 13 * w i + 5 + 4 * v) (b, (cu_pot v e.2).2) := ⟨by simp [va_up], by simp [va_up]; exact hpo.2.1, hpo.2.2.1, fun j t ht => by simp [va_up]; exact hpo.2.2.2 j t ht⟩
        have c2 : ∀ q, q ≠ 2 + 82 * k + 4 + 13 * w i + 5 + 4 * v → va_up I (2 + 82 * k + 4 + 13 * w i + 5 + 4 * v) (va_up (I (2 + 82 * k + 4 + 13 * w i + 5 + 4 * v)) 0 b) q = I q := fun q hq => gw_up_ne hq
        have hcu1 := hca.setp (w := v) (by omega) hpo1 (fun q hq => c2 q (by omega))
        have hm1 : me_at R (va_up I (2 + 82 * k + 4 + 13 * w i + 5 + 4 * v) (va_up (I (2 + 82 * k + 4 + 13 * w i + 5 + 4 * v)) 0 b)) k w ((S k).1, (S k).2.1.set i (e.1, cu_setp v (b, (cu_pot v e.2).2) e.2), (S k).2.2) := ⟨by rw [c2 _ (by omega)]; exact g1, g2.kept (by rw [c2 _ (by omega)]) (c2 _ (by omega)) (c2 _ (by omega)), g3.set hi hcu1 (fun q hq => c2 q (by omega)), by rw [c2 _ (by omega)]; exact g4⟩
        refine go_aload_n 0 d_CC_base_48 rfl rfl ?_
        refine go_iload_n 1 d_CC_base_49 rfl rfl ?_
        refine go_iconst (v := 1) d_CC_base_50 rfl ?_
        refine go_V2 d_CC_base_51 k_CC_50 (by assumption) (Nat.le_of_ble_eq_true rfl) (c_CC_note1 hp hc hk hm1 (fun _ _ => rfl) (fun q hq => c2 q (by omega)) (fun I2 e1 e2 e3 => ?_))
        exact go_zret d_CC_base_54 rfl (by first | exact Or.inl rfl | exact Or.inr rfl | assumption) (hQ k i e v hk rfl hi he (by omega) rfl hc2 I2 e1 e2)
      · refine go_iconst (v := 0) d_CC_base_34 rfl ?_
        first | exact go_zret d_CC_base_35 rfl (Or.inl rfl) (hf (fun ⟨k', e', q1, q2, q3, q4, q5, q6⟩ => by rw [hb2.mpr q6] at h31; exact absurd h31 (by decide))) | exact go_zret d_CC_base_35 rfl (Or.inl rfl) (hf (fun ⟨k', e', q1, q2, q3, q4, q5, q6⟩ => by rw [hb1.mpr q5] at h17; exact absurd h17 (by decide)))
end PU2
