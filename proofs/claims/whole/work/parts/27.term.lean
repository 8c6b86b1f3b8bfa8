/-! term, accepted -/
section PU3
variable {d n : Nat} {sh : Nat → Nat × Nat} {X : Nat × (Nat → Int32)} {R : Nat → Nat → Option Nat} {I : Nat → Nat → Int32} {L : Nat → Nat → Int64} {Q : Option Value → gw_Mem → Prop} {S : Nat → ab_Me}
theorem c_CC_term {x y a f z : Int32} (hp : pt_CC sh R) (hc : cc_at R I S) (hpl : ∀ k, k < 4 → ∀ c ∈ (S k).2.1, c.1 < 24)
    (hu : ∀ k, k < 4 → ∀ (i j : Nat) (e f : Nat × ab_Cu), (S k).2.1[i]? = some e → (S k).2.1[j]? = some f → e.1 = f.1 → i = j)
    (hf : ¬ (∃ k e v s, k < 4 ∧ x = nI k ∧ e ∈ (S k).2.1 ∧ nI e.1 = y ∧ v < 2 ∧ a = nI v ∧ (1 ≤ f ∧ f ≤ 100) ∧ s < 25 ∧ z = nI s ∧ s / 5 ≠ s % 5 ∧ (cu_pot v e.2).2.length < 3) → Q (some (.int 0)) (n, sh, X, R, I, L))
    (hQ : ∀ k i e v g s, k < 4 → x = nI k → (S k).2.1[i]? = some e → nI e.1 = y → v < 2 → a = nI v → 1 ≤ g → g ≤ 100 → f = nI g → s < 25 → z = nI s → s / 5 ≠ s % 5 → (cu_pot v e.2).2.length < 3 → ∀ I', cc_at R I' (cc_chg k (va_up S k ((S k).1, (S k).2.1.set i (e.1, cu_setp v ((cu_pot v e.2).1, (cu_pot v e.2).2 ++ [(g, s / 5, s % 5)]) e.2), (S k).2.2))) → (∀ q, q < 2 ∨ 330 ≤ q → I' q = I q) → Q (some (.int 1)) (n, sh, X, R, I', L)) : gw_Call y_CC_term (d + 3) 0 0 [.ref 0, .int x, .int y, .int a, .int f, .int z] (n, sh, X, R, I, L) Q := by
  have s0 := hp.1
  refine gw_call o_CC_term (Nat.le_of_ble_eq_true rfl) ?_
  refine go_aload_n 0 d_CC_term_0 rfl rfl ?_
  refine go_iload_n 1 d_CC_term_1 rfl rfl ?_
  refine go_iload_n 2 d_CC_term_2 rfl rfl ?_
  refine go_V2 d_CC_term_3 k_CC_65 (by assumption) (Nat.le_of_ble_eq_true rfl) (c_CC_cutAt hp hc (fun hno => ?_) (fun k i e w hk ex hw hi he => ?_))
  · skip
    refine go_astoreN d_CC_term_6 (Nat.le_of_ble_eq_true rfl) ?_
    refine go_aloadN d_CC_term_8 rfl ?_
    refine go_ifnullN 31 d_CC_term_10 rfl ?_
    refine go_iconst (v := 0) d_CC_term_31 rfl ?_
    exact go_zret d_CC_term_32 rfl (by first | exact Or.inl rfl | exact Or.inr rfl | assumption) (hf (fun ⟨k, e, v, s, q1, q2, q3, q4, _⟩ => hno ⟨k, e, q1, q2, q3, q4⟩))
  · subst ex
    obtain ⟨g1, g2, g3, g4⟩ := hw
    have hme := (hp.2.2.2 k hk).2
    have hil := (List.getElem?_eq_some_iff.mp hi).1
    have hw6 := g3.2.2.1 i (by have := g3.2.1; omega)
    have hcu := hme.2.2.2.2.2.2.2 (w i) hw6
    have sc := hcu.1
    have s4c := hcu.2.2.2.2.1
    have r5c := hcu.2.2.2.2.2.2.2.2.1
    have hca := g3.2.2.2.2.2 i e hi
    refine go_astore d_CC_term_6 (Nat.le_of_ble_eq_true rfl) ?_
    refine go_aload d_CC_term_8 rfl ?_
    refine go_ifnull d_CC_term_10 ?_
    refine go_iload_n 3 d_CC_term_13 rfl rfl ?_
    refine go_S1 d_CC_term_14 k_CC_77 (Nat.le_of_ble_eq_true rfl) (c_CC_isPotential (fun b1 hb1 => ?_))
    refine go_if_eq 31 d_CC_term_17 rfl (fun h17 => ?_) (fun h17 => ?_)
    · refine go_iconst (v := 0) d_CC_term_31 rfl ?_
      first | exact go_zret d_CC_term_32 rfl (Or.inl rfl) (hf (fun ⟨k', e', v, s, q1, q2, q3, q4, q5, q6, q7, _⟩ => by rw [hb2.mpr q7] at h28; exact absurd h28 (by decide))) | exact go_zret d_CC_term_32 rfl (Or.inl rfl) (hf (fun ⟨k', e', v, s, q1, q2, q3, q4, q5, q6, q7, _⟩ => by rw [hb1.mpr ⟨by rw [q6]; exact nI_pos' (by omega), by rw [q6]; exact nI_le (b := 1) (by omega) (by decide)⟩] at h17; exact absurd h17 (by decide)))
    · refine go_iload d_CC_term_20 rfl ?_
      refine go_iconst (v := 1) d_CC_term_22 rfl ?_
      refine go_bipush (v := 100) d_CC_term_23 rfl ?_
      refine go_S3 d_CC_term_25 k_CC_42 (Nat.le_of_ble_eq_true rfl) (c_CC_isBetween (fun b2 hb2 => ?_))
      refine go_if_ne 33 d_CC_term_28 rfl (fun h28 => ?_) (fun h28 => ?_)
      · obtain ⟨y0, y1⟩ := hb1.mp (bI_n0.mp h17)
        have hc2 := hb2.mp (bI_n0.mp h28)
        obtain ⟨v, hv, rfl⟩ := nI_of2 (n := 1) (by decide) (Int32.not_lt.mpr y0) y1
        obtain ⟨g, hg, rfl⟩ := nI_of2 (n := 100) (by decide) (fun hh => absurd (Int32.le_trans (show (0 : Int32) ≤ 1 by decide) hc2.1) (Int32.not_le.mpr hh)) hc2.2
        have hg1 : 1 ≤ g := (nI_leI (a := 1) (by decide) (by omega)).mp hc2.1
        refine go_iload d_CC_term_33 rfl ?_
        refine go_iconst (v := 0) d_CC_term_35 rfl ?_
        refine go_bipush (v := 24) d_CC_term_36 rfl ?_
        refine go_S3 d_CC_term_38 k_CC_42 (Nat.le_of_ble_eq_true rfl) (c_CC_isBetween (fun b3 hb3 => ?_))
        refine go_if_eq 58 d_CC_term_41 rfl (fun h41 => ?_) (fun h41 => ?_)
        · refine go_iconst (v := 0) d_CC_term_58 rfl ?_
          first | exact go_zret d_CC_term_59 rfl (Or.inl rfl) (hf (fun ⟨k', e', v', s', q1, q2, q3, q4, q5, q6, q7, q8, q9, q10, q11⟩ => by have es := (nI_eq (by omega) (by omega)).mp q9; subst es; rw [hb4.mpr ⟨⟨nI_pos' (by omega), nI_le (b := 4) (by omega) (by decide)⟩, ⟨nI_pos' (by omega), nI_le (b := 4) (by omega) (by decide)⟩, fun hh => q10 ((nI_eq (by omega) (by omega)).mp hh)⟩] at h55; exact absurd h55 (by decide))) | exact go_zret d_CC_term_59 rfl (Or.inl rfl) (hf (fun ⟨k', e', v', s', q1, q2, q3, q4, q5, q6, q7, q8, q9, q10, q11⟩ => by rw [hb3.mpr ⟨by rw [q9]; exact nI_pos' (by omega), by rw [q9]; exact nI_le (b := 24) (by omega) (by decide)⟩] at h41; exact absurd h41 (by decide)))
        · obtain ⟨z0, z24⟩ := hb3.mp (bI_n0.mp h41)
          obtain ⟨s, hs, rfl⟩ := nI_of2 (n := 24) (by decide) (Int32.not_lt.mpr z0) z24
          have er : nI s - nI s / 5 * 5 = nI (s % 5) := pk_rem (d := 5) (by omega) (by decide) (by decide)
          have ed : nI s / 5 = nI (s / 5) := pk_div (d := 5) (by omega) (by decide) (by decide)
          refine go_iload d_CC_term_44 rfl ?_
          refine go_iconst (v := 5) d_CC_term_46 rfl ?_
          refine go_idiv d_CC_term_47 (by decide) ?_
          refine go_iload d_CC_term_48 rfl ?_
          refine go_iconst (v := 5) d_CC_term_50 rfl ?_
          refine go_irem d_CC_term_51 (by decide) ?_
          rw [er, ed]
          refine go_S2 d_CC_term_52 k_CC_69 (Nat.le_of_ble_eq_true rfl) (c_CC_areTwoSides (fun b4 hb4 => ?_))
          refine go_if_ne 60 d_CC_term_55 rfl (fun h55 => ?_) (fun h55 => ?_)
          · have hab := (hb4.mp (bI_n0.mp h55)).2.2
            have hab' : s / 5 ≠ s % 5 := fun hh => hab (by rw [hh])
            obtain ⟨hrp, hpp⟩ := hcu.pot (w := v) (by omega)
            have sp := hpp.1
            have hpo := hca.pot (w := v) (by omega)
            refine go_aload_n 0 d_CC_term_60 rfl rfl ?_
            refine go_iload_n 1 d_CC_term_61 rfl rfl ?_
            refine go_aload d_CC_term_62 rfl ?_
            refine go_getR d_CC_term_64 f_CC_80 (by assumption) (by assumption) ?_
            refine go_iload_n 3 d_CC_term_67 rfl rfl ?_
            refine go_aald (t := 2) (v) d_CC_term_68 (by assumption) (by decide) (rfl) (by omega) (by decide) (by assumption) ?_
            refine go_iload d_CC_term_69 rfl ?_
            refine go_iload d_CC_term_71 rfl ?_
            refine go_iconst (v := 5) d_CC_term_73 rfl ?_
            refine go_idiv d_CC_term_74 (by decide) ?_
            refine go_iload d_CC_term_75 rfl ?_
            refine go_iconst (v := 5) d_CC_term_77 rfl ?_
            refine go_irem d_CC_term_78 (by decide) ?_
            rw [er, ed]
            refine go_V3 d_CC_term_79 k_CC_89 (by assumption) (Nat.le_of_ble_eq_true rfl) (c_Po_addTerm hpp hpo (by omega) (by omega) (fun hlen => ?_) (fun hlen I1 c1 c2 => ?_))
            · skip
              refine go_V2 d_CC_term_82 k_CC_50 (by assumption) (Nat.le_of_ble_eq_true rfl) (c_CC_noteChange (b := false) hp hk (fun _ => ?_) (fun h => by cases h))
              exact go_zret d_CC_term_85 rfl (by first | exact Or.inl rfl | exact Or.inr rfl | assumption) (hf (fun ⟨k', e', v', s', q1, q2, q3, q4, q5, q6, q7, q8, q9, q10, q11⟩ => by have ek := (nI_eq (by omega) (by omega)).mp q2; subst ek; have ev := (nI_eq (by omega) (by omega)).mp q6; subst ev; obtain ⟨j, hj⟩ := List.getElem?_of_mem q3; have hp1 := hpl k hk e (List.mem_of_getElem? hi); have hp2 := hpl k hk e' q3; have ep : e.1 = e'.1 := (nI_eq (by omega) (by omega)).mp (he.trans q4.symm); have ej := hu k hk i j e e' hi hj ep; subst ej; rw [hi] at hj; cases hj; exact hlen q11))
            · have hcu1 := hca.setp (w := v) (by omega) c1 c2
              have hm1 : me_at R I1 k w ((S k).1, (S k).2.1.set i (e.1, cu_setp v ((cu_pot v e.2).1, (cu_pot v e.2).2 ++ [(g, s / 5, s % 5)]) e.2), (S k).2.2) := ⟨by rw [c2 _ (by omega)]; exact g1, g2.kept (by rw [c2 _ (by omega)]) (c2 _ (by omega)) (c2 _ (by omega)), g3.set hi hcu1 (fun q hq => c2 q (by omega)), by rw [c2 _ (by omega)]; exact g4⟩
              refine go_V2 d_CC_term_82 k_CC_50 (by assumption) (Nat.le_of_ble_eq_true rfl) (c_CC_note1 hp hc hk hm1 (fun _ _ => rfl) (fun q hq => c2 q (by omega)) (fun I2 e1 e2 e3 => ?_))
              exact go_zret d_CC_term_85 rfl (by first | exact Or.inl rfl | exact Or.inr rfl | assumption) (hQ k i e v g s hk rfl hi he (by omega) rfl hg1 hg rfl (by omega) rfl hab' hlen I2 e1 e2)
          · refine go_iconst (v := 0) d_CC_term_58 rfl ?_
            first | exact go_zret d_CC_term_59 rfl (Or.inl rfl) (hf (fun ⟨k', e', v', s', q1, q2, q3, q4, q5, q6, q7, q8, q9, q10, q11⟩ => by have es := (nI_eq (by omega) (by omega)).mp q9; subst es; rw [hb4.mpr ⟨⟨nI_pos' (by omega), nI_le (b := 4) (by omega) (by decide)⟩, ⟨nI_pos' (by omega), nI_le (b := 4) (by omega) (by decide)⟩, fun hh => q10 ((nI_eq (by omega) (by omega)).mp hh)⟩] at h55; exact absurd h55 (by decide))) | exact go_zret d_CC_term_59 rfl (Or.inl rfl) (hf (fun ⟨k', e', v', s', q1, q2, q3, q4, q5, q6, q7, q8, q9, q10, q11⟩ => by rw [hb3.mpr ⟨by rw [q9]; exact nI_pos' (by omega), by rw [q9]; exact nI_le (b := 24) (by omega) (by decide)⟩] at h41; exact absurd h41 (by decide)))
      · refine go_iconst (v := 0) d_CC_term_31 rfl ?_
        first | exact go_zret d_CC_term_32 rfl (Or.inl rfl) (hf (fun ⟨k', e', v, s, q1, q2, q3, q4, q5, q6, q7, _⟩ => by rw [hb2.mpr q7] at h28; exact absurd h28 (by decide))) | exact go_zret d_CC_term_32 rfl (Or.inl rfl) (hf (fun ⟨k', e', v, s, q1, q2, q3, q4, q5, q6, q7, _⟩ => by rw [hb1.mpr ⟨by rw [q6]; exact nI_pos' (by omega), by rw [q6]; exact nI_le (b := 1) (by omega) (by decide)⟩] at h17; exact absurd h17 (by decide)))
end PU3
