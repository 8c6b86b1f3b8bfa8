/-! Checker: the end of a path, NEW, CALL -/
def pt_Ch (sh : Nat → Nat × Nat) (R : Nat → Nat → Option Nat) : Prop := sh 345 = (0, 6) ∧ sh 346 = (4 + 4, 14) ∧ R 345 0 = some 1 ∧ R 345 2 = some 346 ∧ R 345 3 = some 347 ∧ pt_Sy sh R 347 ∧ ∀ i, i < 14 → R 346 i = some (350 + 13 * i) ∧ pt_Pa sh R (350 + 13 * i)
/-- what is wrong at the end of a path, and how many have ended -/
noncomputable def ce_end (e : Nat) (st : List ab_Sy) (lo : Nat → ab_Sy) (C : sp_E) (b0 b1 : ab_Ba) (en : Option ab_Cu) : Int32 × Nat := if 50 ≤ e then (4, e) else match en with
  | none => cIf (ba_sh C b0 ∧ ba_sh C b1) (0, e + 1) (9, e + 1)
  | some A => if 0 < st.length then (7, e + 1) else cIf (kn_sh C lo A.1) (cIf ((¬ po_no lo A.2.1.2 ∧ ba_sh C (ba_pot lo (-1 : Int32).toInt64 A.2.1 b0)) ∧ (¬ po_no lo A.2.2.2 ∧ ba_sh C (ba_pot lo (-1 : Int32).toInt64 A.2.2 b1))) (0, e + 1) (9, e + 1)) (8, e + 1)
section CH
variable {d n : Nat} {sh : Nat → Nat × Nat} {X : Nat × (Nat → Int32)} {R : Nat → Nat → Option Nat} {I : Nat → Nat → Int32} {L : Nat → Nat → Int64} {Q : Option Value → gw_Mem → Prop} {o md : Nat} {p : Int32} {st : List ab_Sy} {lo : Nat → ab_Sy} {C : sp_E} {b0 b1 : ab_Ba}
theorem c_Ch_end0 {e : Nat} (s345 : sh 345 = (0, 6)) (hp : pt_Pa sh R o) (ho : 350 ≤ o) (ha : pa_at I L o p md st lo C b0 b1) (hC : kn_bd C 400000000000) (h4 : I 345 4 = nI e) (he : e ≤ 50) (hQ : ∀ I' : Nat → Nat → Int32, I' 345 4 = nI (ce_end e st lo C b0 b1 none).2 → (∀ q, q ≠ 345 → I' q = I q) → Q (some (.int (ce_end e st lo C b0 b1 none).1)) (n, sh, X, R, I', L)) : gw_Call y_Ch_reasonAtEnd (d + 2) 0 0 [.ref 345, .ref o, .null] (n, sh, X, R, I, L) Q := by
  obtain ⟨s0, s1, s4, s5, s6, s8, s9, s11, r0, r1, r2, r6, r7, r80, r81⟩ := hp
  obtain ⟨a1, a2, a3, a4, a5, a6, a7, a8⟩ := ha
  have z9 := s9.1
  have z11 := s11.1
  refine gw_call o_Ch_reasonAtEnd (Nat.le_of_ble_eq_true rfl) ?_
  by_cases h50 : 50 ≤ e
  · have hr : ce_end e st lo C b0 b1 none = (4, e) := if_pos h50
    rw [hr] at hQ
    refine go_aload_n 0 d_Ch_reasonAtEnd_0 rfl rfl ?_
    refine go_getI d_Ch_reasonAtEnd_1 f_Ch_73 (by assumption) ?_
    refine go_bipush (v := 50) d_Ch_reasonAtEnd_4 rfl ?_
    refine go_icmp_lt 11 d_Ch_reasonAtEnd_6 rfl (fun hn => absurd hn (by rw [h4]; exact fun h => absurd ((nI_ltI (b := 50) (by omega) (by decide)).mp h) (by omega))) (fun _ => ?_)
    refine go_iconst (v := 4) d_Ch_reasonAtEnd_9 rfl ?_
    exact go_iret d_Ch_reasonAtEnd_10 rfl (hQ I h4 (fun _ _ => rfl))
  · have hr : ce_end e st lo C b0 b1 none = cIf (ba_sh C b0 ∧ ba_sh C b1) (0, e + 1) (9, e + 1) := if_neg h50
    rw [hr] at hQ
    have fr : ∀ q, q ≠ 345 → va_up I 345 (va_up (I 345) 4 (I 345 4 + 1)) q = I q := fun q hq => gw_up_ne hq
    have h41 : va_up I 345 (va_up (I 345) 4 (I 345 4 + 1)) 345 4 = nI (e + 1) := by rw [gw_up_eq, gw_up_eq, h4, nI_succ]
    refine go_aload_n 0 d_Ch_reasonAtEnd_0 rfl rfl ?_
    refine go_getI d_Ch_reasonAtEnd_1 f_Ch_73 (by assumption) ?_
    refine go_bipush (v := 50) d_Ch_reasonAtEnd_4 rfl ?_
    refine go_icmp_lt 11 d_Ch_reasonAtEnd_6 rfl (fun _ => ?_) (fun hn => absurd (by rw [h4]; exact nI_lt (b := 50) (by omega) (by decide)) hn)
    refine go_aload_n 0 d_Ch_reasonAtEnd_11 rfl rfl ?_
    refine go_dup d_Ch_reasonAtEnd_12 rfl ?_
    refine go_getI d_Ch_reasonAtEnd_13 f_Ch_73 (by assumption) ?_
    refine go_iconst (v := 1) d_Ch_reasonAtEnd_16 rfl ?_
    refine go_iadd d_Ch_reasonAtEnd_17 ?_
    refine go_putI d_Ch_reasonAtEnd_18 f_Ch_73 (by assumption) ?_
    refine go_aload_nN 2 d_Ch_reasonAtEnd_21 rfl rfl ?_
    refine go_ifnullN 35 d_Ch_reasonAtEnd_22 rfl ?_
    refine go_aload_nN 2 d_Ch_reasonAtEnd_35 rfl rfl ?_
    refine go_ifnullN 57 d_Ch_reasonAtEnd_36 rfl ?_
    refine go_iconst (v := 0) d_Ch_reasonAtEnd_57 rfl ?_
    refine go_istore_n 3 d_Ch_reasonAtEnd_58 rfl (Nat.le_of_ble_eq_true rfl) ?_
    refine go_iload_n 3 d_Ch_reasonAtEnd_59 rfl rfl ?_
    refine go_iconst (v := 2) d_Ch_reasonAtEnd_60 rfl ?_
    refine go_icmp_ge 136 d_Ch_reasonAtEnd_61 rfl (fun hn => absurd hn (by decide)) (fun _ => ?_)
    refine go_aload_nN 2 d_Ch_reasonAtEnd_64 rfl rfl ?_
    refine go_ifnullN 87 d_Ch_reasonAtEnd_65 rfl ?_
    refine go_aload_nN 2 d_Ch_reasonAtEnd_87 rfl rfl ?_
    refine go_ifnullN 111 d_Ch_reasonAtEnd_88 rfl ?_
    refine go_aload_n 1 d_Ch_reasonAtEnd_111 rfl rfl ?_
    refine go_getR d_Ch_reasonAtEnd_112 f_Ch_152 (by assumption) (by assumption) ?_
    refine go_iload_n 3 d_Ch_reasonAtEnd_115 rfl rfl ?_
    refine go_aald (t := 5) (0) d_Ch_reasonAtEnd_116 (by assumption) (by decide) (rfl) (by decide) (by decide) (by assumption) ?_
    refine go_aload_n 1 d_Ch_reasonAtEnd_117 rfl rfl ?_
    refine go_getR d_Ch_reasonAtEnd_118 f_Ch_59 (by assumption) (by assumption) ?_
    refine go_V1 d_Ch_reasonAtEnd_121 k_Ch_193 (by assumption) (Nat.le_of_ble_eq_true rfl) (c_Ba_isShown s9 a7 s6 a6 hC (fun b hb => ?_))
    refine go_if_ne 130 d_Ch_reasonAtEnd_124 rfl (fun h124 => ?_) (fun h124 => ?_)
    · refine go_iinc d_Ch_reasonAtEnd_130 rfl rfl (Nat.le_of_ble_eq_true rfl) ?_
      refine go_goto 59 d_Ch_reasonAtEnd_133 rfl ?_
      have hb' : ba_sh C b0 := hb.mp (bI_n0.mp h124)
      refine go_iload_n 3 d_Ch_reasonAtEnd_59 rfl rfl ?_
      refine go_iconst (v := 2) d_Ch_reasonAtEnd_60 rfl ?_
      refine go_icmp_ge 136 d_Ch_reasonAtEnd_61 rfl (fun hn => absurd hn (by decide)) (fun _ => ?_)
      refine go_aload_nN 2 d_Ch_reasonAtEnd_64 rfl rfl ?_
      refine go_ifnullN 87 d_Ch_reasonAtEnd_65 rfl ?_
      refine go_aload_nN 2 d_Ch_reasonAtEnd_87 rfl rfl ?_
      refine go_ifnullN 111 d_Ch_reasonAtEnd_88 rfl ?_
      refine go_aload_n 1 d_Ch_reasonAtEnd_111 rfl rfl ?_
      refine go_getR d_Ch_reasonAtEnd_112 f_Ch_152 (by assumption) (by assumption) ?_
      refine go_iload_n 3 d_Ch_reasonAtEnd_115 rfl rfl ?_
      refine go_aald (t := 5) (1) d_Ch_reasonAtEnd_116 (by assumption) (by decide) (rfl) (by decide) (by decide) (by assumption) ?_
      refine go_aload_n 1 d_Ch_reasonAtEnd_117 rfl rfl ?_
      refine go_getR d_Ch_reasonAtEnd_118 f_Ch_59 (by assumption) (by assumption) ?_
      refine go_V1 d_Ch_reasonAtEnd_121 k_Ch_193 (by assumption) (Nat.le_of_ble_eq_true rfl) (c_Ba_isShown s11 a8 s6 a6 hC (fun b2 hb2 => ?_))
      refine go_if_ne 130 d_Ch_reasonAtEnd_124 rfl (fun h124b => ?_) (fun h124b => ?_)
      · refine go_iinc d_Ch_reasonAtEnd_130 rfl rfl (Nat.le_of_ble_eq_true rfl) ?_
        refine go_goto 59 d_Ch_reasonAtEnd_133 rfl ?_
        rw [cIf_pos ⟨hb', hb2.mp (bI_n0.mp h124b)⟩] at hQ
        refine go_iload_n 3 d_Ch_reasonAtEnd_59 rfl rfl ?_
        refine go_iconst (v := 2) d_Ch_reasonAtEnd_60 rfl ?_
        refine go_icmp_ge 136 d_Ch_reasonAtEnd_61 rfl (fun _ => ?_) (fun hn => absurd (by decide) hn)
        refine go_iconst (v := 0) d_Ch_reasonAtEnd_136 rfl ?_
        exact go_iret d_Ch_reasonAtEnd_137 rfl (hQ _ h41 fr)
      · refine go_bipush (v := 9) d_Ch_reasonAtEnd_127 rfl ?_
        (rw [cIf_neg (fun h => by rw [hb2.mpr h.2] at h124b; exact absurd h124b (by decide))] at hQ); exact go_iret d_Ch_reasonAtEnd_129 rfl (hQ _ h41 fr)
    · refine go_bipush (v := 9) d_Ch_reasonAtEnd_127 rfl ?_
      (rw [cIf_neg (fun h => by rw [hb.mpr h.1] at h124; exact absurd h124 (by decide))] at hQ); exact go_iret d_Ch_reasonAtEnd_129 rfl (hQ _ h41 fr)
theorem c_Ch_end1 {e k pc : Nat} {A : ab_Cu} (s345 : sh 345 = (0, 6)) (hp : pt_Pa sh R o) (hk : k + 13 ≤ 345) (ho : 350 ≤ o) (hcu : pt_Cu sh R k) (hA : cu_at I k pc A) (ha : pa_at I L o p md st lo C b0 b1) (h6 : st.length ≤ 6) (hbd : sy_bd lo 50000000000) (hC : kn_bd C 400000000000) (h4 : I 345 4 = nI e) (he : e ≤ 50) (hQ : ∀ (I' : Nat → Nat → Int32) L', I' 345 4 = nI (ce_end e st lo C b0 b1 (some A)).2 → (∀ q, q ≠ 345 → I' q = I q) → (∀ q, q < o ∨ o + 13 ≤ q → L' q = L q) → Q (some (.int (ce_end e st lo C b0 b1 (some A)).1)) (n, sh, X, R, I', L')) : gw_Call y_Ch_reasonAtEnd (d + 2) 0 0 [.ref 345, .ref o, .ref k] (n, sh, X, R, I, L) Q := by
  obtain ⟨s0, s1, s4, s5, s6, s8, s9, s11, r0, r1, r2, r6, r7, r80, r81⟩ := hp
  obtain ⟨a1, a2, a3, a4, a5, a6, a7, a8⟩ := ha
  obtain ⟨c0, c4, c5, q0, q1, p0, p1⟩ := hcu.pots
  have z1 := s1.1
  have z6 := s6.1
  have z9 := s9.1
  have z11 := s11.1
  have zp0 := p0.1
  have zp1 := p1.1
  refine gw_call o_Ch_reasonAtEnd (Nat.le_of_ble_eq_true rfl) ?_
  by_cases h50 : 50 ≤ e
  · have hr : ce_end e st lo C b0 b1 (some A) = (4, e) := if_pos h50
    rw [hr] at hQ
    refine go_aload_n 0 d_Ch_reasonAtEnd_0 rfl rfl ?_
    refine go_getI d_Ch_reasonAtEnd_1 f_Ch_73 (by assumption) ?_
    refine go_bipush (v := 50) d_Ch_reasonAtEnd_4 rfl ?_
    refine go_icmp_lt 11 d_Ch_reasonAtEnd_6 rfl (fun hn => absurd hn (by rw [h4]; exact fun h => absurd ((nI_ltI (b := 50) (by omega) (by decide)).mp h) (by omega))) (fun _ => ?_)
    refine go_iconst (v := 4) d_Ch_reasonAtEnd_9 rfl ?_
    exact go_iret d_Ch_reasonAtEnd_10 rfl (hQ I L h4 (fun _ _ => rfl) (fun _ _ => rfl))
  · have hr : ce_end e st lo C b0 b1 (some A) = if 0 < st.length then (7, e + 1) else cIf (kn_sh C lo A.1) (cIf ((¬ po_no lo A.2.1.2 ∧ ba_sh C (ba_pot lo (-1 : Int32).toInt64 A.2.1 b0)) ∧ (¬ po_no lo A.2.2.2 ∧ ba_sh C (ba_pot lo (-1 : Int32).toInt64 A.2.2 b1))) (0, e + 1) (9, e + 1)) (8, e + 1) := if_neg h50
    rw [hr] at hQ
    have fr : ∀ q, q ≠ 345 → va_up I 345 (va_up (I 345) 4 (I 345 4 + 1)) q = I q := fun q hq => gw_up_ne hq
    have h41 : va_up I 345 (va_up (I 345) 4 (I 345 4 + 1)) 345 4 = nI (e + 1) := by rw [gw_up_eq, gw_up_eq, h4, nI_succ]
    have hA' : cu_at (va_up I 345 (va_up (I 345) 4 (I 345 4 + 1))) k pc A := hA.kept (fun q g1 g2 => fr q (by omega))
    have a1' : va_up I 345 (va_up (I 345) 4 (I 345 4 + 1)) o 3 = nI st.length := by rw [fr o (by omega)]; exact a1
    have a5' : sy_at (va_up I 345 (va_up (I 345) 4 (I 345 4 + 1))) L (o + 1) lo := a5.kept (fr _ (by omega)) rfl
    refine go_aload_n 0 d_Ch_reasonAtEnd_0 rfl rfl ?_
    refine go_getI d_Ch_reasonAtEnd_1 f_Ch_73 (by assumption) ?_
    refine go_bipush (v := 50) d_Ch_reasonAtEnd_4 rfl ?_
    refine go_icmp_lt 11 d_Ch_reasonAtEnd_6 rfl (fun _ => ?_) (fun hn => absurd (by rw [h4]; exact nI_lt (b := 50) (by omega) (by decide)) hn)
    refine go_aload_n 0 d_Ch_reasonAtEnd_11 rfl rfl ?_
    refine go_dup d_Ch_reasonAtEnd_12 rfl ?_
    refine go_getI d_Ch_reasonAtEnd_13 f_Ch_73 (by assumption) ?_
    refine go_iconst (v := 1) d_Ch_reasonAtEnd_16 rfl ?_
    refine go_iadd d_Ch_reasonAtEnd_17 ?_
    refine go_putI d_Ch_reasonAtEnd_18 f_Ch_73 (by assumption) ?_
    refine go_aload_n 2 d_Ch_reasonAtEnd_21 rfl rfl ?_
    refine go_ifnull d_Ch_reasonAtEnd_22 ?_
    refine go_aload_n 1 d_Ch_reasonAtEnd_25 rfl rfl ?_
    refine go_getI d_Ch_reasonAtEnd_26 f_Ch_96 (by assumption) ?_
    rw [a1']
    refine go_if_le 35 d_Ch_reasonAtEnd_29 rfl (fun h29 => ?_) (fun h29 => ?_)
    · have hp1 : ¬ 0 < st.length := fun e0 => absurd h29 (nI_nle e0 (by omega))
      rw [if_neg hp1] at hQ
      refine go_aload_n 2 d_Ch_reasonAtEnd_35 rfl rfl ?_
      refine go_ifnull d_Ch_reasonAtEnd_36 ?_
      refine go_aload_n 1 d_Ch_reasonAtEnd_39 rfl rfl ?_
      refine go_getR d_Ch_reasonAtEnd_40 f_Ch_59 (by assumption) (by assumption) ?_
      refine go_aload_n 2 d_Ch_reasonAtEnd_43 rfl rfl ?_
      refine go_aload_n 1 d_Ch_reasonAtEnd_44 rfl rfl ?_
      refine go_getR d_Ch_reasonAtEnd_45 f_Ch_190 (by assumption) (by assumption) ?_
      refine go_V2 d_Ch_reasonAtEnd_48 k_Ch_173 (by assumption) (Nat.le_of_ble_eq_true rfl) (c_Kn_showsClaims s6 hcu hA' a6 hC s1 a5' hbd (fun b hb => ?_))
      refine go_if_ne 57 d_Ch_reasonAtEnd_51 rfl (fun h51 => ?_) (fun h51 => ?_)
      · rw [cIf_pos (hb.mp (bI_n0.mp h51))] at hQ
        refine go_iconst (v := 0) d_Ch_reasonAtEnd_57 rfl ?_
        refine go_istore_n 3 d_Ch_reasonAtEnd_58 rfl (Nat.le_of_ble_eq_true rfl) ?_
        refine go_iload_n 3 d_Ch_reasonAtEnd_59 rfl rfl ?_
        refine go_iconst (v := 2) d_Ch_reasonAtEnd_60 rfl ?_
        refine go_icmp_ge 136 d_Ch_reasonAtEnd_61 rfl (fun hn => absurd hn (by decide)) (fun _ => ?_)
        refine go_aload_n 2 d_Ch_reasonAtEnd_64 rfl rfl ?_
        refine go_ifnull d_Ch_reasonAtEnd_65 ?_
        refine go_aload_n 2 d_Ch_reasonAtEnd_68 rfl rfl ?_
        refine go_getR d_Ch_reasonAtEnd_69 f_Ch_63 (by assumption) (by assumption) ?_
        refine go_iload_n 3 d_Ch_reasonAtEnd_72 rfl rfl ?_
        refine go_aald (t := 2) (0) d_Ch_reasonAtEnd_73 (by assumption) (by decide) (rfl) (by decide) (by decide) (by assumption) ?_
        refine go_aload_n 1 d_Ch_reasonAtEnd_74 rfl rfl ?_
        refine go_getR d_Ch_reasonAtEnd_75 f_Ch_190 (by assumption) (by assumption) ?_
        refine go_V1 d_Ch_reasonAtEnd_78 k_Ch_177 (by assumption) (Nat.le_of_ble_eq_true rfl) (c_Po_speaksOfNothing p0 hA'.2.2.2.2.1 s1 a5' (fun b2 hb2 => ?_))
        refine go_if_eq 87 d_Ch_reasonAtEnd_81 rfl (fun h81 => ?_) (fun h81 => ?_)
        · have hno : ¬ po_no lo A.2.1.2 := fun h => by rw [hb2.mpr h] at h81; exact absurd h81 (by decide)
          refine go_aload_n 2 d_Ch_reasonAtEnd_87 rfl rfl ?_
          refine go_ifnull d_Ch_reasonAtEnd_88 ?_
          refine go_aload_n 1 d_Ch_reasonAtEnd_91 rfl rfl ?_
          refine go_getR d_Ch_reasonAtEnd_92 f_Ch_152 (by assumption) (by assumption) ?_
          refine go_iload_n 3 d_Ch_reasonAtEnd_95 rfl rfl ?_
          refine go_aald (t := 5) (0) d_Ch_reasonAtEnd_96 (by assumption) (by decide) (rfl) (by decide) (by decide) (by assumption) ?_
          refine go_iconst (v := (-1)) d_Ch_reasonAtEnd_97 rfl ?_
          refine go_aload_n 2 d_Ch_reasonAtEnd_98 rfl rfl ?_
          refine go_getR d_Ch_reasonAtEnd_99 f_Ch_63 (by assumption) (by assumption) ?_
          refine go_iload_n 3 d_Ch_reasonAtEnd_102 rfl rfl ?_
          refine go_aald (t := 2) (0) d_Ch_reasonAtEnd_103 (by assumption) (by decide) (rfl) (by decide) (by decide) (by assumption) ?_
          refine go_aload_n 1 d_Ch_reasonAtEnd_104 rfl rfl ?_
          refine go_getR d_Ch_reasonAtEnd_105 f_Ch_190 (by assumption) (by assumption) ?_
          refine go_V3 d_Ch_reasonAtEnd_108 k_Ch_183 (by assumption) (Nat.le_of_ble_eq_true rfl) (c_Ba_addPotential s9 a7 p0 hA'.2.2.2.2.1 s1 a5' hno ⟨by omega, by omega⟩ (fun L3 c3 c4 => ?_))
          refine go_aload_n 1 d_Ch_reasonAtEnd_111 rfl rfl ?_
          refine go_getR d_Ch_reasonAtEnd_112 f_Ch_152 (by assumption) (by assumption) ?_
          refine go_iload_n 3 d_Ch_reasonAtEnd_115 rfl rfl ?_
          refine go_aald (t := 5) (0) d_Ch_reasonAtEnd_116 (by assumption) (by decide) (rfl) (by decide) (by decide) (by assumption) ?_
          refine go_aload_n 1 d_Ch_reasonAtEnd_117 rfl rfl ?_
          refine go_getR d_Ch_reasonAtEnd_118 f_Ch_59 (by assumption) (by assumption) ?_
          refine go_V1 d_Ch_reasonAtEnd_121 k_Ch_193 (by assumption) (Nat.le_of_ble_eq_true rfl) (c_Ba_isShown s9 c3 s6 (a6.kept (c4 _ (by omega) (by omega))) hC (fun b3 hb3 => ?_))
          refine go_if_ne 130 d_Ch_reasonAtEnd_124 rfl (fun h124 => ?_) (fun h124 => ?_)
          · refine go_iinc d_Ch_reasonAtEnd_130 rfl rfl (Nat.le_of_ble_eq_true rfl) ?_
            refine go_goto 59 d_Ch_reasonAtEnd_133 rfl ?_
            have hb' : ba_sh C (ba_pot lo (-1 : Int32).toInt64 A.2.1 b0) := hb3.mp (bI_n0.mp h124)
            have a5'' : sy_at (va_up I 345 (va_up (I 345) 4 (I 345 4 + 1))) L3 (o + 1) lo := a5'.kept rfl (c4 _ (by omega) (by omega))
            refine go_iload_n 3 d_Ch_reasonAtEnd_59 rfl rfl ?_
            refine go_iconst (v := 2) d_Ch_reasonAtEnd_60 rfl ?_
            refine go_icmp_ge 136 d_Ch_reasonAtEnd_61 rfl (fun hn => absurd hn (by decide)) (fun _ => ?_)
            refine go_aload_n 2 d_Ch_reasonAtEnd_64 rfl rfl ?_
            refine go_ifnull d_Ch_reasonAtEnd_65 ?_
            refine go_aload_n 2 d_Ch_reasonAtEnd_68 rfl rfl ?_
            refine go_getR d_Ch_reasonAtEnd_69 f_Ch_63 (by assumption) (by assumption) ?_
            refine go_iload_n 3 d_Ch_reasonAtEnd_72 rfl rfl ?_
            refine go_aald (t := 2) (1) d_Ch_reasonAtEnd_73 (by assumption) (by decide) (rfl) (by decide) (by decide) (by assumption) ?_
            refine go_aload_n 1 d_Ch_reasonAtEnd_74 rfl rfl ?_
            refine go_getR d_Ch_reasonAtEnd_75 f_Ch_190 (by assumption) (by assumption) ?_
            refine go_V1 d_Ch_reasonAtEnd_78 k_Ch_177 (by assumption) (Nat.le_of_ble_eq_true rfl) (c_Po_speaksOfNothing p1 hA'.2.2.2.2.2 s1 a5'' (fun b4 hb4 => ?_))
            refine go_if_eq 87 d_Ch_reasonAtEnd_81 rfl (fun h81b => ?_) (fun h81b => ?_)
            · have hno2 : ¬ po_no lo A.2.2.2 := fun h => by rw [hb4.mpr h] at h81b; exact absurd h81b (by decide)
              refine go_aload_n 2 d_Ch_reasonAtEnd_87 rfl rfl ?_
              refine go_ifnull d_Ch_reasonAtEnd_88 ?_
              refine go_aload_n 1 d_Ch_reasonAtEnd_91 rfl rfl ?_
              refine go_getR d_Ch_reasonAtEnd_92 f_Ch_152 (by assumption) (by assumption) ?_
              refine go_iload_n 3 d_Ch_reasonAtEnd_95 rfl rfl ?_
              refine go_aald (t := 5) (1) d_Ch_reasonAtEnd_96 (by assumption) (by decide) (rfl) (by decide) (by decide) (by assumption) ?_
              refine go_iconst (v := (-1)) d_Ch_reasonAtEnd_97 rfl ?_
              refine go_aload_n 2 d_Ch_reasonAtEnd_98 rfl rfl ?_
              refine go_getR d_Ch_reasonAtEnd_99 f_Ch_63 (by assumption) (by assumption) ?_
              refine go_iload_n 3 d_Ch_reasonAtEnd_102 rfl rfl ?_
              refine go_aald (t := 2) (1) d_Ch_reasonAtEnd_103 (by assumption) (by decide) (rfl) (by decide) (by decide) (by assumption) ?_
              refine go_aload_n 1 d_Ch_reasonAtEnd_104 rfl rfl ?_
              refine go_getR d_Ch_reasonAtEnd_105 f_Ch_190 (by assumption) (by assumption) ?_
              refine go_V3 d_Ch_reasonAtEnd_108 k_Ch_183 (by assumption) (Nat.le_of_ble_eq_true rfl) (c_Ba_addPotential s11 (a8.kept (c4 _ (by omega) (by omega)) (c4 _ (by omega) (by omega))) p1 hA'.2.2.2.2.2 s1 a5'' hno2 ⟨by omega, by omega⟩ (fun L5 c5 c6 => ?_))
              refine go_aload_n 1 d_Ch_reasonAtEnd_111 rfl rfl ?_
              refine go_getR d_Ch_reasonAtEnd_112 f_Ch_152 (by assumption) (by assumption) ?_
              refine go_iload_n 3 d_Ch_reasonAtEnd_115 rfl rfl ?_
              refine go_aald (t := 5) (1) d_Ch_reasonAtEnd_116 (by assumption) (by decide) (rfl) (by decide) (by decide) (by assumption) ?_
              refine go_aload_n 1 d_Ch_reasonAtEnd_117 rfl rfl ?_
              refine go_getR d_Ch_reasonAtEnd_118 f_Ch_59 (by assumption) (by assumption) ?_
              refine go_V1 d_Ch_reasonAtEnd_121 k_Ch_193 (by assumption) (Nat.le_of_ble_eq_true rfl) (c_Ba_isShown s11 c5 s6 (a6.kept (by rw [c6 _ (by omega) (by omega), c4 _ (by omega) (by omega)])) hC (fun b5 hb5 => ?_))
              refine go_if_ne 130 d_Ch_reasonAtEnd_124 rfl (fun h124b => ?_) (fun h124b => ?_)
              · refine go_iinc d_Ch_reasonAtEnd_130 rfl rfl (Nat.le_of_ble_eq_true rfl) ?_
                refine go_goto 59 d_Ch_reasonAtEnd_133 rfl ?_
                rw [cIf_pos ⟨⟨hno, hb'⟩, ⟨hno2, hb5.mp (bI_n0.mp h124b)⟩⟩] at hQ
                refine go_iload_n 3 d_Ch_reasonAtEnd_59 rfl rfl ?_
                refine go_iconst (v := 2) d_Ch_reasonAtEnd_60 rfl ?_
                refine go_icmp_ge 136 d_Ch_reasonAtEnd_61 rfl (fun _ => ?_) (fun hn => absurd (by decide) hn)
                refine go_iconst (v := 0) d_Ch_reasonAtEnd_136 rfl ?_
                exact go_iret d_Ch_reasonAtEnd_137 rfl (hQ _ L5 h41 fr (fun q hq => by rw [c6 q (by omega) (by omega), c4 q (by omega) (by omega)]))
              · refine go_bipush (v := 9) d_Ch_reasonAtEnd_127 rfl ?_
                rw [cIf_neg (fun h => by rw [hb5.mpr h.2.2] at h124b; exact absurd h124b (by decide))] at hQ
                exact go_iret d_Ch_reasonAtEnd_129 rfl (hQ _ L5 h41 fr (fun q hq => by rw [c6 q (by omega) (by omega), c4 q (by omega) (by omega)]))
            · refine go_bipush (v := 9) d_Ch_reasonAtEnd_84 rfl ?_
              rw [cIf_neg (fun h => h.2.1 (hb4.mp (bI_n0.mp h81b)))] at hQ
              exact go_iret d_Ch_reasonAtEnd_86 rfl (hQ _ L3 h41 fr (fun q hq => c4 q (by omega) (by omega)))
          · refine go_bipush (v := 9) d_Ch_reasonAtEnd_127 rfl ?_
            rw [cIf_neg (fun h => by rw [hb3.mpr h.1.2] at h124; exact absurd h124 (by decide))] at hQ
            exact go_iret d_Ch_reasonAtEnd_129 rfl (hQ _ L3 h41 fr (fun q hq => c4 q (by omega) (by omega)))
        · refine go_bipush (v := 9) d_Ch_reasonAtEnd_84 rfl ?_
          rw [cIf_neg (fun h => h.1.1 (hb2.mp (bI_n0.mp h81)))] at hQ
          exact go_iret d_Ch_reasonAtEnd_86 rfl (hQ _ L h41 fr (fun _ _ => rfl))
      · refine go_bipush (v := 8) d_Ch_reasonAtEnd_54 rfl ?_
        rw [cIf_neg (fun h => by rw [hb.mpr h] at h51; exact absurd h51 (by decide))] at hQ
        exact go_iret d_Ch_reasonAtEnd_56 rfl (hQ _ L h41 fr (fun _ _ => rfl))
    · refine go_bipush (v := 7) d_Ch_reasonAtEnd_32 rfl ?_
      have hp1 : 0 < st.length := Nat.pos_of_ne_zero (fun e0 => h29 (by rw [e0]; decide))
      rw [if_pos hp1] at hQ
      exact go_iret d_Ch_reasonAtEnd_34 rfl (hQ _ L h41 fr (fun _ _ => rfl))
end CH
