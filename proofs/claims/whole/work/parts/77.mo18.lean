/-! the reference: end at a cut, called -/
section MO
variable {d n : Nat} {sh : Nat → Nat × Nat} {X : Nat × (Nat → Int32)} {R : Nat → Nat → Option Nat} {I : Nat → Nat → Int32} {L : Nat → Nat → Int64} {Q : Option Value → gw_Mem → Prop}
variable {U : Nat → ab_Me}
theorem c_Mo_end1 {r md e : Nat} {p : Int32} {st : List ab_Sy} {lo : Nat → ab_Sy} {s : sp_E × sp_E} {b0 b1 : ab_Ba} {c : Nat} {A : ab_Cu} (hp : pt_Mo sh R) (hr : r < 42) (hc : c < 24) (hA : mu_at I c A) (hA0 : ∀ t ∈ A.2.1.2, t.1 ≤ 100) (hA1 : ∀ t ∈ A.2.2.2, t.1 ≤ 100) (h : rw_at (L 549) (104 * r) p md st lo s.1 b0 b1) (hok : kn_ok s) (hsb : ∀ v, v < 5 → sb 45000000000 (lo v)) (he : e ≤ 50) (h17 : I 533 17 = nI e) (hQ : ∀ I' L', I' 533 16 = nI r → I' 533 17 = nI (ce_end e st lo s.2 b0 b1 (some A)).2 → (∀ j, j ≠ 16 → j ≠ 17 → I' 533 j = I 533 j) → (∀ q, q ≠ 533 → I' q = I q) → (∀ i, i < 104 * r → L' 549 i = L 549 i) → (∀ q, q ≠ 549 → q ≠ 550 → q ≠ 551 → L' q = L q) → Q (some (.int (ce_end e st lo s.2 b0 b1 (some A)).1)) (n, sh, X, R, I', L')) : gw_Call y_Mo_end (d + 2) 0 0 [.ref 533, .int (nI r), .int (nI c)] (n, sh, X, R, I, L) Q := by
  have hp0 := hp
  obtain ⟨s533, s534, s535, s536, s537, s538, s539, s540, s541, s542, s543, s544, s545, s546, s547, s548, s549, s550, s551, s552, s553, s554, s555, s556, s557, r534, r535, r536, r537, r538, r539, r540, r541, r542, r543, r544, r545, r546, r547, r548, r549, r550, r551, r552, r553, r554, r555, r556, r557⟩ := hp
  have hC := kn_ok_bd hok
  have hl6 : st.length ≤ 6 := h.2.2.2.1
  refine gw_call o_Mo_end (Nat.le_of_ble_eq_true rfl) ?_
  by_cases h50 : e = 50
  · have hr' : ce_end e st lo s.2 b0 b1 (some A) = (4, e) := if_pos (by omega)
    rw [hr'] at hQ
    refine go_aload_n 0 d_Mo_end_0 rfl rfl ?_
    refine go_iload_n 1 d_Mo_end_1 rfl rfl ?_
    refine go_putI d_Mo_end_2 f_Mo_149 (by assumption) ?_
    refine go_aload_n 0 d_Mo_end_5 rfl rfl ?_
    refine go_getI d_Mo_end_6 f_Mo_153 (by assumption) ?_
    simp (disch := omega) only [up2_eq, up2_ne]
    rw [h17]
    refine go_bipush (v := 50) d_Mo_end_9 rfl ?_
    refine go_icmp_ne 16 d_Mo_end_11 rfl (fun hn => absurd hn ((fun hh => hh (by rw [h50]; rfl)))) (fun _ => ?_)
    refine go_iconst (v := 4) d_Mo_end_14 rfl ?_
    exact go_iret d_Mo_end_15 rfl (hQ _ L (by simp (disch := omega) only [up2_eq, up2_ne]) (by simp (disch := omega) only [up2_eq, up2_ne]; exact h17) (fun j a b => by simp (disch := omega) only [up2_eq, up2_ne]) (fun q hq => gw_up_ne hq) (fun _ _ => rfl) (fun _ _ _ _ => rfl))
  · have hr' : ce_end e st lo s.2 b0 b1 (some A) = (if 0 < st.length then (7, e + 1) else cIf (kn_sh s.2 lo A.1) (cIf ((¬ po_no lo A.2.1.2 ∧ ba_sh s.2 (ba_pot lo (-1 : Int32).toInt64 A.2.1 b0)) ∧ (¬ po_no lo A.2.2.2 ∧ ba_sh s.2 (ba_pot lo (-1 : Int32).toInt64 A.2.2 b1))) (0, e + 1) (9, e + 1)) (8, e + 1)) := if_neg (by omega)
    rw [hr'] at hQ
    refine go_aload_n 0 d_Mo_end_0 rfl rfl ?_
    refine go_iload_n 1 d_Mo_end_1 rfl rfl ?_
    refine go_putI d_Mo_end_2 f_Mo_149 (by assumption) ?_
    refine go_aload_n 0 d_Mo_end_5 rfl rfl ?_
    refine go_getI d_Mo_end_6 f_Mo_153 (by assumption) ?_
    simp (disch := omega) only [up2_eq, up2_ne]
    rw [h17]
    refine go_bipush (v := 50) d_Mo_end_9 rfl ?_
    refine go_icmp_ne 16 d_Mo_end_11 rfl (fun _ => ?_) (fun hn => by first | exact absurd hn ((fun hh => h50 ((nI_eq (b := 50) (by omega) (by decide)).mp hh))) | exact absurd ((fun hh => h50 ((nI_eq (b := 50) (by omega) (by decide)).mp hh))) hn)
    refine go_aload_n 0 d_Mo_end_16 rfl rfl ?_
    refine go_dup d_Mo_end_17 rfl ?_
    refine go_getI d_Mo_end_18 f_Mo_153 (by assumption) ?_
    refine go_iconst (v := 1) d_Mo_end_21 rfl ?_
    refine go_iadd d_Mo_end_22 ?_
    rw [show va_up I 533 (va_up (I 533) 16 (nI r)) 533 17 + 1 = nI (e + 1) by simp (disch := omega) only [up2_eq, up2_ne]; rw [h17, nI_1]]
    refine go_putI d_Mo_end_23 f_Mo_153 (by assumption) ?_
    obtain ⟨Ie, hIe⟩ : ∃ Ie, Ie = va_up (va_up I 533 (va_up (I 533) 16 (nI r))) 533 (va_up (va_up I 533 (va_up (I 533) 16 (nI r)) 533) 17 (nI (e + 1))) := ⟨_, rfl⟩
    rw [← hIe]
    have e16 : Ie 533 16 = nI r := by rw [hIe]; simp (disch := omega) only [up2_eq, up2_ne]
    have e17 : Ie 533 17 = nI (e + 1) := by rw [hIe]; simp (disch := omega) only [up2_eq, up2_ne]
    have eo : ∀ j, j ≠ 16 → j ≠ 17 → Ie 533 j = I 533 j := fun j a b => by rw [hIe]; simp (disch := omega) only [up2_eq, up2_ne]
    have eq : ∀ q, q ≠ 533 → Ie q = I q := fun q hq => by rw [hIe, gw_up_ne hq, gw_up_ne hq]
    have hAe : mu_at Ie c A := hA.ptw (mu_eq.row (fun q a b => eq q (by omega)))
    by_cases hst : 0 < st.length
    · rw [if_pos hst] at hQ
      refine go_iload_n 2 d_Mo_end_26 rfl rfl ?_
      refine go_if_lt 49 d_Mo_end_27 rfl (fun hn => absurd hn (nI_pos (by omega))) (fun _ => ?_)
      refine go_aload_n 0 d_Mo_end_30 rfl rfl ?_
      refine go_getR d_Mo_end_31 f_Mo_56 (by assumption) (by assumption) ?_
      refine go_bipush (v := 104) d_Mo_end_34 rfl ?_
      refine go_iload_n 1 d_Mo_end_36 rfl rfl ?_
      refine go_imul d_Mo_end_37 ?_
      refine go_iconst (v := 2) d_Mo_end_38 rfl ?_
      refine go_iadd d_Mo_end_39 ?_
      refine go_lald (104 * r + 2) d_Mo_end_40 (by assumption) (ix3 (a := 2)) (by omega) (by decide) ?_
      refine go_lconst (v := 0) d_Mo_end_41 rfl ?_
      refine go_lcmp_le 49 d_Mo_end_42 d_Mo_end_43 rfl (fun hn => absurd hn ((fun hh => hh (by rw [h.2.2.1]; exact (lN_lt (a := 0) (by decide) (by omega)).mpr hst)))) (fun _ => ?_)
      refine go_bipush (v := 7) d_Mo_end_46 rfl ?_
      exact go_iret d_Mo_end_48 rfl (hQ Ie L e16 e17 eo eq (fun _ _ => rfl) (fun _ _ _ _ => rfl))
    · rw [if_neg hst] at hQ
      refine go_iload_n 2 d_Mo_end_26 rfl rfl ?_
      refine go_if_lt 49 d_Mo_end_27 rfl (fun hn => absurd hn (nI_pos (by omega))) (fun _ => ?_)
      refine go_aload_n 0 d_Mo_end_30 rfl rfl ?_
      refine go_getR d_Mo_end_31 f_Mo_56 (by assumption) (by assumption) ?_
      refine go_bipush (v := 104) d_Mo_end_34 rfl ?_
      refine go_iload_n 1 d_Mo_end_36 rfl rfl ?_
      refine go_imul d_Mo_end_37 ?_
      refine go_iconst (v := 2) d_Mo_end_38 rfl ?_
      refine go_iadd d_Mo_end_39 ?_
      refine go_lald (104 * r + 2) d_Mo_end_40 (by assumption) (ix3 (a := 2)) (by omega) (by decide) ?_
      refine go_lconst (v := 0) d_Mo_end_41 rfl ?_
      refine go_lcmp_le 49 d_Mo_end_42 d_Mo_end_43 rfl (fun _ => ?_) (fun hn => by first | exact absurd hn ((fun hh => hst ((lN_lt (a := 0) (by decide) (by omega)).mp (by rw [h.2.2.1] at hh; exact hh)))) | exact absurd ((fun hh => hst ((lN_lt (a := 0) (by decide) (by omega)).mp (by rw [h.2.2.1] at hh; exact hh)))) hn)
      refine go_aload_n 0 d_Mo_end_49 rfl rfl ?_
      refine go_iload_n 1 d_Mo_end_50 rfl rfl ?_
      refine go_V1 d_Mo_end_51 k_Mo_142 (by assumption) (Nat.le_of_ble_eq_true rfl) (c_Mo_fbC (d := d) hp0 hr h.2.2.2.2.2.2.2.1 hok (fun L1 f1 f2 => ?_))
      refine go_pop d_Mo_end_54 rfl ?_
      refine go_bipush (v := 6) d_Mo_end_55 rfl ?_
      refine go_iload_n 2 d_Mo_end_57 rfl rfl ?_
      refine go_imul d_Mo_end_58 ?_
      refine go_istore_n 3 d_Mo_end_59 rfl (Nat.le_of_ble_eq_true rfl) ?_
      have w549 : L1 549 = L 549 := f2 _ (by decide) (by decide)
      have h1 : rw_at (L1 549) (104 * r) p md st lo s.1 b0 b1 := by rw [w549]; exact h
      refine c_Mo_endC (K := s.2) hp0 hr hc hAe f1 hC h1 hsb (fun hn => ?_) (fun hs z3 o4 o5 o6 o7 o8 o9 => ?_) A.1 0 _ _ _ _ _ _ _ (nI_mul 6 _) (Nat.zero_le _) rfl Iff.rfl
      · rw [cIf_neg hn] at hQ
        exact hQ Ie L1 e16 e17 eo eq (fun i hi => by rw [w549]) (fun q a b c => f2 q b c)
      · rw [cIf_pos hs] at hQ
        have hno : ¬ ((¬ po_no lo A.2.1.2 ∧ ba_sh s.2 (ba_pot lo (-1 : Int32).toInt64 A.2.1 b0)) ∧ (¬ po_no lo A.2.2.2 ∧ ba_sh s.2 (ba_pot lo (-1 : Int32).toInt64 A.2.2 b1))) → ∀ L2 : Nat → Nat → Int64, (∀ i, i < 104 * r → L2 549 i = L1 549 i) → (∀ q, q ≠ 549 → L2 q = L1 q) → Q (some (.int 9)) (n, sh, X, R, Ie, L2) := fun hh L2 g1 g2 => by
          rw [cIf_neg hh] at hQ
          exact hQ Ie L2 e16 e17 eo eq (fun i hi => by rw [g1 i hi, w549]) (fun q a b c => by rw [g2 q a]; exact f2 q b c)
        refine go_iconst (v := 0) d_Mo_end_168 rfl ?_
        refine go_istore_n 3 d_Mo_end_169 rfl (Nat.le_of_ble_eq_true rfl) ?_
        refine c_Mo_endW0 (e := e) (s := s) hp0 hr hc hAe.2.2.2.1 hA0 h1 f1 hC (fun hh L2 g1 g2 => hno (fun hx => hh hx.1) L2 g1 g2) (fun hW o4 o5 o6 o7 o8 o9 L2 g1 g2 g3 => ?_)
        refine c_Mo_endW1 (e := e) (s := s) hp0 hr hc hAe.2.2.2.2 hA1 g1 (fun a b ha hb => by rw [g3 _ (by decide)]; exact f1 a b ha hb) hC (fun hh L3 k1 k2 => hno (fun hx => hh hx.2) L3 (fun i hi => by rw [k1 i hi, g2 i hi]) (fun q hq => by rw [k2 q hq, g3 q hq])) (fun hV o4 o5 o6 o7 o8 o9 L3 k1 k2 k3 => ?_)
        rw [cIf_pos ⟨hW, hV⟩] at hQ
        refine go_iload_n 3 d_Mo_end_170 rfl rfl ?_
        refine go_iconst (v := 2) d_Mo_end_171 rfl ?_
        refine go_icmp_ge 370 d_Mo_end_172 rfl (fun _ => ?_) (fun hn => absurd (by decide) hn)
        refine go_iconst (v := 0) d_Mo_end_370 rfl ?_
        exact go_iret d_Mo_end_371 rfl (hQ Ie L3 e16 e17 eo eq (fun i hi => by rw [k2 i hi, g2 i hi, w549]) (fun q a b c => by rw [k3 q a, g3 q a]; exact f2 q b c))
theorem c_Mo_calW0 {r md : Nat} {p : Int32} {st : List ab_Sy} {lo : Nat → ab_Sy} {E : sp_E} {b0 b1 : ab_Ba} {c m f : Nat} {x y z0 : ab_Sy} {P : ab_Po} {o6 o7 o8 o9 o10 o11 : Option Value} (hp : pt_Mo sh R) (hr : r < 42) (hc : c < 24) (hP : mp_at I (2 * c + 0) P) (hP2 : ∀ t ∈ P.2, t.1 ≤ 100) (hff : f + 6 < 4368) (hf49 : f + 6 ≤ 104 * r + 49) (hms : ∀ v, v < 5 → ms_at (cs_v (L 549) f v) (cn_v (L 549) f v) (ca_sy x y z0 v)) (h : rw_at (L 549) (104 * r) p md st lo E b0 b1) (hf : po_no (ca_sy x y z0) P.2 → ∀ L1 : Nat → Nat → Int64, (∀ i, i < 104 * r → L1 549 i = L 549 i) → (∀ q, q ≠ 549 → L1 q = L q) → Q (some (.int 6)) (n, sh, X, R, I, L1)) (next : ¬ po_no (ca_sy x y z0) P.2 → ∀ (o6 o7 o8 o9 o10 o11 : Option Value) (L1 : Nat → Nat → Int64), rw_at (L1 549) (104 * r) p md st lo E (ba_pot (ca_sy x y z0) (-1 : Int32).toInt64 P b0) b1 → (∀ i, i < 104 * r + 49 ∨ 104 * r + 104 ≤ i → L1 549 i = L 549 i) → (∀ q, q ≠ 549 → L1 q = L q) → gw_Go y_Mo_called (d + 2) 0 0 170 [some (.ref 533), some (.int (nI r)), some (.int (nI m)), some (.int (nI f)), some (.int (nI c)), some (.int (0 + Int32.ofInt 1)), o6, o7, o8, o9, o10, o11] [] (n, sh, X, R, I, L1) Q) : gw_Go y_Mo_called (d + 2) 0 0 170 [some (.ref 533), some (.int (nI r)), some (.int (nI m)), some (.int (nI f)), some (.int (nI c)), some (.int 0), o6, o7, o8, o9, o10, o11] [] (n, sh, X, R, I, L) Q := by
  have hp0 := hp
  obtain ⟨s533, s534, s535, s536, s537, s538, s539, s540, s541, s542, s543, s544, s545, s546, s547, s548, s549, s550, s551, s552, s553, s554, s555, s556, s557, r534, r535, r536, r537, r538, r539, r540, r541, r542, r543, r544, r545, r546, r547, r548, r549, r550, r551, r552, r553, r554, r555, r556, r557⟩ := hp
  have hb : mb_at (L 549) (104 * r + 49) (104 * r + 99) b0 := h.2.2.2.2.2.2.2.2.1
  have e2 : (2 : Int32) * nI c + 0 = nI (2 * c + 0) := ix (a := 2) (j := 0)
  refine go_iload d_Mo_called_170 rfl ?_
  refine go_iconst (v := 2) d_Mo_called_172 rfl ?_
  refine go_icmp_ge 349 d_Mo_called_173 rfl (fun hn => absurd hn (by decide)) (fun _ => ?_)
  refine go_iconst (v := 2) d_Mo_called_176 rfl ?_
  refine go_iload d_Mo_called_177 rfl ?_
  refine go_imul d_Mo_called_179 ?_
  refine go_iload d_Mo_called_180 rfl ?_
  refine go_iadd d_Mo_called_182 ?_
  rw [e2]
  refine go_istore d_Mo_called_183 (Nat.le_of_ble_eq_true rfl) ?_
  simp only [gw_st1, gw_st2, gw_cl1, gw_get, gw_set, gw_big, Bool.false_eq_true, if_false, if_true, ↓reduceIte]
  refine go_aload_n 0 d_Mo_called_185 rfl rfl ?_
  refine go_getR d_Mo_called_186 f_Mo_56 (by assumption) (by assumption) ?_
  refine go_bipush (v := 104) d_Mo_called_189 rfl ?_
  refine go_iload_n 1 d_Mo_called_191 rfl rfl ?_
  refine go_imul d_Mo_called_192 ?_
  refine go_bipush (v := 99) d_Mo_called_193 rfl ?_
  refine go_iadd d_Mo_called_195 ?_
  refine go_iload d_Mo_called_196 rfl ?_
  refine go_iadd d_Mo_called_198 ?_
  refine go_dup2 d_Mo_called_199 rfl rfl ?_
  refine go_lald (104 * r + 99) d_Mo_called_200 (by assumption) (by rw [show (104 : Int32) * nI r + 99 = nI (104 * r + 99) from ix3 (a := 99)]; exact nI_add _ 0) (by omega) (by decide) ?_
  refine go_aload_n 0 d_Mo_called_201 rfl rfl ?_
  refine go_getR d_Mo_called_202 f_Mo_41 (by assumption) (by assumption) ?_
  refine go_iload d_Mo_called_205 rfl ?_
  refine go_iald (2 * c + 0) d_Mo_called_207 (by assumption) (rfl) (by omega) (by decide) ?_
  rw [hP.1]
  refine go_i2l d_Mo_called_208 (rfl) ?_
  rw [hb.2]
  refine go_lsub d_Mo_called_209 ?_
  rw [m1_sub]
  refine go_last (104 * r + 99) d_Mo_called_210 (by assumption) (by rw [show (104 : Int32) * nI r + 99 = nI (104 * r + 99) from ix3 (a := 99)]; exact nI_add _ 0) (by omega) (by decide) ?_
  refine go_iconst (v := 3) d_Mo_called_211 rfl ?_
  refine go_iload d_Mo_called_212 rfl ?_
  refine go_imul d_Mo_called_214 ?_
  refine go_istore d_Mo_called_215 (Nat.le_of_ble_eq_true rfl) ?_
  have h2 : rw_at (va_up L 549 (va_up (L 549) (104 * r + 99) (b0.2 + (-1 : Int32).toInt64 * P.1.toInt64)) 549) (104 * r) p md st lo E (b0.1, b0.2 + (-1 : Int32).toInt64 * P.1.toInt64) b1 := by rw [gw_up_eq]; exact h.num0
  refine c_Mo_calT0 (b0 := b0) (b1 := b1) (x := x) (y := y) (z0 := z0) (s0 := (b0.1, b0.2 + (-1 : Int32).toInt64 * P.1.toInt64)) hp0 hr hc hP hP2 hff hf49 (fun v hv => ca_ms hms (r := r) (by omega) (fun i hi => by rw [up2_ne (Or.inr (by omega))]) hv) (fun hno L1 g1 g2 => hf hno L1 (fun i hi => by rw [g1 i (by omega), up2_ne (Or.inr (by omega))]) (fun q hq => by rw [g2 q hq, gw_up_ne hq])) (fun hno o8 o9 o10 o11 z' L1 g1 g2 g3 => ?_) P.2 0 _ _ _ _ _ _ _ (nI_mul 3 _) (Nat.zero_le _) rfl h2 (fun _ _ => rfl) (fun _ _ => rfl) Iff.rfl rfl
  refine go_iinc d_Mo_called_343 rfl rfl (Nat.le_of_ble_eq_true rfl) ?_
  refine go_goto 170 d_Mo_called_346 rfl ?_
  exact next hno _ _ _ _ _ _ L1 g1 (fun i hi => by rw [g2 i (by omega), up2_ne (Or.inr (by omega))]) (fun q hq => by rw [g3 q hq, gw_up_ne hq])
theorem c_Mo_calW1 {r md : Nat} {p : Int32} {st : List ab_Sy} {lo : Nat → ab_Sy} {E : sp_E} {b0 b1 : ab_Ba} {c m f : Nat} {x y z0 : ab_Sy} {P : ab_Po} {o6 o7 o8 o9 o10 o11 : Option Value} (hp : pt_Mo sh R) (hr : r < 42) (hc : c < 24) (hP : mp_at I (2 * c + 1) P) (hP2 : ∀ t ∈ P.2, t.1 ≤ 100) (hff : f + 6 < 4368) (hf49 : f + 6 ≤ 104 * r + 49) (hms : ∀ v, v < 5 → ms_at (cs_v (L 549) f v) (cn_v (L 549) f v) (ca_sy x y z0 v)) (h : rw_at (L 549) (104 * r) p md st lo E b0 b1) (hf : po_no (ca_sy x y z0) P.2 → ∀ L1 : Nat → Nat → Int64, (∀ i, i < 104 * r → L1 549 i = L 549 i) → (∀ q, q ≠ 549 → L1 q = L q) → Q (some (.int 6)) (n, sh, X, R, I, L1)) (next : ¬ po_no (ca_sy x y z0) P.2 → ∀ (o6 o7 o8 o9 o10 o11 : Option Value) (L1 : Nat → Nat → Int64), rw_at (L1 549) (104 * r) p md st lo E b0 (ba_pot (ca_sy x y z0) (-1 : Int32).toInt64 P b1) → (∀ i, i < 104 * r + 49 ∨ 104 * r + 104 ≤ i → L1 549 i = L 549 i) → (∀ q, q ≠ 549 → L1 q = L q) → gw_Go y_Mo_called (d + 2) 0 0 170 [some (.ref 533), some (.int (nI r)), some (.int (nI m)), some (.int (nI f)), some (.int (nI c)), some (.int (1 + Int32.ofInt 1)), o6, o7, o8, o9, o10, o11] [] (n, sh, X, R, I, L1) Q) : gw_Go y_Mo_called (d + 2) 0 0 170 [some (.ref 533), some (.int (nI r)), some (.int (nI m)), some (.int (nI f)), some (.int (nI c)), some (.int 1), o6, o7, o8, o9, o10, o11] [] (n, sh, X, R, I, L) Q := by
  have hp0 := hp
  obtain ⟨s533, s534, s535, s536, s537, s538, s539, s540, s541, s542, s543, s544, s545, s546, s547, s548, s549, s550, s551, s552, s553, s554, s555, s556, s557, r534, r535, r536, r537, r538, r539, r540, r541, r542, r543, r544, r545, r546, r547, r548, r549, r550, r551, r552, r553, r554, r555, r556, r557⟩ := hp
  have hb : mb_at (L 549) (104 * r + 74) (104 * r + 100) b1 := h.2.2.2.2.2.2.2.2.2
  have e2 : (2 : Int32) * nI c + 1 = nI (2 * c + 1) := ix (a := 2) (j := 1)
  refine go_iload d_Mo_called_170 rfl ?_
  refine go_iconst (v := 2) d_Mo_called_172 rfl ?_
  refine go_icmp_ge 349 d_Mo_called_173 rfl (fun hn => absurd hn (by decide)) (fun _ => ?_)
  refine go_iconst (v := 2) d_Mo_called_176 rfl ?_
  refine go_iload d_Mo_called_177 rfl ?_
  refine go_imul d_Mo_called_179 ?_
  refine go_iload d_Mo_called_180 rfl ?_
  refine go_iadd d_Mo_called_182 ?_
  rw [e2]
  refine go_istore d_Mo_called_183 (Nat.le_of_ble_eq_true rfl) ?_
  simp only [gw_st1, gw_st2, gw_cl1, gw_get, gw_set, gw_big, Bool.false_eq_true, if_false, if_true, ↓reduceIte]
  refine go_aload_n 0 d_Mo_called_185 rfl rfl ?_
  refine go_getR d_Mo_called_186 f_Mo_56 (by assumption) (by assumption) ?_
  refine go_bipush (v := 104) d_Mo_called_189 rfl ?_
  refine go_iload_n 1 d_Mo_called_191 rfl rfl ?_
  refine go_imul d_Mo_called_192 ?_
  refine go_bipush (v := 99) d_Mo_called_193 rfl ?_
  refine go_iadd d_Mo_called_195 ?_
  refine go_iload d_Mo_called_196 rfl ?_
  refine go_iadd d_Mo_called_198 ?_
  refine go_dup2 d_Mo_called_199 rfl rfl ?_
  refine go_lald (104 * r + 100) d_Mo_called_200 (by assumption) (by rw [show (104 : Int32) * nI r + 99 = nI (104 * r + 99) from ix3 (a := 99)]; exact nI_add _ 1) (by omega) (by decide) ?_
  refine go_aload_n 0 d_Mo_called_201 rfl rfl ?_
  refine go_getR d_Mo_called_202 f_Mo_41 (by assumption) (by assumption) ?_
  refine go_iload d_Mo_called_205 rfl ?_
  refine go_iald (2 * c + 1) d_Mo_called_207 (by assumption) (rfl) (by omega) (by decide) ?_
  rw [hP.1]
  refine go_i2l d_Mo_called_208 (rfl) ?_
  rw [hb.2]
  refine go_lsub d_Mo_called_209 ?_
  rw [m1_sub]
  refine go_last (104 * r + 100) d_Mo_called_210 (by assumption) (by rw [show (104 : Int32) * nI r + 99 = nI (104 * r + 99) from ix3 (a := 99)]; exact nI_add _ 1) (by omega) (by decide) ?_
  refine go_iconst (v := 3) d_Mo_called_211 rfl ?_
  refine go_iload d_Mo_called_212 rfl ?_
  refine go_imul d_Mo_called_214 ?_
  refine go_istore d_Mo_called_215 (Nat.le_of_ble_eq_true rfl) ?_
  have h2 : rw_at (va_up L 549 (va_up (L 549) (104 * r + 100) (b1.2 + (-1 : Int32).toInt64 * P.1.toInt64)) 549) (104 * r) p md st lo E b0 (b1.1, b1.2 + (-1 : Int32).toInt64 * P.1.toInt64) := by rw [gw_up_eq]; exact h.num1
  refine c_Mo_calT1 (b0 := b0) (b1 := b1) (x := x) (y := y) (z0 := z0) (s0 := (b1.1, b1.2 + (-1 : Int32).toInt64 * P.1.toInt64)) hp0 hr hc hP hP2 hff hf49 (fun v hv => ca_ms hms (r := r) (by omega) (fun i hi => by rw [up2_ne (Or.inr (by omega))]) hv) (fun hno L1 g1 g2 => hf hno L1 (fun i hi => by rw [g1 i (by omega), up2_ne (Or.inr (by omega))]) (fun q hq => by rw [g2 q hq, gw_up_ne hq])) (fun hno o8 o9 o10 o11 z' L1 g1 g2 g3 => ?_) P.2 0 _ _ _ _ _ _ _ (nI_mul 3 _) (Nat.zero_le _) rfl h2 (fun _ _ => rfl) (fun _ _ => rfl) Iff.rfl rfl
  refine go_iinc d_Mo_called_343 rfl rfl (Nat.le_of_ble_eq_true rfl) ?_
  refine go_goto 170 d_Mo_called_346 rfl ?_
  exact next hno _ _ _ _ _ _ L1 g1 (fun i hi => by rw [g2 i (by omega), up2_ne (Or.inr (by omega))]) (fun q hq => by rw [g3 q hq, gw_up_ne hq])
theorem c_Mo_called {r md m i : Nat} {p : Int32} {x y z0 : ab_Sy} {st : List ab_Sy} {lo : Nat → ab_Sy} {s : sp_E × sp_E} {b0 b1 : ab_Ba} {A : ab_Cu} (hp : pt_Mo sh R) (hr : r < 42) (hm : m < 4) (hmc : mc_at I U) (hcut : (U m).2.1[i]? = some (0, A)) (hu : ∀ (i j : Nat) (e f : Nat × ab_Cu), (U m).2.1[i]? = some e → (U m).2.1[j]? = some f → nI e.1 = nI f.1 → i = j) (hA0 : ∀ t ∈ A.2.1.2, t.1 ≤ 100) (hA1 : ∀ t ∈ A.2.2.2, t.1 ≤ 100) (h : rw_at (L 549) (104 * r) p md (z0 :: y :: x :: st) lo s.1 b0 b1) (hok : kn_ok s) (hsx : sb 45000000000 x) (hsy : sb 45000000000 y) (hsz : sb 45000000000 z0)
    (hf : ¬ ((U m).2.2 = true ∧ kn_sh s.2 (ca_sy x y z0) A.1 ∧ ¬ po_no (ca_sy x y z0) A.2.1.2 ∧ ¬ po_no (ca_sy x y z0) A.2.2.2) → ∀ L', (∀ i, i < 104 * r → L' 549 i = L 549 i) → (∀ q, q ≠ 549 → q ≠ 550 → q ≠ 551 → L' q = L q) → Q (some (.int 6)) (n, sh, X, R, I, L'))
    (hQ : ((U m).2.2 = true ∧ kn_sh s.2 (ca_sy x y z0) A.1 ∧ ¬ po_no (ca_sy x y z0) A.2.1.2 ∧ ¬ po_no (ca_sy x y z0) A.2.2.2) → ∀ L', rw_at (L' 549) (104 * r) p md (none :: st) lo s.1 (ba_pot (ca_sy x y z0) (-1 : Int32).toInt64 A.2.1 b0) (ba_pot (ca_sy x y z0) (-1 : Int32).toInt64 A.2.2 b1) → (∀ i, i < 104 * r → L' 549 i = L 549 i) → (∀ q, q ≠ 549 → q ≠ 550 → q ≠ 551 → L' q = L q) → Q (some (.int 0)) (n, sh, X, R, I, L')) : gw_Call y_Mo_called (d + 2) 0 0 [.ref 533, .int (nI r), .int (nI m)] (n, sh, X, R, I, L) Q := by
  have hp0 := hp
  obtain ⟨s533, s534, s535, s536, s537, s538, s539, s540, s541, s542, s543, s544, s545, s546, s547, s548, s549, s550, s551, s552, s553, s554, s555, s556, s557, r534, r535, r536, r537, r538, r539, r540, r541, r542, r543, r544, r545, r546, r547, r548, r549, r550, r551, r552, r553, r554, r555, r556, r557⟩ := hp
  have hC := kn_ok_bd hok
  have hs6 : st.length + 3 ≤ 6 := h.2.2.2.1
  have g537 : I 537 m = bI (U m).2.2 := (hmc m hm).2.2.2.1
  have hi6 : i < 6 := ge_lt hcut (hmc m hm).2.2.2.2.2.1
  have hmu : mu_at I (6 * m + i) A := ((hmc m hm).2.2.2.2.2.2 i _ hcut).2
  refine gw_call o_Mo_called (Nat.le_of_ble_eq_true rfl) ?_
  refine go_aload_n 0 d_Mo_called_0 rfl rfl ?_
  refine go_iload_n 1 d_Mo_called_1 rfl rfl ?_
  refine go_V1 d_Mo_called_2 k_Mo_189 (by assumption) (Nat.le_of_ble_eq_true rfl) (c_Mo_pop hp0 hr h (fun L1 f1 f2 f3 f4 => ?_))
  refine go_pop d_Mo_called_5 rfl ?_
  refine go_aload_n 0 d_Mo_called_6 rfl rfl ?_
  refine go_iload_n 1 d_Mo_called_7 rfl rfl ?_
  refine go_V1 d_Mo_called_8 k_Mo_189 (by assumption) (Nat.le_of_ble_eq_true rfl) (c_Mo_pop hp0 hr f1 (fun L2 g1 g2 g3 g4 => ?_))
  refine go_pop d_Mo_called_11 rfl ?_
  refine go_aload_n 0 d_Mo_called_12 rfl rfl ?_
  refine go_iload_n 1 d_Mo_called_13 rfl rfl ?_
  refine go_V1 d_Mo_called_14 k_Mo_189 (by assumption) (Nat.le_of_ble_eq_true rfl) (c_Mo_pop hp0 hr g1 (fun L3 k1 k2 k3 k4 => ?_))
  refine go_istore_n 3 d_Mo_called_17 rfl (Nat.le_of_ble_eq_true rfl) ?_
  obtain ⟨f, hfe⟩ : ∃ f, f = 104 * r + 12 + 2 * st.length := ⟨_, rfl⟩
  rw [← hfe]
  have cx : ms_at (L3 549 f) (L3 549 (f + 1)) x := by rw [hfe, show 104 * r + 12 + 2 * st.length + 1 = 104 * r + 13 + 2 * st.length by omega]; exact k2
  have cy : ms_at (L3 549 (f + 2)) (L3 549 (f + 3)) y := by rw [hfe, k3 _ (by omega), k3 _ (by omega)]; have e1 : 104 * r + 12 + 2 * (x :: st).length = 104 * r + 12 + 2 * st.length + 2 := (by rw [List.length_cons]; omega); have e2 : 104 * r + 13 + 2 * (x :: st).length = 104 * r + 12 + 2 * st.length + 3 := (by rw [List.length_cons]; omega); rw [e1, e2] at g2; exact g2
  have cz : ms_at (L3 549 (f + 4)) (L3 549 (f + 5)) z0 := by rw [hfe, k3 _ (by omega), k3 _ (by omega), g3 _ (by omega), g3 _ (by omega)]; have e1 : 104 * r + 12 + 2 * (y :: x :: st).length = 104 * r + 12 + 2 * st.length + 4 := (by rw [List.length_cons, List.length_cons]; omega); have e2 : 104 * r + 13 + 2 * (y :: x :: st).length = 104 * r + 12 + 2 * st.length + 5 := (by rw [List.length_cons, List.length_cons]; omega); rw [e1, e2] at f2; exact f2
  have w3 : ∀ q, q ≠ 549 → L3 q = L q := fun q hq => by rw [k4 q hq, g4 q hq, f4 q hq]
  have w3r : ∀ i, i < 104 * r → L3 549 i = L 549 i := fun i hi => by rw [k3 i (by omega), g3 i (by omega), f3 i (by omega)]
  have hms : ∀ G : Nat → Int64, G = L3 549 → ∀ v, v < 5 → ms_at (cs_v G f v) (cn_v G f v) (ca_sy x y z0 v) := fun G hG v hv => by subst hG; rcases (show v = 0 ∨ v = 1 ∨ v = 2 ∨ v = 3 ∨ v = 4 by omega) with rfl | rfl | rfl | rfl | rfl; exact cx; exact cy; exact cz; exact ⟨rfl, (by decide), rfl⟩; exact ⟨rfl, (by decide), rfl⟩
  have hsb : ∀ v, v < 5 → sb 45000000000 (ca_sy x y z0 v) := fun v hv => by rcases (show v = 0 ∨ v = 1 ∨ v = 2 ∨ v = 3 ∨ v = 4 by omega) with rfl | rfl | rfl | rfl | rfl; exact hsx; exact hsy; exact hsz; (intro q hq; cases hq; exact ⟨(by decide), (by decide)⟩); (intro q hq; cases hq; exact ⟨(by decide), (by decide)⟩)
  refine go_aload_n 0 d_Mo_called_18 rfl rfl ?_
  refine go_getR d_Mo_called_19 f_Mo_19 (by assumption) (by assumption) ?_
  refine go_iload_n 2 d_Mo_called_22 rfl rfl ?_
  refine go_zald (m) d_Mo_called_23 (by assumption) (rfl) (hm) (by decide) ?_
  rw [g537]
  refine go_if_ne 30 d_Mo_called_24 rfl (fun h24 => ?_) (fun h24 => ?_)
  · refine go_aload_n 0 d_Mo_called_30 rfl rfl ?_
    refine go_iload_n 1 d_Mo_called_31 rfl rfl ?_
    refine go_V1 d_Mo_called_32 k_Mo_142 (by assumption) (Nat.le_of_ble_eq_true rfl) (c_Mo_fbC (d := d) hp0 hr k1.2.2.2.2.2.2.2.1 hok (fun L4 b1' b2' => ?_))
    refine go_pop d_Mo_called_35 rfl ?_
    refine go_aload_n 0 d_Mo_called_36 rfl rfl ?_
    refine go_iload_n 2 d_Mo_called_37 rfl rfl ?_
    refine go_iconst (v := 0) d_Mo_called_38 rfl ?_
    refine go_V2 d_Mo_called_39 k_Mo_106 (by assumption) (Nat.le_of_ble_eq_true rfl) (c_Mo_cutAt (d := d) hp0 hmc (fun hno => absurd ⟨m, (0, A), hm, rfl, List.mem_of_getElem? hcut, rfl⟩ hno) (fun k j e' a1 a2 a3 a4 a5 => ?_))
    have ek := (nI_eq (by omega) (by omega)).mp a2
    subst ek
    have ej := hu j i e' _ a3 hcut a4
    subst ej
    have w4 : L4 549 = L3 549 := b2' _ (by decide) (by decide)
    have w4q : ∀ q, q ≠ 549 → q ≠ 550 → q ≠ 551 → L4 q = L q := fun q a b c => by rw [b2' q b c, w3 q a]
    have row4 : rw_at (L4 549) (104 * r) p md st lo s.1 b0 b1 := by rw [w4]; exact k1
    refine go_istore d_Mo_called_42 (Nat.le_of_ble_eq_true rfl) ?_
    simp only [gw_st1, gw_st2, gw_cl1, gw_get, gw_set, gw_big, Bool.false_eq_true, if_false, if_true, ↓reduceIte]
    refine go_bipush (v := 6) d_Mo_called_44 rfl ?_
    refine go_iload d_Mo_called_46 rfl ?_
    refine go_imul d_Mo_called_48 ?_
    refine go_istore d_Mo_called_49 (Nat.le_of_ble_eq_true rfl) ?_
    refine c_Mo_calC (K := s.2) (p := p) (md := md) (st := st) (lo := lo) (E := s.1) (b0 := b0) (b1 := b1) hp0 hr (by omega) hmu b1' hC (by omega) (hms _ w4) hsb (fun hn => hf (fun hh => hn hh.2.1) L4 (fun i hi => by rw [w4]; exact w3r i hi) w4q) (fun hs z3 o6 o7 o8 o9 o10 o11 => ?_) A.1 0 _ _ _ _ _ _ _ (nI_mul 6 _) (Nat.zero_le _) rfl Iff.rfl
    refine go_iconst (v := 0) d_Mo_called_167 rfl ?_
    refine go_istore d_Mo_called_168 (Nat.le_of_ble_eq_true rfl) ?_
    refine c_Mo_calW0 (x := x) (y := y) (z0 := z0) hp0 hr (by omega) hmu.2.2.2.1 hA0 (by omega) (by omega) (hms _ w4) row4 (fun hn L5 q1 q2 => hf (fun hh => hh.2.2.1 hn) L5 (fun i hi => by rw [q1 i hi, w4]; exact w3r i hi) (fun q a b c => by rw [q2 q a]; exact w4q q a b c)) (fun hn0 o6 o7 o8 o9 o10 o11 L5 q1 q2 q3 => ?_)
    refine c_Mo_calW1 (x := x) (y := y) (z0 := z0) hp0 hr (by omega) hmu.2.2.2.2 hA1 (by omega) (by omega) (fun v hv => ca_ms (hms _ w4) (r := r) (by omega) q2 hv) q1 (fun hn L6 p1 p2 => hf (fun hh => hh.2.2.2 hn) L6 (fun i hi => by rw [p1 i hi, q2 i (by omega), w4]; exact w3r i hi) (fun q a b c => by rw [p2 q a, q3 q a]; exact w4q q a b c)) (fun hn1 o6 o7 o8 o9 o10 o11 L6 p1 p2 p3 => ?_)
    refine go_iload d_Mo_called_170 rfl ?_
    refine go_iconst (v := 2) d_Mo_called_172 rfl ?_
    refine go_icmp_ge 349 d_Mo_called_173 rfl (fun _ => ?_) (fun hn => absurd (by decide) hn)
    refine go_aload_n 0 d_Mo_called_349 rfl rfl ?_
    refine go_iload_n 1 d_Mo_called_350 rfl rfl ?_
    refine go_ldc2 d_Mo_called_351 i_Mo_187 ?_
    refine go_lconst (v := 0) d_Mo_called_354 rfl ?_
    refine go_V3 d_Mo_called_355 k_Mo_183 (by assumption) (Nat.le_of_ble_eq_true rfl) (c_Mo_push (v := none) hp0 hr p1 (by omega) rfl (fun L7 t1 t2 t3 => ?_))
    refine go_iconst (v := 0) d_Mo_called_358 rfl ?_
    exact go_iret d_Mo_called_359 rfl (hQ ⟨bI_n0.mp h24, hs, hn0, hn1⟩ L7 t1 (fun i hi => by rw [t2 i (by omega), p2 i (by omega), q2 i (by omega), w4]; exact w3r i hi) (fun q a b c => by rw [t3 q a, p3 q a, q3 q a]; exact w4q q a b c))
  · refine go_bipush (v := 6) d_Mo_called_27 rfl ?_
    exact go_iret d_Mo_called_29 rfl (hf (fun hh => absurd h24 (bI_n0.mpr hh.1)) L3 w3r (fun q a b c => w3 q a))
end MO
