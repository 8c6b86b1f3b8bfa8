/-! the reference: end -/
theorem m1_sub (x z : Int64) : x - z = x + (-1 : Int32).toInt64 * z := by
  rw [show (-1 : Int32).toInt64 = -1 from rfl, Int64.neg_mul, Int64.one_mul, Int64.sub_eq_add_neg]
theorem rw_at.num0 {G : Nat → Int64} {B : Nat} {p : Int32} {md : Nat} {st : List ab_Sy} {lo : Nat → ab_Sy} {E : sp_E} {b0 b1 : ab_Ba} {x : Int64} (h : rw_at G B p md st lo E b0 b1) : rw_at (va_up G (B + 99) x) B p md st lo E (b0.1, x) b1 := by
  obtain ⟨a1, a2, a3, a4, a5, a6, a7, a8, a9, a10⟩ := h
  exact ⟨by rw [gw_up_ne (by omega)]; exact a1, by rw [gw_up_ne (by omega)]; exact a2, by rw [gw_up_ne (by omega)]; exact a3, a4, a5.cpy (fun x x' ⟨j, h1, h2, h3, h4⟩ => by rw [h3, h4, gw_up_ne (by omega)]), fun j hj => (by rw [gw_up_ne (by omega), gw_up_ne (by omega)]; exact a6 j hj), a7, a8.cpy (fun j hj => by rw [gw_up_ne (by omega)]), ⟨fun a b ha hb => (by rw [gw_up_ne (by omega)]; exact a9.1 a b ha hb), gw_up_eq⟩, a10.cpy (fun j hj => by rw [gw_up_ne (by omega)]) (by rw [gw_up_ne (by omega)])⟩
theorem rw_at.num1 {G : Nat → Int64} {B : Nat} {p : Int32} {md : Nat} {st : List ab_Sy} {lo : Nat → ab_Sy} {E : sp_E} {b0 b1 : ab_Ba} {x : Int64} (h : rw_at G B p md st lo E b0 b1) : rw_at (va_up G (B + 100) x) B p md st lo E b0 (b1.1, x) := by
  obtain ⟨a1, a2, a3, a4, a5, a6, a7, a8, a9, a10⟩ := h
  exact ⟨by rw [gw_up_ne (by omega)]; exact a1, by rw [gw_up_ne (by omega)]; exact a2, by rw [gw_up_ne (by omega)]; exact a3, a4, a5.cpy (fun x x' ⟨j, h1, h2, h3, h4⟩ => by rw [h3, h4, gw_up_ne (by omega)]), fun j hj => (by rw [gw_up_ne (by omega), gw_up_ne (by omega)]; exact a6 j hj), a7, a8.cpy (fun j hj => by rw [gw_up_ne (by omega)]), a9.cpy (fun j hj => by rw [gw_up_ne (by omega)]) (by rw [gw_up_ne (by omega)]), ⟨fun a b ha hb => (by rw [gw_up_ne (by omega)]; exact a10.1 a b ha hb), gw_up_eq⟩⟩
section MO
variable {d n : Nat} {sh : Nat → Nat × Nat} {X : Nat × (Nat → Int32)} {R : Nat → Nat → Option Nat} {I : Nat → Nat → Int32} {L : Nat → Nat → Int64} {Q : Option Value → gw_Mem → Prop}
theorem c_Mo_endZ0 {r : Nat} {T : ab_Ba} {C : sp_E} {o4 o5 o6 o7 o8 o9 : Option Value} (hp : pt_Mo sh R) (hr : r < 42) (h : mb_at (L 549) (104 * r + 49) (104 * r + 99) T) (hbt : bt_at L C) (hC : kn_bd C 400000000000) (hf : ¬ ba_sh C T → Q (some (.int 9)) (n, sh, X, R, I, L)) (next : ba_sh C T → ∀ (o4 o5 o6 o7 o8 o9 : Option Value), gw_Go y_Mo_end (d + 2) 0 0 170 [some (.ref 533), some (.int (nI r)), some (.int (-1)), some (.int (0 + Int32.ofInt 1)), o4, o5, o6, o7, o8, o9] [] (n, sh, X, R, I, L) Q) : gw_Go y_Mo_end (d + 2) 0 0 170 [some (.ref 533), some (.int (nI r)), some (.int (-1)), some (.int 0), o4, o5, o6, o7, o8, o9] [] (n, sh, X, R, I, L) Q := by
  have hp0 := hp
  obtain ⟨s533, s534, s535, s536, s537, s538, s539, s540, s541, s542, s543, s544, s545, s546, s547, s548, s549, s550, s551, s552, s553, s554, s555, s556, s557, r534, r535, r536, r537, r538, r539, r540, r541, r542, r543, r544, r545, r546, r547, r548, r549, r550, r551, r552, r553, r554, r555, r556, r557⟩ := hp
  refine go_iload_n 3 d_Mo_end_170 rfl rfl ?_
  refine go_iconst (v := 2) d_Mo_end_171 rfl ?_
  refine go_icmp_ge 370 d_Mo_end_172 rfl (fun hn => absurd hn (by decide)) (fun _ => ?_)
  refine go_iconst (v := 2) d_Mo_end_175 rfl ?_
  refine go_iload_n 2 d_Mo_end_176 rfl rfl ?_
  refine go_imul d_Mo_end_177 ?_
  refine go_iload_n 3 d_Mo_end_178 rfl rfl ?_
  refine go_iadd d_Mo_end_179 ?_
  refine go_istore d_Mo_end_180 (Nat.le_of_ble_eq_true rfl) ?_
  simp only [gw_st1, gw_st2, gw_cl1, gw_get, gw_set, gw_big, Bool.false_eq_true, if_false, if_true, ↓reduceIte]
  refine go_iload_n 2 d_Mo_end_182 rfl rfl ?_
  refine go_if_lt 211 d_Mo_end_183 rfl (fun _ => ?_) (fun hn => absurd (by decide) hn)
  refine go_iconst (v := 3) d_Mo_end_211 rfl ?_
  refine go_iload d_Mo_end_212 rfl ?_
  refine go_imul d_Mo_end_214 ?_
  refine go_istore d_Mo_end_215 (Nat.le_of_ble_eq_true rfl) ?_
  simp only [gw_st1, gw_st2, gw_cl1, gw_get, gw_set, gw_big, Bool.false_eq_true, if_false, if_true, ↓reduceIte]
  refine go_iload_n 2 d_Mo_end_217 rfl rfl ?_
  refine go_if_lt 342 d_Mo_end_218 rfl (fun _ => ?_) (fun hn => absurd (by decide) hn)
  refine go_aload_n 0 d_Mo_end_342 rfl rfl ?_
  refine go_iload_n 1 d_Mo_end_343 rfl rfl ?_
  refine go_iload_n 3 d_Mo_end_344 rfl rfl ?_
  refine go_if_ne 353 d_Mo_end_345 rfl (fun hn => absurd hn (fun hh => hh rfl)) (fun _ => ?_)
  refine go_bipush (v := 49) d_Mo_end_348 rfl ?_
  refine go_goto 355 d_Mo_end_350 rfl ?_
  refine go_V2 d_Mo_end_355 k_Mo_218 (by assumption) (Nat.le_of_ble_eq_true rfl) (c_Mo_shown (tb := 49) (N := 99) (T := T) hp0 hr (Or.inl ⟨rfl, rfl⟩) h hbt hC (fun g k1 z1 => ?_))
  refine go_if_ne 364 d_Mo_end_358 rfl (fun h358 => ?_) (fun h358 => ?_)
  · refine go_iinc d_Mo_end_364 rfl rfl (Nat.le_of_ble_eq_true rfl) ?_
    refine go_goto 170 d_Mo_end_367 rfl ?_
    exact next (k1.mp h358) _ _ _ _ _ _
  · refine go_bipush (v := 9) d_Mo_end_361 rfl ?_
    exact go_iret d_Mo_end_363 rfl (hf (fun hh => absurd h358 (k1.mpr hh)))
theorem c_Mo_endZ1 {r : Nat} {T : ab_Ba} {C : sp_E} {o4 o5 o6 o7 o8 o9 : Option Value} (hp : pt_Mo sh R) (hr : r < 42) (h : mb_at (L 549) (104 * r + 74) (104 * r + 100) T) (hbt : bt_at L C) (hC : kn_bd C 400000000000) (hf : ¬ ba_sh C T → Q (some (.int 9)) (n, sh, X, R, I, L)) (next : ba_sh C T → ∀ (o4 o5 o6 o7 o8 o9 : Option Value), gw_Go y_Mo_end (d + 2) 0 0 170 [some (.ref 533), some (.int (nI r)), some (.int (-1)), some (.int (1 + Int32.ofInt 1)), o4, o5, o6, o7, o8, o9] [] (n, sh, X, R, I, L) Q) : gw_Go y_Mo_end (d + 2) 0 0 170 [some (.ref 533), some (.int (nI r)), some (.int (-1)), some (.int 1), o4, o5, o6, o7, o8, o9] [] (n, sh, X, R, I, L) Q := by
  have hp0 := hp
  obtain ⟨s533, s534, s535, s536, s537, s538, s539, s540, s541, s542, s543, s544, s545, s546, s547, s548, s549, s550, s551, s552, s553, s554, s555, s556, s557, r534, r535, r536, r537, r538, r539, r540, r541, r542, r543, r544, r545, r546, r547, r548, r549, r550, r551, r552, r553, r554, r555, r556, r557⟩ := hp
  refine go_iload_n 3 d_Mo_end_170 rfl rfl ?_
  refine go_iconst (v := 2) d_Mo_end_171 rfl ?_
  refine go_icmp_ge 370 d_Mo_end_172 rfl (fun hn => absurd hn (by decide)) (fun _ => ?_)
  refine go_iconst (v := 2) d_Mo_end_175 rfl ?_
  refine go_iload_n 2 d_Mo_end_176 rfl rfl ?_
  refine go_imul d_Mo_end_177 ?_
  refine go_iload_n 3 d_Mo_end_178 rfl rfl ?_
  refine go_iadd d_Mo_end_179 ?_
  refine go_istore d_Mo_end_180 (Nat.le_of_ble_eq_true rfl) ?_
  simp only [gw_st1, gw_st2, gw_cl1, gw_get, gw_set, gw_big, Bool.false_eq_true, if_false, if_true, ↓reduceIte]
  refine go_iload_n 2 d_Mo_end_182 rfl rfl ?_
  refine go_if_lt 211 d_Mo_end_183 rfl (fun _ => ?_) (fun hn => absurd (by decide) hn)
  refine go_iconst (v := 3) d_Mo_end_211 rfl ?_
  refine go_iload d_Mo_end_212 rfl ?_
  refine go_imul d_Mo_end_214 ?_
  refine go_istore d_Mo_end_215 (Nat.le_of_ble_eq_true rfl) ?_
  simp only [gw_st1, gw_st2, gw_cl1, gw_get, gw_set, gw_big, Bool.false_eq_true, if_false, if_true, ↓reduceIte]
  refine go_iload_n 2 d_Mo_end_217 rfl rfl ?_
  refine go_if_lt 342 d_Mo_end_218 rfl (fun _ => ?_) (fun hn => absurd (by decide) hn)
  refine go_aload_n 0 d_Mo_end_342 rfl rfl ?_
  refine go_iload_n 1 d_Mo_end_343 rfl rfl ?_
  refine go_iload_n 3 d_Mo_end_344 rfl rfl ?_
  refine go_if_ne 353 d_Mo_end_345 rfl (fun _ => ?_) (fun hn => by first | exact absurd hn (by decide) | exact absurd (by decide) hn)
  refine go_bipush (v := 74) d_Mo_end_353 rfl ?_
  refine go_V2 d_Mo_end_355 k_Mo_218 (by assumption) (Nat.le_of_ble_eq_true rfl) (c_Mo_shown (tb := 74) (N := 100) (T := T) hp0 hr (Or.inr ⟨rfl, rfl⟩) h hbt hC (fun g k1 z1 => ?_))
  refine go_if_ne 364 d_Mo_end_358 rfl (fun h358 => ?_) (fun h358 => ?_)
  · refine go_iinc d_Mo_end_364 rfl rfl (Nat.le_of_ble_eq_true rfl) ?_
    refine go_goto 170 d_Mo_end_367 rfl ?_
    exact next (k1.mp h358) _ _ _ _ _ _
  · refine go_bipush (v := 9) d_Mo_end_361 rfl ?_
    exact go_iret d_Mo_end_363 rfl (hf (fun hh => absurd h358 (k1.mpr hh)))
theorem c_Mo_end0 {r md e : Nat} {p : Int32} {st : List ab_Sy} {lo : Nat → ab_Sy} {s : sp_E × sp_E} {b0 b1 : ab_Ba} (hp : pt_Mo sh R) (hr : r < 42) (h : rw_at (L 549) (104 * r) p md st lo s.1 b0 b1) (hok : kn_ok s) (he : e ≤ 50) (h17 : I 533 17 = nI e) (hQ : ∀ I' L', I' 533 16 = nI r → I' 533 17 = nI (ce_end e st lo s.2 b0 b1 none).2 → (∀ j, j ≠ 16 → j ≠ 17 → I' 533 j = I 533 j) → (∀ q, q ≠ 533 → I' q = I q) → (∀ i, i < 104 * r → L' 549 i = L 549 i) → (∀ q, q ≠ 549 → q ≠ 550 → q ≠ 551 → L' q = L q) → Q (some (.int (ce_end e st lo s.2 b0 b1 none).1)) (n, sh, X, R, I', L')) : gw_Call y_Mo_end (d + 2) 0 0 [.ref 533, .int (nI r), .int (-1)] (n, sh, X, R, I, L) Q := by
  have hp0 := hp
  obtain ⟨s533, s534, s535, s536, s537, s538, s539, s540, s541, s542, s543, s544, s545, s546, s547, s548, s549, s550, s551, s552, s553, s554, s555, s556, s557, r534, r535, r536, r537, r538, r539, r540, r541, r542, r543, r544, r545, r546, r547, r548, r549, r550, r551, r552, r553, r554, r555, r556, r557⟩ := hp
  have hC := kn_ok_bd hok
  refine gw_call o_Mo_end (Nat.le_of_ble_eq_true rfl) ?_
  by_cases h50 : e = 50
  · have hr' : ce_end e st lo s.2 b0 b1 none = (4, e) := if_pos (by omega)
    rw [hr'] at hQ
    refine go_aload_n 0 d_Mo_end_0 rfl rfl ?_
    refine go_iload_n 1 d_Mo_end_1 rfl rfl ?_
    refine go_putI d_Mo_end_2 f_Mo_149 (by assumption) ?_
    refine go_aload_n 0 d_Mo_end_5 rfl rfl ?_
    refine go_getI d_Mo_end_6 f_Mo_153 (by assumption) ?_
    simp (disch := omega) only [up2_eq, up2_ne]
    rw [h17]
    refine go_bipush (v := 50) d_Mo_end_9 rfl ?_
    refine go_icmp_ne 16 d_Mo_end_11 rfl (fun hn => absurd hn ((fun hh => hh (by rw [h50]; rfl)))) (fun _ => ?_)
    refine go_iconst (v := 4) d_Mo_end_14 rfl ?_
    exact go_iret d_Mo_end_15 rfl (hQ _ L (by simp (disch := omega) only [up2_eq, up2_ne]) (by simp (disch := omega) only [up2_eq, up2_ne]; exact h17) (fun j a b => by simp (disch := omega) only [up2_eq, up2_ne]) (fun q hq => gw_up_ne hq) (fun _ _ => rfl) (fun _ _ _ _ => rfl))
  · have hr' : ce_end e st lo s.2 b0 b1 none = cIf (ba_sh s.2 b0 ∧ ba_sh s.2 b1) (0, e + 1) (9, e + 1) := if_neg (by omega)
    rw [hr'] at hQ
    have hQ' : ∀ (v : Int32) (I' : Nat → Nat → Int32) (L' : Nat → Nat → Int64), v = (if v = 0 then 0 else 9) → (v = 0 ↔ (ba_sh s.2 b0 ∧ ba_sh s.2 b1)) → I' 533 16 = nI r → I' 533 17 = nI (e + 1) → (∀ j, j ≠ 16 → j ≠ 17 → I' 533 j = I 533 j) → (∀ q, q ≠ 533 → I' q = I q) → (∀ i, i < 104 * r → L' 549 i = L 549 i) → (∀ q, q ≠ 549 → q ≠ 550 → q ≠ 551 → L' q = L q) → Q (some (.int v)) (n, sh, X, R, I', L') := fun v I' L' hv hv2 a b c d' e' f' => by
      by_cases hh : ba_sh s.2 b0 ∧ ba_sh s.2 b1
      · rw [cIf_pos hh] at hQ
        have := hv2.mpr hh
        subst this
        exact hQ I' L' a b c d' e' f'
      · rw [cIf_neg hh] at hQ
        rw [if_neg (fun h0 => hh (hv2.mp h0))] at hv
        subst hv
        exact hQ I' L' a b c d' e' f'
    refine go_aload_n 0 d_Mo_end_0 rfl rfl ?_
    refine go_iload_n 1 d_Mo_end_1 rfl rfl ?_
    refine go_putI d_Mo_end_2 f_Mo_149 (by assumption) ?_
    refine go_aload_n 0 d_Mo_end_5 rfl rfl ?_
    refine go_getI d_Mo_end_6 f_Mo_153 (by assumption) ?_
    simp (disch := omega) only [up2_eq, up2_ne]
    rw [h17]
    refine go_bipush (v := 50) d_Mo_end_9 rfl ?_
    refine go_icmp_ne 16 d_Mo_end_11 rfl (fun _ => ?_) (fun hn => by first | exact absurd hn ((fun hh => h50 ((nI_eq (b := 50) (by omega) (by decide)).mp hh))) | exact absurd ((fun hh => h50 ((nI_eq (b := 50) (by omega) (by decide)).mp hh))) hn)
    refine go_aload_n 0 d_Mo_end_16 rfl rfl ?_
    refine go_dup d_Mo_end_17 rfl ?_
    refine go_getI d_Mo_end_18 f_Mo_153 (by assumption) ?_
    refine go_iconst (v := 1) d_Mo_end_21 rfl ?_
    refine go_iadd d_Mo_end_22 ?_
    rw [show va_up I 533 (va_up (I 533) 16 (nI r)) 533 17 + 1 = nI (e + 1) by simp (disch := omega) only [up2_eq, up2_ne]; rw [h17, nI_1]]
    refine go_putI d_Mo_end_23 f_Mo_153 (by assumption) ?_
    refine go_iload_n 2 d_Mo_end_26 rfl rfl ?_
    refine go_if_lt 49 d_Mo_end_27 rfl (fun _ => ?_) (fun hn => absurd (by decide) hn)
    refine go_aload_n 0 d_Mo_end_49 rfl rfl ?_
    refine go_iload_n 1 d_Mo_end_50 rfl rfl ?_
    refine go_V1 d_Mo_end_51 k_Mo_142 (by assumption) (Nat.le_of_ble_eq_true rfl) (c_Mo_fbC (d := d) hp0 hr h.2.2.2.2.2.2.2.1 hok (fun L1 f1 f2 => ?_))
    refine go_pop d_Mo_end_54 rfl ?_
    have w549 : L1 549 = L 549 := f2 _ (by decide) (by decide)
    obtain ⟨Ie, hIe⟩ : ∃ Ie, Ie = va_up (va_up I 533 (va_up (I 533) 16 (nI r))) 533 (va_up (va_up I 533 (va_up (I 533) 16 (nI r)) 533) 17 (nI (e + 1))) := ⟨_, rfl⟩
    rw [← hIe]
    have e16 : Ie 533 16 = nI r := by rw [hIe]; simp (disch := omega) only [up2_eq, up2_ne]
    have e17 : Ie 533 17 = nI (e + 1) := by rw [hIe]; simp (disch := omega) only [up2_eq, up2_ne]
    have eo : ∀ j, j ≠ 16 → j ≠ 17 → Ie 533 j = I 533 j := fun j a b => by rw [hIe]; simp (disch := omega) only [up2_eq, up2_ne]
    have eq : ∀ q, q ≠ 533 → Ie q = I q := fun q hq => by rw [hIe, gw_up_ne hq, gw_up_ne hq]
    refine go_bipush (v := 6) d_Mo_end_55 rfl ?_
    refine go_iload_n 2 d_Mo_end_57 rfl rfl ?_
    refine go_imul d_Mo_end_58 ?_
    refine go_istore_n 3 d_Mo_end_59 rfl (Nat.le_of_ble_eq_true rfl) ?_
    simp only [gw_st1, gw_st2, gw_cl1, gw_get, gw_set, gw_big, Bool.false_eq_true, if_false, if_true, ↓reduceIte]
    refine go_iload_n 2 d_Mo_end_60 rfl rfl ?_
    refine go_if_lt 168 d_Mo_end_61 rfl (fun _ => ?_) (fun hn => absurd (by decide) hn)
    refine go_iconst (v := 0) d_Mo_end_168 rfl ?_
    refine go_istore_n 3 d_Mo_end_169 rfl (Nat.le_of_ble_eq_true rfl) ?_
    simp only [gw_st1, gw_st2, gw_cl1, gw_get, gw_set, gw_big, Bool.false_eq_true, if_false, if_true, ↓reduceIte]
    refine c_Mo_endZ0 (T := b0) hp0 hr (by rw [w549]; exact h.2.2.2.2.2.2.2.2.1) f1 hC (fun hn => hQ' 9 Ie L1 rfl ⟨fun h0 => absurd h0 (by decide), fun hh => absurd hh.1 hn⟩ e16 e17 eo eq (fun i hi => by rw [w549]) (fun q a b c => f2 q b c)) (fun s0 o4 o5 o6 o7 o8 o9 => ?_)
    refine c_Mo_endZ1 (T := b1) hp0 hr (by rw [w549]; exact h.2.2.2.2.2.2.2.2.2) f1 hC (fun hn => hQ' 9 Ie L1 rfl ⟨fun h0 => absurd h0 (by decide), fun hh => absurd hh.2 hn⟩ e16 e17 eo eq (fun i hi => by rw [w549]) (fun q a b c => f2 q b c)) (fun s1 o4 o5 o6 o7 o8 o9 => ?_)
    refine go_iload_n 3 d_Mo_end_170 rfl rfl ?_
    refine go_iconst (v := 2) d_Mo_end_171 rfl ?_
    refine go_icmp_ge 370 d_Mo_end_172 rfl (fun _ => ?_) (fun hn => absurd (by decide) hn)
    refine go_iconst (v := 0) d_Mo_end_370 rfl ?_
    exact go_iret d_Mo_end_371 rfl (hQ' 0 Ie L1 rfl ⟨fun _ => ⟨s0, s1⟩, fun _ => rfl⟩ e16 e17 eo eq (fun i hi => by rw [w549]) (fun q a b c => f2 q b c))
/-- one table at a cut: base and terms off, then what is left -/
theorem c_Mo_endW0 {r md e : Nat} {p : Int32} {st : List ab_Sy} {lo : Nat → ab_Sy} {s : sp_E × sp_E} {b0 b1 : ab_Ba} {c : Nat} {P : ab_Po} {o4 o5 o6 o7 o8 o9 : Option Value} (hp : pt_Mo sh R) (hr : r < 42) (hc : c < 24) (hP : mp_at I (2 * c + 0) P) (hP2 : ∀ t ∈ P.2, t.1 ≤ 100) (h : rw_at (L 549) (104 * r) p md st lo s.1 b0 b1) (hbt : bt_at L s.2) (hC : kn_bd s.2 400000000000) (hf : ¬ (¬ po_no lo P.2 ∧ ba_sh s.2 (ba_pot lo (-1 : Int32).toInt64 P b0)) → ∀ L1 : Nat → Nat → Int64, (∀ i, i < 104 * r → L1 549 i = L 549 i) → (∀ q, q ≠ 549 → L1 q = L q) → Q (some (.int 9)) (n, sh, X, R, I, L1)) (next : (¬ po_no lo P.2 ∧ ba_sh s.2 (ba_pot lo (-1 : Int32).toInt64 P b0)) → ∀ (o4 o5 o6 o7 o8 o9 : Option Value) (L1 : Nat → Nat → Int64), rw_at (L1 549) (104 * r) p md st lo s.1 (ba_pot lo (-1 : Int32).toInt64 P b0) b1 → (∀ i, i < 104 * r → L1 549 i = L 549 i) → (∀ q, q ≠ 549 → L1 q = L q) → gw_Go y_Mo_end (d + 2) 0 0 170 [some (.ref 533), some (.int (nI r)), some (.int (nI c)), some (.int (0 + Int32.ofInt 1)), o4, o5, o6, o7, o8, o9] [] (n, sh, X, R, I, L1) Q) : gw_Go y_Mo_end (d + 2) 0 0 170 [some (.ref 533), some (.int (nI r)), some (.int (nI c)), some (.int 0), o4, o5, o6, o7, o8, o9] [] (n, sh, X, R, I, L) Q := by
  have hp0 := hp
  obtain ⟨s533, s534, s535, s536, s537, s538, s539, s540, s541, s542, s543, s544, s545, s546, s547, s548, s549, s550, s551, s552, s553, s554, s555, s556, s557, r534, r535, r536, r537, r538, r539, r540, r541, r542, r543, r544, r545, r546, r547, r548, r549, r550, r551, r552, r553, r554, r555, r556, r557⟩ := hp
  have hb : mb_at (L 549) (104 * r + 49) (104 * r + 99) b0 := h.2.2.2.2.2.2.2.2.1
  have e2 : (2 : Int32) * nI c + 0 = nI (2 * c + 0) := ix (a := 2) (j := 0)
  refine go_iload_n 3 d_Mo_end_170 rfl rfl ?_
  refine go_iconst (v := 2) d_Mo_end_171 rfl ?_
  refine go_icmp_ge 370 d_Mo_end_172 rfl (fun hn => absurd hn (by decide)) (fun _ => ?_)
  refine go_iconst (v := 2) d_Mo_end_175 rfl ?_
  refine go_iload_n 2 d_Mo_end_176 rfl rfl ?_
  refine go_imul d_Mo_end_177 ?_
  refine go_iload_n 3 d_Mo_end_178 rfl rfl ?_
  refine go_iadd d_Mo_end_179 ?_
  rw [e2]
  refine go_istore d_Mo_end_180 (Nat.le_of_ble_eq_true rfl) ?_
  refine go_iload_n 2 d_Mo_end_182 rfl rfl ?_
  refine go_if_lt 211 d_Mo_end_183 rfl (fun hn => absurd hn (nI_pos (by omega))) (fun _ => ?_)
  refine go_aload_n 0 d_Mo_end_186 rfl rfl ?_
  refine go_getR d_Mo_end_187 f_Mo_56 (by assumption) (by assumption) ?_
  refine go_bipush (v := 104) d_Mo_end_190 rfl ?_
  refine go_iload_n 1 d_Mo_end_192 rfl rfl ?_
  refine go_imul d_Mo_end_193 ?_
  refine go_bipush (v := 99) d_Mo_end_194 rfl ?_
  refine go_iadd d_Mo_end_196 ?_
  refine go_iload_n 3 d_Mo_end_197 rfl rfl ?_
  refine go_iadd d_Mo_end_198 ?_
  refine go_dup2 d_Mo_end_199 rfl rfl ?_
  refine go_lald (104 * r + 99) d_Mo_end_200 (by assumption) (by rw [show (104 : Int32) * nI r + 99 = nI (104 * r + 99) from ix3 (a := 99)]; exact nI_add _ 0) (by omega) (by decide) ?_
  refine go_aload_n 0 d_Mo_end_201 rfl rfl ?_
  refine go_getR d_Mo_end_202 f_Mo_41 (by assumption) (by assumption) ?_
  refine go_iload d_Mo_end_205 rfl ?_
  refine go_iald (2 * c + 0) d_Mo_end_207 (by assumption) (rfl) (by omega) (by decide) ?_
  rw [hP.1]
  refine go_i2l d_Mo_end_208 (rfl) ?_
  rw [hb.2]
  refine go_lsub d_Mo_end_209 ?_
  rw [m1_sub]
  refine go_last (104 * r + 99) d_Mo_end_210 (by assumption) (by rw [show (104 : Int32) * nI r + 99 = nI (104 * r + 99) from ix3 (a := 99)]; exact nI_add _ 0) (by omega) (by decide) ?_
  simp only [gw_st1, gw_st2, gw_cl1, gw_get, gw_set, gw_big, Bool.false_eq_true, if_false, if_true, ↓reduceIte]
  refine go_iconst (v := 3) d_Mo_end_211 rfl ?_
  refine go_iload d_Mo_end_212 rfl ?_
  refine go_imul d_Mo_end_214 ?_
  refine go_istore d_Mo_end_215 (Nat.le_of_ble_eq_true rfl) ?_
  have h2 : rw_at (va_up L 549 (va_up (L 549) (104 * r + 99) (b0.2 + (-1 : Int32).toInt64 * P.1.toInt64)) 549) (104 * r) p md st lo s.1 (b0.1, b0.2 + (-1 : Int32).toInt64 * P.1.toInt64) b1 := by rw [gw_up_eq]; exact h.num0
  refine c_Mo_endT0 (b0 := b0) (b1 := b1) (s0 := (b0.1, b0.2 + (-1 : Int32).toInt64 * P.1.toInt64)) hp0 hr hc hP hP2 (fun hno L1 g1 g2 => hf (fun hh => hh.1 hno) L1 (fun i hi => by rw [g1 i (by omega), up2_ne (Or.inr (by omega))]) (fun q hq => by rw [g2 q hq, gw_up_ne hq])) (fun hno o6 o7 o8 o9 z' L1 g1 g2 g3 => ?_) P.2 0 _ _ _ _ _ _ _ (nI_mul 3 _) (Nat.zero_le _) rfl h2 (fun _ _ => rfl) (fun _ _ => rfl) Iff.rfl rfl
  refine go_aload_n 0 d_Mo_end_342 rfl rfl ?_
  refine go_iload_n 1 d_Mo_end_343 rfl rfl ?_
  refine go_iload_n 3 d_Mo_end_344 rfl rfl ?_
  refine go_if_ne 353 d_Mo_end_345 rfl (fun hn => absurd hn (fun hh => hh rfl)) (fun _ => ?_)
  refine go_bipush (v := 49) d_Mo_end_348 rfl ?_
  refine go_goto 355 d_Mo_end_350 rfl ?_
  refine go_V2 d_Mo_end_355 k_Mo_218 (by assumption) (Nat.le_of_ble_eq_true rfl) (c_Mo_shown (tb := 49) (N := 99) (T := ba_pot lo (-1 : Int32).toInt64 P b0) hp0 hr (Or.inl ⟨rfl, rfl⟩) g1.2.2.2.2.2.2.2.2.1 (fun a b ha hb => by rw [g3 _ (by decide), gw_up_ne (by decide)]; exact hbt a b ha hb) hC (fun g k1 z1 => ?_))
  refine go_if_ne 364 d_Mo_end_358 rfl (fun h358 => ?_) (fun h358 => ?_)
  · refine go_iinc d_Mo_end_364 rfl rfl (Nat.le_of_ble_eq_true rfl) ?_
    refine go_goto 170 d_Mo_end_367 rfl ?_
    exact next ⟨hno, k1.mp h358⟩ _ _ _ _ _ _ L1 g1 (fun i hi => by rw [g2 i (by omega), up2_ne (Or.inr (by omega))]) (fun q hq => by rw [g3 q hq, gw_up_ne hq])
  · refine go_bipush (v := 9) d_Mo_end_361 rfl ?_
    exact go_iret d_Mo_end_363 rfl (hf (fun hh => absurd h358 (k1.mpr hh.2)) L1 (fun i hi => by rw [g2 i (by omega), up2_ne (Or.inr (by omega))]) (fun q hq => by rw [g3 q hq, gw_up_ne hq]))
theorem c_Mo_endW1 {r md e : Nat} {p : Int32} {st : List ab_Sy} {lo : Nat → ab_Sy} {s : sp_E × sp_E} {b0 b1 : ab_Ba} {c : Nat} {P : ab_Po} {o4 o5 o6 o7 o8 o9 : Option Value} (hp : pt_Mo sh R) (hr : r < 42) (hc : c < 24) (hP : mp_at I (2 * c + 1) P) (hP2 : ∀ t ∈ P.2, t.1 ≤ 100) (h : rw_at (L 549) (104 * r) p md st lo s.1 b0 b1) (hbt : bt_at L s.2) (hC : kn_bd s.2 400000000000) (hf : ¬ (¬ po_no lo P.2 ∧ ba_sh s.2 (ba_pot lo (-1 : Int32).toInt64 P b1)) → ∀ L1 : Nat → Nat → Int64, (∀ i, i < 104 * r → L1 549 i = L 549 i) → (∀ q, q ≠ 549 → L1 q = L q) → Q (some (.int 9)) (n, sh, X, R, I, L1)) (next : (¬ po_no lo P.2 ∧ ba_sh s.2 (ba_pot lo (-1 : Int32).toInt64 P b1)) → ∀ (o4 o5 o6 o7 o8 o9 : Option Value) (L1 : Nat → Nat → Int64), rw_at (L1 549) (104 * r) p md st lo s.1 b0 (ba_pot lo (-1 : Int32).toInt64 P b1) → (∀ i, i < 104 * r → L1 549 i = L 549 i) → (∀ q, q ≠ 549 → L1 q = L q) → gw_Go y_Mo_end (d + 2) 0 0 170 [some (.ref 533), some (.int (nI r)), some (.int (nI c)), some (.int (1 + Int32.ofInt 1)), o4, o5, o6, o7, o8, o9] [] (n, sh, X, R, I, L1) Q) : gw_Go y_Mo_end (d + 2) 0 0 170 [some (.ref 533), some (.int (nI r)), some (.int (nI c)), some (.int 1), o4, o5, o6, o7, o8, o9] [] (n, sh, X, R, I, L) Q := by
  have hp0 := hp
  obtain ⟨s533, s534, s535, s536, s537, s538, s539, s540, s541, s542, s543, s544, s545, s546, s547, s548, s549, s550, s551, s552, s553, s554, s555, s556, s557, r534, r535, r536, r537, r538, r539, r540, r541, r542, r543, r544, r545, r546, r547, r548, r549, r550, r551, r552, r553, r554, r555, r556, r557⟩ := hp
  have hb : mb_at (L 549) (104 * r + 74) (104 * r + 100) b1 := h.2.2.2.2.2.2.2.2.2
  have e2 : (2 : Int32) * nI c + 1 = nI (2 * c + 1) := ix (a := 2) (j := 1)
  refine go_iload_n 3 d_Mo_end_170 rfl rfl ?_
  refine go_iconst (v := 2) d_Mo_end_171 rfl ?_
  refine go_icmp_ge 370 d_Mo_end_172 rfl (fun hn => absurd hn (by decide)) (fun _ => ?_)
  refine go_iconst (v := 2) d_Mo_end_175 rfl ?_
  refine go_iload_n 2 d_Mo_end_176 rfl rfl ?_
  refine go_imul d_Mo_end_177 ?_
  refine go_iload_n 3 d_Mo_end_178 rfl rfl ?_
  refine go_iadd d_Mo_end_179 ?_
  rw [e2]
  refine go_istore d_Mo_end_180 (Nat.le_of_ble_eq_true rfl) ?_
  refine go_iload_n 2 d_Mo_end_182 rfl rfl ?_
  refine go_if_lt 211 d_Mo_end_183 rfl (fun hn => absurd hn (nI_pos (by omega))) (fun _ => ?_)
  refine go_aload_n 0 d_Mo_end_186 rfl rfl ?_
  refine go_getR d_Mo_end_187 f_Mo_56 (by assumption) (by assumption) ?_
  refine go_bipush (v := 104) d_Mo_end_190 rfl ?_
  refine go_iload_n 1 d_Mo_end_192 rfl rfl ?_
  refine go_imul d_Mo_end_193 ?_
  refine go_bipush (v := 99) d_Mo_end_194 rfl ?_
  refine go_iadd d_Mo_end_196 ?_
  refine go_iload_n 3 d_Mo_end_197 rfl rfl ?_
  refine go_iadd d_Mo_end_198 ?_
  refine go_dup2 d_Mo_end_199 rfl rfl ?_
  refine go_lald (104 * r + 100) d_Mo_end_200 (by assumption) (by rw [show (104 : Int32) * nI r + 99 = nI (104 * r + 99) from ix3 (a := 99)]; exact nI_add _ 1) (by omega) (by decide) ?_
  refine go_aload_n 0 d_Mo_end_201 rfl rfl ?_
  refine go_getR d_Mo_end_202 f_Mo_41 (by assumption) (by assumption) ?_
  refine go_iload d_Mo_end_205 rfl ?_
  refine go_iald (2 * c + 1) d_Mo_end_207 (by assumption) (rfl) (by omega) (by decide) ?_
  rw [hP.1]
  refine go_i2l d_Mo_end_208 (rfl) ?_
  rw [hb.2]
  refine go_lsub d_Mo_end_209 ?_
  rw [m1_sub]
  refine go_last (104 * r + 100) d_Mo_end_210 (by assumption) (by rw [show (104 : Int32) * nI r + 99 = nI (104 * r + 99) from ix3 (a := 99)]; exact nI_add _ 1) (by omega) (by decide) ?_
  simp only [gw_st1, gw_st2, gw_cl1, gw_get, gw_set, gw_big, Bool.false_eq_true, if_false, if_true, ↓reduceIte]
  refine go_iconst (v := 3) d_Mo_end_211 rfl ?_
  refine go_iload d_Mo_end_212 rfl ?_
  refine go_imul d_Mo_end_214 ?_
  refine go_istore d_Mo_end_215 (Nat.le_of_ble_eq_true rfl) ?_
  have h2 : rw_at (va_up L 549 (va_up (L 549) (104 * r + 100) (b1.2 + (-1 : Int32).toInt64 * P.1.toInt64)) 549) (104 * r) p md st lo s.1 b0 (b1.1, b1.2 + (-1 : Int32).toInt64 * P.1.toInt64) := by rw [gw_up_eq]; exact h.num1
  refine c_Mo_endT1 (b0 := b0) (b1 := b1) (s0 := (b1.1, b1.2 + (-1 : Int32).toInt64 * P.1.toInt64)) hp0 hr hc hP hP2 (fun hno L1 g1 g2 => hf (fun hh => hh.1 hno) L1 (fun i hi => by rw [g1 i (by omega), up2_ne (Or.inr (by omega))]) (fun q hq => by rw [g2 q hq, gw_up_ne hq])) (fun hno o6 o7 o8 o9 z' L1 g1 g2 g3 => ?_) P.2 0 _ _ _ _ _ _ _ (nI_mul 3 _) (Nat.zero_le _) rfl h2 (fun _ _ => rfl) (fun _ _ => rfl) Iff.rfl rfl
  refine go_aload_n 0 d_Mo_end_342 rfl rfl ?_
  refine go_iload_n 1 d_Mo_end_343 rfl rfl ?_
  refine go_iload_n 3 d_Mo_end_344 rfl rfl ?_
  refine go_if_ne 353 d_Mo_end_345 rfl (fun _ => ?_) (fun hn => by first | exact absurd hn (by decide) | exact absurd (by decide) hn)
  refine go_bipush (v := 74) d_Mo_end_353 rfl ?_
  refine go_V2 d_Mo_end_355 k_Mo_218 (by assumption) (Nat.le_of_ble_eq_true rfl) (c_Mo_shown (tb := 74) (N := 100) (T := ba_pot lo (-1 : Int32).toInt64 P b1) hp0 hr (Or.inr ⟨rfl, rfl⟩) g1.2.2.2.2.2.2.2.2.2 (fun a b ha hb => by rw [g3 _ (by decide), gw_up_ne (by decide)]; exact hbt a b ha hb) hC (fun g k1 z1 => ?_))
  refine go_if_ne 364 d_Mo_end_358 rfl (fun h358 => ?_) (fun h358 => ?_)
  · refine go_iinc d_Mo_end_364 rfl rfl (Nat.le_of_ble_eq_true rfl) ?_
    refine go_goto 170 d_Mo_end_367 rfl ?_
    exact next ⟨hno, k1.mp h358⟩ _ _ _ _ _ _ L1 g1 (fun i hi => by rw [g2 i (by omega), up2_ne (Or.inr (by omega))]) (fun q hq => by rw [g3 q hq, gw_up_ne hq])
  · refine go_bipush (v := 9) d_Mo_end_361 rfl ?_
    exact go_iret d_Mo_end_363 rfl (hf (fun hh => absurd h358 (k1.mpr hh.2)) L1 (fun i hi => by rw [g2 i (by omega), up2_ne (Or.inr (by omega))]) (fun q hq => by rw [g3 q hq, gw_up_ne hq]))
end MO
