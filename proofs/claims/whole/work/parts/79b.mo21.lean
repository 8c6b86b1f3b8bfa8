/-! the reference: advance, by kinds, behind the checks -/
section MO
variable {d n : Nat} {sh : Nat → Nat × Nat} {X : Nat × (Nat → Int32)} {R : Nat → Nat → Option Nat} {I : Nat → Nat → Int32} {L : Nat → Nat → Int64} {Q : Option Value → gw_Mem → Prop}
variable {U : Nat → ab_Me}
theorem c_Mo_adC_0 {m r md e f : Nat} {p nn : Int32} {st : List ab_Sy} {lo : Nat → ab_Sy} {s : sp_E × sp_E} {b0 b1 : ab_Ba} {o5 o10 o11 o12 : Option Value} (hp : pt_Mo sh R) (hmc : mc_at I U) (hm : m < 4) (hU : u_ok U) (hr : r + 1 < 42) (hmd : md < 40) (hrow : rw_at (L 549) (104 * r) p md st lo s.1 b0 b1) (hok : kn_ok s) (hb0 : pa_bd (pa_B md st.length) st lo) (hlen : st.length ≤ md) (hnn : -1000 ≤ nn.toInt ∧ nn.toInt ≤ 1000) (he : e ≤ 50) (h17 : I 533 17 = nI e) (ncr : ¬ rn_cr (fun j => (U j).1.length) 0 nn m st.length)
    (hEnd : ∀ (v : Int32) (e' : Nat) (I' : Nat → Nat → Int32) (L' : Nat → Nat → Int64), ce_do (ce_go U m f) U 0 nn (p + 1) (md + 1) st lo s (b0.1, b0.2 - 1) b1 e = (v, e') → I' 533 17 = nI e' → (v = 0 → I' 533 16 = nI r) → ad_fr r I I' L L' → Q (some (.int v)) (n, sh, X, R, I', L'))
    (hGo : ∀ (p' : Int32) (st' : List ab_Sy) (lo' : Nat → ab_Sy) (c0 c1 : ab_Ba) (I' : Nat → Nat → Int32) (L' : Nat → Nat → Int64), ce_do (ce_go U m f) U 0 nn (p + 1) (md + 1) st lo s (b0.1, b0.2 - 1) b1 e = ce_go U m f (p', md + 1, st', lo', s, c0, c1) e → rw_at (L' 549) (104 * r) p' (md + 1) st' lo' s.1 c0 c1 → pa_bd (pa_B (md + 1) st'.length) st' lo' → st'.length ≤ md + 1 → I' 533 16 = I 533 16 → I' 533 17 = nI e → ad_fr r I I' L L' → Q (some (.int 0)) (n, sh, X, R, I', L'))
    (hBr : ∀ (near jump : Option (sp_E × sp_E)) (st' : List ab_Sy) (w : Nat) (I' : Nat → Nat → Int32) (L' : Nat → Nat → Int64), ce_do (ce_go U m f) U 0 nn (p + 1) (md + 1) st lo s (b0.1, b0.2 - 1) b1 e = ce_br (ce_go U m f) near jump (p + 1) nn (md + 1) st' lo (b0.1, b0.2 - 1) b1 e → mp_post (L' 549) r w jump near (p + 1) nn (md + 1) st' lo (b0.1, b0.2 - 1) b1 → (∀ t, near = some t ∨ jump = some t → kn_ok t) → pa_bd (pa_B (md + 1) st'.length) st' lo → st'.length ≤ md + 1 → I' 533 16 = nI w → I' 533 17 = nI e → ad_fr r I I' L L' → Q (some (.int 0)) (n, sh, X, R, I', L')) : gw_Go y_Mo_advance (d + 4) 0 0 327 [some (.ref 533), some (.int (nI m)), some (.int (nI r)), some (.int (nI (104 * r))), some (.int p), o5, some (.int (nI 0)), some (.int nn), some (.long (lN st.length)), none, o10, o11, o12] [] (n, sh, X, R, I, L) Q := by
  have hp0 := hp
  obtain ⟨s533, s534, s535, s536, s537, s538, s539, s540, s541, s542, s543, s544, s545, s546, s547, s548, s549, s550, s551, s552, s553, s554, s555, s556, s557, r534, r535, r536, r537, r538, r539, r540, r541, r542, r543, r544, r545, r546, r547, r548, r549, r550, r551, r552, r553, r554, r555, r556, r557⟩ := hp
  have hBM : pa_B md st.length ≤ 45000000000 := pa_B_m (by omega)
  have hT : 0 ≤ st.length := Nat.zero_le _
  have rest : ∀ L1 : Nat → Nat → Int64, rw_at (L1 549) (104 * r) (p + 1) (md + 1) st lo s.1 (b0.1, b0.2 - 1) b1 → (∀ i, i < 104 * r → L1 549 i = L 549 i) → (∀ q, q ≠ 549 → L1 q = L q) → gw_Go y_Mo_advance (d + 4) 0 0 363 [some (.ref 533), some (.int (nI m)), some (.int (nI r)), some (.int (nI (104 * r))), some (.int p), o5, some (.int (nI 0)), some (.int nn), some (.long (lN st.length)), none, o10, o11, o12] [] (n, sh, X, R, I, L1) Q := by
    intro L1 hrow' frr frq
    have hbd := pa_do_bd (k := 0) (nn := nn) (p := p + 1) hb0 (by omega) hlen hnn (by decide) hT (fun hh => absurd hh (by decide))
    have hgo : ce_do (ce_go U m f) U 0 nn (p + 1) (md + 1) st lo s (b0.1, b0.2 - 1) b1 e = ce_go U m f ((pa_do 0 nn (p + 1) st lo).1, md + 1, (pa_do 0 nn (p + 1) st lo).2.1, (pa_do 0 nn (p + 1) st lo).2.2, s, (b0.1, b0.2 - 1), b1) e := rfl
    have hpl : (pa_do 0 nn (p + 1) st lo).1 = (p + 1) := by cases st <;> rfl
    rw [hpl] at hgo
    have hl : (pa_do 0 nn (p + 1) st lo).2.1.length ≤ md + 1 := by rw [hbd.2]; show st.length - 0 + 1 ≤ md + 1; omega
    refine go_iload d_Mo_advance_363 rfl ?_
    refine go_bipush (v := 8) d_Mo_advance_365 rfl ?_
    refine go_icmp_eq 377 d_Mo_advance_367 rfl (fun hn => absurd hn (by decide)) (fun _ => ?_)
    refine go_iload d_Mo_advance_370 rfl ?_
    refine go_bipush (v := 9) d_Mo_advance_372 rfl ?_
    refine go_icmp_ne 397 d_Mo_advance_374 rfl (fun _ => ?_) (fun hn => by first | exact absurd hn (by decide) | exact absurd (by decide) hn)
    refine go_iload d_Mo_advance_397 rfl ?_
    refine go_bipush (v := 7) d_Mo_advance_399 rfl ?_
    refine go_icmp_ne 413 d_Mo_advance_401 rfl (fun _ => ?_) (fun hn => by first | exact absurd hn (by decide) | exact absurd (by decide) hn)
    refine go_iload d_Mo_advance_413 rfl ?_
    refine go_bipush (v := 10) d_Mo_advance_415 rfl ?_
    refine go_icmp_ne 426 d_Mo_advance_417 rfl (fun _ => ?_) (fun hn => by first | exact absurd hn (by decide) | exact absurd (by decide) hn)
    refine go_iload d_Mo_advance_426 rfl ?_
    refine go_bipush (v := 11) d_Mo_advance_428 rfl ?_
    refine go_icmp_ne 441 d_Mo_advance_430 rfl (fun _ => ?_) (fun hn => by first | exact absurd hn (by decide) | exact absurd (by decide) hn)
    refine go_iload d_Mo_advance_441 rfl ?_
    refine go_bipush (v := 12) d_Mo_advance_443 rfl ?_
    refine go_icmp_ne 455 d_Mo_advance_445 rfl (fun _ => ?_) (fun hn => by first | exact absurd hn (by decide) | exact absurd (by decide) hn)
    refine go_aload_n 0 d_Mo_advance_455 rfl rfl ?_
    refine go_iload_n 2 d_Mo_advance_456 rfl rfl ?_
    refine go_iload d_Mo_advance_457 rfl ?_
    refine go_iload d_Mo_advance_459 rfl ?_
    refine go_V3 d_Mo_advance_461 k_Mo_179 (by assumption) (Nat.le_of_ble_eq_true rfl) (c_Mo_simple (d := d + 1) (k := 0) (nn := nn) (p := (p + 1)) hp0 (by omega) (by decide) hT (fun _ => Nat.lt_of_not_le (fun hh => ncr (Or.inr (Or.inl (by show 6 < st.length - 0 + 1; omega))))) (fun hh => absurd hh (by decide)) hrow' (fun L2 c1 c2 c3 => ?_))
    refine go_iconst (v := 0) d_Mo_advance_464 rfl ?_
    exact go_iret d_Mo_advance_465 rfl (hGo (p + 1) _ _ _ _ I L2 hgo (pa_do_ind 0 nn (p + 1) (p + 1) st lo c1) hbd.1 hl rfl h17 ⟨fun j _ _ => rfl, fun _ _ => rfl, fun i hi => by rw [c2 i (by omega)]; exact frr i hi, fun q a b c => by rw [c3 q a]; exact frq q a⟩)
  obtain ⟨a1, a2, a3, a4, a5, a6, a7, a8, a9, a10⟩ := hrow
  refine go_aload_n 0 d_Mo_advance_327 rfl rfl ?_
  refine go_getR d_Mo_advance_328 f_Mo_56 (by assumption) (by assumption) ?_
  refine go_iload_n 3 d_Mo_advance_331 rfl rfl ?_
  refine go_iconst (v := 1) d_Mo_advance_332 rfl ?_
  refine go_iadd d_Mo_advance_333 ?_
  refine go_dup2 d_Mo_advance_334 rfl rfl ?_
  refine go_lald (104 * r + 1) d_Mo_advance_335 (by assumption) (nI_add _ 1) (by omega) (by decide) ?_
  refine go_lconst (v := 1) d_Mo_advance_336 rfl ?_
  refine go_ladd d_Mo_advance_337 ?_
  rw [a2, lN_1]
  refine go_last (104 * r + 1) d_Mo_advance_338 (by assumption) (nI_add _ 1) (by omega) (by decide) ?_
  refine go_aload_n 0 d_Mo_advance_339 rfl rfl ?_
  refine go_getR d_Mo_advance_340 f_Mo_56 (by assumption) (by assumption) ?_
  refine go_iload_n 3 d_Mo_advance_343 rfl rfl ?_
  refine go_bipush (v := 99) d_Mo_advance_344 rfl ?_
  refine go_iadd d_Mo_advance_346 ?_
  refine go_dup2 d_Mo_advance_347 rfl rfl ?_
  refine go_lald (104 * r + 99) d_Mo_advance_348 (by assumption) (nI_add _ 99) (by omega) (by decide) ?_
  refine go_lconst (v := 1) d_Mo_advance_349 rfl ?_
  refine go_lsub d_Mo_advance_350 ?_
  rw [up2_ne (Or.inr (by omega)), a9.2]
  refine go_last (104 * r + 99) d_Mo_advance_351 (by assumption) (nI_add _ 99) (by omega) (by decide) ?_
  refine go_aload_n 0 d_Mo_advance_352 rfl rfl ?_
  refine go_getR d_Mo_advance_353 f_Mo_56 (by assumption) (by assumption) ?_
  refine go_iload_n 3 d_Mo_advance_356 rfl rfl ?_
  refine go_iload d_Mo_advance_357 rfl ?_
  refine go_iconst (v := 1) d_Mo_advance_359 rfl ?_
  refine go_iadd d_Mo_advance_360 ?_
  refine go_i2l d_Mo_advance_361 (rfl) ?_
  refine go_last (104 * r) d_Mo_advance_362 (by assumption) (rfl) (by omega) (by decide) ?_
  exact rest _ ⟨by simp (disch := omega) only [up2_eq, up2_ne], by simp (disch := omega) only [up2_eq, up2_ne], by simp (disch := omega) only [up2_eq, up2_ne]; exact a3, a4, a5.cpy (fun x x' ⟨j, h1, h2, h3, h4⟩ => by rw [h3, h4]; simp (disch := omega) only [up2_eq, up2_ne]), fun j hj => (by simp (disch := omega) only [up2_eq, up2_ne]; exact a6 j hj), a7, a8.cpy (fun j hj => by simp (disch := omega) only [up2_eq, up2_ne]), ⟨fun a b ha hb => (by simp (disch := omega) only [up2_eq, up2_ne]; exact a9.1 a b ha hb), by simp (disch := omega) only [up2_eq, up2_ne]⟩, a10.cpy (fun j hj => by simp (disch := omega) only [up2_eq, up2_ne]) (by simp (disch := omega) only [up2_eq, up2_ne])⟩ (fun i hi => by simp (disch := omega) only [up2_eq, up2_ne]) (fun q hq => by rw [gw_up_ne hq, gw_up_ne hq, gw_up_ne hq])
theorem c_Mo_adC_1 {m r md e f : Nat} {p nn : Int32} {st : List ab_Sy} {lo : Nat → ab_Sy} {s : sp_E × sp_E} {b0 b1 : ab_Ba} {o5 o10 o11 o12 : Option Value} (hp : pt_Mo sh R) (hmc : mc_at I U) (hm : m < 4) (hU : u_ok U) (hr : r + 1 < 42) (hmd : md < 40) (hrow : rw_at (L 549) (104 * r) p md st lo s.1 b0 b1) (hok : kn_ok s) (hb0 : pa_bd (pa_B md st.length) st lo) (hlen : st.length ≤ md) (hnn : -1000 ≤ nn.toInt ∧ nn.toInt ≤ 1000) (he : e ≤ 50) (h17 : I 533 17 = nI e) (ncr : ¬ rn_cr (fun j => (U j).1.length) 1 nn m st.length)
    (hEnd : ∀ (v : Int32) (e' : Nat) (I' : Nat → Nat → Int32) (L' : Nat → Nat → Int64), ce_do (ce_go U m f) U 1 nn (p + 1) (md + 1) st lo s (b0.1, b0.2 - 1) b1 e = (v, e') → I' 533 17 = nI e' → (v = 0 → I' 533 16 = nI r) → ad_fr r I I' L L' → Q (some (.int v)) (n, sh, X, R, I', L'))
    (hGo : ∀ (p' : Int32) (st' : List ab_Sy) (lo' : Nat → ab_Sy) (c0 c1 : ab_Ba) (I' : Nat → Nat → Int32) (L' : Nat → Nat → Int64), ce_do (ce_go U m f) U 1 nn (p + 1) (md + 1) st lo s (b0.1, b0.2 - 1) b1 e = ce_go U m f (p', md + 1, st', lo', s, c0, c1) e → rw_at (L' 549) (104 * r) p' (md + 1) st' lo' s.1 c0 c1 → pa_bd (pa_B (md + 1) st'.length) st' lo' → st'.length ≤ md + 1 → I' 533 16 = I 533 16 → I' 533 17 = nI e → ad_fr r I I' L L' → Q (some (.int 0)) (n, sh, X, R, I', L'))
    (hBr : ∀ (near jump : Option (sp_E × sp_E)) (st' : List ab_Sy) (w : Nat) (I' : Nat → Nat → Int32) (L' : Nat → Nat → Int64), ce_do (ce_go U m f) U 1 nn (p + 1) (md + 1) st lo s (b0.1, b0.2 - 1) b1 e = ce_br (ce_go U m f) near jump (p + 1) nn (md + 1) st' lo (b0.1, b0.2 - 1) b1 e → mp_post (L' 549) r w jump near (p + 1) nn (md + 1) st' lo (b0.1, b0.2 - 1) b1 → (∀ t, near = some t ∨ jump = some t → kn_ok t) → pa_bd (pa_B (md + 1) st'.length) st' lo → st'.length ≤ md + 1 → I' 533 16 = nI w → I' 533 17 = nI e → ad_fr r I I' L L' → Q (some (.int 0)) (n, sh, X, R, I', L')) : gw_Go y_Mo_advance (d + 4) 0 0 327 [some (.ref 533), some (.int (nI m)), some (.int (nI r)), some (.int (nI (104 * r))), some (.int p), o5, some (.int (nI 1)), some (.int nn), some (.long (lN st.length)), none, o10, o11, o12] [] (n, sh, X, R, I, L) Q := by
  have hp0 := hp
  obtain ⟨s533, s534, s535, s536, s537, s538, s539, s540, s541, s542, s543, s544, s545, s546, s547, s548, s549, s550, s551, s552, s553, s554, s555, s556, s557, r534, r535, r536, r537, r538, r539, r540, r541, r542, r543, r544, r545, r546, r547, r548, r549, r550, r551, r552, r553, r554, r555, r556, r557⟩ := hp
  have hBM : pa_B md st.length ≤ 45000000000 := pa_B_m (by omega)
  have hT : 0 ≤ st.length := Nat.zero_le _
  have rest : ∀ L1 : Nat → Nat → Int64, rw_at (L1 549) (104 * r) (p + 1) (md + 1) st lo s.1 (b0.1, b0.2 - 1) b1 → (∀ i, i < 104 * r → L1 549 i = L 549 i) → (∀ q, q ≠ 549 → L1 q = L q) → gw_Go y_Mo_advance (d + 4) 0 0 363 [some (.ref 533), some (.int (nI m)), some (.int (nI r)), some (.int (nI (104 * r))), some (.int p), o5, some (.int (nI 1)), some (.int nn), some (.long (lN st.length)), none, o10, o11, o12] [] (n, sh, X, R, I, L1) Q := by
    intro L1 hrow' frr frq
    have hbd := pa_do_bd (k := 1) (nn := nn) (p := p + 1) hb0 (by omega) hlen hnn (by decide) hT (fun _ => Classical.byContradiction (fun hn => ncr (Or.inr (Or.inr (Or.inl ⟨by decide, hn⟩)))))
    have hgo : ce_do (ce_go U m f) U 1 nn (p + 1) (md + 1) st lo s (b0.1, b0.2 - 1) b1 e = ce_go U m f ((pa_do 1 nn (p + 1) st lo).1, md + 1, (pa_do 1 nn (p + 1) st lo).2.1, (pa_do 1 nn (p + 1) st lo).2.2, s, (b0.1, b0.2 - 1), b1) e := rfl
    have hpl : (pa_do 1 nn (p + 1) st lo).1 = (p + 1) := by cases st <;> rfl
    rw [hpl] at hgo
    have hl : (pa_do 1 nn (p + 1) st lo).2.1.length ≤ md + 1 := by rw [hbd.2]; show st.length - 0 + 1 ≤ md + 1; omega
    refine go_iload d_Mo_advance_363 rfl ?_
    refine go_bipush (v := 8) d_Mo_advance_365 rfl ?_
    refine go_icmp_eq 377 d_Mo_advance_367 rfl (fun hn => absurd hn (by decide)) (fun _ => ?_)
    refine go_iload d_Mo_advance_370 rfl ?_
    refine go_bipush (v := 9) d_Mo_advance_372 rfl ?_
    refine go_icmp_ne 397 d_Mo_advance_374 rfl (fun _ => ?_) (fun hn => by first | exact absurd hn (by decide) | exact absurd (by decide) hn)
    refine go_iload d_Mo_advance_397 rfl ?_
    refine go_bipush (v := 7) d_Mo_advance_399 rfl ?_
    refine go_icmp_ne 413 d_Mo_advance_401 rfl (fun _ => ?_) (fun hn => by first | exact absurd hn (by decide) | exact absurd (by decide) hn)
    refine go_iload d_Mo_advance_413 rfl ?_
    refine go_bipush (v := 10) d_Mo_advance_415 rfl ?_
    refine go_icmp_ne 426 d_Mo_advance_417 rfl (fun _ => ?_) (fun hn => by first | exact absurd hn (by decide) | exact absurd (by decide) hn)
    refine go_iload d_Mo_advance_426 rfl ?_
    refine go_bipush (v := 11) d_Mo_advance_428 rfl ?_
    refine go_icmp_ne 441 d_Mo_advance_430 rfl (fun _ => ?_) (fun hn => by first | exact absurd hn (by decide) | exact absurd (by decide) hn)
    refine go_iload d_Mo_advance_441 rfl ?_
    refine go_bipush (v := 12) d_Mo_advance_443 rfl ?_
    refine go_icmp_ne 455 d_Mo_advance_445 rfl (fun _ => ?_) (fun hn => by first | exact absurd hn (by decide) | exact absurd (by decide) hn)
    refine go_aload_n 0 d_Mo_advance_455 rfl rfl ?_
    refine go_iload_n 2 d_Mo_advance_456 rfl rfl ?_
    refine go_iload d_Mo_advance_457 rfl ?_
    refine go_iload d_Mo_advance_459 rfl ?_
    refine go_V3 d_Mo_advance_461 k_Mo_179 (by assumption) (Nat.le_of_ble_eq_true rfl) (c_Mo_simple (d := d + 1) (k := 1) (nn := nn) (p := (p + 1)) hp0 (by omega) (by decide) hT (fun _ => Nat.lt_of_not_le (fun hh => ncr (Or.inr (Or.inl (by show 6 < st.length - 0 + 1; omega))))) (fun _ => Classical.byContradiction (fun hn => ncr (Or.inr (Or.inr (Or.inl ⟨by decide, hn⟩))))) hrow' (fun L2 c1 c2 c3 => ?_))
    refine go_iconst (v := 0) d_Mo_advance_464 rfl ?_
    exact go_iret d_Mo_advance_465 rfl (hGo (p + 1) _ _ _ _ I L2 hgo (pa_do_ind 1 nn (p + 1) (p + 1) st lo c1) hbd.1 hl rfl h17 ⟨fun j _ _ => rfl, fun _ _ => rfl, fun i hi => by rw [c2 i (by omega)]; exact frr i hi, fun q a b c => by rw [c3 q a]; exact frq q a⟩)
  obtain ⟨a1, a2, a3, a4, a5, a6, a7, a8, a9, a10⟩ := hrow
  refine go_aload_n 0 d_Mo_advance_327 rfl rfl ?_
  refine go_getR d_Mo_advance_328 f_Mo_56 (by assumption) (by assumption) ?_
  refine go_iload_n 3 d_Mo_advance_331 rfl rfl ?_
  refine go_iconst (v := 1) d_Mo_advance_332 rfl ?_
  refine go_iadd d_Mo_advance_333 ?_
  refine go_dup2 d_Mo_advance_334 rfl rfl ?_
  refine go_lald (104 * r + 1) d_Mo_advance_335 (by assumption) (nI_add _ 1) (by omega) (by decide) ?_
  refine go_lconst (v := 1) d_Mo_advance_336 rfl ?_
  refine go_ladd d_Mo_advance_337 ?_
  rw [a2, lN_1]
  refine go_last (104 * r + 1) d_Mo_advance_338 (by assumption) (nI_add _ 1) (by omega) (by decide) ?_
  refine go_aload_n 0 d_Mo_advance_339 rfl rfl ?_
  refine go_getR d_Mo_advance_340 f_Mo_56 (by assumption) (by assumption) ?_
  refine go_iload_n 3 d_Mo_advance_343 rfl rfl ?_
  refine go_bipush (v := 99) d_Mo_advance_344 rfl ?_
  refine go_iadd d_Mo_advance_346 ?_
  refine go_dup2 d_Mo_advance_347 rfl rfl ?_
  refine go_lald (104 * r + 99) d_Mo_advance_348 (by assumption) (nI_add _ 99) (by omega) (by decide) ?_
  refine go_lconst (v := 1) d_Mo_advance_349 rfl ?_
  refine go_lsub d_Mo_advance_350 ?_
  rw [up2_ne (Or.inr (by omega)), a9.2]
  refine go_last (104 * r + 99) d_Mo_advance_351 (by assumption) (nI_add _ 99) (by omega) (by decide) ?_
  refine go_aload_n 0 d_Mo_advance_352 rfl rfl ?_
  refine go_getR d_Mo_advance_353 f_Mo_56 (by assumption) (by assumption) ?_
  refine go_iload_n 3 d_Mo_advance_356 rfl rfl ?_
  refine go_iload d_Mo_advance_357 rfl ?_
  refine go_iconst (v := 1) d_Mo_advance_359 rfl ?_
  refine go_iadd d_Mo_advance_360 ?_
  refine go_i2l d_Mo_advance_361 (rfl) ?_
  refine go_last (104 * r) d_Mo_advance_362 (by assumption) (rfl) (by omega) (by decide) ?_
  exact rest _ ⟨by simp (disch := omega) only [up2_eq, up2_ne], by simp (disch := omega) only [up2_eq, up2_ne], by simp (disch := omega) only [up2_eq, up2_ne]; exact a3, a4, a5.cpy (fun x x' ⟨j, h1, h2, h3, h4⟩ => by rw [h3, h4]; simp (disch := omega) only [up2_eq, up2_ne]), fun j hj => (by simp (disch := omega) only [up2_eq, up2_ne]; exact a6 j hj), a7, a8.cpy (fun j hj => by simp (disch := omega) only [up2_eq, up2_ne]), ⟨fun a b ha hb => (by simp (disch := omega) only [up2_eq, up2_ne]; exact a9.1 a b ha hb), by simp (disch := omega) only [up2_eq, up2_ne]⟩, a10.cpy (fun j hj => by simp (disch := omega) only [up2_eq, up2_ne]) (by simp (disch := omega) only [up2_eq, up2_ne])⟩ (fun i hi => by simp (disch := omega) only [up2_eq, up2_ne]) (fun q hq => by rw [gw_up_ne hq, gw_up_ne hq, gw_up_ne hq])
theorem c_Mo_adC_2 {m r md e f : Nat} {p nn : Int32} {st : List ab_Sy} {lo : Nat → ab_Sy} {s : sp_E × sp_E} {b0 b1 : ab_Ba} {o5 o10 o11 o12 : Option Value} (hp : pt_Mo sh R) (hmc : mc_at I U) (hm : m < 4) (hU : u_ok U) (hr : r + 1 < 42) (hmd : md < 40) (hrow : rw_at (L 549) (104 * r) p md st lo s.1 b0 b1) (hok : kn_ok s) (hb0 : pa_bd (pa_B md st.length) st lo) (hlen : st.length ≤ md) (hnn : -1000 ≤ nn.toInt ∧ nn.toInt ≤ 1000) (he : e ≤ 50) (h17 : I 533 17 = nI e) (ncr : ¬ rn_cr (fun j => (U j).1.length) 2 nn m st.length)
    (hEnd : ∀ (v : Int32) (e' : Nat) (I' : Nat → Nat → Int32) (L' : Nat → Nat → Int64), ce_do (ce_go U m f) U 2 nn (p + 1) (md + 1) st lo s (b0.1, b0.2 - 1) b1 e = (v, e') → I' 533 17 = nI e' → (v = 0 → I' 533 16 = nI r) → ad_fr r I I' L L' → Q (some (.int v)) (n, sh, X, R, I', L'))
    (hGo : ∀ (p' : Int32) (st' : List ab_Sy) (lo' : Nat → ab_Sy) (c0 c1 : ab_Ba) (I' : Nat → Nat → Int32) (L' : Nat → Nat → Int64), ce_do (ce_go U m f) U 2 nn (p + 1) (md + 1) st lo s (b0.1, b0.2 - 1) b1 e = ce_go U m f (p', md + 1, st', lo', s, c0, c1) e → rw_at (L' 549) (104 * r) p' (md + 1) st' lo' s.1 c0 c1 → pa_bd (pa_B (md + 1) st'.length) st' lo' → st'.length ≤ md + 1 → I' 533 16 = I 533 16 → I' 533 17 = nI e → ad_fr r I I' L L' → Q (some (.int 0)) (n, sh, X, R, I', L'))
    (hBr : ∀ (near jump : Option (sp_E × sp_E)) (st' : List ab_Sy) (w : Nat) (I' : Nat → Nat → Int32) (L' : Nat → Nat → Int64), ce_do (ce_go U m f) U 2 nn (p + 1) (md + 1) st lo s (b0.1, b0.2 - 1) b1 e = ce_br (ce_go U m f) near jump (p + 1) nn (md + 1) st' lo (b0.1, b0.2 - 1) b1 e → mp_post (L' 549) r w jump near (p + 1) nn (md + 1) st' lo (b0.1, b0.2 - 1) b1 → (∀ t, near = some t ∨ jump = some t → kn_ok t) → pa_bd (pa_B (md + 1) st'.length) st' lo → st'.length ≤ md + 1 → I' 533 16 = nI w → I' 533 17 = nI e → ad_fr r I I' L L' → Q (some (.int 0)) (n, sh, X, R, I', L')) : gw_Go y_Mo_advance (d + 4) 0 0 327 [some (.ref 533), some (.int (nI m)), some (.int (nI r)), some (.int (nI (104 * r))), some (.int p), o5, some (.int (nI 2)), some (.int nn), some (.long (lN st.length)), none, o10, o11, o12] [] (n, sh, X, R, I, L) Q := by
  have hp0 := hp
  obtain ⟨s533, s534, s535, s536, s537, s538, s539, s540, s541, s542, s543, s544, s545, s546, s547, s548, s549, s550, s551, s552, s553, s554, s555, s556, s557, r534, r535, r536, r537, r538, r539, r540, r541, r542, r543, r544, r545, r546, r547, r548, r549, r550, r551, r552, r553, r554, r555, r556, r557⟩ := hp
  have hBM : pa_B md st.length ≤ 45000000000 := pa_B_m (by omega)
  have one : 1 ≤ st.length → ∃ v s, st = v :: s := fun h => by cases st with | nil => exact absurd h (by decide) | cons v s => exact ⟨v, s, rfl⟩
  have hT : 1 ≤ st.length := Classical.byContradiction (fun hh => ncr (Or.inl (Nat.lt_of_not_le hh)))
  have rest : ∀ L1 : Nat → Nat → Int64, rw_at (L1 549) (104 * r) (p + 1) (md + 1) st lo s.1 (b0.1, b0.2 - 1) b1 → (∀ i, i < 104 * r → L1 549 i = L 549 i) → (∀ q, q ≠ 549 → L1 q = L q) → gw_Go y_Mo_advance (d + 4) 0 0 363 [some (.ref 533), some (.int (nI m)), some (.int (nI r)), some (.int (nI (104 * r))), some (.int p), o5, some (.int (nI 2)), some (.int nn), some (.long (lN st.length)), none, o10, o11, o12] [] (n, sh, X, R, I, L1) Q := by
    intro L1 hrow' frr frq
    have hbd := pa_do_bd (k := 2) (nn := nn) (p := p + 1) hb0 (by omega) hlen hnn (by decide) hT (fun _ => Classical.byContradiction (fun hn => ncr (Or.inr (Or.inr (Or.inl ⟨by decide, hn⟩)))))
    have hgo : ce_do (ce_go U m f) U 2 nn (p + 1) (md + 1) st lo s (b0.1, b0.2 - 1) b1 e = ce_go U m f ((pa_do 2 nn (p + 1) st lo).1, md + 1, (pa_do 2 nn (p + 1) st lo).2.1, (pa_do 2 nn (p + 1) st lo).2.2, s, (b0.1, b0.2 - 1), b1) e := rfl
    have hpl : (pa_do 2 nn (p + 1) st lo).1 = (p + 1) := by obtain ⟨v, s1, rfl⟩ := one hT; rfl
    rw [hpl] at hgo
    have hl : (pa_do 2 nn (p + 1) st lo).2.1.length ≤ md + 1 := by rw [hbd.2]; show st.length - 1 + 0 ≤ md + 1; omega
    refine go_iload d_Mo_advance_363 rfl ?_
    refine go_bipush (v := 8) d_Mo_advance_365 rfl ?_
    refine go_icmp_eq 377 d_Mo_advance_367 rfl (fun hn => absurd hn (by decide)) (fun _ => ?_)
    refine go_iload d_Mo_advance_370 rfl ?_
    refine go_bipush (v := 9) d_Mo_advance_372 rfl ?_
    refine go_icmp_ne 397 d_Mo_advance_374 rfl (fun _ => ?_) (fun hn => by first | exact absurd hn (by decide) | exact absurd (by decide) hn)
    refine go_iload d_Mo_advance_397 rfl ?_
    refine go_bipush (v := 7) d_Mo_advance_399 rfl ?_
    refine go_icmp_ne 413 d_Mo_advance_401 rfl (fun _ => ?_) (fun hn => by first | exact absurd hn (by decide) | exact absurd (by decide) hn)
    refine go_iload d_Mo_advance_413 rfl ?_
    refine go_bipush (v := 10) d_Mo_advance_415 rfl ?_
    refine go_icmp_ne 426 d_Mo_advance_417 rfl (fun _ => ?_) (fun hn => by first | exact absurd hn (by decide) | exact absurd (by decide) hn)
    refine go_iload d_Mo_advance_426 rfl ?_
    refine go_bipush (v := 11) d_Mo_advance_428 rfl ?_
    refine go_icmp_ne 441 d_Mo_advance_430 rfl (fun _ => ?_) (fun hn => by first | exact absurd hn (by decide) | exact absurd (by decide) hn)
    refine go_iload d_Mo_advance_441 rfl ?_
    refine go_bipush (v := 12) d_Mo_advance_443 rfl ?_
    refine go_icmp_ne 455 d_Mo_advance_445 rfl (fun _ => ?_) (fun hn => by first | exact absurd hn (by decide) | exact absurd (by decide) hn)
    refine go_aload_n 0 d_Mo_advance_455 rfl rfl ?_
    refine go_iload_n 2 d_Mo_advance_456 rfl rfl ?_
    refine go_iload d_Mo_advance_457 rfl ?_
    refine go_iload d_Mo_advance_459 rfl ?_
    refine go_V3 d_Mo_advance_461 k_Mo_179 (by assumption) (Nat.le_of_ble_eq_true rfl) (c_Mo_simple (d := d + 1) (k := 2) (nn := nn) (p := (p + 1)) hp0 (by omega) (by decide) hT (fun hh => absurd hh (by decide)) (fun _ => Classical.byContradiction (fun hn => ncr (Or.inr (Or.inr (Or.inl ⟨by decide, hn⟩))))) hrow' (fun L2 c1 c2 c3 => ?_))
    refine go_iconst (v := 0) d_Mo_advance_464 rfl ?_
    exact go_iret d_Mo_advance_465 rfl (hGo (p + 1) _ _ _ _ I L2 hgo (pa_do_ind 2 nn (p + 1) (p + 1) st lo c1) hbd.1 hl rfl h17 ⟨fun j _ _ => rfl, fun _ _ => rfl, fun i hi => by rw [c2 i (by omega)]; exact frr i hi, fun q a b c => by rw [c3 q a]; exact frq q a⟩)
  obtain ⟨a1, a2, a3, a4, a5, a6, a7, a8, a9, a10⟩ := hrow
  refine go_aload_n 0 d_Mo_advance_327 rfl rfl ?_
  refine go_getR d_Mo_advance_328 f_Mo_56 (by assumption) (by assumption) ?_
  refine go_iload_n 3 d_Mo_advance_331 rfl rfl ?_
  refine go_iconst (v := 1) d_Mo_advance_332 rfl ?_
  refine go_iadd d_Mo_advance_333 ?_
  refine go_dup2 d_Mo_advance_334 rfl rfl ?_
  refine go_lald (104 * r + 1) d_Mo_advance_335 (by assumption) (nI_add _ 1) (by omega) (by decide) ?_
  refine go_lconst (v := 1) d_Mo_advance_336 rfl ?_
  refine go_ladd d_Mo_advance_337 ?_
  rw [a2, lN_1]
  refine go_last (104 * r + 1) d_Mo_advance_338 (by assumption) (nI_add _ 1) (by omega) (by decide) ?_
  refine go_aload_n 0 d_Mo_advance_339 rfl rfl ?_
  refine go_getR d_Mo_advance_340 f_Mo_56 (by assumption) (by assumption) ?_
  refine go_iload_n 3 d_Mo_advance_343 rfl rfl ?_
  refine go_bipush (v := 99) d_Mo_advance_344 rfl ?_
  refine go_iadd d_Mo_advance_346 ?_
  refine go_dup2 d_Mo_advance_347 rfl rfl ?_
  refine go_lald (104 * r + 99) d_Mo_advance_348 (by assumption) (nI_add _ 99) (by omega) (by decide) ?_
  refine go_lconst (v := 1) d_Mo_advance_349 rfl ?_
  refine go_lsub d_Mo_advance_350 ?_
  rw [up2_ne (Or.inr (by omega)), a9.2]
  refine go_last (104 * r + 99) d_Mo_advance_351 (by assumption) (nI_add _ 99) (by omega) (by decide) ?_
  refine go_aload_n 0 d_Mo_advance_352 rfl rfl ?_
  refine go_getR d_Mo_advance_353 f_Mo_56 (by assumption) (by assumption) ?_
  refine go_iload_n 3 d_Mo_advance_356 rfl rfl ?_
  refine go_iload d_Mo_advance_357 rfl ?_
  refine go_iconst (v := 1) d_Mo_advance_359 rfl ?_
  refine go_iadd d_Mo_advance_360 ?_
  refine go_i2l d_Mo_advance_361 (rfl) ?_
  refine go_last (104 * r) d_Mo_advance_362 (by assumption) (rfl) (by omega) (by decide) ?_
  exact rest _ ⟨by simp (disch := omega) only [up2_eq, up2_ne], by simp (disch := omega) only [up2_eq, up2_ne], by simp (disch := omega) only [up2_eq, up2_ne]; exact a3, a4, a5.cpy (fun x x' ⟨j, h1, h2, h3, h4⟩ => by rw [h3, h4]; simp (disch := omega) only [up2_eq, up2_ne]), fun j hj => (by simp (disch := omega) only [up2_eq, up2_ne]; exact a6 j hj), a7, a8.cpy (fun j hj => by simp (disch := omega) only [up2_eq, up2_ne]), ⟨fun a b ha hb => (by simp (disch := omega) only [up2_eq, up2_ne]; exact a9.1 a b ha hb), by simp (disch := omega) only [up2_eq, up2_ne]⟩, a10.cpy (fun j hj => by simp (disch := omega) only [up2_eq, up2_ne]) (by simp (disch := omega) only [up2_eq, up2_ne])⟩ (fun i hi => by simp (disch := omega) only [up2_eq, up2_ne]) (fun q hq => by rw [gw_up_ne hq, gw_up_ne hq, gw_up_ne hq])
theorem c_Mo_adC_3 {m r md e f : Nat} {p nn : Int32} {st : List ab_Sy} {lo : Nat → ab_Sy} {s : sp_E × sp_E} {b0 b1 : ab_Ba} {o5 o10 o11 o12 : Option Value} (hp : pt_Mo sh R) (hmc : mc_at I U) (hm : m < 4) (hU : u_ok U) (hr : r + 1 < 42) (hmd : md < 40) (hrow : rw_at (L 549) (104 * r) p md st lo s.1 b0 b1) (hok : kn_ok s) (hb0 : pa_bd (pa_B md st.length) st lo) (hlen : st.length ≤ md) (hnn : -1000 ≤ nn.toInt ∧ nn.toInt ≤ 1000) (he : e ≤ 50) (h17 : I 533 17 = nI e) (ncr : ¬ rn_cr (fun j => (U j).1.length) 3 nn m st.length)
    (hEnd : ∀ (v : Int32) (e' : Nat) (I' : Nat → Nat → Int32) (L' : Nat → Nat → Int64), ce_do (ce_go U m f) U 3 nn (p + 1) (md + 1) st lo s (b0.1, b0.2 - 1) b1 e = (v, e') → I' 533 17 = nI e' → (v = 0 → I' 533 16 = nI r) → ad_fr r I I' L L' → Q (some (.int v)) (n, sh, X, R, I', L'))
    (hGo : ∀ (p' : Int32) (st' : List ab_Sy) (lo' : Nat → ab_Sy) (c0 c1 : ab_Ba) (I' : Nat → Nat → Int32) (L' : Nat → Nat → Int64), ce_do (ce_go U m f) U 3 nn (p + 1) (md + 1) st lo s (b0.1, b0.2 - 1) b1 e = ce_go U m f (p', md + 1, st', lo', s, c0, c1) e → rw_at (L' 549) (104 * r) p' (md + 1) st' lo' s.1 c0 c1 → pa_bd (pa_B (md + 1) st'.length) st' lo' → st'.length ≤ md + 1 → I' 533 16 = I 533 16 → I' 533 17 = nI e → ad_fr r I I' L L' → Q (some (.int 0)) (n, sh, X, R, I', L'))
    (hBr : ∀ (near jump : Option (sp_E × sp_E)) (st' : List ab_Sy) (w : Nat) (I' : Nat → Nat → Int32) (L' : Nat → Nat → Int64), ce_do (ce_go U m f) U 3 nn (p + 1) (md + 1) st lo s (b0.1, b0.2 - 1) b1 e = ce_br (ce_go U m f) near jump (p + 1) nn (md + 1) st' lo (b0.1, b0.2 - 1) b1 e → mp_post (L' 549) r w jump near (p + 1) nn (md + 1) st' lo (b0.1, b0.2 - 1) b1 → (∀ t, near = some t ∨ jump = some t → kn_ok t) → pa_bd (pa_B (md + 1) st'.length) st' lo → st'.length ≤ md + 1 → I' 533 16 = nI w → I' 533 17 = nI e → ad_fr r I I' L L' → Q (some (.int 0)) (n, sh, X, R, I', L')) : gw_Go y_Mo_advance (d + 4) 0 0 327 [some (.ref 533), some (.int (nI m)), some (.int (nI r)), some (.int (nI (104 * r))), some (.int p), o5, some (.int (nI 3)), some (.int nn), some (.long (lN st.length)), none, o10, o11, o12] [] (n, sh, X, R, I, L) Q := by
  have hp0 := hp
  obtain ⟨s533, s534, s535, s536, s537, s538, s539, s540, s541, s542, s543, s544, s545, s546, s547, s548, s549, s550, s551, s552, s553, s554, s555, s556, s557, r534, r535, r536, r537, r538, r539, r540, r541, r542, r543, r544, r545, r546, r547, r548, r549, r550, r551, r552, r553, r554, r555, r556, r557⟩ := hp
  have hBM : pa_B md st.length ≤ 45000000000 := pa_B_m (by omega)
  have two : 2 ≤ st.length → ∃ y x s, st = y :: x :: s := fun h => by cases st with | nil => exact absurd h (by decide) | cons y s => cases s with | nil => exact absurd h (by simp) | cons x s => exact ⟨y, x, s, rfl⟩
  have hT : 2 ≤ st.length := Classical.byContradiction (fun hh => ncr (Or.inl (Nat.lt_of_not_le hh)))
  have rest : ∀ L1 : Nat → Nat → Int64, rw_at (L1 549) (104 * r) (p + 1) (md + 1) st lo s.1 (b0.1, b0.2 - 1) b1 → (∀ i, i < 104 * r → L1 549 i = L 549 i) → (∀ q, q ≠ 549 → L1 q = L q) → gw_Go y_Mo_advance (d + 4) 0 0 363 [some (.ref 533), some (.int (nI m)), some (.int (nI r)), some (.int (nI (104 * r))), some (.int p), o5, some (.int (nI 3)), some (.int nn), some (.long (lN st.length)), none, o10, o11, o12] [] (n, sh, X, R, I, L1) Q := by
    intro L1 hrow' frr frq
    have hbd := pa_do_bd (k := 3) (nn := nn) (p := p + 1) hb0 (by omega) hlen hnn (by decide) hT (fun hh => absurd hh (by decide))
    have hgo : ce_do (ce_go U m f) U 3 nn (p + 1) (md + 1) st lo s (b0.1, b0.2 - 1) b1 e = ce_go U m f ((pa_do 3 nn (p + 1) st lo).1, md + 1, (pa_do 3 nn (p + 1) st lo).2.1, (pa_do 3 nn (p + 1) st lo).2.2, s, (b0.1, b0.2 - 1), b1) e := rfl
    have hpl : (pa_do 3 nn (p + 1) st lo).1 = (p + 1) := by obtain ⟨y, x, s1, rfl⟩ := two hT; rfl
    rw [hpl] at hgo
    have hl : (pa_do 3 nn (p + 1) st lo).2.1.length ≤ md + 1 := by rw [hbd.2]; show st.length - 2 + 1 ≤ md + 1; omega
    refine go_iload d_Mo_advance_363 rfl ?_
    refine go_bipush (v := 8) d_Mo_advance_365 rfl ?_
    refine go_icmp_eq 377 d_Mo_advance_367 rfl (fun hn => absurd hn (by decide)) (fun _ => ?_)
    refine go_iload d_Mo_advance_370 rfl ?_
    refine go_bipush (v := 9) d_Mo_advance_372 rfl ?_
    refine go_icmp_ne 397 d_Mo_advance_374 rfl (fun _ => ?_) (fun hn => by first | exact absurd hn (by decide) | exact absurd (by decide) hn)
    refine go_iload d_Mo_advance_397 rfl ?_
    refine go_bipush (v := 7) d_Mo_advance_399 rfl ?_
    refine go_icmp_ne 413 d_Mo_advance_401 rfl (fun _ => ?_) (fun hn => by first | exact absurd hn (by decide) | exact absurd (by decide) hn)
    refine go_iload d_Mo_advance_413 rfl ?_
    refine go_bipush (v := 10) d_Mo_advance_415 rfl ?_
    refine go_icmp_ne 426 d_Mo_advance_417 rfl (fun _ => ?_) (fun hn => by first | exact absurd hn (by decide) | exact absurd (by decide) hn)
    refine go_iload d_Mo_advance_426 rfl ?_
    refine go_bipush (v := 11) d_Mo_advance_428 rfl ?_
    refine go_icmp_ne 441 d_Mo_advance_430 rfl (fun _ => ?_) (fun hn => by first | exact absurd hn (by decide) | exact absurd (by decide) hn)
    refine go_iload d_Mo_advance_441 rfl ?_
    refine go_bipush (v := 12) d_Mo_advance_443 rfl ?_
    refine go_icmp_ne 455 d_Mo_advance_445 rfl (fun _ => ?_) (fun hn => by first | exact absurd hn (by decide) | exact absurd (by decide) hn)
    refine go_aload_n 0 d_Mo_advance_455 rfl rfl ?_
    refine go_iload_n 2 d_Mo_advance_456 rfl rfl ?_
    refine go_iload d_Mo_advance_457 rfl ?_
    refine go_iload d_Mo_advance_459 rfl ?_
    refine go_V3 d_Mo_advance_461 k_Mo_179 (by assumption) (Nat.le_of_ble_eq_true rfl) (c_Mo_simple (d := d + 1) (k := 3) (nn := nn) (p := (p + 1)) hp0 (by omega) (by decide) hT (fun hh => absurd hh (by decide)) (fun hh => absurd hh (by decide)) hrow' (fun L2 c1 c2 c3 => ?_))
    refine go_iconst (v := 0) d_Mo_advance_464 rfl ?_
    exact go_iret d_Mo_advance_465 rfl (hGo (p + 1) _ _ _ _ I L2 hgo (pa_do_ind 3 nn (p + 1) (p + 1) st lo c1) hbd.1 hl rfl h17 ⟨fun j _ _ => rfl, fun _ _ => rfl, fun i hi => by rw [c2 i (by omega)]; exact frr i hi, fun q a b c => by rw [c3 q a]; exact frq q a⟩)
  obtain ⟨a1, a2, a3, a4, a5, a6, a7, a8, a9, a10⟩ := hrow
  refine go_aload_n 0 d_Mo_advance_327 rfl rfl ?_
  refine go_getR d_Mo_advance_328 f_Mo_56 (by assumption) (by assumption) ?_
  refine go_iload_n 3 d_Mo_advance_331 rfl rfl ?_
  refine go_iconst (v := 1) d_Mo_advance_332 rfl ?_
  refine go_iadd d_Mo_advance_333 ?_
  refine go_dup2 d_Mo_advance_334 rfl rfl ?_
  refine go_lald (104 * r + 1) d_Mo_advance_335 (by assumption) (nI_add _ 1) (by omega) (by decide) ?_
  refine go_lconst (v := 1) d_Mo_advance_336 rfl ?_
  refine go_ladd d_Mo_advance_337 ?_
  rw [a2, lN_1]
  refine go_last (104 * r + 1) d_Mo_advance_338 (by assumption) (nI_add _ 1) (by omega) (by decide) ?_
  refine go_aload_n 0 d_Mo_advance_339 rfl rfl ?_
  refine go_getR d_Mo_advance_340 f_Mo_56 (by assumption) (by assumption) ?_
  refine go_iload_n 3 d_Mo_advance_343 rfl rfl ?_
  refine go_bipush (v := 99) d_Mo_advance_344 rfl ?_
  refine go_iadd d_Mo_advance_346 ?_
  refine go_dup2 d_Mo_advance_347 rfl rfl ?_
  refine go_lald (104 * r + 99) d_Mo_advance_348 (by assumption) (nI_add _ 99) (by omega) (by decide) ?_
  refine go_lconst (v := 1) d_Mo_advance_349 rfl ?_
  refine go_lsub d_Mo_advance_350 ?_
  rw [up2_ne (Or.inr (by omega)), a9.2]
  refine go_last (104 * r + 99) d_Mo_advance_351 (by assumption) (nI_add _ 99) (by omega) (by decide) ?_
  refine go_aload_n 0 d_Mo_advance_352 rfl rfl ?_
  refine go_getR d_Mo_advance_353 f_Mo_56 (by assumption) (by assumption) ?_
  refine go_iload_n 3 d_Mo_advance_356 rfl rfl ?_
  refine go_iload d_Mo_advance_357 rfl ?_
  refine go_iconst (v := 1) d_Mo_advance_359 rfl ?_
  refine go_iadd d_Mo_advance_360 ?_
  refine go_i2l d_Mo_advance_361 (rfl) ?_
  refine go_last (104 * r) d_Mo_advance_362 (by assumption) (rfl) (by omega) (by decide) ?_
  exact rest _ ⟨by simp (disch := omega) only [up2_eq, up2_ne], by simp (disch := omega) only [up2_eq, up2_ne], by simp (disch := omega) only [up2_eq, up2_ne]; exact a3, a4, a5.cpy (fun x x' ⟨j, h1, h2, h3, h4⟩ => by rw [h3, h4]; simp (disch := omega) only [up2_eq, up2_ne]), fun j hj => (by simp (disch := omega) only [up2_eq, up2_ne]; exact a6 j hj), a7, a8.cpy (fun j hj => by simp (disch := omega) only [up2_eq, up2_ne]), ⟨fun a b ha hb => (by simp (disch := omega) only [up2_eq, up2_ne]; exact a9.1 a b ha hb), by simp (disch := omega) only [up2_eq, up2_ne]⟩, a10.cpy (fun j hj => by simp (disch := omega) only [up2_eq, up2_ne]) (by simp (disch := omega) only [up2_eq, up2_ne])⟩ (fun i hi => by simp (disch := omega) only [up2_eq, up2_ne]) (fun q hq => by rw [gw_up_ne hq, gw_up_ne hq, gw_up_ne hq])
theorem c_Mo_adC_4 {m r md e f : Nat} {p nn : Int32} {st : List ab_Sy} {lo : Nat → ab_Sy} {s : sp_E × sp_E} {b0 b1 : ab_Ba} {o5 o10 o11 o12 : Option Value} (hp : pt_Mo sh R) (hmc : mc_at I U) (hm : m < 4) (hU : u_ok U) (hr : r + 1 < 42) (hmd : md < 40) (hrow : rw_at (L 549) (104 * r) p md st lo s.1 b0 b1) (hok : kn_ok s) (hb0 : pa_bd (pa_B md st.length) st lo) (hlen : st.length ≤ md) (hnn : -1000 ≤ nn.toInt ∧ nn.toInt ≤ 1000) (he : e ≤ 50) (h17 : I 533 17 = nI e) (ncr : ¬ rn_cr (fun j => (U j).1.length) 4 nn m st.length)
    (hEnd : ∀ (v : Int32) (e' : Nat) (I' : Nat → Nat → Int32) (L' : Nat → Nat → Int64), ce_do (ce_go U m f) U 4 nn (p + 1) (md + 1) st lo s (b0.1, b0.2 - 1) b1 e = (v, e') → I' 533 17 = nI e' → (v = 0 → I' 533 16 = nI r) → ad_fr r I I' L L' → Q (some (.int v)) (n, sh, X, R, I', L'))
    (hGo : ∀ (p' : Int32) (st' : List ab_Sy) (lo' : Nat → ab_Sy) (c0 c1 : ab_Ba) (I' : Nat → Nat → Int32) (L' : Nat → Nat → Int64), ce_do (ce_go U m f) U 4 nn (p + 1) (md + 1) st lo s (b0.1, b0.2 - 1) b1 e = ce_go U m f (p', md + 1, st', lo', s, c0, c1) e → rw_at (L' 549) (104 * r) p' (md + 1) st' lo' s.1 c0 c1 → pa_bd (pa_B (md + 1) st'.length) st' lo' → st'.length ≤ md + 1 → I' 533 16 = I 533 16 → I' 533 17 = nI e → ad_fr r I I' L L' → Q (some (.int 0)) (n, sh, X, R, I', L'))
    (hBr : ∀ (near jump : Option (sp_E × sp_E)) (st' : List ab_Sy) (w : Nat) (I' : Nat → Nat → Int32) (L' : Nat → Nat → Int64), ce_do (ce_go U m f) U 4 nn (p + 1) (md + 1) st lo s (b0.1, b0.2 - 1) b1 e = ce_br (ce_go U m f) near jump (p + 1) nn (md + 1) st' lo (b0.1, b0.2 - 1) b1 e → mp_post (L' 549) r w jump near (p + 1) nn (md + 1) st' lo (b0.1, b0.2 - 1) b1 → (∀ t, near = some t ∨ jump = some t → kn_ok t) → pa_bd (pa_B (md + 1) st'.length) st' lo → st'.length ≤ md + 1 → I' 533 16 = nI w → I' 533 17 = nI e → ad_fr r I I' L L' → Q (some (.int 0)) (n, sh, X, R, I', L')) : gw_Go y_Mo_advance (d + 4) 0 0 327 [some (.ref 533), some (.int (nI m)), some (.int (nI r)), some (.int (nI (104 * r))), some (.int p), o5, some (.int (nI 4)), some (.int nn), some (.long (lN st.length)), none, o10, o11, o12] [] (n, sh, X, R, I, L) Q := by
  have hp0 := hp
  obtain ⟨s533, s534, s535, s536, s537, s538, s539, s540, s541, s542, s543, s544, s545, s546, s547, s548, s549, s550, s551, s552, s553, s554, s555, s556, s557, r534, r535, r536, r537, r538, r539, r540, r541, r542, r543, r544, r545, r546, r547, r548, r549, r550, r551, r552, r553, r554, r555, r556, r557⟩ := hp
  have hBM : pa_B md st.length ≤ 45000000000 := pa_B_m (by omega)
  have two : 2 ≤ st.length → ∃ y x s, st = y :: x :: s := fun h => by cases st with | nil => exact absurd h (by decide) | cons y s => cases s with | nil => exact absurd h (by simp) | cons x s => exact ⟨y, x, s, rfl⟩
  have hT : 2 ≤ st.length := Classical.byContradiction (fun hh => ncr (Or.inl (Nat.lt_of_not_le hh)))
  have rest : ∀ L1 : Nat → Nat → Int64, rw_at (L1 549) (104 * r) (p + 1) (md + 1) st lo s.1 (b0.1, b0.2 - 1) b1 → (∀ i, i < 104 * r → L1 549 i = L 549 i) → (∀ q, q ≠ 549 → L1 q = L q) → gw_Go y_Mo_advance (d + 4) 0 0 363 [some (.ref 533), some (.int (nI m)), some (.int (nI r)), some (.int (nI (104 * r))), some (.int p), o5, some (.int (nI 4)), some (.int nn), some (.long (lN st.length)), none, o10, o11, o12] [] (n, sh, X, R, I, L1) Q := by
    intro L1 hrow' frr frq
    have hbd := pa_do_bd (k := 4) (nn := nn) (p := p + 1) hb0 (by omega) hlen hnn (by decide) hT (fun hh => absurd hh (by decide))
    have hgo : ce_do (ce_go U m f) U 4 nn (p + 1) (md + 1) st lo s (b0.1, b0.2 - 1) b1 e = ce_go U m f ((pa_do 4 nn (p + 1) st lo).1, md + 1, (pa_do 4 nn (p + 1) st lo).2.1, (pa_do 4 nn (p + 1) st lo).2.2, s, (b0.1, b0.2 - 1), b1) e := rfl
    have hpl : (pa_do 4 nn (p + 1) st lo).1 = (p + 1) := by obtain ⟨y, x, s1, rfl⟩ := two hT; rfl
    rw [hpl] at hgo
    have hl : (pa_do 4 nn (p + 1) st lo).2.1.length ≤ md + 1 := by rw [hbd.2]; show st.length - 2 + 1 ≤ md + 1; omega
    refine go_iload d_Mo_advance_363 rfl ?_
    refine go_bipush (v := 8) d_Mo_advance_365 rfl ?_
    refine go_icmp_eq 377 d_Mo_advance_367 rfl (fun hn => absurd hn (by decide)) (fun _ => ?_)
    refine go_iload d_Mo_advance_370 rfl ?_
    refine go_bipush (v := 9) d_Mo_advance_372 rfl ?_
    refine go_icmp_ne 397 d_Mo_advance_374 rfl (fun _ => ?_) (fun hn => by first | exact absurd hn (by decide) | exact absurd (by decide) hn)
    refine go_iload d_Mo_advance_397 rfl ?_
    refine go_bipush (v := 7) d_Mo_advance_399 rfl ?_
    refine go_icmp_ne 413 d_Mo_advance_401 rfl (fun _ => ?_) (fun hn => by first | exact absurd hn (by decide) | exact absurd (by decide) hn)
    refine go_iload d_Mo_advance_413 rfl ?_
    refine go_bipush (v := 10) d_Mo_advance_415 rfl ?_
    refine go_icmp_ne 426 d_Mo_advance_417 rfl (fun _ => ?_) (fun hn => by first | exact absurd hn (by decide) | exact absurd (by decide) hn)
    refine go_iload d_Mo_advance_426 rfl ?_
    refine go_bipush (v := 11) d_Mo_advance_428 rfl ?_
    refine go_icmp_ne 441 d_Mo_advance_430 rfl (fun _ => ?_) (fun hn => by first | exact absurd hn (by decide) | exact absurd (by decide) hn)
    refine go_iload d_Mo_advance_441 rfl ?_
    refine go_bipush (v := 12) d_Mo_advance_443 rfl ?_
    refine go_icmp_ne 455 d_Mo_advance_445 rfl (fun _ => ?_) (fun hn => by first | exact absurd hn (by decide) | exact absurd (by decide) hn)
    refine go_aload_n 0 d_Mo_advance_455 rfl rfl ?_
    refine go_iload_n 2 d_Mo_advance_456 rfl rfl ?_
    refine go_iload d_Mo_advance_457 rfl ?_
    refine go_iload d_Mo_advance_459 rfl ?_
    refine go_V3 d_Mo_advance_461 k_Mo_179 (by assumption) (Nat.le_of_ble_eq_true rfl) (c_Mo_simple (d := d + 1) (k := 4) (nn := nn) (p := (p + 1)) hp0 (by omega) (by decide) hT (fun hh => absurd hh (by decide)) (fun hh => absurd hh (by decide)) hrow' (fun L2 c1 c2 c3 => ?_))
    refine go_iconst (v := 0) d_Mo_advance_464 rfl ?_
    exact go_iret d_Mo_advance_465 rfl (hGo (p + 1) _ _ _ _ I L2 hgo (pa_do_ind 4 nn (p + 1) (p + 1) st lo c1) hbd.1 hl rfl h17 ⟨fun j _ _ => rfl, fun _ _ => rfl, fun i hi => by rw [c2 i (by omega)]; exact frr i hi, fun q a b c => by rw [c3 q a]; exact frq q a⟩)
  obtain ⟨a1, a2, a3, a4, a5, a6, a7, a8, a9, a10⟩ := hrow
  refine go_aload_n 0 d_Mo_advance_327 rfl rfl ?_
  refine go_getR d_Mo_advance_328 f_Mo_56 (by assumption) (by assumption) ?_
  refine go_iload_n 3 d_Mo_advance_331 rfl rfl ?_
  refine go_iconst (v := 1) d_Mo_advance_332 rfl ?_
  refine go_iadd d_Mo_advance_333 ?_
  refine go_dup2 d_Mo_advance_334 rfl rfl ?_
  refine go_lald (104 * r + 1) d_Mo_advance_335 (by assumption) (nI_add _ 1) (by omega) (by decide) ?_
  refine go_lconst (v := 1) d_Mo_advance_336 rfl ?_
  refine go_ladd d_Mo_advance_337 ?_
  rw [a2, lN_1]
  refine go_last (104 * r + 1) d_Mo_advance_338 (by assumption) (nI_add _ 1) (by omega) (by decide) ?_
  refine go_aload_n 0 d_Mo_advance_339 rfl rfl ?_
  refine go_getR d_Mo_advance_340 f_Mo_56 (by assumption) (by assumption) ?_
  refine go_iload_n 3 d_Mo_advance_343 rfl rfl ?_
  refine go_bipush (v := 99) d_Mo_advance_344 rfl ?_
  refine go_iadd d_Mo_advance_346 ?_
  refine go_dup2 d_Mo_advance_347 rfl rfl ?_
  refine go_lald (104 * r + 99) d_Mo_advance_348 (by assumption) (nI_add _ 99) (by omega) (by decide) ?_
  refine go_lconst (v := 1) d_Mo_advance_349 rfl ?_
  refine go_lsub d_Mo_advance_350 ?_
  rw [up2_ne (Or.inr (by omega)), a9.2]
  refine go_last (104 * r + 99) d_Mo_advance_351 (by assumption) (nI_add _ 99) (by omega) (by decide) ?_
  refine go_aload_n 0 d_Mo_advance_352 rfl rfl ?_
  refine go_getR d_Mo_advance_353 f_Mo_56 (by assumption) (by assumption) ?_
  refine go_iload_n 3 d_Mo_advance_356 rfl rfl ?_
  refine go_iload d_Mo_advance_357 rfl ?_
  refine go_iconst (v := 1) d_Mo_advance_359 rfl ?_
  refine go_iadd d_Mo_advance_360 ?_
  refine go_i2l d_Mo_advance_361 (rfl) ?_
  refine go_last (104 * r) d_Mo_advance_362 (by assumption) (rfl) (by omega) (by decide) ?_
  exact rest _ ⟨by simp (disch := omega) only [up2_eq, up2_ne], by simp (disch := omega) only [up2_eq, up2_ne], by simp (disch := omega) only [up2_eq, up2_ne]; exact a3, a4, a5.cpy (fun x x' ⟨j, h1, h2, h3, h4⟩ => by rw [h3, h4]; simp (disch := omega) only [up2_eq, up2_ne]), fun j hj => (by simp (disch := omega) only [up2_eq, up2_ne]; exact a6 j hj), a7, a8.cpy (fun j hj => by simp (disch := omega) only [up2_eq, up2_ne]), ⟨fun a b ha hb => (by simp (disch := omega) only [up2_eq, up2_ne]; exact a9.1 a b ha hb), by simp (disch := omega) only [up2_eq, up2_ne]⟩, a10.cpy (fun j hj => by simp (disch := omega) only [up2_eq, up2_ne]) (by simp (disch := omega) only [up2_eq, up2_ne])⟩ (fun i hi => by simp (disch := omega) only [up2_eq, up2_ne]) (fun q hq => by rw [gw_up_ne hq, gw_up_ne hq, gw_up_ne hq])
theorem c_Mo_adC_5 {m r md e f : Nat} {p nn : Int32} {st : List ab_Sy} {lo : Nat → ab_Sy} {s : sp_E × sp_E} {b0 b1 : ab_Ba} {o5 o10 o11 o12 : Option Value} (hp : pt_Mo sh R) (hmc : mc_at I U) (hm : m < 4) (hU : u_ok U) (hr : r + 1 < 42) (hmd : md < 40) (hrow : rw_at (L 549) (104 * r) p md st lo s.1 b0 b1) (hok : kn_ok s) (hb0 : pa_bd (pa_B md st.length) st lo) (hlen : st.length ≤ md) (hnn : -1000 ≤ nn.toInt ∧ nn.toInt ≤ 1000) (he : e ≤ 50) (h17 : I 533 17 = nI e) (ncr : ¬ rn_cr (fun j => (U j).1.length) 5 nn m st.length)
    (hEnd : ∀ (v : Int32) (e' : Nat) (I' : Nat → Nat → Int32) (L' : Nat → Nat → Int64), ce_do (ce_go U m f) U 5 nn (p + 1) (md + 1) st lo s (b0.1, b0.2 - 1) b1 e = (v, e') → I' 533 17 = nI e' → (v = 0 → I' 533 16 = nI r) → ad_fr r I I' L L' → Q (some (.int v)) (n, sh, X, R, I', L'))
    (hGo : ∀ (p' : Int32) (st' : List ab_Sy) (lo' : Nat → ab_Sy) (c0 c1 : ab_Ba) (I' : Nat → Nat → Int32) (L' : Nat → Nat → Int64), ce_do (ce_go U m f) U 5 nn (p + 1) (md + 1) st lo s (b0.1, b0.2 - 1) b1 e = ce_go U m f (p', md + 1, st', lo', s, c0, c1) e → rw_at (L' 549) (104 * r) p' (md + 1) st' lo' s.1 c0 c1 → pa_bd (pa_B (md + 1) st'.length) st' lo' → st'.length ≤ md + 1 → I' 533 16 = I 533 16 → I' 533 17 = nI e → ad_fr r I I' L L' → Q (some (.int 0)) (n, sh, X, R, I', L'))
    (hBr : ∀ (near jump : Option (sp_E × sp_E)) (st' : List ab_Sy) (w : Nat) (I' : Nat → Nat → Int32) (L' : Nat → Nat → Int64), ce_do (ce_go U m f) U 5 nn (p + 1) (md + 1) st lo s (b0.1, b0.2 - 1) b1 e = ce_br (ce_go U m f) near jump (p + 1) nn (md + 1) st' lo (b0.1, b0.2 - 1) b1 e → mp_post (L' 549) r w jump near (p + 1) nn (md + 1) st' lo (b0.1, b0.2 - 1) b1 → (∀ t, near = some t ∨ jump = some t → kn_ok t) → pa_bd (pa_B (md + 1) st'.length) st' lo → st'.length ≤ md + 1 → I' 533 16 = nI w → I' 533 17 = nI e → ad_fr r I I' L L' → Q (some (.int 0)) (n, sh, X, R, I', L')) : gw_Go y_Mo_advance (d + 4) 0 0 327 [some (.ref 533), some (.int (nI m)), some (.int (nI r)), some (.int (nI (104 * r))), some (.int p), o5, some (.int (nI 5)), some (.int nn), some (.long (lN st.length)), none, o10, o11, o12] [] (n, sh, X, R, I, L) Q := by
  have hp0 := hp
  obtain ⟨s533, s534, s535, s536, s537, s538, s539, s540, s541, s542, s543, s544, s545, s546, s547, s548, s549, s550, s551, s552, s553, s554, s555, s556, s557, r534, r535, r536, r537, r538, r539, r540, r541, r542, r543, r544, r545, r546, r547, r548, r549, r550, r551, r552, r553, r554, r555, r556, r557⟩ := hp
  have hBM : pa_B md st.length ≤ 45000000000 := pa_B_m (by omega)
  have hT : 0 ≤ st.length := Nat.zero_le _
  have rest : ∀ L1 : Nat → Nat → Int64, rw_at (L1 549) (104 * r) (p + 1) (md + 1) st lo s.1 (b0.1, b0.2 - 1) b1 → (∀ i, i < 104 * r → L1 549 i = L 549 i) → (∀ q, q ≠ 549 → L1 q = L q) → gw_Go y_Mo_advance (d + 4) 0 0 363 [some (.ref 533), some (.int (nI m)), some (.int (nI r)), some (.int (nI (104 * r))), some (.int p), o5, some (.int (nI 5)), some (.int nn), some (.long (lN st.length)), none, o10, o11, o12] [] (n, sh, X, R, I, L1) Q := by
    intro L1 hrow' frr frq
    have hbd := pa_do_bd (k := 5) (nn := nn) (p := p + 1) hb0 (by omega) hlen hnn (by decide) hT (fun hh => absurd hh (by decide))
    have hgo : ce_do (ce_go U m f) U 5 nn (p + 1) (md + 1) st lo s (b0.1, b0.2 - 1) b1 e = ce_go U m f ((pa_do 5 nn (p + 1) st lo).1, md + 1, (pa_do 5 nn (p + 1) st lo).2.1, (pa_do 5 nn (p + 1) st lo).2.2, s, (b0.1, b0.2 - 1), b1) e := rfl
    have hpl : (pa_do 5 nn (p + 1) st lo).1 = (p + 1) := by cases st <;> rfl
    rw [hpl] at hgo
    have hl : (pa_do 5 nn (p + 1) st lo).2.1.length ≤ md + 1 := by rw [hbd.2]; show st.length - 0 + 0 ≤ md + 1; omega
    refine go_iload d_Mo_advance_363 rfl ?_
    refine go_bipush (v := 8) d_Mo_advance_365 rfl ?_
    refine go_icmp_eq 377 d_Mo_advance_367 rfl (fun hn => absurd hn (by decide)) (fun _ => ?_)
    refine go_iload d_Mo_advance_370 rfl ?_
    refine go_bipush (v := 9) d_Mo_advance_372 rfl ?_
    refine go_icmp_ne 397 d_Mo_advance_374 rfl (fun _ => ?_) (fun hn => by first | exact absurd hn (by decide) | exact absurd (by decide) hn)
    refine go_iload d_Mo_advance_397 rfl ?_
    refine go_bipush (v := 7) d_Mo_advance_399 rfl ?_
    refine go_icmp_ne 413 d_Mo_advance_401 rfl (fun _ => ?_) (fun hn => by first | exact absurd hn (by decide) | exact absurd (by decide) hn)
    refine go_iload d_Mo_advance_413 rfl ?_
    refine go_bipush (v := 10) d_Mo_advance_415 rfl ?_
    refine go_icmp_ne 426 d_Mo_advance_417 rfl (fun _ => ?_) (fun hn => by first | exact absurd hn (by decide) | exact absurd (by decide) hn)
    refine go_iload d_Mo_advance_426 rfl ?_
    refine go_bipush (v := 11) d_Mo_advance_428 rfl ?_
    refine go_icmp_ne 441 d_Mo_advance_430 rfl (fun _ => ?_) (fun hn => by first | exact absurd hn (by decide) | exact absurd (by decide) hn)
    refine go_iload d_Mo_advance_441 rfl ?_
    refine go_bipush (v := 12) d_Mo_advance_443 rfl ?_
    refine go_icmp_ne 455 d_Mo_advance_445 rfl (fun _ => ?_) (fun hn => by first | exact absurd hn (by decide) | exact absurd (by decide) hn)
    refine go_aload_n 0 d_Mo_advance_455 rfl rfl ?_
    refine go_iload_n 2 d_Mo_advance_456 rfl rfl ?_
    refine go_iload d_Mo_advance_457 rfl ?_
    refine go_iload d_Mo_advance_459 rfl ?_
    refine go_V3 d_Mo_advance_461 k_Mo_179 (by assumption) (Nat.le_of_ble_eq_true rfl) (c_Mo_simple (d := d + 1) (k := 5) (nn := nn) (p := (p + 1)) hp0 (by omega) (by decide) hT (fun hh => absurd hh (by decide)) (fun hh => absurd hh (by decide)) hrow' (fun L2 c1 c2 c3 => ?_))
    refine go_iconst (v := 0) d_Mo_advance_464 rfl ?_
    exact go_iret d_Mo_advance_465 rfl (hGo (p + 1) _ _ _ _ I L2 hgo (pa_do_ind 5 nn (p + 1) (p + 1) st lo c1) hbd.1 hl rfl h17 ⟨fun j _ _ => rfl, fun _ _ => rfl, fun i hi => by rw [c2 i (by omega)]; exact frr i hi, fun q a b c => by rw [c3 q a]; exact frq q a⟩)
  obtain ⟨a1, a2, a3, a4, a5, a6, a7, a8, a9, a10⟩ := hrow
  refine go_aload_n 0 d_Mo_advance_327 rfl rfl ?_
  refine go_getR d_Mo_advance_328 f_Mo_56 (by assumption) (by assumption) ?_
  refine go_iload_n 3 d_Mo_advance_331 rfl rfl ?_
  refine go_iconst (v := 1) d_Mo_advance_332 rfl ?_
  refine go_iadd d_Mo_advance_333 ?_
  refine go_dup2 d_Mo_advance_334 rfl rfl ?_
  refine go_lald (104 * r + 1) d_Mo_advance_335 (by assumption) (nI_add _ 1) (by omega) (by decide) ?_
  refine go_lconst (v := 1) d_Mo_advance_336 rfl ?_
  refine go_ladd d_Mo_advance_337 ?_
  rw [a2, lN_1]
  refine go_last (104 * r + 1) d_Mo_advance_338 (by assumption) (nI_add _ 1) (by omega) (by decide) ?_
  refine go_aload_n 0 d_Mo_advance_339 rfl rfl ?_
  refine go_getR d_Mo_advance_340 f_Mo_56 (by assumption) (by assumption) ?_
  refine go_iload_n 3 d_Mo_advance_343 rfl rfl ?_
  refine go_bipush (v := 99) d_Mo_advance_344 rfl ?_
  refine go_iadd d_Mo_advance_346 ?_
  refine go_dup2 d_Mo_advance_347 rfl rfl ?_
  refine go_lald (104 * r + 99) d_Mo_advance_348 (by assumption) (nI_add _ 99) (by omega) (by decide) ?_
  refine go_lconst (v := 1) d_Mo_advance_349 rfl ?_
  refine go_lsub d_Mo_advance_350 ?_
  rw [up2_ne (Or.inr (by omega)), a9.2]
  refine go_last (104 * r + 99) d_Mo_advance_351 (by assumption) (nI_add _ 99) (by omega) (by decide) ?_
  refine go_aload_n 0 d_Mo_advance_352 rfl rfl ?_
  refine go_getR d_Mo_advance_353 f_Mo_56 (by assumption) (by assumption) ?_
  refine go_iload_n 3 d_Mo_advance_356 rfl rfl ?_
  refine go_iload d_Mo_advance_357 rfl ?_
  refine go_iconst (v := 1) d_Mo_advance_359 rfl ?_
  refine go_iadd d_Mo_advance_360 ?_
  refine go_i2l d_Mo_advance_361 (rfl) ?_
  refine go_last (104 * r) d_Mo_advance_362 (by assumption) (rfl) (by omega) (by decide) ?_
  exact rest _ ⟨by simp (disch := omega) only [up2_eq, up2_ne], by simp (disch := omega) only [up2_eq, up2_ne], by simp (disch := omega) only [up2_eq, up2_ne]; exact a3, a4, a5.cpy (fun x x' ⟨j, h1, h2, h3, h4⟩ => by rw [h3, h4]; simp (disch := omega) only [up2_eq, up2_ne]), fun j hj => (by simp (disch := omega) only [up2_eq, up2_ne]; exact a6 j hj), a7, a8.cpy (fun j hj => by simp (disch := omega) only [up2_eq, up2_ne]), ⟨fun a b ha hb => (by simp (disch := omega) only [up2_eq, up2_ne]; exact a9.1 a b ha hb), by simp (disch := omega) only [up2_eq, up2_ne]⟩, a10.cpy (fun j hj => by simp (disch := omega) only [up2_eq, up2_ne]) (by simp (disch := omega) only [up2_eq, up2_ne])⟩ (fun i hi => by simp (disch := omega) only [up2_eq, up2_ne]) (fun q hq => by rw [gw_up_ne hq, gw_up_ne hq, gw_up_ne hq])
theorem c_Mo_adC_6 {m r md e f : Nat} {p nn : Int32} {st : List ab_Sy} {lo : Nat → ab_Sy} {s : sp_E × sp_E} {b0 b1 : ab_Ba} {o5 o10 o11 o12 : Option Value} (hp : pt_Mo sh R) (hmc : mc_at I U) (hm : m < 4) (hU : u_ok U) (hr : r + 1 < 42) (hmd : md < 40) (hrow : rw_at (L 549) (104 * r) p md st lo s.1 b0 b1) (hok : kn_ok s) (hb0 : pa_bd (pa_B md st.length) st lo) (hlen : st.length ≤ md) (hnn : -1000 ≤ nn.toInt ∧ nn.toInt ≤ 1000) (he : e ≤ 50) (h17 : I 533 17 = nI e) (ncr : ¬ rn_cr (fun j => (U j).1.length) 6 nn m st.length)
    (hEnd : ∀ (v : Int32) (e' : Nat) (I' : Nat → Nat → Int32) (L' : Nat → Nat → Int64), ce_do (ce_go U m f) U 6 nn (p + 1) (md + 1) st lo s (b0.1, b0.2 - 1) b1 e = (v, e') → I' 533 17 = nI e' → (v = 0 → I' 533 16 = nI r) → ad_fr r I I' L L' → Q (some (.int v)) (n, sh, X, R, I', L'))
    (hGo : ∀ (p' : Int32) (st' : List ab_Sy) (lo' : Nat → ab_Sy) (c0 c1 : ab_Ba) (I' : Nat → Nat → Int32) (L' : Nat → Nat → Int64), ce_do (ce_go U m f) U 6 nn (p + 1) (md + 1) st lo s (b0.1, b0.2 - 1) b1 e = ce_go U m f (p', md + 1, st', lo', s, c0, c1) e → rw_at (L' 549) (104 * r) p' (md + 1) st' lo' s.1 c0 c1 → pa_bd (pa_B (md + 1) st'.length) st' lo' → st'.length ≤ md + 1 → I' 533 16 = I 533 16 → I' 533 17 = nI e → ad_fr r I I' L L' → Q (some (.int 0)) (n, sh, X, R, I', L'))
    (hBr : ∀ (near jump : Option (sp_E × sp_E)) (st' : List ab_Sy) (w : Nat) (I' : Nat → Nat → Int32) (L' : Nat → Nat → Int64), ce_do (ce_go U m f) U 6 nn (p + 1) (md + 1) st lo s (b0.1, b0.2 - 1) b1 e = ce_br (ce_go U m f) near jump (p + 1) nn (md + 1) st' lo (b0.1, b0.2 - 1) b1 e → mp_post (L' 549) r w jump near (p + 1) nn (md + 1) st' lo (b0.1, b0.2 - 1) b1 → (∀ t, near = some t ∨ jump = some t → kn_ok t) → pa_bd (pa_B (md + 1) st'.length) st' lo → st'.length ≤ md + 1 → I' 533 16 = nI w → I' 533 17 = nI e → ad_fr r I I' L L' → Q (some (.int 0)) (n, sh, X, R, I', L')) : gw_Go y_Mo_advance (d + 4) 0 0 327 [some (.ref 533), some (.int (nI m)), some (.int (nI r)), some (.int (nI (104 * r))), some (.int p), o5, some (.int (nI 6)), some (.int nn), some (.long (lN st.length)), none, o10, o11, o12] [] (n, sh, X, R, I, L) Q := by
  have hp0 := hp
  obtain ⟨s533, s534, s535, s536, s537, s538, s539, s540, s541, s542, s543, s544, s545, s546, s547, s548, s549, s550, s551, s552, s553, s554, s555, s556, s557, r534, r535, r536, r537, r538, r539, r540, r541, r542, r543, r544, r545, r546, r547, r548, r549, r550, r551, r552, r553, r554, r555, r556, r557⟩ := hp
  have hBM : pa_B md st.length ≤ 45000000000 := pa_B_m (by omega)
  have hT : 0 ≤ st.length := Nat.zero_le _
  have rest : ∀ L1 : Nat → Nat → Int64, rw_at (L1 549) (104 * r) (p + 1) (md + 1) st lo s.1 (b0.1, b0.2 - 1) b1 → (∀ i, i < 104 * r → L1 549 i = L 549 i) → (∀ q, q ≠ 549 → L1 q = L q) → gw_Go y_Mo_advance (d + 4) 0 0 363 [some (.ref 533), some (.int (nI m)), some (.int (nI r)), some (.int (nI (104 * r))), some (.int p), o5, some (.int (nI 6)), some (.int nn), some (.long (lN st.length)), none, o10, o11, o12] [] (n, sh, X, R, I, L1) Q := by
    intro L1 hrow' frr frq
    have hbd := pa_do_bd (k := 6) (nn := nn) (p := p + 1) hb0 (by omega) hlen hnn (by decide) hT (fun hh => absurd hh (by decide))
    have hgo : ce_do (ce_go U m f) U 6 nn (p + 1) (md + 1) st lo s (b0.1, b0.2 - 1) b1 e = ce_go U m f ((pa_do 6 nn (p + 1) st lo).1, md + 1, (pa_do 6 nn (p + 1) st lo).2.1, (pa_do 6 nn (p + 1) st lo).2.2, s, (b0.1, b0.2 - 1), b1) e := rfl
    have hpl : (pa_do 6 nn (p + 1) st lo).1 = (p + 1) := by cases st <;> rfl
    rw [hpl] at hgo
    have hl : (pa_do 6 nn (p + 1) st lo).2.1.length ≤ md + 1 := by rw [hbd.2]; show st.length - 0 + 0 ≤ md + 1; omega
    refine go_iload d_Mo_advance_363 rfl ?_
    refine go_bipush (v := 8) d_Mo_advance_365 rfl ?_
    refine go_icmp_eq 377 d_Mo_advance_367 rfl (fun hn => absurd hn (by decide)) (fun _ => ?_)
    refine go_iload d_Mo_advance_370 rfl ?_
    refine go_bipush (v := 9) d_Mo_advance_372 rfl ?_
    refine go_icmp_ne 397 d_Mo_advance_374 rfl (fun _ => ?_) (fun hn => by first | exact absurd hn (by decide) | exact absurd (by decide) hn)
    refine go_iload d_Mo_advance_397 rfl ?_
    refine go_bipush (v := 7) d_Mo_advance_399 rfl ?_
    refine go_icmp_ne 413 d_Mo_advance_401 rfl (fun _ => ?_) (fun hn => by first | exact absurd hn (by decide) | exact absurd (by decide) hn)
    refine go_iload d_Mo_advance_413 rfl ?_
    refine go_bipush (v := 10) d_Mo_advance_415 rfl ?_
    refine go_icmp_ne 426 d_Mo_advance_417 rfl (fun _ => ?_) (fun hn => by first | exact absurd hn (by decide) | exact absurd (by decide) hn)
    refine go_iload d_Mo_advance_426 rfl ?_
    refine go_bipush (v := 11) d_Mo_advance_428 rfl ?_
    refine go_icmp_ne 441 d_Mo_advance_430 rfl (fun _ => ?_) (fun hn => by first | exact absurd hn (by decide) | exact absurd (by decide) hn)
    refine go_iload d_Mo_advance_441 rfl ?_
    refine go_bipush (v := 12) d_Mo_advance_443 rfl ?_
    refine go_icmp_ne 455 d_Mo_advance_445 rfl (fun _ => ?_) (fun hn => by first | exact absurd hn (by decide) | exact absurd (by decide) hn)
    refine go_aload_n 0 d_Mo_advance_455 rfl rfl ?_
    refine go_iload_n 2 d_Mo_advance_456 rfl rfl ?_
    refine go_iload d_Mo_advance_457 rfl ?_
    refine go_iload d_Mo_advance_459 rfl ?_
    refine go_V3 d_Mo_advance_461 k_Mo_179 (by assumption) (Nat.le_of_ble_eq_true rfl) (c_Mo_simple (d := d + 1) (k := 6) (nn := nn) (p := (p + 1)) hp0 (by omega) (by decide) hT (fun hh => absurd hh (by decide)) (fun hh => absurd hh (by decide)) hrow' (fun L2 c1 c2 c3 => ?_))
    refine go_iconst (v := 0) d_Mo_advance_464 rfl ?_
    exact go_iret d_Mo_advance_465 rfl (hGo (p + 1) _ _ _ _ I L2 hgo (pa_do_ind 6 nn (p + 1) (p + 1) st lo c1) hbd.1 hl rfl h17 ⟨fun j _ _ => rfl, fun _ _ => rfl, fun i hi => by rw [c2 i (by omega)]; exact frr i hi, fun q a b c => by rw [c3 q a]; exact frq q a⟩)
  obtain ⟨a1, a2, a3, a4, a5, a6, a7, a8, a9, a10⟩ := hrow
  refine go_aload_n 0 d_Mo_advance_327 rfl rfl ?_
  refine go_getR d_Mo_advance_328 f_Mo_56 (by assumption) (by assumption) ?_
  refine go_iload_n 3 d_Mo_advance_331 rfl rfl ?_
  refine go_iconst (v := 1) d_Mo_advance_332 rfl ?_
  refine go_iadd d_Mo_advance_333 ?_
  refine go_dup2 d_Mo_advance_334 rfl rfl ?_
  refine go_lald (104 * r + 1) d_Mo_advance_335 (by assumption) (nI_add _ 1) (by omega) (by decide) ?_
  refine go_lconst (v := 1) d_Mo_advance_336 rfl ?_
  refine go_ladd d_Mo_advance_337 ?_
  rw [a2, lN_1]
  refine go_last (104 * r + 1) d_Mo_advance_338 (by assumption) (nI_add _ 1) (by omega) (by decide) ?_
  refine go_aload_n 0 d_Mo_advance_339 rfl rfl ?_
  refine go_getR d_Mo_advance_340 f_Mo_56 (by assumption) (by assumption) ?_
  refine go_iload_n 3 d_Mo_advance_343 rfl rfl ?_
  refine go_bipush (v := 99) d_Mo_advance_344 rfl ?_
  refine go_iadd d_Mo_advance_346 ?_
  refine go_dup2 d_Mo_advance_347 rfl rfl ?_
  refine go_lald (104 * r + 99) d_Mo_advance_348 (by assumption) (nI_add _ 99) (by omega) (by decide) ?_
  refine go_lconst (v := 1) d_Mo_advance_349 rfl ?_
  refine go_lsub d_Mo_advance_350 ?_
  rw [up2_ne (Or.inr (by omega)), a9.2]
  refine go_last (104 * r + 99) d_Mo_advance_351 (by assumption) (nI_add _ 99) (by omega) (by decide) ?_
  refine go_aload_n 0 d_Mo_advance_352 rfl rfl ?_
  refine go_getR d_Mo_advance_353 f_Mo_56 (by assumption) (by assumption) ?_
  refine go_iload_n 3 d_Mo_advance_356 rfl rfl ?_
  refine go_iload d_Mo_advance_357 rfl ?_
  refine go_iconst (v := 1) d_Mo_advance_359 rfl ?_
  refine go_iadd d_Mo_advance_360 ?_
  refine go_i2l d_Mo_advance_361 (rfl) ?_
  refine go_last (104 * r) d_Mo_advance_362 (by assumption) (rfl) (by omega) (by decide) ?_
  exact rest _ ⟨by simp (disch := omega) only [up2_eq, up2_ne], by simp (disch := omega) only [up2_eq, up2_ne], by simp (disch := omega) only [up2_eq, up2_ne]; exact a3, a4, a5.cpy (fun x x' ⟨j, h1, h2, h3, h4⟩ => by rw [h3, h4]; simp (disch := omega) only [up2_eq, up2_ne]), fun j hj => (by simp (disch := omega) only [up2_eq, up2_ne]; exact a6 j hj), a7, a8.cpy (fun j hj => by simp (disch := omega) only [up2_eq, up2_ne]), ⟨fun a b ha hb => (by simp (disch := omega) only [up2_eq, up2_ne]; exact a9.1 a b ha hb), by simp (disch := omega) only [up2_eq, up2_ne]⟩, a10.cpy (fun j hj => by simp (disch := omega) only [up2_eq, up2_ne]) (by simp (disch := omega) only [up2_eq, up2_ne])⟩ (fun i hi => by simp (disch := omega) only [up2_eq, up2_ne]) (fun q hq => by rw [gw_up_ne hq, gw_up_ne hq, gw_up_ne hq])
theorem c_Mo_adC_7 {m r md e f : Nat} {p nn : Int32} {st : List ab_Sy} {lo : Nat → ab_Sy} {s : sp_E × sp_E} {b0 b1 : ab_Ba} {o5 o10 o11 o12 : Option Value} (hp : pt_Mo sh R) (hmc : mc_at I U) (hm : m < 4) (hU : u_ok U) (hr : r + 1 < 42) (hmd : md < 40) (hrow : rw_at (L 549) (104 * r) p md st lo s.1 b0 b1) (hok : kn_ok s) (hb0 : pa_bd (pa_B md st.length) st lo) (hlen : st.length ≤ md) (hnn : -1000 ≤ nn.toInt ∧ nn.toInt ≤ 1000) (he : e ≤ 50) (h17 : I 533 17 = nI e) (ncr : ¬ rn_cr (fun j => (U j).1.length) 7 nn m st.length)
    (hEnd : ∀ (v : Int32) (e' : Nat) (I' : Nat → Nat → Int32) (L' : Nat → Nat → Int64), ce_do (ce_go U m f) U 7 nn (p + 1) (md + 1) st lo s (b0.1, b0.2 - 1) b1 e = (v, e') → I' 533 17 = nI e' → (v = 0 → I' 533 16 = nI r) → ad_fr r I I' L L' → Q (some (.int v)) (n, sh, X, R, I', L'))
    (hGo : ∀ (p' : Int32) (st' : List ab_Sy) (lo' : Nat → ab_Sy) (c0 c1 : ab_Ba) (I' : Nat → Nat → Int32) (L' : Nat → Nat → Int64), ce_do (ce_go U m f) U 7 nn (p + 1) (md + 1) st lo s (b0.1, b0.2 - 1) b1 e = ce_go U m f (p', md + 1, st', lo', s, c0, c1) e → rw_at (L' 549) (104 * r) p' (md + 1) st' lo' s.1 c0 c1 → pa_bd (pa_B (md + 1) st'.length) st' lo' → st'.length ≤ md + 1 → I' 533 16 = I 533 16 → I' 533 17 = nI e → ad_fr r I I' L L' → Q (some (.int 0)) (n, sh, X, R, I', L'))
    (hBr : ∀ (near jump : Option (sp_E × sp_E)) (st' : List ab_Sy) (w : Nat) (I' : Nat → Nat → Int32) (L' : Nat → Nat → Int64), ce_do (ce_go U m f) U 7 nn (p + 1) (md + 1) st lo s (b0.1, b0.2 - 1) b1 e = ce_br (ce_go U m f) near jump (p + 1) nn (md + 1) st' lo (b0.1, b0.2 - 1) b1 e → mp_post (L' 549) r w jump near (p + 1) nn (md + 1) st' lo (b0.1, b0.2 - 1) b1 → (∀ t, near = some t ∨ jump = some t → kn_ok t) → pa_bd (pa_B (md + 1) st'.length) st' lo → st'.length ≤ md + 1 → I' 533 16 = nI w → I' 533 17 = nI e → ad_fr r I I' L L' → Q (some (.int 0)) (n, sh, X, R, I', L')) : gw_Go y_Mo_advance (d + 4) 0 0 327 [some (.ref 533), some (.int (nI m)), some (.int (nI r)), some (.int (nI (104 * r))), some (.int p), o5, some (.int (nI 7)), some (.int nn), some (.long (lN st.length)), none, o10, o11, o12] [] (n, sh, X, R, I, L) Q := by
  have hp0 := hp
  obtain ⟨s533, s534, s535, s536, s537, s538, s539, s540, s541, s542, s543, s544, s545, s546, s547, s548, s549, s550, s551, s552, s553, s554, s555, s556, s557, r534, r535, r536, r537, r538, r539, r540, r541, r542, r543, r544, r545, r546, r547, r548, r549, r550, r551, r552, r553, r554, r555, r556, r557⟩ := hp
  have hBM : pa_B md st.length ≤ 45000000000 := pa_B_m (by omega)
  have hT : 0 ≤ st.length := Nat.zero_le _
  have rest : ∀ L1 : Nat → Nat → Int64, rw_at (L1 549) (104 * r) (p + 1) (md + 1) st lo s.1 (b0.1, b0.2 - 1) b1 → (∀ i, i < 104 * r → L1 549 i = L 549 i) → (∀ q, q ≠ 549 → L1 q = L q) → gw_Go y_Mo_advance (d + 4) 0 0 363 [some (.ref 533), some (.int (nI m)), some (.int (nI r)), some (.int (nI (104 * r))), some (.int p), o5, some (.int (nI 7)), some (.int nn), some (.long (lN st.length)), none, o10, o11, o12] [] (n, sh, X, R, I, L1) Q := by
    intro L1 hrow' frr frq
    have hbd := pa_do_bd (k := 7) (nn := nn) (p := p + 1) hb0 (by omega) hlen hnn (by decide) hT (fun hh => absurd hh (by decide))
    have hgo : ce_do (ce_go U m f) U 7 nn (p + 1) (md + 1) st lo s (b0.1, b0.2 - 1) b1 e = ce_go U m f ((pa_do 7 nn (p + 1) st lo).1, md + 1, (pa_do 7 nn (p + 1) st lo).2.1, (pa_do 7 nn (p + 1) st lo).2.2, s, (b0.1, b0.2 - 1), b1) e := rfl
    have hpl : (pa_do 7 nn (p + 1) st lo).1 = nn := by cases st <;> rfl
    rw [hpl] at hgo
    have hl : (pa_do 7 nn (p + 1) st lo).2.1.length ≤ md + 1 := by rw [hbd.2]; show st.length - 0 + 0 ≤ md + 1; omega
    refine go_iload d_Mo_advance_363 rfl ?_
    refine go_bipush (v := 8) d_Mo_advance_365 rfl ?_
    refine go_icmp_eq 377 d_Mo_advance_367 rfl (fun hn => absurd hn (by decide)) (fun _ => ?_)
    refine go_iload d_Mo_advance_370 rfl ?_
    refine go_bipush (v := 9) d_Mo_advance_372 rfl ?_
    refine go_icmp_ne 397 d_Mo_advance_374 rfl (fun _ => ?_) (fun hn => by first | exact absurd hn (by decide) | exact absurd (by decide) hn)
    refine go_iload d_Mo_advance_397 rfl ?_
    refine go_bipush (v := 7) d_Mo_advance_399 rfl ?_
    refine go_icmp_ne 413 d_Mo_advance_401 rfl (fun hn => absurd hn (by decide)) (fun _ => ?_)
    refine go_aload_n 0 d_Mo_advance_404 rfl rfl ?_
    refine go_getR d_Mo_advance_405 f_Mo_56 (by assumption) (by assumption) ?_
    refine go_iload_n 3 d_Mo_advance_408 rfl rfl ?_
    refine go_iload d_Mo_advance_409 rfl ?_
    refine go_i2l d_Mo_advance_411 (rfl) ?_
    refine go_last (104 * r) d_Mo_advance_412 (by assumption) (rfl) (by omega) (by decide) ?_
    refine go_iload d_Mo_advance_413 rfl ?_
    refine go_bipush (v := 10) d_Mo_advance_415 rfl ?_
    refine go_icmp_ne 426 d_Mo_advance_417 rfl (fun _ => ?_) (fun hn => by first | exact absurd hn (by decide) | exact absurd (by decide) hn)
    refine go_iload d_Mo_advance_426 rfl ?_
    refine go_bipush (v := 11) d_Mo_advance_428 rfl ?_
    refine go_icmp_ne 441 d_Mo_advance_430 rfl (fun _ => ?_) (fun hn => by first | exact absurd hn (by decide) | exact absurd (by decide) hn)
    refine go_iload d_Mo_advance_441 rfl ?_
    refine go_bipush (v := 12) d_Mo_advance_443 rfl ?_
    refine go_icmp_ne 455 d_Mo_advance_445 rfl (fun _ => ?_) (fun hn => by first | exact absurd hn (by decide) | exact absurd (by decide) hn)
    refine go_aload_n 0 d_Mo_advance_455 rfl rfl ?_
    refine go_iload_n 2 d_Mo_advance_456 rfl rfl ?_
    refine go_iload d_Mo_advance_457 rfl ?_
    refine go_iload d_Mo_advance_459 rfl ?_
    refine go_V3 d_Mo_advance_461 k_Mo_179 (by assumption) (Nat.le_of_ble_eq_true rfl) (c_Mo_simple (d := d + 1) (k := 7) (nn := nn) (p := nn) hp0 (by omega) (by decide) hT (fun hh => absurd hh (by decide)) (fun hh => absurd hh (by decide)) (by rw [gw_up_eq]; exact hrow'.place) (fun L2 c1 c2 c3 => ?_))
    refine go_iconst (v := 0) d_Mo_advance_464 rfl ?_
    exact go_iret d_Mo_advance_465 rfl (hGo nn _ _ _ _ I L2 hgo (pa_do_ind 7 nn (p + 1) nn st lo c1) hbd.1 hl rfl h17 ⟨fun j _ _ => rfl, fun _ _ => rfl, fun i hi => by rw [c2 i (by omega), up2_ne (Or.inr (by omega))]; exact frr i hi, fun q a b c => by rw [c3 q a, gw_up_ne a]; exact frq q a⟩)
  obtain ⟨a1, a2, a3, a4, a5, a6, a7, a8, a9, a10⟩ := hrow
  refine go_aload_n 0 d_Mo_advance_327 rfl rfl ?_
  refine go_getR d_Mo_advance_328 f_Mo_56 (by assumption) (by assumption) ?_
  refine go_iload_n 3 d_Mo_advance_331 rfl rfl ?_
  refine go_iconst (v := 1) d_Mo_advance_332 rfl ?_
  refine go_iadd d_Mo_advance_333 ?_
  refine go_dup2 d_Mo_advance_334 rfl rfl ?_
  refine go_lald (104 * r + 1) d_Mo_advance_335 (by assumption) (nI_add _ 1) (by omega) (by decide) ?_
  refine go_lconst (v := 1) d_Mo_advance_336 rfl ?_
  refine go_ladd d_Mo_advance_337 ?_
  rw [a2, lN_1]
  refine go_last (104 * r + 1) d_Mo_advance_338 (by assumption) (nI_add _ 1) (by omega) (by decide) ?_
  refine go_aload_n 0 d_Mo_advance_339 rfl rfl ?_
  refine go_getR d_Mo_advance_340 f_Mo_56 (by assumption) (by assumption) ?_
  refine go_iload_n 3 d_Mo_advance_343 rfl rfl ?_
  refine go_bipush (v := 99) d_Mo_advance_344 rfl ?_
  refine go_iadd d_Mo_advance_346 ?_
  refine go_dup2 d_Mo_advance_347 rfl rfl ?_
  refine go_lald (104 * r + 99) d_Mo_advance_348 (by assumption) (nI_add _ 99) (by omega) (by decide) ?_
  refine go_lconst (v := 1) d_Mo_advance_349 rfl ?_
  refine go_lsub d_Mo_advance_350 ?_
  rw [up2_ne (Or.inr (by omega)), a9.2]
  refine go_last (104 * r + 99) d_Mo_advance_351 (by assumption) (nI_add _ 99) (by omega) (by decide) ?_
  refine go_aload_n 0 d_Mo_advance_352 rfl rfl ?_
  refine go_getR d_Mo_advance_353 f_Mo_56 (by assumption) (by assumption) ?_
  refine go_iload_n 3 d_Mo_advance_356 rfl rfl ?_
  refine go_iload d_Mo_advance_357 rfl ?_
  refine go_iconst (v := 1) d_Mo_advance_359 rfl ?_
  refine go_iadd d_Mo_advance_360 ?_
  refine go_i2l d_Mo_advance_361 (rfl) ?_
  refine go_last (104 * r) d_Mo_advance_362 (by assumption) (rfl) (by omega) (by decide) ?_
  exact rest _ ⟨by simp (disch := omega) only [up2_eq, up2_ne], by simp (disch := omega) only [up2_eq, up2_ne], by simp (disch := omega) only [up2_eq, up2_ne]; exact a3, a4, a5.cpy (fun x x' ⟨j, h1, h2, h3, h4⟩ => by rw [h3, h4]; simp (disch := omega) only [up2_eq, up2_ne]), fun j hj => (by simp (disch := omega) only [up2_eq, up2_ne]; exact a6 j hj), a7, a8.cpy (fun j hj => by simp (disch := omega) only [up2_eq, up2_ne]), ⟨fun a b ha hb => (by simp (disch := omega) only [up2_eq, up2_ne]; exact a9.1 a b ha hb), by simp (disch := omega) only [up2_eq, up2_ne]⟩, a10.cpy (fun j hj => by simp (disch := omega) only [up2_eq, up2_ne]) (by simp (disch := omega) only [up2_eq, up2_ne])⟩ (fun i hi => by simp (disch := omega) only [up2_eq, up2_ne]) (fun q hq => by rw [gw_up_ne hq, gw_up_ne hq, gw_up_ne hq])
theorem c_Mo_adC_8 {m r md e f : Nat} {p nn : Int32} {st : List ab_Sy} {lo : Nat → ab_Sy} {s : sp_E × sp_E} {b0 b1 : ab_Ba} {o5 o10 o11 o12 : Option Value} (hp : pt_Mo sh R) (hmc : mc_at I U) (hm : m < 4) (hU : u_ok U) (hr : r + 1 < 42) (hmd : md < 40) (hrow : rw_at (L 549) (104 * r) p md st lo s.1 b0 b1) (hok : kn_ok s) (hb0 : pa_bd (pa_B md st.length) st lo) (hlen : st.length ≤ md) (hnn : -1000 ≤ nn.toInt ∧ nn.toInt ≤ 1000) (he : e ≤ 50) (h17 : I 533 17 = nI e) (ncr : ¬ rn_cr (fun j => (U j).1.length) 8 nn m st.length)
    (hEnd : ∀ (v : Int32) (e' : Nat) (I' : Nat → Nat → Int32) (L' : Nat → Nat → Int64), ce_do (ce_go U m f) U 8 nn (p + 1) (md + 1) st lo s (b0.1, b0.2 - 1) b1 e = (v, e') → I' 533 17 = nI e' → (v = 0 → I' 533 16 = nI r) → ad_fr r I I' L L' → Q (some (.int v)) (n, sh, X, R, I', L'))
    (hGo : ∀ (p' : Int32) (st' : List ab_Sy) (lo' : Nat → ab_Sy) (c0 c1 : ab_Ba) (I' : Nat → Nat → Int32) (L' : Nat → Nat → Int64), ce_do (ce_go U m f) U 8 nn (p + 1) (md + 1) st lo s (b0.1, b0.2 - 1) b1 e = ce_go U m f (p', md + 1, st', lo', s, c0, c1) e → rw_at (L' 549) (104 * r) p' (md + 1) st' lo' s.1 c0 c1 → pa_bd (pa_B (md + 1) st'.length) st' lo' → st'.length ≤ md + 1 → I' 533 16 = I 533 16 → I' 533 17 = nI e → ad_fr r I I' L L' → Q (some (.int 0)) (n, sh, X, R, I', L'))
    (hBr : ∀ (near jump : Option (sp_E × sp_E)) (st' : List ab_Sy) (w : Nat) (I' : Nat → Nat → Int32) (L' : Nat → Nat → Int64), ce_do (ce_go U m f) U 8 nn (p + 1) (md + 1) st lo s (b0.1, b0.2 - 1) b1 e = ce_br (ce_go U m f) near jump (p + 1) nn (md + 1) st' lo (b0.1, b0.2 - 1) b1 e → mp_post (L' 549) r w jump near (p + 1) nn (md + 1) st' lo (b0.1, b0.2 - 1) b1 → (∀ t, near = some t ∨ jump = some t → kn_ok t) → pa_bd (pa_B (md + 1) st'.length) st' lo → st'.length ≤ md + 1 → I' 533 16 = nI w → I' 533 17 = nI e → ad_fr r I I' L L' → Q (some (.int 0)) (n, sh, X, R, I', L')) : gw_Go y_Mo_advance (d + 4) 0 0 327 [some (.ref 533), some (.int (nI m)), some (.int (nI r)), some (.int (nI (104 * r))), some (.int p), o5, some (.int (nI 8)), some (.int nn), some (.long (lN st.length)), none, o10, o11, o12] [] (n, sh, X, R, I, L) Q := by
  have hp0 := hp
  obtain ⟨s533, s534, s535, s536, s537, s538, s539, s540, s541, s542, s543, s544, s545, s546, s547, s548, s549, s550, s551, s552, s553, s554, s555, s556, s557, r534, r535, r536, r537, r538, r539, r540, r541, r542, r543, r544, r545, r546, r547, r548, r549, r550, r551, r552, r553, r554, r555, r556, r557⟩ := hp
  have hBM : pa_B md st.length ≤ 45000000000 := pa_B_m (by omega)
  have two : 2 ≤ st.length → ∃ y x s, st = y :: x :: s := fun h => by cases st with | nil => exact absurd h (by decide) | cons y s => cases s with | nil => exact absurd h (by simp) | cons x s => exact ⟨y, x, s, rfl⟩
  have hT : 2 ≤ st.length := Classical.byContradiction (fun hh => ncr (Or.inl (Nat.lt_of_not_le hh)))
  obtain ⟨y, x, s1, rfl⟩ := two hT
  have hs5 := hrow.2.2.2.2.1
  have hs5y : ∀ q, y = some q → q.1 < 5 := fun q e => by have := hs5.1; rw [e] at this; exact this.2.1
  have hs5x : ∀ q, x = some q → q.1 < 5 := fun q e => by have := hs5.2.1; rw [e] at this; exact this.2.1
  have rest : ∀ L1 : Nat → Nat → Int64, rw_at (L1 549) (104 * r) (p + 1) (md + 1) (y :: x :: s1) lo s.1 (b0.1, b0.2 - 1) b1 → (∀ i, i < 104 * r → L1 549 i = L 549 i) → (∀ q, q ≠ 549 → L1 q = L q) → gw_Go y_Mo_advance (d + 4) 0 0 363 [some (.ref 533), some (.int (nI m)), some (.int (nI r)), some (.int (nI (104 * r))), some (.int p), o5, some (.int (nI 8)), some (.int nn), some (.long (lN (y :: x :: s1).length)), none, o10, o11, o12] [] (n, sh, X, R, I, L1) Q := by
    intro L1 hrow' frr frq
    refine go_iload d_Mo_advance_363 rfl ?_
    refine go_bipush (v := 8) d_Mo_advance_365 rfl ?_
    refine go_icmp_eq 377 d_Mo_advance_367 rfl (fun _ => ?_) (fun hn => absurd (by decide) hn)
    refine go_aload_n 0 d_Mo_advance_377 rfl rfl ?_
    refine go_iload_n 2 d_Mo_advance_378 rfl rfl ?_
    refine go_iload d_Mo_advance_379 rfl ?_
    refine go_bipush (v := 8) d_Mo_advance_381 rfl ?_
    refine go_icmp_ne 390 d_Mo_advance_383 rfl (fun hn => absurd hn (by decide)) (fun _ => ?_)
    refine go_iconst (v := 1) d_Mo_advance_386 rfl ?_
    refine go_goto 391 d_Mo_advance_387 rfl ?_
    refine go_iload d_Mo_advance_391 rfl ?_
    refine go_V3 d_Mo_advance_393 k_Mo_168 (by assumption) (Nat.le_of_ble_eq_true rfl) (c_Mo_part (d := d) true hp0 (by omega) hrow' hok ((hb0.tail.head).mono hBM) (hb0.head.mono hBM) (fun I1 L2 w c1 c2 c3 c4 c5 c6 => ?_))
    exact go_iret d_Mo_advance_396 rfl (hBr (pa_lrn (pa_edge (!true) x y) s) (pa_lrn (pa_edge true x y) s) s1 w I1 L2 rfl c1 (lrn_oks hok ((hb0.tail.head).mono hBM) (hb0.head.mono hBM) hs5x hs5y) (hb0.tail.tail.mono (show pa_B md (s1.length + 2) ≤ pa_B (md + 1) s1.length by have := pa_B_s (md := md) (len := s1.length + 2) (len' := s1.length) (by omega); omega)) (by have : s1.length + 2 ≤ md := hlen; omega) c2 (by rw [c3 _ (by decide)]; exact h17) ⟨fun j a b => c3 j a, c4, fun i hi => by rw [c5 i hi]; exact frr i hi, fun q a b c => by rw [c6 q a b c]; exact frq q a⟩)
  obtain ⟨a1, a2, a3, a4, a5, a6, a7, a8, a9, a10⟩ := hrow
  refine go_aload_n 0 d_Mo_advance_327 rfl rfl ?_
  refine go_getR d_Mo_advance_328 f_Mo_56 (by assumption) (by assumption) ?_
  refine go_iload_n 3 d_Mo_advance_331 rfl rfl ?_
  refine go_iconst (v := 1) d_Mo_advance_332 rfl ?_
  refine go_iadd d_Mo_advance_333 ?_
  refine go_dup2 d_Mo_advance_334 rfl rfl ?_
  refine go_lald (104 * r + 1) d_Mo_advance_335 (by assumption) (nI_add _ 1) (by omega) (by decide) ?_
  refine go_lconst (v := 1) d_Mo_advance_336 rfl ?_
  refine go_ladd d_Mo_advance_337 ?_
  rw [a2, lN_1]
  refine go_last (104 * r + 1) d_Mo_advance_338 (by assumption) (nI_add _ 1) (by omega) (by decide) ?_
  refine go_aload_n 0 d_Mo_advance_339 rfl rfl ?_
  refine go_getR d_Mo_advance_340 f_Mo_56 (by assumption) (by assumption) ?_
  refine go_iload_n 3 d_Mo_advance_343 rfl rfl ?_
  refine go_bipush (v := 99) d_Mo_advance_344 rfl ?_
  refine go_iadd d_Mo_advance_346 ?_
  refine go_dup2 d_Mo_advance_347 rfl rfl ?_
  refine go_lald (104 * r + 99) d_Mo_advance_348 (by assumption) (nI_add _ 99) (by omega) (by decide) ?_
  refine go_lconst (v := 1) d_Mo_advance_349 rfl ?_
  refine go_lsub d_Mo_advance_350 ?_
  rw [up2_ne (Or.inr (by omega)), a9.2]
  refine go_last (104 * r + 99) d_Mo_advance_351 (by assumption) (nI_add _ 99) (by omega) (by decide) ?_
  refine go_aload_n 0 d_Mo_advance_352 rfl rfl ?_
  refine go_getR d_Mo_advance_353 f_Mo_56 (by assumption) (by assumption) ?_
  refine go_iload_n 3 d_Mo_advance_356 rfl rfl ?_
  refine go_iload d_Mo_advance_357 rfl ?_
  refine go_iconst (v := 1) d_Mo_advance_359 rfl ?_
  refine go_iadd d_Mo_advance_360 ?_
  refine go_i2l d_Mo_advance_361 (rfl) ?_
  refine go_last (104 * r) d_Mo_advance_362 (by assumption) (rfl) (by omega) (by decide) ?_
  exact rest _ ⟨by simp (disch := omega) only [up2_eq, up2_ne], by simp (disch := omega) only [up2_eq, up2_ne], by simp (disch := omega) only [up2_eq, up2_ne]; exact a3, a4, a5.cpy (fun x x' ⟨j, h1, h2, h3, h4⟩ => by rw [h3, h4]; simp (disch := omega) only [up2_eq, up2_ne]), fun j hj => (by simp (disch := omega) only [up2_eq, up2_ne]; exact a6 j hj), a7, a8.cpy (fun j hj => by simp (disch := omega) only [up2_eq, up2_ne]), ⟨fun a b ha hb => (by simp (disch := omega) only [up2_eq, up2_ne]; exact a9.1 a b ha hb), by simp (disch := omega) only [up2_eq, up2_ne]⟩, a10.cpy (fun j hj => by simp (disch := omega) only [up2_eq, up2_ne]) (by simp (disch := omega) only [up2_eq, up2_ne])⟩ (fun i hi => by simp (disch := omega) only [up2_eq, up2_ne]) (fun q hq => by rw [gw_up_ne hq, gw_up_ne hq, gw_up_ne hq])
theorem c_Mo_adC_9 {m r md e f : Nat} {p nn : Int32} {st : List ab_Sy} {lo : Nat → ab_Sy} {s : sp_E × sp_E} {b0 b1 : ab_Ba} {o5 o10 o11 o12 : Option Value} (hp : pt_Mo sh R) (hmc : mc_at I U) (hm : m < 4) (hU : u_ok U) (hr : r + 1 < 42) (hmd : md < 40) (hrow : rw_at (L 549) (104 * r) p md st lo s.1 b0 b1) (hok : kn_ok s) (hb0 : pa_bd (pa_B md st.length) st lo) (hlen : st.length ≤ md) (hnn : -1000 ≤ nn.toInt ∧ nn.toInt ≤ 1000) (he : e ≤ 50) (h17 : I 533 17 = nI e) (ncr : ¬ rn_cr (fun j => (U j).1.length) 9 nn m st.length)
    (hEnd : ∀ (v : Int32) (e' : Nat) (I' : Nat → Nat → Int32) (L' : Nat → Nat → Int64), ce_do (ce_go U m f) U 9 nn (p + 1) (md + 1) st lo s (b0.1, b0.2 - 1) b1 e = (v, e') → I' 533 17 = nI e' → (v = 0 → I' 533 16 = nI r) → ad_fr r I I' L L' → Q (some (.int v)) (n, sh, X, R, I', L'))
    (hGo : ∀ (p' : Int32) (st' : List ab_Sy) (lo' : Nat → ab_Sy) (c0 c1 : ab_Ba) (I' : Nat → Nat → Int32) (L' : Nat → Nat → Int64), ce_do (ce_go U m f) U 9 nn (p + 1) (md + 1) st lo s (b0.1, b0.2 - 1) b1 e = ce_go U m f (p', md + 1, st', lo', s, c0, c1) e → rw_at (L' 549) (104 * r) p' (md + 1) st' lo' s.1 c0 c1 → pa_bd (pa_B (md + 1) st'.length) st' lo' → st'.length ≤ md + 1 → I' 533 16 = I 533 16 → I' 533 17 = nI e → ad_fr r I I' L L' → Q (some (.int 0)) (n, sh, X, R, I', L'))
    (hBr : ∀ (near jump : Option (sp_E × sp_E)) (st' : List ab_Sy) (w : Nat) (I' : Nat → Nat → Int32) (L' : Nat → Nat → Int64), ce_do (ce_go U m f) U 9 nn (p + 1) (md + 1) st lo s (b0.1, b0.2 - 1) b1 e = ce_br (ce_go U m f) near jump (p + 1) nn (md + 1) st' lo (b0.1, b0.2 - 1) b1 e → mp_post (L' 549) r w jump near (p + 1) nn (md + 1) st' lo (b0.1, b0.2 - 1) b1 → (∀ t, near = some t ∨ jump = some t → kn_ok t) → pa_bd (pa_B (md + 1) st'.length) st' lo → st'.length ≤ md + 1 → I' 533 16 = nI w → I' 533 17 = nI e → ad_fr r I I' L L' → Q (some (.int 0)) (n, sh, X, R, I', L')) : gw_Go y_Mo_advance (d + 4) 0 0 327 [some (.ref 533), some (.int (nI m)), some (.int (nI r)), some (.int (nI (104 * r))), some (.int p), o5, some (.int (nI 9)), some (.int nn), some (.long (lN st.length)), none, o10, o11, o12] [] (n, sh, X, R, I, L) Q := by
  have hp0 := hp
  obtain ⟨s533, s534, s535, s536, s537, s538, s539, s540, s541, s542, s543, s544, s545, s546, s547, s548, s549, s550, s551, s552, s553, s554, s555, s556, s557, r534, r535, r536, r537, r538, r539, r540, r541, r542, r543, r544, r545, r546, r547, r548, r549, r550, r551, r552, r553, r554, r555, r556, r557⟩ := hp
  have hBM : pa_B md st.length ≤ 45000000000 := pa_B_m (by omega)
  have two : 2 ≤ st.length → ∃ y x s, st = y :: x :: s := fun h => by cases st with | nil => exact absurd h (by decide) | cons y s => cases s with | nil => exact absurd h (by simp) | cons x s => exact ⟨y, x, s, rfl⟩
  have hT : 2 ≤ st.length := Classical.byContradiction (fun hh => ncr (Or.inl (Nat.lt_of_not_le hh)))
  obtain ⟨y, x, s1, rfl⟩ := two hT
  have hs5 := hrow.2.2.2.2.1
  have hs5y : ∀ q, y = some q → q.1 < 5 := fun q e => by have := hs5.1; rw [e] at this; exact this.2.1
  have hs5x : ∀ q, x = some q → q.1 < 5 := fun q e => by have := hs5.2.1; rw [e] at this; exact this.2.1
  have rest : ∀ L1 : Nat → Nat → Int64, rw_at (L1 549) (104 * r) (p + 1) (md + 1) (y :: x :: s1) lo s.1 (b0.1, b0.2 - 1) b1 → (∀ i, i < 104 * r → L1 549 i = L 549 i) → (∀ q, q ≠ 549 → L1 q = L q) → gw_Go y_Mo_advance (d + 4) 0 0 363 [some (.ref 533), some (.int (nI m)), some (.int (nI r)), some (.int (nI (104 * r))), some (.int p), o5, some (.int (nI 9)), some (.int nn), some (.long (lN (y :: x :: s1).length)), none, o10, o11, o12] [] (n, sh, X, R, I, L1) Q := by
    intro L1 hrow' frr frq
    refine go_iload d_Mo_advance_363 rfl ?_
    refine go_bipush (v := 8) d_Mo_advance_365 rfl ?_
    refine go_icmp_eq 377 d_Mo_advance_367 rfl (fun hn => absurd hn (by decide)) (fun _ => ?_)
    refine go_iload d_Mo_advance_370 rfl ?_
    refine go_bipush (v := 9) d_Mo_advance_372 rfl ?_
    refine go_icmp_ne 397 d_Mo_advance_374 rfl (fun hn => absurd hn (by decide)) (fun _ => ?_)
    refine go_aload_n 0 d_Mo_advance_377 rfl rfl ?_
    refine go_iload_n 2 d_Mo_advance_378 rfl rfl ?_
    refine go_iload d_Mo_advance_379 rfl ?_
    refine go_bipush (v := 8) d_Mo_advance_381 rfl ?_
    refine go_icmp_ne 390 d_Mo_advance_383 rfl (fun _ => ?_) (fun hn => by first | exact absurd hn (by decide) | exact absurd (by decide) hn)
    refine go_iconst (v := 0) d_Mo_advance_390 rfl ?_
    refine go_iload d_Mo_advance_391 rfl ?_
    refine go_V3 d_Mo_advance_393 k_Mo_168 (by assumption) (Nat.le_of_ble_eq_true rfl) (c_Mo_part (d := d) false hp0 (by omega) hrow' hok ((hb0.tail.head).mono hBM) (hb0.head.mono hBM) (fun I1 L2 w c1 c2 c3 c4 c5 c6 => ?_))
    exact go_iret d_Mo_advance_396 rfl (hBr (pa_lrn (pa_edge (!false) x y) s) (pa_lrn (pa_edge false x y) s) s1 w I1 L2 rfl c1 (lrn_oks hok ((hb0.tail.head).mono hBM) (hb0.head.mono hBM) hs5x hs5y) (hb0.tail.tail.mono (show pa_B md (s1.length + 2) ≤ pa_B (md + 1) s1.length by have := pa_B_s (md := md) (len := s1.length + 2) (len' := s1.length) (by omega); omega)) (by have : s1.length + 2 ≤ md := hlen; omega) c2 (by rw [c3 _ (by decide)]; exact h17) ⟨fun j a b => c3 j a, c4, fun i hi => by rw [c5 i hi]; exact frr i hi, fun q a b c => by rw [c6 q a b c]; exact frq q a⟩)
  obtain ⟨a1, a2, a3, a4, a5, a6, a7, a8, a9, a10⟩ := hrow
  refine go_aload_n 0 d_Mo_advance_327 rfl rfl ?_
  refine go_getR d_Mo_advance_328 f_Mo_56 (by assumption) (by assumption) ?_
  refine go_iload_n 3 d_Mo_advance_331 rfl rfl ?_
  refine go_iconst (v := 1) d_Mo_advance_332 rfl ?_
  refine go_iadd d_Mo_advance_333 ?_
  refine go_dup2 d_Mo_advance_334 rfl rfl ?_
  refine go_lald (104 * r + 1) d_Mo_advance_335 (by assumption) (nI_add _ 1) (by omega) (by decide) ?_
  refine go_lconst (v := 1) d_Mo_advance_336 rfl ?_
  refine go_ladd d_Mo_advance_337 ?_
  rw [a2, lN_1]
  refine go_last (104 * r + 1) d_Mo_advance_338 (by assumption) (nI_add _ 1) (by omega) (by decide) ?_
  refine go_aload_n 0 d_Mo_advance_339 rfl rfl ?_
  refine go_getR d_Mo_advance_340 f_Mo_56 (by assumption) (by assumption) ?_
  refine go_iload_n 3 d_Mo_advance_343 rfl rfl ?_
  refine go_bipush (v := 99) d_Mo_advance_344 rfl ?_
  refine go_iadd d_Mo_advance_346 ?_
  refine go_dup2 d_Mo_advance_347 rfl rfl ?_
  refine go_lald (104 * r + 99) d_Mo_advance_348 (by assumption) (nI_add _ 99) (by omega) (by decide) ?_
  refine go_lconst (v := 1) d_Mo_advance_349 rfl ?_
  refine go_lsub d_Mo_advance_350 ?_
  rw [up2_ne (Or.inr (by omega)), a9.2]
  refine go_last (104 * r + 99) d_Mo_advance_351 (by assumption) (nI_add _ 99) (by omega) (by decide) ?_
  refine go_aload_n 0 d_Mo_advance_352 rfl rfl ?_
  refine go_getR d_Mo_advance_353 f_Mo_56 (by assumption) (by assumption) ?_
  refine go_iload_n 3 d_Mo_advance_356 rfl rfl ?_
  refine go_iload d_Mo_advance_357 rfl ?_
  refine go_iconst (v := 1) d_Mo_advance_359 rfl ?_
  refine go_iadd d_Mo_advance_360 ?_
  refine go_i2l d_Mo_advance_361 (rfl) ?_
  refine go_last (104 * r) d_Mo_advance_362 (by assumption) (rfl) (by omega) (by decide) ?_
  exact rest _ ⟨by simp (disch := omega) only [up2_eq, up2_ne], by simp (disch := omega) only [up2_eq, up2_ne], by simp (disch := omega) only [up2_eq, up2_ne]; exact a3, a4, a5.cpy (fun x x' ⟨j, h1, h2, h3, h4⟩ => by rw [h3, h4]; simp (disch := omega) only [up2_eq, up2_ne]), fun j hj => (by simp (disch := omega) only [up2_eq, up2_ne]; exact a6 j hj), a7, a8.cpy (fun j hj => by simp (disch := omega) only [up2_eq, up2_ne]), ⟨fun a b ha hb => (by simp (disch := omega) only [up2_eq, up2_ne]; exact a9.1 a b ha hb), by simp (disch := omega) only [up2_eq, up2_ne]⟩, a10.cpy (fun j hj => by simp (disch := omega) only [up2_eq, up2_ne]) (by simp (disch := omega) only [up2_eq, up2_ne])⟩ (fun i hi => by simp (disch := omega) only [up2_eq, up2_ne]) (fun q hq => by rw [gw_up_ne hq, gw_up_ne hq, gw_up_ne hq])
theorem c_Mo_adC_10 {m r md e f : Nat} {p nn : Int32} {st : List ab_Sy} {lo : Nat → ab_Sy} {s : sp_E × sp_E} {b0 b1 : ab_Ba} {o5 o10 o11 o12 : Option Value} (hp : pt_Mo sh R) (hmc : mc_at I U) (hm : m < 4) (hU : u_ok U) (hr : r + 1 < 42) (hmd : md < 40) (hrow : rw_at (L 549) (104 * r) p md st lo s.1 b0 b1) (hok : kn_ok s) (hb0 : pa_bd (pa_B md st.length) st lo) (hlen : st.length ≤ md) (hnn : -1000 ≤ nn.toInt ∧ nn.toInt ≤ 1000) (he : e ≤ 50) (h17 : I 533 17 = nI e) (ncr : ¬ rn_cr (fun j => (U j).1.length) 10 nn m st.length)
    (hEnd : ∀ (v : Int32) (e' : Nat) (I' : Nat → Nat → Int32) (L' : Nat → Nat → Int64), ce_do (ce_go U m f) U 10 nn (p + 1) (md + 1) st lo s (b0.1, b0.2 - 1) b1 e = (v, e') → I' 533 17 = nI e' → (v = 0 → I' 533 16 = nI r) → ad_fr r I I' L L' → Q (some (.int v)) (n, sh, X, R, I', L'))
    (hGo : ∀ (p' : Int32) (st' : List ab_Sy) (lo' : Nat → ab_Sy) (c0 c1 : ab_Ba) (I' : Nat → Nat → Int32) (L' : Nat → Nat → Int64), ce_do (ce_go U m f) U 10 nn (p + 1) (md + 1) st lo s (b0.1, b0.2 - 1) b1 e = ce_go U m f (p', md + 1, st', lo', s, c0, c1) e → rw_at (L' 549) (104 * r) p' (md + 1) st' lo' s.1 c0 c1 → pa_bd (pa_B (md + 1) st'.length) st' lo' → st'.length ≤ md + 1 → I' 533 16 = I 533 16 → I' 533 17 = nI e → ad_fr r I I' L L' → Q (some (.int 0)) (n, sh, X, R, I', L'))
    (hBr : ∀ (near jump : Option (sp_E × sp_E)) (st' : List ab_Sy) (w : Nat) (I' : Nat → Nat → Int32) (L' : Nat → Nat → Int64), ce_do (ce_go U m f) U 10 nn (p + 1) (md + 1) st lo s (b0.1, b0.2 - 1) b1 e = ce_br (ce_go U m f) near jump (p + 1) nn (md + 1) st' lo (b0.1, b0.2 - 1) b1 e → mp_post (L' 549) r w jump near (p + 1) nn (md + 1) st' lo (b0.1, b0.2 - 1) b1 → (∀ t, near = some t ∨ jump = some t → kn_ok t) → pa_bd (pa_B (md + 1) st'.length) st' lo → st'.length ≤ md + 1 → I' 533 16 = nI w → I' 533 17 = nI e → ad_fr r I I' L L' → Q (some (.int 0)) (n, sh, X, R, I', L')) : gw_Go y_Mo_advance (d + 4) 0 0 327 [some (.ref 533), some (.int (nI m)), some (.int (nI r)), some (.int (nI (104 * r))), some (.int p), o5, some (.int (nI 10)), some (.int nn), some (.long (lN st.length)), none, o10, o11, o12] [] (n, sh, X, R, I, L) Q := by
  have hp0 := hp
  obtain ⟨s533, s534, s535, s536, s537, s538, s539, s540, s541, s542, s543, s544, s545, s546, s547, s548, s549, s550, s551, s552, s553, s554, s555, s556, s557, r534, r535, r536, r537, r538, r539, r540, r541, r542, r543, r544, r545, r546, r547, r548, r549, r550, r551, r552, r553, r554, r555, r556, r557⟩ := hp
  have hBM : pa_B md st.length ≤ 45000000000 := pa_B_m (by omega)
  have one : 1 ≤ st.length → ∃ v s, st = v :: s := fun h => by cases st with | nil => exact absurd h (by decide) | cons v s => exact ⟨v, s, rfl⟩
  have hT : 1 ≤ st.length := Classical.byContradiction (fun hh => ncr (Or.inl (Nat.lt_of_not_le hh)))
  obtain ⟨v, s1, rfl⟩ := one hT
  have rest : ∀ L1 : Nat → Nat → Int64, rw_at (L1 549) (104 * r) (p + 1) (md + 1) (v :: s1) lo s.1 (b0.1, b0.2 - 1) b1 → (∀ i, i < 104 * r → L1 549 i = L 549 i) → (∀ q, q ≠ 549 → L1 q = L q) → gw_Go y_Mo_advance (d + 4) 0 0 363 [some (.ref 533), some (.int (nI m)), some (.int (nI r)), some (.int (nI (104 * r))), some (.int p), o5, some (.int (nI 10)), some (.int nn), some (.long (lN (v :: s1).length)), none, o10, o11, o12] [] (n, sh, X, R, I, L1) Q := by
    intro L1 hrow' frr frq
    refine go_iload d_Mo_advance_363 rfl ?_
    refine go_bipush (v := 8) d_Mo_advance_365 rfl ?_
    refine go_icmp_eq 377 d_Mo_advance_367 rfl (fun hn => absurd hn (by decide)) (fun _ => ?_)
    refine go_iload d_Mo_advance_370 rfl ?_
    refine go_bipush (v := 9) d_Mo_advance_372 rfl ?_
    refine go_icmp_ne 397 d_Mo_advance_374 rfl (fun _ => ?_) (fun hn => by first | exact absurd hn (by decide) | exact absurd (by decide) hn)
    refine go_iload d_Mo_advance_397 rfl ?_
    refine go_bipush (v := 7) d_Mo_advance_399 rfl ?_
    refine go_icmp_ne 413 d_Mo_advance_401 rfl (fun _ => ?_) (fun hn => by first | exact absurd hn (by decide) | exact absurd (by decide) hn)
    refine go_iload d_Mo_advance_413 rfl ?_
    refine go_bipush (v := 10) d_Mo_advance_415 rfl ?_
    refine go_icmp_ne 426 d_Mo_advance_417 rfl (fun hn => absurd hn (by decide)) (fun _ => ?_)
    refine go_aload_n 0 d_Mo_advance_420 rfl rfl ?_
    refine go_iload_n 2 d_Mo_advance_421 rfl rfl ?_
    refine go_V1 d_Mo_advance_422 k_Mo_172 (by assumption) (Nat.le_of_ble_eq_true rfl) (c_Mo_memory (d := d + 1) hp0 (by omega) hrow' hok (hb0.head.mono hBM) (fun hn L2 c2 c3 => ?hno) (fun q hq hw L2 c1 c2 c3 => ?_))
    case hno =>
      have hz : ce_do (ce_go U m f) U 10 nn (p + 1) (md + 1) (v :: s1) lo s (b0.1, b0.2 - 1) b1 e = (5, e) := by
        cases v with
        | none => rfl
        | some q => exact cIf_neg (hn q rfl)
      exact go_iret d_Mo_advance_425 rfl (hEnd 5 e I L2 hz h17 (fun h => absurd h (by decide)) ⟨fun j _ _ => rfl, fun _ _ => rfl, fun i hi => by rw [c2 i hi]; exact frr i hi, fun q a b c => by rw [c3 q a b c]; exact frq q a⟩)
    subst hq
    exact go_iret d_Mo_advance_425 rfl (hGo (p + 1) s1 lo _ _ I L2 (cIf_pos hw) c1 (hb0.tail.mono (show pa_B md (s1.length + 1) ≤ pa_B (md + 1) s1.length by have := pa_B_s (md := md) (len := s1.length + 1) (len' := s1.length) (by omega); omega)) (by have : s1.length + 1 ≤ md := hlen; omega) rfl h17 ⟨fun j _ _ => rfl, fun _ _ => rfl, fun i hi => by rw [c2 i hi]; exact frr i hi, fun q a b c => by rw [c3 q a b c]; exact frq q a⟩)
  obtain ⟨a1, a2, a3, a4, a5, a6, a7, a8, a9, a10⟩ := hrow
  refine go_aload_n 0 d_Mo_advance_327 rfl rfl ?_
  refine go_getR d_Mo_advance_328 f_Mo_56 (by assumption) (by assumption) ?_
  refine go_iload_n 3 d_Mo_advance_331 rfl rfl ?_
  refine go_iconst (v := 1) d_Mo_advance_332 rfl ?_
  refine go_iadd d_Mo_advance_333 ?_
  refine go_dup2 d_Mo_advance_334 rfl rfl ?_
  refine go_lald (104 * r + 1) d_Mo_advance_335 (by assumption) (nI_add _ 1) (by omega) (by decide) ?_
  refine go_lconst (v := 1) d_Mo_advance_336 rfl ?_
  refine go_ladd d_Mo_advance_337 ?_
  rw [a2, lN_1]
  refine go_last (104 * r + 1) d_Mo_advance_338 (by assumption) (nI_add _ 1) (by omega) (by decide) ?_
  refine go_aload_n 0 d_Mo_advance_339 rfl rfl ?_
  refine go_getR d_Mo_advance_340 f_Mo_56 (by assumption) (by assumption) ?_
  refine go_iload_n 3 d_Mo_advance_343 rfl rfl ?_
  refine go_bipush (v := 99) d_Mo_advance_344 rfl ?_
  refine go_iadd d_Mo_advance_346 ?_
  refine go_dup2 d_Mo_advance_347 rfl rfl ?_
  refine go_lald (104 * r + 99) d_Mo_advance_348 (by assumption) (nI_add _ 99) (by omega) (by decide) ?_
  refine go_lconst (v := 1) d_Mo_advance_349 rfl ?_
  refine go_lsub d_Mo_advance_350 ?_
  rw [up2_ne (Or.inr (by omega)), a9.2]
  refine go_last (104 * r + 99) d_Mo_advance_351 (by assumption) (nI_add _ 99) (by omega) (by decide) ?_
  refine go_aload_n 0 d_Mo_advance_352 rfl rfl ?_
  refine go_getR d_Mo_advance_353 f_Mo_56 (by assumption) (by assumption) ?_
  refine go_iload_n 3 d_Mo_advance_356 rfl rfl ?_
  refine go_iload d_Mo_advance_357 rfl ?_
  refine go_iconst (v := 1) d_Mo_advance_359 rfl ?_
  refine go_iadd d_Mo_advance_360 ?_
  refine go_i2l d_Mo_advance_361 (rfl) ?_
  refine go_last (104 * r) d_Mo_advance_362 (by assumption) (rfl) (by omega) (by decide) ?_
  exact rest _ ⟨by simp (disch := omega) only [up2_eq, up2_ne], by simp (disch := omega) only [up2_eq, up2_ne], by simp (disch := omega) only [up2_eq, up2_ne]; exact a3, a4, a5.cpy (fun x x' ⟨j, h1, h2, h3, h4⟩ => by rw [h3, h4]; simp (disch := omega) only [up2_eq, up2_ne]), fun j hj => (by simp (disch := omega) only [up2_eq, up2_ne]; exact a6 j hj), a7, a8.cpy (fun j hj => by simp (disch := omega) only [up2_eq, up2_ne]), ⟨fun a b ha hb => (by simp (disch := omega) only [up2_eq, up2_ne]; exact a9.1 a b ha hb), by simp (disch := omega) only [up2_eq, up2_ne]⟩, a10.cpy (fun j hj => by simp (disch := omega) only [up2_eq, up2_ne]) (by simp (disch := omega) only [up2_eq, up2_ne])⟩ (fun i hi => by simp (disch := omega) only [up2_eq, up2_ne]) (fun q hq => by rw [gw_up_ne hq, gw_up_ne hq, gw_up_ne hq])
theorem c_Mo_adC_11 {m r md e f : Nat} {p nn : Int32} {st : List ab_Sy} {lo : Nat → ab_Sy} {s : sp_E × sp_E} {b0 b1 : ab_Ba} {o5 o10 o11 o12 : Option Value} (hp : pt_Mo sh R) (hmc : mc_at I U) (hm : m < 4) (hU : u_ok U) (hr : r + 1 < 42) (hmd : md < 40) (hrow : rw_at (L 549) (104 * r) p md st lo s.1 b0 b1) (hok : kn_ok s) (hb0 : pa_bd (pa_B md st.length) st lo) (hlen : st.length ≤ md) (hnn : -1000 ≤ nn.toInt ∧ nn.toInt ≤ 1000) (he : e ≤ 50) (h17 : I 533 17 = nI e) (ncr : ¬ rn_cr (fun j => (U j).1.length) 11 nn m st.length)
    (hEnd : ∀ (v : Int32) (e' : Nat) (I' : Nat → Nat → Int32) (L' : Nat → Nat → Int64), ce_do (ce_go U m f) U 11 nn (p + 1) (md + 1) st lo s (b0.1, b0.2 - 1) b1 e = (v, e') → I' 533 17 = nI e' → (v = 0 → I' 533 16 = nI r) → ad_fr r I I' L L' → Q (some (.int v)) (n, sh, X, R, I', L'))
    (hGo : ∀ (p' : Int32) (st' : List ab_Sy) (lo' : Nat → ab_Sy) (c0 c1 : ab_Ba) (I' : Nat → Nat → Int32) (L' : Nat → Nat → Int64), ce_do (ce_go U m f) U 11 nn (p + 1) (md + 1) st lo s (b0.1, b0.2 - 1) b1 e = ce_go U m f (p', md + 1, st', lo', s, c0, c1) e → rw_at (L' 549) (104 * r) p' (md + 1) st' lo' s.1 c0 c1 → pa_bd (pa_B (md + 1) st'.length) st' lo' → st'.length ≤ md + 1 → I' 533 16 = I 533 16 → I' 533 17 = nI e → ad_fr r I I' L L' → Q (some (.int 0)) (n, sh, X, R, I', L'))
    (hBr : ∀ (near jump : Option (sp_E × sp_E)) (st' : List ab_Sy) (w : Nat) (I' : Nat → Nat → Int32) (L' : Nat → Nat → Int64), ce_do (ce_go U m f) U 11 nn (p + 1) (md + 1) st lo s (b0.1, b0.2 - 1) b1 e = ce_br (ce_go U m f) near jump (p + 1) nn (md + 1) st' lo (b0.1, b0.2 - 1) b1 e → mp_post (L' 549) r w jump near (p + 1) nn (md + 1) st' lo (b0.1, b0.2 - 1) b1 → (∀ t, near = some t ∨ jump = some t → kn_ok t) → pa_bd (pa_B (md + 1) st'.length) st' lo → st'.length ≤ md + 1 → I' 533 16 = nI w → I' 533 17 = nI e → ad_fr r I I' L L' → Q (some (.int 0)) (n, sh, X, R, I', L')) : gw_Go y_Mo_advance (d + 4) 0 0 327 [some (.ref 533), some (.int (nI m)), some (.int (nI r)), some (.int (nI (104 * r))), some (.int p), o5, some (.int (nI 11)), some (.int nn), some (.long (lN st.length)), none, o10, o11, o12] [] (n, sh, X, R, I, L) Q := by
  have hp0 := hp
  obtain ⟨s533, s534, s535, s536, s537, s538, s539, s540, s541, s542, s543, s544, s545, s546, s547, s548, s549, s550, s551, s552, s553, s554, s555, s556, s557, r534, r535, r536, r537, r538, r539, r540, r541, r542, r543, r544, r545, r546, r547, r548, r549, r550, r551, r552, r553, r554, r555, r556, r557⟩ := hp
  have hBM : pa_B md st.length ≤ 45000000000 := pa_B_m (by omega)
  have three : 3 ≤ st.length → ∃ z y x s, st = z :: y :: x :: s := fun h => by cases st with | nil => exact absurd h (by decide) | cons z s => cases s with | nil => exact absurd h (by simp) | cons y s => cases s with | nil => exact absurd h (by simp) | cons x s => exact ⟨z, y, x, s, rfl⟩
  have hT : 3 ≤ st.length := Classical.byContradiction (fun hh => ncr (Or.inl (Nat.lt_of_not_le hh)))
  obtain ⟨z, y, x, s1, rfl⟩ := three hT
  obtain ⟨j, hj, rfl, hjl⟩ : ∃ j, j < m ∧ nn = nI j ∧ (fun j => (U j).1.length) j ≠ 0 := Classical.byContradiction (fun hn => ncr (Or.inr (Or.inr (Or.inr ⟨rfl, hn⟩))))
  obtain ⟨A, hcut, hA0, hA1, hu⟩ := hU.call (j := j) (by omega)
  have hfst : cu_first (U j) = A := cu_first_of hcut
  have hcl : (nI j).toNatClampNeg = j := nI_clamp (by omega)
  have rest : ∀ L1 : Nat → Nat → Int64, rw_at (L1 549) (104 * r) (p + 1) (md + 1) (z :: y :: x :: s1) lo s.1 (b0.1, b0.2 - 1) b1 → (∀ i, i < 104 * r → L1 549 i = L 549 i) → (∀ q, q ≠ 549 → L1 q = L q) → gw_Go y_Mo_advance (d + 4) 0 0 363 [some (.ref 533), some (.int (nI m)), some (.int (nI r)), some (.int (nI (104 * r))), some (.int p), o5, some (.int (nI 11)), some (.int (nI j)), some (.long (lN (z :: y :: x :: s1).length)), none, o10, o11, o12] [] (n, sh, X, R, I, L1) Q := by
    intro L1 hrow' frr frq
    refine go_iload d_Mo_advance_363 rfl ?_
    refine go_bipush (v := 8) d_Mo_advance_365 rfl ?_
    refine go_icmp_eq 377 d_Mo_advance_367 rfl (fun hn => absurd hn (by decide)) (fun _ => ?_)
    refine go_iload d_Mo_advance_370 rfl ?_
    refine go_bipush (v := 9) d_Mo_advance_372 rfl ?_
    refine go_icmp_ne 397 d_Mo_advance_374 rfl (fun _ => ?_) (fun hn => by first | exact absurd hn (by decide) | exact absurd (by decide) hn)
    refine go_iload d_Mo_advance_397 rfl ?_
    refine go_bipush (v := 7) d_Mo_advance_399 rfl ?_
    refine go_icmp_ne 413 d_Mo_advance_401 rfl (fun _ => ?_) (fun hn => by first | exact absurd hn (by decide) | exact absurd (by decide) hn)
    refine go_iload d_Mo_advance_413 rfl ?_
    refine go_bipush (v := 10) d_Mo_advance_415 rfl ?_
    refine go_icmp_ne 426 d_Mo_advance_417 rfl (fun _ => ?_) (fun hn => by first | exact absurd hn (by decide) | exact absurd (by decide) hn)
    refine go_iload d_Mo_advance_426 rfl ?_
    refine go_bipush (v := 11) d_Mo_advance_428 rfl ?_
    refine go_icmp_ne 441 d_Mo_advance_430 rfl (fun hn => absurd hn (by decide)) (fun _ => ?_)
    refine go_aload_n 0 d_Mo_advance_433 rfl rfl ?_
    refine go_iload_n 2 d_Mo_advance_434 rfl rfl ?_
    refine go_iload d_Mo_advance_435 rfl ?_
    refine go_V2 d_Mo_advance_437 k_Mo_176 (by assumption) (Nat.le_of_ble_eq_true rfl) (c_Mo_called (d := d + 1) (U := U) hp0 (by omega) (by omega) hmc hcut hu hA0 hA1 hrow' hok ((hb0.tail.tail.head).mono hBM) ((hb0.tail.head).mono hBM) (hb0.head.mono hBM) (fun hn L2 c2 c3 => ?hno) (fun hy L2 c1 c2 c3 => ?_))
    case hno =>
      have hz : ce_do (ce_go U m f) U 11 (nI j) (p + 1) (md + 1) (z :: y :: x :: s1) lo s (b0.1, b0.2 - 1) b1 e = (6, e) := by
        show cIf _ _ _ = _
        rw [hcl, hfst]
        exact cIf_neg hn
      exact go_iret d_Mo_advance_440 rfl (hEnd 6 e I L2 hz h17 (fun h => absurd h (by decide)) ⟨fun j _ _ => rfl, fun _ _ => rfl, fun i hi => by rw [c2 i hi]; exact frr i hi, fun q a b c => by rw [c3 q a b c]; exact frq q a⟩)
    have hz : ce_do (ce_go U m f) U 11 (nI j) (p + 1) (md + 1) (z :: y :: x :: s1) lo s (b0.1, b0.2 - 1) b1 e = ce_go U m f (p + 1, md + 1, none :: s1, lo, s, ba_pot (ca_sy x y z) (-1 : Int32).toInt64 A.2.1 (b0.1, b0.2 - 1), ba_pot (ca_sy x y z) (-1 : Int32).toInt64 A.2.2 b1) e := by
      show cIf _ _ _ = _
      rw [hcl, hfst]
      exact cIf_pos hy
    exact go_iret d_Mo_advance_440 rfl (hGo (p + 1) (none :: s1) lo _ _ I L2 hz c1 ((hb0.tail.tail.tail.mono (show pa_B md (s1.length + 3) ≤ pa_B (md + 1) (s1.length + 1) by have := pa_B_s (md := md) (len := s1.length + 3) (len' := s1.length + 1) (by omega); omega)).cons sb_none) (by have : s1.length + 3 ≤ md := hlen; show s1.length + 1 ≤ md + 1; omega) rfl h17 ⟨fun j _ _ => rfl, fun _ _ => rfl, fun i hi => by rw [c2 i hi]; exact frr i hi, fun q a b c => by rw [c3 q a b c]; exact frq q a⟩)
  obtain ⟨a1, a2, a3, a4, a5, a6, a7, a8, a9, a10⟩ := hrow
  refine go_aload_n 0 d_Mo_advance_327 rfl rfl ?_
  refine go_getR d_Mo_advance_328 f_Mo_56 (by assumption) (by assumption) ?_
  refine go_iload_n 3 d_Mo_advance_331 rfl rfl ?_
  refine go_iconst (v := 1) d_Mo_advance_332 rfl ?_
  refine go_iadd d_Mo_advance_333 ?_
  refine go_dup2 d_Mo_advance_334 rfl rfl ?_
  refine go_lald (104 * r + 1) d_Mo_advance_335 (by assumption) (nI_add _ 1) (by omega) (by decide) ?_
  refine go_lconst (v := 1) d_Mo_advance_336 rfl ?_
  refine go_ladd d_Mo_advance_337 ?_
  rw [a2, lN_1]
  refine go_last (104 * r + 1) d_Mo_advance_338 (by assumption) (nI_add _ 1) (by omega) (by decide) ?_
  refine go_aload_n 0 d_Mo_advance_339 rfl rfl ?_
  refine go_getR d_Mo_advance_340 f_Mo_56 (by assumption) (by assumption) ?_
  refine go_iload_n 3 d_Mo_advance_343 rfl rfl ?_
  refine go_bipush (v := 99) d_Mo_advance_344 rfl ?_
  refine go_iadd d_Mo_advance_346 ?_
  refine go_dup2 d_Mo_advance_347 rfl rfl ?_
  refine go_lald (104 * r + 99) d_Mo_advance_348 (by assumption) (nI_add _ 99) (by omega) (by decide) ?_
  refine go_lconst (v := 1) d_Mo_advance_349 rfl ?_
  refine go_lsub d_Mo_advance_350 ?_
  rw [up2_ne (Or.inr (by omega)), a9.2]
  refine go_last (104 * r + 99) d_Mo_advance_351 (by assumption) (nI_add _ 99) (by omega) (by decide) ?_
  refine go_aload_n 0 d_Mo_advance_352 rfl rfl ?_
  refine go_getR d_Mo_advance_353 f_Mo_56 (by assumption) (by assumption) ?_
  refine go_iload_n 3 d_Mo_advance_356 rfl rfl ?_
  refine go_iload d_Mo_advance_357 rfl ?_
  refine go_iconst (v := 1) d_Mo_advance_359 rfl ?_
  refine go_iadd d_Mo_advance_360 ?_
  refine go_i2l d_Mo_advance_361 (rfl) ?_
  refine go_last (104 * r) d_Mo_advance_362 (by assumption) (rfl) (by omega) (by decide) ?_
  exact rest _ ⟨by simp (disch := omega) only [up2_eq, up2_ne], by simp (disch := omega) only [up2_eq, up2_ne], by simp (disch := omega) only [up2_eq, up2_ne]; exact a3, a4, a5.cpy (fun x x' ⟨j, h1, h2, h3, h4⟩ => by rw [h3, h4]; simp (disch := omega) only [up2_eq, up2_ne]), fun j hj => (by simp (disch := omega) only [up2_eq, up2_ne]; exact a6 j hj), a7, a8.cpy (fun j hj => by simp (disch := omega) only [up2_eq, up2_ne]), ⟨fun a b ha hb => (by simp (disch := omega) only [up2_eq, up2_ne]; exact a9.1 a b ha hb), by simp (disch := omega) only [up2_eq, up2_ne]⟩, a10.cpy (fun j hj => by simp (disch := omega) only [up2_eq, up2_ne]) (by simp (disch := omega) only [up2_eq, up2_ne])⟩ (fun i hi => by simp (disch := omega) only [up2_eq, up2_ne]) (fun q hq => by rw [gw_up_ne hq, gw_up_ne hq, gw_up_ne hq])
theorem c_Mo_adC_12 {m r md e f : Nat} {p nn : Int32} {st : List ab_Sy} {lo : Nat → ab_Sy} {s : sp_E × sp_E} {b0 b1 : ab_Ba} {o5 o10 o11 o12 : Option Value} (hp : pt_Mo sh R) (hmc : mc_at I U) (hm : m < 4) (hU : u_ok U) (hr : r + 1 < 42) (hmd : md < 40) (hrow : rw_at (L 549) (104 * r) p md st lo s.1 b0 b1) (hok : kn_ok s) (hb0 : pa_bd (pa_B md st.length) st lo) (hlen : st.length ≤ md) (hnn : -1000 ≤ nn.toInt ∧ nn.toInt ≤ 1000) (he : e ≤ 50) (h17 : I 533 17 = nI e) (ncr : ¬ rn_cr (fun j => (U j).1.length) 12 nn m st.length)
    (hEnd : ∀ (v : Int32) (e' : Nat) (I' : Nat → Nat → Int32) (L' : Nat → Nat → Int64), ce_do (ce_go U m f) U 12 nn (p + 1) (md + 1) st lo s (b0.1, b0.2 - 1) b1 e = (v, e') → I' 533 17 = nI e' → (v = 0 → I' 533 16 = nI r) → ad_fr r I I' L L' → Q (some (.int v)) (n, sh, X, R, I', L'))
    (hGo : ∀ (p' : Int32) (st' : List ab_Sy) (lo' : Nat → ab_Sy) (c0 c1 : ab_Ba) (I' : Nat → Nat → Int32) (L' : Nat → Nat → Int64), ce_do (ce_go U m f) U 12 nn (p + 1) (md + 1) st lo s (b0.1, b0.2 - 1) b1 e = ce_go U m f (p', md + 1, st', lo', s, c0, c1) e → rw_at (L' 549) (104 * r) p' (md + 1) st' lo' s.1 c0 c1 → pa_bd (pa_B (md + 1) st'.length) st' lo' → st'.length ≤ md + 1 → I' 533 16 = I 533 16 → I' 533 17 = nI e → ad_fr r I I' L L' → Q (some (.int 0)) (n, sh, X, R, I', L'))
    (hBr : ∀ (near jump : Option (sp_E × sp_E)) (st' : List ab_Sy) (w : Nat) (I' : Nat → Nat → Int32) (L' : Nat → Nat → Int64), ce_do (ce_go U m f) U 12 nn (p + 1) (md + 1) st lo s (b0.1, b0.2 - 1) b1 e = ce_br (ce_go U m f) near jump (p + 1) nn (md + 1) st' lo (b0.1, b0.2 - 1) b1 e → mp_post (L' 549) r w jump near (p + 1) nn (md + 1) st' lo (b0.1, b0.2 - 1) b1 → (∀ t, near = some t ∨ jump = some t → kn_ok t) → pa_bd (pa_B (md + 1) st'.length) st' lo → st'.length ≤ md + 1 → I' 533 16 = nI w → I' 533 17 = nI e → ad_fr r I I' L L' → Q (some (.int 0)) (n, sh, X, R, I', L')) : gw_Go y_Mo_advance (d + 4) 0 0 327 [some (.ref 533), some (.int (nI m)), some (.int (nI r)), some (.int (nI (104 * r))), some (.int p), o5, some (.int (nI 12)), some (.int nn), some (.long (lN st.length)), none, o10, o11, o12] [] (n, sh, X, R, I, L) Q := by
  have hp0 := hp
  obtain ⟨s533, s534, s535, s536, s537, s538, s539, s540, s541, s542, s543, s544, s545, s546, s547, s548, s549, s550, s551, s552, s553, s554, s555, s556, s557, r534, r535, r536, r537, r538, r539, r540, r541, r542, r543, r544, r545, r546, r547, r548, r549, r550, r551, r552, r553, r554, r555, r556, r557⟩ := hp
  have hBM : pa_B md st.length ≤ 45000000000 := pa_B_m (by omega)
  have hT : 1 ≤ st.length := Classical.byContradiction (fun hh => ncr (Or.inl (Nat.lt_of_not_le hh)))
  have rest : ∀ L1 : Nat → Nat → Int64, rw_at (L1 549) (104 * r) (p + 1) (md + 1) st lo s.1 (b0.1, b0.2 - 1) b1 → (∀ i, i < 104 * r → L1 549 i = L 549 i) → (∀ q, q ≠ 549 → L1 q = L q) → gw_Go y_Mo_advance (d + 4) 0 0 363 [some (.ref 533), some (.int (nI m)), some (.int (nI r)), some (.int (nI (104 * r))), some (.int p), o5, some (.int (nI 12)), some (.int nn), some (.long (lN st.length)), none, o10, o11, o12] [] (n, sh, X, R, I, L1) Q := by
    intro L1 hrow' frr frq
    have hz : ce_do (ce_go U m f) U 12 nn (p + 1) (md + 1) st lo s (b0.1, b0.2 - 1) b1 e = ((ce_end e st lo s.2 (b0.1, b0.2 - 1) b1 none).1, (ce_end e st lo s.2 (b0.1, b0.2 - 1) b1 none).2) := by cases st <;> rfl
    refine go_iload d_Mo_advance_363 rfl ?_
    refine go_bipush (v := 8) d_Mo_advance_365 rfl ?_
    refine go_icmp_eq 377 d_Mo_advance_367 rfl (fun hn => absurd hn (by decide)) (fun _ => ?_)
    refine go_iload d_Mo_advance_370 rfl ?_
    refine go_bipush (v := 9) d_Mo_advance_372 rfl ?_
    refine go_icmp_ne 397 d_Mo_advance_374 rfl (fun _ => ?_) (fun hn => by first | exact absurd hn (by decide) | exact absurd (by decide) hn)
    refine go_iload d_Mo_advance_397 rfl ?_
    refine go_bipush (v := 7) d_Mo_advance_399 rfl ?_
    refine go_icmp_ne 413 d_Mo_advance_401 rfl (fun _ => ?_) (fun hn => by first | exact absurd hn (by decide) | exact absurd (by decide) hn)
    refine go_iload d_Mo_advance_413 rfl ?_
    refine go_bipush (v := 10) d_Mo_advance_415 rfl ?_
    refine go_icmp_ne 426 d_Mo_advance_417 rfl (fun _ => ?_) (fun hn => by first | exact absurd hn (by decide) | exact absurd (by decide) hn)
    refine go_iload d_Mo_advance_426 rfl ?_
    refine go_bipush (v := 11) d_Mo_advance_428 rfl ?_
    refine go_icmp_ne 441 d_Mo_advance_430 rfl (fun _ => ?_) (fun hn => by first | exact absurd hn (by decide) | exact absurd (by decide) hn)
    refine go_iload d_Mo_advance_441 rfl ?_
    refine go_bipush (v := 12) d_Mo_advance_443 rfl ?_
    refine go_icmp_ne 455 d_Mo_advance_445 rfl (fun hn => absurd hn (by decide)) (fun _ => ?_)
    refine go_aload_n 0 d_Mo_advance_448 rfl rfl ?_
    refine go_iload_n 2 d_Mo_advance_449 rfl rfl ?_
    refine go_iconst (v := (-1)) d_Mo_advance_450 rfl ?_
    refine go_V2 d_Mo_advance_451 k_Mo_159 (by assumption) (Nat.le_of_ble_eq_true rfl) (c_Mo_end0 (d := d + 1) (e := e) hp0 (by omega) hrow' hok he h17 (fun I1 L2 c1 c2 c3 c4 c5 c6 => ?_))
    exact go_iret d_Mo_advance_454 rfl (hEnd _ _ I1 L2 hz c2 (fun _ => c1) ⟨c3, c4, fun i hi => by rw [c5 i hi]; exact frr i hi, fun q a b c => by rw [c6 q a b c]; exact frq q a⟩)
  obtain ⟨a1, a2, a3, a4, a5, a6, a7, a8, a9, a10⟩ := hrow
  refine go_aload_n 0 d_Mo_advance_327 rfl rfl ?_
  refine go_getR d_Mo_advance_328 f_Mo_56 (by assumption) (by assumption) ?_
  refine go_iload_n 3 d_Mo_advance_331 rfl rfl ?_
  refine go_iconst (v := 1) d_Mo_advance_332 rfl ?_
  refine go_iadd d_Mo_advance_333 ?_
  refine go_dup2 d_Mo_advance_334 rfl rfl ?_
  refine go_lald (104 * r + 1) d_Mo_advance_335 (by assumption) (nI_add _ 1) (by omega) (by decide) ?_
  refine go_lconst (v := 1) d_Mo_advance_336 rfl ?_
  refine go_ladd d_Mo_advance_337 ?_
  rw [a2, lN_1]
  refine go_last (104 * r + 1) d_Mo_advance_338 (by assumption) (nI_add _ 1) (by omega) (by decide) ?_
  refine go_aload_n 0 d_Mo_advance_339 rfl rfl ?_
  refine go_getR d_Mo_advance_340 f_Mo_56 (by assumption) (by assumption) ?_
  refine go_iload_n 3 d_Mo_advance_343 rfl rfl ?_
  refine go_bipush (v := 99) d_Mo_advance_344 rfl ?_
  refine go_iadd d_Mo_advance_346 ?_
  refine go_dup2 d_Mo_advance_347 rfl rfl ?_
  refine go_lald (104 * r + 99) d_Mo_advance_348 (by assumption) (nI_add _ 99) (by omega) (by decide) ?_
  refine go_lconst (v := 1) d_Mo_advance_349 rfl ?_
  refine go_lsub d_Mo_advance_350 ?_
  rw [up2_ne (Or.inr (by omega)), a9.2]
  refine go_last (104 * r + 99) d_Mo_advance_351 (by assumption) (nI_add _ 99) (by omega) (by decide) ?_
  refine go_aload_n 0 d_Mo_advance_352 rfl rfl ?_
  refine go_getR d_Mo_advance_353 f_Mo_56 (by assumption) (by assumption) ?_
  refine go_iload_n 3 d_Mo_advance_356 rfl rfl ?_
  refine go_iload d_Mo_advance_357 rfl ?_
  refine go_iconst (v := 1) d_Mo_advance_359 rfl ?_
  refine go_iadd d_Mo_advance_360 ?_
  refine go_i2l d_Mo_advance_361 (rfl) ?_
  refine go_last (104 * r) d_Mo_advance_362 (by assumption) (rfl) (by omega) (by decide) ?_
  exact rest _ ⟨by simp (disch := omega) only [up2_eq, up2_ne], by simp (disch := omega) only [up2_eq, up2_ne], by simp (disch := omega) only [up2_eq, up2_ne]; exact a3, a4, a5.cpy (fun x x' ⟨j, h1, h2, h3, h4⟩ => by rw [h3, h4]; simp (disch := omega) only [up2_eq, up2_ne]), fun j hj => (by simp (disch := omega) only [up2_eq, up2_ne]; exact a6 j hj), a7, a8.cpy (fun j hj => by simp (disch := omega) only [up2_eq, up2_ne]), ⟨fun a b ha hb => (by simp (disch := omega) only [up2_eq, up2_ne]; exact a9.1 a b ha hb), by simp (disch := omega) only [up2_eq, up2_ne]⟩, a10.cpy (fun j hj => by simp (disch := omega) only [up2_eq, up2_ne]) (by simp (disch := omega) only [up2_eq, up2_ne])⟩ (fun i hi => by simp (disch := omega) only [up2_eq, up2_ne]) (fun q hq => by rw [gw_up_ne hq, gw_up_ne hq, gw_up_ne hq])
theorem c_Mo_adC_13 {m r md e f : Nat} {p nn : Int32} {st : List ab_Sy} {lo : Nat → ab_Sy} {s : sp_E × sp_E} {b0 b1 : ab_Ba} {o5 o10 o11 o12 : Option Value} (hp : pt_Mo sh R) (hmc : mc_at I U) (hm : m < 4) (hU : u_ok U) (hr : r + 1 < 42) (hmd : md < 40) (hrow : rw_at (L 549) (104 * r) p md st lo s.1 b0 b1) (hok : kn_ok s) (hb0 : pa_bd (pa_B md st.length) st lo) (hlen : st.length ≤ md) (hnn : -1000 ≤ nn.toInt ∧ nn.toInt ≤ 1000) (he : e ≤ 50) (h17 : I 533 17 = nI e) (ncr : ¬ rn_cr (fun j => (U j).1.length) 13 nn m st.length)
    (hEnd : ∀ (v : Int32) (e' : Nat) (I' : Nat → Nat → Int32) (L' : Nat → Nat → Int64), ce_do (ce_go U m f) U 13 nn (p + 1) (md + 1) st lo s (b0.1, b0.2 - 1) b1 e = (v, e') → I' 533 17 = nI e' → (v = 0 → I' 533 16 = nI r) → ad_fr r I I' L L' → Q (some (.int v)) (n, sh, X, R, I', L'))
    (hGo : ∀ (p' : Int32) (st' : List ab_Sy) (lo' : Nat → ab_Sy) (c0 c1 : ab_Ba) (I' : Nat → Nat → Int32) (L' : Nat → Nat → Int64), ce_do (ce_go U m f) U 13 nn (p + 1) (md + 1) st lo s (b0.1, b0.2 - 1) b1 e = ce_go U m f (p', md + 1, st', lo', s, c0, c1) e → rw_at (L' 549) (104 * r) p' (md + 1) st' lo' s.1 c0 c1 → pa_bd (pa_B (md + 1) st'.length) st' lo' → st'.length ≤ md + 1 → I' 533 16 = I 533 16 → I' 533 17 = nI e → ad_fr r I I' L L' → Q (some (.int 0)) (n, sh, X, R, I', L'))
    (hBr : ∀ (near jump : Option (sp_E × sp_E)) (st' : List ab_Sy) (w : Nat) (I' : Nat → Nat → Int32) (L' : Nat → Nat → Int64), ce_do (ce_go U m f) U 13 nn (p + 1) (md + 1) st lo s (b0.1, b0.2 - 1) b1 e = ce_br (ce_go U m f) near jump (p + 1) nn (md + 1) st' lo (b0.1, b0.2 - 1) b1 e → mp_post (L' 549) r w jump near (p + 1) nn (md + 1) st' lo (b0.1, b0.2 - 1) b1 → (∀ t, near = some t ∨ jump = some t → kn_ok t) → pa_bd (pa_B (md + 1) st'.length) st' lo → st'.length ≤ md + 1 → I' 533 16 = nI w → I' 533 17 = nI e → ad_fr r I I' L L' → Q (some (.int 0)) (n, sh, X, R, I', L')) : gw_Go y_Mo_advance (d + 4) 0 0 327 [some (.ref 533), some (.int (nI m)), some (.int (nI r)), some (.int (nI (104 * r))), some (.int p), o5, some (.int (nI 13)), some (.int nn), some (.long (lN st.length)), none, o10, o11, o12] [] (n, sh, X, R, I, L) Q := by
  have hp0 := hp
  obtain ⟨s533, s534, s535, s536, s537, s538, s539, s540, s541, s542, s543, s544, s545, s546, s547, s548, s549, s550, s551, s552, s553, s554, s555, s556, s557, r534, r535, r536, r537, r538, r539, r540, r541, r542, r543, r544, r545, r546, r547, r548, r549, r550, r551, r552, r553, r554, r555, r556, r557⟩ := hp
  have hBM : pa_B md st.length ≤ 45000000000 := pa_B_m (by omega)
  have hT : 0 ≤ st.length := Nat.zero_le _
  have rest : ∀ L1 : Nat → Nat → Int64, rw_at (L1 549) (104 * r) (p + 1) (md + 1) st lo s.1 (b0.1, b0.2 - 1) b1 → (∀ i, i < 104 * r → L1 549 i = L 549 i) → (∀ q, q ≠ 549 → L1 q = L q) → gw_Go y_Mo_advance (d + 4) 0 0 363 [some (.ref 533), some (.int (nI m)), some (.int (nI r)), some (.int (nI (104 * r))), some (.int p), o5, some (.int (nI 13)), some (.int nn), some (.long (lN st.length)), none, o10, o11, o12] [] (n, sh, X, R, I, L1) Q := by
    intro L1 hrow' frr frq
    have hbd := pa_do_bd (k := 13) (nn := nn) (p := p + 1) hb0 (by omega) hlen hnn (by decide) hT (fun hh => absurd hh (by decide))
    have hgo : ce_do (ce_go U m f) U 13 nn (p + 1) (md + 1) st lo s (b0.1, b0.2 - 1) b1 e = ce_go U m f ((pa_do 13 nn (p + 1) st lo).1, md + 1, (pa_do 13 nn (p + 1) st lo).2.1, (pa_do 13 nn (p + 1) st lo).2.2, s, (b0.1, b0.2 - 1), b1) e := rfl
    have hpl : (pa_do 13 nn (p + 1) st lo).1 = (p + 1) := by cases st <;> rfl
    rw [hpl] at hgo
    have hl : (pa_do 13 nn (p + 1) st lo).2.1.length ≤ md + 1 := by rw [hbd.2]; show st.length - 0 + 1 ≤ md + 1; omega
    refine go_iload d_Mo_advance_363 rfl ?_
    refine go_bipush (v := 8) d_Mo_advance_365 rfl ?_
    refine go_icmp_eq 377 d_Mo_advance_367 rfl (fun hn => absurd hn (by decide)) (fun _ => ?_)
    refine go_iload d_Mo_advance_370 rfl ?_
    refine go_bipush (v := 9) d_Mo_advance_372 rfl ?_
    refine go_icmp_ne 397 d_Mo_advance_374 rfl (fun _ => ?_) (fun hn => by first | exact absurd hn (by decide) | exact absurd (by decide) hn)
    refine go_iload d_Mo_advance_397 rfl ?_
    refine go_bipush (v := 7) d_Mo_advance_399 rfl ?_
    refine go_icmp_ne 413 d_Mo_advance_401 rfl (fun _ => ?_) (fun hn => by first | exact absurd hn (by decide) | exact absurd (by decide) hn)
    refine go_iload d_Mo_advance_413 rfl ?_
    refine go_bipush (v := 10) d_Mo_advance_415 rfl ?_
    refine go_icmp_ne 426 d_Mo_advance_417 rfl (fun _ => ?_) (fun hn => by first | exact absurd hn (by decide) | exact absurd (by decide) hn)
    refine go_iload d_Mo_advance_426 rfl ?_
    refine go_bipush (v := 11) d_Mo_advance_428 rfl ?_
    refine go_icmp_ne 441 d_Mo_advance_430 rfl (fun _ => ?_) (fun hn => by first | exact absurd hn (by decide) | exact absurd (by decide) hn)
    refine go_iload d_Mo_advance_441 rfl ?_
    refine go_bipush (v := 12) d_Mo_advance_443 rfl ?_
    refine go_icmp_ne 455 d_Mo_advance_445 rfl (fun _ => ?_) (fun hn => by first | exact absurd hn (by decide) | exact absurd (by decide) hn)
    refine go_aload_n 0 d_Mo_advance_455 rfl rfl ?_
    refine go_iload_n 2 d_Mo_advance_456 rfl rfl ?_
    refine go_iload d_Mo_advance_457 rfl ?_
    refine go_iload d_Mo_advance_459 rfl ?_
    refine go_V3 d_Mo_advance_461 k_Mo_179 (by assumption) (Nat.le_of_ble_eq_true rfl) (c_Mo_simple (d := d + 1) (k := 13) (nn := nn) (p := (p + 1)) hp0 (by omega) (by decide) hT (fun _ => Nat.lt_of_not_le (fun hh => ncr (Or.inr (Or.inl (by show 6 < st.length - 0 + 1; omega))))) (fun hh => absurd hh (by decide)) hrow' (fun L2 c1 c2 c3 => ?_))
    refine go_iconst (v := 0) d_Mo_advance_464 rfl ?_
    exact go_iret d_Mo_advance_465 rfl (hGo (p + 1) _ _ _ _ I L2 hgo (pa_do_ind 13 nn (p + 1) (p + 1) st lo c1) hbd.1 hl rfl h17 ⟨fun j _ _ => rfl, fun _ _ => rfl, fun i hi => by rw [c2 i (by omega)]; exact frr i hi, fun q a b c => by rw [c3 q a]; exact frq q a⟩)
  obtain ⟨a1, a2, a3, a4, a5, a6, a7, a8, a9, a10⟩ := hrow
  refine go_aload_n 0 d_Mo_advance_327 rfl rfl ?_
  refine go_getR d_Mo_advance_328 f_Mo_56 (by assumption) (by assumption) ?_
  refine go_iload_n 3 d_Mo_advance_331 rfl rfl ?_
  refine go_iconst (v := 1) d_Mo_advance_332 rfl ?_
  refine go_iadd d_Mo_advance_333 ?_
  refine go_dup2 d_Mo_advance_334 rfl rfl ?_
  refine go_lald (104 * r + 1) d_Mo_advance_335 (by assumption) (nI_add _ 1) (by omega) (by decide) ?_
  refine go_lconst (v := 1) d_Mo_advance_336 rfl ?_
  refine go_ladd d_Mo_advance_337 ?_
  rw [a2, lN_1]
  refine go_last (104 * r + 1) d_Mo_advance_338 (by assumption) (nI_add _ 1) (by omega) (by decide) ?_
  refine go_aload_n 0 d_Mo_advance_339 rfl rfl ?_
  refine go_getR d_Mo_advance_340 f_Mo_56 (by assumption) (by assumption) ?_
  refine go_iload_n 3 d_Mo_advance_343 rfl rfl ?_
  refine go_bipush (v := 99) d_Mo_advance_344 rfl ?_
  refine go_iadd d_Mo_advance_346 ?_
  refine go_dup2 d_Mo_advance_347 rfl rfl ?_
  refine go_lald (104 * r + 99) d_Mo_advance_348 (by assumption) (nI_add _ 99) (by omega) (by decide) ?_
  refine go_lconst (v := 1) d_Mo_advance_349 rfl ?_
  refine go_lsub d_Mo_advance_350 ?_
  rw [up2_ne (Or.inr (by omega)), a9.2]
  refine go_last (104 * r + 99) d_Mo_advance_351 (by assumption) (nI_add _ 99) (by omega) (by decide) ?_
  refine go_aload_n 0 d_Mo_advance_352 rfl rfl ?_
  refine go_getR d_Mo_advance_353 f_Mo_56 (by assumption) (by assumption) ?_
  refine go_iload_n 3 d_Mo_advance_356 rfl rfl ?_
  refine go_iload d_Mo_advance_357 rfl ?_
  refine go_iconst (v := 1) d_Mo_advance_359 rfl ?_
  refine go_iadd d_Mo_advance_360 ?_
  refine go_i2l d_Mo_advance_361 (rfl) ?_
  refine go_last (104 * r) d_Mo_advance_362 (by assumption) (rfl) (by omega) (by decide) ?_
  exact rest _ ⟨by simp (disch := omega) only [up2_eq, up2_ne], by simp (disch := omega) only [up2_eq, up2_ne], by simp (disch := omega) only [up2_eq, up2_ne]; exact a3, a4, a5.cpy (fun x x' ⟨j, h1, h2, h3, h4⟩ => by rw [h3, h4]; simp (disch := omega) only [up2_eq, up2_ne]), fun j hj => (by simp (disch := omega) only [up2_eq, up2_ne]; exact a6 j hj), a7, a8.cpy (fun j hj => by simp (disch := omega) only [up2_eq, up2_ne]), ⟨fun a b ha hb => (by simp (disch := omega) only [up2_eq, up2_ne]; exact a9.1 a b ha hb), by simp (disch := omega) only [up2_eq, up2_ne]⟩, a10.cpy (fun j hj => by simp (disch := omega) only [up2_eq, up2_ne]) (by simp (disch := omega) only [up2_eq, up2_ne])⟩ (fun i hi => by simp (disch := omega) only [up2_eq, up2_ne]) (fun q hq => by rw [gw_up_ne hq, gw_up_ne hq, gw_up_ne hq])
theorem c_Mo_adC_14 {m r md e f : Nat} {p nn : Int32} {st : List ab_Sy} {lo : Nat → ab_Sy} {s : sp_E × sp_E} {b0 b1 : ab_Ba} {o5 o10 o11 o12 : Option Value} (hp : pt_Mo sh R) (hmc : mc_at I U) (hm : m < 4) (hU : u_ok U) (hr : r + 1 < 42) (hmd : md < 40) (hrow : rw_at (L 549) (104 * r) p md st lo s.1 b0 b1) (hok : kn_ok s) (hb0 : pa_bd (pa_B md st.length) st lo) (hlen : st.length ≤ md) (hnn : -1000 ≤ nn.toInt ∧ nn.toInt ≤ 1000) (he : e ≤ 50) (h17 : I 533 17 = nI e) (ncr : ¬ rn_cr (fun j => (U j).1.length) 14 nn m st.length)
    (hEnd : ∀ (v : Int32) (e' : Nat) (I' : Nat → Nat → Int32) (L' : Nat → Nat → Int64), ce_do (ce_go U m f) U 14 nn (p + 1) (md + 1) st lo s (b0.1, b0.2 - 1) b1 e = (v, e') → I' 533 17 = nI e' → (v = 0 → I' 533 16 = nI r) → ad_fr r I I' L L' → Q (some (.int v)) (n, sh, X, R, I', L'))
    (hGo : ∀ (p' : Int32) (st' : List ab_Sy) (lo' : Nat → ab_Sy) (c0 c1 : ab_Ba) (I' : Nat → Nat → Int32) (L' : Nat → Nat → Int64), ce_do (ce_go U m f) U 14 nn (p + 1) (md + 1) st lo s (b0.1, b0.2 - 1) b1 e = ce_go U m f (p', md + 1, st', lo', s, c0, c1) e → rw_at (L' 549) (104 * r) p' (md + 1) st' lo' s.1 c0 c1 → pa_bd (pa_B (md + 1) st'.length) st' lo' → st'.length ≤ md + 1 → I' 533 16 = I 533 16 → I' 533 17 = nI e → ad_fr r I I' L L' → Q (some (.int 0)) (n, sh, X, R, I', L'))
    (hBr : ∀ (near jump : Option (sp_E × sp_E)) (st' : List ab_Sy) (w : Nat) (I' : Nat → Nat → Int32) (L' : Nat → Nat → Int64), ce_do (ce_go U m f) U 14 nn (p + 1) (md + 1) st lo s (b0.1, b0.2 - 1) b1 e = ce_br (ce_go U m f) near jump (p + 1) nn (md + 1) st' lo (b0.1, b0.2 - 1) b1 e → mp_post (L' 549) r w jump near (p + 1) nn (md + 1) st' lo (b0.1, b0.2 - 1) b1 → (∀ t, near = some t ∨ jump = some t → kn_ok t) → pa_bd (pa_B (md + 1) st'.length) st' lo → st'.length ≤ md + 1 → I' 533 16 = nI w → I' 533 17 = nI e → ad_fr r I I' L L' → Q (some (.int 0)) (n, sh, X, R, I', L')) : gw_Go y_Mo_advance (d + 4) 0 0 327 [some (.ref 533), some (.int (nI m)), some (.int (nI r)), some (.int (nI (104 * r))), some (.int p), o5, some (.int (nI 14)), some (.int nn), some (.long (lN st.length)), none, o10, o11, o12] [] (n, sh, X, R, I, L) Q := by
  have hp0 := hp
  obtain ⟨s533, s534, s535, s536, s537, s538, s539, s540, s541, s542, s543, s544, s545, s546, s547, s548, s549, s550, s551, s552, s553, s554, s555, s556, s557, r534, r535, r536, r537, r538, r539, r540, r541, r542, r543, r544, r545, r546, r547, r548, r549, r550, r551, r552, r553, r554, r555, r556, r557⟩ := hp
  have hBM : pa_B md st.length ≤ 45000000000 := pa_B_m (by omega)
  have one : 1 ≤ st.length → ∃ v s, st = v :: s := fun h => by cases st with | nil => exact absurd h (by decide) | cons v s => exact ⟨v, s, rfl⟩
  have hT : 1 ≤ st.length := Classical.byContradiction (fun hh => ncr (Or.inl (Nat.lt_of_not_le hh)))
  have rest : ∀ L1 : Nat → Nat → Int64, rw_at (L1 549) (104 * r) (p + 1) (md + 1) st lo s.1 (b0.1, b0.2 - 1) b1 → (∀ i, i < 104 * r → L1 549 i = L 549 i) → (∀ q, q ≠ 549 → L1 q = L q) → gw_Go y_Mo_advance (d + 4) 0 0 363 [some (.ref 533), some (.int (nI m)), some (.int (nI r)), some (.int (nI (104 * r))), some (.int p), o5, some (.int (nI 14)), some (.int nn), some (.long (lN st.length)), none, o10, o11, o12] [] (n, sh, X, R, I, L1) Q := by
    intro L1 hrow' frr frq
    have hbd := pa_do_bd (k := 14) (nn := nn) (p := p + 1) hb0 (by omega) hlen hnn (by decide) hT (fun hh => absurd hh (by decide))
    have hgo : ce_do (ce_go U m f) U 14 nn (p + 1) (md + 1) st lo s (b0.1, b0.2 - 1) b1 e = ce_go U m f ((pa_do 14 nn (p + 1) st lo).1, md + 1, (pa_do 14 nn (p + 1) st lo).2.1, (pa_do 14 nn (p + 1) st lo).2.2, s, (b0.1, b0.2 - 1), b1) e := rfl
    have hpl : (pa_do 14 nn (p + 1) st lo).1 = (p + 1) := by obtain ⟨v, s1, rfl⟩ := one hT; rfl
    rw [hpl] at hgo
    have hl : (pa_do 14 nn (p + 1) st lo).2.1.length ≤ md + 1 := by rw [hbd.2]; show st.length - 1 + 0 ≤ md + 1; omega
    refine go_iload d_Mo_advance_363 rfl ?_
    refine go_bipush (v := 8) d_Mo_advance_365 rfl ?_
    refine go_icmp_eq 377 d_Mo_advance_367 rfl (fun hn => absurd hn (by decide)) (fun _ => ?_)
    refine go_iload d_Mo_advance_370 rfl ?_
    refine go_bipush (v := 9) d_Mo_advance_372 rfl ?_
    refine go_icmp_ne 397 d_Mo_advance_374 rfl (fun _ => ?_) (fun hn => by first | exact absurd hn (by decide) | exact absurd (by decide) hn)
    refine go_iload d_Mo_advance_397 rfl ?_
    refine go_bipush (v := 7) d_Mo_advance_399 rfl ?_
    refine go_icmp_ne 413 d_Mo_advance_401 rfl (fun _ => ?_) (fun hn => by first | exact absurd hn (by decide) | exact absurd (by decide) hn)
    refine go_iload d_Mo_advance_413 rfl ?_
    refine go_bipush (v := 10) d_Mo_advance_415 rfl ?_
    refine go_icmp_ne 426 d_Mo_advance_417 rfl (fun _ => ?_) (fun hn => by first | exact absurd hn (by decide) | exact absurd (by decide) hn)
    refine go_iload d_Mo_advance_426 rfl ?_
    refine go_bipush (v := 11) d_Mo_advance_428 rfl ?_
    refine go_icmp_ne 441 d_Mo_advance_430 rfl (fun _ => ?_) (fun hn => by first | exact absurd hn (by decide) | exact absurd (by decide) hn)
    refine go_iload d_Mo_advance_441 rfl ?_
    refine go_bipush (v := 12) d_Mo_advance_443 rfl ?_
    refine go_icmp_ne 455 d_Mo_advance_445 rfl (fun _ => ?_) (fun hn => by first | exact absurd hn (by decide) | exact absurd (by decide) hn)
    refine go_aload_n 0 d_Mo_advance_455 rfl rfl ?_
    refine go_iload_n 2 d_Mo_advance_456 rfl rfl ?_
    refine go_iload d_Mo_advance_457 rfl ?_
    refine go_iload d_Mo_advance_459 rfl ?_
    refine go_V3 d_Mo_advance_461 k_Mo_179 (by assumption) (Nat.le_of_ble_eq_true rfl) (c_Mo_simple (d := d + 1) (k := 14) (nn := nn) (p := (p + 1)) hp0 (by omega) (by decide) hT (fun hh => absurd hh (by decide)) (fun hh => absurd hh (by decide)) hrow' (fun L2 c1 c2 c3 => ?_))
    refine go_iconst (v := 0) d_Mo_advance_464 rfl ?_
    exact go_iret d_Mo_advance_465 rfl (hGo (p + 1) _ _ _ _ I L2 hgo (pa_do_ind 14 nn (p + 1) (p + 1) st lo c1) hbd.1 hl rfl h17 ⟨fun j _ _ => rfl, fun _ _ => rfl, fun i hi => by rw [c2 i (by omega)]; exact frr i hi, fun q a b c => by rw [c3 q a]; exact frq q a⟩)
  obtain ⟨a1, a2, a3, a4, a5, a6, a7, a8, a9, a10⟩ := hrow
  refine go_aload_n 0 d_Mo_advance_327 rfl rfl ?_
  refine go_getR d_Mo_advance_328 f_Mo_56 (by assumption) (by assumption) ?_
  refine go_iload_n 3 d_Mo_advance_331 rfl rfl ?_
  refine go_iconst (v := 1) d_Mo_advance_332 rfl ?_
  refine go_iadd d_Mo_advance_333 ?_
  refine go_dup2 d_Mo_advance_334 rfl rfl ?_
  refine go_lald (104 * r + 1) d_Mo_advance_335 (by assumption) (nI_add _ 1) (by omega) (by decide) ?_
  refine go_lconst (v := 1) d_Mo_advance_336 rfl ?_
  refine go_ladd d_Mo_advance_337 ?_
  rw [a2, lN_1]
  refine go_last (104 * r + 1) d_Mo_advance_338 (by assumption) (nI_add _ 1) (by omega) (by decide) ?_
  refine go_aload_n 0 d_Mo_advance_339 rfl rfl ?_
  refine go_getR d_Mo_advance_340 f_Mo_56 (by assumption) (by assumption) ?_
  refine go_iload_n 3 d_Mo_advance_343 rfl rfl ?_
  refine go_bipush (v := 99) d_Mo_advance_344 rfl ?_
  refine go_iadd d_Mo_advance_346 ?_
  refine go_dup2 d_Mo_advance_347 rfl rfl ?_
  refine go_lald (104 * r + 99) d_Mo_advance_348 (by assumption) (nI_add _ 99) (by omega) (by decide) ?_
  refine go_lconst (v := 1) d_Mo_advance_349 rfl ?_
  refine go_lsub d_Mo_advance_350 ?_
  rw [up2_ne (Or.inr (by omega)), a9.2]
  refine go_last (104 * r + 99) d_Mo_advance_351 (by assumption) (nI_add _ 99) (by omega) (by decide) ?_
  refine go_aload_n 0 d_Mo_advance_352 rfl rfl ?_
  refine go_getR d_Mo_advance_353 f_Mo_56 (by assumption) (by assumption) ?_
  refine go_iload_n 3 d_Mo_advance_356 rfl rfl ?_
  refine go_iload d_Mo_advance_357 rfl ?_
  refine go_iconst (v := 1) d_Mo_advance_359 rfl ?_
  refine go_iadd d_Mo_advance_360 ?_
  refine go_i2l d_Mo_advance_361 (rfl) ?_
  refine go_last (104 * r) d_Mo_advance_362 (by assumption) (rfl) (by omega) (by decide) ?_
  exact rest _ ⟨by simp (disch := omega) only [up2_eq, up2_ne], by simp (disch := omega) only [up2_eq, up2_ne], by simp (disch := omega) only [up2_eq, up2_ne]; exact a3, a4, a5.cpy (fun x x' ⟨j, h1, h2, h3, h4⟩ => by rw [h3, h4]; simp (disch := omega) only [up2_eq, up2_ne]), fun j hj => (by simp (disch := omega) only [up2_eq, up2_ne]; exact a6 j hj), a7, a8.cpy (fun j hj => by simp (disch := omega) only [up2_eq, up2_ne]), ⟨fun a b ha hb => (by simp (disch := omega) only [up2_eq, up2_ne]; exact a9.1 a b ha hb), by simp (disch := omega) only [up2_eq, up2_ne]⟩, a10.cpy (fun j hj => by simp (disch := omega) only [up2_eq, up2_ne]) (by simp (disch := omega) only [up2_eq, up2_ne])⟩ (fun i hi => by simp (disch := omega) only [up2_eq, up2_ne]) (fun q hq => by rw [gw_up_ne hq, gw_up_ne hq, gw_up_ne hq])
end MO
