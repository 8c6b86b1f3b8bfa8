/-! the reference: its bounds, and what it asks them -/
/-- the bounds that findBounds left -/
def bt_at (L : Nat → Nat → Int64) (C : sp_E) : Prop := ∀ a b, a < 5 → b < 5 → L 550 (5 * a + b) = mo_e (C a b)
def ls_v (G : Nat → Int64) (B v : Nat) : Int64 := if v = 4 then 4 else G (B + 4 + 2 * v)
def ln_v (G : Nat → Int64) (B v : Nat) : Int64 := if v = 4 then 0 else G (B + 5 + 2 * v)
theorem rw_at.ls {G : Nat → Int64} {B : Nat} {p : Int32} {md : Nat} {st : List ab_Sy} {lo : Nat → ab_Sy} {E : sp_E} {b0 b1 : ab_Ba} (h : rw_at G B p md st lo E b0 b1) {v : Nat} (hv : v < 5) : ms_at (ls_v G B v) (ln_v G B v) (lo v) := by
  obtain ⟨a1, a2, a3, a4, a5, a6, a7, a8, a9, a10⟩ := h
  unfold ls_v ln_v
  by_cases h4 : v = 4
  · subst h4
    rw [if_pos rfl, if_pos rfl, a7]
    exact ⟨rfl, by decide, rfl⟩
  · rw [if_neg h4, if_neg h4]
    exact a6 v (by omega)
def cs_v (G : Nat → Int64) (f v : Nat) : Int64 := if v < 3 then G (f + 2 * v) else 4
def cn_v (G : Nat → Int64) (f v : Nat) : Int64 := if v < 3 then G (f + 2 * v + 1) else 0
section MO
variable {d n : Nat} {sh : Nat → Nat × Nat} {X : Nat × (Nat → Int32)} {R : Nat → Nat → Option Nat} {I : Nat → Nat → Int32} {L : Nat → Nat → Int64} {Q : Option Value → gw_Mem → Prop}
theorem c_Mo_fbC {r : Nat} {s : sp_E × sp_E} (hp : pt_Mo sh R) (hr : r < 42) (hE : me_tab (L 549) (104 * r + 24) s.1) (hok : kn_ok s) (hQ : ∀ (L' : Nat → Nat → Int64), bt_at L' s.2 → (∀ q, q ≠ 550 → q ≠ 551 → L' q = L q) → Q (some (.int 1)) (n, sh, X, R, I, L')) : gw_Call y_Mo_findBounds (d + 1) 0 0 [.ref 533, .int (nI r)] (n, sh, X, R, I, L) Q := by
  refine c_Mo_findBounds hp hr hE hok.2 (fun L' b M h1 h2 h3 h4 h5 => ?_)
  have hMC : ∀ a b, a < 5 → b < 5 → M a b = s.2 a b := fun a b ha hb => sp_M_uniq (h1 a b ha hb) (sp_C_M hok.1 ha hb (by omega))
  have hb1 : b = 1 := h4.resolve_left (h3.mpr (fun a m ha hm => by rw [hMC a a ha ha, sp_C_self hok.1 ha] at hm; cases hm; exact Int.le_refl _))
  subst hb1
  exact hQ L' (fun a b ha hb => by rw [h2 a b ha hb, hMC a b ha hb]) h5
theorem c_Mo_fbN {r a0 k0 : Nat} {u0 : Int} {E : sp_E} (hp : pt_Mo sh R) (hr : r < 42) (hE : me_tab (L 549) (104 * r + 24) E) (hbd : ∀ a b v, E a b = some v → -100000000000 ≤ v ∧ v ≤ 100000000000) (hk0 : k0 ≤ 5) (hu0 : u0 < 0) (hw0 : sp_W E k0 a0 a0 u0) (hQ : ∀ (L' : Nat → Nat → Int64), (∀ q, q ≠ 550 → q ≠ 551 → L' q = L q) → Q (some (.int 0)) (n, sh, X, R, I, L')) : gw_Call y_Mo_findBounds (d + 1) 0 0 [.ref 533, .int (nI r)] (n, sh, X, R, I, L) Q := by
  refine c_Mo_findBounds hp hr hE hbd (fun L' b M h1 h2 h3 h4 h5 => ?_)
  have ha := (sp_W_lt hw0).1
  have hM := h1 a0 a0 ha ha
  have hb0 : b = 0 := Classical.byContradiction (fun hn => by
    have h6 := h3.mp hn
    cases hc : M a0 a0 with
    | none => rw [hc] at hM; exact hM k0 u0 hk0 hw0
    | some m =>
      rw [hc] at hM
      have := hM.2 k0 u0 hk0 hw0
      have := h6 a0 m ha hc
      omega)
  subst hb0
  exact hQ L' h5
theorem c_Mo_know {r md a b : Nat} {c : Int} {p : Int32} {st : List ab_Sy} {lo : Nat → ab_Sy} {E : sp_E} {b0 b1 : ab_Ba} (hp : pt_Mo sh R) (hr : r < 42) (ha : a < 5) (hb : b < 5) (hE : ∀ x, E a b = some x → kn_s x) (hc : kn_s c) (h : rw_at (L 549) (104 * r) p md st lo E b0 b1) (hQ : ∀ L', rw_at (L' 549) (104 * r) p md st lo (sp_add E a b c) b0 b1 → (∀ i, i < 104 * r ∨ 104 * r + 104 ≤ i → L' 549 i = L 549 i) → (∀ q, q ≠ 549 → L' q = L q) → Q none (n, sh, X, R, I, L')) : gw_Call y_Mo_know (d + 1) 0 0 [.ref 533, .int (nI r), .long (lN a), .long (lN b), .long (Int64.ofInt c)] (n, sh, X, R, I, L) Q := by
  obtain ⟨s533, s534, s535, s536, s537, s538, s539, s540, s541, s542, s543, s544, s545, s546, s547, s548, s549, s550, s551, s552, s553, s554, s555, s556, s557, r534, r535, r536, r537, r538, r539, r540, r541, r542, r543, r544, r545, r546, r547, r548, r549, r550, r551, r552, r553, r554, r555, r556, r557⟩ := hp
  obtain ⟨a1, a2, a3, a4, a5, a6, a7, a8, a9, a10⟩ := h
  have hv : (if mo_e (E a b) < Int64.ofInt c then mo_e (E a b) else Int64.ofInt c) = mo_e (sp_add E a b c a b) := by
    have := mo_min (p := E a b) (q := some c) hE (fun x e => by cases e; exact hc)
    rw [show Int64.ofInt c = mo_e (some c) from rfl, this]
    unfold sp_add
    rw [if_pos ⟨rfl, rfl⟩]
    cases E a b with
    | none => rfl
    | some v =>
      show Int64.ofInt (if c < v then c else v) = Int64.ofInt (if v ≤ c then v else c)
      by_cases hvc : v ≤ c
      · rw [if_pos hvc, if_neg (by omega)]
      · rw [if_neg hvc, if_pos (by omega)]
  have ek : (104 : Int32) * nI r + 24 + 5 * nI a + nI b = nI (104 * r + 24 + 5 * a + b) := by rw [show (104 : Int32) * nI r + 24 = nI (104 * r + 24) from ix3 (a := 24), show (5 : Int32) * nI a = nI (5 * a) from nI_mul 5 a, nI_add, nI_add]
  refine gw_call o_Mo_know (Nat.le_of_ble_eq_true rfl) ?_
  refine go_bipush (v := 104) d_Mo_know_0 rfl ?_
  refine go_iload_n 1 d_Mo_know_2 rfl rfl ?_
  refine go_imul d_Mo_know_3 ?_
  refine go_bipush (v := 24) d_Mo_know_4 rfl ?_
  refine go_iadd d_Mo_know_6 ?_
  refine go_iconst (v := 5) d_Mo_know_7 rfl ?_
  refine go_lload_n 2 d_Mo_know_8 rfl rfl ?_
  refine go_l2i d_Mo_know_9 (lN_i _) ?_
  refine go_imul d_Mo_know_10 ?_
  refine go_iadd d_Mo_know_11 ?_
  refine go_lload d_Mo_know_12 rfl ?_
  refine go_l2i d_Mo_know_14 (lN_i _) ?_
  refine go_iadd d_Mo_know_15 ?_
  rw [ek]
  refine go_istore d_Mo_know_16 (Nat.le_of_ble_eq_true rfl) ?_
  refine go_aload_n 0 d_Mo_know_18 rfl rfl ?_
  refine go_getR d_Mo_know_19 f_Mo_56 (by assumption) (by assumption) ?_
  refine go_iload d_Mo_know_22 rfl ?_
  refine go_aload_n 0 d_Mo_know_24 rfl rfl ?_
  refine go_getR d_Mo_know_25 f_Mo_56 (by assumption) (by assumption) ?_
  refine go_iload d_Mo_know_28 rfl ?_
  refine go_lald (104 * r + 24 + 5 * a + b) d_Mo_know_30 (by assumption) (rfl) (by omega) (by decide) ?_
  refine go_lload d_Mo_know_31 rfl ?_
  rw [show L 549 (104 * r + 24 + 5 * a + b) = mo_e (E a b) from a8 a b ha hb]
  refine go_S2 d_Mo_know_33 k_Mo_120 (Nat.le_of_ble_eq_true rfl) (c_Mo_least ?_)
  show gw_Go y_Mo_know _ _ _ _ _ (.long _ :: _) _ _
  rw [hv]
  refine go_last (104 * r + 24 + 5 * a + b) d_Mo_know_36 (by assumption) (rfl) (by omega) (by decide) ?_
  exact go_vret d_Mo_know_37 rfl (hQ _ ⟨by simp (disch := omega) only [up2_eq, up2_ne]; exact a1, by simp (disch := omega) only [up2_eq, up2_ne]; exact a2, by simp (disch := omega) only [up2_eq, up2_ne]; exact a3, a4, a5.cpy (fun x x' ⟨j, h1, h2, h3, h4⟩ => by rw [h3, h4]; simp (disch := omega) only [up2_eq, up2_ne]), fun j hj => (by simp (disch := omega) only [up2_eq, up2_ne]; exact a6 j hj), a7, fun x z hx hz => (by by_cases he : x = a ∧ z = b; (obtain ⟨rfl, rfl⟩ := he; simp (disch := omega) only [up2_eq, up2_ne]); (have hne : 5 * x + z ≠ 5 * a + b := (fun e => he ⟨by omega, by omega⟩); have e0 : sp_add E a b c x z = E x z := if_neg he; rw [e0]; simp (disch := omega) only [up2_eq, up2_ne]; exact a8 x z hx hz)), a9.cpy (fun j hj => by simp (disch := omega) only [up2_eq, up2_ne]) (by simp (disch := omega) only [up2_eq, up2_ne]), a10.cpy (fun j hj => by simp (disch := omega) only [up2_eq, up2_ne]) (by simp (disch := omega) only [up2_eq, up2_ne])⟩ (fun i hi => by simp (disch := omega) only [up2_eq, up2_ne]) (fun q hq => gw_up_ne hq))
theorem c_Mo_follows {a b : Nat} {x y : Int64} {c : Int32} {C : sp_E} (hp : pt_Mo sh R) (ha : a < 5) (hb : b < 5) (hbt : bt_at L C) (hC : kn_bd C 400000000000) (hx : -1000000000000 ≤ x.toInt ∧ x.toInt ≤ 1000000000000) (hy : -1000000000000 ≤ y.toInt ∧ y.toInt ≤ 1000000000000) (hQ : ∀ g : Int32, (g ≠ 0 ↔ ∃ w, C a b = some w ∧ w + x.toInt - y.toInt ≤ c.toInt) → (g = 0 ∨ g = 1) → Q (some (.int g)) (n, sh, X, R, I, L)) : gw_Call y_Mo_follows d 0 0 [.ref 533, .long (lN a), .long x, .long (lN b), .long y, .long c.toInt64] (n, sh, X, R, I, L) Q := by
  obtain ⟨s533, s534, s535, s536, s537, s538, s539, s540, s541, s542, s543, s544, s545, s546, s547, s548, s549, s550, s551, s552, s553, s554, s555, s556, s557, r534, r535, r536, r537, r538, r539, r540, r541, r542, r543, r544, r545, r546, r547, r548, r549, r550, r551, r552, r553, r554, r555, r556, r557⟩ := hp
  have hCs : ∀ w, C a b = some w → kn_s w := fun w h => by have := hC a b w ha hb h; exact ⟨by omega, by omega⟩
  have hcc := i_32 c
  refine gw_call o_Mo_follows (Nat.le_of_ble_eq_true rfl) ?_
  refine go_aload_n 0 d_Mo_follows_0 rfl rfl ?_
  refine go_getR d_Mo_follows_1 f_Mo_60 (by assumption) (by assumption) ?_
  refine go_iconst (v := 5) d_Mo_follows_4 rfl ?_
  refine go_lload_n 1 d_Mo_follows_5 rfl rfl ?_
  refine go_l2i d_Mo_follows_6 (lN_i _) ?_
  refine go_imul d_Mo_follows_7 ?_
  refine go_lload d_Mo_follows_8 rfl ?_
  refine go_l2i d_Mo_follows_10 (lN_i _) ?_
  refine go_iadd d_Mo_follows_11 ?_
  refine go_lald (5 * a + b) d_Mo_follows_12 (by assumption) (ix (a := 5)) (by omega) (by decide) ?_
  rw [hbt a b ha hb]
  refine go_lstore d_Mo_follows_13 (Nat.le_of_ble_eq_true rfl) ?_
  refine go_lload d_Mo_follows_15 rfl ?_
  refine go_ldc2 d_Mo_follows_17 i_Mo_124 ?_
  refine go_lcmp_ge 41 d_Mo_follows_20 d_Mo_follows_21 rfl (fun h20 => ?_) (fun h20 => ?_)
  · refine go_iconst (v := 0) d_Mo_follows_41 rfl ?_
    exact go_zret d_Mo_follows_42 rfl (by first | exact Or.inl rfl | exact Or.inr rfl | assumption) (by first | exact hQ 0 ⟨fun h => absurd rfl h, fun ⟨w, hw, _⟩ => absurd ((mo_lt hCs).mpr ⟨w, hw⟩) (by first | exact h20 | exact Int64.not_lt.mpr h20)⟩ (Or.inl rfl) | (obtain ⟨w, hw⟩ := (mo_lt hCs).mp (by first | exact h20 | exact Int64.not_le.mp h20); have hwb := hC a b w ha hb hw; have e1 : mo_e (C a b) + x - y = Int64.ofInt (w + x.toInt - y.toInt) := (by rw [hw, Int64.ofInt_sub, Int64.ofInt_add, kn_of, kn_of]; rfl); have e2 : (mo_e (C a b) + x - y).toInt = w + x.toInt - y.toInt := (by rw [e1]; exact kn_i ⟨by omega, by omega⟩); have e3 : c.toInt64 < mo_e (C a b) + x - y ↔ ¬ w + x.toInt - y.toInt ≤ c.toInt := (by rw [Int64.lt_iff_toInt_lt, e2, Int32.toInt_toInt64]; omega); first | exact hQ 1 ⟨fun _ => ⟨w, hw, Classical.byContradiction (fun hh => h33 (e3.mpr hh))⟩, fun _ => by decide⟩ (Or.inr rfl) | exact hQ 0 ⟨fun h => absurd rfl h, fun ⟨w', hw', hle⟩ => by (rw [hw] at hw'; cases hw'; exact absurd hle (e3.mp h33))⟩ (Or.inl rfl)))
  · refine go_lload d_Mo_follows_24 rfl ?_
    refine go_lload_n 3 d_Mo_follows_26 rfl rfl ?_
    refine go_ladd d_Mo_follows_27 ?_
    refine go_lload d_Mo_follows_28 rfl ?_
    refine go_lsub d_Mo_follows_30 ?_
    refine go_lload d_Mo_follows_31 rfl ?_
    refine go_lcmp_gt 41 d_Mo_follows_33 d_Mo_follows_34 rfl (fun h33 => ?_) (fun h33 => ?_)
    · refine go_iconst (v := 0) d_Mo_follows_41 rfl ?_
      exact go_zret d_Mo_follows_42 rfl (by first | exact Or.inl rfl | exact Or.inr rfl | assumption) (by first | exact hQ 0 ⟨fun h => absurd rfl h, fun ⟨w, hw, _⟩ => absurd ((mo_lt hCs).mpr ⟨w, hw⟩) (by first | exact h20 | exact Int64.not_lt.mpr h20)⟩ (Or.inl rfl) | (obtain ⟨w, hw⟩ := (mo_lt hCs).mp (by first | exact h20 | exact Int64.not_le.mp h20); have hwb := hC a b w ha hb hw; have e1 : mo_e (C a b) + x - y = Int64.ofInt (w + x.toInt - y.toInt) := (by rw [hw, Int64.ofInt_sub, Int64.ofInt_add, kn_of, kn_of]; rfl); have e2 : (mo_e (C a b) + x - y).toInt = w + x.toInt - y.toInt := (by rw [e1]; exact kn_i ⟨by omega, by omega⟩); have e3 : c.toInt64 < mo_e (C a b) + x - y ↔ ¬ w + x.toInt - y.toInt ≤ c.toInt := (by rw [Int64.lt_iff_toInt_lt, e2, Int32.toInt_toInt64]; omega); first | exact hQ 1 ⟨fun _ => ⟨w, hw, Classical.byContradiction (fun hh => h33 (e3.mpr hh))⟩, fun _ => by decide⟩ (Or.inr rfl) | exact hQ 0 ⟨fun h => absurd rfl h, fun ⟨w', hw', hle⟩ => by (rw [hw] at hw'; cases hw'; exact absurd hle (e3.mp h33))⟩ (Or.inl rfl)))
    · refine go_iconst (v := 1) d_Mo_follows_37 rfl ?_
      refine go_goto 42 d_Mo_follows_38 rfl ?_
      exact go_zret d_Mo_follows_42 rfl (by first | exact Or.inl rfl | exact Or.inr rfl | assumption) (by first | exact hQ 0 ⟨fun h => absurd rfl h, fun ⟨w, hw, _⟩ => absurd ((mo_lt hCs).mpr ⟨w, hw⟩) (by first | exact h20 | exact Int64.not_lt.mpr h20)⟩ (Or.inl rfl) | (obtain ⟨w, hw⟩ := (mo_lt hCs).mp (by first | exact h20 | exact Int64.not_le.mp h20); have hwb := hC a b w ha hb hw; have e1 : mo_e (C a b) + x - y = Int64.ofInt (w + x.toInt - y.toInt) := (by rw [hw, Int64.ofInt_sub, Int64.ofInt_add, kn_of, kn_of]; rfl); have e2 : (mo_e (C a b) + x - y).toInt = w + x.toInt - y.toInt := (by rw [e1]; exact kn_i ⟨by omega, by omega⟩); have e3 : c.toInt64 < mo_e (C a b) + x - y ↔ ¬ w + x.toInt - y.toInt ≤ c.toInt := (by rw [Int64.lt_iff_toInt_lt, e2, Int32.toInt_toInt64]; omega); first | exact hQ 1 ⟨fun _ => ⟨w, hw, Classical.byContradiction (fun hh => h33 (e3.mpr hh))⟩, fun _ => by decide⟩ (Or.inr rfl) | exact hQ 0 ⟨fun h => absurd rfl h, fun ⟨w', hw', hle⟩ => by (rw [hw] at hw'; cases hw'; exact absurd hle (e3.mp h33))⟩ (Or.inl rfl)))
theorem c_Mo_addTerm0 {r md a b : Nat} {p : Int32} {f nA nB : Int64} {st : List ab_Sy} {lo : Nat → ab_Sy} {E : sp_E} {b0 b1 : ab_Ba} (hp : pt_Mo sh R) (hr : r < 42) (ha : a < 5) (hb : b < 5) (h : rw_at (L 549) (104 * r) p md st lo E b0 b1) (hQ : ∀ L', rw_at (L' 549) (104 * r) p md st lo E (ba_T b0.1 a b f, b0.2 + f * (nA - nB)) b1 → (∀ i, i < 104 * r + 49 ∨ 104 * r + 104 ≤ i → L' 549 i = L 549 i) → (∀ q, q ≠ 549 → L' q = L q) → Q none (n, sh, X, R, I, L')) : gw_Call y_Mo_addTerm d 0 0 [.ref 533, .int (nI r), .int 49, .long f, .long (lN a), .long nA, .long (lN b), .long nB] (n, sh, X, R, I, L) Q := by
  obtain ⟨s533, s534, s535, s536, s537, s538, s539, s540, s541, s542, s543, s544, s545, s546, s547, s548, s549, s550, s551, s552, s553, s554, s555, s556, s557, r534, r535, r536, r537, r538, r539, r540, r541, r542, r543, r544, r545, r546, r547, r548, r549, r550, r551, r552, r553, r554, r555, r556, r557⟩ := hp
  obtain ⟨a1, a2, a3, a4, a5, a6, a7, a8, a9, a10⟩ := h
  refine gw_call o_Mo_addTerm (Nat.le_of_ble_eq_true rfl) ?_
  refine go_bipush (v := 104) d_Mo_addTerm_0 rfl ?_
  refine go_iload_n 1 d_Mo_addTerm_2 rfl rfl ?_
  refine go_imul d_Mo_addTerm_3 ?_
  rw [show (104 : Int32) * nI r = nI (104 * r) from nI_mul 104 r]
  refine go_istore d_Mo_addTerm_4 (Nat.le_of_ble_eq_true rfl) ?_
  refine go_ldc2 d_Mo_addTerm_6 i_Mo_126 ?_
  refine go_lload d_Mo_addTerm_9 rfl ?_
  refine go_lmul d_Mo_addTerm_11 ?_
  refine go_lload d_Mo_addTerm_12 rfl ?_
  refine go_ladd d_Mo_addTerm_14 ?_
  rw [show (5 : Int64) * lN a + lN b = lN (5 * a + b) by rw [show (5 : Int64) * lN a = lN (5 * a) from lN_mul 5 a, lN_add]]
  refine go_l2i d_Mo_addTerm_15 (lN_i _) ?_
  refine go_istore d_Mo_addTerm_16 (Nat.le_of_ble_eq_true rfl) ?_
  refine go_aload_n 0 d_Mo_addTerm_18 rfl rfl ?_
  refine go_getR d_Mo_addTerm_19 f_Mo_56 (by assumption) (by assumption) ?_
  refine go_iload d_Mo_addTerm_22 rfl ?_
  refine go_iload_n 2 d_Mo_addTerm_24 rfl rfl ?_
  refine go_iadd d_Mo_addTerm_25 ?_
  refine go_iload d_Mo_addTerm_26 rfl ?_
  refine go_iadd d_Mo_addTerm_28 ?_
  refine go_dup2 d_Mo_addTerm_29 rfl rfl ?_
  refine go_lald (104 * r + 49 + 5 * a + b) d_Mo_addTerm_30 (by assumption) (by rw [show nI (104 * r) + 49 = nI (104 * r + 49) from nI_add _ 49, nI_add]; exact congrArg nI (by omega)) (by omega) (by decide) ?_
  refine go_lload_n 3 d_Mo_addTerm_31 rfl rfl ?_
  refine go_ladd d_Mo_addTerm_32 ?_
  refine go_last (104 * r + 49 + 5 * a + b) d_Mo_addTerm_33 (by assumption) (by rw [show nI (104 * r) + 49 = nI (104 * r + 49) from nI_add _ 49, nI_add]; exact congrArg nI (by omega)) (by omega) (by decide) ?_
  refine go_aload_n 0 d_Mo_addTerm_34 rfl rfl ?_
  refine go_getR d_Mo_addTerm_35 f_Mo_56 (by assumption) (by assumption) ?_
  refine go_iload d_Mo_addTerm_38 rfl ?_
  refine go_iload_n 2 d_Mo_addTerm_40 rfl rfl ?_
  refine go_bipush (v := 49) d_Mo_addTerm_41 rfl ?_
  refine go_icmp_ne 51 d_Mo_addTerm_43 rfl (fun hn => absurd hn (fun hh => hh rfl)) (fun _ => ?_)
  refine go_bipush (v := 99) d_Mo_addTerm_46 rfl ?_
  refine go_goto 53 d_Mo_addTerm_48 rfl ?_
  refine go_iadd d_Mo_addTerm_53 ?_
  refine go_dup2 d_Mo_addTerm_54 rfl rfl ?_
  refine go_lald (104 * r + 99) d_Mo_addTerm_55 (by assumption) (nI_add _ 99) (by omega) (by decide) ?_
  refine go_lload_n 3 d_Mo_addTerm_56 rfl rfl ?_
  refine go_lload d_Mo_addTerm_57 rfl ?_
  refine go_lload d_Mo_addTerm_59 rfl ?_
  refine go_lsub d_Mo_addTerm_61 ?_
  refine go_lmul d_Mo_addTerm_62 ?_
  refine go_ladd d_Mo_addTerm_63 ?_
  refine go_last (104 * r + 99) d_Mo_addTerm_64 (by assumption) (nI_add _ 99) (by omega) (by decide) ?_
  exact go_vret d_Mo_addTerm_65 rfl (hQ _ ⟨by simp (disch := omega) only [up2_eq, up2_ne]; exact a1, by simp (disch := omega) only [up2_eq, up2_ne]; exact a2, by simp (disch := omega) only [up2_eq, up2_ne]; exact a3, a4, a5.cpy (fun x x' ⟨j, h1, h2, h3, h4⟩ => by rw [h3, h4]; simp (disch := omega) only [up2_eq, up2_ne]), fun j hj => (by simp (disch := omega) only [up2_eq, up2_ne]; exact a6 j hj), a7, a8.cpy (fun j hj => by simp (disch := omega) only [up2_eq, up2_ne]), ⟨fun x z hx hz => (by by_cases he : x = a ∧ z = b; (obtain ⟨rfl, rfl⟩ := he; show _ = ba_T b0.1 x z f x z; simp (disch := omega) only [up2_eq, up2_ne]; rw [ba_T_eq, a9.1 _ _ hx hz]); (have hne : 5 * x + z ≠ 5 * a + b := fun e => he ⟨by omega, by omega⟩; show _ = ba_T b0.1 a b f x z; rw [ba_T_ne he]; simp (disch := omega) only [up2_eq, up2_ne]; exact a9.1 x z hx hz)), by simp (disch := omega) only [up2_eq, up2_ne]; rw [a9.2]⟩, a10.cpy (fun j hj => by simp (disch := omega) only [up2_eq, up2_ne]) (by simp (disch := omega) only [up2_eq, up2_ne])⟩ (fun i hi => by simp (disch := omega) only [up2_eq, up2_ne]) (fun q hq => by rw [gw_up_ne hq, gw_up_ne hq]))
theorem c_Mo_addTerm1 {r md a b : Nat} {p : Int32} {f nA nB : Int64} {st : List ab_Sy} {lo : Nat → ab_Sy} {E : sp_E} {b0 b1 : ab_Ba} (hp : pt_Mo sh R) (hr : r < 42) (ha : a < 5) (hb : b < 5) (h : rw_at (L 549) (104 * r) p md st lo E b0 b1) (hQ : ∀ L', rw_at (L' 549) (104 * r) p md st lo E b0 (ba_T b1.1 a b f, b1.2 + f * (nA - nB)) → (∀ i, i < 104 * r + 49 ∨ 104 * r + 104 ≤ i → L' 549 i = L 549 i) → (∀ q, q ≠ 549 → L' q = L q) → Q none (n, sh, X, R, I, L')) : gw_Call y_Mo_addTerm d 0 0 [.ref 533, .int (nI r), .int 74, .long f, .long (lN a), .long nA, .long (lN b), .long nB] (n, sh, X, R, I, L) Q := by
  obtain ⟨s533, s534, s535, s536, s537, s538, s539, s540, s541, s542, s543, s544, s545, s546, s547, s548, s549, s550, s551, s552, s553, s554, s555, s556, s557, r534, r535, r536, r537, r538, r539, r540, r541, r542, r543, r544, r545, r546, r547, r548, r549, r550, r551, r552, r553, r554, r555, r556, r557⟩ := hp
  obtain ⟨a1, a2, a3, a4, a5, a6, a7, a8, a9, a10⟩ := h
  refine gw_call o_Mo_addTerm (Nat.le_of_ble_eq_true rfl) ?_
  refine go_bipush (v := 104) d_Mo_addTerm_0 rfl ?_
  refine go_iload_n 1 d_Mo_addTerm_2 rfl rfl ?_
  refine go_imul d_Mo_addTerm_3 ?_
  rw [show (104 : Int32) * nI r = nI (104 * r) from nI_mul 104 r]
  refine go_istore d_Mo_addTerm_4 (Nat.le_of_ble_eq_true rfl) ?_
  refine go_ldc2 d_Mo_addTerm_6 i_Mo_126 ?_
  refine go_lload d_Mo_addTerm_9 rfl ?_
  refine go_lmul d_Mo_addTerm_11 ?_
  refine go_lload d_Mo_addTerm_12 rfl ?_
  refine go_ladd d_Mo_addTerm_14 ?_
  rw [show (5 : Int64) * lN a + lN b = lN (5 * a + b) by rw [show (5 : Int64) * lN a = lN (5 * a) from lN_mul 5 a, lN_add]]
  refine go_l2i d_Mo_addTerm_15 (lN_i _) ?_
  refine go_istore d_Mo_addTerm_16 (Nat.le_of_ble_eq_true rfl) ?_
  refine go_aload_n 0 d_Mo_addTerm_18 rfl rfl ?_
  refine go_getR d_Mo_addTerm_19 f_Mo_56 (by assumption) (by assumption) ?_
  refine go_iload d_Mo_addTerm_22 rfl ?_
  refine go_iload_n 2 d_Mo_addTerm_24 rfl rfl ?_
  refine go_iadd d_Mo_addTerm_25 ?_
  refine go_iload d_Mo_addTerm_26 rfl ?_
  refine go_iadd d_Mo_addTerm_28 ?_
  refine go_dup2 d_Mo_addTerm_29 rfl rfl ?_
  refine go_lald (104 * r + 74 + 5 * a + b) d_Mo_addTerm_30 (by assumption) (by rw [show nI (104 * r) + 74 = nI (104 * r + 74) from nI_add _ 74, nI_add]; exact congrArg nI (by omega)) (by omega) (by decide) ?_
  refine go_lload_n 3 d_Mo_addTerm_31 rfl rfl ?_
  refine go_ladd d_Mo_addTerm_32 ?_
  refine go_last (104 * r + 74 + 5 * a + b) d_Mo_addTerm_33 (by assumption) (by rw [show nI (104 * r) + 74 = nI (104 * r + 74) from nI_add _ 74, nI_add]; exact congrArg nI (by omega)) (by omega) (by decide) ?_
  refine go_aload_n 0 d_Mo_addTerm_34 rfl rfl ?_
  refine go_getR d_Mo_addTerm_35 f_Mo_56 (by assumption) (by assumption) ?_
  refine go_iload d_Mo_addTerm_38 rfl ?_
  refine go_iload_n 2 d_Mo_addTerm_40 rfl rfl ?_
  refine go_bipush (v := 49) d_Mo_addTerm_41 rfl ?_
  refine go_icmp_ne 51 d_Mo_addTerm_43 rfl (fun _ => ?_) (fun hn => by first | exact absurd hn (by decide) | exact absurd (by decide) hn)
  refine go_bipush (v := 100) d_Mo_addTerm_51 rfl ?_
  refine go_iadd d_Mo_addTerm_53 ?_
  refine go_dup2 d_Mo_addTerm_54 rfl rfl ?_
  refine go_lald (104 * r + 100) d_Mo_addTerm_55 (by assumption) (nI_add _ 100) (by omega) (by decide) ?_
  refine go_lload_n 3 d_Mo_addTerm_56 rfl rfl ?_
  refine go_lload d_Mo_addTerm_57 rfl ?_
  refine go_lload d_Mo_addTerm_59 rfl ?_
  refine go_lsub d_Mo_addTerm_61 ?_
  refine go_lmul d_Mo_addTerm_62 ?_
  refine go_ladd d_Mo_addTerm_63 ?_
  refine go_last (104 * r + 100) d_Mo_addTerm_64 (by assumption) (nI_add _ 100) (by omega) (by decide) ?_
  exact go_vret d_Mo_addTerm_65 rfl (hQ _ ⟨by simp (disch := omega) only [up2_eq, up2_ne]; exact a1, by simp (disch := omega) only [up2_eq, up2_ne]; exact a2, by simp (disch := omega) only [up2_eq, up2_ne]; exact a3, a4, a5.cpy (fun x x' ⟨j, h1, h2, h3, h4⟩ => by rw [h3, h4]; simp (disch := omega) only [up2_eq, up2_ne]), fun j hj => (by simp (disch := omega) only [up2_eq, up2_ne]; exact a6 j hj), a7, a8.cpy (fun j hj => by simp (disch := omega) only [up2_eq, up2_ne]), a9.cpy (fun j hj => by simp (disch := omega) only [up2_eq, up2_ne]) (by simp (disch := omega) only [up2_eq, up2_ne]), ⟨fun x z hx hz => (by by_cases he : x = a ∧ z = b; (obtain ⟨rfl, rfl⟩ := he; show _ = ba_T b1.1 x z f x z; simp (disch := omega) only [up2_eq, up2_ne]; rw [ba_T_eq, a10.1 _ _ hx hz]); (have hne : 5 * x + z ≠ 5 * a + b := fun e => he ⟨by omega, by omega⟩; show _ = ba_T b1.1 a b f x z; rw [ba_T_ne he]; simp (disch := omega) only [up2_eq, up2_ne]; exact a10.1 x z hx hz)), by simp (disch := omega) only [up2_eq, up2_ne]; rw [a10.2]⟩⟩ (fun i hi => by simp (disch := omega) only [up2_eq, up2_ne]) (fun q hq => by rw [gw_up_ne hq, gw_up_ne hq]))
theorem c_Mo_localSide {r v : Nat} (hp : pt_Mo sh R) (hr : r < 42) (hv : v < 5) (hQ : Q (some (.long (ls_v (L 549) (104 * r) v))) (n, sh, X, R, I, L)) : gw_Call y_Mo_localSide d 0 0 [.ref 533, .int (nI r), .int (nI v)] (n, sh, X, R, I, L) Q := by
  obtain ⟨s533, s534, s535, s536, s537, s538, s539, s540, s541, s542, s543, s544, s545, s546, s547, s548, s549, s550, s551, s552, s553, s554, s555, s556, s557, r534, r535, r536, r537, r538, r539, r540, r541, r542, r543, r544, r545, r546, r547, r548, r549, r550, r551, r552, r553, r554, r555, r556, r557⟩ := hp
  refine gw_call o_Mo_localSide (Nat.le_of_ble_eq_true rfl) ?_
  by_cases h4 : v = 4
  · subst h4
    refine go_iload_n 2 d_Mo_localSide_0 rfl rfl ?_
    refine go_iconst (v := 4) d_Mo_localSide_1 rfl ?_
    refine go_icmp_ne 11 d_Mo_localSide_2 rfl (fun hn => absurd hn (fun hh => hh rfl)) (fun _ => ?_)
    refine go_ldc2 d_Mo_localSide_5 i_Mo_110 ?_
    refine go_goto 26 d_Mo_localSide_8 rfl ?_
    exact go_lret d_Mo_localSide_26 rfl (hQ)
  · rw [show ls_v (L 549) (104 * r) v = L 549 (104 * r + 4 + 2 * v) from if_neg h4] at hQ
    refine go_iload_n 2 d_Mo_localSide_0 rfl rfl ?_
    refine go_iconst (v := 4) d_Mo_localSide_1 rfl ?_
    refine go_icmp_ne 11 d_Mo_localSide_2 rfl (fun _ => ?_) (fun hn => by first | exact absurd hn (fun hh => h4 ((nI_eq (b := 4) (by omega) (by decide)).mp hh)) | exact absurd (fun hh => h4 ((nI_eq (b := 4) (by omega) (by decide)).mp hh)) hn)
    refine go_aload_n 0 d_Mo_localSide_11 rfl rfl ?_
    refine go_getR d_Mo_localSide_12 f_Mo_56 (by assumption) (by assumption) ?_
    refine go_bipush (v := 104) d_Mo_localSide_15 rfl ?_
    refine go_iload_n 1 d_Mo_localSide_17 rfl rfl ?_
    refine go_imul d_Mo_localSide_18 ?_
    refine go_iconst (v := 4) d_Mo_localSide_19 rfl ?_
    refine go_iadd d_Mo_localSide_20 ?_
    refine go_iconst (v := 2) d_Mo_localSide_21 rfl ?_
    refine go_iload_n 2 d_Mo_localSide_22 rfl rfl ?_
    refine go_imul d_Mo_localSide_23 ?_
    refine go_iadd d_Mo_localSide_24 ?_
    refine go_lald (104 * r + 4 + 2 * v) d_Mo_localSide_25 (by assumption) (by rw [show (104 : Int32) * nI r + 4 = nI (104 * r + 4) from ix3 (a := 4), show (2 : Int32) * nI v = nI (2 * v) from nI_mul 2 v, nI_add]) (by omega) (by decide) ?_
    exact go_lret d_Mo_localSide_26 rfl (hQ)
theorem c_Mo_localNumber {r v : Nat} (hp : pt_Mo sh R) (hr : r < 42) (hv : v < 5) (hQ : Q (some (.long (ln_v (L 549) (104 * r) v))) (n, sh, X, R, I, L)) : gw_Call y_Mo_localNumber d 0 0 [.ref 533, .int (nI r), .int (nI v)] (n, sh, X, R, I, L) Q := by
  obtain ⟨s533, s534, s535, s536, s537, s538, s539, s540, s541, s542, s543, s544, s545, s546, s547, s548, s549, s550, s551, s552, s553, s554, s555, s556, s557, r534, r535, r536, r537, r538, r539, r540, r541, r542, r543, r544, r545, r546, r547, r548, r549, r550, r551, r552, r553, r554, r555, r556, r557⟩ := hp
  refine gw_call o_Mo_localNumber (Nat.le_of_ble_eq_true rfl) ?_
  by_cases h4 : v = 4
  · subst h4
    refine go_iload_n 2 d_Mo_localNumber_0 rfl rfl ?_
    refine go_iconst (v := 4) d_Mo_localNumber_1 rfl ?_
    refine go_icmp_ne 9 d_Mo_localNumber_2 rfl (fun hn => absurd hn (fun hh => hh rfl)) (fun _ => ?_)
    refine go_lconst (v := 0) d_Mo_localNumber_5 rfl ?_
    refine go_goto 24 d_Mo_localNumber_6 rfl ?_
    exact go_lret d_Mo_localNumber_24 rfl (hQ)
  · rw [show ln_v (L 549) (104 * r) v = L 549 (104 * r + 5 + 2 * v) from if_neg h4] at hQ
    refine go_iload_n 2 d_Mo_localNumber_0 rfl rfl ?_
    refine go_iconst (v := 4) d_Mo_localNumber_1 rfl ?_
    refine go_icmp_ne 9 d_Mo_localNumber_2 rfl (fun _ => ?_) (fun hn => by first | exact absurd hn (fun hh => h4 ((nI_eq (b := 4) (by omega) (by decide)).mp hh)) | exact absurd (fun hh => h4 ((nI_eq (b := 4) (by omega) (by decide)).mp hh)) hn)
    refine go_aload_n 0 d_Mo_localNumber_9 rfl rfl ?_
    refine go_getR d_Mo_localNumber_10 f_Mo_56 (by assumption) (by assumption) ?_
    refine go_bipush (v := 104) d_Mo_localNumber_13 rfl ?_
    refine go_iload_n 1 d_Mo_localNumber_15 rfl rfl ?_
    refine go_imul d_Mo_localNumber_16 ?_
    refine go_iconst (v := 5) d_Mo_localNumber_17 rfl ?_
    refine go_iadd d_Mo_localNumber_18 ?_
    refine go_iconst (v := 2) d_Mo_localNumber_19 rfl ?_
    refine go_iload_n 2 d_Mo_localNumber_20 rfl rfl ?_
    refine go_imul d_Mo_localNumber_21 ?_
    refine go_iadd d_Mo_localNumber_22 ?_
    refine go_lald (104 * r + 5 + 2 * v) d_Mo_localNumber_23 (by assumption) (by rw [show (104 : Int32) * nI r + 5 = nI (104 * r + 5) from ix3 (a := 5), show (2 : Int32) * nI v = nI (2 * v) from nI_mul 2 v, nI_add]) (by omega) (by decide) ?_
    exact go_lret d_Mo_localNumber_24 rfl (hQ)
theorem c_Mo_side {r f v : Nat} (hp : pt_Mo sh R) (hf : f + 6 < 4368) (hv : v < 5) (hQ : Q (some (.long (cs_v (L 549) f v))) (n, sh, X, R, I, L)) : gw_Call y_Mo_side d 0 0 [.ref 533, .int (nI r), .int (nI f), .int (nI v)] (n, sh, X, R, I, L) Q := by
  obtain ⟨s533, s534, s535, s536, s537, s538, s539, s540, s541, s542, s543, s544, s545, s546, s547, s548, s549, s550, s551, s552, s553, s554, s555, s556, s557, r534, r535, r536, r537, r538, r539, r540, r541, r542, r543, r544, r545, r546, r547, r548, r549, r550, r551, r552, r553, r554, r555, r556, r557⟩ := hp
  refine gw_call o_Mo_side (Nat.le_of_ble_eq_true rfl) ?_
  by_cases h3 : v < 3
  · rw [show cs_v (L 549) f v = L 549 (f + 2 * v) from if_pos h3] at hQ
    refine go_iload_n 3 d_Mo_side_0 rfl rfl ?_
    refine go_iconst (v := 3) d_Mo_side_1 rfl ?_
    refine go_icmp_lt 11 d_Mo_side_2 rfl (fun _ => ?_) (fun hn => absurd ((nI_ltI (b := 3) (by omega) (by decide)).mpr h3) hn)
    refine go_aload_n 0 d_Mo_side_11 rfl rfl ?_
    refine go_getR d_Mo_side_12 f_Mo_56 (by assumption) (by assumption) ?_
    refine go_iload_n 2 d_Mo_side_15 rfl rfl ?_
    refine go_iconst (v := 2) d_Mo_side_16 rfl ?_
    refine go_iload_n 3 d_Mo_side_17 rfl rfl ?_
    refine go_imul d_Mo_side_18 ?_
    refine go_iadd d_Mo_side_19 ?_
    refine go_lald (f + 2 * v) d_Mo_side_20 (by assumption) (by rw [show (2 : Int32) * nI v = nI (2 * v) from nI_mul 2 v, nI_add]) (by omega) (by decide) ?_
    exact go_lret d_Mo_side_21 rfl (hQ)
  · rw [show cs_v (L 549) f v = 4 from if_neg h3] at hQ
    refine go_iload_n 3 d_Mo_side_0 rfl rfl ?_
    refine go_iconst (v := 3) d_Mo_side_1 rfl ?_
    refine go_icmp_lt 11 d_Mo_side_2 rfl (fun hn => absurd hn (fun hh => h3 ((nI_ltI (b := 3) (by omega) (by decide)).mp hh))) (fun _ => ?_)
    refine go_ldc2 d_Mo_side_5 i_Mo_110 ?_
    refine go_goto 21 d_Mo_side_8 rfl ?_
    exact go_lret d_Mo_side_21 rfl (hQ)
theorem c_Mo_extra {r f v : Nat} (hp : pt_Mo sh R) (hf : f + 6 < 4368) (hv : v < 5) (hQ : Q (some (.long (cn_v (L 549) f v))) (n, sh, X, R, I, L)) : gw_Call y_Mo_extra d 0 0 [.ref 533, .int (nI r), .int (nI f), .int (nI v)] (n, sh, X, R, I, L) Q := by
  obtain ⟨s533, s534, s535, s536, s537, s538, s539, s540, s541, s542, s543, s544, s545, s546, s547, s548, s549, s550, s551, s552, s553, s554, s555, s556, s557, r534, r535, r536, r537, r538, r539, r540, r541, r542, r543, r544, r545, r546, r547, r548, r549, r550, r551, r552, r553, r554, r555, r556, r557⟩ := hp
  refine gw_call o_Mo_extra (Nat.le_of_ble_eq_true rfl) ?_
  by_cases h3 : v < 3
  · rw [show cn_v (L 549) f v = L 549 (f + 2 * v + 1) from if_pos h3] at hQ
    refine go_iload_n 3 d_Mo_extra_0 rfl rfl ?_
    refine go_iconst (v := 3) d_Mo_extra_1 rfl ?_
    refine go_icmp_lt 9 d_Mo_extra_2 rfl (fun _ => ?_) (fun hn => absurd ((nI_ltI (b := 3) (by omega) (by decide)).mpr h3) hn)
    refine go_aload_n 0 d_Mo_extra_9 rfl rfl ?_
    refine go_getR d_Mo_extra_10 f_Mo_56 (by assumption) (by assumption) ?_
    refine go_iload_n 2 d_Mo_extra_13 rfl rfl ?_
    refine go_iconst (v := 2) d_Mo_extra_14 rfl ?_
    refine go_iload_n 3 d_Mo_extra_15 rfl rfl ?_
    refine go_imul d_Mo_extra_16 ?_
    refine go_iadd d_Mo_extra_17 ?_
    refine go_iconst (v := 1) d_Mo_extra_18 rfl ?_
    refine go_iadd d_Mo_extra_19 ?_
    refine go_lald (f + 2 * v + 1) d_Mo_extra_20 (by assumption) (by rw [show (2 : Int32) * nI v = nI (2 * v) from nI_mul 2 v, nI_add]; exact nI_1 _) (by omega) (by decide) ?_
    exact go_lret d_Mo_extra_21 rfl (hQ)
  · rw [show cn_v (L 549) f v = 0 from if_neg h3] at hQ
    refine go_iload_n 3 d_Mo_extra_0 rfl rfl ?_
    refine go_iconst (v := 3) d_Mo_extra_1 rfl ?_
    refine go_icmp_lt 9 d_Mo_extra_2 rfl (fun hn => absurd hn (fun hh => h3 ((nI_ltI (b := 3) (by omega) (by decide)).mp hh))) (fun _ => ?_)
    refine go_lconst (v := 0) d_Mo_extra_5 rfl ?_
    refine go_goto 21 d_Mo_extra_6 rfl ?_
    exact go_lret d_Mo_extra_21 rfl (hQ)
theorem c_Mo_negative {pp : Nat} {P : ab_Po} {C : sp_E} (hp : pt_Mo sh R) (hpp : pp < 48) (hP : mp_at I pp P) (hbt : bt_at L C) (hC : kn_bd C 400000000000) (hQ : ∀ g : Int32, (g ≠ 0 ↔ kn_an C P.2 P.1.toInt64) → (g = 0 ∨ g = 1) → Q (some (.int g)) (n, sh, X, R, I, L)) : gw_Call y_Mo_negative d 0 0 [.ref 533, .int (nI pp)] (n, sh, X, R, I, L) Q := by
  obtain ⟨s533, s534, s535, s536, s537, s538, s539, s540, s541, s542, s543, s544, s545, s546, s547, s548, s549, s550, s551, s552, s553, s554, s555, s556, s557, r534, r535, r536, r537, r538, r539, r540, r541, r542, r543, r544, r545, r546, r547, r548, r549, r550, r551, r552, r553, r554, r555, r556, r557⟩ := hp
  obtain ⟨w1, w2, w3, w4⟩ := hP
  have hCs : ∀ a b w, a < 5 → b < 5 → C a b = some w → kn_s w := fun a b w ha hb h => by have := hC a b w ha hb h; exact ⟨by omega, by omega⟩
  refine gw_call o_Mo_negative (Nat.le_of_ble_eq_true rfl) ?_
  have loop : ∀ (ts : List (Nat × Nat × Nat)) (j : Nat) (z g : Int32) (s : Int64) (o6 o7 : Option Value), z = nI j → j ≤ P.2.length → P.2.drop j = ts → (g = 0 ∨ g = 1) → (kn_an C P.2 P.1.toInt64 ↔ (g ≠ 0 ∨ kn_an C ts s)) → gw_Go y_Mo_negative d 0 0 14 [some (.ref 533), some (.int (nI pp)), some (.long s), none, some (.int g), some (.int z), o6, o7] [] (n, sh, X, R, I, L) Q := by
    intro ts
    induction ts with
    | nil =>
      intro j z g s o6 o7 hz hj hd hg hs
      have hl := gw_dropE hd
      refine go_iload d_Mo_negative_14 rfl ?_
      refine go_aload_n 0 d_Mo_negative_16 rfl rfl ?_
      refine go_getR d_Mo_negative_17 f_Mo_44 (by assumption) (by assumption) ?_
      refine go_iload_n 1 d_Mo_negative_20 rfl rfl ?_
      refine go_iald (pp) d_Mo_negative_21 (by assumption) (rfl) (hpp) (by decide) ?_
      refine go_icmp_ge 115 d_Mo_negative_22 rfl (fun _ => ?_) (fun hn => absurd (by rw [w2, hz]; exact (nI_leI (by omega) (by omega)).mpr hl) hn)
      refine go_iload d_Mo_negative_115 rfl ?_
      refine go_if_ne 126 d_Mo_negative_117 rfl (fun h117 => ?_) (fun h117 => ?_)
      · refine go_iconst (v := 1) d_Mo_negative_126 rfl ?_
        refine go_goto 131 d_Mo_negative_127 rfl ?_
        exact go_zret d_Mo_negative_131 rfl (by first | exact Or.inl rfl | exact Or.inr rfl | assumption) (by first | exact hQ 1 ⟨fun _ => hs.mpr (Or.inl h117), fun _ => by decide⟩ (Or.inr rfl) | exact hQ 1 ⟨fun _ => hs.mpr (Or.inr (by first | exact h122 | exact Int64.not_le.mp h122)), fun _ => by decide⟩ (Or.inr rfl) | exact hQ 0 ⟨fun h => absurd rfl h, fun h => by (rcases hs.mp h with h | h; exact absurd h117 h; exact absurd h (by first | exact h122 | exact Int64.not_lt.mpr h122))⟩ (Or.inl rfl))
      · refine go_lload_n 2 d_Mo_negative_120 rfl rfl ?_
        refine go_lconst (v := 0) d_Mo_negative_121 rfl ?_
        refine go_lcmp_ge 130 d_Mo_negative_122 d_Mo_negative_123 rfl (fun h122 => ?_) (fun h122 => ?_)
        · refine go_iconst (v := 0) d_Mo_negative_130 rfl ?_
          exact go_zret d_Mo_negative_131 rfl (by first | exact Or.inl rfl | exact Or.inr rfl | assumption) (by first | exact hQ 1 ⟨fun _ => hs.mpr (Or.inl h117), fun _ => by decide⟩ (Or.inr rfl) | exact hQ 1 ⟨fun _ => hs.mpr (Or.inr (by first | exact h122 | exact Int64.not_le.mp h122)), fun _ => by decide⟩ (Or.inr rfl) | exact hQ 0 ⟨fun h => absurd rfl h, fun h => by (rcases hs.mp h with h | h; exact absurd h117 h; exact absurd h (by first | exact h122 | exact Int64.not_lt.mpr h122))⟩ (Or.inl rfl))
        · refine go_iconst (v := 1) d_Mo_negative_126 rfl ?_
          refine go_goto 131 d_Mo_negative_127 rfl ?_
          exact go_zret d_Mo_negative_131 rfl (by first | exact Or.inl rfl | exact Or.inr rfl | assumption) (by first | exact hQ 1 ⟨fun _ => hs.mpr (Or.inl h117), fun _ => by decide⟩ (Or.inr rfl) | exact hQ 1 ⟨fun _ => hs.mpr (Or.inr (by first | exact h122 | exact Int64.not_le.mp h122)), fun _ => by decide⟩ (Or.inr rfl) | exact hQ 0 ⟨fun h => absurd rfl h, fun h => by (rcases hs.mp h with h | h; exact absurd h117 h; exact absurd h (by first | exact h122 | exact Int64.not_lt.mpr h122))⟩ (Or.inl rfl))
    | cons t ts ih =>
      intro j z g s o6 o7 hz hj hd hg hs
      obtain ⟨hj1, hj2, hj3⟩ := gw_drop hd
      obtain ⟨t1, t2, t3, t4, t5⟩ := w4 j t hj2
      have hix : (3 : Int32) * nI pp + z = nI (3 * pp + j) := by rw [hz]; exact ix (a := 3)
      have hcs := hCs t.2.2 t.2.1
      have hs' : kn_an C P.2 P.1.toInt64 ↔ (g ≠ 0 ∨ (match C t.2.2 t.2.1 with | none => True | some w => kn_an C ts (s - (nI t.1).toInt64 * Int64.ofInt w))) := hs
      refine go_iload d_Mo_negative_14 rfl ?_
      refine go_aload_n 0 d_Mo_negative_16 rfl rfl ?_
      refine go_getR d_Mo_negative_17 f_Mo_44 (by assumption) (by assumption) ?_
      refine go_iload_n 1 d_Mo_negative_20 rfl rfl ?_
      refine go_iald (pp) d_Mo_negative_21 (by assumption) (rfl) (hpp) (by decide) ?_
      refine go_icmp_ge 115 d_Mo_negative_22 rfl (fun hn => absurd hn (by rw [w2, hz]; exact nI_ge (by omega) (by omega))) (fun _ => ?_)
      refine go_aload_n 0 d_Mo_negative_25 rfl rfl ?_
      refine go_getR d_Mo_negative_26 f_Mo_60 (by assumption) (by assumption) ?_
      refine go_iconst (v := 5) d_Mo_negative_29 rfl ?_
      refine go_aload_n 0 d_Mo_negative_30 rfl rfl ?_
      refine go_getR d_Mo_negative_31 f_Mo_53 (by assumption) (by assumption) ?_
      refine go_iconst (v := 3) d_Mo_negative_34 rfl ?_
      refine go_iload_n 1 d_Mo_negative_35 rfl rfl ?_
      refine go_imul d_Mo_negative_36 ?_
      refine go_iload d_Mo_negative_37 rfl ?_
      refine go_iadd d_Mo_negative_39 ?_
      refine go_iald (3 * pp + j) d_Mo_negative_40 (by assumption) (hix) (by omega) (by decide) ?_
      rw [t3]
      refine go_imul d_Mo_negative_41 ?_
      refine go_aload_n 0 d_Mo_negative_42 rfl rfl ?_
      refine go_getR d_Mo_negative_43 f_Mo_50 (by assumption) (by assumption) ?_
      refine go_iconst (v := 3) d_Mo_negative_46 rfl ?_
      refine go_iload_n 1 d_Mo_negative_47 rfl rfl ?_
      refine go_imul d_Mo_negative_48 ?_
      refine go_iload d_Mo_negative_49 rfl ?_
      refine go_iadd d_Mo_negative_51 ?_
      refine go_iald (3 * pp + j) d_Mo_negative_52 (by assumption) (hix) (by omega) (by decide) ?_
      rw [t2]
      refine go_iadd d_Mo_negative_53 ?_
      refine go_lald (5 * t.2.2 + t.2.1) d_Mo_negative_54 (by assumption) (ix (a := 5)) (by omega) (by decide) ?_
      rw [hbt t.2.2 t.2.1 t5 t4]
      refine go_lstore d_Mo_negative_55 (Nat.le_of_ble_eq_true rfl) ?_
      cases hc : C t.2.2 t.2.1 with
      | none =>
        rw [hc] at hs'
        have hle : ¬ mo_e (none : Option Int) < 1000000000000000 := by decide
        refine go_iload d_Mo_negative_57 rfl ?_
        refine go_if_ne 71 d_Mo_negative_59 rfl (fun h59 => ?_) (fun h59 => ?_)
        · refine go_iconst (v := 1) d_Mo_negative_71 rfl ?_
          refine go_goto 76 d_Mo_negative_72 rfl ?_
          refine go_istore d_Mo_negative_76 (Nat.le_of_ble_eq_true rfl) ?_
          refine go_lload_n 2 d_Mo_negative_78 rfl rfl ?_
          refine go_lload d_Mo_negative_79 rfl ?_
          refine go_ldc2 d_Mo_negative_81 i_Mo_124 ?_
          refine go_lcmp_lt 92 d_Mo_negative_84 d_Mo_negative_85 rfl (fun hn => absurd hn (hle)) (fun _ => ?_)
          refine go_lconst (v := 0) d_Mo_negative_88 rfl ?_
          refine go_goto 107 d_Mo_negative_89 rfl ?_
          refine go_lsub d_Mo_negative_107 ?_
          refine go_lstore_n 2 d_Mo_negative_108 rfl (Nat.le_of_ble_eq_true rfl) ?_
          refine go_iinc d_Mo_negative_109 rfl rfl (Nat.le_of_ble_eq_true rfl) ?_
          refine go_goto 14 d_Mo_negative_112 rfl ?_
          exact ih (j + 1) _ _ _ _ _ (gw_inc hz) (by omega) hj3 (Or.inr rfl) (hs'.trans ⟨fun _ => Or.inl (by decide), fun _ => Or.inr trivial⟩)
        · refine go_lload d_Mo_negative_62 rfl ?_
          refine go_ldc2 d_Mo_negative_64 i_Mo_124 ?_
          refine go_lcmp_lt 75 d_Mo_negative_67 d_Mo_negative_68 rfl (fun hn => absurd hn (hle)) (fun _ => ?_)
          refine go_iconst (v := 1) d_Mo_negative_71 rfl ?_
          refine go_goto 76 d_Mo_negative_72 rfl ?_
          refine go_istore d_Mo_negative_76 (Nat.le_of_ble_eq_true rfl) ?_
          refine go_lload_n 2 d_Mo_negative_78 rfl rfl ?_
          refine go_lload d_Mo_negative_79 rfl ?_
          refine go_ldc2 d_Mo_negative_81 i_Mo_124 ?_
          refine go_lcmp_lt 92 d_Mo_negative_84 d_Mo_negative_85 rfl (fun hn => absurd hn (hle)) (fun _ => ?_)
          refine go_lconst (v := 0) d_Mo_negative_88 rfl ?_
          refine go_goto 107 d_Mo_negative_89 rfl ?_
          refine go_lsub d_Mo_negative_107 ?_
          refine go_lstore_n 2 d_Mo_negative_108 rfl (Nat.le_of_ble_eq_true rfl) ?_
          refine go_iinc d_Mo_negative_109 rfl rfl (Nat.le_of_ble_eq_true rfl) ?_
          refine go_goto 14 d_Mo_negative_112 rfl ?_
          exact ih (j + 1) _ _ _ _ _ (gw_inc hz) (by omega) hj3 (Or.inr rfl) (hs'.trans ⟨fun _ => Or.inl (by decide), fun _ => Or.inr trivial⟩)
      | some w =>
        rw [hc] at hs'
        have hlt : mo_e (some w) < 1000000000000000 := (mo_lt (c := some w) (fun x e => by cases e; exact hcs w t5 t4 hc)).mpr ⟨w, rfl⟩
        refine go_iload d_Mo_negative_57 rfl ?_
        refine go_if_ne 71 d_Mo_negative_59 rfl (fun h59 => ?_) (fun h59 => ?_)
        · refine go_iconst (v := 1) d_Mo_negative_71 rfl ?_
          refine go_goto 76 d_Mo_negative_72 rfl ?_
          refine go_istore d_Mo_negative_76 (Nat.le_of_ble_eq_true rfl) ?_
          refine go_lload_n 2 d_Mo_negative_78 rfl rfl ?_
          refine go_lload d_Mo_negative_79 rfl ?_
          refine go_ldc2 d_Mo_negative_81 i_Mo_124 ?_
          refine go_lcmp_lt 92 d_Mo_negative_84 d_Mo_negative_85 rfl (fun _ => ?_) (fun hn => by first | exact absurd hn (hlt) | exact absurd (hlt) hn)
          refine go_aload_n 0 d_Mo_negative_92 rfl rfl ?_
          refine go_getR d_Mo_negative_93 f_Mo_47 (by assumption) (by assumption) ?_
          refine go_iconst (v := 3) d_Mo_negative_96 rfl ?_
          refine go_iload_n 1 d_Mo_negative_97 rfl rfl ?_
          refine go_imul d_Mo_negative_98 ?_
          refine go_iload d_Mo_negative_99 rfl ?_
          refine go_iadd d_Mo_negative_101 ?_
          refine go_iald (3 * pp + j) d_Mo_negative_102 (by assumption) (hix) (by omega) (by decide) ?_
          rw [t1]
          refine go_i2l d_Mo_negative_103 (rfl) ?_
          refine go_lload d_Mo_negative_104 rfl ?_
          refine go_lmul d_Mo_negative_106 ?_
          refine go_lsub d_Mo_negative_107 ?_
          refine go_lstore_n 2 d_Mo_negative_108 rfl (Nat.le_of_ble_eq_true rfl) ?_
          refine go_iinc d_Mo_negative_109 rfl rfl (Nat.le_of_ble_eq_true rfl) ?_
          refine go_goto 14 d_Mo_negative_112 rfl ?_
          exact ih (j + 1) _ _ _ _ _ (gw_inc hz) (by omega) hj3 (by first | exact Or.inl rfl | exact Or.inr rfl) (hs'.trans (by first | exact ⟨fun h => by (rcases h with h | h; exact absurd h59 h; exact Or.inr h), fun h => by (rcases h with h | h; exact absurd rfl h; exact Or.inr h)⟩ | exact ⟨fun _ => Or.inl (by decide), fun _ => Or.inl h59⟩))
        · refine go_lload d_Mo_negative_62 rfl ?_
          refine go_ldc2 d_Mo_negative_64 i_Mo_124 ?_
          refine go_lcmp_lt 75 d_Mo_negative_67 d_Mo_negative_68 rfl (fun _ => ?_) (fun hn => by first | exact absurd hn (hlt) | exact absurd (hlt) hn)
          refine go_iconst (v := 0) d_Mo_negative_75 rfl ?_
          refine go_istore d_Mo_negative_76 (Nat.le_of_ble_eq_true rfl) ?_
          refine go_lload_n 2 d_Mo_negative_78 rfl rfl ?_
          refine go_lload d_Mo_negative_79 rfl ?_
          refine go_ldc2 d_Mo_negative_81 i_Mo_124 ?_
          refine go_lcmp_lt 92 d_Mo_negative_84 d_Mo_negative_85 rfl (fun _ => ?_) (fun hn => by first | exact absurd hn (hlt) | exact absurd (hlt) hn)
          refine go_aload_n 0 d_Mo_negative_92 rfl rfl ?_
          refine go_getR d_Mo_negative_93 f_Mo_47 (by assumption) (by assumption) ?_
          refine go_iconst (v := 3) d_Mo_negative_96 rfl ?_
          refine go_iload_n 1 d_Mo_negative_97 rfl rfl ?_
          refine go_imul d_Mo_negative_98 ?_
          refine go_iload d_Mo_negative_99 rfl ?_
          refine go_iadd d_Mo_negative_101 ?_
          refine go_iald (3 * pp + j) d_Mo_negative_102 (by assumption) (hix) (by omega) (by decide) ?_
          rw [t1]
          refine go_i2l d_Mo_negative_103 (rfl) ?_
          refine go_lload d_Mo_negative_104 rfl ?_
          refine go_lmul d_Mo_negative_106 ?_
          refine go_lsub d_Mo_negative_107 ?_
          refine go_lstore_n 2 d_Mo_negative_108 rfl (Nat.le_of_ble_eq_true rfl) ?_
          refine go_iinc d_Mo_negative_109 rfl rfl (Nat.le_of_ble_eq_true rfl) ?_
          refine go_goto 14 d_Mo_negative_112 rfl ?_
          exact ih (j + 1) _ _ _ _ _ (gw_inc hz) (by omega) hj3 (by first | exact Or.inl rfl | exact Or.inr rfl) (hs'.trans (by first | exact ⟨fun h => by (rcases h with h | h; exact absurd h59 h; exact Or.inr h), fun h => by (rcases h with h | h; exact absurd rfl h; exact Or.inr h)⟩ | exact ⟨fun _ => Or.inl (by decide), fun _ => Or.inl h59⟩))
  refine go_aload_n 0 d_Mo_negative_0 rfl rfl ?_
  refine go_getR d_Mo_negative_1 f_Mo_41 (by assumption) (by assumption) ?_
  refine go_iload_n 1 d_Mo_negative_4 rfl rfl ?_
  refine go_iald (pp) d_Mo_negative_5 (by assumption) (rfl) (hpp) (by decide) ?_
  rw [w1]
  refine go_i2l d_Mo_negative_6 (rfl) ?_
  refine go_lstore_n 2 d_Mo_negative_7 rfl (Nat.le_of_ble_eq_true rfl) ?_
  refine go_iconst (v := 0) d_Mo_negative_8 rfl ?_
  refine go_istore d_Mo_negative_9 (Nat.le_of_ble_eq_true rfl) ?_
  refine go_iconst (v := 0) d_Mo_negative_11 rfl ?_
  refine go_istore d_Mo_negative_12 (Nat.le_of_ble_eq_true rfl) ?_
  exact loop P.2 0 _ _ _ _ _ rfl (Nat.zero_le _) rfl (Or.inl rfl) ⟨fun h => Or.inr h, fun h => by (rcases h with h | h; exact absurd rfl h; exact h)⟩
def sh_far (C : sp_E) (T : Nat → Nat → Int64) (a b : Nat) : Int64 := if 0 < T a b - T b a then mo_e (C b a) else mo_e (C a b)
theorem c_Mo_shA {r tb N a b : Nat} {x y g : Int32} {s : Int64} {o9 o10 o11 o12 : Option Value} {T : ab_Ba} {C : sp_E} (hp : pt_Mo sh R) (hr : r < 42) (htb' : tb ≤ 74) (hG : mb_at (L 549) (104 * r + tb) (104 * r + N) T) (hbt : bt_at L C) (ha : a < 5) (hb : b < 5) (hx : x = nI a) (hy : y = nI b) (k : gw_Go y_Mo_shown d 0 0 122 [some (.ref 533), some (.int (nI r)), some (.int (nI tb)), some (.int (nI (104 * r))), some (.long s), none, some (.int g), some (.int x), some (.int y), some (.long (T.1 a b - T.1 b a)), none, some (.long (sh_far C T.1 a b)), none] [] (n, sh, X, R, I, L) Q) : gw_Go y_Mo_shown d 0 0 45 [some (.ref 533), some (.int (nI r)), some (.int (nI tb)), some (.int (nI (104 * r))), some (.long s), none, some (.int g), some (.int x), some (.int y), o9, o10, o11, o12] [] (n, sh, X, R, I, L) Q := by
  obtain ⟨s533, s534, s535, s536, s537, s538, s539, s540, s541, s542, s543, s544, s545, s546, s547, s548, s549, s550, s551, s552, s553, s554, s555, s556, s557, r534, r535, r536, r537, r538, r539, r540, r541, r542, r543, r544, r545, r546, r547, r548, r549, r550, r551, r552, r553, r554, r555, r556, r557⟩ := hp
  have hB : nI (104 * r) + nI tb = nI (104 * r + tb) := nI_add _ _
  by_cases hpos : 0 < T.1 a b - T.1 b a
  · rw [show sh_far C T.1 a b = mo_e (C b a) from if_pos hpos] at k
    refine go_iload d_Mo_shown_45 rfl ?_
    refine go_iconst (v := 5) d_Mo_shown_47 rfl ?_
    refine go_icmp_ge 198 d_Mo_shown_48 rfl (fun hn => absurd hn (by rw [hy]; exact nI_ge (b := 5) (by omega) (by decide))) (fun _ => ?_)
    refine go_aload_n 0 d_Mo_shown_51 rfl rfl ?_
    refine go_getR d_Mo_shown_52 f_Mo_56 (by assumption) (by assumption) ?_
    refine go_iload_n 3 d_Mo_shown_55 rfl rfl ?_
    refine go_iload_n 2 d_Mo_shown_56 rfl rfl ?_
    refine go_iadd d_Mo_shown_57 ?_
    refine go_iconst (v := 5) d_Mo_shown_58 rfl ?_
    refine go_iload d_Mo_shown_59 rfl ?_
    refine go_imul d_Mo_shown_61 ?_
    refine go_iadd d_Mo_shown_62 ?_
    refine go_iload d_Mo_shown_63 rfl ?_
    refine go_iadd d_Mo_shown_65 ?_
    refine go_lald (104 * r + tb + 5 * a + b) d_Mo_shown_66 (by assumption) (by rw [hx, hy, hB, show (5 : Int32) * nI a = nI (5 * a) from nI_mul 5 a, nI_add, nI_add]) (by omega) (by decide) ?_
    refine go_aload_n 0 d_Mo_shown_67 rfl rfl ?_
    refine go_getR d_Mo_shown_68 f_Mo_56 (by assumption) (by assumption) ?_
    refine go_iload_n 3 d_Mo_shown_71 rfl rfl ?_
    refine go_iload_n 2 d_Mo_shown_72 rfl rfl ?_
    refine go_iadd d_Mo_shown_73 ?_
    refine go_iconst (v := 5) d_Mo_shown_74 rfl ?_
    refine go_iload d_Mo_shown_75 rfl ?_
    refine go_imul d_Mo_shown_77 ?_
    refine go_iadd d_Mo_shown_78 ?_
    refine go_iload d_Mo_shown_79 rfl ?_
    refine go_iadd d_Mo_shown_81 ?_
    refine go_lald (104 * r + tb + 5 * b + a) d_Mo_shown_82 (by assumption) (by rw [hx, hy, hB, show (5 : Int32) * nI b = nI (5 * b) from nI_mul 5 b, nI_add, nI_add]) (by omega) (by decide) ?_
    rw [hG.1 a b ha hb, hG.1 b a hb ha]
    refine go_lsub d_Mo_shown_83 ?_
    refine go_lstore d_Mo_shown_84 (Nat.le_of_ble_eq_true rfl) ?_
    refine go_lload d_Mo_shown_86 rfl ?_
    refine go_lconst (v := 0) d_Mo_shown_88 rfl ?_
    refine go_lcmp_le 108 d_Mo_shown_89 d_Mo_shown_90 rfl (fun hn => absurd hn ((fun hh => hh hpos))) (fun _ => ?_)
    refine go_aload_n 0 d_Mo_shown_93 rfl rfl ?_
    refine go_getR d_Mo_shown_94 f_Mo_60 (by assumption) (by assumption) ?_
    refine go_iconst (v := 5) d_Mo_shown_97 rfl ?_
    refine go_iload d_Mo_shown_98 rfl ?_
    refine go_imul d_Mo_shown_100 ?_
    refine go_iload d_Mo_shown_101 rfl ?_
    refine go_iadd d_Mo_shown_103 ?_
    refine go_lald (5 * b + a) d_Mo_shown_104 (by assumption) (by rw [hx, hy]; exact ix (a := 5)) (by omega) (by decide) ?_
    rw [hbt b a hb ha]
    refine go_goto 120 d_Mo_shown_105 rfl ?_
    refine go_lstore d_Mo_shown_120 (Nat.le_of_ble_eq_true rfl) ?_
    exact k
  · rw [show sh_far C T.1 a b = mo_e (C a b) from if_neg hpos] at k
    refine go_iload d_Mo_shown_45 rfl ?_
    refine go_iconst (v := 5) d_Mo_shown_47 rfl ?_
    refine go_icmp_ge 198 d_Mo_shown_48 rfl (fun hn => absurd hn (by rw [hy]; exact nI_ge (b := 5) (by omega) (by decide))) (fun _ => ?_)
    refine go_aload_n 0 d_Mo_shown_51 rfl rfl ?_
    refine go_getR d_Mo_shown_52 f_Mo_56 (by assumption) (by assumption) ?_
    refine go_iload_n 3 d_Mo_shown_55 rfl rfl ?_
    refine go_iload_n 2 d_Mo_shown_56 rfl rfl ?_
    refine go_iadd d_Mo_shown_57 ?_
    refine go_iconst (v := 5) d_Mo_shown_58 rfl ?_
    refine go_iload d_Mo_shown_59 rfl ?_
    refine go_imul d_Mo_shown_61 ?_
    refine go_iadd d_Mo_shown_62 ?_
    refine go_iload d_Mo_shown_63 rfl ?_
    refine go_iadd d_Mo_shown_65 ?_
    refine go_lald (104 * r + tb + 5 * a + b) d_Mo_shown_66 (by assumption) (by rw [hx, hy, hB, show (5 : Int32) * nI a = nI (5 * a) from nI_mul 5 a, nI_add, nI_add]) (by omega) (by decide) ?_
    refine go_aload_n 0 d_Mo_shown_67 rfl rfl ?_
    refine go_getR d_Mo_shown_68 f_Mo_56 (by assumption) (by assumption) ?_
    refine go_iload_n 3 d_Mo_shown_71 rfl rfl ?_
    refine go_iload_n 2 d_Mo_shown_72 rfl rfl ?_
    refine go_iadd d_Mo_shown_73 ?_
    refine go_iconst (v := 5) d_Mo_shown_74 rfl ?_
    refine go_iload d_Mo_shown_75 rfl ?_
    refine go_imul d_Mo_shown_77 ?_
    refine go_iadd d_Mo_shown_78 ?_
    refine go_iload d_Mo_shown_79 rfl ?_
    refine go_iadd d_Mo_shown_81 ?_
    refine go_lald (104 * r + tb + 5 * b + a) d_Mo_shown_82 (by assumption) (by rw [hx, hy, hB, show (5 : Int32) * nI b = nI (5 * b) from nI_mul 5 b, nI_add, nI_add]) (by omega) (by decide) ?_
    rw [hG.1 a b ha hb, hG.1 b a hb ha]
    refine go_lsub d_Mo_shown_83 ?_
    refine go_lstore d_Mo_shown_84 (Nat.le_of_ble_eq_true rfl) ?_
    refine go_lload d_Mo_shown_86 rfl ?_
    refine go_lconst (v := 0) d_Mo_shown_88 rfl ?_
    refine go_lcmp_le 108 d_Mo_shown_89 d_Mo_shown_90 rfl (fun _ => ?_) (fun hn => by first | exact absurd hn (hpos) | exact absurd (hpos) hn)
    refine go_aload_n 0 d_Mo_shown_108 rfl rfl ?_
    refine go_getR d_Mo_shown_109 f_Mo_60 (by assumption) (by assumption) ?_
    refine go_iconst (v := 5) d_Mo_shown_112 rfl ?_
    refine go_iload d_Mo_shown_113 rfl ?_
    refine go_imul d_Mo_shown_115 ?_
    refine go_iload d_Mo_shown_116 rfl ?_
    refine go_iadd d_Mo_shown_118 ?_
    refine go_lald (5 * a + b) d_Mo_shown_119 (by assumption) (by rw [hx, hy]; exact ix (a := 5)) (by omega) (by decide) ?_
    rw [hbt a b ha hb]
    refine go_lstore d_Mo_shown_120 (Nat.le_of_ble_eq_true rfl) ?_
    exact k
theorem c_Mo_shB {r tb : Nat} {x y g : Int32} {s f far : Int64} (k1 : g ≠ 0 → (f = 0 ∨ far < 1000000000000000) → gw_Go y_Mo_shown d 0 0 150 [some (.ref 533), some (.int (nI r)), some (.int (nI tb)), some (.int (nI (104 * r))), some (.long s), none, some (.int 1), some (.int x), some (.int y), some (.long f), none, some (.long far), none] [] (n, sh, X, R, I, L) Q) (k0 : ¬ (g ≠ 0 ∧ (f = 0 ∨ far < 1000000000000000)) → gw_Go y_Mo_shown d 0 0 150 [some (.ref 533), some (.int (nI r)), some (.int (nI tb)), some (.int (nI (104 * r))), some (.long s), none, some (.int 0), some (.int x), some (.int y), some (.long f), none, some (.long far), none] [] (n, sh, X, R, I, L) Q) : gw_Go y_Mo_shown d 0 0 122 [some (.ref 533), some (.int (nI r)), some (.int (nI tb)), some (.int (nI (104 * r))), some (.long s), none, some (.int g), some (.int x), some (.int y), some (.long f), none, some (.long far), none] [] (n, sh, X, R, I, L) Q := by
  refine go_iload d_Mo_shown_122 rfl ?_
  refine go_if_eq 147 d_Mo_shown_124 rfl (fun h124 => ?_) (fun h124 => ?_)
  · refine go_iconst (v := 0) d_Mo_shown_147 rfl ?_
    refine go_istore d_Mo_shown_148 (Nat.le_of_ble_eq_true rfl) ?_
    exact (by first | exact k0 (fun hh => hh.1 h124) | exact k1 h124 (Or.inl h130) | exact k1 h124 (Or.inr (Classical.byContradiction h139)) | exact k1 h124 (Or.inr h139) | exact k0 (fun hh => hh.2.elim h130 h139))
  · refine go_lload d_Mo_shown_127 rfl ?_
    refine go_lconst (v := 0) d_Mo_shown_129 rfl ?_
    refine go_lcmp_eq 143 d_Mo_shown_130 d_Mo_shown_131 rfl (fun h130 => ?_) (fun h130 => ?_)
    · refine go_iconst (v := 1) d_Mo_shown_143 rfl ?_
      refine go_goto 148 d_Mo_shown_144 rfl ?_
      refine go_istore d_Mo_shown_148 (Nat.le_of_ble_eq_true rfl) ?_
      exact (by first | exact k0 (fun hh => hh.1 h124) | exact k1 h124 (Or.inl h130) | exact k1 h124 (Or.inr (Classical.byContradiction h139)) | exact k1 h124 (Or.inr h139) | exact k0 (fun hh => hh.2.elim h130 h139))
    · refine go_lload d_Mo_shown_134 rfl ?_
      refine go_ldc2 d_Mo_shown_136 i_Mo_124 ?_
      refine go_lcmp_ge 147 d_Mo_shown_139 d_Mo_shown_140 rfl (fun h139 => ?_) (fun h139 => ?_)
      · refine go_iconst (v := 0) d_Mo_shown_147 rfl ?_
        refine go_istore d_Mo_shown_148 (Nat.le_of_ble_eq_true rfl) ?_
        exact (by first | exact k0 (fun hh => hh.1 h124) | exact k1 h124 (Or.inl h130) | exact k1 h124 (Or.inr (Classical.byContradiction h139)) | exact k1 h124 (Or.inr h139) | exact k0 (fun hh => hh.2.elim h130 h139))
      · refine go_iconst (v := 1) d_Mo_shown_143 rfl ?_
        refine go_goto 148 d_Mo_shown_144 rfl ?_
        refine go_istore d_Mo_shown_148 (Nat.le_of_ble_eq_true rfl) ?_
        exact (by first | exact k0 (fun hh => hh.1 h124) | exact k1 h124 (Or.inl h130) | exact k1 h124 (Or.inr (Classical.byContradiction h139)) | exact k1 h124 (Or.inr h139) | exact k0 (fun hh => hh.2.elim h130 h139))
theorem c_Mo_shC {r tb : Nat} {x y g : Int32} {s f far : Int64} (k0 : (f = 0 ∨ ¬ far < 1000000000000000) → gw_Go y_Mo_shown d 0 0 45 [some (.ref 533), some (.int (nI r)), some (.int (nI tb)), some (.int (nI (104 * r))), some (.long s), none, some (.int g), some (.int x), some (.int (y + Int32.ofInt 1)), some (.long f), none, some (.long far), none] [] (n, sh, X, R, I, L) Q) (k1 : f ≠ 0 → far < 1000000000000000 → gw_Go y_Mo_shown d 0 0 45 [some (.ref 533), some (.int (nI r)), some (.int (nI tb)), some (.int (nI (104 * r))), some (.long (s + (if 0 < f then -f * far else f * far))), none, some (.int g), some (.int x), some (.int (y + Int32.ofInt 1)), some (.long f), none, some (.long far), none] [] (n, sh, X, R, I, L) Q) : gw_Go y_Mo_shown d 0 0 150 [some (.ref 533), some (.int (nI r)), some (.int (nI tb)), some (.int (nI (104 * r))), some (.long s), none, some (.int g), some (.int x), some (.int y), some (.long f), none, some (.long far), none] [] (n, sh, X, R, I, L) Q := by
  refine go_lload d_Mo_shown_150 rfl ?_
  refine go_lconst (v := 0) d_Mo_shown_152 rfl ?_
  refine go_lcmp_eq 192 d_Mo_shown_153 d_Mo_shown_154 rfl (fun h153 => ?_) (fun h153 => ?_)
  · refine go_iinc d_Mo_shown_192 rfl rfl (Nat.le_of_ble_eq_true rfl) ?_
    refine go_goto 45 d_Mo_shown_195 rfl ?_
    exact (by first | exact k0 (Or.inl h153) | exact k0 (Or.inr h162) | (have k2 := k1 h153 (by first | exact h162 | exact Classical.byContradiction h162); rw [if_neg h171] at k2; exact k2) | (have k2 := k1 h153 (by first | exact h162 | exact Classical.byContradiction h162); rw [if_pos (by first | exact h171 | exact Classical.byContradiction h171)] at k2; exact k2))
  · refine go_lload d_Mo_shown_157 rfl ?_
    refine go_ldc2 d_Mo_shown_159 i_Mo_124 ?_
    refine go_lcmp_ge 192 d_Mo_shown_162 d_Mo_shown_163 rfl (fun h162 => ?_) (fun h162 => ?_)
    · refine go_iinc d_Mo_shown_192 rfl rfl (Nat.le_of_ble_eq_true rfl) ?_
      refine go_goto 45 d_Mo_shown_195 rfl ?_
      exact (by first | exact k0 (Or.inl h153) | exact k0 (Or.inr h162) | (have k2 := k1 h153 (by first | exact h162 | exact Classical.byContradiction h162); rw [if_neg h171] at k2; exact k2) | (have k2 := k1 h153 (by first | exact h162 | exact Classical.byContradiction h162); rw [if_pos (by first | exact h171 | exact Classical.byContradiction h171)] at k2; exact k2))
    · refine go_lload d_Mo_shown_166 rfl ?_
      refine go_lload d_Mo_shown_168 rfl ?_
      refine go_lconst (v := 0) d_Mo_shown_170 rfl ?_
      refine go_lcmp_le 184 d_Mo_shown_171 d_Mo_shown_172 rfl (fun h171 => ?_) (fun h171 => ?_)
      · refine go_lload d_Mo_shown_184 rfl ?_
        refine go_lload d_Mo_shown_186 rfl ?_
        refine go_lmul d_Mo_shown_188 ?_
        refine go_ladd d_Mo_shown_189 ?_
        refine go_lstore d_Mo_shown_190 (Nat.le_of_ble_eq_true rfl) ?_
        refine go_iinc d_Mo_shown_192 rfl rfl (Nat.le_of_ble_eq_true rfl) ?_
        refine go_goto 45 d_Mo_shown_195 rfl ?_
        exact (by first | exact k0 (Or.inl h153) | exact k0 (Or.inr h162) | (have k2 := k1 h153 (by first | exact h162 | exact Classical.byContradiction h162); rw [if_neg h171] at k2; exact k2) | (have k2 := k1 h153 (by first | exact h162 | exact Classical.byContradiction h162); rw [if_pos (by first | exact h171 | exact Classical.byContradiction h171)] at k2; exact k2))
      · refine go_lload d_Mo_shown_175 rfl ?_
        refine go_lneg d_Mo_shown_177 ?_
        refine go_lload d_Mo_shown_178 rfl ?_
        refine go_lmul d_Mo_shown_180 ?_
        refine go_goto 189 d_Mo_shown_181 rfl ?_
        refine go_ladd d_Mo_shown_189 ?_
        refine go_lstore d_Mo_shown_190 (Nat.le_of_ble_eq_true rfl) ?_
        refine go_iinc d_Mo_shown_192 rfl rfl (Nat.le_of_ble_eq_true rfl) ?_
        refine go_goto 45 d_Mo_shown_195 rfl ?_
        exact (by first | exact k0 (Or.inl h153) | exact k0 (Or.inr h162) | (have k2 := k1 h153 (by first | exact h162 | exact Classical.byContradiction h162); rw [if_neg h171] at k2; exact k2) | (have k2 := k1 h153 (by first | exact h162 | exact Classical.byContradiction h162); rw [if_pos (by first | exact h171 | exact Classical.byContradiction h171)] at k2; exact k2))
theorem c_Mo_sh1 {r tb N a b w' w2 : Nat} {x y g : Int32} {s : Int64} {o9 o10 o11 o12 : Option Value} {T : ab_Ba} {C : sp_E} (hp : pt_Mo sh R) (hr : r < 42) (htb' : tb ≤ 74) (hG : mb_at (L 549) (104 * r + tb) (104 * r + N) T) (hbt : bt_at L C) (hCs : ∀ a b w, a < 5 → b < 5 → C a b = some w → kn_s w) (ha : a < 5) (hb : b < 5) (hbw : b + (w2 + 1) = 5) (hx : x = nI a) (hy : y = nI b) (hg1 : g ≠ 0) (h1 : ba_all C T.1 5 T.2 = (match ba_row C T.1 a (w2 + 1) s with | none => none | some s' => ba_all C T.1 w' s')) (next : ∀ (y g : Int32) (s : Int64) (o9 o10 o11 o12 : Option Value), y = nI (b + 1) → (g = 0 ∨ g = 1) → ((g ≠ 0 ∧ ba_all C T.1 5 T.2 = (match ba_row C T.1 a w2 s with | none => none | some s' => ba_all C T.1 w' s')) ∨ (g = 0 ∧ ba_all C T.1 5 T.2 = none)) → gw_Go y_Mo_shown d 0 0 45 [some (.ref 533), some (.int (nI r)), some (.int (nI tb)), some (.int (nI (104 * r))), some (.long s), none, some (.int g), some (.int x), some (.int y), o9, o10, o11, o12] [] (n, sh, X, R, I, L) Q) : gw_Go y_Mo_shown d 0 0 45 [some (.ref 533), some (.int (nI r)), some (.int (nI tb)), some (.int (nI (104 * r))), some (.long s), none, some (.int g), some (.int x), some (.int y), o9, o10, o11, o12] [] (n, sh, X, R, I, L) Q := by
  have e4 : 4 - w2 = b := by omega
  have h1' : ba_all C T.1 5 T.2 = (match (match ba_st C T.1 a (4 - w2) s with | none => none | some s' => ba_row C T.1 a w2 s') with | none => none | some s' => ba_all C T.1 w' s') := h1
  rw [e4] at h1'
  refine c_Mo_shA hp hr htb' hG hbt ha hb hx hy (c_Mo_shB (fun _ h => ?_) (fun h => ?_))
  · refine c_Mo_shC (fun h2 => ?_) (fun h2 h3 => ?_)
    · have hz : T.1 a b - T.1 b a = 0 := by rcases h2 with h2 | h2; exact h2; exact h.resolve_right h2
      exact next _ _ _ _ _ _ _ (gw_inc hy) (Or.inr rfl) (Or.inl ⟨by decide, by rw [h1', show ba_st C T.1 a b s = some s from if_pos hz]⟩)
    · refine next _ _ _ _ _ _ _ (gw_inc hy) (Or.inr rfl) (Or.inl ⟨by decide, ?_⟩)
      have hst : ba_st C T.1 a b s = some (s + (if 0 < T.1 a b - T.1 b a then -(T.1 a b - T.1 b a) * sh_far C T.1 a b else (T.1 a b - T.1 b a) * sh_far C T.1 a b)) := by
        unfold ba_st
        rw [if_neg h2]
        unfold sh_far at h3 ⊢
        by_cases hpos : 0 < T.1 a b - T.1 b a
        · rw [if_pos hpos] at h3
          rw [if_pos hpos, if_pos hpos, if_pos hpos]
          obtain ⟨w, hw⟩ := (mo_lt (fun x e => hCs b a x hb ha e)).mp h3
          rw [hw]
          rfl
        · rw [if_neg hpos] at h3
          rw [if_neg hpos, if_neg hpos, if_neg hpos]
          obtain ⟨w, hw⟩ := (mo_lt (fun x e => hCs a b x ha hb e)).mp h3
          rw [hw]
          rfl
      rw [h1', hst]
  · have hst : ba_st C T.1 a b s = none := by
      have h2 : ¬ T.1 a b - T.1 b a = 0 := fun e => h ⟨hg1, Or.inl e⟩
      have h3 : ¬ sh_far C T.1 a b < 1000000000000000 := fun e => h ⟨hg1, Or.inr e⟩
      unfold ba_st
      rw [if_neg h2]
      unfold sh_far at h3
      by_cases hpos : 0 < T.1 a b - T.1 b a
      · rw [if_pos hpos] at h3
        rw [if_pos hpos]
        cases hc : C b a with
        | none => rfl
        | some w => exact absurd ((mo_lt (fun x e => hCs b a x hb ha e)).mpr ⟨w, hc⟩) h3
      · rw [if_neg hpos] at h3
        rw [if_neg hpos]
        cases hc : C a b with
        | none => rfl
        | some w => exact absurd ((mo_lt (fun x e => hCs a b x ha hb e)).mpr ⟨w, hc⟩) h3
    rw [hst] at h1'
    exact c_Mo_shC (fun _ => next _ _ _ _ _ _ _ (gw_inc hy) (Or.inl rfl) (Or.inr ⟨rfl, h1'⟩)) (fun _ _ => next _ _ _ _ _ _ _ (gw_inc hy) (Or.inl rfl) (Or.inr ⟨rfl, h1'⟩))
theorem c_Mo_sh0 {r tb N a b w' w2 : Nat} {x y g : Int32} {s : Int64} {o9 o10 o11 o12 : Option Value} {T : ab_Ba} {C : sp_E} (hp : pt_Mo sh R) (hr : r < 42) (htb' : tb ≤ 74) (hG : mb_at (L 549) (104 * r + tb) (104 * r + N) T) (hbt : bt_at L C) (hCs : ∀ a b w, a < 5 → b < 5 → C a b = some w → kn_s w) (ha : a < 5) (hb : b < 5) (hbw : b + (w2 + 1) = 5) (hx : x = nI a) (hy : y = nI b) (hg0 : g = 0) (h1 : ba_all C T.1 5 T.2 = none) (next : ∀ (y g : Int32) (s : Int64) (o9 o10 o11 o12 : Option Value), y = nI (b + 1) → (g = 0 ∨ g = 1) → ((g ≠ 0 ∧ ba_all C T.1 5 T.2 = (match ba_row C T.1 a w2 s with | none => none | some s' => ba_all C T.1 w' s')) ∨ (g = 0 ∧ ba_all C T.1 5 T.2 = none)) → gw_Go y_Mo_shown d 0 0 45 [some (.ref 533), some (.int (nI r)), some (.int (nI tb)), some (.int (nI (104 * r))), some (.long s), none, some (.int g), some (.int x), some (.int y), o9, o10, o11, o12] [] (n, sh, X, R, I, L) Q) : gw_Go y_Mo_shown d 0 0 45 [some (.ref 533), some (.int (nI r)), some (.int (nI tb)), some (.int (nI (104 * r))), some (.long s), none, some (.int g), some (.int x), some (.int y), o9, o10, o11, o12] [] (n, sh, X, R, I, L) Q := by
  exact c_Mo_shA hp hr htb' hG hbt ha hb hx hy (c_Mo_shB (fun h _ => absurd hg0 h) (fun h => c_Mo_shC (fun _ => next _ _ _ _ _ _ _ (gw_inc hy) (Or.inl rfl) (Or.inr ⟨rfl, h1⟩)) (fun _ _ => next _ _ _ _ _ _ _ (gw_inc hy) (Or.inl rfl) (Or.inr ⟨rfl, h1⟩))))
theorem c_Mo_shown {r tb N : Nat} {T : ab_Ba} {C : sp_E} (hp : pt_Mo sh R) (hr : r < 42) (htb : (tb = 49 ∧ N = 99) ∨ (tb = 74 ∧ N = 100)) (hG : mb_at (L 549) (104 * r + tb) (104 * r + N) T) (hbt : bt_at L C) (hC : kn_bd C 400000000000) (hQ : ∀ g : Int32, (g ≠ 0 ↔ ba_sh C T) → (g = 0 ∨ g = 1) → Q (some (.int g)) (n, sh, X, R, I, L)) : gw_Call y_Mo_shown d 0 0 [.ref 533, .int (nI r), .int (nI tb)] (n, sh, X, R, I, L) Q := by
  have hp0 := hp
  obtain ⟨s533, s534, s535, s536, s537, s538, s539, s540, s541, s542, s543, s544, s545, s546, s547, s548, s549, s550, s551, s552, s553, s554, s555, s556, s557, r534, r535, r536, r537, r538, r539, r540, r541, r542, r543, r544, r545, r546, r547, r548, r549, r550, r551, r552, r553, r554, r555, r556, r557⟩ := hp
  have hCs : ∀ a b w, a < 5 → b < 5 → C a b = some w → kn_s w := fun a b w ha hb h => by have := hC a b w ha hb h; exact ⟨by omega, by omega⟩
  have htb' : tb ≤ 74 := by omega
  have hB : ∀ x : Int32, x + nI tb = x + nI tb := fun x => rfl
  clear hB
  refine gw_call o_Mo_shown (Nat.le_of_ble_eq_true rfl) ?_
  have hB : nI (104 * r) + nI tb = nI (104 * r + tb) := nI_add _ _
  have outer : ∀ (w' a : Nat) (x g : Int32) (s : Int64) (o8 o9 o10 o11 o12 : Option Value), x = nI a → a + w' = 5 → (g = 0 ∨ g = 1) → ((g ≠ 0 ∧ ba_all C T.1 5 T.2 = ba_all C T.1 w' s) ∨ (g = 0 ∧ ba_all C T.1 5 T.2 = none)) → gw_Go y_Mo_shown d 0 0 33 [some (.ref 533), some (.int (nI r)), some (.int (nI tb)), some (.int (nI (104 * r))), some (.long s), none, some (.int g), some (.int x), o8, o9, o10, o11, o12] [] (n, sh, X, R, I, L) Q := by
    intro w'
    induction w' with
    | zero =>
      intro a x g s o8 o9 o10 o11 o12 hx ha hg hs
      have h5 : a = 5 := by omega
      subst h5
      refine go_iload d_Mo_shown_33 rfl ?_
      refine go_iconst (v := 5) d_Mo_shown_35 rfl ?_
      refine go_icmp_ge 204 d_Mo_shown_36 rfl (fun _ => ?_) (fun hn => absurd (by rw [hx]; decide) hn)
      refine go_iload d_Mo_shown_204 rfl ?_
      refine go_if_eq 220 d_Mo_shown_206 rfl (fun h206 => ?_) (fun h206 => ?_)
      · refine go_iconst (v := 0) d_Mo_shown_220 rfl ?_
        exact go_zret d_Mo_shown_221 rfl (by first | exact Or.inl rfl | exact Or.inr rfl | assumption) (by first | exact hQ 0 ⟨fun h => absurd rfl h, fun ⟨v, hv, _⟩ => by (rcases hs with ⟨h1, _⟩ | ⟨_, h2⟩; exact absurd h206 h1; rw [h2] at hv; cases hv)⟩ (Or.inl rfl) | (rcases hs with ⟨h1, h2⟩ | ⟨h1, _⟩; (first | exact hQ 0 ⟨fun h => absurd rfl h, fun ⟨v, hv, hn⟩ => by (rw [h2] at hv; cases hv; exact absurd (by first | exact h212 | exact Int64.not_le.mp h212) hn)⟩ (Or.inl rfl) | exact hQ 1 ⟨fun _ => ⟨s, h2, by first | exact h212 | exact Int64.not_lt.mpr h212⟩, fun _ => by decide⟩ (Or.inr rfl)); exact absurd h1 h206))
      · refine go_lload d_Mo_shown_209 rfl ?_
        refine go_lconst (v := 0) d_Mo_shown_211 rfl ?_
        refine go_lcmp_lt 220 d_Mo_shown_212 d_Mo_shown_213 rfl (fun h212 => ?_) (fun h212 => ?_)
        · refine go_iconst (v := 0) d_Mo_shown_220 rfl ?_
          exact go_zret d_Mo_shown_221 rfl (by first | exact Or.inl rfl | exact Or.inr rfl | assumption) (by first | exact hQ 0 ⟨fun h => absurd rfl h, fun ⟨v, hv, _⟩ => by (rcases hs with ⟨h1, _⟩ | ⟨_, h2⟩; exact absurd h206 h1; rw [h2] at hv; cases hv)⟩ (Or.inl rfl) | (rcases hs with ⟨h1, h2⟩ | ⟨h1, _⟩; (first | exact hQ 0 ⟨fun h => absurd rfl h, fun ⟨v, hv, hn⟩ => by (rw [h2] at hv; cases hv; exact absurd (by first | exact h212 | exact Int64.not_le.mp h212) hn)⟩ (Or.inl rfl) | exact hQ 1 ⟨fun _ => ⟨s, h2, by first | exact h212 | exact Int64.not_lt.mpr h212⟩, fun _ => by decide⟩ (Or.inr rfl)); exact absurd h1 h206))
        · refine go_iconst (v := 1) d_Mo_shown_216 rfl ?_
          refine go_goto 221 d_Mo_shown_217 rfl ?_
          exact go_zret d_Mo_shown_221 rfl (by first | exact Or.inl rfl | exact Or.inr rfl | assumption) (by first | exact hQ 0 ⟨fun h => absurd rfl h, fun ⟨v, hv, _⟩ => by (rcases hs with ⟨h1, _⟩ | ⟨_, h2⟩; exact absurd h206 h1; rw [h2] at hv; cases hv)⟩ (Or.inl rfl) | (rcases hs with ⟨h1, h2⟩ | ⟨h1, _⟩; (first | exact hQ 0 ⟨fun h => absurd rfl h, fun ⟨v, hv, hn⟩ => by (rw [h2] at hv; cases hv; exact absurd (by first | exact h212 | exact Int64.not_le.mp h212) hn)⟩ (Or.inl rfl) | exact hQ 1 ⟨fun _ => ⟨s, h2, by first | exact h212 | exact Int64.not_lt.mpr h212⟩, fun _ => by decide⟩ (Or.inr rfl)); exact absurd h1 h206))
    | succ w' iho =>
      intro a x g s o8 o9 o10 o11 o12 hx ha hg hs
      have ha : a < 5 := by omega
      have inner : ∀ (w2 b : Nat) (y g : Int32) (s : Int64) (o9 o10 o11 o12 : Option Value), y = nI b → b + w2 = 5 → a < b → (g = 0 ∨ g = 1) → ((g ≠ 0 ∧ ba_all C T.1 5 T.2 = (match ba_row C T.1 a w2 s with | none => none | some s' => ba_all C T.1 w' s')) ∨ (g = 0 ∧ ba_all C T.1 5 T.2 = none)) → gw_Go y_Mo_shown d 0 0 45 [some (.ref 533), some (.int (nI r)), some (.int (nI tb)), some (.int (nI (104 * r))), some (.long s), none, some (.int g), some (.int x), some (.int y), o9, o10, o11, o12] [] (n, sh, X, R, I, L) Q := by
        intro w2
        induction w2 with
        | zero =>
          intro b y g s o9 o10 o11 o12 hy hb hab hg hs
          have h5 : b = 5 := by omega
          subst h5
          refine go_iload d_Mo_shown_45 rfl ?_
          refine go_iconst (v := 5) d_Mo_shown_47 rfl ?_
          refine go_icmp_ge 198 d_Mo_shown_48 rfl (fun _ => ?_) (fun hn => absurd (by rw [hy]; decide) hn)
          refine go_iinc d_Mo_shown_198 rfl rfl (Nat.le_of_ble_eq_true rfl) ?_
          refine go_goto 33 d_Mo_shown_201 rfl ?_
          exact iho (a + 1) _ _ _ _ _ _ _ _ (gw_inc hx) (by omega) hg hs
        | succ w2 ihi =>
          intro b y g s o9 o10 o11 o12 hy hb hab hg hs
          have hb : b < 5 := by omega
          rcases hs with ⟨hg1, h1⟩ | ⟨hg0, h1⟩
          · exact c_Mo_sh1 hp0 hr htb' hG hbt hCs ha hb (by omega) hx hy hg1 h1 (fun y g s o9 o10 o11 o12 hy hg hs => ihi (b + 1) y g s o9 o10 o11 o12 hy (by omega) (by omega) hg hs)
          · exact c_Mo_sh0 hp0 hr htb' hG hbt hCs ha hb (by omega) hx hy hg0 h1 (fun y g s o9 o10 o11 o12 hy hg hs => ihi (b + 1) y g s o9 o10 o11 o12 hy (by omega) (by omega) hg hs)
      refine go_iload d_Mo_shown_33 rfl ?_
      refine go_iconst (v := 5) d_Mo_shown_35 rfl ?_
      refine go_icmp_ge 204 d_Mo_shown_36 rfl (fun hn => absurd hn (by rw [hx]; exact nI_ge (b := 5) (by omega) (by decide))) (fun _ => ?_)
      refine go_iload d_Mo_shown_39 rfl ?_
      refine go_iconst (v := 1) d_Mo_shown_41 rfl ?_
      refine go_iadd d_Mo_shown_42 ?_
      refine go_istore d_Mo_shown_43 (Nat.le_of_ble_eq_true rfl) ?_
      exact inner w' (a + 1) _ _ _ _ _ _ _ (by rw [hx]; exact nI_1 a) (by omega) (by omega) hg (by rcases hs with ⟨h1, h2⟩ | h; (exact Or.inl ⟨h1, by rw [h2]; show (match ba_row C T.1 (4 - w') w' s with | none => none | some s' => ba_all C T.1 w' s') = _; rw [show 4 - w' = a by omega]⟩); exact Or.inr h)
  rcases htb with ⟨rfl, rfl⟩ | ⟨rfl, rfl⟩
  · skip
    refine go_bipush (v := 104) d_Mo_shown_0 rfl ?_
    refine go_iload_n 1 d_Mo_shown_2 rfl rfl ?_
    refine go_imul d_Mo_shown_3 ?_
    rw [show (104 : Int32) * nI r = nI (104 * r) from nI_mul 104 r]
    refine go_istore_n 3 d_Mo_shown_4 rfl (Nat.le_of_ble_eq_true rfl) ?_
    refine go_aload_n 0 d_Mo_shown_5 rfl rfl ?_
    refine go_getR d_Mo_shown_6 f_Mo_56 (by assumption) (by assumption) ?_
    refine go_iload_n 3 d_Mo_shown_9 rfl rfl ?_
    refine go_iload_n 2 d_Mo_shown_10 rfl rfl ?_
    refine go_bipush (v := 49) d_Mo_shown_11 rfl ?_
    refine go_icmp_ne 21 d_Mo_shown_13 rfl (fun hn => absurd hn (fun hh => hh rfl)) (fun _ => ?_)
    refine go_bipush (v := 99) d_Mo_shown_16 rfl ?_
    refine go_goto 23 d_Mo_shown_18 rfl ?_
    refine go_iadd d_Mo_shown_23 ?_
    refine go_lald (104 * r + 99) d_Mo_shown_24 (by assumption) (nI_add _ 99) (by omega) (by decide) ?_
    rw [hG.2]
    refine go_lstore d_Mo_shown_25 (Nat.le_of_ble_eq_true rfl) ?_
    refine go_iconst (v := 1) d_Mo_shown_27 rfl ?_
    refine go_istore d_Mo_shown_28 (Nat.le_of_ble_eq_true rfl) ?_
    refine go_iconst (v := 0) d_Mo_shown_30 rfl ?_
    refine go_istore d_Mo_shown_31 (Nat.le_of_ble_eq_true rfl) ?_
    exact outer 5 0 _ _ _ _ _ _ _ _ rfl rfl (Or.inr rfl) (Or.inl ⟨by decide, rfl⟩)
  · skip
    refine go_bipush (v := 104) d_Mo_shown_0 rfl ?_
    refine go_iload_n 1 d_Mo_shown_2 rfl rfl ?_
    refine go_imul d_Mo_shown_3 ?_
    rw [show (104 : Int32) * nI r = nI (104 * r) from nI_mul 104 r]
    refine go_istore_n 3 d_Mo_shown_4 rfl (Nat.le_of_ble_eq_true rfl) ?_
    refine go_aload_n 0 d_Mo_shown_5 rfl rfl ?_
    refine go_getR d_Mo_shown_6 f_Mo_56 (by assumption) (by assumption) ?_
    refine go_iload_n 3 d_Mo_shown_9 rfl rfl ?_
    refine go_iload_n 2 d_Mo_shown_10 rfl rfl ?_
    refine go_bipush (v := 49) d_Mo_shown_11 rfl ?_
    refine go_icmp_ne 21 d_Mo_shown_13 rfl (fun _ => ?_) (fun hn => by first | exact absurd hn (by decide) | exact absurd (by decide) hn)
    refine go_bipush (v := 100) d_Mo_shown_21 rfl ?_
    refine go_iadd d_Mo_shown_23 ?_
    refine go_lald (104 * r + 100) d_Mo_shown_24 (by assumption) (nI_add _ 100) (by omega) (by decide) ?_
    rw [hG.2]
    refine go_lstore d_Mo_shown_25 (Nat.le_of_ble_eq_true rfl) ?_
    refine go_iconst (v := 1) d_Mo_shown_27 rfl ?_
    refine go_istore d_Mo_shown_28 (Nat.le_of_ble_eq_true rfl) ?_
    refine go_iconst (v := 0) d_Mo_shown_30 rfl ?_
    refine go_istore d_Mo_shown_31 (Nat.le_of_ble_eq_true rfl) ?_
    exact outer 5 0 _ _ _ _ _ _ _ _ rfl rfl (Or.inr rfl) (Or.inl ⟨by decide, rfl⟩)
end MO
