/-! the reference: clear, cutAt, cut -/
section MO
variable {d n : Nat} {sh : Nat → Nat × Nat} {X : Nat × (Nat → Int32)} {R : Nat → Nat → Option Nat} {I : Nat → Nat → Int32} {L : Nat → Nat → Int64} {Q : Option Value → gw_Mem → Prop}
variable {U : Nat → ab_Me}
theorem c_Mo_plain {c : Nat} {y : Int32} (hp : pt_Mo sh R) (hc : c < 24) (hQ : ∀ I', I' 539 c = y → mu_at I' c cu_0 → (∀ q, q ≠ 539 → q ≠ 540 → q ≠ 544 → q ≠ 545 → I' q = I q) → (∀ i, i ≠ c → I' 539 i = I 539 i ∧ I' 540 i = I 540 i) → (∀ i, i ≠ 2 * c → i ≠ 2 * c + 1 → I' 544 i = I 544 i ∧ I' 545 i = I 545 i) → Q none (n, sh, X, R, I', L)) : gw_Call y_Mo_plain d 0 0 [.ref 533, .int (nI c), .int y] (n, sh, X, R, I, L) Q := by
  obtain ⟨s533, s534, s535, s536, s537, s538, s539, s540, s541, s542, s543, s544, s545, s546, s547, s548, s549, s550, s551, s552, s553, s554, s555, s556, s557, r534, r535, r536, r537, r538, r539, r540, r541, r542, r543, r544, r545, r546, r547, r548, r549, r550, r551, r552, r553, r554, r555, r556, r557⟩ := hp
  refine gw_call o_Mo_plain (Nat.le_of_ble_eq_true rfl) ?_
  refine go_aload_n 0 d_Mo_plain_0 rfl rfl ?_
  refine go_getR d_Mo_plain_1 f_Mo_26 (by assumption) (by assumption) ?_
  refine go_iload_n 1 d_Mo_plain_4 rfl rfl ?_
  refine go_iload_n 2 d_Mo_plain_5 rfl rfl ?_
  refine go_iast (c) d_Mo_plain_6 (by assumption) (rfl) (by omega) (by decide) ?_
  refine go_aload_n 0 d_Mo_plain_7 rfl rfl ?_
  refine go_getR d_Mo_plain_8 f_Mo_29 (by assumption) (by assumption) ?_
  refine go_iload_n 1 d_Mo_plain_11 rfl rfl ?_
  refine go_iconst (v := 0) d_Mo_plain_12 rfl ?_
  refine go_iast (c) d_Mo_plain_13 (by assumption) (rfl) (by omega) (by decide) ?_
  refine go_iconst (v := 0) d_Mo_plain_14 rfl ?_
  refine go_istore_n 3 d_Mo_plain_15 rfl (Nat.le_of_ble_eq_true rfl) ?_
  refine go_iload_n 3 d_Mo_plain_16 rfl rfl ?_
  refine go_iconst (v := 2) d_Mo_plain_17 rfl ?_
  refine go_icmp_ge 49 d_Mo_plain_18 rfl (fun hn => absurd hn (by decide)) (fun _ => ?_)
  refine go_aload_n 0 d_Mo_plain_21 rfl rfl ?_
  refine go_getR d_Mo_plain_22 f_Mo_41 (by assumption) (by assumption) ?_
  refine go_iconst (v := 2) d_Mo_plain_25 rfl ?_
  refine go_iload_n 1 d_Mo_plain_26 rfl rfl ?_
  refine go_imul d_Mo_plain_27 ?_
  refine go_iload_n 3 d_Mo_plain_28 rfl rfl ?_
  refine go_iadd d_Mo_plain_29 ?_
  refine go_iconst (v := 0) d_Mo_plain_30 rfl ?_
  refine go_iast (2 * c) d_Mo_plain_31 (by assumption) (ix (a := 2) (j := 0)) (by omega) (by decide) ?_
  refine go_aload_n 0 d_Mo_plain_32 rfl rfl ?_
  refine go_getR d_Mo_plain_33 f_Mo_44 (by assumption) (by assumption) ?_
  refine go_iconst (v := 2) d_Mo_plain_36 rfl ?_
  refine go_iload_n 1 d_Mo_plain_37 rfl rfl ?_
  refine go_imul d_Mo_plain_38 ?_
  refine go_iload_n 3 d_Mo_plain_39 rfl rfl ?_
  refine go_iadd d_Mo_plain_40 ?_
  refine go_iconst (v := 0) d_Mo_plain_41 rfl ?_
  refine go_iast (2 * c) d_Mo_plain_42 (by assumption) (ix (a := 2) (j := 0)) (by omega) (by decide) ?_
  refine go_iinc d_Mo_plain_43 rfl rfl (Nat.le_of_ble_eq_true rfl) ?_
  refine go_goto 16 d_Mo_plain_46 rfl ?_
  refine go_iload_n 3 d_Mo_plain_16 rfl rfl ?_
  refine go_iconst (v := 2) d_Mo_plain_17 rfl ?_
  refine go_icmp_ge 49 d_Mo_plain_18 rfl (fun hn => absurd hn (by decide)) (fun _ => ?_)
  refine go_aload_n 0 d_Mo_plain_21 rfl rfl ?_
  refine go_getR d_Mo_plain_22 f_Mo_41 (by assumption) (by assumption) ?_
  refine go_iconst (v := 2) d_Mo_plain_25 rfl ?_
  refine go_iload_n 1 d_Mo_plain_26 rfl rfl ?_
  refine go_imul d_Mo_plain_27 ?_
  refine go_iload_n 3 d_Mo_plain_28 rfl rfl ?_
  refine go_iadd d_Mo_plain_29 ?_
  refine go_iconst (v := 0) d_Mo_plain_30 rfl ?_
  refine go_iast (2 * c + 1) d_Mo_plain_31 (by assumption) (ix (a := 2) (j := 1)) (by omega) (by decide) ?_
  refine go_aload_n 0 d_Mo_plain_32 rfl rfl ?_
  refine go_getR d_Mo_plain_33 f_Mo_44 (by assumption) (by assumption) ?_
  refine go_iconst (v := 2) d_Mo_plain_36 rfl ?_
  refine go_iload_n 1 d_Mo_plain_37 rfl rfl ?_
  refine go_imul d_Mo_plain_38 ?_
  refine go_iload_n 3 d_Mo_plain_39 rfl rfl ?_
  refine go_iadd d_Mo_plain_40 ?_
  refine go_iconst (v := 0) d_Mo_plain_41 rfl ?_
  refine go_iast (2 * c + 1) d_Mo_plain_42 (by assumption) (ix (a := 2) (j := 1)) (by omega) (by decide) ?_
  refine go_iinc d_Mo_plain_43 rfl rfl (Nat.le_of_ble_eq_true rfl) ?_
  refine go_goto 16 d_Mo_plain_46 rfl ?_
  refine go_iload_n 3 d_Mo_plain_16 rfl rfl ?_
  refine go_iconst (v := 2) d_Mo_plain_17 rfl ?_
  refine go_icmp_ge 49 d_Mo_plain_18 rfl (fun _ => ?_) (fun hn => absurd (by decide) hn)
  exact go_vret d_Mo_plain_49 rfl (hQ _ (by simp (disch := omega) only [up2_eq, up2_ne]) ⟨by simp (disch := omega) only [up2_eq, up2_ne] <;> rfl, by decide, fun j t ht => (by cases ht), ⟨by simp (disch := omega) only [up2_eq, up2_ne] <;> rfl, by simp (disch := omega) only [up2_eq, up2_ne] <;> rfl, by decide, fun j t ht => (by cases ht)⟩, ⟨by simp (disch := omega) only [up2_eq, up2_ne] <;> rfl, by simp (disch := omega) only [up2_eq, up2_ne] <;> rfl, by decide, fun j t ht => (by cases ht)⟩⟩ (fun q a b c e => by rw [gw_up_ne (by omega), gw_up_ne (by omega), gw_up_ne (by omega), gw_up_ne (by omega), gw_up_ne (by omega), gw_up_ne (by omega)]) (fun i hi => ⟨by simp (disch := omega) only [up2_eq, up2_ne], by simp (disch := omega) only [up2_eq, up2_ne]⟩) (fun i h1 h2 => ⟨by simp (disch := omega) only [up2_eq, up2_ne], by simp (disch := omega) only [up2_eq, up2_ne]⟩))
theorem c_Mo_clear {x : Int32} (hp : pt_Mo sh R) (hc : mc_at I U) (hf : ¬ (∃ k, k < 4 ∧ x = nI k) → Q (some (.int 0)) (n, sh, X, R, I, L)) (hQ : ∀ k, k < 4 → x = nI k → ∀ I', mc_at I' (cc_chg k (va_up U k ([], [(0, cu_0)], (U k).2.2))) → (∀ q, q < 534 ∨ 549 ≤ q → I' q = I q) → Q (some (.int 1)) (n, sh, X, R, I', L)) : gw_Call y_Mo_clear (d + 1) 0 0 [.ref 533, .int x] (n, sh, X, R, I, L) Q := by
  have hp0 := hp
  obtain ⟨s533, s534, s535, s536, s537, s538, s539, s540, s541, s542, s543, s544, s545, s546, s547, s548, s549, s550, s551, s552, s553, s554, s555, s556, s557, r534, r535, r536, r537, r538, r539, r540, r541, r542, r543, r544, r545, r546, r547, r548, r549, r550, r551, r552, r553, r554, r555, r556, r557⟩ := hp
  refine gw_call o_Mo_clear (Nat.le_of_ble_eq_true rfl) ?_
  refine go_iload_n 1 d_Mo_clear_0 rfl rfl ?_
  refine go_i2l d_Mo_clear_1 (rfl) ?_
  refine go_lconst (v := 0) d_Mo_clear_2 rfl ?_
  refine go_ldc2 d_Mo_clear_3 i_Mo_84 ?_
  refine go_S3 d_Mo_clear_6 k_Mo_86 (Nat.le_of_ble_eq_true rfl) (c_Mo_in (l := 0) (h := 3) rfl rfl (fun b1 k1 z1 => ?_))
  refine go_if_ne 14 d_Mo_clear_9 rfl (fun h9 => ?_) (fun h9 => ?_)
  · obtain ⟨k, hk, rfl⟩ := m4' (k1.mp h9)
    have hm := hc k hk
    refine go_aload_n 0 d_Mo_clear_14 rfl rfl ?_
    refine go_getR d_Mo_clear_15 f_Mo_7 (by assumption) (by assumption) ?_
    refine go_iload_n 1 d_Mo_clear_18 rfl rfl ?_
    refine go_iconst (v := 0) d_Mo_clear_19 rfl ?_
    refine go_iast (k) d_Mo_clear_20 (by assumption) (rfl) (by omega) (by decide) ?_
    refine go_aload_n 0 d_Mo_clear_21 rfl rfl ?_
    refine go_getR d_Mo_clear_22 f_Mo_23 (by assumption) (by assumption) ?_
    refine go_iload_n 1 d_Mo_clear_25 rfl rfl ?_
    refine go_iconst (v := 1) d_Mo_clear_26 rfl ?_
    refine go_iast (k) d_Mo_clear_27 (by assumption) (rfl) (by omega) (by decide) ?_
    refine go_aload_n 0 d_Mo_clear_28 rfl rfl ?_
    refine go_bipush (v := 6) d_Mo_clear_29 rfl ?_
    refine go_iload_n 1 d_Mo_clear_31 rfl rfl ?_
    refine go_imul d_Mo_clear_32 ?_
    refine go_iconst (v := 0) d_Mo_clear_33 rfl ?_
    rw [show (6 : Int32) * nI k = nI (6 * k) from nI_mul 6 k]
    refine go_V2 d_Mo_clear_34 k_Mo_100 (by assumption) (Nat.le_of_ble_eq_true rfl) (c_Mo_plain (c := 6 * k) (y := 0) hp0 (by omega) (fun I3 p1 p2 p3 p4 p5 => ?_))
    have f3 : ∀ q, q ≠ 534 → q ≠ 538 → q ≠ 539 → q ≠ 540 → q ≠ 544 → q ≠ 545 → I3 q = I q := fun q a1 a2 a3 a4 a5 a6 => by rw [p3 q a3 a4 a5 a6, gw_up_ne (by omega), gw_up_ne (by omega)]
    refine go_aload_n 0 d_Mo_clear_37 rfl rfl ?_
    refine go_iload_n 1 d_Mo_clear_38 rfl rfl ?_
    refine go_V1 d_Mo_clear_39 k_Mo_96 (by assumption) (Nat.le_of_ble_eq_true rfl) (c_Mo_changed (U := va_up U k ([], [(0, cu_0)], (U k).2.2)) hp0 ?hU hk (fun I4 e1 e2 => ?_))
    case hU =>
      intro m hm2
      by_cases he : m = k
      · subst he
        rw [gw_up_eq]
        refine ⟨?_, by simp, fun j t ht => (by cases ht), ?_, ?_, by simp, fun i c hh => ?_⟩
        · rw [p3 _ (by decide) (by decide) (by decide) (by decide)]; simp (disch := omega) only [up2_eq, up2_ne] <;> rfl
        · rw [f3 _ (by decide) (by decide) (by decide) (by decide) (by decide) (by decide)]; exact hm.2.2.2.1
        · rw [p3 _ (by decide) (by decide) (by decide) (by decide)]; simp (disch := omega) only [up2_eq, up2_ne] <;> rfl
        · cases i with
          | zero => cases hh; exact ⟨p1, p2⟩
          | succ i => cases hh
      · rw [gw_up_ne he]
        exact (hc m hm2).ptw ⟨by rw [p3 _ (by decide) (by decide) (by decide) (by decide)]; simp (disch := omega) only [up2_eq, up2_ne], fun j hj => ⟨by rw [f3 _ (by decide) (by decide) (by decide) (by decide) (by decide) (by decide)], by rw [f3 _ (by decide) (by decide) (by decide) (by decide) (by decide) (by decide)]⟩⟩ (by rw [f3 _ (by decide) (by decide) (by decide) (by decide) (by decide) (by decide)]) ⟨by rw [p3 _ (by decide) (by decide) (by decide) (by decide)]; simp (disch := omega) only [up2_eq, up2_ne], fun i hi => ⟨by rw [(p4 _ (by omega)).1]; simp (disch := omega) only [up2_eq, up2_ne], by rw [(p4 _ (by omega)).2]; simp (disch := omega) only [up2_eq, up2_ne], fun j hj => ⟨by rw [f3 _ (by decide) (by decide) (by decide) (by decide) (by decide) (by decide)], by rw [f3 _ (by decide) (by decide) (by decide) (by decide) (by decide) (by decide)], by rw [f3 _ (by decide) (by decide) (by decide) (by decide) (by decide) (by decide)]⟩, ⟨by rw [(p5 _ (by omega) (by omega)).1]; simp (disch := omega) only [up2_eq, up2_ne], by rw [(p5 _ (by omega) (by omega)).2]; simp (disch := omega) only [up2_eq, up2_ne], fun j hj => ⟨by rw [f3 _ (by decide) (by decide) (by decide) (by decide) (by decide) (by decide)], by rw [f3 _ (by decide) (by decide) (by decide) (by decide) (by decide) (by decide)], by rw [f3 _ (by decide) (by decide) (by decide) (by decide) (by decide) (by decide)]⟩⟩, ⟨by rw [(p5 _ (by omega) (by omega)).1]; simp (disch := omega) only [up2_eq, up2_ne], by rw [(p5 _ (by omega) (by omega)).2]; simp (disch := omega) only [up2_eq, up2_ne], fun j hj => ⟨by rw [f3 _ (by decide) (by decide) (by decide) (by decide) (by decide) (by decide)], by rw [f3 _ (by decide) (by decide) (by decide) (by decide) (by decide) (by decide)], by rw [f3 _ (by decide) (by decide) (by decide) (by decide) (by decide) (by decide)]⟩⟩⟩⟩
    refine go_iconst (v := 1) d_Mo_clear_42 rfl ?_
    exact go_zret d_Mo_clear_43 rfl (by first | exact Or.inl rfl | exact Or.inr rfl | assumption) (hQ k hk rfl I4 e1 (fun q hq => by rw [e2 q (by omega), f3 q (by omega) (by omega) (by omega) (by omega) (by omega) (by omega)]))
  · refine go_iconst (v := 0) d_Mo_clear_12 rfl ?_
    exact go_zret d_Mo_clear_13 rfl (by first | exact Or.inl rfl | exact Or.inr rfl | assumption) (hf (fun ⟨k', q1, q2⟩ => k1.mpr (by rw [q2]; exact m4 q1) h9))
theorem c_Mo_cutAt {x y : Int32} (hp : pt_Mo sh R) (hc : mc_at I U) (hf : ¬ (∃ k e, k < 4 ∧ x = nI k ∧ e ∈ (U k).2.1 ∧ nI e.1 = y) → Q (some (.int (-1))) (n, sh, X, R, I, L)) (hQ : ∀ k i e, k < 4 → x = nI k → (U k).2.1[i]? = some e → nI e.1 = y → i < 6 → Q (some (.int (nI (6 * k + i)))) (n, sh, X, R, I, L)) : gw_Call y_Mo_cutAt (d + 1) 0 0 [.ref 533, .int x, .int y] (n, sh, X, R, I, L) Q := by
  obtain ⟨s533, s534, s535, s536, s537, s538, s539, s540, s541, s542, s543, s544, s545, s546, s547, s548, s549, s550, s551, s552, s553, s554, s555, s556, s557, r534, r535, r536, r537, r538, r539, r540, r541, r542, r543, r544, r545, r546, r547, r548, r549, r550, r551, r552, r553, r554, r555, r556, r557⟩ := hp
  refine gw_call o_Mo_cutAt (Nat.le_of_ble_eq_true rfl) ?_
  have loop : ∀ (r i : Nat) (k : Nat) (z : Int32), k < 4 → x = nI k → z = nI i → i + r = (U k).2.1.length → (∀ j e, j < i → (U k).2.1[j]? = some e → nI e.1 ≠ y) → gw_Go y_Mo_cutAt (d + 1) 0 0 16 [some (.ref 533), some (.int (nI k)), some (.int y), some (.int z)] [] (n, sh, X, R, I, L) Q := by
    intro r
    induction r with
    | zero =>
      intro i k z hk hx hz hr hj
      obtain ⟨a1, a2, a3, a4, a5, a6, a7⟩ := hc k hk
      refine go_iload_n 3 d_Mo_cutAt_16 rfl rfl ?_
      refine go_aload_n 0 d_Mo_cutAt_17 rfl rfl ?_
      refine go_getR d_Mo_cutAt_18 f_Mo_23 (by assumption) (by assumption) ?_
      refine go_iload_n 1 d_Mo_cutAt_21 rfl rfl ?_
      refine go_iald (k) d_Mo_cutAt_22 (by assumption) (rfl) (by omega) (by decide) ?_
      refine go_icmp_ge 54 d_Mo_cutAt_23 rfl (fun _ => ?_) (fun hn => absurd (by rw [a5, hz]; exact (nI_leI (by omega) (by omega)).mpr (by omega)) hn)
      refine go_iconst (v := (-1)) d_Mo_cutAt_54 rfl ?_
      exact go_iret d_Mo_cutAt_55 rfl (hf (fun ⟨k', e, q1, q2, q3, q4⟩ => by have ek := (nI_eq (by omega) (by omega)).mp (q2.symm.trans hx); subst ek; obtain ⟨j, hjl⟩ := List.mem_iff_getElem?.mp q3; exact hj j e (ge_lt hjl (by omega)) hjl q4))
    | succ r ih =>
      intro i k z hk hx hz hr hj
      obtain ⟨a1, a2, a3, a4, a5, a6, a7⟩ := hc k hk
      obtain ⟨e, he⟩ : ∃ e, (U k).2.1[i]? = some e := ⟨_, List.getElem?_eq_getElem (by omega)⟩
      obtain ⟨g1, g2⟩ := a7 i e he
      refine go_iload_n 3 d_Mo_cutAt_16 rfl rfl ?_
      refine go_aload_n 0 d_Mo_cutAt_17 rfl rfl ?_
      refine go_getR d_Mo_cutAt_18 f_Mo_23 (by assumption) (by assumption) ?_
      refine go_iload_n 1 d_Mo_cutAt_21 rfl rfl ?_
      refine go_iald (k) d_Mo_cutAt_22 (by assumption) (rfl) (by omega) (by decide) ?_
      refine go_icmp_ge 54 d_Mo_cutAt_23 rfl (fun hn => absurd hn (by rw [a5, hz]; exact nI_ge (by omega) (by omega))) (fun _ => ?_)
      refine go_aload_n 0 d_Mo_cutAt_26 rfl rfl ?_
      refine go_getR d_Mo_cutAt_27 f_Mo_26 (by assumption) (by assumption) ?_
      refine go_bipush (v := 6) d_Mo_cutAt_30 rfl ?_
      refine go_iload_n 1 d_Mo_cutAt_32 rfl rfl ?_
      refine go_imul d_Mo_cutAt_33 ?_
      refine go_iload_n 3 d_Mo_cutAt_34 rfl rfl ?_
      refine go_iadd d_Mo_cutAt_35 ?_
      refine go_iald (6 * k + i) d_Mo_cutAt_36 (by assumption) (by rw [hz]; exact ix (a := 6)) (by omega) (by decide) ?_
      refine go_iload_n 2 d_Mo_cutAt_37 rfl rfl ?_
      refine go_icmp_ne 48 d_Mo_cutAt_38 rfl (fun h38 => ?_) (fun h38 => ?_)
      · refine go_iinc d_Mo_cutAt_48 rfl rfl (Nat.le_of_ble_eq_true rfl) ?_
        refine go_goto 16 d_Mo_cutAt_51 rfl ?_
        exact ih (i + 1) k _ hk hx (gw_inc hz) (by omega) (fun j e' h1 h2 => by by_cases hji : j = i; (subst hji; rw [he] at h2; cases h2; rw [← g1]; exact h38); exact hj j e' (by omega) h2)
      · refine go_bipush (v := 6) d_Mo_cutAt_41 rfl ?_
        refine go_iload_n 1 d_Mo_cutAt_43 rfl rfl ?_
        refine go_imul d_Mo_cutAt_44 ?_
        refine go_iload_n 3 d_Mo_cutAt_45 rfl rfl ?_
        refine go_iadd d_Mo_cutAt_46 ?_
        exact go_iret d_Mo_cutAt_47 rfl (by rw [hz, show (6 : Int32) * nI k + nI i = nI (6 * k + i) from ix (a := 6)]; exact hQ k i e hk hx he (by rw [← g1]; exact h38) (by omega))
  refine go_iload_n 1 d_Mo_cutAt_0 rfl rfl ?_
  refine go_i2l d_Mo_cutAt_1 (rfl) ?_
  refine go_lconst (v := 0) d_Mo_cutAt_2 rfl ?_
  refine go_ldc2 d_Mo_cutAt_3 i_Mo_84 ?_
  refine go_S3 d_Mo_cutAt_6 k_Mo_86 (Nat.le_of_ble_eq_true rfl) (c_Mo_in (l := 0) (h := 3) rfl rfl (fun b1 k1 z1 => ?_))
  refine go_if_ne 14 d_Mo_cutAt_9 rfl (fun h9 => ?_) (fun h9 => ?_)
  · obtain ⟨k, hk, rfl⟩ := m4' (k1.mp h9)
    refine go_iconst (v := 0) d_Mo_cutAt_14 rfl ?_
    refine go_istore_n 3 d_Mo_cutAt_15 rfl (Nat.le_of_ble_eq_true rfl) ?_
    exact loop (U k).2.1.length 0 k _ hk rfl rfl (by omega) (fun j e h => by omega)
  · refine go_iconst (v := (-1)) d_Mo_cutAt_12 rfl ?_
    exact go_iret d_Mo_cutAt_13 rfl (hf (fun ⟨k', e, q1, q2, q3⟩ => k1.mpr (by rw [q2]; exact m4 q1) h9))
theorem c_Mo_cut {x y : Int32} (hp : pt_Mo sh R) (hc : mc_at I U) (hpl : ∀ k, k < 4 → ∀ c ∈ (U k).2.1, c.1 < 24) (hf : ¬ (∃ k p, k < 4 ∧ x = nI k ∧ p < 24 ∧ y = nI p ∧ (U k).2.1.length < 6 ∧ ∀ c ∈ (U k).2.1, c.1 ≠ p) → Q (some (.int 0)) (n, sh, X, R, I, L))
    (hQ : ∀ k p, k < 4 → x = nI k → p < 24 → y = nI p → (U k).2.1.length < 6 → (∀ c ∈ (U k).2.1, c.1 ≠ p) → ∀ I', mc_at I' (cc_chg k (va_up U k ((U k).1, (U k).2.1 ++ [(p, cu_0)], (U k).2.2))) → (∀ q, q < 534 ∨ 549 ≤ q → I' q = I q) → Q (some (.int 1)) (n, sh, X, R, I', L)) : gw_Call y_Mo_cut (d + 2) 0 0 [.ref 533, .int x, .int y] (n, sh, X, R, I, L) Q := by
  have hp0 := hp
  obtain ⟨s533, s534, s535, s536, s537, s538, s539, s540, s541, s542, s543, s544, s545, s546, s547, s548, s549, s550, s551, s552, s553, s554, s555, s556, s557, r534, r535, r536, r537, r538, r539, r540, r541, r542, r543, r544, r545, r546, r547, r548, r549, r550, r551, r552, r553, r554, r555, r556, r557⟩ := hp
  refine gw_call o_Mo_cut (Nat.le_of_ble_eq_true rfl) ?_
  refine go_iload_n 1 d_Mo_cut_0 rfl rfl ?_
  refine go_i2l d_Mo_cut_1 (rfl) ?_
  refine go_lconst (v := 0) d_Mo_cut_2 rfl ?_
  refine go_ldc2 d_Mo_cut_3 i_Mo_84 ?_
  refine go_S3 d_Mo_cut_6 k_Mo_86 (Nat.le_of_ble_eq_true rfl) (c_Mo_in (l := 0) (h := 3) rfl rfl (fun b1 k1 z1 => ?_))
  refine go_if_eq 33 d_Mo_cut_9 rfl (fun h9 => ?_) (fun h9 => ?_)
  · refine go_iconst (v := 0) d_Mo_cut_33 rfl ?_
    exact go_zret d_Mo_cut_34 rfl (by first | exact Or.inl rfl | exact Or.inr rfl | assumption) (hf (fun ⟨k', p', q1, q2, q3, q4, q5, q6⟩ => by first | exact k1.mpr (by rw [q2]; exact m4 q1) h9 | exact k2.mpr ⟨by rw [q4]; exact nI_pos' (by omega), by rw [q4]; exact (nI_leI (b := 23) (by omega) (by decide)).mpr (by omega)⟩ h21))
  · refine go_iload_n 2 d_Mo_cut_12 rfl rfl ?_
    refine go_i2l d_Mo_cut_13 (rfl) ?_
    refine go_lconst (v := 0) d_Mo_cut_14 rfl ?_
    refine go_ldc2 d_Mo_cut_15 i_Mo_104 ?_
    refine go_S3 d_Mo_cut_18 k_Mo_86 (Nat.le_of_ble_eq_true rfl) (c_Mo_in (l := 0) (h := 23) rfl rfl (fun b2 k2 z2 => ?_))
    refine go_if_eq 33 d_Mo_cut_21 rfl (fun h21 => ?_) (fun h21 => ?_)
    · refine go_iconst (v := 0) d_Mo_cut_33 rfl ?_
      exact go_zret d_Mo_cut_34 rfl (by first | exact Or.inl rfl | exact Or.inr rfl | assumption) (hf (fun ⟨k', p', q1, q2, q3, q4, q5, q6⟩ => by first | exact k1.mpr (by rw [q2]; exact m4 q1) h9 | exact k2.mpr ⟨by rw [q4]; exact nI_pos' (by omega), by rw [q4]; exact (nI_leI (b := 23) (by omega) (by decide)).mpr (by omega)⟩ h21))
    · obtain ⟨k, hk, rfl⟩ := m4' (k1.mp h9)
      obtain ⟨y0, y14⟩ := k2.mp h21
      obtain ⟨p, hp24, rfl⟩ := nI_of2 (n := 23) (by decide) (Int32.not_lt.mpr y0) y14
      have hm := hc k hk
      have g0 : I 538 k = nI (U k).2.1.length := hm.2.2.2.2.1
      have gl : (U k).2.1.length ≤ 6 := hm.2.2.2.2.2.1
      refine go_aload_n 0 d_Mo_cut_24 rfl rfl ?_
      refine go_iload_n 1 d_Mo_cut_25 rfl rfl ?_
      refine go_iload_n 2 d_Mo_cut_26 rfl rfl ?_
      refine go_V2 d_Mo_cut_27 k_Mo_106 (by assumption) (Nat.le_of_ble_eq_true rfl) (c_Mo_cutAt hp0 hc (fun hno => ?hno) (fun k' i e a1 a2 a3 a4 a5 => ?_))
      case hno =>
        have hfree : ∀ c ∈ (U k).2.1, c.1 ≠ p := fun c hcm e => hno ⟨k, c, hk, rfl, hcm, by rw [e]⟩
        refine go_if_lt 35 d_Mo_cut_30 rfl (fun _ => ?_) (fun hn => absurd (by decide) hn)
        refine go_aload_n 0 d_Mo_cut_35 rfl rfl ?_
        refine go_getR d_Mo_cut_36 f_Mo_23 (by assumption) (by assumption) ?_
        refine go_iload_n 1 d_Mo_cut_39 rfl rfl ?_
        refine go_iald (k) d_Mo_cut_40 (by assumption) (rfl) (by omega) (by decide) ?_
        refine go_bipush (v := 6) d_Mo_cut_41 rfl ?_
        refine go_icmp_ne 48 d_Mo_cut_43 rfl (fun h43 => ?_) (fun h43 => ?_)
        · have hlen : (U k).2.1.length < 6 := by rcases Nat.lt_or_ge (U k).2.1.length 6 with h | h; exact h; exact absurd (by rw [g0, show (U k).2.1.length = 6 by omega]; rfl) h43
          refine go_aload_n 0 d_Mo_cut_48 rfl rfl ?_
          refine go_bipush (v := 6) d_Mo_cut_49 rfl ?_
          refine go_iload_n 1 d_Mo_cut_51 rfl rfl ?_
          refine go_imul d_Mo_cut_52 ?_
          refine go_aload_n 0 d_Mo_cut_53 rfl rfl ?_
          refine go_getR d_Mo_cut_54 f_Mo_23 (by assumption) (by assumption) ?_
          refine go_iload_n 1 d_Mo_cut_57 rfl rfl ?_
          refine go_iald (k) d_Mo_cut_58 (by assumption) (rfl) (by omega) (by decide) ?_
          refine go_iadd d_Mo_cut_59 ?_
          rw [g0, show (6 : Int32) * nI k + nI (U k).2.1.length = nI (6 * k + (U k).2.1.length) from ix (a := 6)]
          refine go_iload_n 2 d_Mo_cut_60 rfl rfl ?_
          refine go_V2 d_Mo_cut_61 k_Mo_100 (by assumption) (Nat.le_of_ble_eq_true rfl) (c_Mo_plain (c := 6 * k + (U k).2.1.length) (y := nI p) hp0 (by omega) (fun I3 p1 p2 p3 p4 p5 => ?_))
          refine go_aload_n 0 d_Mo_cut_64 rfl rfl ?_
          refine go_getR d_Mo_cut_65 f_Mo_23 (by assumption) (by assumption) ?_
          refine go_iload_n 1 d_Mo_cut_68 rfl rfl ?_
          refine go_dup2 d_Mo_cut_69 rfl rfl ?_
          refine go_iald (k) d_Mo_cut_70 (by assumption) (rfl) (by omega) (by decide) ?_
          refine go_iconst (v := 1) d_Mo_cut_71 rfl ?_
          refine go_iadd d_Mo_cut_72 ?_
          refine go_iast (k) d_Mo_cut_73 (by assumption) (rfl) (by omega) (by decide) ?_
          refine go_aload_n 0 d_Mo_cut_74 rfl rfl ?_
          refine go_iload_n 1 d_Mo_cut_75 rfl rfl ?_
          refine go_V1 d_Mo_cut_76 k_Mo_96 (by assumption) (Nat.le_of_ble_eq_true rfl) (c_Mo_changed (U := va_up U k ((U k).1, (U k).2.1 ++ [(p, cu_0)], (U k).2.2)) hp0 ?hU hk (fun I4 e1 e2 => ?_))
          case hU =>
            have w : ∀ q, q ≠ 538 → va_up I3 538 (va_up (I3 538) k (I3 538 k + 1)) q = I3 q := fun q hq => gw_up_ne hq
            have wc : ∀ m, m < 4 → (∀ i, i < 6 → 6 * m + i ≠ 6 * k + (U k).2.1.length → mu_eq I (va_up I3 538 (va_up (I3 538) k (I3 538 k + 1))) (6 * m + i)) := fun m hm2 i hi hne => ⟨by rw [w _ (by decide), (p4 _ hne).2], fun j hj => ⟨by rw [w _ (by decide), p3 _ (by decide) (by decide) (by decide) (by decide)], by rw [w _ (by decide), p3 _ (by decide) (by decide) (by decide) (by decide)], by rw [w _ (by decide), p3 _ (by decide) (by decide) (by decide) (by decide)]⟩, ⟨by rw [w _ (by decide), (p5 _ (by omega) (by omega)).1], by rw [w _ (by decide), (p5 _ (by omega) (by omega)).2], fun j hj => ⟨by rw [w _ (by decide), p3 _ (by decide) (by decide) (by decide) (by decide)], by rw [w _ (by decide), p3 _ (by decide) (by decide) (by decide) (by decide)], by rw [w _ (by decide), p3 _ (by decide) (by decide) (by decide) (by decide)]⟩⟩, ⟨by rw [w _ (by decide), (p5 _ (by omega) (by omega)).1], by rw [w _ (by decide), (p5 _ (by omega) (by omega)).2], fun j hj => ⟨by rw [w _ (by decide), p3 _ (by decide) (by decide) (by decide) (by decide)], by rw [w _ (by decide), p3 _ (by decide) (by decide) (by decide) (by decide)], by rw [w _ (by decide), p3 _ (by decide) (by decide) (by decide) (by decide)]⟩⟩⟩
            intro m hm2
            by_cases he : m = k
            · subst he
              rw [gw_up_eq]
              refine ⟨?_, hm.2.1, fun j t ht => ?_, ?_, ?_, by rw [List.length_append]; exact hlen, fun i c hh => ?_⟩
              · rw [w _ (by decide), p3 _ (by decide) (by decide) (by decide) (by decide)]; exact hm.1
              · rw [w _ (by decide), p3 _ (by decide) (by decide) (by decide) (by decide), w _ (by decide), p3 _ (by decide) (by decide) (by decide) (by decide)]; exact hm.2.2.1 j t ht
              · rw [w _ (by decide), p3 _ (by decide) (by decide) (by decide) (by decide)]; exact hm.2.2.2.1
              · rw [up2_eq, p3 _ (by decide) (by decide) (by decide) (by decide), g0, List.length_append, nI_1]; rfl
              · rcases ap_or hh with ⟨h1, h2⟩ | ⟨rfl, rfl⟩
                · have := hm.2.2.2.2.2.2 i c h2
                  exact ⟨by rw [w _ (by decide), (p4 _ (by omega)).1]; exact this.1, this.2.ptw (wc m hm2 i (by omega) (by omega))⟩
                · exact ⟨by rw [w _ (by decide)]; exact p1, p2.ptw (mu_eq.row (fun q a b => w q (by omega)))⟩
            · rw [gw_up_ne he]
              exact (hc m hm2).ptw (mk_eq.row (fun q a b => by rw [w q (by omega), p3 q (by omega) (by omega) (by omega) (by omega)])) (by rw [w _ (by decide), p3 _ (by decide) (by decide) (by decide) (by decide)]) ⟨by rw [up2_ne (Or.inr he), p3 _ (by decide) (by decide) (by decide) (by decide)], fun i hi => ⟨by rw [w _ (by decide), (p4 _ (by omega)).1], wc m hm2 i hi (by omega)⟩⟩
          refine go_iconst (v := 1) d_Mo_cut_79 rfl ?_
          exact go_zret d_Mo_cut_80 rfl (by first | exact Or.inl rfl | exact Or.inr rfl | assumption) (hQ k p hk rfl (by omega) rfl hlen hfree I4 e1 (fun q hq => by rw [e2 q (by omega), gw_up_ne (by omega), p3 q (by omega) (by omega) (by omega) (by omega)]))
        · refine go_iconst (v := 0) d_Mo_cut_46 rfl ?_
          exact go_zret d_Mo_cut_47 rfl (by first | exact Or.inl rfl | exact Or.inr rfl | assumption) (hf (fun ⟨k', p', q1, q2, q3, q4, q5, q6⟩ => by have e := (nI_eq (by omega) (by omega)).mp q2; subst e; exact absurd ((nI_eq (b := 6) (by omega) (by decide)).mp (g0.symm.trans h43)) (by omega)))
      refine go_if_lt 35 d_Mo_cut_30 rfl (fun hn => absurd hn (nI_pos (by omega))) (fun _ => ?_)
      refine go_iconst (v := 0) d_Mo_cut_33 rfl ?_
      exact go_zret d_Mo_cut_34 rfl (by first | exact Or.inl rfl | exact Or.inr rfl | assumption) (hf (fun ⟨k', p', q1, q2, q3, q4, q5, q6⟩ => by have e1 := (nI_eq (by omega) (by omega)).mp q2; have e2 := (nI_eq (by omega) (by omega)).mp q4; have e3 := (nI_eq (by omega) (by omega)).mp a2; subst e1; subst e2; subst e3; exact q6 e (List.mem_of_getElem? a3) ((nI_eq (by have := hpl _ hk e (List.mem_of_getElem? a3); omega) (by omega)).mp a4)))
end MO
