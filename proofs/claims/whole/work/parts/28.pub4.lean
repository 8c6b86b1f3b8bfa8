/-! accepted, feed, ran, bound, depth -/
/-- the machine's cells -/
def pt_Ma (sh : Nat → Nat × Nat) (R : Nat → Nat → Option Nat) : Prop := sh 330 = (0, 4) ∧ sh 331 = (3 + 4, 4) ∧ sh 332 = (1, 12) ∧ R 330 0 = some 1 ∧ R 330 1 = some 331 ∧ R 330 3 = some 332 ∧ ∀ i, i < 4 → R 331 i = some (333 + 3 * i) ∧ sh (333 + 3 * i) = (0, 5) ∧ sh (333 + 3 * i + 1) = (1, 4) ∧ sh (333 + 3 * i + 2) = (1, 6) ∧ R (333 + 3 * i) 0 = some (333 + 3 * i + 1) ∧ R (333 + 3 * i) 1 = some (333 + 3 * i + 2)
def pt_CX (sh : Nat → Nat × Nat) (R : Nat → Nat → Option Nat) : Prop := pt_CC sh R ∧ R 0 1 = some 330 ∧ R 0 2 = some 345 ∧ R 0 3 = some 532 ∧ sh 532 = (1, 5) ∧ pt_Ma sh R
theorem pt_CX.kept {sh : Nat → Nat × Nat} {R R' : Nat → Nat → Option Nat} (h : pt_CX sh R) (hq : ∀ q, q < 345 → (∀ m, m < 4 → q ≠ 2 + 82 * m + 3) → R' q = R q) : pt_CX sh R' := by
  obtain ⟨h0, h1, h2, h3, h4, s0, s1, s2, r0, r1, r3, hf⟩ := h
  have e0 := hq 0 (by omega) (fun m _ => by omega)
  have e330 := hq 330 (by omega) (fun m _ => by omega)
  have e331 := hq 331 (by omega) (fun m _ => by omega)
  refine ⟨h0.kept (fun q a b => hq q (by omega) b), by rw [e0]; exact h1, by rw [e0]; exact h2, by rw [e0]; exact h3, h4, s0, s1, s2, by rw [e330]; exact r0, by rw [e330]; exact r1, by rw [e330]; exact r3, fun i hi => ?_⟩
  obtain ⟨g1, g2, g3, g4, g5, g6⟩ := hf i hi
  have ei := hq (333 + 3 * i) (by omega) (fun m _ => by omega)
  exact ⟨by rw [e331]; exact g1, g2, g3, g4, by rw [ei]; exact g5, by rw [ei]; exact g6⟩
/-- what ran tells, and what was fed -/
def ma_at (I : Nat → Nat → Int32) (st wd mr rt : Int32) (inp : List Int32) : Prop := I 330 6 = st ∧ I 330 7 = wd ∧ I 330 8 = mr ∧ I 330 9 = rt ∧ I 330 4 = nI inp.length ∧ inp.length ≤ 12 ∧ ∀ (j : Nat) (v : Int32), inp[j]? = some v → I 332 j = v
theorem ma_at.kept {I I' : Nat → Nat → Int32} {st wd mr rt : Int32} {inp : List Int32} (h : ma_at I st wd mr rt inp) (h0 : I' 330 = I 330) (h2 : I' 332 = I 332) : ma_at I' st wd mr rt inp := by
  unfold ma_at
  rw [h0, h2]
  exact h
section PU4
variable {d n : Nat} {sh : Nat → Nat × Nat} {X : Nat × (Nat → Int32)} {R : Nat → Nat → Option Nat} {I : Nat → Nat → Int32} {L : Nat → Nat → Int64} {Q : Option Value → gw_Mem → Prop} {S : Nat → ab_Me}
theorem c_CC_accepted {x : Int32} (hp : pt_CC sh R) (hc : cc_at R I S) (hQ : ∀ b : Bool, (b = true ↔ ∃ k, k < 4 ∧ x = nI k ∧ (S k).2.2 = true) → Q (some (.int (bI b))) (n, sh, X, R, I, L)) : gw_Call y_CC_accepted (d + 1) 0 0 [.ref 0, .int x] (n, sh, X, R, I, L) Q := by
  have s0 := hp.1
  refine gw_call o_CC_accepted (Nat.le_of_ble_eq_true rfl) ?_
  refine go_aload_n 0 d_CC_accepted_0 rfl rfl ?_
  refine go_iload_n 1 d_CC_accepted_1 rfl rfl ?_
  refine go_V1 d_CC_accepted_2 k_CC_38 (by assumption) (Nat.le_of_ble_eq_true rfl) (c_CC_methodAt hp (fun hN => ?_) (fun k hk e => ?_))
  · skip
    refine go_astore_nN 2 d_CC_accepted_5 rfl (Nat.le_of_ble_eq_true rfl) ?_
    refine go_aload_nN 2 d_CC_accepted_6 rfl rfl ?_
    refine go_ifnullN 21 d_CC_accepted_7 rfl ?_
    refine go_iconst (v := 0) d_CC_accepted_21 rfl ?_
    exact go_zret d_CC_accepted_22 rfl (by first | exact Or.inl rfl | exact Or.inr rfl | assumption) (hQ false ⟨fun h => (by cases h), fun ⟨k, a, b, _⟩ => absurd ⟨k, a, b⟩ hN⟩)
  · subst e
    obtain ⟨w, g1, g2, g3, g4⟩ := hc k hk
    have sm := (hp.2.2.2 k hk).2.1
    refine go_astore_n 2 d_CC_accepted_5 rfl (Nat.le_of_ble_eq_true rfl) ?_
    refine go_aload_n 2 d_CC_accepted_6 rfl rfl ?_
    refine go_ifnull d_CC_accepted_7 ?_
    refine go_aload_n 2 d_CC_accepted_10 rfl rfl ?_
    refine go_getZ d_CC_accepted_11 f_CC_96 (by assumption) ?_
    rw [g4]
    refine go_if_eq 21 d_CC_accepted_14 rfl (fun h14 => ?_) (fun h14 => ?_)
    · refine go_iconst (v := 0) d_CC_accepted_21 rfl ?_
      first | exact go_zret d_CC_accepted_22 rfl (Or.inr rfl) (hQ true ⟨fun _ => ⟨k, hk, rfl, bI_n0.mp h14⟩, fun _ => rfl⟩) | exact go_zret d_CC_accepted_22 rfl (Or.inl rfl) (hQ false ⟨fun h => (by cases h), fun ⟨k', q1, q2, q3⟩ => by have e := (nI_eq (by omega) (by omega)).mp q2; subst e; rw [q3] at h14; exact absurd h14 (by decide)⟩)
    · refine go_iconst (v := 1) d_CC_accepted_17 rfl ?_
      refine go_goto 22 d_CC_accepted_18 rfl ?_
      first | exact go_zret d_CC_accepted_22 rfl (Or.inr rfl) (hQ true ⟨fun _ => ⟨k, hk, rfl, bI_n0.mp h14⟩, fun _ => rfl⟩) | exact go_zret d_CC_accepted_22 rfl (Or.inl rfl) (hQ false ⟨fun h => (by cases h), fun ⟨k', q1, q2, q3⟩ => by have e := (nI_eq (by omega) (by omega)).mp q2; subst e; rw [q3] at h14; exact absurd h14 (by decide)⟩)
theorem c_Ma_addInput {v st wd mr rt : Int32} {inp : List Int32} (hp : pt_Ma sh R) (ha : ma_at I st wd mr rt inp) (hf : ¬ inp.length < 12 → Q (some (.int 0)) (n, sh, X, R, I, L)) (hQ : inp.length < 12 → ∀ I', ma_at I' st wd mr rt (inp ++ [v]) → (∀ q, q ≠ 330 → q ≠ 332 → I' q = I q) → Q (some (.int 1)) (n, sh, X, R, I', L)) : gw_Call y_Ma_addInput d 0 0 [.ref 330, .int v] (n, sh, X, R, I, L) Q := by
  obtain ⟨s0, s1, s2, r0, r1, r3, hfr⟩ := hp
  obtain ⟨a1, a2, a3, a4, a5, a6, a7⟩ := ha
  refine gw_call o_Ma_addInput (Nat.le_of_ble_eq_true rfl) ?_
  refine go_aload_n 0 d_Ma_addInput_0 rfl rfl ?_
  refine go_getI d_Ma_addInput_1 f_Ma_26 (by assumption) ?_
  refine go_bipush (v := 12) d_Ma_addInput_4 rfl ?_
  refine go_icmp_lt 11 d_Ma_addInput_6 rfl (fun h6 => ?_) (fun h6 => ?_)
  · have hlt : inp.length < 12 := by rw [a5] at h6; exact (nI_ltI (b := 12) (by omega) (by decide)).mp h6
    refine go_aload_n 0 d_Ma_addInput_11 rfl rfl ?_
    refine go_getR d_Ma_addInput_12 f_Ma_17 (by assumption) (by assumption) ?_
    refine go_aload_n 0 d_Ma_addInput_15 rfl rfl ?_
    refine go_getI d_Ma_addInput_16 f_Ma_26 (by assumption) ?_
    refine go_iload_n 1 d_Ma_addInput_19 rfl rfl ?_
    refine go_iast (inp.length) d_Ma_addInput_20 (by assumption) (a5) (hlt) (by decide) ?_
    refine go_aload_n 0 d_Ma_addInput_21 rfl rfl ?_
    refine go_dup d_Ma_addInput_22 rfl ?_
    refine go_getI d_Ma_addInput_23 f_Ma_26 (by assumption) ?_
    refine go_iconst (v := 1) d_Ma_addInput_26 rfl ?_
    refine go_iadd d_Ma_addInput_27 ?_
    refine go_putI d_Ma_addInput_28 f_Ma_26 (by assumption) ?_
    refine go_iconst (v := 1) d_Ma_addInput_31 rfl ?_
    have key : ∀ (j : Nat) (t : Int32), (inp ++ [v])[j]? = some t → (j ≠ inp.length ∧ inp[j]? = some t) ∨ (j = inp.length ∧ t = v) := fun j t h => by rcases gw_app h with ⟨e1, e2⟩ | e; exact Or.inl ⟨by omega, e2⟩; exact Or.inr e
    exact go_zret d_Ma_addInput_32 rfl (by first | exact Or.inl rfl | exact Or.inr rfl | assumption) (hQ hlt _ ⟨by simp [va_up, a1], by simp [va_up, a2], by simp [va_up, a3], by simp [va_up, a4], by simp [va_up, a5, nI_succ], by simp; omega, fun j t h => by rcases key j t h with ⟨e1, e2⟩ | ⟨rfl, rfl⟩; (have e4 := a7 j t e2; simp [va_up, e1, e4]); simp [va_up]⟩ (fun q g0 g1 => by simp [va_up, g0, g1]))
  · refine go_iconst (v := 0) d_Ma_addInput_9 rfl ?_
    exact go_zret d_Ma_addInput_10 rfl (by first | exact Or.inl rfl | exact Or.inr rfl | assumption) (hf (fun h => h6 (by rw [a5]; exact nI_lt h (by decide))))
theorem c_CC_feed {v st wd mr rt : Int32} {inp : List Int32} (hp : pt_CX sh R) (ha : ma_at I st wd mr rt inp) (hf : ¬ (inp.length < 12 ∧ -1000000 ≤ v ∧ v ≤ 1000000) → Q (some (.int 0)) (n, sh, X, R, I, L)) (hQ : inp.length < 12 → -1000000 ≤ v → v ≤ 1000000 → ∀ I', ma_at I' st wd mr rt (inp ++ [v]) → (∀ q, q ≠ 330 → q ≠ 332 → I' q = I q) → Q (some (.int 1)) (n, sh, X, R, I', L)) : gw_Call y_CC_feed (d + 2) 0 0 [.ref 0, .int v] (n, sh, X, R, I, L) Q := by
  have s0 := hp.1.1
  have r1 := hp.2.1
  have sm := hp.2.2.2.2.2.1
  refine gw_call o_CC_feed (Nat.le_of_ble_eq_true rfl) ?_
  refine go_iload_n 1 d_CC_feed_0 rfl rfl ?_
  refine go_S1 d_CC_feed_1 k_CC_124 (Nat.le_of_ble_eq_true rfl) (c_CC_isValue (fun b hb => ?_))
  refine go_if_eq 22 d_CC_feed_4 rfl (fun h4 => ?_) (fun h4 => ?_)
  · refine go_iconst (v := 0) d_CC_feed_22 rfl ?_
    exact go_zret d_CC_feed_23 rfl (by first | exact Or.inl rfl | exact Or.inr rfl | assumption) (hf (fun h => by rw [hb.mpr h.2] at h4; exact absurd h4 (by decide)))
  · have hv := hb.mp (bI_n0.mp h4)
    refine go_aload_n 0 d_CC_feed_7 rfl rfl ?_
    refine go_getR d_CC_feed_8 f_CC_23 (by assumption) (by assumption) ?_
    refine go_iload_n 1 d_CC_feed_11 rfl rfl ?_
    refine go_V1 d_CC_feed_12 k_CC_127 (by assumption) (Nat.le_of_ble_eq_true rfl) (c_Ma_addInput hp.2.2.2.2.2 ha (fun hl => ?_) (fun hl I1 c1 c2 => ?_))
    · skip
      refine go_if_eq 22 d_CC_feed_15 rfl (fun _ => ?_) (fun hn => absurd (rfl) hn)
      refine go_iconst (v := 0) d_CC_feed_22 rfl ?_
      exact go_zret d_CC_feed_23 rfl (by first | exact Or.inl rfl | exact Or.inr rfl | assumption) (hf (fun h => hl h.1))
    · skip
      refine go_if_eq 22 d_CC_feed_15 rfl (fun hn => absurd hn (by decide)) (fun _ => ?_)
      refine go_iconst (v := 1) d_CC_feed_18 rfl ?_
      refine go_goto 23 d_CC_feed_19 rfl ?_
      exact go_zret d_CC_feed_23 rfl (by first | exact Or.inl rfl | exact Or.inr rfl | assumption) (hQ hl hv.1 hv.2 I1 c1 c2)
theorem c_CC_ran {x st wd mr rt : Int32} {inp : List Int32} (hp : pt_CX sh R) (ha : ma_at I st wd mr rt inp) (hQ : ∀ r : Int32, (x = 0 → r = st) → (x = 1 → r = wd) → (x = 2 → r = mr) → (x = 3 → r = rt) → (x ≠ 0 → x ≠ 1 → x ≠ 2 → x ≠ 3 → r = -1) → Q (some (.int r)) (n, sh, X, R, I, L)) : gw_Call y_CC_ran d 0 0 [.ref 0, .int x] (n, sh, X, R, I, L) Q := by
  have s0 := hp.1.1
  have r1 := hp.2.1
  have sm := hp.2.2.2.2.2.1
  obtain ⟨a1, a2, a3, a4, a5, a6, a7⟩ := ha
  refine gw_call o_CC_ran (Nat.le_of_ble_eq_true rfl) ?_
  refine go_iload_n 1 d_CC_ran_0 rfl rfl ?_
  by_cases h0 : x = 0
  · subst h0
    refine go_tableIn 32 d_CC_ran_1 (by decide) (by decide) rfl rfl ?_
    refine go_aload_n 0 d_CC_ran_32 rfl rfl ?_
    refine go_getR d_CC_ran_33 f_CC_23 (by assumption) (by assumption) ?_
    refine go_getI d_CC_ran_36 f_CC_134 (by assumption) ?_
    exact go_iret d_CC_ran_39 rfl (by rw [a1]; exact hQ st (fun _ => rfl) (fun h => absurd h (by decide)) (fun h => absurd h (by decide)) (fun h => absurd h (by decide)) (fun h => absurd rfl h))
  by_cases h1 : x = 1
  · subst h1
    refine go_tableIn 40 d_CC_ran_1 (by decide) (by decide) rfl rfl ?_
    refine go_aload_n 0 d_CC_ran_40 rfl rfl ?_
    refine go_getR d_CC_ran_41 f_CC_23 (by assumption) (by assumption) ?_
    refine go_getI d_CC_ran_44 f_CC_137 (by assumption) ?_
    exact go_iret d_CC_ran_47 rfl (by rw [a2]; exact hQ wd (fun h => absurd h (by decide)) (fun _ => rfl) (fun h => absurd h (by decide)) (fun h => absurd h (by decide)) (fun _ h => absurd rfl h))
  by_cases h2 : x = 2
  · subst h2
    refine go_tableIn 48 d_CC_ran_1 (by decide) (by decide) rfl rfl ?_
    refine go_aload_n 0 d_CC_ran_48 rfl rfl ?_
    refine go_getR d_CC_ran_49 f_CC_23 (by assumption) (by assumption) ?_
    refine go_getI d_CC_ran_52 f_CC_140 (by assumption) ?_
    exact go_iret d_CC_ran_55 rfl (by rw [a3]; exact hQ mr (fun h => absurd h (by decide)) (fun h => absurd h (by decide)) (fun _ => rfl) (fun h => absurd h (by decide)) (fun _ _ h => absurd rfl h))
  by_cases h3 : x = 3
  · subst h3
    refine go_tableIn 56 d_CC_ran_1 (by decide) (by decide) rfl rfl ?_
    refine go_aload_n 0 d_CC_ran_56 rfl rfl ?_
    refine go_getR d_CC_ran_57 f_CC_23 (by assumption) (by assumption) ?_
    refine go_getI d_CC_ran_60 f_CC_143 (by assumption) ?_
    exact go_iret d_CC_ran_63 rfl (by rw [a4]; exact hQ rt (fun h => absurd h (by decide)) (fun h => absurd h (by decide)) (fun h => absurd h (by decide)) (fun _ => rfl) (fun _ _ _ h => absurd rfl h))
  · have hout : x.toInt < 0 ∨ 3 < x.toInt := by
      by_cases hh : x.toInt < 0 ∨ 3 < x.toInt
      · exact hh
      · exfalso
        have e0 : ¬ x.toInt = 0 := fun e => h0 (Int32.toInt_inj.mp (e.trans rfl))
        have e1 : ¬ x.toInt = 1 := fun e => h1 (Int32.toInt_inj.mp (e.trans rfl))
        have e2 : ¬ x.toInt = 2 := fun e => h2 (Int32.toInt_inj.mp (e.trans rfl))
        have e3 : ¬ x.toInt = 3 := fun e => h3 (Int32.toInt_inj.mp (e.trans rfl))
        omega
    refine go_tableOut 64 d_CC_ran_1 hout rfl ?_
    refine go_iconst (v := (-1)) d_CC_ran_64 rfl ?_
    exact go_iret d_CC_ran_65 rfl (hQ (-1) (fun h => absurd h h0) (fun h => absurd h h1) (fun h => absurd h h2) (fun h => absurd h h3) (fun _ _ _ _ => rfl))
/-- the values of the sides when the arguments are x, y, z -/
def ar_v (x y z : Int32) (j : Nat) : Int32 := if j = 0 then x else if j = 1 then y else if j = 2 then z else 0
theorem po_val_congr {v v' : Nat → Int32} : ∀ (l : List (Nat × Nat × Nat)) (s : Int64), (∀ t ∈ l, t.2.1 < 5 ∧ t.2.2 < 5) → (∀ j, j < 5 → v j = v' j) → po_val v l s = po_val v' l s
  | [], s, _, _ => rfl
  | t :: ts, s, h, hv => by
    unfold po_val
    rw [hv _ (h t List.mem_cons_self).1, hv _ (h t List.mem_cons_self).2]
    exact po_val_congr ts _ (fun q hq => h q (List.mem_cons_of_mem _ hq)) hv
theorem c_CC_bound {x y a b c : Int32} (hp : pt_CX sh R) (hc : cc_at R I S) (h0 : ∀ k, k < 4 → ∃ A, (S k).2.1[0]? = some (0, A)) (hz3 : I 532 3 = 0) (hz4 : I 532 4 = 0)
    (hf : ∀ I', (∀ q, q ≠ 532 → I' q = I q) → I' 532 3 = 0 → I' 532 4 = 0 → ¬ (∃ k v A, k < 4 ∧ x = nI k ∧ v < 2 ∧ y = nI v ∧ (S k).2.2 = true ∧ ((-1000000 ≤ a ∧ a ≤ 1000000) ∧ (-1000000 ≤ b ∧ b ≤ 1000000) ∧ (-1000000 ≤ c ∧ c ≤ 1000000)) ∧ (S k).2.1[0]? = some (0, A) ∧ cu_holds (ar_v a b c) A.1) → Q (some (.long (-1))) (n, sh, X, R, I', L))
    (hQ : ∀ I', (∀ q, q ≠ 532 → I' q = I q) → I' 532 3 = 0 → I' 532 4 = 0 → ∀ k v A, k < 4 → x = nI k → v < 2 → y = nI v → (S k).2.2 = true → ((-1000000 ≤ a ∧ a ≤ 1000000) ∧ (-1000000 ≤ b ∧ b ≤ 1000000) ∧ (-1000000 ≤ c ∧ c ≤ 1000000)) → (S k).2.1[0]? = some (0, A) → cu_holds (ar_v a b c) A.1 → Q (some (.long (po_val (ar_v a b c) (cu_pot v A).2 (cu_pot v A).1.toInt64))) (n, sh, X, R, I', L)) : gw_Call y_CC_bound (d + 3) 0 0 [.ref 0, .int x, .int y, .int a, .int b, .int c] (n, sh, X, R, I, L) Q := by
  have s0 := hp.1.1
  have r3 := hp.2.2.2.1
  have s532 := hp.2.2.2.2.1
  refine gw_call o_CC_bound (Nat.le_of_ble_eq_true rfl) ?_
  refine go_aload_n 0 d_CC_bound_0 rfl rfl ?_
  refine go_iload_n 1 d_CC_bound_1 rfl rfl ?_
  refine go_V1 d_CC_bound_2 k_CC_38 (by assumption) (Nat.le_of_ble_eq_true rfl) (c_CC_methodAt hp.1 (fun hN => ?_) (fun k hk e => ?_))
  · skip
    refine go_astoreN d_CC_bound_5 (Nat.le_of_ble_eq_true rfl) ?_
    refine go_aloadN d_CC_bound_7 rfl ?_
    refine go_ifnullN 38 d_CC_bound_9 rfl ?_
    refine go_ldc2 d_CC_bound_38 i_CC_103 ?_
    exact go_lret d_CC_bound_41 rfl (hf I (fun _ _ => rfl) hz3 hz4 (fun ⟨k, v, A, q1, q2, _⟩ => hN ⟨k, q1, q2⟩))
  · subst e
    obtain ⟨w, g1, g2, g3, g4⟩ := hc k hk
    have hme := (hp.1.2.2.2 k hk).2
    have sm := hme.1
    have s3m := hme.2.2.2.1
    have r4m := hme.2.2.2.2.2.2.1
    obtain ⟨A, hA⟩ := h0 k hk
    have hw6 := g3.2.2.1 0 (by decide)
    have hcu := hme.2.2.2.2.2.2.2 (w 0) hw6
    have sc := hcu.1
    have s4c := hcu.2.2.2.2.1
    have r5c := hcu.2.2.2.2.2.2.2.2.1
    have hr0 := g3.2.2.2.2.1 0 (by decide)
    refine go_astore d_CC_bound_5 (Nat.le_of_ble_eq_true rfl) ?_
    refine go_aload d_CC_bound_7 rfl ?_
    refine go_ifnull d_CC_bound_9 ?_
    refine go_iload_n 2 d_CC_bound_12 rfl rfl ?_
    refine go_S1 d_CC_bound_13 k_CC_77 (Nat.le_of_ble_eq_true rfl) (c_CC_isPotential (fun b1 hb1 => ?_))
    refine go_if_eq 38 d_CC_bound_16 rfl (fun h16 => ?_) (fun h16 => ?_)
    · refine go_ldc2 d_CC_bound_38 i_CC_103 ?_
      first | exact go_lret d_CC_bound_41 rfl (hf I (fun _ _ => rfl) hz3 hz4 (fun ⟨k', v, A', q1, q2, q3, q4, q5, q6, q7, q8⟩ => by rw [hb2.mpr q6] at h35; exact absurd h35 (by decide))) | exact go_lret d_CC_bound_41 rfl (hf I (fun _ _ => rfl) hz3 hz4 (fun ⟨k', v, A', q1, q2, q3, q4, q5, q6, q7, q8⟩ => by have e := (nI_eq (by omega) (by omega)).mp q2; subst e; rw [q5] at h24; exact absurd h24 (by decide))) | exact go_lret d_CC_bound_41 rfl (hf I (fun _ _ => rfl) hz3 hz4 (fun ⟨k', v, A', q1, q2, q3, q4, q5, q6, q7, q8⟩ => by rw [hb1.mpr ⟨by rw [q4]; exact nI_pos' (by omega), by rw [q4]; exact nI_le (b := 1) (by omega) (by decide)⟩] at h16; exact absurd h16 (by decide)))
    · refine go_aload d_CC_bound_19 rfl ?_
      refine go_getZ d_CC_bound_21 f_CC_96 (by assumption) ?_
      rw [g4]
      refine go_if_eq 38 d_CC_bound_24 rfl (fun h24 => ?_) (fun h24 => ?_)
      · refine go_ldc2 d_CC_bound_38 i_CC_103 ?_
        first | exact go_lret d_CC_bound_41 rfl (hf I (fun _ _ => rfl) hz3 hz4 (fun ⟨k', v, A', q1, q2, q3, q4, q5, q6, q7, q8⟩ => by rw [hb2.mpr q6] at h35; exact absurd h35 (by decide))) | exact go_lret d_CC_bound_41 rfl (hf I (fun _ _ => rfl) hz3 hz4 (fun ⟨k', v, A', q1, q2, q3, q4, q5, q6, q7, q8⟩ => by have e := (nI_eq (by omega) (by omega)).mp q2; subst e; rw [q5] at h24; exact absurd h24 (by decide))) | exact go_lret d_CC_bound_41 rfl (hf I (fun _ _ => rfl) hz3 hz4 (fun ⟨k', v, A', q1, q2, q3, q4, q5, q6, q7, q8⟩ => by rw [hb1.mpr ⟨by rw [q4]; exact nI_pos' (by omega), by rw [q4]; exact nI_le (b := 1) (by omega) (by decide)⟩] at h16; exact absurd h16 (by decide)))
      · refine go_iload_n 3 d_CC_bound_27 rfl rfl ?_
        refine go_iload d_CC_bound_28 rfl ?_
        refine go_iload d_CC_bound_30 rfl ?_
        refine go_S3 d_CC_bound_32 k_CC_100 (Nat.le_of_ble_eq_true rfl) (c_CC_areValues (fun b2 hb2 => ?_))
        refine go_if_ne 42 d_CC_bound_35 rfl (fun h35 => ?_) (fun h35 => ?_)
        · obtain ⟨y0, y1⟩ := hb1.mp (bI_n0.mp h16)
          have hacc := bI_n0.mp h24
          have hval := hb2.mp (bI_n0.mp h35)
          obtain ⟨v, hv, rfl⟩ := nI_of2 (n := 1) (by decide) (Int32.not_lt.mpr y0) y1
          refine go_aload_n 0 d_CC_bound_42 rfl rfl ?_
          refine go_getR d_CC_bound_43 f_CC_34 (by assumption) (by assumption) ?_
          refine go_iconst (v := 0) d_CC_bound_46 rfl ?_
          refine go_iload_n 3 d_CC_bound_47 rfl rfl ?_
          refine go_iast (0) d_CC_bound_48 (by assumption) (rfl) (by decide) (by decide) ?_
          refine go_aload_n 0 d_CC_bound_49 rfl rfl ?_
          refine go_getR d_CC_bound_50 f_CC_34 (by assumption) (by assumption) ?_
          refine go_iconst (v := 1) d_CC_bound_53 rfl ?_
          refine go_iload d_CC_bound_54 rfl ?_
          refine go_iast (1) d_CC_bound_56 (by assumption) (rfl) (by decide) (by decide) ?_
          refine go_aload_n 0 d_CC_bound_57 rfl rfl ?_
          refine go_getR d_CC_bound_58 f_CC_34 (by assumption) (by assumption) ?_
          refine go_iconst (v := 2) d_CC_bound_61 rfl ?_
          refine go_iload d_CC_bound_62 rfl ?_
          refine go_iast (2) d_CC_bound_64 (by assumption) (rfl) (by decide) (by decide) ?_
          generalize hI1 : va_up (va_up (va_up I 532 (va_up (I 532) 0 a)) 532 (va_up (va_up I 532 (va_up (I 532) 0 a) 532) 1 b)) 532 (va_up (va_up (va_up I 532 (va_up (I 532) 0 a)) 532 (va_up (va_up I 532 (va_up (I 532) 0 a) 532) 1 b) 532) 2 c) = I1
          have k1 : ∀ q, q ≠ 532 → I1 q = I q := fun q hq => by rw [← hI1]; simp [va_up, hq]
          have kv : ∀ j, j < 5 → I1 532 j = ar_v a b c j := fun j hj => by rw [← hI1]; rcases (show j = 0 ∨ j = 1 ∨ j = 2 ∨ j = 3 ∨ j = 4 by omega) with rfl | rfl | rfl | rfl | rfl <;> simp [va_up, ar_v, hz3, hz4]
          have k3 : I1 532 3 = 0 := kv 3 (by decide)
          have k4 : I1 532 4 = 0 := kv 4 (by decide)
          have hca := (g3.2.2.2.2.2 0 _ hA).kept (I' := I1) (fun q p1 p2 => k1 q (by omega))
          have hpo := hca.pot (w := v) (by omega)
          obtain ⟨hrp, hpp⟩ := hcu.pot (w := v) (by omega)
          have sp := hpp.1
          have hbd : ∀ t ∈ A.1, t.1 < 5 ∧ t.2.1 < 5 := fun t ht => by obtain ⟨j, hj⟩ := List.getElem?_of_mem ht; exact (hca.2.2.2.1 j t hj).2.2.2
          have hho : cu_holds (I1 532) A.1 ↔ cu_holds (ar_v a b c) A.1 := ⟨fun h t ht => by rw [← kv _ (hbd t ht).1, ← kv _ (hbd t ht).2]; exact h t ht, fun h t ht => by rw [kv _ (hbd t ht).1, kv _ (hbd t ht).2]; exact h t ht⟩
          have hpv : po_val (I1 532) (cu_pot v A).2 (cu_pot v A).1.toInt64 = po_val (ar_v a b c) (cu_pot v A).2 (cu_pot v A).1.toInt64 := po_val_congr _ _ (fun t ht => by obtain ⟨j, hj⟩ := List.getElem?_of_mem ht; exact (hpo.2.2.2 j t hj).2.2.2) kv
          refine go_aload d_CC_bound_65 rfl ?_
          refine go_getR d_CC_bound_67 f_CC_105 (by assumption) (by assumption) ?_
          refine go_iconst (v := 0) d_CC_bound_70 rfl ?_
          refine go_aald (t := 1) (0) d_CC_bound_71 (by assumption) (by decide) (rfl) (by decide) (by decide) (by assumption) ?_
          refine go_astore d_CC_bound_72 (Nat.le_of_ble_eq_true rfl) ?_
          refine go_aload d_CC_bound_74 rfl ?_
          refine go_aload_n 0 d_CC_bound_76 rfl rfl ?_
          refine go_getR d_CC_bound_77 f_CC_34 (by assumption) (by assumption) ?_
          refine go_V1 d_CC_bound_80 k_CC_109 (by assumption) (Nat.le_of_ble_eq_true rfl) (c_Cu_holdsFor hcu hca s532 (fun b3 hb3 => ?_))
          refine go_if_eq 103 d_CC_bound_83 rfl (fun h83 => ?_) (fun h83 => ?_)
          · refine go_ldc2 d_CC_bound_103 i_CC_103 ?_
            first | exact go_lret d_CC_bound_106 rfl (by rw [hpv]; exact hQ I1 k1 k3 k4 k v A hk rfl (by omega) rfl hacc hval hA (hho.mp (hb3.mp (bI_n0.mp h83)))) | exact go_lret d_CC_bound_106 rfl (hf I1 k1 k3 k4 (fun ⟨k', v', A', q1, q2, q3, q4, q5, q6, q7, q8⟩ => by have e := (nI_eq (by omega) (by omega)).mp q2; subst e; rw [hA] at q7; cases q7; rw [hb3.mpr (hho.mpr q8)] at h83; exact absurd h83 (by decide)))
          · refine go_aload d_CC_bound_86 rfl ?_
            refine go_getR d_CC_bound_88 f_CC_80 (by assumption) (by assumption) ?_
            refine go_iload_n 2 d_CC_bound_91 rfl rfl ?_
            refine go_aald (t := 2) (v) d_CC_bound_92 (by assumption) (by decide) (rfl) (by omega) (by decide) (by assumption) ?_
            refine go_aload_n 0 d_CC_bound_93 rfl rfl ?_
            refine go_getR d_CC_bound_94 f_CC_34 (by assumption) (by assumption) ?_
            refine go_V1 d_CC_bound_97 k_CC_113 (by assumption) (Nat.le_of_ble_eq_true rfl) (c_Po_valueFor hpp hpo s532 ?_)
            refine go_goto 106 d_CC_bound_100 rfl ?_
            first | exact go_lret d_CC_bound_106 rfl (by rw [hpv]; exact hQ I1 k1 k3 k4 k v A hk rfl (by omega) rfl hacc hval hA (hho.mp (hb3.mp (bI_n0.mp h83)))) | exact go_lret d_CC_bound_106 rfl (hf I1 k1 k3 k4 (fun ⟨k', v', A', q1, q2, q3, q4, q5, q6, q7, q8⟩ => by have e := (nI_eq (by omega) (by omega)).mp q2; subst e; rw [hA] at q7; cases q7; rw [hb3.mpr (hho.mpr q8)] at h83; exact absurd h83 (by decide)))
        · refine go_ldc2 d_CC_bound_38 i_CC_103 ?_
          first | exact go_lret d_CC_bound_41 rfl (hf I (fun _ _ => rfl) hz3 hz4 (fun ⟨k', v, A', q1, q2, q3, q4, q5, q6, q7, q8⟩ => by rw [hb2.mpr q6] at h35; exact absurd h35 (by decide))) | exact go_lret d_CC_bound_41 rfl (hf I (fun _ _ => rfl) hz3 hz4 (fun ⟨k', v, A', q1, q2, q3, q4, q5, q6, q7, q8⟩ => by have e := (nI_eq (by omega) (by omega)).mp q2; subst e; rw [q5] at h24; exact absurd h24 (by decide))) | exact go_lret d_CC_bound_41 rfl (hf I (fun _ _ => rfl) hz3 hz4 (fun ⟨k', v, A', q1, q2, q3, q4, q5, q6, q7, q8⟩ => by rw [hb1.mpr ⟨by rw [q4]; exact nI_pos' (by omega), by rw [q4]; exact nI_le (b := 1) (by omega) (by decide)⟩] at h16; exact absurd h16 (by decide)))
end PU4
