/-! Balance -/
theorem l_ac (x z k : Int64) : (x + k) - z = (x - z) + k := by rw [Int64.sub_eq_add_neg, Int64.sub_eq_add_neg, Int64.add_assoc, Int64.add_comm k, ← Int64.add_assoc]
theorem l_sc (x z k : Int64) : z - (x + k) = (z - x) - k := by rw [Int64.sub_eq_add_neg (a := z), Int64.neg_add, Int64.sub_eq_add_neg (a := -x), ← Int64.add_assoc, ← Int64.sub_eq_add_neg, ← Int64.sub_eq_add_neg]
/-- the factors of all differences, and a number -/
abbrev ab_Ba : Type := (Nat → Nat → Int64) × Int64
def pt_Ba (sh : Nat → Nat × Nat) (R : Nat → Nat → Option Nat) (o : Nat) : Prop := sh o = (0, 10) ∧ sh (o + 1) = (2, 25) ∧ R o 0 = some (o + 1)
def ba_at (L : Nat → Nat → Int64) (o : Nat) (s : ab_Ba) : Prop := L o 1 = s.2 ∧ ∀ a b, a < b → b < 5 → L (o + 1) (5 * a + b) = s.1 a b - s.1 b a
theorem ba_at.kept {L L' : Nat → Nat → Int64} {o : Nat} {s : ab_Ba} (h : ba_at L o s) (h0 : L' o = L o) (h1 : L' (o + 1) = L (o + 1)) : ba_at L' o s := by
  unfold ba_at
  rw [h0, h1]
  exact h
def ba_T (T : Nat → Nat → Int64) (a b : Nat) (k : Int64) : Nat → Nat → Int64 := va_up T a (va_up (T a) b (T a b + k))
theorem ba_T_eq {T : Nat → Nat → Int64} {a b : Nat} {k : Int64} : ba_T T a b k a b = T a b + k := by unfold ba_T; rw [gw_up_eq, gw_up_eq]
theorem ba_T_ne {T : Nat → Nat → Int64} {a b x z : Nat} {k : Int64} (h : ¬ (x = a ∧ z = b)) : ba_T T a b k x z = T x z := by
  unfold ba_T
  by_cases hx : x = a
  · subst hx
    rw [gw_up_eq, gw_up_ne (fun e => h ⟨rfl, e⟩)]
  · rw [gw_up_ne hx]
def ba_add (f : Nat → ab_Sy) (m : Int64) : List (Nat × Nat × Nat) → ab_Ba → ab_Ba
  | [], s => s
  | t :: ts, s => match f t.2.1, f t.2.2 with
    | some q, some r => ba_add f m ts (ba_T s.1 q.1 r.1 (m * (nI t.1).toInt64), s.2 + m * (nI t.1).toInt64 * (q.2 - r.2))
    | _, _ => ba_add f m ts s
def ba_pot (f : Nat → ab_Sy) (m : Int64) (P : ab_Po) (s : ab_Ba) : ab_Ba := ba_add f m P.2 (s.1, s.2 + m * P.1.toInt64)
def ba_st (C : sp_E) (T : Nat → Nat → Int64) (a b : Nat) (s : Int64) : Option Int64 := if T a b - T b a = 0 then some s else if 0 < T a b - T b a then (match C b a with | none => none | some w => some (s + -(T a b - T b a) * Int64.ofInt w)) else (match C a b with | none => none | some w => some (s + (T a b - T b a) * Int64.ofInt w))
def ba_row (C : sp_E) (T : Nat → Nat → Int64) (a : Nat) : Nat → Int64 → Option Int64
  | 0, s => some s
  | r + 1, s => match ba_st C T a (4 - r) s with
    | none => none
    | some s' => ba_row C T a r s'
def ba_all (C : sp_E) (T : Nat → Nat → Int64) : Nat → Int64 → Option Int64
  | 0, s => some s
  | r + 1, s => match ba_row C T (4 - r) r s with
    | none => none
    | some s' => ba_all C T r s'
/-- what is left is shown not to be negative -/
def ba_sh (C : sp_E) (s : ab_Ba) : Prop := ∃ v, ba_all C s.1 5 s.2 = some v ∧ ¬ v < 0
section BA
variable {d n : Nat} {sh : Nat → Nat × Nat} {X : Nat × (Nat → Int32)} {R : Nat → Nat → Option Nat} {I : Nat → Nat → Int32} {L : Nat → Nat → Int64} {Q : Option Value → gw_Mem → Prop}
theorem c_Ba_reset {o : Nat} (hp : pt_Ba sh R o) (hQ : ∀ L', ba_at L' o (fun _ _ => 0, 0) → (∀ q, q ≠ o → q ≠ o + 1 → L' q = L q) → Q none (n, sh, X, R, I, L')) : gw_Call y_Ba_reset d 0 0 [.ref o] (n, sh, X, R, I, L) Q := by
  obtain ⟨s0, s1, r0⟩ := hp
  refine gw_call o_Ba_reset (Nat.le_of_ble_eq_true rfl) ?_
  have loop : ∀ (r i : Nat) (x : Int32) (L1 : Nat → Nat → Int64), x = nI i → i + r = 25 → (∀ j, j < i → L1 (o + 1) j = 0) → (∀ q, q ≠ o → q ≠ o + 1 → L1 q = L q) → gw_Go y_Ba_reset d 0 0 2 [some (.ref o), some (.int x)] [] (n, sh, X, R, I, L1) Q := by
    intro r
    induction r with
    | zero =>
      intro i x L1 hx hr h1 h2
      have hi : i = 25 := by omega
      subst hi
      refine go_iload_n 1 d_Ba_reset_2 rfl rfl ?_
      refine go_bipush (v := 25) d_Ba_reset_3 rfl ?_
      refine go_icmp_ge 21 d_Ba_reset_5 rfl (fun _ => ?_) (fun hn => absurd (by rw [hx]; decide) hn)
      refine go_aload_n 0 d_Ba_reset_21 rfl rfl ?_
      refine go_lconst (v := 0) d_Ba_reset_22 rfl ?_
      refine go_putL d_Ba_reset_23 f_Ba_15 (by assumption) ?_
      exact go_vret d_Ba_reset_26 rfl (hQ _ ⟨by rw [gw_up_eq, gw_up_eq], fun a b hab hb => by rw [gw_up_ne (by omega), h1 _ (by omega)]; show (0 : Int64) = 0 - 0; decide⟩ (fun q a b => by rw [gw_up_ne a]; exact h2 q a b))
    | succ r ih =>
      intro i x L1 hx hr h1 h2
      subst hx
      refine go_iload_n 1 d_Ba_reset_2 rfl rfl ?_
      refine go_bipush (v := 25) d_Ba_reset_3 rfl ?_
      refine go_icmp_ge 21 d_Ba_reset_5 rfl (fun hn => absurd hn (nI_ge (b := 25) (by omega) (by decide))) (fun _ => ?_)
      refine go_aload_n 0 d_Ba_reset_8 rfl rfl ?_
      refine go_getR d_Ba_reset_9 f_Ba_9 (by assumption) (by assumption) ?_
      refine go_iload_n 1 d_Ba_reset_12 rfl rfl ?_
      refine go_lconst (v := 0) d_Ba_reset_13 rfl ?_
      refine go_last (i) d_Ba_reset_14 (by assumption) (rfl) (by omega) (by decide) ?_
      refine go_iinc d_Ba_reset_15 rfl rfl (Nat.le_of_ble_eq_true rfl) ?_
      refine go_goto 2 d_Ba_reset_18 rfl ?_
      exact ih (i + 1) _ _ (gw_inc rfl) (by omega) (fun j hj => by rw [gw_up_eq]; by_cases he : j = i; (subst he; rw [gw_up_eq]); (rw [gw_up_ne he]; exact h1 j (by omega))) (fun q a b => by rw [gw_up_ne b]; exact h2 q a b)
  refine go_iconst (v := 0) d_Ba_reset_0 rfl ?_
  refine go_istore_n 1 d_Ba_reset_1 rfl (Nat.le_of_ble_eq_true rfl) ?_
  exact loop 25 0 _ L rfl (by omega) (fun j hj => by omega) (fun _ _ _ => rfl)
theorem c_Ba_copyFrom {o o' : Nat} {s : ab_Ba} (hp : pt_Ba sh R o) (hp' : pt_Ba sh R o') (hs : ba_at L o' s) (h1 : o' ≠ o + 1) (hQ : ∀ L', ba_at L' o s → (∀ q, q ≠ o → q ≠ o + 1 → L' q = L q) → Q none (n, sh, X, R, I, L')) : gw_Call y_Ba_copyFrom (d + 1) 0 0 [.ref o, .ref o'] (n, sh, X, R, I, L) Q := by
  obtain ⟨s0, s1, r0⟩ := hp
  obtain ⟨s0', s1', r0'⟩ := hp'
  refine gw_call o_Ba_copyFrom (Nat.le_of_ble_eq_true rfl) ?_
  refine go_aload_n 1 d_Ba_copyFrom_0 rfl rfl ?_
  refine go_getR d_Ba_copyFrom_1 f_Ba_9 (by assumption) (by assumption) ?_
  refine go_iconst (v := 0) d_Ba_copyFrom_4 rfl ?_
  refine go_aload_n 0 d_Ba_copyFrom_5 rfl rfl ?_
  refine go_getR d_Ba_copyFrom_6 f_Ba_9 (by assumption) (by assumption) ?_
  refine go_iconst (v := 0) d_Ba_copyFrom_9 rfl ?_
  refine go_bipush (v := 25) d_Ba_copyFrom_10 rfl ?_
  refine go_cpyL d_Ba_copyFrom_12 j_Ba_19 gw_js1 gw_js2 gw_js3 (by assumption) (by assumption) (rfl) (by decide) (Nat.le_of_ble_eq_true rfl) ?_
  refine go_aload_n 0 d_Ba_copyFrom_15 rfl rfl ?_
  refine go_aload_n 1 d_Ba_copyFrom_16 rfl rfl ?_
  refine go_getL d_Ba_copyFrom_17 f_Ba_15 (by assumption) ?_
  refine go_putL d_Ba_copyFrom_20 f_Ba_15 (by assumption) ?_
  exact go_vret d_Ba_copyFrom_23 rfl (hQ _ ⟨by rw [gw_up_eq, gw_up_eq, gw_up_ne h1]; exact hs.1, fun a b hab hb => by rw [gw_up_ne (by omega), gw_up_eq, pk_cpy_in (n := 25) (Nat.zero_le _) (by omega), Nat.sub_zero, Nat.zero_add]; exact hs.2 a b hab hb⟩ (fun q a b => by rw [gw_up_ne a, gw_up_ne b]))
theorem c_Ba_addDifference {o a b : Nat} {k : Int64} {s : ab_Ba} (hp : pt_Ba sh R o) (hs : ba_at L o s) (ha : a < 5) (hb : b < 5) (hQ : ∀ L', ba_at L' o (ba_T s.1 a b k, s.2) → (∀ q, q ≠ o + 1 → L' q = L q) → Q none (n, sh, X, R, I, L')) : gw_Call y_Ba_addDifference d 0 0 [.ref o, .long k, .int (nI a), .int (nI b)] (n, sh, X, R, I, L) Q := by
  obtain ⟨s0, s1, r0⟩ := hp
  obtain ⟨h1, h2⟩ := hs
  refine gw_call o_Ba_addDifference (Nat.le_of_ble_eq_true rfl) ?_
  rcases Nat.lt_trichotomy a b with hab | rfl | hab
  · skip
    refine go_iload_n 3 d_Ba_addDifference_0 rfl rfl ?_
    refine go_iload d_Ba_addDifference_1 rfl ?_
    refine go_icmp_ge 24 d_Ba_addDifference_3 rfl (fun hn => absurd hn (nI_ge hab (by omega))) (fun _ => ?_)
    refine go_aload_n 0 d_Ba_addDifference_6 rfl rfl ?_
    refine go_getR d_Ba_addDifference_7 f_Ba_9 (by assumption) (by assumption) ?_
    refine go_iconst (v := 5) d_Ba_addDifference_10 rfl ?_
    refine go_iload_n 3 d_Ba_addDifference_11 rfl rfl ?_
    refine go_imul d_Ba_addDifference_12 ?_
    refine go_iload d_Ba_addDifference_13 rfl ?_
    refine go_iadd d_Ba_addDifference_15 ?_
    refine go_dup2 d_Ba_addDifference_16 rfl rfl ?_
    refine go_lald (5 * a + b) d_Ba_addDifference_17 (by assumption) (kn_ix a b) (by omega) (by decide) ?_
    refine go_lload_n 1 d_Ba_addDifference_18 rfl rfl ?_
    refine go_ladd d_Ba_addDifference_19 ?_
    refine go_last (5 * a + b) d_Ba_addDifference_20 (by assumption) (kn_ix a b) (by omega) (by decide) ?_
    refine go_goto 45 d_Ba_addDifference_21 rfl ?_
    exact go_vret d_Ba_addDifference_45 rfl (hQ _ ⟨by rw [gw_up_ne (by omega)]; exact h1, fun x z hxz hz => by show _ = ba_T s.1 a b k x z - ba_T s.1 a b k z x; rw [gw_up_eq]; by_cases he : x = a ∧ z = b; (obtain ⟨rfl, rfl⟩ := he; rw [gw_up_eq, ba_T_eq, ba_T_ne (by omega), l_ac, h2 x z hxz hz]); (rw [gw_up_ne (by omega), ba_T_ne he, ba_T_ne (by omega)]; exact h2 x z hxz hz)⟩ (fun q hq => gw_up_ne hq))
  · skip
    refine go_iload_n 3 d_Ba_addDifference_0 rfl rfl ?_
    refine go_iload d_Ba_addDifference_1 rfl ?_
    refine go_icmp_ge 24 d_Ba_addDifference_3 rfl (fun _ => ?_) (fun hn => absurd (Int32.le_refl _) hn)
    refine go_iload_n 3 d_Ba_addDifference_24 rfl rfl ?_
    refine go_iload d_Ba_addDifference_25 rfl ?_
    refine go_icmp_le 45 d_Ba_addDifference_27 rfl (fun _ => ?_) (fun hn => absurd (Int32.le_refl _) hn)
    exact go_vret d_Ba_addDifference_45 rfl (hQ L ⟨h1, fun x z hxz hz => by show _ = ba_T s.1 a a k x z - ba_T s.1 a a k z x; rw [ba_T_ne (by omega), ba_T_ne (by omega)]; exact h2 x z hxz hz⟩ (fun _ _ => rfl))
  · skip
    refine go_iload_n 3 d_Ba_addDifference_0 rfl rfl ?_
    refine go_iload d_Ba_addDifference_1 rfl ?_
    refine go_icmp_ge 24 d_Ba_addDifference_3 rfl (fun _ => ?_) (fun hn => absurd (nI_le (Nat.le_of_lt hab) (by omega)) hn)
    refine go_iload_n 3 d_Ba_addDifference_24 rfl rfl ?_
    refine go_iload d_Ba_addDifference_25 rfl ?_
    refine go_icmp_le 45 d_Ba_addDifference_27 rfl (fun hn => absurd hn (nI_ge hab (by omega))) (fun _ => ?_)
    refine go_aload_n 0 d_Ba_addDifference_30 rfl rfl ?_
    refine go_getR d_Ba_addDifference_31 f_Ba_9 (by assumption) (by assumption) ?_
    refine go_iconst (v := 5) d_Ba_addDifference_34 rfl ?_
    refine go_iload d_Ba_addDifference_35 rfl ?_
    refine go_imul d_Ba_addDifference_37 ?_
    refine go_iload_n 3 d_Ba_addDifference_38 rfl rfl ?_
    refine go_iadd d_Ba_addDifference_39 ?_
    refine go_dup2 d_Ba_addDifference_40 rfl rfl ?_
    refine go_lald (5 * b + a) d_Ba_addDifference_41 (by assumption) (kn_ix b a) (by omega) (by decide) ?_
    refine go_lload_n 1 d_Ba_addDifference_42 rfl rfl ?_
    refine go_lsub d_Ba_addDifference_43 ?_
    refine go_last (5 * b + a) d_Ba_addDifference_44 (by assumption) (kn_ix b a) (by omega) (by decide) ?_
    exact go_vret d_Ba_addDifference_45 rfl (hQ _ ⟨by rw [gw_up_ne (by omega)]; exact h1, fun x z hxz hz => by show _ = ba_T s.1 a b k x z - ba_T s.1 a b k z x; rw [gw_up_eq]; by_cases he : x = b ∧ z = a; (obtain ⟨rfl, rfl⟩ := he; rw [gw_up_eq, ba_T_eq, ba_T_ne (by omega), l_sc, h2 x z hxz hz]); (rw [gw_up_ne (by omega), ba_T_ne (by omega), ba_T_ne (by omega)]; exact h2 x z hxz hz)⟩ (fun q hq => gw_up_ne hq))
theorem c_Ba_payWords {o a : Nat} {v : Int64} {s : ab_Ba} (hp : pt_Ba sh R o) (hs : ba_at L o s) (ha : a < 5) (hQ : ∀ L', ba_at L' o (ba_T s.1 a 4 (-1), s.2 - (v + 2)) → (∀ q, q ≠ o → q ≠ o + 1 → L' q = L q) → Q none (n, sh, X, R, I, L')) : gw_Call y_Ba_payWords (d + 1) 0 0 [.ref o, .int (nI a), .long v] (n, sh, X, R, I, L) Q := by
  have hp0 := hp
  obtain ⟨s0, s1, r0⟩ := hp
  obtain ⟨h1, h2⟩ := hs
  refine gw_call o_Ba_payWords (Nat.le_of_ble_eq_true rfl) ?_
  refine go_aload_n 0 d_Ba_payWords_0 rfl rfl ?_
  refine go_dup d_Ba_payWords_1 rfl ?_
  refine go_getL d_Ba_payWords_2 f_Ba_15 (by assumption) ?_
  refine go_lload_n 2 d_Ba_payWords_5 rfl rfl ?_
  refine go_ldc2 d_Ba_payWords_6 i_Ba_55 ?_
  refine go_ladd d_Ba_payWords_9 ?_
  refine go_lsub d_Ba_payWords_10 ?_
  refine go_putL d_Ba_payWords_11 f_Ba_15 (by assumption) ?_
  refine go_aload_n 0 d_Ba_payWords_14 rfl rfl ?_
  refine go_ldc2 d_Ba_payWords_15 i_Ba_57 ?_
  refine go_iload_n 1 d_Ba_payWords_18 rfl rfl ?_
  refine go_iconst (v := 4) d_Ba_payWords_19 rfl ?_
  refine go_V3 d_Ba_payWords_20 k_Ba_51 (by assumption) (Nat.le_of_ble_eq_true rfl) (c_Ba_addDifference (b := 4) (s := (s.1, s.2 - (v + 2))) hp0 ⟨by rw [gw_up_eq, gw_up_eq, h1], fun x z hxz hz => by rw [gw_up_ne (by omega)]; exact h2 x z hxz hz⟩ ha (by decide) (fun L1 c1 c2 => ?_))
  exact go_vret d_Ba_payWords_23 rfl (hQ L1 c1 (fun q a b => by rw [c2 q b, gw_up_ne a]))
theorem c_Ba_addPotential {o k y : Nat} {m : Int32} {P : ab_Po} {f : Nat → ab_Sy} {s : ab_Ba} (hp : pt_Ba sh R o) (hs : ba_at L o s) (hc : pt_Po sh R k) (ha : po_at I k P) (hy : pt_Sy sh R y) (hf : sy_at I L y f) (hno : ¬ po_no f P.2) (hyo : y + 2 ≠ o ∧ y + 2 ≠ o + 1) (hQ : ∀ L', ba_at L' o (ba_pot f m.toInt64 P s) → (∀ q, q ≠ o → q ≠ o + 1 → L' q = L q) → Q none (n, sh, X, R, I, L')) : gw_Call y_Ba_addPotential (d + 1) 0 0 [.ref o, .int m, .ref k, .ref y] (n, sh, X, R, I, L) Q := by
  have hp0 := hp
  obtain ⟨s0, s1, r0⟩ := hp
  obtain ⟨c0, c1, c2, c3, r2, r3, r4⟩ := hc
  obtain ⟨a1, a2, a3, a4⟩ := ha
  obtain ⟨y0, y1, y2, z0, z1⟩ := hy
  refine gw_call o_Ba_addPotential (Nat.le_of_ble_eq_true rfl) ?_
  have loop : ∀ (ts : List (Nat × Nat × Nat)) (i : Nat) (x : Int32) (s' : ab_Ba) (L1 : Nat → Nat → Int64) (o5 o6 o7 : Option Value), x = nI i → i ≤ P.2.length → P.2.drop i = ts → ba_pot f m.toInt64 P s = ba_add f m.toInt64 ts s' → ba_at L1 o s' → (∀ q, q ≠ o → q ≠ o + 1 → L1 q = L q) → gw_Go y_Ba_addPotential (d + 1) 0 0 20 [some (.ref o), some (.int m), some (.ref k), some (.ref y), some (.int x), o5, o6, o7, none] [] (n, sh, X, R, I, L1) Q := by
    intro ts
    induction ts with
    | nil =>
      intro i x s' L1 o5 o6 o7 hx h0 hd hl hb hq
      have hi := gw_dropE hd
      refine go_iload d_Ba_addPotential_20 rfl ?_
      refine go_aload_n 2 d_Ba_addPotential_22 rfl rfl ?_
      refine go_getI d_Ba_addPotential_23 f_Ba_31 (by assumption) ?_
      refine go_icmp_ge 113 d_Ba_addPotential_26 rfl (fun _ => ?_) (fun hn => absurd (by rw [a2, hx]; exact nI_le hi (by omega)) hn)
      exact go_vret d_Ba_addPotential_113 rfl (hQ L1 (by rw [hl]; exact hb) hq)
    | cons t ts ih =>
      intro i x s' L1 o5 o6 o7 hx h0 hd hl hb hq
      obtain ⟨hi, ht, hn⟩ := gw_drop hd
      obtain ⟨b1, b2, b3, b4, b5⟩ := a4 i t ht
      have fa := hf t.2.1 b4
      have fb := hf t.2.2 b5
      obtain ⟨⟨qa, va⟩, hfa⟩ : ∃ q, f t.2.1 = some q := by
        cases h : f t.2.1 with
        | none => exact absurd ⟨t, List.mem_of_getElem? ht, Or.inl h⟩ hno
        | some q => exact ⟨q, rfl⟩
      obtain ⟨⟨qb, vb⟩, hfb⟩ : ∃ q, f t.2.2 = some q := by
        cases h : f t.2.2 with
        | none => exact absurd ⟨t, List.mem_of_getElem? ht, Or.inr h⟩ hno
        | some q => exact ⟨q, rfl⟩
      rw [hfa] at fa
      rw [hfb] at fb
      obtain ⟨fa1, fa2, fa3⟩ := fa
      obtain ⟨fb1, fb2, fb3⟩ := fb
      dsimp only at fa1 fa2 fa3 fb1 fb2 fb3
      have hl' : ba_pot f m.toInt64 P s = ba_add f m.toInt64 ts (ba_T s'.1 qa qb (m.toInt64 * (nI t.1).toInt64), s'.2 + m.toInt64 * (nI t.1).toInt64 * (va - vb)) := by
        rw [hl]
        show (match f t.2.1, f t.2.2 with | some q, some r => _ | _, _ => _) = _
        rw [hfa, hfb]
      have e2 : L1 (y + 2) = L (y + 2) := hq _ hyo.1 hyo.2
      refine go_iload d_Ba_addPotential_20 rfl ?_
      refine go_aload_n 2 d_Ba_addPotential_22 rfl rfl ?_
      refine go_getI d_Ba_addPotential_23 f_Ba_31 (by assumption) ?_
      refine go_icmp_ge 113 d_Ba_addPotential_26 rfl (fun hn => absurd hn (by rw [a2, hx]; exact nI_ge hi (by omega))) (fun _ => ?_)
      refine go_aload_n 2 d_Ba_addPotential_29 rfl rfl ?_
      refine go_getR d_Ba_addPotential_30 f_Ba_34 (by assumption) (by assumption) ?_
      refine go_iload d_Ba_addPotential_33 rfl ?_
      refine go_iald (i) d_Ba_addPotential_35 (by assumption) (hx) (by omega) (by decide) ?_
      rw [b2]
      refine go_istore d_Ba_addPotential_36 (Nat.le_of_ble_eq_true rfl) ?_
      refine go_aload_n 2 d_Ba_addPotential_38 rfl rfl ?_
      refine go_getR d_Ba_addPotential_39 f_Ba_38 (by assumption) (by assumption) ?_
      refine go_iload d_Ba_addPotential_42 rfl ?_
      refine go_iald (i) d_Ba_addPotential_44 (by assumption) (hx) (by omega) (by decide) ?_
      rw [b3]
      refine go_istore d_Ba_addPotential_45 (Nat.le_of_ble_eq_true rfl) ?_
      refine go_iload_n 1 d_Ba_addPotential_47 rfl rfl ?_
      refine go_i2l d_Ba_addPotential_48 (rfl) ?_
      refine go_aload_n 2 d_Ba_addPotential_49 rfl rfl ?_
      refine go_getR d_Ba_addPotential_50 f_Ba_41 (by assumption) (by assumption) ?_
      refine go_iload d_Ba_addPotential_53 rfl ?_
      refine go_iald (i) d_Ba_addPotential_55 (by assumption) (hx) (by omega) (by decide) ?_
      refine go_i2l d_Ba_addPotential_56 (rfl) ?_
      refine go_lmul d_Ba_addPotential_57 ?_
      rw [b1]
      refine go_lstore d_Ba_addPotential_58 (Nat.le_of_ble_eq_true rfl) ?_
      refine go_aload_n 0 d_Ba_addPotential_60 rfl rfl ?_
      refine go_dup d_Ba_addPotential_61 rfl ?_
      refine go_getL d_Ba_addPotential_62 f_Ba_15 (by assumption) ?_
      refine go_lload d_Ba_addPotential_65 rfl ?_
      refine go_aload_n 3 d_Ba_addPotential_67 rfl rfl ?_
      refine go_getR d_Ba_addPotential_68 f_Ba_43 (by assumption) (by assumption) ?_
      refine go_iload d_Ba_addPotential_71 rfl ?_
      refine go_lald (t.2.1) d_Ba_addPotential_73 (by assumption) (rfl) (b4) (by decide) ?_
      refine go_aload_n 3 d_Ba_addPotential_74 rfl rfl ?_
      refine go_getR d_Ba_addPotential_75 f_Ba_43 (by assumption) (by assumption) ?_
      refine go_iload d_Ba_addPotential_78 rfl ?_
      refine go_lald (t.2.2) d_Ba_addPotential_80 (by assumption) (rfl) (b5) (by decide) ?_
      refine go_lsub d_Ba_addPotential_81 ?_
      refine go_lmul d_Ba_addPotential_82 ?_
      refine go_ladd d_Ba_addPotential_83 ?_
      rw [e2, fa3, fb3, hb.1]
      refine go_putL d_Ba_addPotential_84 f_Ba_15 (by assumption) ?_
      refine go_aload_n 0 d_Ba_addPotential_87 rfl rfl ?_
      refine go_lload d_Ba_addPotential_88 rfl ?_
      refine go_aload_n 3 d_Ba_addPotential_90 rfl rfl ?_
      refine go_getR d_Ba_addPotential_91 f_Ba_48 (by assumption) (by assumption) ?_
      refine go_iload d_Ba_addPotential_94 rfl ?_
      refine go_iald (t.2.1) d_Ba_addPotential_96 (by assumption) (rfl) (b4) (by decide) ?_
      refine go_aload_n 3 d_Ba_addPotential_97 rfl rfl ?_
      refine go_getR d_Ba_addPotential_98 f_Ba_48 (by assumption) (by assumption) ?_
      refine go_iload d_Ba_addPotential_101 rfl ?_
      refine go_iald (t.2.2) d_Ba_addPotential_103 (by assumption) (rfl) (b5) (by decide) ?_
      rw [fa1, fb1]
      refine go_V3 d_Ba_addPotential_104 k_Ba_51 (by assumption) (Nat.le_of_ble_eq_true rfl) (c_Ba_addDifference (s := (s'.1, s'.2 + m.toInt64 * (nI t.1).toInt64 * (va - vb))) hp0 ⟨by rw [gw_up_eq, gw_up_eq], fun x z hxz hz => by rw [gw_up_ne (by omega)]; exact hb.2 x z hxz hz⟩ fa2 fb2 (fun L2 c1 c2 => ?_))
      refine go_iinc d_Ba_addPotential_107 rfl rfl (Nat.le_of_ble_eq_true rfl) ?_
      refine go_goto 20 d_Ba_addPotential_110 rfl ?_
      exact ih (i + 1) _ _ L2 _ _ _ (gw_inc hx) (by omega) hn hl' c1 (fun q g1 g2 => by rw [c2 q g2, gw_up_ne g1]; exact hq q g1 g2)
  refine go_aload_n 0 d_Ba_addPotential_0 rfl rfl ?_
  refine go_dup d_Ba_addPotential_1 rfl ?_
  refine go_getL d_Ba_addPotential_2 f_Ba_15 (by assumption) ?_
  refine go_iload_n 1 d_Ba_addPotential_5 rfl rfl ?_
  refine go_i2l d_Ba_addPotential_6 (rfl) ?_
  refine go_aload_n 2 d_Ba_addPotential_7 rfl rfl ?_
  refine go_getI d_Ba_addPotential_8 f_Ba_25 (by assumption) ?_
  refine go_i2l d_Ba_addPotential_11 (rfl) ?_
  refine go_lmul d_Ba_addPotential_12 ?_
  refine go_ladd d_Ba_addPotential_13 ?_
  refine go_putL d_Ba_addPotential_14 f_Ba_15 (by assumption) ?_
  refine go_iconst (v := 0) d_Ba_addPotential_17 rfl ?_
  refine go_istore d_Ba_addPotential_18 (Nat.le_of_ble_eq_true rfl) ?_
  exact loop _ 0 _ (s.1, s.2 + m.toInt64 * P.1.toInt64) _ _ _ _ rfl (by omega) rfl rfl ⟨by rw [gw_up_eq, gw_up_eq, hs.1, a1], fun x z hxz hz => by rw [gw_up_ne (by omega)]; exact hs.2 x z hxz hz⟩ (fun q g1 g2 => gw_up_ne g1)
end BA
