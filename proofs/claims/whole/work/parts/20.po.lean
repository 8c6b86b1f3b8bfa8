/-! Potential: base, terms -/
def pt_Po (sh : Nat → Nat × Nat) (R : Nat → Nat → Option Nat) (o : Nat) : Prop := sh o = (0, 3) ∧ sh (o + 1) = (1, 3) ∧ sh (o + 2) = (1, 3) ∧ sh (o + 3) = (1, 3) ∧ R o 2 = some (o + 1) ∧ R o 3 = some (o + 2) ∧ R o 4 = some (o + 3)
/-- base and terms (factor, a, b) -/
abbrev ab_Po : Type := Int32 × List (Nat × Nat × Nat)
/-- as a potential at o holds them -/
def po_at (I : Nat → Nat → Int32) (o : Nat) (p : ab_Po) : Prop := I o 0 = p.1 ∧ I o 1 = nI p.2.length ∧ p.2.length ≤ 3 ∧ ∀ (j : Nat) (t : Nat × Nat × Nat), p.2[j]? = some t → I (o + 1) j = nI t.1 ∧ I (o + 2) j = nI t.2.1 ∧ I (o + 3) j = nI t.2.2 ∧ t.2.1 < 5 ∧ t.2.2 < 5
theorem po_at.kept {I I' : Nat → Nat → Int32} {o : Nat} {p : ab_Po} (h : po_at I o p) (hq : ∀ q, o ≤ q → q < o + 4 → I' q = I q) : po_at I' o p := by
  obtain ⟨h1, h2, h3, h4⟩ := h
  exact ⟨by rw [hq o (by omega) (by omega)]; exact h1, by rw [hq o (by omega) (by omega)]; exact h2, h3, fun j t ht => by rw [hq (o + 1) (by omega) (by omega), hq (o + 2) (by omega) (by omega), hq (o + 3) (by omega) (by omega)]; exact h4 j t ht⟩
theorem gw_app {α : Type} {l : List α} {x t : α} {j : Nat} (h : (l ++ [x])[j]? = some t) : (j < l.length ∧ l[j]? = some t) ∨ (j = l.length ∧ t = x) := by
  by_cases hj : j < l.length
  · rw [List.getElem?_append_left hj] at h
    exact Or.inl ⟨hj, h⟩
  · rw [List.getElem?_append_right (by omega)] at h
    have hz : j - l.length < 1 := (List.getElem?_eq_some_iff.mp h).1
    rw [show j - l.length = 0 by omega] at h
    exact Or.inr ⟨by omega, (Option.some.inj h).symm⟩
theorem gw_inc {x : Int32} {i : Nat} (h : x = nI i) : x + Int32.ofInt 1 = nI (i + 1) := by rw [h, nI_succ]; rfl
theorem gw_dec {x : Int32} {i : Nat} (h : x = nI (i + 1)) : x + Int32.ofInt (-1) = nI i := by rw [h]; exact pk_m1 i
theorem gw_drop {α : Type} {l : List α} {i : Nat} {t : α} {ts : List α} (h : l.drop i = t :: ts) : i < l.length ∧ l[i]? = some t ∧ l.drop (i + 1) = ts := by
  have hl : i < l.length := by
    by_cases hi : i < l.length
    · exact hi
    · rw [List.drop_eq_nil_of_le (by omega)] at h; cases h
  refine ⟨hl, ?_, ?_⟩
  · have := congrArg List.head? h
    rw [List.head?_drop] at this
    exact this
  · rw [← List.tail_drop, h]; rfl
theorem gw_dropE {α : Type} {l : List α} {i : Nat} (h : l.drop i = []) : l.length ≤ i := List.drop_eq_nil_iff.mp h
section PO
variable {d n : Nat} {sh : Nat → Nat × Nat} {X : Nat × (Nat → Int32)} {R : Nat → Nat → Option Nat} {I : Nat → Nat → Int32} {L : Nat → Nat → Int64} {Q : Option Value → gw_Mem → Prop}
theorem c_Po_reset {o : Nat} (hp : pt_Po sh R o) (hQ : ∀ I', po_at I' o (0, []) → (∀ q, q ≠ o → I' q = I q) → Q none (n, sh, X, R, I', L)) : gw_Call y_Po_reset d 0 0 [.ref o] (n, sh, X, R, I, L) Q := by
  obtain ⟨s0, s1, s2, s3, r2, r3, r4⟩ := hp
  refine gw_call o_Po_reset (Nat.le_of_ble_eq_true rfl) ?_
  refine go_aload_n 0 d_Po_reset_0 rfl rfl ?_
  refine go_iconst (v := 0) d_Po_reset_1 rfl ?_
  refine go_putI d_Po_reset_2 f_Po_21 (by assumption) ?_
  refine go_aload_n 0 d_Po_reset_5 rfl rfl ?_
  refine go_iconst (v := 0) d_Po_reset_6 rfl ?_
  refine go_putI d_Po_reset_7 f_Po_25 (by assumption) ?_
  exact go_vret d_Po_reset_10 rfl (hQ _ ⟨by simp [va_up], by simp [va_up, nI_0], by simp, fun j t h => by simp at h⟩ (fun q h => by simp [va_up, h]))
theorem c_Po_addTerm {o k a b : Nat} {p : ab_Po} (hp : pt_Po sh R o) (ha : po_at I o p) (ha5 : a < 5) (hb5 : b < 5) (hf : ¬ p.2.length < 3 → Q (some (.int 0)) (n, sh, X, R, I, L)) (hQ : p.2.length < 3 → ∀ I', po_at I' o (p.1, p.2 ++ [(k, a, b)]) → (∀ q, q < o ∨ o + 4 ≤ q → I' q = I q) → Q (some (.int 1)) (n, sh, X, R, I', L)) : gw_Call y_Po_addTerm d 0 0 [.ref o, .int (nI k), .int (nI a), .int (nI b)] (n, sh, X, R, I, L) Q := by
  obtain ⟨s0, s1, s2, s3, r2, r3, r4⟩ := hp
  obtain ⟨a1, a2, a3, a4⟩ := ha
  refine gw_call o_Po_addTerm (Nat.le_of_ble_eq_true rfl) ?_
  refine go_aload_n 0 d_Po_addTerm_0 rfl rfl ?_
  refine go_getI d_Po_addTerm_1 f_Po_25 (by assumption) ?_
  refine go_iconst (v := 3) d_Po_addTerm_4 rfl ?_
  refine go_icmp_lt 10 d_Po_addTerm_5 rfl (fun h5 => ?_) (fun h5 => ?_)
  · have hlt : p.2.length < 3 := by rw [a2] at h5; exact (nI_ltI (b := 3) (by omega) (by decide)).mp h5
    refine go_aload_n 0 d_Po_addTerm_10 rfl rfl ?_
    refine go_getR d_Po_addTerm_11 f_Po_9 (by assumption) (by assumption) ?_
    refine go_aload_n 0 d_Po_addTerm_14 rfl rfl ?_
    refine go_getI d_Po_addTerm_15 f_Po_25 (by assumption) ?_
    refine go_iload_n 1 d_Po_addTerm_18 rfl rfl ?_
    refine go_iast (p.2.length) d_Po_addTerm_19 (by assumption) (a2) (hlt) (by decide) ?_
    refine go_aload_n 0 d_Po_addTerm_20 rfl rfl ?_
    refine go_getR d_Po_addTerm_21 f_Po_15 (by assumption) (by assumption) ?_
    refine go_aload_n 0 d_Po_addTerm_24 rfl rfl ?_
    refine go_getI d_Po_addTerm_25 f_Po_25 (by assumption) ?_
    refine go_iload_n 2 d_Po_addTerm_28 rfl rfl ?_
    refine go_iast (p.2.length) d_Po_addTerm_29 (by assumption) (by simp [va_up, a2]) (hlt) (by decide) ?_
    refine go_aload_n 0 d_Po_addTerm_30 rfl rfl ?_
    refine go_getR d_Po_addTerm_31 f_Po_18 (by assumption) (by assumption) ?_
    refine go_aload_n 0 d_Po_addTerm_34 rfl rfl ?_
    refine go_getI d_Po_addTerm_35 f_Po_25 (by assumption) ?_
    refine go_iload_n 3 d_Po_addTerm_38 rfl rfl ?_
    refine go_iast (p.2.length) d_Po_addTerm_39 (by assumption) (by simp [va_up, a2]) (hlt) (by decide) ?_
    refine go_aload_n 0 d_Po_addTerm_40 rfl rfl ?_
    refine go_dup d_Po_addTerm_41 rfl ?_
    refine go_getI d_Po_addTerm_42 f_Po_25 (by assumption) ?_
    refine go_iconst (v := 1) d_Po_addTerm_45 rfl ?_
    refine go_iadd d_Po_addTerm_46 ?_
    refine go_putI d_Po_addTerm_47 f_Po_25 (by assumption) ?_
    refine go_iconst (v := 1) d_Po_addTerm_50 rfl ?_
    have key : ∀ (j : Nat) (t : Nat × Nat × Nat), (p.2 ++ [(k, a, b)])[j]? = some t → (j ≠ p.2.length ∧ p.2[j]? = some t) ∨ (j = p.2.length ∧ t = (k, a, b)) := fun j t h => by rcases gw_app h with ⟨e1, e2⟩ | e; exact Or.inl ⟨by omega, e2⟩; exact Or.inr e
    exact go_zret d_Po_addTerm_51 rfl (by first | exact Or.inl rfl | exact Or.inr rfl | assumption) (hQ hlt _ ⟨by simp [va_up, a1], by simp [va_up, a2, nI_succ], by simp; omega, fun j t h => by rcases key j t h with ⟨e1, e2⟩ | ⟨rfl, rfl⟩; (have e4 := a4 j t e2; simp [va_up, e1, e4]); simp [va_up, ha5, hb5]⟩ (fun q h => by simp [va_up, show q ≠ o by omega, show q ≠ o + 1 by omega, show q ≠ o + 2 by omega, show q ≠ o + 3 by omega]))
  · refine go_iconst (v := 0) d_Po_addTerm_8 rfl ?_
    exact go_zret d_Po_addTerm_9 rfl (by first | exact Or.inl rfl | exact Or.inr rfl | assumption) (hf (fun h => h5 (by rw [a2]; exact nI_lt h (by decide))))
/-- the value when the sides have these values -/
def po_val (v : Nat → Int32) : List (Nat × Nat × Nat) → Int64 → Int64
  | [], s => s
  | t :: ts, s => po_val v ts (s + (nI t.1).toInt64 * (v t.2.1 - v t.2.2).toInt64)
theorem c_Po_valueFor {o v : Nat} {p : ab_Po} (hp : pt_Po sh R o) (ha : po_at I o p) (hv : sh v = (1, 5)) (hQ : Q (some (.long (po_val (I v) p.2 p.1.toInt64))) (n, sh, X, R, I, L)) : gw_Call y_Po_valueFor d 0 0 [.ref o, .ref v] (n, sh, X, R, I, L) Q := by
  obtain ⟨s0, s1, s2, s3, r2, r3, r4⟩ := hp
  obtain ⟨a1, a2, a3, a4⟩ := ha
  refine gw_call o_Po_valueFor (Nat.le_of_ble_eq_true rfl) ?_
  have loop : ∀ (ts : List (Nat × Nat × Nat)) (i : Nat) (x : Int32) (s : Int64), x = nI i → i ≤ p.2.length → p.2.drop i = ts → po_val (I v) p.2 p.1.toInt64 = po_val (I v) ts s → gw_Go y_Po_valueFor d 0 0 9 [some (.ref o), some (.ref v), some (.long s), none, some (.int x)] [] (n, sh, X, R, I, L) Q := by
    intro ts
    induction ts with
    | nil =>
      intro i x s hx h0 hd hs
      have hi := gw_dropE hd
      refine go_iload d_Po_valueFor_9 rfl ?_
      refine go_aload_n 0 d_Po_valueFor_11 rfl rfl ?_
      refine go_getI d_Po_valueFor_12 f_Po_25 (by assumption) ?_
      refine go_icmp_ge 56 d_Po_valueFor_15 rfl (fun _ => ?_) (fun hn => absurd (by rw [a2, hx]; exact nI_le hi (by omega)) hn)
      refine go_lload_n 2 d_Po_valueFor_56 rfl rfl ?_
      exact go_lret d_Po_valueFor_57 rfl (by rw [hs] at hQ; exact hQ)
    | cons t ts ih =>
      intro i x s hx h0 hd hs
      obtain ⟨hi, ht, hn⟩ := gw_drop hd
      obtain ⟨b1, b2, b3, b4, b5⟩ := a4 i t ht
      refine go_iload d_Po_valueFor_9 rfl ?_
      refine go_aload_n 0 d_Po_valueFor_11 rfl rfl ?_
      refine go_getI d_Po_valueFor_12 f_Po_25 (by assumption) ?_
      refine go_icmp_ge 56 d_Po_valueFor_15 rfl (fun hn => absurd hn (by rw [a2, hx]; exact nI_ge hi (by omega))) (fun _ => ?_)
      refine go_lload_n 2 d_Po_valueFor_18 rfl rfl ?_
      refine go_aload_n 0 d_Po_valueFor_19 rfl rfl ?_
      refine go_getR d_Po_valueFor_20 f_Po_9 (by assumption) (by assumption) ?_
      refine go_iload d_Po_valueFor_23 rfl ?_
      refine go_iald (i) d_Po_valueFor_25 (by assumption) (hx) (by omega) (by decide) ?_
      refine go_i2l d_Po_valueFor_26 (rfl) ?_
      refine go_aload_n 1 d_Po_valueFor_27 rfl rfl ?_
      refine go_aload_n 0 d_Po_valueFor_28 rfl rfl ?_
      refine go_getR d_Po_valueFor_29 f_Po_15 (by assumption) (by assumption) ?_
      refine go_iload d_Po_valueFor_32 rfl ?_
      refine go_iald (i) d_Po_valueFor_34 (by assumption) (hx) (by omega) (by decide) ?_
      refine go_iald (t.2.1) d_Po_valueFor_35 (by assumption) (b2) (b4) (by decide) ?_
      refine go_aload_n 1 d_Po_valueFor_36 rfl rfl ?_
      refine go_aload_n 0 d_Po_valueFor_37 rfl rfl ?_
      refine go_getR d_Po_valueFor_38 f_Po_18 (by assumption) (by assumption) ?_
      refine go_iload d_Po_valueFor_41 rfl ?_
      refine go_iald (i) d_Po_valueFor_43 (by assumption) (hx) (by omega) (by decide) ?_
      refine go_iald (t.2.2) d_Po_valueFor_44 (by assumption) (b3) (b5) (by decide) ?_
      refine go_isub d_Po_valueFor_45 ?_
      refine go_i2l d_Po_valueFor_46 (rfl) ?_
      refine go_lmul d_Po_valueFor_47 ?_
      refine go_ladd d_Po_valueFor_48 ?_
      refine go_lstore_n 2 d_Po_valueFor_49 rfl (Nat.le_of_ble_eq_true rfl) ?_
      refine go_iinc d_Po_valueFor_50 rfl rfl (Nat.le_of_ble_eq_true rfl) ?_
      refine go_goto 9 d_Po_valueFor_53 rfl ?_
      exact ih (i + 1) _ _ (gw_inc hx) (by omega) hn (by rw [hs, b1]; rfl)
  refine go_aload_n 0 d_Po_valueFor_0 rfl rfl ?_
  refine go_getI d_Po_valueFor_1 f_Po_21 (by assumption) ?_
  refine go_i2l d_Po_valueFor_4 (rfl) ?_
  refine go_lstore_n 2 d_Po_valueFor_5 rfl (Nat.le_of_ble_eq_true rfl) ?_
  refine go_iconst (v := 0) d_Po_valueFor_6 rfl ?_
  refine go_istore d_Po_valueFor_7 (Nat.le_of_ble_eq_true rfl) ?_
  exact loop _ 0 _ _ rfl (by omega) rfl (by rw [a1]; rfl)
end PO
