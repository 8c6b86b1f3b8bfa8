/-! Cut: place, claims, two potentials -/
def bI : Bool → Int32
  | true => 1
  | false => 0
theorem bI_0 {b : Bool} : bI b = 0 ↔ b = false := by cases b <;> simp [bI]
theorem bI_01 (b : Bool) : bI b = 0 ∨ bI b = 1 := by cases b <;> simp [bI]
theorem bI_n0 {b : Bool} : ¬ bI b = 0 ↔ b = true := by cases b <;> simp [bI]
/-- claims (a, b, c), the potentials of steps and of words -/
abbrev ab_Cu : Type := List (Nat × Nat × Int32) × ab_Po × ab_Po
def pt_Cu (sh : Nat → Nat × Nat) (R : Nat → Nat → Option Nat) (o : Nat) : Prop := sh o = (0, 2) ∧ sh (o + 1) = (1, 6) ∧ sh (o + 2) = (1, 6) ∧ sh (o + 3) = (1, 6) ∧ sh (o + 4) = (2 + 4, 2) ∧ R o 2 = some (o + 1) ∧ R o 3 = some (o + 2) ∧ R o 4 = some (o + 3) ∧ R o 5 = some (o + 4) ∧ R (o + 4) 0 = some (o + 5) ∧ R (o + 4) 1 = some (o + 9) ∧ pt_Po sh R (o + 5) ∧ pt_Po sh R (o + 9)
theorem pt_Po.kept {sh : Nat → Nat × Nat} {R R' : Nat → Nat → Option Nat} {o : Nat} (h : pt_Po sh R o) (hq : ∀ q, o ≤ q → q < o + 4 → R' q = R q) : pt_Po sh R' o := by
  obtain ⟨s0, s1, s2, s3, r2, r3, r4⟩ := h
  exact ⟨s0, s1, s2, s3, by rw [hq o (by omega) (by omega)]; exact r2, by rw [hq o (by omega) (by omega)]; exact r3, by rw [hq o (by omega) (by omega)]; exact r4⟩
theorem pt_Cu.kept {sh : Nat → Nat × Nat} {R R' : Nat → Nat → Option Nat} {o : Nat} (h : pt_Cu sh R o) (hq : ∀ q, o ≤ q → q < o + 13 → R' q = R q) : pt_Cu sh R' o := by
  obtain ⟨s0, s1, s2, s3, s4, r2, r3, r4, r5, q0, q1, p0, p1⟩ := h
  have e0 := hq o (by omega) (by omega)
  have e4 := hq (o + 4) (by omega) (by omega)
  exact ⟨s0, s1, s2, s3, s4, by rw [e0]; exact r2, by rw [e0]; exact r3, by rw [e0]; exact r4, by rw [e0]; exact r5, by rw [e4]; exact q0, by rw [e4]; exact q1, p0.kept (fun q a b => hq q (by omega) (by omega)), p1.kept (fun q a b => hq q (by omega) (by omega))⟩
def cu_at (I : Nat → Nat → Int32) (o p : Nat) (c : ab_Cu) : Prop := I o 0 = nI p ∧ I o 1 = nI c.1.length ∧ c.1.length ≤ 6 ∧ (∀ (j : Nat) (t : Nat × Nat × Int32), c.1[j]? = some t → I (o + 1) j = nI t.1 ∧ I (o + 2) j = nI t.2.1 ∧ I (o + 3) j = t.2.2 ∧ t.1 < 5 ∧ t.2.1 < 5) ∧ po_at I (o + 5) c.2.1 ∧ po_at I (o + 9) c.2.2
theorem cu_at.kept {I I' : Nat → Nat → Int32} {o p : Nat} {c : ab_Cu} (h : cu_at I o p c) (hq : ∀ q, o ≤ q → q < o + 13 → I' q = I q) : cu_at I' o p c := by
  obtain ⟨h1, h2, h3, h4, h5, h6⟩ := h
  exact ⟨by rw [hq o (by omega) (by omega)]; exact h1, by rw [hq o (by omega) (by omega)]; exact h2, h3, fun j t ht => by rw [hq (o + 1) (by omega) (by omega), hq (o + 2) (by omega) (by omega), hq (o + 3) (by omega) (by omega)]; exact h4 j t ht, h5.kept (fun q a b => hq q (by omega) (by omega)), h6.kept (fun q a b => hq q (by omega) (by omega))⟩
section CU
variable {d n : Nat} {sh : Nat → Nat × Nat} {X : Nat × (Nat → Int32)} {R : Nat → Nat → Option Nat} {I : Nat → Nat → Int32} {L : Nat → Nat → Int64} {Q : Option Value → gw_Mem → Prop}
theorem c_Cu_reset {o p : Nat} (hp : pt_Cu sh R o) (hQ : ∀ I', cu_at I' o p ([], (0, []), (0, [])) → (∀ q, q < o ∨ o + 13 ≤ q → I' q = I q) → Q none (n, sh, X, R, I', L)) : gw_Call y_Cu_reset (d + 1) 0 0 [.ref o, .int (nI p)] (n, sh, X, R, I, L) Q := by
  obtain ⟨s0, s1, s2, s3, s4, r2, r3, r4, r5, q0, q1, p0, p1⟩ := hp
  have s5 := p0.1
  have s9 := p1.1
  refine gw_call o_Cu_reset (Nat.le_of_ble_eq_true rfl) ?_
  refine go_aload_n 0 d_Cu_reset_0 rfl rfl ?_
  refine go_iload_n 1 d_Cu_reset_1 rfl rfl ?_
  refine go_putI d_Cu_reset_2 f_Cu_28 (by assumption) ?_
  refine go_aload_n 0 d_Cu_reset_5 rfl rfl ?_
  refine go_iconst (v := 0) d_Cu_reset_6 rfl ?_
  refine go_putI d_Cu_reset_7 f_Cu_32 (by assumption) ?_
  refine go_iconst (v := 0) d_Cu_reset_10 rfl ?_
  refine go_istore_n 2 d_Cu_reset_11 rfl (Nat.le_of_ble_eq_true rfl) ?_
  refine go_iload_n 2 d_Cu_reset_12 rfl rfl ?_
  refine go_iconst (v := 2) d_Cu_reset_13 rfl ?_
  refine go_icmp_ge 32 d_Cu_reset_14 rfl (fun hn => absurd hn (by decide)) (fun _ => ?_)
  refine go_aload_n 0 d_Cu_reset_17 rfl rfl ?_
  refine go_getR d_Cu_reset_18 f_Cu_23 (by assumption) (by assumption) ?_
  refine go_iload_n 2 d_Cu_reset_21 rfl rfl ?_
  refine go_aald (t := 2) (0) d_Cu_reset_22 (by assumption) (by decide) (rfl) (by decide) (by decide) (by assumption) ?_
  refine go_V0 d_Cu_reset_23 k_Cu_35 (by assumption) (Nat.le_of_ble_eq_true rfl) (c_Po_reset p0 (fun I1 hI1 hk1 => ?_))
  refine go_iinc d_Cu_reset_26 rfl rfl (Nat.le_of_ble_eq_true rfl) ?_
  refine go_goto 12 d_Cu_reset_29 rfl ?_
  refine go_iload_n 2 d_Cu_reset_12 rfl rfl ?_
  refine go_iconst (v := 2) d_Cu_reset_13 rfl ?_
  refine go_icmp_ge 32 d_Cu_reset_14 rfl (fun hn => absurd hn (by decide)) (fun _ => ?_)
  refine go_aload_n 0 d_Cu_reset_17 rfl rfl ?_
  refine go_getR d_Cu_reset_18 f_Cu_23 (by assumption) (by assumption) ?_
  refine go_iload_n 2 d_Cu_reset_21 rfl rfl ?_
  refine go_aald (t := 2) (1) d_Cu_reset_22 (by assumption) (by decide) (rfl) (by decide) (by decide) (by assumption) ?_
  refine go_V0 d_Cu_reset_23 k_Cu_35 (by assumption) (Nat.le_of_ble_eq_true rfl) (c_Po_reset p1 (fun I2 hI2 hk2 => ?_))
  refine go_iinc d_Cu_reset_26 rfl rfl (Nat.le_of_ble_eq_true rfl) ?_
  refine go_goto 12 d_Cu_reset_29 rfl ?_
  refine go_iload_n 2 d_Cu_reset_12 rfl rfl ?_
  refine go_iconst (v := 2) d_Cu_reset_13 rfl ?_
  refine go_icmp_ge 32 d_Cu_reset_14 rfl (fun _ => ?_) (fun hn => absurd (by decide) hn)
  have e : ∀ q, q ≠ o → q ≠ o + 5 → q ≠ o + 9 → I2 q = I q := fun q a b c => by rw [hk2 q c, hk1 q b]; simp [va_up, a]
  have eo : I2 o = va_up (va_up (I o) 0 (nI p)) 1 0 := by rw [hk2 o (by omega), hk1 o (by omega)]; simp [va_up]
  exact go_vret d_Cu_reset_32 rfl (hQ I2 ⟨by rw [eo]; simp [va_up], by rw [eo]; simp [va_up, nI_0], by simp, fun j t h => by simp at h, hI1.kept (fun q a b => hk2 q (by omega)), hI2⟩ (fun q h => e q (by omega) (by omega) (by omega)))
theorem c_Cu_addClaim {o p a b : Nat} {c : Int32} {A : ab_Cu} (hp : pt_Cu sh R o) (ha : cu_at I o p A) (ha5 : a < 5) (hb5 : b < 5) (hf : ¬ A.1.length < 6 → Q (some (.int 0)) (n, sh, X, R, I, L)) (hQ : A.1.length < 6 → ∀ I', cu_at I' o p (A.1 ++ [(a, b, c)], A.2) → (∀ q, q < o ∨ o + 13 ≤ q → I' q = I q) → Q (some (.int 1)) (n, sh, X, R, I', L)) : gw_Call y_Cu_addClaim d 0 0 [.ref o, .int (nI a), .int (nI b), .int c] (n, sh, X, R, I, L) Q := by
  obtain ⟨s0, s1, s2, s3, s4, r2, r3, r4, r5, q0, q1, p0, p1⟩ := hp
  obtain ⟨a1, a2, a3, a4, a5, a6⟩ := ha
  refine gw_call o_Cu_addClaim (Nat.le_of_ble_eq_true rfl) ?_
  refine go_aload_n 0 d_Cu_addClaim_0 rfl rfl ?_
  refine go_getI d_Cu_addClaim_1 f_Cu_32 (by assumption) ?_
  refine go_bipush (v := 6) d_Cu_addClaim_4 rfl ?_
  refine go_icmp_lt 11 d_Cu_addClaim_6 rfl (fun h6 => ?_) (fun h6 => ?_)
  · have hlt : A.1.length < 6 := by rw [a2] at h6; exact (nI_ltI (b := 6) (by omega) (by decide)).mp h6
    refine go_aload_n 0 d_Cu_addClaim_11 rfl rfl ?_
    refine go_getR d_Cu_addClaim_12 f_Cu_9 (by assumption) (by assumption) ?_
    refine go_aload_n 0 d_Cu_addClaim_15 rfl rfl ?_
    refine go_getI d_Cu_addClaim_16 f_Cu_32 (by assumption) ?_
    refine go_iload_n 1 d_Cu_addClaim_19 rfl rfl ?_
    refine go_iast (A.1.length) d_Cu_addClaim_20 (by assumption) (a2) (hlt) (by decide) ?_
    refine go_aload_n 0 d_Cu_addClaim_21 rfl rfl ?_
    refine go_getR d_Cu_addClaim_22 f_Cu_15 (by assumption) (by assumption) ?_
    refine go_aload_n 0 d_Cu_addClaim_25 rfl rfl ?_
    refine go_getI d_Cu_addClaim_26 f_Cu_32 (by assumption) ?_
    refine go_iload_n 2 d_Cu_addClaim_29 rfl rfl ?_
    refine go_iast (A.1.length) d_Cu_addClaim_30 (by assumption) (by simp [va_up, a2]) (hlt) (by decide) ?_
    refine go_aload_n 0 d_Cu_addClaim_31 rfl rfl ?_
    refine go_getR d_Cu_addClaim_32 f_Cu_18 (by assumption) (by assumption) ?_
    refine go_aload_n 0 d_Cu_addClaim_35 rfl rfl ?_
    refine go_getI d_Cu_addClaim_36 f_Cu_32 (by assumption) ?_
    refine go_iload_n 3 d_Cu_addClaim_39 rfl rfl ?_
    refine go_iast (A.1.length) d_Cu_addClaim_40 (by assumption) (by simp [va_up, a2]) (hlt) (by decide) ?_
    refine go_aload_n 0 d_Cu_addClaim_41 rfl rfl ?_
    refine go_dup d_Cu_addClaim_42 rfl ?_
    refine go_getI d_Cu_addClaim_43 f_Cu_32 (by assumption) ?_
    refine go_iconst (v := 1) d_Cu_addClaim_46 rfl ?_
    refine go_iadd d_Cu_addClaim_47 ?_
    refine go_putI d_Cu_addClaim_48 f_Cu_32 (by assumption) ?_
    refine go_iconst (v := 1) d_Cu_addClaim_51 rfl ?_
    have key : ∀ (j : Nat) (t : Nat × Nat × Int32), (A.1 ++ [(a, b, c)])[j]? = some t → (j ≠ A.1.length ∧ A.1[j]? = some t) ∨ (j = A.1.length ∧ t = (a, b, c)) := fun j t h => by rcases gw_app h with ⟨e1, e2⟩ | e; exact Or.inl ⟨by omega, e2⟩; exact Or.inr e
    exact go_zret d_Cu_addClaim_52 rfl (by first | exact Or.inl rfl | exact Or.inr rfl | assumption) (hQ hlt _ ⟨by simp [va_up, a1], by simp [va_up, a2, nI_succ], by simp; omega, fun j t h => by rcases key j t h with ⟨e1, e2⟩ | ⟨rfl, rfl⟩; (have e4 := a4 j t e2; simp [va_up, e1, e4]); simp [va_up, ha5, hb5], a5.kept (fun q g1 g2 => by simp [va_up, show q ≠ o by omega, show q ≠ o + 1 by omega, show q ≠ o + 2 by omega, show q ≠ o + 3 by omega]), a6.kept (fun q g1 g2 => by simp [va_up, show q ≠ o by omega, show q ≠ o + 1 by omega, show q ≠ o + 2 by omega, show q ≠ o + 3 by omega])⟩ (fun q h => by simp [va_up, show q ≠ o by omega, show q ≠ o + 1 by omega, show q ≠ o + 2 by omega, show q ≠ o + 3 by omega]))
  · refine go_iconst (v := 0) d_Cu_addClaim_9 rfl ?_
    exact go_zret d_Cu_addClaim_10 rfl (by first | exact Or.inl rfl | exact Or.inr rfl | assumption) (hf (fun h => h6 (by rw [a2]; exact nI_lt h (by decide))))
/-- whether all claims hold when the sides have these values -/
def cu_holds (v : Nat → Int32) (l : List (Nat × Nat × Int32)) : Prop := ∀ t ∈ l, v t.1 - v t.2.1 ≤ t.2.2
theorem c_Cu_holdsFor {o p v : Nat} {A : ab_Cu} (hp : pt_Cu sh R o) (ha : cu_at I o p A) (hv : sh v = (1, 5)) (hQ : ∀ b : Bool, (b = true ↔ cu_holds (I v) A.1) → Q (some (.int (bI b))) (n, sh, X, R, I, L)) : gw_Call y_Cu_holdsFor d 0 0 [.ref o, .ref v] (n, sh, X, R, I, L) Q := by
  obtain ⟨s0, s1, s2, s3, s4, r2, r3, r4, r5, q0, q1, p0, p1⟩ := hp
  obtain ⟨a1, a2, a3, a4, a5, a6⟩ := ha
  refine gw_call o_Cu_holdsFor (Nat.le_of_ble_eq_true rfl) ?_
  have loop : ∀ (ts : List (Nat × Nat × Int32)) (i : Nat) (x : Int32), x = nI i → i ≤ A.1.length → A.1.drop i = ts → (cu_holds (I v) A.1 ↔ cu_holds (I v) ts) → gw_Go y_Cu_holdsFor d 0 0 2 [some (.ref o), some (.ref v), some (.int x)] [] (n, sh, X, R, I, L) Q := by
    intro ts
    induction ts with
    | nil =>
      intro i x hx h0 hd hs
      have hi := gw_dropE hd
      refine go_iload_n 2 d_Cu_holdsFor_2 rfl rfl ?_
      refine go_aload_n 0 d_Cu_holdsFor_3 rfl rfl ?_
      refine go_getI d_Cu_holdsFor_4 f_Cu_32 (by assumption) ?_
      refine go_icmp_ge 44 d_Cu_holdsFor_7 rfl (fun _ => ?_) (fun hn => absurd (by rw [a2, hx]; exact nI_le hi (by omega)) hn)
      refine go_iconst (v := 1) d_Cu_holdsFor_44 rfl ?_
      exact go_zret d_Cu_holdsFor_45 rfl (by first | exact Or.inl rfl | exact Or.inr rfl | assumption) (hQ true ⟨fun _ => hs.mpr (fun t h => by cases h), fun _ => rfl⟩)
    | cons t ts ih =>
      intro i x hx h0 hd hs
      obtain ⟨hi, ht, hn⟩ := gw_drop hd
      obtain ⟨b1, b2, b3, b4, b5⟩ := a4 i t ht
      refine go_iload_n 2 d_Cu_holdsFor_2 rfl rfl ?_
      refine go_aload_n 0 d_Cu_holdsFor_3 rfl rfl ?_
      refine go_getI d_Cu_holdsFor_4 f_Cu_32 (by assumption) ?_
      refine go_icmp_ge 44 d_Cu_holdsFor_7 rfl (fun hn => absurd hn (by rw [a2, hx]; exact nI_ge hi (by omega))) (fun _ => ?_)
      refine go_aload_n 1 d_Cu_holdsFor_10 rfl rfl ?_
      refine go_aload_n 0 d_Cu_holdsFor_11 rfl rfl ?_
      refine go_getR d_Cu_holdsFor_12 f_Cu_9 (by assumption) (by assumption) ?_
      refine go_iload_n 2 d_Cu_holdsFor_15 rfl rfl ?_
      refine go_iald (i) d_Cu_holdsFor_16 (by assumption) (hx) (by omega) (by decide) ?_
      refine go_iald (t.1) d_Cu_holdsFor_17 (by assumption) (b1) (b4) (by decide) ?_
      refine go_aload_n 1 d_Cu_holdsFor_18 rfl rfl ?_
      refine go_aload_n 0 d_Cu_holdsFor_19 rfl rfl ?_
      refine go_getR d_Cu_holdsFor_20 f_Cu_15 (by assumption) (by assumption) ?_
      refine go_iload_n 2 d_Cu_holdsFor_23 rfl rfl ?_
      refine go_iald (i) d_Cu_holdsFor_24 (by assumption) (hx) (by omega) (by decide) ?_
      refine go_iald (t.2.1) d_Cu_holdsFor_25 (by assumption) (b2) (b5) (by decide) ?_
      refine go_isub d_Cu_holdsFor_26 ?_
      refine go_aload_n 0 d_Cu_holdsFor_27 rfl rfl ?_
      refine go_getR d_Cu_holdsFor_28 f_Cu_18 (by assumption) (by assumption) ?_
      refine go_iload_n 2 d_Cu_holdsFor_31 rfl rfl ?_
      refine go_iald (i) d_Cu_holdsFor_32 (by assumption) (hx) (by omega) (by decide) ?_
      refine go_icmp_le 38 d_Cu_holdsFor_33 rfl (fun h33 => ?_) (fun h33 => ?_)
      · rw [b3] at h33
        refine go_iinc d_Cu_holdsFor_38 rfl rfl (Nat.le_of_ble_eq_true rfl) ?_
        refine go_goto 2 d_Cu_holdsFor_41 rfl ?_
        exact ih (i + 1) _ (gw_inc hx) (by omega) hn (hs.trans ⟨fun h q hq => h q (List.mem_cons_of_mem _ hq), fun h q hq => by rcases List.mem_cons.mp hq with rfl | hq; exact h33; exact h q hq⟩)
      · rw [b3] at h33
        refine go_iconst (v := 0) d_Cu_holdsFor_36 rfl ?_
        exact go_zret d_Cu_holdsFor_37 rfl (by first | exact Or.inl rfl | exact Or.inr rfl | assumption) (hQ false ⟨fun h => (by cases h), fun h => absurd (hs.mp h t List.mem_cons_self) h33⟩)
  refine go_iconst (v := 0) d_Cu_holdsFor_0 rfl ?_
  refine go_istore_n 2 d_Cu_holdsFor_1 rfl (Nat.le_of_ble_eq_true rfl) ?_
  exact loop _ 0 _ rfl (by omega) rfl Iff.rfl
end CU
