/-! Known.forgetAll, showsClaims, showsNotNegative, allowsNegative; Potential.speaksOfNothing -/
/-- the claims follow, their sides being what f says -/
def kn_sh (C : sp_E) (f : Nat → ab_Sy) (l : List (Nat × Nat × Int32)) : Prop := ∀ t ∈ l, ∃ q r w, f t.1 = some q ∧ f t.2.1 = some r ∧ C q.1 r.1 = some w ∧ w + q.2.toInt - r.2.toInt ≤ t.2.2.toInt
/-- may the potential be less than 0, each term by itself -/
def kn_an (C : sp_E) : List (Nat × Nat × Nat) → Int64 → Prop
  | [], s => s < 0
  | t :: ts, s => match C t.2.2 t.2.1 with
    | none => True
    | some w => kn_an C ts (s - (nI t.1).toInt64 * Int64.ofInt w)
def po_no (f : Nat → ab_Sy) (l : List (Nat × Nat × Nat)) : Prop := ∃ t ∈ l, f t.2.1 = none ∨ f t.2.2 = none
theorem kn_of (x : Int64) : Int64.ofInt x.toInt = x := by
  apply Int64.toInt_inj.mp
  exact Int64.toInt_ofInt_of_le (Int64.le_toInt x) (Int64.toInt_lt x)
section KN3
variable {d n : Nat} {sh : Nat → Nat × Nat} {X : Nat × (Nat → Int32)} {R : Nat → Nat → Option Nat} {I : Nat → Nat → Int32} {L : Nat → Nat → Int64} {Q : Option Value → gw_Mem → Prop}
theorem c_Kn_forgetAll {o : Nat} (hp : pt_Kn sh R o) (hQ : ∀ L', kn_at L' o (fun a b => if a = b then some 0 else none) → (∀ q, q ≠ o + 1 → L' q = L q) → Q none (n, sh, X, R, I, L')) : gw_Call y_Kn_forgetAll d 0 0 [.ref o] (n, sh, X, R, I, L) Q := by
  obtain ⟨s0, s1, r0⟩ := hp
  refine gw_call o_Kn_forgetAll (Nat.le_of_ble_eq_true rfl) ?_
  have inner : ∀ (f : Nat), f < 5 → (∀ (L2 : Nat → Nat → Int64) (o2 : Option Value), (∀ a b, a < 5 → b < 5 → a < f + 1 → L2 (o + 1) (5 * a + b) = kn_e (if a = b then some 0 else none)) → (∀ q, q ≠ o + 1 → L2 q = L q) → gw_Go y_Kn_forgetAll d 0 0 42 [some (.ref o), some (.int (nI f)), o2] [] (n, sh, X, R, I, L2) Q) → ∀ (r t : Nat) (y : Int32) (L1 : Nat → Nat → Int64), y = nI t → t + r = 5 → (∀ a b, a < 5 → b < 5 → (a < f ∨ (a = f ∧ b < t)) → L1 (o + 1) (5 * a + b) = kn_e (if a = b then some 0 else none)) → (∀ q, q ≠ o + 1 → L1 q = L q) → gw_Go y_Kn_forgetAll d 0 0 9 [some (.ref o), some (.int (nI f)), some (.int y)] [] (n, sh, X, R, I, L1) Q := by
    intro f hf5 hout r
    induction r with
    | zero =>
      intro t y L1 hy ht hk1 hq1
      have ht5 : t = 5 := by omega
      subst ht5
      refine go_iload_n 2 d_Kn_forgetAll_9 rfl rfl ?_
      refine go_iconst (v := 5) d_Kn_forgetAll_10 rfl ?_
      refine go_icmp_ge 42 d_Kn_forgetAll_11 rfl (fun _ => ?_) (fun hn => absurd (by rw [hy]; decide) hn)
      exact hout L1 _ (fun a b h1 h2 h3 => hk1 a b h1 h2 (by omega)) hq1
    | succ r ih =>
      intro t y L1 hy ht hk1 hq1
      subst hy
      have nxt : ∀ v : Int64, v = kn_e (if f = t then some 0 else none) → gw_Go y_Kn_forgetAll d 0 0 35 [some (.ref o), some (.int (nI f)), some (.int (nI t))] [.long v, .int (5 * nI f + nI t), .ref (o + 1)] (n, sh, X, R, I, L1) Q := by
        intro v hv
        refine go_last (5 * f + t) d_Kn_forgetAll_35 (by assumption) (kn_ix f t) (by omega) (by decide) ?_
        refine go_iinc d_Kn_forgetAll_36 rfl rfl (Nat.le_of_ble_eq_true rfl) ?_
        refine go_goto 9 d_Kn_forgetAll_39 rfl ?_
        exact ih (t + 1) _ _ (gw_inc rfl) (by omega) (fun a b h1 h2 h3 => by rw [gw_up_eq]; by_cases he : a = f ∧ b = t; (obtain ⟨rfl, rfl⟩ := he; rw [gw_up_eq]; exact hv); (rw [gw_up_ne (by omega)]; exact hk1 a b h1 h2 (by omega))) (fun q hq => by rw [gw_up_ne hq]; exact hq1 q hq)
      refine go_iload_n 2 d_Kn_forgetAll_9 rfl rfl ?_
      refine go_iconst (v := 5) d_Kn_forgetAll_10 rfl ?_
      refine go_icmp_ge 42 d_Kn_forgetAll_11 rfl (fun hn => absurd hn (nI_ge (b := 5) (by omega) (by decide))) (fun _ => ?_)
      refine go_aload_n 0 d_Kn_forgetAll_14 rfl rfl ?_
      refine go_getR d_Kn_forgetAll_15 f_Kn_9 (by assumption) (by assumption) ?_
      refine go_iconst (v := 5) d_Kn_forgetAll_18 rfl ?_
      refine go_iload_n 1 d_Kn_forgetAll_19 rfl rfl ?_
      refine go_imul d_Kn_forgetAll_20 ?_
      refine go_iload_n 2 d_Kn_forgetAll_21 rfl rfl ?_
      refine go_iadd d_Kn_forgetAll_22 ?_
      refine go_iload_n 1 d_Kn_forgetAll_23 rfl rfl ?_
      refine go_iload_n 2 d_Kn_forgetAll_24 rfl rfl ?_
      refine go_icmp_ne 32 d_Kn_forgetAll_25 rfl (fun h25 => ?_) (fun h25 => ?_)
      · refine go_ldc2 d_Kn_forgetAll_32 i_Kn_15 ?_
        first | exact nxt _ (by rw [if_pos ((nI_eq (by omega) (by omega)).mp h25)]; rfl) | exact nxt _ (by rw [if_neg (fun e => h25 (by rw [e]))]; rfl)
      · refine go_lconst (v := 0) d_Kn_forgetAll_28 rfl ?_
        refine go_goto 35 d_Kn_forgetAll_29 rfl ?_
        first | exact nxt _ (by rw [if_pos ((nI_eq (by omega) (by omega)).mp h25)]; rfl) | exact nxt _ (by rw [if_neg (fun e => h25 (by rw [e]))]; rfl)
  have outer : ∀ (r f : Nat) (x : Int32) (L1 : Nat → Nat → Int64) (o2 : Option Value), x = nI f → f + r = 5 → (∀ a b, a < 5 → b < 5 → a < f → L1 (o + 1) (5 * a + b) = kn_e (if a = b then some 0 else none)) → (∀ q, q ≠ o + 1 → L1 q = L q) → gw_Go y_Kn_forgetAll d 0 0 2 [some (.ref o), some (.int x), o2] [] (n, sh, X, R, I, L1) Q := by
    intro r
    induction r with
    | zero =>
      intro f x L1 o2 hx hr hk1 hq1
      have hf5 : f = 5 := by omega
      subst hf5
      refine go_iload_n 1 d_Kn_forgetAll_2 rfl rfl ?_
      refine go_iconst (v := 5) d_Kn_forgetAll_3 rfl ?_
      refine go_icmp_ge 48 d_Kn_forgetAll_4 rfl (fun _ => ?_) (fun hn => absurd (by rw [hx]; decide) hn)
      exact go_vret d_Kn_forgetAll_48 rfl (hQ L1 (fun a b h1 h2 => hk1 a b h1 h2 h1) hq1)
    | succ r ih =>
      intro f x L1 o2 hx hr hk1 hq1
      subst hx
      refine go_iload_n 1 d_Kn_forgetAll_2 rfl rfl ?_
      refine go_iconst (v := 5) d_Kn_forgetAll_3 rfl ?_
      refine go_icmp_ge 48 d_Kn_forgetAll_4 rfl (fun hn => absurd hn (nI_ge (b := 5) (by omega) (by decide))) (fun _ => ?_)
      refine go_iconst (v := 0) d_Kn_forgetAll_7 rfl ?_
      refine go_istore_n 2 d_Kn_forgetAll_8 rfl (Nat.le_of_ble_eq_true rfl) ?_
      exact inner f (by omega) (fun L2 o2' hk2 hq2 => by refine go_iinc d_Kn_forgetAll_42 rfl rfl (Nat.le_of_ble_eq_true rfl) ?_; refine go_goto 2 d_Kn_forgetAll_45 rfl ?_; exact ih (f + 1) _ L2 o2' (gw_inc rfl) (by omega) hk2 hq2) 5 0 _ L1 rfl (by omega) (fun a b h1 h2 h3 => hk1 a b h1 h2 (by omega)) hq1
  refine go_iconst (v := 0) d_Kn_forgetAll_0 rfl ?_
  refine go_istore_n 1 d_Kn_forgetAll_1 rfl (Nat.le_of_ble_eq_true rfl) ?_
  exact outer 5 0 _ L _ rfl (by omega) (fun a b h1 h2 h3 => by omega) (fun _ _ => rfl)
theorem c_Kn_showsNotNegative {o a : Nat} {v : Int64} {C : sp_E} (hp : pt_Kn sh R o) (hk : kn_at L o C) (ha : a < 5) (hC : kn_bd C 400000000000) (hv : -100000000000 ≤ v.toInt ∧ v.toInt ≤ 100000000000) (hQ : ∀ b : Bool, (b = true ↔ ∃ w, C 4 a = some w ∧ w ≤ v.toInt) → Q (some (.int (bI b))) (n, sh, X, R, I, L)) : gw_Call y_Kn_showsNotNegative (d + 1) 0 0 [.ref o, .int (nI a), .long v] (n, sh, X, R, I, L) Q := by
  have s0 := hp.1
  have hlt : v - kn_e (C 4 a) < 0 ↔ ¬ ∃ w, C 4 a = some w ∧ w ≤ v.toInt := by
    rw [← kn_of v]
    cases hc : C 4 a with
    | none =>
      show Int64.ofInt v.toInt - 1152921504606846976 < 0 ↔ _
      refine ⟨fun _ ⟨w, h, _⟩ => (by cases h), fun _ => ?_⟩
      rw [show (1152921504606846976 : Int64) = Int64.ofInt 1152921504606846976 from rfl, ← Int64.ofInt_sub, Int64.lt_iff_toInt_lt, Int64.toInt_ofInt_of_le (by omega) (by omega)]
      show _ < (0 : Int)
      omega
    | some w =>
      have hw := hC 4 a w (by decide) ha hc
      show Int64.ofInt v.toInt - Int64.ofInt w < 0 ↔ _
      rw [← Int64.ofInt_sub, show (0 : Int64) = Int64.ofInt 0 from rfl, kn_lt (by unfold kn_s; omega) (by unfold kn_s; omega), kn_of]
      refine ⟨fun h ⟨w', h1, h2⟩ => (by cases h1; omega), fun h => Int.not_le.mp (fun hh => h ⟨w, rfl, by omega⟩)⟩
  refine gw_call o_Kn_showsNotNegative (Nat.le_of_ble_eq_true rfl) ?_
  refine go_lload_n 2 d_Kn_showsNotNegative_0 rfl rfl ?_
  refine go_aload_n 0 d_Kn_showsNotNegative_1 rfl rfl ?_
  refine go_iconst (v := 4) d_Kn_showsNotNegative_2 rfl ?_
  refine go_iload_n 1 d_Kn_showsNotNegative_3 rfl rfl ?_
  refine go_V2 d_Kn_showsNotNegative_4 k_Kn_23 (by assumption) (Nat.le_of_ble_eq_true rfl) (c_Kn_boundOf (a := 4) hp hk (by decide) ha ?_)
  refine go_lsub d_Kn_showsNotNegative_7 ?_
  refine go_lconst (v := 0) d_Kn_showsNotNegative_8 rfl ?_
  refine go_lcmp_lt 17 d_Kn_showsNotNegative_9 d_Kn_showsNotNegative_10 rfl (fun h9 => ?_) (fun h9 => ?_)
  · refine go_iconst (v := 0) d_Kn_showsNotNegative_17 rfl ?_
    first | exact go_zret d_Kn_showsNotNegative_18 rfl (Or.inr rfl) (hQ true ⟨fun _ => Classical.byContradiction (fun h => h9 (hlt.mpr h)), fun _ => rfl⟩) | exact go_zret d_Kn_showsNotNegative_18 rfl (Or.inl rfl) (hQ false ⟨fun h => (by cases h), fun h => absurd h (hlt.mp h9)⟩)
  · refine go_iconst (v := 1) d_Kn_showsNotNegative_13 rfl ?_
    refine go_goto 18 d_Kn_showsNotNegative_14 rfl ?_
    first | exact go_zret d_Kn_showsNotNegative_18 rfl (Or.inr rfl) (hQ true ⟨fun _ => Classical.byContradiction (fun h => h9 (hlt.mpr h)), fun _ => rfl⟩) | exact go_zret d_Kn_showsNotNegative_18 rfl (Or.inl rfl) (hQ false ⟨fun h => (by cases h), fun h => absurd h (hlt.mp h9)⟩)
end KN3
