/-! Symbols, Known -/
/-- a bound, as Known keeps it -/
def kn_e : Option Int → Int64
  | none => 1152921504606846976
  | some x => Int64.ofInt x
def kn_s (x : Int) : Prop := -3000000000000 ≤ x ∧ x ≤ 3000000000000
theorem kn_i {x : Int} (h : kn_s x) : (Int64.ofInt x).toInt = x := Int64.toInt_ofInt_of_le (by have := h.1; omega) (by have := h.2; omega)
theorem kn_far : (1152921504606846976 : Int64).toInt = 1152921504606846976 := by decide
theorem kn_lt {x z : Int} (hx : kn_s x) (hz : kn_s z) : Int64.ofInt x < Int64.ofInt z ↔ x < z := by rw [Int64.lt_iff_toInt_lt, kn_i hx, kn_i hz]
theorem kn_ne {x : Int} (hx : kn_s x) : ¬ Int64.ofInt x = 1152921504606846976 := by
  intro h
  have := congrArg Int64.toInt h
  rw [kn_i hx, kn_far] at this
  have := hx.2
  omega
theorem kn_e_none {c : Option Int} (h : ∀ x, c = some x → kn_s x) : kn_e c = 1152921504606846976 ↔ c = none := by
  cases c with
  | none => exact ⟨fun _ => rfl, fun _ => rfl⟩
  | some x => exact ⟨fun he => absurd he (kn_ne (h x rfl)), fun he => by cases he⟩
theorem kn_ltfar {x : Int} (hx : kn_s x) : Int64.ofInt x < 1152921504606846976 := by
  rw [Int64.lt_iff_toInt_lt, kn_i hx, kn_far]
  have := hx.2
  omega
theorem kn_add (x z : Int) : Int64.ofInt x + Int64.ofInt z = Int64.ofInt (x + z) := (Int64.ofInt_add x z).symm
theorem kn_0 : Int64.ofInt 0 = 0 := rfl
/-- a table half rewritten: the rows before f, and row f up to t -/
def kn_mx (C C' : sp_E) (f t : Nat) : sp_E := fun x z => if x < f ∨ (x = f ∧ z < t) then C' x z else C x z
def pt_Kn (sh : Nat → Nat × Nat) (R : Nat → Nat → Option Nat) (o : Nat) : Prop := sh o = (0, 9) ∧ sh (o + 1) = (2, 25) ∧ R o 0 = some (o + 1)
/-- the least weights, as Known at o holds them -/
def kn_at (L : Nat → Nat → Int64) (o : Nat) (C : sp_E) : Prop := ∀ a b, a < 5 → b < 5 → L (o + 1) (5 * a + b) = kn_e (C a b)
/-- all of them are of modest size -/
def kn_bd (C : sp_E) (N : Int) : Prop := ∀ a b x, a < 5 → b < 5 → C a b = some x → -N ≤ x ∧ x ≤ N
theorem kn_at.skip {L : Nat → Nat → Int64} {o f t : Nat} {C C' : sp_E} (h : kn_at L o (kn_mx C C' f t)) (he : C' f t = C f t) : kn_at L o (kn_mx C C' f (t + 1)) := by
  intro x z hx hz
  rw [h x z hx hz]
  congr 1
  unfold kn_mx
  by_cases h1 : x < f ∨ (x = f ∧ z < t)
  · rw [if_pos h1, if_pos (by omega)]
  · rw [if_neg h1]
    by_cases h2 : x = f ∧ z = t
    · obtain ⟨rfl, rfl⟩ := h2
      rw [if_pos (by omega), he]
    · rw [if_neg (by omega)]
theorem kn_at.put {L : Nat → Nat → Int64} {o f t : Nat} {C C' : sp_E} {s : Int} (h : kn_at L o (kn_mx C C' f t)) (ht : t < 5) (he : C' f t = some s) : kn_at (va_up L (o + 1) (va_up (L (o + 1)) (5 * f + t) (Int64.ofInt s))) o (kn_mx C C' f (t + 1)) := by
  intro x z hx hz
  rw [gw_up_eq]
  by_cases h2 : x = f ∧ z = t
  · obtain ⟨rfl, rfl⟩ := h2
    rw [gw_up_eq]
    unfold kn_mx
    rw [if_pos (by omega), he]
    rfl
  · rw [gw_up_ne (by omega), h x z hx hz]
    congr 1
    unfold kn_mx
    by_cases h1 : x < f ∨ (x = f ∧ z < t)
    · rw [if_pos h1, if_pos (by omega)]
    · rw [if_neg h1, if_neg (by omega)]
theorem kn_at.row {L : Nat → Nat → Int64} {o f : Nat} {C C' : sp_E} (h : kn_at L o (kn_mx C C' f 5)) : kn_at L o (kn_mx C C' (f + 1) 0) := by
  intro x z hx hz
  rw [h x z hx hz]
  congr 1
  unfold kn_mx
  by_cases h1 : x < f ∨ (x = f ∧ z < 5)
  · rw [if_pos h1, if_pos (by omega)]
  · rw [if_neg h1, if_neg (by omega)]
theorem kn_ix (a b : Nat) : (5 : Int32) * nI a + nI b = nI (5 * a + b) := by rw [show (5 : Int32) = nI 5 from rfl, pk_mul, nI_add]
section KN
variable {d n : Nat} {sh : Nat → Nat × Nat} {X : Nat × (Nat → Int32)} {R : Nat → Nat → Option Nat} {I : Nat → Nat → Int32} {L : Nat → Nat → Int64} {Q : Option Value → gw_Mem → Prop}
theorem c_Kn_boundOf {o a b : Nat} {C : sp_E} (hp : pt_Kn sh R o) (hk : kn_at L o C) (ha : a < 5) (hb : b < 5) (hQ : Q (some (.long (kn_e (C a b)))) (n, sh, X, R, I, L)) : gw_Call y_Kn_boundOf d 0 0 [.ref o, .int (nI a), .int (nI b)] (n, sh, X, R, I, L) Q := by
  obtain ⟨s0, s1, r0⟩ := hp
  refine gw_call o_Kn_boundOf (Nat.le_of_ble_eq_true rfl) ?_
  refine go_aload_n 0 d_Kn_boundOf_0 rfl rfl ?_
  refine go_getR d_Kn_boundOf_1 f_Kn_9 (by assumption) (by assumption) ?_
  refine go_iconst (v := 5) d_Kn_boundOf_4 rfl ?_
  refine go_iload_n 1 d_Kn_boundOf_5 rfl rfl ?_
  refine go_imul d_Kn_boundOf_6 ?_
  refine go_iload_n 2 d_Kn_boundOf_7 rfl rfl ?_
  refine go_iadd d_Kn_boundOf_8 ?_
  refine go_lald (5 * a + b) d_Kn_boundOf_9 (by assumption) (kn_ix a b) (by omega) (by decide) ?_
  rw [hk a b ha hb]
  exact go_lret d_Kn_boundOf_10 rfl (hQ)
theorem c_Kn_learn {o a b : Nat} {c : Int} {C : sp_E} (hp : pt_Kn sh R o) (hk : kn_at L o C) (ha : a < 5) (hb : b < 5) (hC : kn_bd C 400000000000) (hc : -200000000000 ≤ c ∧ c ≤ 200000000000)
    (hf : (∃ w, C b a = some w ∧ w + c < 0) → Q (some (.int 0)) (n, sh, X, R, I, L)) (hQ : (∀ w, C b a = some w → 0 ≤ w + c) → ∀ L', kn_at L' o (sp_lrn C a b c) → (∀ q, q ≠ o + 1 → L' q = L q) → Q (some (.int 1)) (n, sh, X, R, I, L')) : gw_Call y_Kn_learn (d + 1) 0 0 [.ref o, .int (nI a), .int (nI b), .long (Int64.ofInt c)] (n, sh, X, R, I, L) Q := by
  have hp0 := hp
  obtain ⟨s0, s1, r0⟩ := hp
  have small : ∀ {x z w : Nat} {v : Int}, x < 5 → z < 5 → C x z = some v → kn_s v := fun h1 h2 h3 => by have := hC _ _ _ h1 h2 h3; unfold kn_s; omega
  refine gw_call o_Kn_learn (Nat.le_of_ble_eq_true rfl) ?_
  have body : (∀ w, C b a = some w → 0 ≤ w + c) → gw_Go y_Kn_learn (d + 1) 0 0 28 [some (.ref o), some (.int (nI a)), some (.int (nI b)), some (.long (Int64.ofInt c)), none, none, none, none, none] [] (n, sh, X, R, I, L) Q := by
    intro hnc
    -- what stays as it was while the table is rewritten
    have colA : ∀ f, f < 5 → sp_lrn C a b c f a = C f a := by
      intro f hf
      unfold sp_lrn
      cases h1 : C f a with
      | none => rfl
      | some v =>
        cases h2 : C b a with
        | none => rfl
        | some w =>
          show some _ = some v
          have := hnc w h2
          rw [if_neg (by omega)]
    have rowB : ∀ t, t < 5 → sp_lrn C a b c b t = C b t := by
      intro t ht
      unfold sp_lrn
      cases h1 : C b t with
      | none => cases h2 : C b a <;> rfl
      | some v =>
        cases h2 : C b a with
        | none => rfl
        | some w =>
          show some _ = some v
          have := hnc w h2
          rw [if_neg (by omega)]
    have inner : ∀ (f : Nat), f < 5 → (∀ (L2 : Nat → Nat → Int64) (o6 o7 : Option Value), kn_at L2 o (kn_mx C (sp_lrn C a b c) (f + 1) 0) → (∀ q, q ≠ o + 1 → L2 q = L q) → gw_Go y_Kn_learn (d + 1) 0 0 127 [some (.ref o), some (.int (nI a)), some (.int (nI b)), some (.long (Int64.ofInt c)), none, some (.int (nI f)), o6, o7, none] [] (n, sh, X, R, I, L2) Q) → ∀ (r t : Nat) (y : Int32) (L1 : Nat → Nat → Int64) (o7 : Option Value), y = nI t → t + r = 5 → kn_at L1 o (kn_mx C (sp_lrn C a b c) f t) → (∀ q, q ≠ o + 1 → L1 q = L q) → gw_Go y_Kn_learn (d + 1) 0 0 40 [some (.ref o), some (.int (nI a)), some (.int (nI b)), some (.long (Int64.ofInt c)), none, some (.int (nI f)), some (.int y), o7, none] [] (n, sh, X, R, I, L1) Q := by
      intro f hf5 hout r
      induction r with
      | zero =>
        intro t y L1 o7 hy ht hk1 hq1
        have ht5 : t = 5 := by omega
        subst ht5
        refine go_iload d_Kn_learn_40 rfl ?_
        refine go_iconst (v := 5) d_Kn_learn_42 rfl ?_
        refine go_icmp_ge 127 d_Kn_learn_43 rfl (fun _ => ?_) (fun hn => absurd (by rw [hy]; decide) hn)
        exact hout L1 _ _ hk1.row hq1
      | succ r ih =>
        intro t y L1 o7 hy ht hk1 hq1
        subst hy
        have eA : kn_mx C (sp_lrn C a b c) f t f a = C f a := by unfold kn_mx; rw [colA f hf5]; split <;> rfl
        have eB : kn_mx C (sp_lrn C a b c) f t b t = C b t := by unfold kn_mx; rw [rowB t (by omega)]; split <;> rfl
        have eF : kn_mx C (sp_lrn C a b c) f t f t = C f t := by unfold kn_mx; rw [if_neg (by omega)]
        have go1 : ∀ (L2 : Nat → Nat → Int64) (o7' : Option Value), kn_at L2 o (kn_mx C (sp_lrn C a b c) f (t + 1)) → (∀ q, q ≠ o + 1 → L2 q = L q) → gw_Go y_Kn_learn (d + 1) 0 0 121 [some (.ref o), some (.int (nI a)), some (.int (nI b)), some (.long (Int64.ofInt c)), none, some (.int (nI f)), some (.int (nI t)), o7', none] [] (n, sh, X, R, I, L2) Q := by
          intro L2 o7' hk2 hq2
          refine go_iinc d_Kn_learn_121 rfl rfl (Nat.le_of_ble_eq_true rfl) ?_
          refine go_goto 40 d_Kn_learn_124 rfl ?_
          exact ih (t + 1) _ L2 o7' (gw_inc rfl) (by omega) hk2 hq2
        refine go_iload d_Kn_learn_40 rfl ?_
        refine go_iconst (v := 5) d_Kn_learn_42 rfl ?_
        refine go_icmp_ge 127 d_Kn_learn_43 rfl (fun hn => absurd hn (nI_ge (b := 5) (by omega) (by decide))) (fun _ => ?_)
        refine go_aload_n 0 d_Kn_learn_46 rfl rfl ?_
        refine go_iload d_Kn_learn_47 rfl ?_
        refine go_iload_n 1 d_Kn_learn_49 rfl rfl ?_
        refine go_V2 d_Kn_learn_50 k_Kn_23 (by assumption) (Nat.le_of_ble_eq_true rfl) (c_Kn_boundOf hp0 hk1 hf5 ha ?_)
        rw [eA]
        refine go_ldc2 d_Kn_learn_53 i_Kn_15 ?_
        refine go_lcmp_eq 121 d_Kn_learn_56 d_Kn_learn_57 rfl (fun h56 => ?_) (fun h56 => ?_)
        · exact go1 L1 _ (hk1.skip (by unfold sp_lrn; rw [(kn_e_none (fun x hx => small (w := 0) hf5 ha hx)).mp h56]; cases C f t <;> rfl)) hq1
        · refine go_aload_n 0 d_Kn_learn_60 rfl rfl ?_
          refine go_iload_n 2 d_Kn_learn_61 rfl rfl ?_
          refine go_iload d_Kn_learn_62 rfl ?_
          refine go_V2 d_Kn_learn_64 k_Kn_23 (by assumption) (Nat.le_of_ble_eq_true rfl) (c_Kn_boundOf hp0 hk1 hb (by omega) ?_)
          rw [eB]
          refine go_ldc2 d_Kn_learn_67 i_Kn_15 ?_
          refine go_lcmp_eq 121 d_Kn_learn_70 d_Kn_learn_71 rfl (fun h70 => ?_) (fun h70 => ?_)
          · exact go1 L1 _ (hk1.skip (by unfold sp_lrn; rw [(kn_e_none (fun x hx => small (w := 0) hb (by omega) hx)).mp h70]; cases C f t <;> cases C f a <;> rfl)) hq1
          · obtain ⟨u, hu⟩ : ∃ u, C f a = some u := by cases h : C f a with | none => rw [h] at h56; exact absurd rfl h56 | some u => exact ⟨u, rfl⟩
            obtain ⟨v, hv⟩ : ∃ v, C b t = some v := by cases h : C b t with | none => rw [h] at h70; exact absurd rfl h70 | some v => exact ⟨v, rfl⟩
            have bu := hC f a u hf5 ha hu
            have bv := hC b t v hb (by omega) hv
            refine go_aload_n 0 d_Kn_learn_74 rfl rfl ?_
            refine go_iload d_Kn_learn_75 rfl ?_
            refine go_iload_n 1 d_Kn_learn_77 rfl rfl ?_
            refine go_V2 d_Kn_learn_78 k_Kn_23 (by assumption) (Nat.le_of_ble_eq_true rfl) (c_Kn_boundOf hp0 hk1 hf5 ha ?_)
            rw [eA, hu]
            refine go_lload_n 3 d_Kn_learn_81 rfl rfl ?_
            refine go_ladd d_Kn_learn_82 ?_
            refine go_aload_n 0 d_Kn_learn_83 rfl rfl ?_
            refine go_iload_n 2 d_Kn_learn_84 rfl rfl ?_
            refine go_iload d_Kn_learn_85 rfl ?_
            refine go_V2 d_Kn_learn_87 k_Kn_23 (by assumption) (Nat.le_of_ble_eq_true rfl) (c_Kn_boundOf hp0 hk1 hb (by omega) ?_)
            rw [eB, hv]
            refine go_ladd d_Kn_learn_90 ?_
            rw [show kn_e (some u) + Int64.ofInt c + kn_e (some v) = Int64.ofInt (u + c + v) by show Int64.ofInt u + Int64.ofInt c + Int64.ofInt v = _; rw [kn_add, kn_add]]
            have hnew : sp_lrn C a b c f t = sp_min (C f t) (some (u + c + v)) := by unfold sp_lrn; rw [hu, hv]; rfl
            refine go_lstore d_Kn_learn_91 (Nat.le_of_ble_eq_true rfl) ?_
            refine go_lload d_Kn_learn_93 rfl ?_
            refine go_aload_n 0 d_Kn_learn_95 rfl rfl ?_
            refine go_iload d_Kn_learn_96 rfl ?_
            refine go_iload d_Kn_learn_98 rfl ?_
            refine go_V2 d_Kn_learn_100 k_Kn_23 (by assumption) (Nat.le_of_ble_eq_true rfl) (c_Kn_boundOf hp0 hk1 hf5 (by omega) ?_)
            rw [eF]
            refine go_lcmp_ge 121 d_Kn_learn_103 d_Kn_learn_104 rfl (fun h103 => ?_) (fun h103 => ?_)
            · exact go1 L1 _ (hk1.skip (by rw [hnew]; cases hft : C f t with | none => rw [hft] at h103; exact absurd (kn_ltfar (by unfold kn_s; omega)) h103 | some z => rw [hft] at h103; have bz := hC f t z hf5 (by omega) hft; have h9 : ¬ u + c + v < z := fun hh => h103 ((kn_lt (by unfold kn_s; omega) (by unfold kn_s; omega)).mpr hh); show some _ = some z; rw [if_neg h9])) hq1
            · refine go_aload_n 0 d_Kn_learn_107 rfl rfl ?_
              refine go_getR d_Kn_learn_108 f_Kn_9 (by assumption) (by assumption) ?_
              refine go_iconst (v := 5) d_Kn_learn_111 rfl ?_
              refine go_iload d_Kn_learn_112 rfl ?_
              refine go_imul d_Kn_learn_114 ?_
              refine go_iload d_Kn_learn_115 rfl ?_
              refine go_iadd d_Kn_learn_117 ?_
              refine go_lload d_Kn_learn_118 rfl ?_
              refine go_last (5 * f + t) d_Kn_learn_120 (by assumption) (kn_ix f t) (by omega) (by decide) ?_
              exact go1 _ _ (hk1.put (by omega) (by rw [hnew]; cases hft : C f t with | none => rfl | some z => rw [hft] at h103; have bz := hC f t z hf5 (by omega) hft; have h9 : u + c + v < z := (kn_lt (by unfold kn_s; omega) (by unfold kn_s; omega)).mp h103; show some _ = some _; rw [if_pos h9])) (fun q hq => by rw [gw_up_ne hq]; exact hq1 q hq)
    have outer : ∀ (r f : Nat) (x : Int32) (L1 : Nat → Nat → Int64) (o6 o7 : Option Value), x = nI f → f + r = 5 → kn_at L1 o (kn_mx C (sp_lrn C a b c) f 0) → (∀ q, q ≠ o + 1 → L1 q = L q) → gw_Go y_Kn_learn (d + 1) 0 0 31 [some (.ref o), some (.int (nI a)), some (.int (nI b)), some (.long (Int64.ofInt c)), none, some (.int x), o6, o7, none] [] (n, sh, X, R, I, L1) Q := by
      intro r
      induction r with
      | zero =>
        intro f x L1 o6 o7 hx hr hk1 hq1
        have hf5 : f = 5 := by omega
        subst hf5
        refine go_iload d_Kn_learn_31 rfl ?_
        refine go_iconst (v := 5) d_Kn_learn_33 rfl ?_
        refine go_icmp_ge 133 d_Kn_learn_34 rfl (fun _ => ?_) (fun hn => absurd (by rw [hx]; decide) hn)
        refine go_iconst (v := 1) d_Kn_learn_133 rfl ?_
        exact go_zret d_Kn_learn_134 rfl (by first | exact Or.inl rfl | exact Or.inr rfl | assumption) (hQ hnc L1 (fun x z hx hz => by rw [hk1 x z hx hz]; unfold kn_mx; rw [if_pos (by omega)]) hq1)
      | succ r ih =>
        intro f x L1 o6 o7 hx hr hk1 hq1
        subst hx
        refine go_iload d_Kn_learn_31 rfl ?_
        refine go_iconst (v := 5) d_Kn_learn_33 rfl ?_
        refine go_icmp_ge 133 d_Kn_learn_34 rfl (fun hn => absurd hn (nI_ge (b := 5) (by omega) (by decide))) (fun _ => ?_)
        refine go_iconst (v := 0) d_Kn_learn_37 rfl ?_
        refine go_istore d_Kn_learn_38 (Nat.le_of_ble_eq_true rfl) ?_
        exact inner f (by omega) (fun L2 o6' o7' hk2 hq2 => by refine go_iinc d_Kn_learn_127 rfl rfl (Nat.le_of_ble_eq_true rfl) ?_; refine go_goto 31 d_Kn_learn_130 rfl ?_; exact ih (f + 1) _ L2 o6' o7' (gw_inc rfl) (by omega) hk2 hq2) 5 0 _ L1 _ rfl (by omega) hk1 hq1
    refine go_iconst (v := 0) d_Kn_learn_28 rfl ?_
    refine go_istore d_Kn_learn_29 (Nat.le_of_ble_eq_true rfl) ?_
    exact outer 5 0 _ L _ _ rfl (by omega) (fun x z hx hz => by rw [hk x z hx hz]; unfold kn_mx; rw [if_neg (by omega)]) (fun _ _ => rfl)
  refine go_aload_n 0 d_Kn_learn_0 rfl rfl ?_
  refine go_iload_n 2 d_Kn_learn_1 rfl rfl ?_
  refine go_iload_n 1 d_Kn_learn_2 rfl rfl ?_
  refine go_V2 d_Kn_learn_3 k_Kn_23 (by assumption) (Nat.le_of_ble_eq_true rfl) (c_Kn_boundOf hp0 hk hb ha ?_)
  refine go_ldc2 d_Kn_learn_6 i_Kn_15 ?_
  refine go_lcmp_eq 28 d_Kn_learn_9 d_Kn_learn_10 rfl (fun h9 => ?_) (fun h9 => ?_)
  · exact body (fun w hw => by first | (rw [hw] at h9; exact absurd h9 (kn_ne (by have hs := hC b a w hb ha hw; unfold kn_s; omega))) | (rw [hw] at h22; have e : kn_e (some w) + Int64.ofInt c = Int64.ofInt (w + c) := kn_add w c; rw [e] at h22; have hs := hC b a w hb ha hw; exact Int.not_lt.mp (fun hl => h22 ((kn_lt (z := 0) (by unfold kn_s; omega) (by unfold kn_s; omega)).mpr hl))))
  · refine go_aload_n 0 d_Kn_learn_13 rfl rfl ?_
    refine go_iload_n 2 d_Kn_learn_14 rfl rfl ?_
    refine go_iload_n 1 d_Kn_learn_15 rfl rfl ?_
    refine go_V2 d_Kn_learn_16 k_Kn_23 (by assumption) (Nat.le_of_ble_eq_true rfl) (c_Kn_boundOf hp0 hk hb ha ?_)
    refine go_lload_n 3 d_Kn_learn_19 rfl rfl ?_
    refine go_ladd d_Kn_learn_20 ?_
    refine go_lconst (v := 0) d_Kn_learn_21 rfl ?_
    refine go_lcmp_ge 28 d_Kn_learn_22 d_Kn_learn_23 rfl (fun h22 => ?_) (fun h22 => ?_)
    · exact body (fun w hw => by first | (rw [hw] at h9; exact absurd h9 (kn_ne (by have hs := hC b a w hb ha hw; unfold kn_s; omega))) | (rw [hw] at h22; have e : kn_e (some w) + Int64.ofInt c = Int64.ofInt (w + c) := kn_add w c; rw [e] at h22; have hs := hC b a w hb ha hw; exact Int.not_lt.mp (fun hl => h22 ((kn_lt (z := 0) (by unfold kn_s; omega) (by unfold kn_s; omega)).mpr hl))))
    · refine go_iconst (v := 0) d_Kn_learn_26 rfl ?_
      exact go_zret d_Kn_learn_27 rfl (by first | exact Or.inl rfl | exact Or.inr rfl | assumption) (hf (by cases hcb : C b a with | none => rw [hcb] at h9; exact absurd rfl h9 | some w => refine ⟨w, rfl, ?_⟩; rw [hcb] at h22; have e : kn_e (some w) + Int64.ofInt c = Int64.ofInt (w + c) := kn_add w c; rw [e] at h22; have hs := hC b a w hb ha hcb; exact (kn_lt (z := 0) (by unfold kn_s; omega) (by unfold kn_s; omega)).mp h22))
end KN
