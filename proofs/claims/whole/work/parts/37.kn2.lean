/-! Symbols; the rest of Known -/
/-- what stands for a side: a side at the cut and a number, or nothing -/
abbrev ab_Sy : Type := Option (Nat × Int64)
def sd_at (x : Int32) (v : Int64) : ab_Sy → Prop
  | none => x = -1
  | some q => x = nI q.1 ∧ q.1 < 5 ∧ v = q.2
theorem sd_none {x : Int32} {v : Int64} {y : ab_Sy} (h : sd_at x v y) : x = -1 ↔ y = none := by
  cases y with
  | none => exact ⟨fun _ => rfl, fun _ => h⟩
  | some q =>
    refine ⟨fun e => ?_, fun e => by cases e⟩
    have h1 := h.1
    rw [e] at h1
    have h2 := congrArg Int32.toInt h1
    rw [nI_toInt (by have := h.2.1; omega)] at h2
    exact absurd h2 (by have : (-1 : Int32).toInt = -1 := by decide
                        omega)
def pt_Sy (sh : Nat → Nat × Nat) (R : Nat → Nat → Option Nat) (o : Nat) : Prop := sh o = (0, 8) ∧ sh (o + 1) = (1, 5) ∧ sh (o + 2) = (2, 5) ∧ R o 0 = some (o + 1) ∧ R o 1 = some (o + 2)
def sy_at (I : Nat → Nat → Int32) (L : Nat → Nat → Int64) (o : Nat) (f : Nat → ab_Sy) : Prop := ∀ j, j < 5 → sd_at (I (o + 1) j) (L (o + 2) j) (f j)
/-- numbers of modest size -/
def sy_bd (f : Nat → ab_Sy) (N : Int) : Prop := ∀ j q, j < 5 → f j = some q → -N ≤ q.2.toInt ∧ q.2.toInt ≤ N
/-- raw bounds and least weights that go together, of modest size -/
def kn_ok (s : sp_E × sp_E) : Prop := sp_C s.1 s.2 ∧ ∀ a b v, s.1 a b = some v → -100000000000 ≤ v ∧ v ≤ 100000000000
theorem kn_wbd {E : sp_E} (hE : ∀ a b v, E a b = some v → -100000000000 ≤ v ∧ v ≤ 100000000000) : ∀ {k a b : Nat} {w : Int}, sp_W E k a b w → -(100000000000 * (k : Int)) ≤ w ∧ w ≤ 100000000000 * (k : Int)
  | 0, a, b, w, h => by obtain ⟨-, -, rfl⟩ := h; simp
  | k + 1, a, b, w, ⟨x, u, v, hx, hb, hw, he, hs⟩ => by
    have h1 := kn_wbd hE hw
    have h2 := hE _ _ _ he
    subst hs
    push_cast
    omega
theorem kn_ok_bd {s : sp_E × sp_E} (h : kn_ok s) : kn_bd s.2 400000000000 := by
  intro a b x ha hb hx
  obtain ⟨⟨k, hk, hw⟩, -⟩ := sp_C_some h.1 ha hb hx
  have := kn_wbd h.2 hw
  have : (k : Int) ≤ 4 := by omega
  omega
theorem kn_ok_add {s : sp_E × sp_E} {a b : Nat} {c : Int} (h : kn_ok s) (ha : a < 5) (hb : b < 5) (hc : -100000000000 ≤ c ∧ c ≤ 100000000000) (hn : ∀ w, s.2 b a = some w → 0 ≤ w + c) : kn_ok (sp_add s.1 a b c, sp_lrn s.2 a b c) := by
  refine ⟨sp_C_lrn h.1 ha hb hn, fun x z v hv => ?_⟩
  rcases sp_add_of hv with h1 | ⟨-, -, rfl⟩
  · exact h.2 x z v h1
  · exact hc
theorem kn_ok_0 : kn_ok (fun _ _ => none, fun a b => if a = b then some 0 else none) := ⟨sp_C_0, fun a b v h => by cases h⟩
noncomputable def kn_lc : List (Nat × Nat × Int32) → sp_E × sp_E → Option (sp_E × sp_E)
  | [], s => some s
  | t :: ts, s => cIf (∃ w, s.2 t.2.1 t.1 = some w ∧ w + t.2.2.toInt < 0) none (kn_lc ts (sp_add s.1 t.1 t.2.1 t.2.2.toInt, sp_lrn s.2 t.1 t.2.1 t.2.2.toInt))
theorem i_32 (x : Int32) : -2147483648 ≤ x.toInt ∧ x.toInt ≤ 2147483647 := ⟨Int32.le_toInt x, by have := Int32.toInt_lt x; omega⟩
theorem i_64 (x : Int32) : x.toInt64 = Int64.ofInt x.toInt := by
  apply Int64.toInt_inj.mp
  have := i_32 x
  rw [kn_i (by unfold kn_s; omega), Int32.toInt_toInt64]
theorem kn_at.kept {L L' : Nat → Nat → Int64} {o : Nat} {C : sp_E} (h : kn_at L o C) (hq : L' (o + 1) = L (o + 1)) : kn_at L' o C := fun a b ha hb => by rw [hq]; exact h a b ha hb
section KN2
variable {d n : Nat} {sh : Nat → Nat × Nat} {X : Nat × (Nat → Int32)} {R : Nat → Nat → Option Nat} {I : Nat → Nat → Int32} {L : Nat → Nat → Int64} {Q : Option Value → gw_Mem → Prop}
theorem c_Sy_set {o j : Nat} {x : Int32} {v : Int64} (hp : pt_Sy sh R o) (hj : j < 5) (hQ : Q none (n, sh, X, R, va_up I (o + 1) (va_up (I (o + 1)) j x), va_up L (o + 2) (va_up (L (o + 2)) j v))) : gw_Call y_Sy_set d 0 0 [.ref o, .int (nI j), .int x, .long v] (n, sh, X, R, I, L) Q := by
  obtain ⟨s0, s1, s2, r0, r1⟩ := hp
  refine gw_call o_Sy_set (Nat.le_of_ble_eq_true rfl) ?_
  refine go_aload_n 0 d_Sy_set_0 rfl rfl ?_
  refine go_getR d_Sy_set_1 f_Sy_9 (by assumption) (by assumption) ?_
  refine go_iload_n 1 d_Sy_set_4 rfl rfl ?_
  refine go_iload_n 2 d_Sy_set_5 rfl rfl ?_
  refine go_iast (j) d_Sy_set_6 (by assumption) (rfl) (hj) (by decide) ?_
  refine go_aload_n 0 d_Sy_set_7 rfl rfl ?_
  refine go_getR d_Sy_set_8 f_Sy_15 (by assumption) (by assumption) ?_
  refine go_iload_n 1 d_Sy_set_11 rfl rfl ?_
  refine go_lload_n 3 d_Sy_set_12 rfl rfl ?_
  refine go_last (j) d_Sy_set_13 (by assumption) (rfl) (hj) (by decide) ?_
  exact go_vret d_Sy_set_14 rfl (hQ)
theorem sy_at.set {o j : Nat} {f : Nat → ab_Sy} {x : Int32} {v : Int64} {y : ab_Sy} (h : sy_at I L o f) (hy : sd_at x v y) : sy_at (va_up I (o + 1) (va_up (I (o + 1)) j x)) (va_up L (o + 2) (va_up (L (o + 2)) j v)) o (va_up f j y) := by
  intro i hi
  rw [gw_up_eq, gw_up_eq]
  by_cases he : i = j
  · subst he
    rw [gw_up_eq, gw_up_eq, gw_up_eq]
    exact hy
  · rw [gw_up_ne he, gw_up_ne he, gw_up_ne he]
    exact h i hi
theorem c_Sy_stand {o : Nat} (hp : pt_Sy sh R o) (hQ : ∀ I' L', sy_at I' L' o (fun j => some (j, 0)) → (∀ q, q ≠ o + 1 → I' q = I q) → (∀ q, q ≠ o + 2 → L' q = L q) → Q none (n, sh, X, R, I', L')) : gw_Call y_Sy_standForThemselves (d + 1) 0 0 [.ref o] (n, sh, X, R, I, L) Q := by
  have s0 := hp.1
  refine gw_call o_Sy_standForThemselves (Nat.le_of_ble_eq_true rfl) ?_
  have loop : ∀ (r i : Nat) (x : Int32) (I1 : Nat → Nat → Int32) (L1 : Nat → Nat → Int64), x = nI i → i + r = 5 → (∀ j, j < i → sd_at (I1 (o + 1) j) (L1 (o + 2) j) (some (j, 0))) → (∀ q, q ≠ o + 1 → I1 q = I q) → (∀ q, q ≠ o + 2 → L1 q = L q) → gw_Go y_Sy_standForThemselves (d + 1) 0 0 2 [some (.ref o), some (.int x)] [] (n, sh, X, R, I1, L1) Q := by
    intro r
    induction r with
    | zero =>
      intro i x I1 L1 hx hr h1 h2 h3
      have hi5 : i = 5 := by omega
      subst hi5
      refine go_iload_n 1 d_Sy_standForThemselves_2 rfl rfl ?_
      refine go_iconst (v := 5) d_Sy_standForThemselves_3 rfl ?_
      refine go_icmp_ge 20 d_Sy_standForThemselves_4 rfl (fun _ => ?_) (fun hn => absurd (by rw [hx]; decide) hn)
      exact go_vret d_Sy_standForThemselves_20 rfl (hQ I1 L1 h1 h2 h3)
    | succ r ih =>
      intro i x I1 L1 hx hr h1 h2 h3
      subst hx
      refine go_iload_n 1 d_Sy_standForThemselves_2 rfl rfl ?_
      refine go_iconst (v := 5) d_Sy_standForThemselves_3 rfl ?_
      refine go_icmp_ge 20 d_Sy_standForThemselves_4 rfl (fun hn => absurd hn (nI_ge (b := 5) (by omega) (by decide))) (fun _ => ?_)
      refine go_aload_n 0 d_Sy_standForThemselves_7 rfl rfl ?_
      refine go_iload_n 1 d_Sy_standForThemselves_8 rfl rfl ?_
      refine go_iload_n 1 d_Sy_standForThemselves_9 rfl rfl ?_
      refine go_lconst (v := 0) d_Sy_standForThemselves_10 rfl ?_
      refine go_V3 d_Sy_standForThemselves_11 k_Sy_19 (by assumption) (Nat.le_of_ble_eq_true rfl) (c_Sy_set hp (by omega) ?_)
      refine go_iinc d_Sy_standForThemselves_14 rfl rfl (Nat.le_of_ble_eq_true rfl) ?_
      refine go_goto 2 d_Sy_standForThemselves_17 rfl ?_
      exact ih (i + 1) _ _ _ (gw_inc rfl) (by omega) (fun j hj => by rw [gw_up_eq, gw_up_eq]; by_cases he : j = i; (subst he; rw [gw_up_eq, gw_up_eq]; exact ⟨rfl, by dsimp only; omega, rfl⟩); (rw [gw_up_ne he, gw_up_ne he]; exact h1 j (by omega))) (fun q hq => by rw [gw_up_ne hq]; exact h2 q hq) (fun q hq => by rw [gw_up_ne hq]; exact h3 q hq)
  refine go_iconst (v := 0) d_Sy_standForThemselves_0 rfl ?_
  refine go_istore_n 1 d_Sy_standForThemselves_1 rfl (Nat.le_of_ble_eq_true rfl) ?_
  exact loop 5 0 _ I L rfl (by omega) (fun j hj => by omega) (fun _ _ => rfl) (fun _ _ => rfl)
theorem c_Sy_copyFrom {o o' : Nat} {f : Nat → ab_Sy} (hp : pt_Sy sh R o) (hp' : pt_Sy sh R o') (hf : sy_at I L o' f) (hne : o ≠ o') (hQ : ∀ I' L', sy_at I' L' o f → (∀ q, q ≠ o + 1 → I' q = I q) → (∀ q, q ≠ o + 2 → L' q = L q) → Q none (n, sh, X, R, I', L')) : gw_Call y_Sy_copyFrom (d + 1) 0 0 [.ref o, .ref o'] (n, sh, X, R, I, L) Q := by
  obtain ⟨s0, s1, s2, r0, r1⟩ := hp
  obtain ⟨s0', s1', s2', r0', r1'⟩ := hp'
  refine gw_call o_Sy_copyFrom (Nat.le_of_ble_eq_true rfl) ?_
  refine go_aload_n 1 d_Sy_copyFrom_0 rfl rfl ?_
  refine go_getR d_Sy_copyFrom_1 f_Sy_9 (by assumption) (by assumption) ?_
  refine go_iconst (v := 0) d_Sy_copyFrom_4 rfl ?_
  refine go_aload_n 0 d_Sy_copyFrom_5 rfl rfl ?_
  refine go_getR d_Sy_copyFrom_6 f_Sy_9 (by assumption) (by assumption) ?_
  refine go_iconst (v := 0) d_Sy_copyFrom_9 rfl ?_
  refine go_iconst (v := 5) d_Sy_copyFrom_10 rfl ?_
  refine go_cpyI d_Sy_copyFrom_11 j_Sy_23 gw_js1 gw_js2 gw_js3 (by assumption) (by assumption) (rfl) (by decide) (Nat.le_of_ble_eq_true rfl) ?_
  refine go_aload_n 1 d_Sy_copyFrom_14 rfl rfl ?_
  refine go_getR d_Sy_copyFrom_15 f_Sy_15 (by assumption) (by assumption) ?_
  refine go_iconst (v := 0) d_Sy_copyFrom_18 rfl ?_
  refine go_aload_n 0 d_Sy_copyFrom_19 rfl rfl ?_
  refine go_getR d_Sy_copyFrom_20 f_Sy_15 (by assumption) (by assumption) ?_
  refine go_iconst (v := 0) d_Sy_copyFrom_23 rfl ?_
  refine go_iconst (v := 5) d_Sy_copyFrom_24 rfl ?_
  refine go_cpyL d_Sy_copyFrom_25 j_Sy_23 gw_js1 gw_js2 gw_js3 (by assumption) (by assumption) (rfl) (by decide) (Nat.le_of_ble_eq_true rfl) ?_
  exact go_vret d_Sy_copyFrom_28 rfl (hQ _ _ (fun j hj => by rw [gw_up_eq, gw_up_eq, pk_cpy_in (by omega) (by omega), pk_cpy_in (by omega) (by omega), Nat.sub_zero, Nat.zero_add]; exact hf j hj) (fun q hq => gw_up_ne hq) (fun q hq => gw_up_ne hq))
theorem c_Kn_copyFrom {o o' : Nat} {C : sp_E} (hp : pt_Kn sh R o) (hp' : pt_Kn sh R o') (hf : kn_at L o' C) (hQ : ∀ L', kn_at L' o C → (∀ q, q ≠ o + 1 → L' q = L q) → Q none (n, sh, X, R, I, L')) : gw_Call y_Kn_copyFrom (d + 1) 0 0 [.ref o, .ref o'] (n, sh, X, R, I, L) Q := by
  obtain ⟨s0, s1, r0⟩ := hp
  obtain ⟨s0', s1', r0'⟩ := hp'
  refine gw_call o_Kn_copyFrom (Nat.le_of_ble_eq_true rfl) ?_
  refine go_aload_n 1 d_Kn_copyFrom_0 rfl rfl ?_
  refine go_getR d_Kn_copyFrom_1 f_Kn_9 (by assumption) (by assumption) ?_
  refine go_iconst (v := 0) d_Kn_copyFrom_4 rfl ?_
  refine go_aload_n 0 d_Kn_copyFrom_5 rfl rfl ?_
  refine go_getR d_Kn_copyFrom_6 f_Kn_9 (by assumption) (by assumption) ?_
  refine go_iconst (v := 0) d_Kn_copyFrom_9 rfl ?_
  refine go_bipush (v := 25) d_Kn_copyFrom_10 rfl ?_
  refine go_cpyL d_Kn_copyFrom_12 j_Kn_17 gw_js1 gw_js2 gw_js3 (by assumption) (by assumption) (rfl) (by decide) (Nat.le_of_ble_eq_true rfl) ?_
  exact go_vret d_Kn_copyFrom_15 rfl (hQ _ (fun a b ha hb => by rw [gw_up_eq, pk_cpy_in (n := 25) (Nat.zero_le _) (by omega), Nat.sub_zero, Nat.zero_add]; exact hf a b ha hb) (fun q hq => gw_up_ne hq))
theorem c_Kn_learnClaims {o k p : Nat} {A : ab_Cu} {s : sp_E × sp_E} (hp : pt_Kn sh R o) (hc : pt_Cu sh R k) (ha : cu_at I k p A) (hk : kn_at L o s.2) (hs : kn_ok s)
    (hf : kn_lc A.1 s = none → ∀ L', (∀ q, q ≠ o + 1 → L' q = L q) → Q (some (.int 0)) (n, sh, X, R, I, L')) (hQ : ∀ s', kn_lc A.1 s = some s' → kn_ok s' → ∀ L', kn_at L' o s'.2 → (∀ q, q ≠ o + 1 → L' q = L q) → Q (some (.int 1)) (n, sh, X, R, I, L')) : gw_Call y_Kn_learnClaims (d + 2) 0 0 [.ref o, .ref k] (n, sh, X, R, I, L) Q := by
  have s0 := hp.1
  obtain ⟨c0, c1, c2, c3, c4, r2, r3, r4, r5, q0, q1, p0, p1⟩ := hc
  obtain ⟨a1, a2, a3, a4, a5, a6⟩ := ha
  refine gw_call o_Kn_learnClaims (Nat.le_of_ble_eq_true rfl) ?_
  have loop : ∀ (ts : List (Nat × Nat × Int32)) (i : Nat) (x : Int32) (s1 : sp_E × sp_E) (L1 : Nat → Nat → Int64), x = nI i → i ≤ A.1.length → A.1.drop i = ts → kn_lc A.1 s = kn_lc ts s1 → kn_ok s1 → kn_at L1 o s1.2 → (∀ q, q ≠ o + 1 → L1 q = L q) → gw_Go y_Kn_learnClaims (d + 2) 0 0 2 [some (.ref o), some (.ref k), some (.int x)] [] (n, sh, X, R, I, L1) Q := by
    intro ts
    induction ts with
    | nil =>
      intro i x s1 L1 hx h0 hd hl hok hk1 hq1
      have hi := gw_dropE hd
      refine go_iload_n 2 d_Kn_learnClaims_2 rfl rfl ?_
      refine go_aload_n 1 d_Kn_learnClaims_3 rfl rfl ?_
      refine go_getI d_Kn_learnClaims_4 f_Kn_27 (by assumption) ?_
      refine go_icmp_ge 44 d_Kn_learnClaims_7 rfl (fun _ => ?_) (fun hn => absurd (by rw [a2, hx]; exact nI_le hi (by omega)) hn)
      refine go_iconst (v := 1) d_Kn_learnClaims_44 rfl ?_
      exact go_zret d_Kn_learnClaims_45 rfl (by first | exact Or.inl rfl | exact Or.inr rfl | assumption) (hQ s1 hl hok L1 hk1 hq1)
    | cons t ts ih =>
      intro i x s1 L1 hx h0 hd hl hok hk1 hq1
      obtain ⟨hi, ht, hn⟩ := gw_drop hd
      obtain ⟨b1, b2, b3, b4, b5⟩ := a4 i t ht
      have hl' : kn_lc A.1 s = cIf (∃ w, s1.2 t.2.1 t.1 = some w ∧ w + t.2.2.toInt < 0) none (kn_lc ts (sp_add s1.1 t.1 t.2.1 t.2.2.toInt, sp_lrn s1.2 t.1 t.2.1 t.2.2.toInt)) := hl
      have bt := i_32 t.2.2
      refine go_iload_n 2 d_Kn_learnClaims_2 rfl rfl ?_
      refine go_aload_n 1 d_Kn_learnClaims_3 rfl rfl ?_
      refine go_getI d_Kn_learnClaims_4 f_Kn_27 (by assumption) ?_
      refine go_icmp_ge 44 d_Kn_learnClaims_7 rfl (fun hn => absurd hn (by rw [a2, hx]; exact nI_ge hi (by omega))) (fun _ => ?_)
      refine go_aload_n 0 d_Kn_learnClaims_10 rfl rfl ?_
      refine go_aload_n 1 d_Kn_learnClaims_11 rfl rfl ?_
      refine go_getR d_Kn_learnClaims_12 f_Kn_33 (by assumption) (by assumption) ?_
      refine go_iload_n 2 d_Kn_learnClaims_15 rfl rfl ?_
      refine go_iald (i) d_Kn_learnClaims_16 (by assumption) (hx) (by omega) (by decide) ?_
      refine go_aload_n 1 d_Kn_learnClaims_17 rfl rfl ?_
      refine go_getR d_Kn_learnClaims_18 f_Kn_37 (by assumption) (by assumption) ?_
      refine go_iload_n 2 d_Kn_learnClaims_21 rfl rfl ?_
      refine go_iald (i) d_Kn_learnClaims_22 (by assumption) (hx) (by omega) (by decide) ?_
      refine go_aload_n 1 d_Kn_learnClaims_23 rfl rfl ?_
      refine go_getR d_Kn_learnClaims_24 f_Kn_40 (by assumption) (by assumption) ?_
      refine go_iload_n 2 d_Kn_learnClaims_27 rfl rfl ?_
      refine go_iald (i) d_Kn_learnClaims_28 (by assumption) (hx) (by omega) (by decide) ?_
      refine go_i2l d_Kn_learnClaims_29 (rfl) ?_
      rw [b1, b2, b3, i_64]
      refine go_V3 d_Kn_learnClaims_30 k_Kn_43 (by assumption) (Nat.le_of_ble_eq_true rfl) (c_Kn_learn hp hk1 b4 b5 (kn_ok_bd hok) (by omega) (fun hno => ?_) (fun hnc L2 hk2 hq2 => ?_))
      · rw [cIf_pos hno] at hl'
        refine go_if_ne 38 d_Kn_learnClaims_33 rfl (fun hn => absurd hn (fun h => h rfl)) (fun _ => ?_)
        refine go_iconst (v := 0) d_Kn_learnClaims_36 rfl ?_
        exact go_zret d_Kn_learnClaims_37 rfl (by first | exact Or.inl rfl | exact Or.inr rfl | assumption) (hf hl' L1 hq1)
      · rw [cIf_neg (fun ⟨w, h1, h2⟩ => absurd (hnc w h1) (by omega))] at hl'
        refine go_if_ne 38 d_Kn_learnClaims_33 rfl (fun _ => ?_) (fun hn => by first | exact absurd hn (by decide) | exact absurd (by decide) hn)
        refine go_iinc d_Kn_learnClaims_38 rfl rfl (Nat.le_of_ble_eq_true rfl) ?_
        refine go_goto 2 d_Kn_learnClaims_41 rfl ?_
        exact ih (i + 1) _ _ L2 (gw_inc hx) (by omega) hn hl' (kn_ok_add hok b4 b5 (by omega) hnc) hk2 (fun q hq => by rw [hq2 q hq]; exact hq1 q hq)
  refine go_iconst (v := 0) d_Kn_learnClaims_0 rfl ?_
  refine go_istore_n 2 d_Kn_learnClaims_1 rfl (Nat.le_of_ble_eq_true rfl) ?_
  exact loop _ 0 _ s L rfl (by omega) rfl rfl hs hk (fun _ _ => rfl)
end KN2
