/-! the reference: its code, cuts and marks as they lie in its arrays -/
def pt_Mo (sh : Nat → Nat × Nat) (R : Nat → Nat → Option Nat) : Prop := sh 533 = (0, 11) ∧ sh 534 = (1, 4) ∧ sh 535 = (1, 96) ∧ sh 536 = (1, 96) ∧ sh 537 = (3, 4) ∧ sh 538 = (1, 4) ∧ sh 539 = (1, 24) ∧ sh 540 = (1, 24) ∧ sh 541 = (1, 144) ∧ sh 542 = (1, 144) ∧ sh 543 = (1, 144) ∧ sh 544 = (1, 48) ∧ sh 545 = (1, 48) ∧ sh 546 = (1, 144) ∧ sh 547 = (1, 144) ∧ sh 548 = (1, 144) ∧ sh 549 = (2, 4368) ∧ sh 550 = (2, 25) ∧ sh 551 = (2, 25) ∧ sh 552 = (1, 12) ∧ sh 553 = (1, 4) ∧ sh 554 = (1, 4) ∧ sh 555 = (1, 4) ∧ sh 556 = (1, 16) ∧ sh 557 = (1, 24) ∧ R 533 0 = some 534 ∧ R 533 1 = some 535 ∧ R 533 2 = some 536 ∧ R 533 3 = some 537 ∧ R 533 4 = some 538 ∧ R 533 5 = some 539 ∧ R 533 6 = some 540 ∧ R 533 7 = some 541 ∧ R 533 8 = some 542 ∧ R 533 9 = some 543 ∧ R 533 10 = some 544 ∧ R 533 11 = some 545 ∧ R 533 12 = some 546 ∧ R 533 13 = some 547 ∧ R 533 14 = some 548 ∧ R 533 15 = some 549 ∧ R 533 18 = some 550 ∧ R 533 19 = some 551 ∧ R 533 20 = some 552 ∧ R 533 22 = some 553 ∧ R 533 23 = some 554 ∧ R 533 24 = some 555 ∧ R 533 25 = some 556 ∧ R 533 26 = some 557
theorem up2_ne {α : Type} {I : Nat → Nat → α} {q i q' i' : Nat} {x : α} (h : q' ≠ q ∨ i' ≠ i) : va_up I q (va_up (I q) i x) q' i' = I q' i' := by
  by_cases hq : q' = q
  · subst hq
    rw [gw_up_eq, gw_up_ne (by rcases h with h | h; exact absurd rfl h; exact h)]
  · rw [gw_up_ne hq]
theorem up2_eq {α : Type} {I : Nat → Nat → α} {q i : Nat} {x : α} : va_up I q (va_up (I q) i x) q i = x := by rw [gw_up_eq, gw_up_eq]
theorem nI_mul (a b : Nat) : nI a * nI b = nI (a * b) := (Int32.ofNat_mul a b).symm
theorem ix {a m j : Nat} : nI a * nI m + nI j = nI (a * m + j) := by rw [nI_mul, nI_add]
theorem m4 {k : Nat} (h : k < 4) : 0 ≤ nI k ∧ nI k ≤ 3 := ⟨nI_pos' (by omega), (nI_leI (b := 3) (by omega) (by decide)).mpr (by omega)⟩
theorem m4' {x : Int32} (h : 0 ≤ x ∧ x ≤ 3) : ∃ k, k < 4 ∧ x = nI k := by
  obtain ⟨k, hk, e⟩ := nI_of2 (n := 3) (by decide) (Int32.not_lt.mpr h.1) h.2
  exact ⟨k, by omega, e⟩
def mp_at (I : Nat → Nat → Int32) (p : Nat) (P : ab_Po) : Prop := I 544 p = P.1 ∧ I 545 p = nI P.2.length ∧ P.2.length ≤ 3 ∧ ∀ (j : Nat) (t : Nat × Nat × Nat), P.2[j]? = some t → I 546 (3 * p + j) = nI t.1 ∧ I 547 (3 * p + j) = nI t.2.1 ∧ I 548 (3 * p + j) = nI t.2.2 ∧ t.2.1 < 5 ∧ t.2.2 < 5
def mu_at (I : Nat → Nat → Int32) (c : Nat) (A : ab_Cu) : Prop := I 540 c = nI A.1.length ∧ A.1.length ≤ 6 ∧ (∀ (j : Nat) (t : Nat × Nat × Int32), A.1[j]? = some t → I 541 (6 * c + j) = nI t.1 ∧ I 542 (6 * c + j) = nI t.2.1 ∧ I 543 (6 * c + j) = t.2.2 ∧ t.1 < 5 ∧ t.2.1 < 5) ∧ mp_at I (2 * c) A.2.1 ∧ mp_at I (2 * c + 1) A.2.2
def mm_at (I : Nat → Nat → Int32) (m : Nat) (A : ab_Me) : Prop := I 534 m = nI A.1.length ∧ A.1.length ≤ 24 ∧ (∀ (j : Nat) (t : Nat × Int32), A.1[j]? = some t → I 535 (24 * m + j) = nI t.1 ∧ I 536 (24 * m + j) = t.2 ∧ t.1 < 15) ∧ I 537 m = bI A.2.2 ∧ I 538 m = nI A.2.1.length ∧ A.2.1.length ≤ 6 ∧ ∀ (i : Nat) (c : Nat × ab_Cu), A.2.1[i]? = some c → I 539 (6 * m + i) = nI c.1 ∧ mu_at I (6 * m + i) c.2
def mc_at (I : Nat → Nat → Int32) (U : Nat → ab_Me) : Prop := ∀ m, m < 4 → mm_at I m (U m)
def mp_eq (I I' : Nat → Nat → Int32) (p : Nat) : Prop := I' 544 p = I 544 p ∧ I' 545 p = I 545 p ∧ ∀ j, j < 3 → I' 546 (3 * p + j) = I 546 (3 * p + j) ∧ I' 547 (3 * p + j) = I 547 (3 * p + j) ∧ I' 548 (3 * p + j) = I 548 (3 * p + j)
def mu_eq (I I' : Nat → Nat → Int32) (c : Nat) : Prop := I' 540 c = I 540 c ∧ (∀ j, j < 6 → I' 541 (6 * c + j) = I 541 (6 * c + j) ∧ I' 542 (6 * c + j) = I 542 (6 * c + j) ∧ I' 543 (6 * c + j) = I 543 (6 * c + j)) ∧ mp_eq I I' (2 * c) ∧ mp_eq I I' (2 * c + 1)
def mk_eq (I I' : Nat → Nat → Int32) (m : Nat) : Prop := I' 534 m = I 534 m ∧ ∀ j, j < 24 → I' 535 (24 * m + j) = I 535 (24 * m + j) ∧ I' 536 (24 * m + j) = I 536 (24 * m + j)
def ms_eq (I I' : Nat → Nat → Int32) (m : Nat) : Prop := I' 538 m = I 538 m ∧ ∀ i, i < 6 → I' 539 (6 * m + i) = I 539 (6 * m + i) ∧ mu_eq I I' (6 * m + i)
theorem ge_lt {α : Type} {l : List α} {j b : Nat} {t : α} (h : l[j]? = some t) (hb : l.length ≤ b) : j < b := by
  obtain ⟨hj, -⟩ := List.getElem?_eq_some_iff.mp h
  omega
theorem mp_at.ptw {I I' : Nat → Nat → Int32} {p : Nat} {P : ab_Po} (h : mp_at I p P) (e : mp_eq I I' p) : mp_at I' p P := ⟨e.1.trans h.1, e.2.1.trans h.2.1, h.2.2.1, fun j t ht => by
  obtain ⟨a, b, c⟩ := e.2.2 j (ge_lt ht h.2.2.1)
  rw [a, b, c]
  exact h.2.2.2 j t ht⟩
theorem mu_at.ptw {I I' : Nat → Nat → Int32} {c : Nat} {A : ab_Cu} (h : mu_at I c A) (e : mu_eq I I' c) : mu_at I' c A := ⟨e.1.trans h.1, h.2.1, fun j t ht => (by
  obtain ⟨a, b, c⟩ := e.2.1 j (ge_lt ht h.2.1)
  rw [a, b, c]
  exact h.2.2.1 j t ht), h.2.2.2.1.ptw e.2.2.1, h.2.2.2.2.ptw e.2.2.2⟩
theorem mm_at.ptw {I I' : Nat → Nat → Int32} {m : Nat} {A : ab_Me} (h : mm_at I m A) (e1 : mk_eq I I' m) (e2 : I' 537 m = I 537 m) (e3 : ms_eq I I' m) : mm_at I' m A := ⟨e1.1.trans h.1, h.2.1, fun j t ht => (by
  obtain ⟨a, b⟩ := e1.2 j (ge_lt ht h.2.1)
  rw [a, b]
  exact h.2.2.1 j t ht), e2.trans h.2.2.2.1, e3.1.trans h.2.2.2.2.1, h.2.2.2.2.2.1, fun i c hc => (by
  obtain ⟨a, b⟩ := e3.2 i (ge_lt hc h.2.2.2.2.2.1)
  obtain ⟨u, v⟩ := h.2.2.2.2.2.2 i c hc
  exact ⟨a.trans u, v.ptw b⟩)⟩
theorem mp_eq.row {I I' : Nat → Nat → Int32} {p : Nat} (h : ∀ q, 544 ≤ q → q < 549 → I' q = I q) : mp_eq I I' p := ⟨by rw [h _ (by decide) (by decide)], by rw [h _ (by decide) (by decide)], fun j _ => ⟨by rw [h _ (by decide) (by decide)], by rw [h _ (by decide) (by decide)], by rw [h _ (by decide) (by decide)]⟩⟩
theorem mu_eq.row {I I' : Nat → Nat → Int32} {c : Nat} (h : ∀ q, 540 ≤ q → q < 549 → I' q = I q) : mu_eq I I' c := ⟨by rw [h _ (by decide) (by decide)], fun j _ => ⟨by rw [h _ (by decide) (by decide)], by rw [h _ (by decide) (by decide)], by rw [h _ (by decide) (by decide)]⟩, mp_eq.row (fun q a b => h q (by omega) b), mp_eq.row (fun q a b => h q (by omega) b)⟩
theorem ms_eq.row {I I' : Nat → Nat → Int32} {m : Nat} (h : ∀ q, 538 ≤ q → q < 549 → I' q = I q) : ms_eq I I' m := ⟨by rw [h _ (by decide) (by decide)], fun i _ => ⟨by rw [h _ (by decide) (by decide)], mu_eq.row (fun q a b => h q (by omega) b)⟩⟩
theorem mk_eq.row {I I' : Nat → Nat → Int32} {m : Nat} (h : ∀ q, 534 ≤ q → q < 537 → I' q = I q) : mk_eq I I' m := ⟨by rw [h _ (by decide) (by decide)], fun j _ => ⟨by rw [h _ (by decide) (by decide)], by rw [h _ (by decide) (by decide)]⟩⟩
theorem mc_at.kept {I I' : Nat → Nat → Int32} {U : Nat → ab_Me} (h : mc_at I U) (hq : ∀ q, 534 ≤ q → q < 549 → I' q = I q) : mc_at I' U := fun m hm => (h m hm).ptw (mk_eq.row (fun q a b => hq q (by omega) (by omega))) (by rw [hq _ (by decide) (by decide)]) (ms_eq.row (fun q a b => hq q (by omega) (by omega)))
theorem ap_or {α : Type} {l : List α} {a t : α} {j : Nat} (h : (l ++ [a])[j]? = some t) : (j < l.length ∧ l[j]? = some t) ∨ (j = l.length ∧ t = a) := by
  rcases Nat.lt_or_ge j l.length with hj | hj
  · exact Or.inl ⟨hj, by rw [List.getElem?_append_left hj] at h; exact h⟩
  · rw [List.getElem?_append_right hj] at h
    obtain ⟨h1, h2⟩ := List.getElem?_eq_some_iff.mp h
    rw [List.length_singleton] at h1
    exact Or.inr ⟨by omega, by rw [← h2]; simp⟩
theorem st_or {α : Type} {l : List α} {a t : α} {i j : Nat} (h : (l.set i a)[j]? = some t) : (j = i ∧ t = a) ∨ (j ≠ i ∧ l[j]? = some t) := by
  by_cases he : j = i
  · subst he
    obtain ⟨h1, h2⟩ := List.getElem?_eq_some_iff.mp h
    exact Or.inl ⟨rfl, by rw [← h2]; simp⟩
  · rw [List.getElem?_set_ne (fun e => he e.symm)] at h
    exact Or.inr ⟨he, h⟩
section MO
variable {d n : Nat} {sh : Nat → Nat × Nat} {X : Nat × (Nat → Int32)} {R : Nat → Nat → Option Nat} {I : Nat → Nat → Int32} {L : Nat → Nat → Int64} {Q : Option Value → gw_Mem → Prop}
theorem c_Mo_in {x l h : Int32} {lo hi : Int64} {M : gw_Mem} (hl : lo = l.toInt64) (hh : hi = h.toInt64) (hQ : ∀ b : Int32, (b ≠ 0 ↔ l ≤ x ∧ x ≤ h) → (b = 0 ∨ b = 1) → Q (some (.int b)) M) : gw_Call y_Mo_in d 0 0 [.long x.toInt64, .long lo, .long hi] M Q := by
  subst hl
  subst hh
  have k1 : x.toInt64 < l.toInt64 ↔ ¬ l ≤ x := by rw [Int64.lt_iff_toInt_lt, Int32.toInt_toInt64, Int32.toInt_toInt64, Int32.le_iff_toInt_le]; omega
  have k2 : h.toInt64 < x.toInt64 ↔ ¬ x ≤ h := by rw [Int64.lt_iff_toInt_lt, Int32.toInt_toInt64, Int32.toInt_toInt64, Int32.le_iff_toInt_le]; omega
  refine gw_call o_Mo_in (Nat.le_of_ble_eq_true rfl) ?_
  refine go_lload_n 0 d_Mo_in_0 rfl rfl ?_
  refine go_lload_n 2 d_Mo_in_1 rfl rfl ?_
  refine go_lcmp_lt 17 d_Mo_in_2 d_Mo_in_3 rfl (fun h2 => ?_) (fun h2 => ?_)
  · refine go_iconst (v := 0) d_Mo_in_17 rfl ?_
    exact go_zret d_Mo_in_18 rfl (by first | exact Or.inl rfl | exact Or.inr rfl | assumption) (by first | exact hQ 0 ⟨fun h0 => absurd rfl h0, fun hh => absurd hh.1 (k1.mp h2)⟩ (Or.inl rfl) | exact hQ 0 ⟨fun h0 => absurd rfl h0, fun hh => absurd hh.2 (k2.mp h9)⟩ (Or.inl rfl) | exact hQ 1 ⟨fun _ => ⟨Classical.byContradiction (fun e => h2 (k1.mpr e)), Classical.byContradiction (fun e => h9 (k2.mpr e))⟩, fun _ => by decide⟩ (Or.inr rfl))
  · refine go_lload_n 0 d_Mo_in_6 rfl rfl ?_
    refine go_lload d_Mo_in_7 rfl ?_
    refine go_lcmp_gt 17 d_Mo_in_9 d_Mo_in_10 rfl (fun h9 => ?_) (fun h9 => ?_)
    · refine go_iconst (v := 0) d_Mo_in_17 rfl ?_
      exact go_zret d_Mo_in_18 rfl (by first | exact Or.inl rfl | exact Or.inr rfl | assumption) (by first | exact hQ 0 ⟨fun h0 => absurd rfl h0, fun hh => absurd hh.1 (k1.mp h2)⟩ (Or.inl rfl) | exact hQ 0 ⟨fun h0 => absurd rfl h0, fun hh => absurd hh.2 (k2.mp h9)⟩ (Or.inl rfl) | exact hQ 1 ⟨fun _ => ⟨Classical.byContradiction (fun e => h2 (k1.mpr e)), Classical.byContradiction (fun e => h9 (k2.mpr e))⟩, fun _ => by decide⟩ (Or.inr rfl))
    · refine go_iconst (v := 1) d_Mo_in_13 rfl ?_
      refine go_goto 18 d_Mo_in_14 rfl ?_
      exact go_zret d_Mo_in_18 rfl (by first | exact Or.inl rfl | exact Or.inr rfl | assumption) (by first | exact hQ 0 ⟨fun h0 => absurd rfl h0, fun hh => absurd hh.1 (k1.mp h2)⟩ (Or.inl rfl) | exact hQ 0 ⟨fun h0 => absurd rfl h0, fun hh => absurd hh.2 (k2.mp h9)⟩ (Or.inl rfl) | exact hQ 1 ⟨fun _ => ⟨Classical.byContradiction (fun e => h2 (k1.mpr e)), Classical.byContradiction (fun e => h9 (k2.mpr e))⟩, fun _ => by decide⟩ (Or.inr rfl))
variable {U : Nat → ab_Me}
theorem c_Mo_changed {k : Nat} (hp : pt_Mo sh R) (hc : mc_at I U) (hk : k < 4) (hQ : ∀ I', mc_at I' (cc_chg k U) → (∀ q, q ≠ 537 → I' q = I q) → Q none (n, sh, X, R, I', L)) : gw_Call y_Mo_changed d 0 0 [.ref 533, .int (nI k)] (n, sh, X, R, I, L) Q := by
  obtain ⟨s533, s534, s535, s536, s537, s538, s539, s540, s541, s542, s543, s544, s545, s546, s547, s548, s549, s550, s551, s552, s553, s554, s555, s556, s557, r534, r535, r536, r537, r538, r539, r540, r541, r542, r543, r544, r545, r546, r547, r548, r549, r550, r551, r552, r553, r554, r555, r556, r557⟩ := hp
  refine gw_call o_Mo_changed (Nat.le_of_ble_eq_true rfl) ?_
  have loop : ∀ (r i : Nat) (x : Int32) (I1 : Nat → Nat → Int32), x = nI i → i + r = 4 → k ≤ i → (∀ q, q ≠ 537 → I1 q = I q) → (∀ j, j < k → I1 537 j = I 537 j) → (∀ j, k ≤ j → j < i → I1 537 j = 0) → gw_Go y_Mo_changed d 0 0 2 [some (.ref 533), some (.int (nI k)), some (.int x)] [] (n, sh, X, R, I1, L) Q := by
    intro r
    induction r with
    | zero =>
      intro i x I1 hx hr hi e1 e2 e3
      have h4 : i = 4 := by omega
      subst h4
      refine go_iload_n 2 d_Mo_changed_2 rfl rfl ?_
      refine go_iconst (v := 4) d_Mo_changed_3 rfl ?_
      refine go_icmp_ge 20 d_Mo_changed_4 rfl (fun _ => ?_) (fun hn => absurd (by rw [hx]; decide) hn)
      exact go_vret d_Mo_changed_20 rfl (hQ I1 (fun m hm => by unfold cc_chg; by_cases hkm : k ≤ m; (rw [if_pos hkm]; have a := (hc m hm).ptw (I' := va_up I 537 (I 537)) (mk_eq.row (fun q a b => by rw [gw_up_ne (by omega)])) (by rw [gw_up_eq]) (ms_eq.row (fun q a b => by rw [gw_up_ne (by omega)])); rw [gw_up_self] at a; obtain ⟨a1, a2, a3, a4, a5, a6, a7⟩ := a; have b : mm_at I1 m ((U m).1, (U m).2.1, false) := ⟨by rw [e1 _ (by decide)]; exact a1, a2, fun j t ht => by rw [e1 _ (by decide), e1 _ (by decide)]; exact a3 j t ht, e3 m hkm (by omega), by rw [e1 _ (by decide)]; exact a5, a6, fun i c hh => ⟨by rw [e1 _ (by decide)]; exact (a7 i c hh).1, (a7 i c hh).2.ptw (mu_eq.row (fun q u v => e1 q (by omega)))⟩⟩; exact b); (rw [if_neg hkm]; exact (hc m hm).ptw (mk_eq.row (fun q a b => e1 q (by omega))) (e2 m (by omega)) (ms_eq.row (fun q a b => e1 q (by omega))))) e1)
    | succ r ih =>
      intro i x I1 hx hr hi e1 e2 e3
      refine go_iload_n 2 d_Mo_changed_2 rfl rfl ?_
      refine go_iconst (v := 4) d_Mo_changed_3 rfl ?_
      refine go_icmp_ge 20 d_Mo_changed_4 rfl (fun hn => absurd hn (by rw [hx]; exact nI_ge (b := 4) (by omega) (by decide))) (fun _ => ?_)
      refine go_aload_n 0 d_Mo_changed_7 rfl rfl ?_
      refine go_getR d_Mo_changed_8 f_Mo_19 (by assumption) (by assumption) ?_
      refine go_iload_n 2 d_Mo_changed_11 rfl rfl ?_
      refine go_iconst (v := 0) d_Mo_changed_12 rfl ?_
      refine go_zast (i) d_Mo_changed_13 (by assumption) (hx) (by omega) (by decide) (by first | exact Or.inl rfl | exact Or.inr rfl | assumption) ?_
      refine go_iinc d_Mo_changed_14 rfl rfl (Nat.le_of_ble_eq_true rfl) ?_
      refine go_goto 2 d_Mo_changed_17 rfl ?_
      exact ih (i + 1) _ _ (gw_inc hx) (by omega) (by omega) (fun q hq => by rw [gw_up_ne hq]; exact e1 q hq) (fun j hj => by rw [up2_ne (Or.inr (by omega))]; exact e2 j hj) (fun j h1 h2 => by by_cases he : j = i; (subst he; rw [up2_eq]); (rw [up2_ne (Or.inr he)]; exact e3 j h1 (by omega)))
  refine go_iload_n 1 d_Mo_changed_0 rfl rfl ?_
  refine go_istore_n 2 d_Mo_changed_1 rfl (Nat.le_of_ble_eq_true rfl) ?_
  exact loop (4 - k) k _ _ rfl (by omega) (Nat.le_refl _) (fun _ _ => rfl) (fun _ _ => rfl) (fun j h1 h2 => by omega)
theorem c_Mo_put {x y z : Int32} (hp : pt_Mo sh R) (hc : mc_at I U) (hf : ¬ (∃ k, k < 4 ∧ x = nI k ∧ (0 ≤ y ∧ y ≤ 14) ∧ (-1000 ≤ z ∧ z ≤ 1000) ∧ (U k).1.length < 24) → Q (some (.int (-1))) (n, sh, X, R, I, L))
    (hQ : ∀ k kd, k < 4 → x = nI k → kd < 15 → y = nI kd → (-1000 ≤ z ∧ z ≤ 1000) → (U k).1.length < 24 → ∀ I', mc_at I' (cc_chg k (va_up U k ((U k).1 ++ [(kd, z)], (U k).2))) → (∀ q, q < 534 ∨ 549 ≤ q → I' q = I q) → Q (some (.int (nI (U k).1.length))) (n, sh, X, R, I', L)) : gw_Call y_Mo_put (d + 1) 0 0 [.ref 533, .int x, .int y, .int z] (n, sh, X, R, I, L) Q := by
  have hp0 := hp
  obtain ⟨s533, s534, s535, s536, s537, s538, s539, s540, s541, s542, s543, s544, s545, s546, s547, s548, s549, s550, s551, s552, s553, s554, s555, s556, s557, r534, r535, r536, r537, r538, r539, r540, r541, r542, r543, r544, r545, r546, r547, r548, r549, r550, r551, r552, r553, r554, r555, r556, r557⟩ := hp
  refine gw_call o_Mo_put (Nat.le_of_ble_eq_true rfl) ?_
  refine go_iload_n 1 d_Mo_put_0 rfl rfl ?_
  refine go_i2l d_Mo_put_1 (rfl) ?_
  refine go_lconst (v := 0) d_Mo_put_2 rfl ?_
  refine go_ldc2 d_Mo_put_3 i_Mo_84 ?_
  refine go_S3 d_Mo_put_6 k_Mo_86 (Nat.le_of_ble_eq_true rfl) (c_Mo_in (l := 0) (h := 3) rfl rfl (fun b1 k1 z1 => ?_))
  refine go_if_eq 38 d_Mo_put_9 rfl (fun h9 => ?_) (fun h9 => ?_)
  · refine go_iconst (v := (-1)) d_Mo_put_38 rfl ?_
    exact go_iret d_Mo_put_39 rfl (hf (fun ⟨k', q1, q2, q3, q4, q5⟩ => by first | exact k1.mpr (by rw [q2]; exact m4 q1) h9 | exact k2.mpr q3 h21 | exact k3.mpr q4 h35))
  · refine go_iload_n 2 d_Mo_put_12 rfl rfl ?_
    refine go_i2l d_Mo_put_13 (rfl) ?_
    refine go_lconst (v := 0) d_Mo_put_14 rfl ?_
    refine go_ldc2 d_Mo_put_15 i_Mo_90 ?_
    refine go_S3 d_Mo_put_18 k_Mo_86 (Nat.le_of_ble_eq_true rfl) (c_Mo_in (l := 0) (h := 14) rfl rfl (fun b2 k2 z2 => ?_))
    refine go_if_eq 38 d_Mo_put_21 rfl (fun h21 => ?_) (fun h21 => ?_)
    · refine go_iconst (v := (-1)) d_Mo_put_38 rfl ?_
      exact go_iret d_Mo_put_39 rfl (hf (fun ⟨k', q1, q2, q3, q4, q5⟩ => by first | exact k1.mpr (by rw [q2]; exact m4 q1) h9 | exact k2.mpr q3 h21 | exact k3.mpr q4 h35))
    · refine go_iload_n 3 d_Mo_put_24 rfl rfl ?_
      refine go_i2l d_Mo_put_25 (rfl) ?_
      refine go_ldc2 d_Mo_put_26 i_Mo_92 ?_
      refine go_ldc2 d_Mo_put_29 i_Mo_94 ?_
      refine go_S3 d_Mo_put_32 k_Mo_86 (Nat.le_of_ble_eq_true rfl) (c_Mo_in (l := -1000) (h := 1000) rfl rfl (fun b3 k3 z3 => ?_))
      refine go_if_ne 40 d_Mo_put_35 rfl (fun h35 => ?_) (fun h35 => ?_)
      · obtain ⟨k, hk, rfl⟩ := m4' (k1.mp h9)
        obtain ⟨y0, y14⟩ := k2.mp h21
        obtain ⟨kd, hkd, rfl⟩ := nI_of2 (n := 14) (by decide) (Int32.not_lt.mpr y0) y14
        have hm := hc k hk
        have g0 : I 534 k = nI (U k).1.length := hm.1
        have gl : (U k).1.length ≤ 24 := hm.2.1
        refine go_aload_n 0 d_Mo_put_40 rfl rfl ?_
        refine go_getR d_Mo_put_41 f_Mo_7 (by assumption) (by assumption) ?_
        refine go_iload_n 1 d_Mo_put_44 rfl rfl ?_
        refine go_iald (k) d_Mo_put_45 (by assumption) (rfl) (by omega) (by decide) ?_
        refine go_bipush (v := 24) d_Mo_put_46 rfl ?_
        refine go_icmp_ne 53 d_Mo_put_48 rfl (fun h48 => ?_) (fun h48 => ?_)
        · have hlen : (U k).1.length < 24 := by rcases Nat.lt_or_ge (U k).1.length 24 with h | h; exact h; exact absurd (by rw [g0, show (U k).1.length = 24 by omega]; rfl) h48
          refine go_aload_n 0 d_Mo_put_53 rfl rfl ?_
          refine go_getR d_Mo_put_54 f_Mo_13 (by assumption) (by assumption) ?_
          refine go_bipush (v := 24) d_Mo_put_57 rfl ?_
          refine go_iload_n 1 d_Mo_put_59 rfl rfl ?_
          refine go_imul d_Mo_put_60 ?_
          refine go_aload_n 0 d_Mo_put_61 rfl rfl ?_
          refine go_getR d_Mo_put_62 f_Mo_7 (by assumption) (by assumption) ?_
          refine go_iload_n 1 d_Mo_put_65 rfl rfl ?_
          refine go_iald (k) d_Mo_put_66 (by assumption) (rfl) (by omega) (by decide) ?_
          refine go_iadd d_Mo_put_67 ?_
          refine go_iload_n 2 d_Mo_put_68 rfl rfl ?_
          refine go_iast (24 * k + (U k).1.length) d_Mo_put_69 (by assumption) (by rw [g0]; exact ix (a := 24)) (by omega) (by decide) ?_
          refine go_aload_n 0 d_Mo_put_70 rfl rfl ?_
          refine go_getR d_Mo_put_71 f_Mo_16 (by assumption) (by assumption) ?_
          refine go_bipush (v := 24) d_Mo_put_74 rfl ?_
          refine go_iload_n 1 d_Mo_put_76 rfl rfl ?_
          refine go_imul d_Mo_put_77 ?_
          refine go_aload_n 0 d_Mo_put_78 rfl rfl ?_
          refine go_getR d_Mo_put_79 f_Mo_7 (by assumption) (by assumption) ?_
          refine go_iload_n 1 d_Mo_put_82 rfl rfl ?_
          refine go_iald (k) d_Mo_put_83 (by assumption) (rfl) (by omega) (by decide) ?_
          refine go_iadd d_Mo_put_84 ?_
          refine go_iload_n 3 d_Mo_put_85 rfl rfl ?_
          refine go_iast (24 * k + (U k).1.length) d_Mo_put_86 (by assumption) (by rw [gw_up_ne (by decide), g0]; exact ix (a := 24)) (by omega) (by decide) ?_
          refine go_aload_n 0 d_Mo_put_87 rfl rfl ?_
          refine go_getR d_Mo_put_88 f_Mo_7 (by assumption) (by assumption) ?_
          refine go_iload_n 1 d_Mo_put_91 rfl rfl ?_
          refine go_dup2 d_Mo_put_92 rfl rfl ?_
          refine go_iald (k) d_Mo_put_93 (by assumption) (rfl) (by omega) (by decide) ?_
          refine go_iconst (v := 1) d_Mo_put_94 rfl ?_
          refine go_iadd d_Mo_put_95 ?_
          refine go_iast (k) d_Mo_put_96 (by assumption) (rfl) (by omega) (by decide) ?_
          refine go_aload_n 0 d_Mo_put_97 rfl rfl ?_
          refine go_iload_n 1 d_Mo_put_98 rfl rfl ?_
          refine go_V1 d_Mo_put_99 k_Mo_96 (by assumption) (Nat.le_of_ble_eq_true rfl) (c_Mo_changed (U := va_up U k ((U k).1 ++ [(kd, z)], (U k).2)) hp0 ?hU hk (fun I4 e1 e2 => ?_))
          case hU =>
            intro m hm2
            by_cases he : m = k
            · subst he
              rw [gw_up_eq]
              refine ⟨?_, by rw [List.length_append]; exact hlen, fun j t ht => ?_, ?_, ?_, hm.2.2.2.2.2.1, fun i c hh => ⟨?_, ?_⟩⟩
              · simp (disch := omega) only [up2_eq, up2_ne]; rw [g0, List.length_append, nI_1]; rfl
              · rcases ap_or ht with ⟨h1, h2⟩ | ⟨rfl, rfl⟩
                · have := hm.2.2.1 j t h2; simp (disch := omega) only [up2_eq, up2_ne]; exact this
                · exact ⟨by simp (disch := omega) only [up2_eq, up2_ne], by simp (disch := omega) only [up2_eq, up2_ne], by omega⟩
              · simp (disch := omega) only [up2_eq, up2_ne]; exact hm.2.2.2.1
              · simp (disch := omega) only [up2_eq, up2_ne]; exact hm.2.2.2.2.1
              · simp (disch := omega) only [up2_eq, up2_ne]; exact (hm.2.2.2.2.2.2 i c hh).1
              · exact (hm.2.2.2.2.2.2 i c hh).2.ptw (mu_eq.row (fun q u v => by rw [gw_up_ne (by omega), gw_up_ne (by omega), gw_up_ne (by omega)]))
            · rw [gw_up_ne he]
              exact (hc m hm2).ptw ⟨by simp (disch := omega) only [up2_eq, up2_ne], fun j hj => ⟨by simp (disch := omega) only [up2_eq, up2_ne], by simp (disch := omega) only [up2_eq, up2_ne]⟩⟩ (by simp (disch := omega) only [up2_eq, up2_ne]) (ms_eq.row (fun q u v => by rw [gw_up_ne (by omega), gw_up_ne (by omega), gw_up_ne (by omega)]))
          refine go_aload_n 0 d_Mo_put_102 rfl rfl ?_
          refine go_getR d_Mo_put_103 f_Mo_7 (by assumption) (by assumption) ?_
          refine go_iload_n 1 d_Mo_put_106 rfl rfl ?_
          refine go_iald (k) d_Mo_put_107 (by assumption) (rfl) (by omega) (by decide) ?_
          refine go_iconst (v := 1) d_Mo_put_108 rfl ?_
          refine go_isub d_Mo_put_109 ?_
          exact go_iret d_Mo_put_110 rfl (by rw [e2 534 (by decide), up2_eq, gw_up_ne (by decide), gw_up_ne (by decide), g0, nI_1, nI_pred]; exact hQ k kd hk rfl (by omega) rfl (k3.mp h35) hlen I4 e1 (fun q hq => by rw [e2 q (by omega), gw_up_ne (by omega), gw_up_ne (by omega), gw_up_ne (by omega)]))
        · refine go_iconst (v := (-1)) d_Mo_put_51 rfl ?_
          exact go_iret d_Mo_put_52 rfl (hf (fun ⟨k', q1, q2, q3, q4, q5⟩ => by have e := (nI_eq (by omega) (by omega)).mp q2; subst e; exact absurd ((nI_eq (b := 24) (by omega) (by decide)).mp (g0.symm.trans h48)) (by omega)))
      · refine go_iconst (v := (-1)) d_Mo_put_38 rfl ?_
        exact go_iret d_Mo_put_39 rfl (hf (fun ⟨k', q1, q2, q3, q4, q5⟩ => by first | exact k1.mpr (by rw [q2]; exact m4 q1) h9 | exact k2.mpr q3 h21 | exact k3.mpr q4 h35))
end MO
