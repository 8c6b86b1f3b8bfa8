/-! CostChecker itself: the four methods, what changes of them do -/
/-- a method: code, cuts by ascending places, accepted -/
abbrev ab_Me : Type := List (Nat × Int32) × List (Nat × ab_Cu) × Bool
def me_at (R : Nat → Nat → Option Nat) (I : Nat → Nat → Int32) (m : Nat) (w : Nat → Nat) (A : ab_Me) : Prop := I (2 + 82 * m) 0 = nI m ∧ co_at I (2 + 82 * m) A.1 ∧ cs_at R I (2 + 82 * m) w A.2.1 ∧ I (2 + 82 * m) 6 = bI A.2.2
theorem co_at.kept {I I' : Nat → Nat → Int32} {o : Nat} {l : List (Nat × Int32)} (h : co_at I o l) (h0 : I' o 3 = I o 3) (h1 : I' (o + 1) = I (o + 1)) (h2 : I' (o + 2) = I (o + 2)) : co_at I' o l := ⟨h0.trans h.1, h.2.1, fun j t ht => by rw [h1, h2]; exact h.2.2 j t ht⟩
theorem cs_at.kept {R R' : Nat → Nat → Option Nat} {I I' : Nat → Nat → Int32} {o : Nat} {w : Nat → Nat} {l : List (Nat × ab_Cu)} (h : cs_at R I o w l) (h0 : I' o 5 = I o 5) (hR : R' (o + 3) = R (o + 3)) (hI : ∀ q, o + 4 ≤ q → q < o + 82 → I' q = I q) : cs_at R' I' o w l := by
  obtain ⟨h1, h2, h3, h4, h5, h6⟩ := h
  refine ⟨h0.trans h1, h2, h3, h4, fun i hi => by rw [hR]; exact h5 i hi, fun i c hc => (h6 i c hc).kept (fun q a b => ?_)⟩
  have := (List.getElem?_eq_some_iff.mp hc).1
  have := h3 i (by omega)
  exact hI q (by omega) (by omega)
theorem me_at.kept {R R' : Nat → Nat → Option Nat} {I I' : Nat → Nat → Int32} {m : Nat} {w : Nat → Nat} {A : ab_Me} (h : me_at R I m w A) (hR : R' (2 + 82 * m + 3) = R (2 + 82 * m + 3)) (hI : ∀ q, 2 + 82 * m ≤ q → q < 2 + 82 * m + 82 → I' q = I q) : me_at R' I' m w A := by
  have e := hI (2 + 82 * m) (by omega) (by omega)
  exact ⟨by rw [e]; exact h.1, h.2.1.kept (by rw [e]) (hI _ (by omega) (by omega)) (hI _ (by omega) (by omega)), h.2.2.1.kept (by rw [e]) hR (fun q a b => hI q (by omega) (by omega)), by rw [e]; exact h.2.2.2⟩
def cc_at (R : Nat → Nat → Option Nat) (I : Nat → Nat → Int32) (S : Nat → ab_Me) : Prop := ∀ m, m < 4 → ∃ w, me_at R I m w (S m)
def pt_CC (sh : Nat → Nat × Nat) (R : Nat → Nat → Option Nat) : Prop := sh 0 = (0, 0) ∧ sh 1 = (0 + 4, 4) ∧ R 0 0 = some 1 ∧ ∀ m, m < 4 → R 1 m = some (2 + 82 * m) ∧ pt_Me sh R (2 + 82 * m)
theorem pt_CC.kept {sh : Nat → Nat × Nat} {R R' : Nat → Nat → Option Nat} (h : pt_CC sh R) (hq : ∀ q, q < 330 → (∀ m, m < 4 → q ≠ 2 + 82 * m + 3) → R' q = R q) : pt_CC sh R' := by
  obtain ⟨h1, h2, h3, h4⟩ := h
  have e0 := hq 0 (by omega) (fun m _ => by omega)
  have e1 := hq 1 (by omega) (fun m _ => by omega)
  exact ⟨h1, h2, by rw [e0]; exact h3, fun m hm => ⟨by rw [e1]; exact (h4 m hm).1, (h4 m hm).2.kept (fun q a b c => hq q (by omega) (fun j hj => by omega))⟩⟩
/-- method k is another; the rest stays -/
theorem cc_at.one {R R' : Nat → Nat → Option Nat} {I I' : Nat → Nat → Int32} {S : Nat → ab_Me} {k : Nat} {w : Nat → Nat} {A : ab_Me} (h : cc_at R I S) (hk : me_at R' I' k w A) (hR : ∀ q, q ≠ 2 + 82 * k + 3 → R' q = R q) (hI : ∀ q, q < 2 + 82 * k ∨ 2 + 82 * k + 82 ≤ q → I' q = I q) : cc_at R' I' (va_up S k A) := by
  intro m hm
  by_cases he : m = k
  · subst he
    rw [gw_up_eq]
    exact ⟨w, hk⟩
  · rw [gw_up_ne he]
    obtain ⟨w', h'⟩ := h m hm
    exact ⟨w', h'.kept (hR _ (by omega)) (fun q a b => hI q (by omega))⟩
/-- a change of method k takes the acceptance of it and of those above away -/
def cc_chg (k : Nat) (S : Nat → ab_Me) : Nat → ab_Me := fun j => if k ≤ j then ((S j).1, (S j).2.1, false) else S j
theorem cc_at.chg {R : Nat → Nat → Option Nat} {I I' : Nat → Nat → Int32} {S : Nat → ab_Me} {k : Nat} (h : cc_at R I S) (h0 : ∀ q j, (j ≠ 6 ∨ ∀ i, k ≤ i → i < 4 → q ≠ 2 + 82 * i) → I' q j = I q j) (h1 : ∀ i, k ≤ i → i < 4 → I' (2 + 82 * i) 6 = 0) : cc_at R I' (cc_chg k S) := by
  intro m hm
  obtain ⟨w, g1, g2, g3, g4⟩ := h m hm
  have er : ∀ q, 2 + 82 * m < q → q < 2 + 82 * m + 82 → I' q = I q := fun q a b => by
    funext j
    exact h0 q j (Or.inr (fun i _ _ => by omega))
  refine ⟨w, ?_⟩
  unfold cc_chg
  by_cases hk : k ≤ m
  · rw [if_pos hk]
    exact ⟨by rw [h0 _ _ (Or.inl (by decide))]; exact g1, g2.kept (h0 _ _ (Or.inl (by decide))) (er _ (by omega) (by omega)) (er _ (by omega) (by omega)), g3.kept (h0 _ _ (Or.inl (by decide))) rfl (fun q a b => er q (by omega) (by omega)), h1 m hk hm⟩
  · rw [if_neg hk]
    have e6 : I' (2 + 82 * m) 6 = I (2 + 82 * m) 6 := h0 _ _ (Or.inr (fun i a _ => by omega))
    exact ⟨by rw [h0 _ _ (Or.inl (by decide))]; exact g1, g2.kept (h0 _ _ (Or.inl (by decide))) (er _ (by omega) (by omega)) (er _ (by omega) (by omega)), g3.kept (h0 _ _ (Or.inl (by decide))) rfl (fun q a b => er q (by omega) (by omega)), e6.trans g4⟩
section CC
variable {d n : Nat} {sh : Nat → Nat × Nat} {X : Nat × (Nat → Int32)} {R : Nat → Nat → Option Nat} {I : Nat → Nat → Int32} {L : Nat → Nat → Int64} {Q : Option Value → gw_Mem → Prop}
theorem c_CC_methodAt {x : Int32} (hp : pt_CC sh R) (hN : ¬ (∃ k, k < 4 ∧ x = nI k) → Q (some .null) (n, sh, X, R, I, L)) (hS : ∀ k, k < 4 → x = nI k → Q (some (.ref (2 + 82 * k))) (n, sh, X, R, I, L)) : gw_Call y_CC_methodAt d 0 0 [.ref 0, .int x] (n, sh, X, R, I, L) Q := by
  obtain ⟨s0, s1, r0, hm⟩ := hp
  refine gw_call o_CC_methodAt (Nat.le_of_ble_eq_true rfl) ?_
  refine go_iload_n 1 d_CC_methodAt_0 rfl rfl ?_
  refine go_if_lt 18 d_CC_methodAt_1 rfl (fun h1 => ?_) (fun h1 => ?_)
  · refine go_null d_CC_methodAt_18 ?_
    first | exact go_aret d_CC_methodAt_19 rfl (hS k hk4 e) | exact go_nret d_CC_methodAt_19 rfl (hN (fun ⟨k, hk, e⟩ => absurd h6 (by rw [e]; exact nI_ge hk (by decide)))) | exact go_nret d_CC_methodAt_19 rfl (hN (fun ⟨k, hk, e⟩ => absurd h1 (by rw [e]; exact nI_pos (by omega))))
  · refine go_iload_n 1 d_CC_methodAt_4 rfl rfl ?_
    refine go_iconst (v := 4) d_CC_methodAt_5 rfl ?_
    refine go_icmp_ge 18 d_CC_methodAt_6 rfl (fun h6 => ?_) (fun h6 => ?_)
    · refine go_null d_CC_methodAt_18 ?_
      first | exact go_aret d_CC_methodAt_19 rfl (hS k hk4 e) | exact go_nret d_CC_methodAt_19 rfl (hN (fun ⟨k, hk, e⟩ => absurd h6 (by rw [e]; exact nI_ge hk (by decide)))) | exact go_nret d_CC_methodAt_19 rfl (hN (fun ⟨k, hk, e⟩ => absurd h1 (by rw [e]; exact nI_pos (by omega))))
    · obtain ⟨k, hk, e⟩ := nI_of h1
      have hk4 : k < 4 := Nat.not_le.mp (fun hh => h6 (by rw [e]; exact nI_le hh hk))
      have hr := (hm k hk4).1
      refine go_aload_n 0 d_CC_methodAt_9 rfl rfl ?_
      refine go_getR d_CC_methodAt_10 f_CC_14 (by assumption) (by assumption) ?_
      refine go_iload_n 1 d_CC_methodAt_13 rfl rfl ?_
      refine go_aald (t := 0) (k) d_CC_methodAt_14 (by assumption) (by decide) (e) (hk4) (by decide) (by assumption) ?_
      refine go_goto 19 d_CC_methodAt_15 rfl ?_
      first | exact go_aret d_CC_methodAt_19 rfl (hS k hk4 e) | exact go_nret d_CC_methodAt_19 rfl (hN (fun ⟨k, hk, e⟩ => absurd h6 (by rw [e]; exact nI_ge hk (by decide)))) | exact go_nret d_CC_methodAt_19 rfl (hN (fun ⟨k, hk, e⟩ => absurd h1 (by rw [e]; exact nI_pos (by omega))))
theorem c_CC_noteChange {k : Nat} {b : Bool} (hp : pt_CC sh R) (hk : k < 4) (hf : b = false → Q (some (.int 0)) (n, sh, X, R, I, L)) (hQ : b = true → ∀ I', (∀ q j, (j ≠ 6 ∨ ∀ i, k ≤ i → i < 4 → q ≠ 2 + 82 * i) → I' q j = I q j) → (∀ i, k ≤ i → i < 4 → I' (2 + 82 * i) 6 = 0) → Q (some (.int 1)) (n, sh, X, R, I', L)) : gw_Call y_CC_noteChange d 0 0 [.ref 0, .int (nI k), .int (bI b)] (n, sh, X, R, I, L) Q := by
  obtain ⟨s0, s1, r0, hm⟩ := hp
  refine gw_call o_CC_noteChange (Nat.le_of_ble_eq_true rfl) ?_
  cases b with
  | false =>
    refine go_iload_n 2 d_CC_noteChange_0 rfl rfl ?_
    refine go_if_eq 27 d_CC_noteChange_1 rfl (fun _ => ?_) (fun hn => absurd (rfl) hn)
    refine go_iload_n 2 d_CC_noteChange_27 rfl rfl ?_
    exact go_zret d_CC_noteChange_28 rfl (by first | exact Or.inl rfl | exact Or.inr rfl | assumption) (hf rfl)
  | true =>
    have loop : ∀ (r i : Nat) (z : Int32) (I1 : Nat → Nat → Int32), z = nI i → k ≤ i → i + r = 4 → (∀ q j, (j ≠ 6 ∨ ∀ i', k ≤ i' → i' < i → q ≠ 2 + 82 * i') → I1 q j = I q j) → (∀ i', k ≤ i' → i' < i → I1 (2 + 82 * i') 6 = 0) → gw_Go y_CC_noteChange d 0 0 6 [some (.ref 0), some (.int (nI k)), some (.int (bI true)), some (.int z)] [] (n, sh, X, R, I1, L) Q := by
      intro r
      induction r with
      | zero =>
        intro i z I1 hz hki hi h0 h1
        have hi4 : i = 4 := by omega
        subst hi4
        refine go_iload_n 3 d_CC_noteChange_6 rfl rfl ?_
        refine go_iconst (v := 4) d_CC_noteChange_7 rfl ?_
        refine go_icmp_ge 27 d_CC_noteChange_8 rfl (fun _ => ?_) (fun hn => absurd (by rw [hz]; decide) hn)
        refine go_iload_n 2 d_CC_noteChange_27 rfl rfl ?_
        exact go_zret d_CC_noteChange_28 rfl (by first | exact Or.inl rfl | exact Or.inr rfl | assumption) (hQ rfl I1 h0 h1)
      | succ r ih =>
        intro i z I1 hz hki hi h0 h1
        have hr := (hm i (by omega)).1
        have sm := (hm i (by omega)).2.1
        refine go_iload_n 3 d_CC_noteChange_6 rfl rfl ?_
        refine go_iconst (v := 4) d_CC_noteChange_7 rfl ?_
        refine go_icmp_ge 27 d_CC_noteChange_8 rfl (fun hn => absurd hn (by rw [hz]; exact nI_ge (b := 4) (by omega) (by decide))) (fun _ => ?_)
        refine go_aload_n 0 d_CC_noteChange_11 rfl rfl ?_
        refine go_getR d_CC_noteChange_12 f_CC_14 (by assumption) (by assumption) ?_
        refine go_iload_n 3 d_CC_noteChange_15 rfl rfl ?_
        refine go_aald (t := 0) (i) d_CC_noteChange_16 (by assumption) (by decide) (hz) (by omega) (by decide) (by assumption) ?_
        refine go_iconst (v := 0) d_CC_noteChange_17 rfl ?_
        refine go_putZ d_CC_noteChange_18 f_CC_96 (by assumption) (by first | exact Or.inl rfl | exact Or.inr rfl | assumption) ?_
        refine go_iinc d_CC_noteChange_21 rfl rfl (Nat.le_of_ble_eq_true rfl) ?_
        refine go_goto 6 d_CC_noteChange_24 rfl ?_
        exact ih (i + 1) _ _ (gw_inc hz) (by omega) (by omega) (fun q j h => by by_cases hq : q = 2 + 82 * i; (subst hq; rw [gw_up_eq]; rcases h with h | h; (rw [gw_up_ne h]; exact h0 _ _ (Or.inl h)); exact absurd rfl (h i hki (by omega))); (rw [gw_up_ne hq]; exact h0 q j (h.elim Or.inl (fun g => Or.inr (fun i' a b => g i' a (by omega)))))) (fun i' a b => by by_cases he : i' = i; (subst he; rw [gw_up_eq, gw_up_eq]); (rw [gw_up_ne (by omega)]; exact h1 i' a (by omega)))
    refine go_iload_n 2 d_CC_noteChange_0 rfl rfl ?_
    refine go_if_eq 27 d_CC_noteChange_1 rfl (fun hn => absurd hn (by decide)) (fun _ => ?_)
    refine go_iload_n 1 d_CC_noteChange_4 rfl rfl ?_
    refine go_istore_n 3 d_CC_noteChange_5 rfl (Nat.le_of_ble_eq_true rfl) ?_
    exact loop (4 - k) k _ I rfl (Nat.le_refl _) (by omega) (fun q j _ => rfl) (fun i' a b => by omega)
end CC
