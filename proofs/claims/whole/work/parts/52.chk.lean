/-! CostChecker.check -/
theorem me_at.acc {R R' : Nat → Nat → Option Nat} {I : Nat → Nat → Int32} {m : Nat} {w : Nat → Nat} {A : ab_Me} {b : Bool} (h : me_at R I m w A) (hR : R' (2 + 82 * m + 3) = R (2 + 82 * m + 3)) : me_at R' (va_up I (2 + 82 * m) (va_up (I (2 + 82 * m)) 6 (bI b))) m w (A.1, A.2.1, b) := by
  obtain ⟨h1, h2, h3, h4⟩ := h
  exact ⟨by rw [gw_up_eq, gw_up_ne (by decide)]; exact h1, h2.kept (by rw [gw_up_eq, gw_up_ne (by decide)]) (gw_up_ne (by omega)) (gw_up_ne (by omega)), h3.kept (by rw [gw_up_eq, gw_up_ne (by decide)]) hR (fun q a b => gw_up_ne (by omega)), by rw [gw_up_eq, gw_up_eq]⟩
section CK
variable {d n : Nat} {sh : Nat → Nat × Nat} {X : Nat × (Nat → Int32)} {R : Nat → Nat → Option Nat} {I : Nat → Nat → Int32} {L : Nat → Nat → Int64} {Q : Option Value → gw_Mem → Prop} {S : Nat → ab_Me}
theorem c_CC_check {x : Int32} (hp : pt_CX sh R) (hch : pt_Ch sh R) (hS : st_ok S) (hc : cc_at R I S) (hf : ¬ (∃ k, k < 4 ∧ x = nI k) → Q (some (.int (-1))) (n, sh, X, R, I, L)) (hQ : ∀ k, k < 4 → x = nI k → ∀ R' I' L', cc_at R' I' (va_up S k ((S k).1, (S k).2.1, decide (ce_ans S k = 0))) → (∀ q, q ≠ 345 → R' q = R q) → pt_Ch sh R' → (∀ q, q < 2 ∨ (330 ≤ q ∧ q < 345) ∨ 532 ≤ q → I' q = I q) → (∀ q, q < 345 ∨ 532 ≤ q → L' q = L q) → Q (some (.int (ce_ans S k))) (n, sh, X, R', I', L')) : gw_Call y_CC_check (d + 32) 0 0 [.ref 0, .int x] (n, sh, X, R, I, L) Q := by
  obtain ⟨hcc, x1, x2, x3, x4, x5⟩ := hp
  have s0 := hcc.1
  have s345 := hch.1
  refine gw_call o_CC_check (Nat.le_of_ble_eq_true rfl) ?_
  refine go_aload_n 0 d_CC_check_0 rfl rfl ?_
  refine go_iload_n 1 d_CC_check_1 rfl rfl ?_
  refine go_V1 d_CC_check_2 k_CC_38 (by assumption) (Nat.le_of_ble_eq_true rfl) (c_CC_methodAt hcc (fun hno => ?_) (fun k hk hx => ?_))
  · skip
    refine go_astore_nN 2 d_CC_check_5 rfl (Nat.le_of_ble_eq_true rfl) ?_
    refine go_aload_nN 2 d_CC_check_6 rfl rfl ?_
    refine go_ifnonnullN d_CC_check_7 ?_
    refine go_iconst (v := (-1)) d_CC_check_10 rfl ?_
    exact go_iret d_CC_check_11 rfl (hf hno)
  · have sm := (hcc.2.2.2 k hk).2.1
    refine go_astore_n 2 d_CC_check_5 rfl (Nat.le_of_ble_eq_true rfl) ?_
    refine go_aload_n 2 d_CC_check_6 rfl rfl ?_
    refine go_ifnonnull 12 d_CC_check_7 rfl ?_
    refine go_aload_n 0 d_CC_check_12 rfl rfl ?_
    refine go_getR d_CC_check_13 f_CC_30 (by assumption) (by assumption) ?_
    refine go_aload_n 2 d_CC_check_16 rfl rfl ?_
    refine go_V1 d_CC_check_17 k_CC_92 (by assumption) (Nat.le_of_ble_eq_true rfl) (c_Ch_answerFor hcc hch hk hS hc (fun R1 I1 L1 r1 r2 f1 f2 => ?_))
    refine go_istore_n 3 d_CC_check_20 rfl (Nat.le_of_ble_eq_true rfl) ?_
    have fin : ∀ b : Bool, b = decide (ce_ans S k = 0) → gw_Go y_CC_check (d + 32) 0 0 31 [some (.ref 0), some (.int x), some (.ref (2 + 82 * k)), some (.int (ce_ans S k))] [.int (bI b), .ref (2 + 82 * k)] (n, sh, X, R1, I1, L1) Q := by
      intro b hb
      obtain ⟨w, hw⟩ := hc k hk
      have h1 : me_at R1 (va_up I1 (2 + 82 * k) (va_up (I1 (2 + 82 * k)) 6 (bI b))) k w ((S k).1, (S k).2.1, b) := (hw.kept rfl (fun q a b => f1 q (by omega))).acc (r1 _ (by omega))
      have h01 := bI_01 b
      subst hb
      refine go_putZ d_CC_check_31 f_CC_96 (by assumption) (by first | exact Or.inl rfl | exact Or.inr rfl | assumption) ?_
      refine go_iload_n 3 d_CC_check_34 rfl rfl ?_
      exact go_iret d_CC_check_35 rfl (hQ k hk hx R1 _ L1 (cc_at.one (hc.keptR (R' := R1) (fun q hq => r1 q (by omega)) (I' := I1) (fun q hq => f1 q (by omega))) h1 (fun _ _ => rfl) (fun q hq => gw_up_ne (by omega))) r1 r2 (fun q hq => by rw [gw_up_ne (by omega), f1 q (by omega)]) f2)
    refine go_aload_n 2 d_CC_check_21 rfl rfl ?_
    refine go_iload_n 3 d_CC_check_22 rfl rfl ?_
    refine go_if_ne 30 d_CC_check_23 rfl (fun h23 => ?_) (fun h23 => ?_)
    · refine go_iconst (v := 0) d_CC_check_30 rfl ?_
      first | exact fin true (decide_eq_true h23).symm | exact fin false (decide_eq_false h23).symm
    · refine go_iconst (v := 1) d_CC_check_26 rfl ?_
      refine go_goto 31 d_CC_check_27 rfl ?_
      first | exact fin true (decide_eq_true h23).symm | exact fin false (decide_eq_false h23).symm
end CK
