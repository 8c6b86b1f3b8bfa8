/-! Checker.answerFor, CostChecker.check -/
theorem pt_Sy.kept {sh : Nat → Nat × Nat} {R R' : Nat → Nat → Option Nat} {o : Nat} (h : pt_Sy sh R o) (hq : R' o = R o) : pt_Sy sh R' o := by unfold pt_Sy; rw [hq]; exact h
theorem pt_Pa.kept {sh : Nat → Nat × Nat} {R R' : Nat → Nat → Option Nat} {o : Nat} (h : pt_Pa sh R o) (hq : ∀ q, o ≤ q → q < o + 13 → R' q = R q) : pt_Pa sh R' o := by
  unfold pt_Pa pt_Kn pt_Ba pt_Sy
  rw [hq o (by omega) (by omega), hq (o + 1) (by omega) (by omega), hq (o + 6) (by omega) (by omega), hq (o + 8) (by omega) (by omega), hq (o + 9) (by omega) (by omega), hq (o + 11) (by omega) (by omega)]
  exact h
theorem pt_Ch.put {sh : Nat → Nat × Nat} {R : Nat → Nat → Option Nat} {x : Option Nat} (h : pt_Ch sh R) : pt_Ch sh (va_up R 345 (va_up (R 345) 1 x)) := by
  obtain ⟨h1, h2, h3, h4, h5, h6, h7⟩ := h
  have hq : ∀ q, q ≠ 345 → va_up R 345 (va_up (R 345) 1 x) q = R q := fun q hq => gw_up_ne hq
  refine ⟨h1, h2, by rw [gw_up_eq, gw_up_ne (by decide)]; exact h3, by rw [gw_up_eq, gw_up_ne (by decide)]; exact h4, by rw [gw_up_eq, gw_up_ne (by decide)]; exact h5, h6.kept (hq _ (by decide)), fun i hi => ⟨by rw [hq _ (by decide)]; exact (h7 i hi).1, (h7 i hi).2.kept (fun q a b => hq q (by omega))⟩⟩
theorem cc_at.keptR {R R' : Nat → Nat → Option Nat} {I I' : Nat → Nat → Int32} {S : Nat → ab_Me} (h : cc_at R I S) (hR : ∀ q, q < 330 → R' q = R q) (hI : ∀ q, q < 330 → I' q = I q) : cc_at R' I' S := fun m hm => by obtain ⟨w, hw⟩ := h m hm; exact ⟨w, hw.kept (hR _ (by omega)) (fun q h1 h2 => hI q (by omega))⟩
section CK
variable {d n : Nat} {sh : Nat → Nat × Nat} {X : Nat × (Nat → Int32)} {R : Nat → Nat → Option Nat} {I : Nat → Nat → Int32} {L : Nat → Nat → Int64} {Q : Option Value → gw_Mem → Prop} {S : Nat → ab_Me} {m : Nat}
theorem c_Ch_answerFor (hcc : pt_CC sh R) (hch : pt_Ch sh R) (hm : m < 4) (hS : st_ok S) (hc : cc_at R I S) (hQ : ∀ R' I' L', (∀ q, q ≠ 345 → R' q = R q) → pt_Ch sh R' → (∀ q, q < 345 ∨ 532 ≤ q → I' q = I q) → (∀ q, q < 345 ∨ 532 ≤ q → L' q = L q) → Q (some (.int (ce_ans S m))) (n, sh, X, R', I', L')) : gw_Call y_Ch_answerFor (d + 31) 0 0 [.ref 345, .ref (2 + 82 * m)] (n, sh, X, R, I, L) Q := by
  have s345 := hch.1
  obtain ⟨hr1, hme⟩ := hcc.2.2.2 m hm
  obtain ⟨sm, sm1, sm2, sm3, rm1, rm2, rm4, hcu⟩ := hme
  obtain ⟨w, g1, hco, hcs, g6⟩ := hc m hm
  have hl24 := hco.2.1
  have hco1 := hco.1
  have hl6 := hcs.2.1
  have hcs1 := hcs.1
  refine gw_call o_Ch_answerFor (Nat.le_of_ble_eq_true rfl) ?_
  by_cases h0 : (S m).1.length = 0
  · have hr : ce_ans S m = 2 := if_pos h0
    rw [hr] at hQ
    refine go_aload_n 1 d_Ch_answerFor_0 rfl rfl ?_
    refine go_getI d_Ch_answerFor_1 f_Ch_33 (by assumption) ?_
    rw [hco1]
    refine go_if_ne 9 d_Ch_answerFor_4 rfl (fun hn => absurd hn (fun h => h (by rw [h0]; rfl))) (fun _ => ?_)
    refine go_iconst (v := 2) d_Ch_answerFor_7 rfl ?_
    exact go_iret d_Ch_answerFor_8 rfl (hQ R I L (fun _ _ => rfl) hch (fun _ _ => rfl) (fun _ _ => rfl))
  have hr : ce_ans S m = ce_cuts S m (S m).2.1 := if_neg h0
  rw [hr] at hQ
  have hRq : ∀ q, q ≠ 345 → va_up R 345 (va_up (R 345) 1 (some (2 + 82 * m))) q = R q := fun q hq => gw_up_ne hq
  have hR1 : va_up R 345 (va_up (R 345) 1 (some (2 + 82 * m))) 345 1 = some (2 + 82 * m) := by rw [gw_up_eq, gw_up_eq]
  have hch' := hch.put (x := some (2 + 82 * m))
  generalize hRR : va_up R 345 (va_up (R 345) 1 (some (2 + 82 * m))) = R1 at hRq hR1 hch'
  have hcc' : pt_CC sh R1 := hcc.kept (fun q h1 h2 => hRq q (by omega))
  have rm4' : R1 (2 + 82 * m) 4 = some (2 + 82 * m + 3) := by rw [hRq _ (by omega)]; exact rm4
  have loop : ∀ (ts : List (Nat × ab_Cu)) (i : Nat) (x : Int32) (I1 : Nat → Nat → Int32) (L1 : Nat → Nat → Int64) (o3 : Option Value), x = nI i → i ≤ (S m).2.1.length → (S m).2.1.drop i = ts → ce_cuts S m (S m).2.1 = ce_cuts S m ts → (∀ q, q < 345 ∨ 532 ≤ q → I1 q = I q) → (∀ q, q < 345 ∨ 532 ≤ q → L1 q = L q) → gw_Go y_Ch_answerFor (d + 31) 0 0 16 [some (.ref 345), some (.ref (2 + 82 * m)), some (.int x), o3] [] (n, sh, X, R1, I1, L1) Q := by
    intro ts
    induction ts with
    | nil =>
      intro i x I1 L1 o3 hx hi hd hl fI fL
      have hi2 := gw_dropE hd
      have hr2 : ce_cuts S m (S m).2.1 = 0 := hl
      rw [hr2] at hQ
      refine go_iload_n 2 d_Ch_answerFor_16 rfl rfl ?_
      refine go_aload_n 1 d_Ch_answerFor_17 rfl rfl ?_
      refine go_getI d_Ch_answerFor_18 f_Ch_39 (by assumption) ?_
      refine go_icmp_ge 60 d_Ch_answerFor_21 rfl (fun _ => ?_) (fun hn => absurd (by rw [fI _ (by omega), hcs1, hx]; exact nI_le hi2 (by omega)) hn)
      refine go_iconst (v := 0) d_Ch_answerFor_60 rfl ?_
      exact go_iret d_Ch_answerFor_61 rfl (hQ R1 I1 L1 hRq hch' fI fL)
    | cons c ts ih =>
      intro i x I1 L1 o3 hx hi hd hl fI fL
      obtain ⟨hi2, ht, hn⟩ := gw_drop hd
      have hwi := hcs.2.2.1 i (by omega)
      have rci : R1 (2 + 82 * m + 3) i = some (2 + 82 * m + 4 + 13 * w i) := by rw [hRq _ (by omega)]; exact hcs.2.2.2.2.1 i (by omega)
      have hci := hcs.2.2.2.2.2 i c ht
      have zc : sh (2 + 82 * m + 4 + 13 * w i) = (0, 2) := (hcu _ hwi).1
      have hcu' : pt_Cu sh R1 (2 + 82 * m + 4 + 13 * w i) := (hcc'.2.2.2 m hm).2.2.2.2.2.2.2.2 (w i) hwi
      have hl2 : ce_cuts S m (S m).2.1 = if ce_cut S m c = 0 then ce_cuts S m ts else 100 * nI c.1 + ce_cut S m c := hl
      refine go_iload_n 2 d_Ch_answerFor_16 rfl rfl ?_
      refine go_aload_n 1 d_Ch_answerFor_17 rfl rfl ?_
      refine go_getI d_Ch_answerFor_18 f_Ch_39 (by assumption) ?_
      refine go_icmp_ge 60 d_Ch_answerFor_21 rfl (fun hn => absurd hn (by rw [fI _ (by omega), hcs1, hx]; exact nI_ge hi2 (by omega))) (fun _ => ?_)
      refine go_aload_n 0 d_Ch_answerFor_24 rfl rfl ?_
      refine go_aload_n 1 d_Ch_answerFor_25 rfl rfl ?_
      refine go_getR d_Ch_answerFor_26 f_Ch_42 (by assumption) (by assumption) ?_
      refine go_iload_n 2 d_Ch_answerFor_29 rfl rfl ?_
      refine go_aald (t := 1) (i) d_Ch_answerFor_30 (by assumption) (by decide) (hx) (by omega) (by decide) (by assumption) ?_
      refine go_V1 d_Ch_answerFor_31 k_Ch_46 (by assumption) (Nat.le_of_ble_eq_true rfl) (c_Ch_reasonAtCut hcc' hch' hm hR1 hS (hc.keptR (fun q hq => hRq q (by omega)) (fun q hq => fI q (by omega))) (by omega) hcu' (hci.kept (fun q h1 h2 => fI q (by omega))) (fun I2 L2 k1 k2 => ?_))
      refine go_istore_n 3 d_Ch_answerFor_34 rfl (Nat.le_of_ble_eq_true rfl) ?_
      refine go_iload_n 3 d_Ch_answerFor_35 rfl rfl ?_
      refine go_if_eq 54 d_Ch_answerFor_36 rfl (fun h36 => ?_) (fun h36 => ?_)
      · rw [if_pos h36] at hl2; refine go_iinc d_Ch_answerFor_54 rfl rfl (Nat.le_of_ble_eq_true rfl) ?_; refine go_goto 16 d_Ch_answerFor_57 rfl ?_; exact ih (i + 1) _ I2 L2 _ (gw_inc hx) (by omega) hn hl2 (fun q hq => by rw [k1 q hq, fI q hq]) (fun q hq => by rw [k2 q hq, fL q hq])
      · rw [if_neg h36] at hl2
        rw [hl2] at hQ
        refine go_bipush (v := 100) d_Ch_answerFor_39 rfl ?_
        refine go_aload_n 1 d_Ch_answerFor_41 rfl rfl ?_
        refine go_getR d_Ch_answerFor_42 f_Ch_42 (by assumption) (by assumption) ?_
        refine go_iload_n 2 d_Ch_answerFor_45 rfl rfl ?_
        refine go_aald (t := 1) (i) d_Ch_answerFor_46 (by assumption) (by decide) (hx) (by omega) (by decide) (by assumption) ?_
        refine go_getI d_Ch_answerFor_47 f_Ch_50 (by assumption) ?_
        rw [show I2 (2 + 82 * m + 4 + 13 * w i) 0 = nI c.1 by rw [k1 _ (by omega), fI _ (by omega)]; exact hci.1]
        refine go_imul d_Ch_answerFor_50 ?_
        refine go_iload_n 3 d_Ch_answerFor_51 rfl rfl ?_
        refine go_iadd d_Ch_answerFor_52 ?_
        exact go_iret d_Ch_answerFor_53 rfl (hQ R1 I2 L2 hRq hch' (fun q hq => by rw [k1 q hq, fI q hq]) (fun q hq => by rw [k2 q hq, fL q hq]))
  refine go_aload_n 1 d_Ch_answerFor_0 rfl rfl ?_
  refine go_getI d_Ch_answerFor_1 f_Ch_33 (by assumption) ?_
  rw [hco1]
  refine go_if_ne 9 d_Ch_answerFor_4 rfl (fun _ => ?_) (fun hn => by first | exact absurd hn (nI_ne0 (Nat.pos_of_ne_zero h0) (by omega)) | exact absurd (nI_ne0 (Nat.pos_of_ne_zero h0) (by omega)) hn)
  refine go_aload_n 0 d_Ch_answerFor_9 rfl rfl ?_
  refine go_aload_n 1 d_Ch_answerFor_10 rfl rfl ?_
  refine go_putR d_Ch_answerFor_11 f_Ch_28 (by assumption) ?_
  rw [hRR]
  refine go_iconst (v := 0) d_Ch_answerFor_14 rfl ?_
  refine go_istore_n 2 d_Ch_answerFor_15 rfl (Nat.le_of_ble_eq_true rfl) ?_
  exact loop _ 0 _ I L _ rfl (by omega) rfl rfl (fun _ _ => rfl) (fun _ _ => rfl)
end CK
