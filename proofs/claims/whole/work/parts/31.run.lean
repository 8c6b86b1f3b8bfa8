/-! Machine: steps, whole runs -/
/-- an instruction cramps a stack of h values, or means a local or method that it may not -/
def rn_cr (len : Nat → Nat) (k : Nat) (nn : Int32) (m h : Nat) : Prop := h < rn_tk k ∨ 6 < h - rn_tk k + rn_pu k ∨ ((k = 1 ∨ k = 2) ∧ ¬ ∃ j, j < 4 ∧ nn = nI j) ∨ (k = 11 ∧ ¬ ∃ j, j < m ∧ nn = nI j ∧ len j ≠ 0)
theorem rn_tk_eq : ∀ k, k < 15 → gw_tk k = nI (rn_tk k) ∧ gw_pt k = nI (rn_pu k) ∧ rn_tk k ≤ 3 ∧ rn_pu k ≤ 1 := by decide +kernel
section IC
variable {d n : Nat} {sh : Nat → Nat × Nat} {X : Nat × (Nat → Int32)} {R : Nat → Nat → Option Nat} {I : Nat → Nat → Int32} {L : Nat → Nat → Int64} {Q : Option Value → gw_Mem → Prop} {S : Nat → ab_Me}
theorem c_CC_isCramped {m q k h : Nat} {nn : Int32} (hp : pt_CC sh R) (hc : cc_at R I S) (hm : m < 4) (hq : (S m).1[q]? = some (k, nn)) (hh : h ≤ 6) (hQ : ∀ b : Bool, (b = true ↔ rn_cr (fun j => (S j).1.length) k nn m h) → Q (some (.int (bI b))) (n, sh, X, R, I, L)) : gw_Call y_CC_isCramped (d + 1) 0 0 [.ref 1, .ref (2 + 82 * m), .int (nI q), .int (nI h)] (n, sh, X, R, I, L) Q := by
  have hp0 := hp
  obtain ⟨s0, s1, r0, hmm⟩ := hp
  obtain ⟨hr, hme⟩ := hmm m hm
  obtain ⟨sm, sm1, sm2, sm3, rm1, rm2, rm4, hcu⟩ := hme
  obtain ⟨w, g1, ⟨g2, g2', g2''⟩, g3, g4⟩ := hc m hm
  obtain ⟨b1, b2, b3⟩ := g2'' q (k, nn) hq
  dsimp only at b1 b2 b3
  have hql := (List.getElem?_eq_some_iff.mp hq).1
  obtain ⟨t1, t2, t3, t4⟩ := rn_tk_eq k b3
  refine gw_call o_CC_isCramped (Nat.le_of_ble_eq_true rfl) ?_
  refine go_aload_n 1 d_CC_isCramped_0 rfl rfl ?_
  refine go_getR d_CC_isCramped_1 f_CC_153 (by assumption) (by assumption) ?_
  refine go_iload_n 2 d_CC_isCramped_4 rfl rfl ?_
  refine go_iald (q) d_CC_isCramped_5 (by assumption) (rfl) (by omega) (by decide) ?_
  rw [b1]
  refine go_istore d_CC_isCramped_6 (Nat.le_of_ble_eq_true rfl) ?_
  refine go_aload_n 1 d_CC_isCramped_8 rfl rfl ?_
  refine go_getR d_CC_isCramped_9 f_CC_150 (by assumption) (by assumption) ?_
  refine go_iload_n 2 d_CC_isCramped_12 rfl rfl ?_
  refine go_iald (q) d_CC_isCramped_13 (by assumption) (rfl) (by omega) (by decide) ?_
  rw [b2]
  refine go_istore d_CC_isCramped_14 (Nat.le_of_ble_eq_true rfl) ?_
  refine go_iload_n 3 d_CC_isCramped_16 rfl rfl ?_
  refine go_getT d_CC_isCramped_17 f_CC_167 ?_
  refine go_iload d_CC_isCramped_20 rfl ?_
  refine go_tld (k) d_CC_isCramped_22 (rfl) (b3) ?_
  refine go_isub d_CC_isCramped_23 ?_
  refine go_istore d_CC_isCramped_24 (Nat.le_of_ble_eq_true rfl) ?_
  refine go_iload d_CC_isCramped_26 rfl ?_
  refine go_if_lt 45 d_CC_isCramped_28 rfl (fun h28 => ?_) (fun h28 => ?_)
  · refine go_iconst (v := 1) d_CC_isCramped_45 rfl ?_
    first | exact go_zret d_CC_isCramped_46 rfl (Or.inr rfl) (hQ true ⟨fun _ => Or.inl (Nat.not_le.mp (fun hle => by rw [t1, pk_sub hle] at h28; exact absurd h28 (nI_pos (by omega)))), fun _ => rfl⟩) | exact go_zret d_CC_isCramped_46 rfl (Or.inr rfl) (hQ true ⟨fun _ => by by_cases hle : rn_tk k ≤ h; (refine Or.inr (Or.inl (Nat.not_le.mp (fun h9 => h42 ?_))); rw [t1, t2, pk_sub hle, nI_add]; exact nI_le (b := 6) h9 (by decide)); exact Or.inl (by omega), fun _ => rfl⟩)
  · refine go_iload d_CC_isCramped_31 rfl ?_
    refine go_getP d_CC_isCramped_33 f_CC_170 ?_
    refine go_iload d_CC_isCramped_36 rfl ?_
    refine go_pld (k) d_CC_isCramped_38 (rfl) (b3) ?_
    refine go_iadd d_CC_isCramped_39 ?_
    refine go_bipush (v := 6) d_CC_isCramped_40 rfl ?_
    refine go_icmp_le 47 d_CC_isCramped_42 rfl (fun h42 => ?_) (fun h42 => ?_)
    · have hle : rn_tk k ≤ h := Nat.not_lt.mp (fun hl => h28 (by rw [t1]; exact pk_sneg (by omega) hl))
      have hfit : h - rn_tk k + rn_pu k ≤ 6 := by rw [t1, t2, pk_sub hle, nI_add] at h42; exact (nI_leI (b := 6) (by omega) (by decide)).mp h42
      refine go_iload d_CC_isCramped_47 rfl ?_
      refine go_iconst (v := 1) d_CC_isCramped_49 rfl ?_
      refine go_icmp_eq 59 d_CC_isCramped_50 rfl (fun h50 => ?_) (fun h50 => ?_)
      · refine go_iload d_CC_isCramped_59 rfl ?_
        refine go_iconst (v := 0) d_CC_isCramped_61 rfl ?_
        refine go_iconst (v := 3) d_CC_isCramped_62 rfl ?_
        refine go_S3 d_CC_isCramped_63 k_CC_42 (Nat.le_of_ble_eq_true rfl) (c_CC_isBetween (fun b hb => ?_))
        refine go_if_ne 73 d_CC_isCramped_66 rfl (fun h66 => ?_) (fun h66 => ?_)
        · refine go_iconst (v := 0) d_CC_isCramped_73 rfl ?_
          (have hk12 : k = 1 ∨ k = 2 := by first | exact Or.inl ((nI_eq (b := 1) (by omega) (by decide)).mp h50) | exact Or.inr ((nI_eq (b := 2) (by omega) (by decide)).mp h56)); (have hb4 : b = true ↔ ∃ j, j < 4 ∧ nn = nI j := hb.trans ⟨fun ⟨e1, e2⟩ => by obtain ⟨j, hj, e⟩ := nI_of2 (n := 3) (by decide) (Int32.not_lt.mpr e1) e2; exact ⟨j, by omega, e⟩, fun ⟨j, hj, e⟩ => ⟨by rw [e]; exact nI_pos' (by omega), by rw [e]; exact nI_le (b := 3) (by omega) (by decide)⟩⟩); first | exact go_zret d_CC_isCramped_74 rfl (Or.inl rfl) (hQ false ⟨fun h9 => (by cases h9), fun h9 => by rcases h9 with h9 | h9 | ⟨_, h9⟩ | ⟨h9, _⟩; omega; omega; exact absurd (hb4.mp (bI_n0.mp h66)) h9; omega⟩) | exact go_zret d_CC_isCramped_74 rfl (Or.inr rfl) (hQ true ⟨fun _ => Or.inr (Or.inr (Or.inl ⟨hk12, fun h9 => by rw [hb4.mpr h9] at h66; exact absurd h66 (by decide)⟩)), fun _ => rfl⟩)
        · refine go_iconst (v := 1) d_CC_isCramped_69 rfl ?_
          refine go_goto 74 d_CC_isCramped_70 rfl ?_
          (have hk12 : k = 1 ∨ k = 2 := by first | exact Or.inl ((nI_eq (b := 1) (by omega) (by decide)).mp h50) | exact Or.inr ((nI_eq (b := 2) (by omega) (by decide)).mp h56)); (have hb4 : b = true ↔ ∃ j, j < 4 ∧ nn = nI j := hb.trans ⟨fun ⟨e1, e2⟩ => by obtain ⟨j, hj, e⟩ := nI_of2 (n := 3) (by decide) (Int32.not_lt.mpr e1) e2; exact ⟨j, by omega, e⟩, fun ⟨j, hj, e⟩ => ⟨by rw [e]; exact nI_pos' (by omega), by rw [e]; exact nI_le (b := 3) (by omega) (by decide)⟩⟩); first | exact go_zret d_CC_isCramped_74 rfl (Or.inl rfl) (hQ false ⟨fun h9 => (by cases h9), fun h9 => by rcases h9 with h9 | h9 | ⟨_, h9⟩ | ⟨h9, _⟩; omega; omega; exact absurd (hb4.mp (bI_n0.mp h66)) h9; omega⟩) | exact go_zret d_CC_isCramped_74 rfl (Or.inr rfl) (hQ true ⟨fun _ => Or.inr (Or.inr (Or.inl ⟨hk12, fun h9 => by rw [hb4.mpr h9] at h66; exact absurd h66 (by decide)⟩)), fun _ => rfl⟩)
      · refine go_iload d_CC_isCramped_53 rfl ?_
        refine go_iconst (v := 2) d_CC_isCramped_55 rfl ?_
        refine go_icmp_ne 75 d_CC_isCramped_56 rfl (fun h56 => ?_) (fun h56 => ?_)
        · have hk1 : ¬ k = 1 := fun e => h50 (by rw [e]; rfl)
          have hk2 : ¬ k = 2 := fun e => h56 (by rw [e]; rfl)
          refine go_iload d_CC_isCramped_75 rfl ?_
          refine go_bipush (v := 11) d_CC_isCramped_77 rfl ?_
          refine go_icmp_ne 111 d_CC_isCramped_79 rfl (fun h79 => ?_) (fun h79 => ?_)
          · refine go_iconst (v := 0) d_CC_isCramped_111 rfl ?_; exact go_zret d_CC_isCramped_112 rfl (Or.inl rfl) (hQ false ⟨fun h9 => (by cases h9), fun h9 => by rcases h9 with h9 | h9 | ⟨h9, _⟩ | ⟨h9, _⟩; omega; omega; omega; exact absurd h9 (fun e => h79 (by rw [e]; rfl))⟩)
          · refine go_iload d_CC_isCramped_82 rfl ?_
            refine go_iconst (v := 0) d_CC_isCramped_84 rfl ?_
            refine go_aload_n 1 d_CC_isCramped_85 rfl rfl ?_
            refine go_getI d_CC_isCramped_86 f_CC_156 (by assumption) ?_
            refine go_iconst (v := 1) d_CC_isCramped_89 rfl ?_
            refine go_isub d_CC_isCramped_90 ?_
            rw [g1]
            refine go_S3 d_CC_isCramped_91 k_CC_42 (Nat.le_of_ble_eq_true rfl) (c_CC_isBetween (fun b hb => ?_))
            refine go_if_eq 107 d_CC_isCramped_94 rfl (fun h94 => ?_) (fun h94 => ?_)
            · refine go_iconst (v := 1) d_CC_isCramped_107 rfl ?_
              refine go_goto 112 d_CC_isCramped_108 rfl ?_
              first | exact go_zret d_CC_isCramped_112 rfl (Or.inl rfl) (hQ false ⟨fun h9 => (by cases h9), fun h9 => by rcases h9 with h9 | h9 | ⟨h9, _⟩ | ⟨_, h9⟩; omega; omega; omega; exact absurd ⟨j, hjm, rfl, fun e => h104 (by have e' : (S j).1.length = 0 := e; rw [e']; rfl)⟩ h9⟩) | exact go_zret d_CC_isCramped_112 rfl (Or.inr rfl) (hQ true ⟨fun _ => Or.inr (Or.inr (Or.inr ⟨hk11, fun ⟨j', e3, e4, e5⟩ => by have e6 := (nI_eq (by omega) (by omega)).mp e4; subst e6; exact absurd h104 (nI_ne0 (Nat.pos_of_ne_zero e5) (by omega))⟩)), fun _ => rfl⟩) | exact go_zret d_CC_isCramped_112 rfl (Or.inr rfl) (hQ true ⟨fun _ => Or.inr (Or.inr (Or.inr ⟨(nI_eq (b := 11) (by omega) (by decide)).mp h79, fun ⟨j', e3, e4, e5⟩ => by rw [hb.mpr ⟨by rw [e4]; exact nI_pos' (by omega), by rw [e4]; cases m with | zero => omega | succ m => rw [nI_pred]; exact nI_le (by omega) (by omega)⟩] at h94; exact absurd h94 (by decide)⟩)), fun _ => rfl⟩)
            · have hk11 : k = 11 := (nI_eq (b := 11) (by omega) (by decide)).mp h79
              obtain ⟨e1, e2⟩ := hb.mp (bI_n0.mp h94)
              obtain ⟨j, hj, rfl⟩ := nI_of (Int32.not_lt.mpr e1)
              have hjm : j < m := by cases m with | zero => exact absurd (Int32.le_trans e1 e2) (by decide) | succ m => rw [nI_pred] at e2; have := (nI_leI hj (by omega)).mp e2; omega
              have hrj := (hmm j (by omega)).1
              have smj := (hmm j (by omega)).2.1
              obtain ⟨wj, gj1, ⟨gj2, gj2', gj2''⟩, gj3, gj4⟩ := hc j (by omega)
              refine go_aload_n 0 d_CC_isCramped_97 rfl rfl ?_
              refine go_iload d_CC_isCramped_98 rfl ?_
              refine go_aald (t := 0) (j) d_CC_isCramped_100 (by assumption) (by decide) (rfl) (by omega) (by decide) (by assumption) ?_
              refine go_getI d_CC_isCramped_101 f_CC_54 (by assumption) ?_
              rw [gj2]
              refine go_if_ne 111 d_CC_isCramped_104 rfl (fun h104 => ?_) (fun h104 => ?_)
              · refine go_iconst (v := 0) d_CC_isCramped_111 rfl ?_
                first | exact go_zret d_CC_isCramped_112 rfl (Or.inl rfl) (hQ false ⟨fun h9 => (by cases h9), fun h9 => by rcases h9 with h9 | h9 | ⟨h9, _⟩ | ⟨_, h9⟩; omega; omega; omega; exact absurd ⟨j, hjm, rfl, fun e => h104 (by have e' : (S j).1.length = 0 := e; rw [e']; rfl)⟩ h9⟩) | exact go_zret d_CC_isCramped_112 rfl (Or.inr rfl) (hQ true ⟨fun _ => Or.inr (Or.inr (Or.inr ⟨hk11, fun ⟨j', e3, e4, e5⟩ => by have e6 := (nI_eq (by omega) (by omega)).mp e4; subst e6; exact absurd h104 (nI_ne0 (Nat.pos_of_ne_zero e5) (by omega))⟩)), fun _ => rfl⟩) | exact go_zret d_CC_isCramped_112 rfl (Or.inr rfl) (hQ true ⟨fun _ => Or.inr (Or.inr (Or.inr ⟨(nI_eq (b := 11) (by omega) (by decide)).mp h79, fun ⟨j', e3, e4, e5⟩ => by rw [hb.mpr ⟨by rw [e4]; exact nI_pos' (by omega), by rw [e4]; cases m with | zero => omega | succ m => rw [nI_pred]; exact nI_le (by omega) (by omega)⟩] at h94; exact absurd h94 (by decide)⟩)), fun _ => rfl⟩)
              · refine go_iconst (v := 1) d_CC_isCramped_107 rfl ?_
                refine go_goto 112 d_CC_isCramped_108 rfl ?_
                first | exact go_zret d_CC_isCramped_112 rfl (Or.inl rfl) (hQ false ⟨fun h9 => (by cases h9), fun h9 => by rcases h9 with h9 | h9 | ⟨h9, _⟩ | ⟨_, h9⟩; omega; omega; omega; exact absurd ⟨j, hjm, rfl, fun e => h104 (by have e' : (S j).1.length = 0 := e; rw [e']; rfl)⟩ h9⟩) | exact go_zret d_CC_isCramped_112 rfl (Or.inr rfl) (hQ true ⟨fun _ => Or.inr (Or.inr (Or.inr ⟨hk11, fun ⟨j', e3, e4, e5⟩ => by have e6 := (nI_eq (by omega) (by omega)).mp e4; subst e6; exact absurd h104 (nI_ne0 (Nat.pos_of_ne_zero e5) (by omega))⟩)), fun _ => rfl⟩) | exact go_zret d_CC_isCramped_112 rfl (Or.inr rfl) (hQ true ⟨fun _ => Or.inr (Or.inr (Or.inr ⟨(nI_eq (b := 11) (by omega) (by decide)).mp h79, fun ⟨j', e3, e4, e5⟩ => by rw [hb.mpr ⟨by rw [e4]; exact nI_pos' (by omega), by rw [e4]; cases m with | zero => omega | succ m => rw [nI_pred]; exact nI_le (by omega) (by omega)⟩] at h94; exact absurd h94 (by decide)⟩)), fun _ => rfl⟩)
        · refine go_iload d_CC_isCramped_59 rfl ?_
          refine go_iconst (v := 0) d_CC_isCramped_61 rfl ?_
          refine go_iconst (v := 3) d_CC_isCramped_62 rfl ?_
          refine go_S3 d_CC_isCramped_63 k_CC_42 (Nat.le_of_ble_eq_true rfl) (c_CC_isBetween (fun b hb => ?_))
          refine go_if_ne 73 d_CC_isCramped_66 rfl (fun h66 => ?_) (fun h66 => ?_)
          · refine go_iconst (v := 0) d_CC_isCramped_73 rfl ?_
            (have hk12 : k = 1 ∨ k = 2 := by first | exact Or.inl ((nI_eq (b := 1) (by omega) (by decide)).mp h50) | exact Or.inr ((nI_eq (b := 2) (by omega) (by decide)).mp h56)); (have hb4 : b = true ↔ ∃ j, j < 4 ∧ nn = nI j := hb.trans ⟨fun ⟨e1, e2⟩ => by obtain ⟨j, hj, e⟩ := nI_of2 (n := 3) (by decide) (Int32.not_lt.mpr e1) e2; exact ⟨j, by omega, e⟩, fun ⟨j, hj, e⟩ => ⟨by rw [e]; exact nI_pos' (by omega), by rw [e]; exact nI_le (b := 3) (by omega) (by decide)⟩⟩); first | exact go_zret d_CC_isCramped_74 rfl (Or.inl rfl) (hQ false ⟨fun h9 => (by cases h9), fun h9 => by rcases h9 with h9 | h9 | ⟨_, h9⟩ | ⟨h9, _⟩; omega; omega; exact absurd (hb4.mp (bI_n0.mp h66)) h9; omega⟩) | exact go_zret d_CC_isCramped_74 rfl (Or.inr rfl) (hQ true ⟨fun _ => Or.inr (Or.inr (Or.inl ⟨hk12, fun h9 => by rw [hb4.mpr h9] at h66; exact absurd h66 (by decide)⟩)), fun _ => rfl⟩)
          · refine go_iconst (v := 1) d_CC_isCramped_69 rfl ?_
            refine go_goto 74 d_CC_isCramped_70 rfl ?_
            (have hk12 : k = 1 ∨ k = 2 := by first | exact Or.inl ((nI_eq (b := 1) (by omega) (by decide)).mp h50) | exact Or.inr ((nI_eq (b := 2) (by omega) (by decide)).mp h56)); (have hb4 : b = true ↔ ∃ j, j < 4 ∧ nn = nI j := hb.trans ⟨fun ⟨e1, e2⟩ => by obtain ⟨j, hj, e⟩ := nI_of2 (n := 3) (by decide) (Int32.not_lt.mpr e1) e2; exact ⟨j, by omega, e⟩, fun ⟨j, hj, e⟩ => ⟨by rw [e]; exact nI_pos' (by omega), by rw [e]; exact nI_le (b := 3) (by omega) (by decide)⟩⟩); first | exact go_zret d_CC_isCramped_74 rfl (Or.inl rfl) (hQ false ⟨fun h9 => (by cases h9), fun h9 => by rcases h9 with h9 | h9 | ⟨_, h9⟩ | ⟨h9, _⟩; omega; omega; exact absurd (hb4.mp (bI_n0.mp h66)) h9; omega⟩) | exact go_zret d_CC_isCramped_74 rfl (Or.inr rfl) (hQ true ⟨fun _ => Or.inr (Or.inr (Or.inl ⟨hk12, fun h9 => by rw [hb4.mpr h9] at h66; exact absurd h66 (by decide)⟩)), fun _ => rfl⟩)
    · refine go_iconst (v := 1) d_CC_isCramped_45 rfl ?_
      first | exact go_zret d_CC_isCramped_46 rfl (Or.inr rfl) (hQ true ⟨fun _ => Or.inl (Nat.not_le.mp (fun hle => by rw [t1, pk_sub hle] at h28; exact absurd h28 (nI_pos (by omega)))), fun _ => rfl⟩) | exact go_zret d_CC_isCramped_46 rfl (Or.inr rfl) (hQ true ⟨fun _ => by by_cases hle : rn_tk k ≤ h; (refine Or.inr (Or.inl (Nat.not_le.mp (fun h9 => h42 ?_))); rw [t1, t2, pk_sub hle, nI_add]; exact nI_le (b := 6) h9 (by decide)); exact Or.inl (by omega), fun _ => rfl⟩)
end IC
