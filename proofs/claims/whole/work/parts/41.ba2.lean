/-! Balance.isShownNotNegative -/
section BA2
variable {d n : Nat} {sh : Nat → Nat × Nat} {X : Nat × (Nat → Int32)} {R : Nat → Nat → Option Nat} {I : Nat → Nat → Int32} {L : Nat → Nat → Int64} {Q : Option Value → gw_Mem → Prop}
theorem c_Ba_isShown {o k : Nat} {s : ab_Ba} {C : sp_E} (hp : pt_Ba sh R o) (hs : ba_at L o s) (hk : pt_Kn sh R k) (hc : kn_at L k C) (hC : kn_bd C 400000000000) (hQ : ∀ b : Bool, (b = true ↔ ba_sh C s) → Q (some (.int (bI b))) (n, sh, X, R, I, L)) : gw_Call y_Ba_isShownNotNegative (d + 1) 0 0 [.ref o, .ref k] (n, sh, X, R, I, L) Q := by
  obtain ⟨s0, s1, r0⟩ := hp
  obtain ⟨h1, h2⟩ := hs
  have sk := hk.1
  refine gw_call o_Ba_isShownNotNegative (Nat.le_of_ble_eq_true rfl) ?_
  have inner : ∀ (a : Nat), a < 5 → (∀ (v' : Int64) (o5 o6 o8 : Option Value), (ba_sh C s ↔ ∃ v, ba_all C s.1 (4 - a) v' = some v ∧ ¬ v < 0) → gw_Go y_Ba_isShownNotNegative (d + 1) 0 0 116 [some (.ref o), some (.ref k), some (.long v'), none, some (.int (nI a)), o5, o6, none, o8, none] [] (n, sh, X, R, I, L) Q) → ∀ (r b : Nat) (y : Int32) (v' : Int64) (o6 o8 : Option Value), y = nI b → b + r = 5 → a < b → (ba_sh C s ↔ ∃ v, (match ba_row C s.1 a r v' with | none => none | some w => ba_all C s.1 (4 - a) w) = some v ∧ ¬ v < 0) → gw_Go y_Ba_isShownNotNegative (d + 1) 0 0 20 [some (.ref o), some (.ref k), some (.long v'), none, some (.int (nI a)), some (.int y), o6, none, o8, none] [] (n, sh, X, R, I, L) Q := by
    intro a ha hout r
    induction r with
    | zero =>
      intro b y v' o6 o8 hy hr hab hiff
      have hb5 : b = 5 := by omega
      subst hb5
      refine go_iload d_Ba_isShownNotNegative_20 rfl ?_
      refine go_iconst (v := 5) d_Ba_isShownNotNegative_22 rfl ?_
      refine go_icmp_ge 116 d_Ba_isShownNotNegative_23 rfl (fun _ => ?_) (fun hn => absurd (by rw [hy]; decide) hn)
      exact hout v' _ _ _ hiff
    | succ r ih =>
      intro b y v' o6 o8 hy hr hab hiff
      subst hy
      have hb5 : b < 5 := by omega
      have hbr : 4 - r = b := by omega
      have hkab := h2 a b hab hb5
      have hiff' : ba_sh C s ↔ ∃ v, (match (match ba_st C s.1 a b v' with | none => none | some s' => ba_row C s.1 a r s') with | none => none | some w => ba_all C s.1 (4 - a) w) = some v ∧ ¬ v < 0 := by rw [← hbr]; exact hiff
      have small : ∀ {x z : Nat} {w : Int}, x < 5 → z < 5 → C x z = some w → kn_s w := fun e1 e2 e3 => by have := hC _ _ _ e1 e2 e3; unfold kn_s; omega
      have nxt : ∀ (v2 : Int64) (o6' o8' : Option Value), ba_st C s.1 a b v' = some v2 → gw_Go y_Ba_isShownNotNegative (d + 1) 0 0 109 [some (.ref o), some (.ref k), some (.long v'), none, some (.int (nI a)), some (.int (nI b)), o6', none, o8', none] [.long v2] (n, sh, X, R, I, L) Q := by
        intro v2 o6' o8' he
        rw [he] at hiff'
        refine go_lstore_n 2 d_Ba_isShownNotNegative_109 rfl (Nat.le_of_ble_eq_true rfl) ?_
        refine go_iinc d_Ba_isShownNotNegative_110 rfl rfl (Nat.le_of_ble_eq_true rfl) ?_
        refine go_goto 20 d_Ba_isShownNotNegative_113 rfl ?_
        exact ih (b + 1) _ v2 o6' o8' (gw_inc rfl) (by omega) (by omega) hiff'
      generalize hkv : s.1 a b - s.1 b a = kv at hkab
      have hst : ba_st C s.1 a b v' = if kv = 0 then some v' else if 0 < kv then (match C b a with | none => none | some w => some (v' + -kv * Int64.ofInt w)) else (match C a b with | none => none | some w => some (v' + kv * Int64.ofInt w)) := by unfold ba_st; rw [hkv]; rfl
      have noGo : ba_st C s.1 a b v' = none → gw_Go y_Ba_isShownNotNegative (d + 1) 0 0 84 [some (.ref o), some (.ref k), some (.long v'), none, some (.int (nI a)), some (.int (nI b)), some (.long kv), none, some (.long 1152921504606846976), none] [] (n, sh, X, R, I, L) Q := by
        intro he
        rw [he] at hiff'
        refine go_iconst (v := 0) d_Ba_isShownNotNegative_84 rfl ?_
        exact go_zret d_Ba_isShownNotNegative_85 rfl (by first | exact Or.inl rfl | exact Or.inr rfl | assumption) (hQ false ⟨fun h => (by cases h), fun h => by obtain ⟨v, e1, _⟩ := hiff'.mp h; cases e1⟩)
      by_cases hpos : 0 < kv
      · have hk0 : ¬ kv = 0 := fun e => by rw [e] at hpos; exact absurd hpos (by decide)
        rw [if_neg hk0, if_pos hpos] at hst
        refine go_iload d_Ba_isShownNotNegative_20 rfl ?_
        refine go_iconst (v := 5) d_Ba_isShownNotNegative_22 rfl ?_
        refine go_icmp_ge 116 d_Ba_isShownNotNegative_23 rfl (fun hn => absurd hn (nI_ge (b := 5) hb5 (by decide))) (fun _ => ?_)
        refine go_aload_n 0 d_Ba_isShownNotNegative_26 rfl rfl ?_
        refine go_getR d_Ba_isShownNotNegative_27 f_Ba_9 (by assumption) (by assumption) ?_
        refine go_iconst (v := 5) d_Ba_isShownNotNegative_30 rfl ?_
        refine go_iload d_Ba_isShownNotNegative_31 rfl ?_
        refine go_imul d_Ba_isShownNotNegative_33 ?_
        refine go_iload d_Ba_isShownNotNegative_34 rfl ?_
        refine go_iadd d_Ba_isShownNotNegative_36 ?_
        refine go_lald (5 * a + b) d_Ba_isShownNotNegative_37 (by assumption) (kn_ix a b) (by omega) (by decide) ?_
        rw [hkab]
        refine go_lstore d_Ba_isShownNotNegative_38 (Nat.le_of_ble_eq_true rfl) ?_
        refine go_lload d_Ba_isShownNotNegative_40 rfl ?_
        refine go_lconst (v := 0) d_Ba_isShownNotNegative_42 rfl ?_
        refine go_lcmp_le 58 d_Ba_isShownNotNegative_43 d_Ba_isShownNotNegative_44 rfl (fun hn => absurd hn (fun h => h hpos)) (fun _ => ?_)
        refine go_aload_n 1 d_Ba_isShownNotNegative_47 rfl rfl ?_
        refine go_iload d_Ba_isShownNotNegative_48 rfl ?_
        refine go_iload d_Ba_isShownNotNegative_50 rfl ?_
        refine go_V2 d_Ba_isShownNotNegative_52 k_Ba_59 (by assumption) (Nat.le_of_ble_eq_true rfl) (c_Kn_boundOf hk hc hb5 (by omega) ?_)
        refine go_goto 66 d_Ba_isShownNotNegative_55 rfl ?_
        cases hcb : C b a with
        | none =>
          rw [hcb] at hst
          refine go_lstore d_Ba_isShownNotNegative_66 (Nat.le_of_ble_eq_true rfl) ?_
          refine go_lload d_Ba_isShownNotNegative_68 rfl ?_
          refine go_lconst (v := 0) d_Ba_isShownNotNegative_70 rfl ?_
          refine go_lcmp_eq 86 d_Ba_isShownNotNegative_71 d_Ba_isShownNotNegative_72 rfl (fun h => absurd h hk0) (fun _ => ?_)
          refine go_lload d_Ba_isShownNotNegative_75 rfl ?_
          refine go_ldc2 d_Ba_isShownNotNegative_77 i_Ba_65 ?_
          refine go_lcmp_ne 86 d_Ba_isShownNotNegative_80 d_Ba_isShownNotNegative_81 rfl (fun h => absurd rfl h) (fun _ => ?_)
          exact noGo hst
        | some w =>
        rw [hcb] at hst
        refine go_lstore d_Ba_isShownNotNegative_66 (Nat.le_of_ble_eq_true rfl) ?_
        refine go_lload d_Ba_isShownNotNegative_68 rfl ?_
        refine go_lconst (v := 0) d_Ba_isShownNotNegative_70 rfl ?_
        refine go_lcmp_eq 86 d_Ba_isShownNotNegative_71 d_Ba_isShownNotNegative_72 rfl (fun hn => absurd hn (hk0)) (fun _ => ?_)
        refine go_lload d_Ba_isShownNotNegative_75 rfl ?_
        refine go_ldc2 d_Ba_isShownNotNegative_77 i_Ba_65 ?_
        refine go_lcmp_ne 86 d_Ba_isShownNotNegative_80 d_Ba_isShownNotNegative_81 rfl (fun _ => ?_) (fun hn => by first | exact absurd hn (kn_ne (small hb5 (by omega) hcb)) | exact absurd (kn_ne (small hb5 (by omega) hcb)) hn)
        refine go_lload_n 2 d_Ba_isShownNotNegative_86 rfl rfl ?_
        refine go_lload d_Ba_isShownNotNegative_87 rfl ?_
        refine go_lconst (v := 0) d_Ba_isShownNotNegative_89 rfl ?_
        refine go_lcmp_le 103 d_Ba_isShownNotNegative_90 d_Ba_isShownNotNegative_91 rfl (fun hn => absurd hn (fun h => h hpos)) (fun _ => ?_)
        refine go_lload d_Ba_isShownNotNegative_94 rfl ?_
        refine go_lneg d_Ba_isShownNotNegative_96 ?_
        refine go_lload d_Ba_isShownNotNegative_97 rfl ?_
        refine go_lmul d_Ba_isShownNotNegative_99 ?_
        refine go_goto 108 d_Ba_isShownNotNegative_100 rfl ?_
        refine go_ladd d_Ba_isShownNotNegative_108 ?_
        exact nxt _ _ _ hst
      · by_cases hk0 : kv = 0
        · rw [if_pos hk0] at hst
          refine go_iload d_Ba_isShownNotNegative_20 rfl ?_
          refine go_iconst (v := 5) d_Ba_isShownNotNegative_22 rfl ?_
          refine go_icmp_ge 116 d_Ba_isShownNotNegative_23 rfl (fun hn => absurd hn (nI_ge (b := 5) hb5 (by decide))) (fun _ => ?_)
          refine go_aload_n 0 d_Ba_isShownNotNegative_26 rfl rfl ?_
          refine go_getR d_Ba_isShownNotNegative_27 f_Ba_9 (by assumption) (by assumption) ?_
          refine go_iconst (v := 5) d_Ba_isShownNotNegative_30 rfl ?_
          refine go_iload d_Ba_isShownNotNegative_31 rfl ?_
          refine go_imul d_Ba_isShownNotNegative_33 ?_
          refine go_iload d_Ba_isShownNotNegative_34 rfl ?_
          refine go_iadd d_Ba_isShownNotNegative_36 ?_
          refine go_lald (5 * a + b) d_Ba_isShownNotNegative_37 (by assumption) (kn_ix a b) (by omega) (by decide) ?_
          rw [hkab]
          refine go_lstore d_Ba_isShownNotNegative_38 (Nat.le_of_ble_eq_true rfl) ?_
          refine go_lload d_Ba_isShownNotNegative_40 rfl ?_
          refine go_lconst (v := 0) d_Ba_isShownNotNegative_42 rfl ?_
          refine go_lcmp_le 58 d_Ba_isShownNotNegative_43 d_Ba_isShownNotNegative_44 rfl (fun _ => ?_) (fun hn => by first | exact absurd hn (hpos) | exact absurd (hpos) hn)
          refine go_aload_n 1 d_Ba_isShownNotNegative_58 rfl rfl ?_
          refine go_iload d_Ba_isShownNotNegative_59 rfl ?_
          refine go_iload d_Ba_isShownNotNegative_61 rfl ?_
          refine go_V2 d_Ba_isShownNotNegative_63 k_Ba_59 (by assumption) (Nat.le_of_ble_eq_true rfl) (c_Kn_boundOf hk hc (by omega) hb5 ?_)
          refine go_lstore d_Ba_isShownNotNegative_66 (Nat.le_of_ble_eq_true rfl) ?_
          refine go_lload d_Ba_isShownNotNegative_68 rfl ?_
          refine go_lconst (v := 0) d_Ba_isShownNotNegative_70 rfl ?_
          refine go_lcmp_eq 86 d_Ba_isShownNotNegative_71 d_Ba_isShownNotNegative_72 rfl (fun _ => ?_) (fun hn => by first | exact absurd hn (hk0) | exact absurd (hk0) hn)
          refine go_lload_n 2 d_Ba_isShownNotNegative_86 rfl rfl ?_
          refine go_lload d_Ba_isShownNotNegative_87 rfl ?_
          refine go_lconst (v := 0) d_Ba_isShownNotNegative_89 rfl ?_
          refine go_lcmp_le 103 d_Ba_isShownNotNegative_90 d_Ba_isShownNotNegative_91 rfl (fun _ => ?_) (fun hn => by first | exact absurd hn (hpos) | exact absurd (hpos) hn)
          refine go_lload d_Ba_isShownNotNegative_103 rfl ?_
          refine go_lload d_Ba_isShownNotNegative_105 rfl ?_
          refine go_lmul d_Ba_isShownNotNegative_107 ?_
          refine go_ladd d_Ba_isShownNotNegative_108 ?_
          rw [show v' + kv * kn_e (C a b) = v' by rw [hk0, Int64.zero_mul, Int64.add_zero]]
          exact nxt _ _ _ hst
        · rw [if_neg hk0, if_neg hpos] at hst
          refine go_iload d_Ba_isShownNotNegative_20 rfl ?_
          refine go_iconst (v := 5) d_Ba_isShownNotNegative_22 rfl ?_
          refine go_icmp_ge 116 d_Ba_isShownNotNegative_23 rfl (fun hn => absurd hn (nI_ge (b := 5) hb5 (by decide))) (fun _ => ?_)
          refine go_aload_n 0 d_Ba_isShownNotNegative_26 rfl rfl ?_
          refine go_getR d_Ba_isShownNotNegative_27 f_Ba_9 (by assumption) (by assumption) ?_
          refine go_iconst (v := 5) d_Ba_isShownNotNegative_30 rfl ?_
          refine go_iload d_Ba_isShownNotNegative_31 rfl ?_
          refine go_imul d_Ba_isShownNotNegative_33 ?_
          refine go_iload d_Ba_isShownNotNegative_34 rfl ?_
          refine go_iadd d_Ba_isShownNotNegative_36 ?_
          refine go_lald (5 * a + b) d_Ba_isShownNotNegative_37 (by assumption) (kn_ix a b) (by omega) (by decide) ?_
          rw [hkab]
          refine go_lstore d_Ba_isShownNotNegative_38 (Nat.le_of_ble_eq_true rfl) ?_
          refine go_lload d_Ba_isShownNotNegative_40 rfl ?_
          refine go_lconst (v := 0) d_Ba_isShownNotNegative_42 rfl ?_
          refine go_lcmp_le 58 d_Ba_isShownNotNegative_43 d_Ba_isShownNotNegative_44 rfl (fun _ => ?_) (fun hn => by first | exact absurd hn (hpos) | exact absurd (hpos) hn)
          refine go_aload_n 1 d_Ba_isShownNotNegative_58 rfl rfl ?_
          refine go_iload d_Ba_isShownNotNegative_59 rfl ?_
          refine go_iload d_Ba_isShownNotNegative_61 rfl ?_
          refine go_V2 d_Ba_isShownNotNegative_63 k_Ba_59 (by assumption) (Nat.le_of_ble_eq_true rfl) (c_Kn_boundOf hk hc (by omega) hb5 ?_)
          cases hcb : C a b with
          | none =>
            rw [hcb] at hst
            refine go_lstore d_Ba_isShownNotNegative_66 (Nat.le_of_ble_eq_true rfl) ?_
            refine go_lload d_Ba_isShownNotNegative_68 rfl ?_
            refine go_lconst (v := 0) d_Ba_isShownNotNegative_70 rfl ?_
            refine go_lcmp_eq 86 d_Ba_isShownNotNegative_71 d_Ba_isShownNotNegative_72 rfl (fun h => absurd h hk0) (fun _ => ?_)
            refine go_lload d_Ba_isShownNotNegative_75 rfl ?_
            refine go_ldc2 d_Ba_isShownNotNegative_77 i_Ba_65 ?_
            refine go_lcmp_ne 86 d_Ba_isShownNotNegative_80 d_Ba_isShownNotNegative_81 rfl (fun h => absurd rfl h) (fun _ => ?_)
            exact noGo hst
          | some w =>
          rw [hcb] at hst
          refine go_lstore d_Ba_isShownNotNegative_66 (Nat.le_of_ble_eq_true rfl) ?_
          refine go_lload d_Ba_isShownNotNegative_68 rfl ?_
          refine go_lconst (v := 0) d_Ba_isShownNotNegative_70 rfl ?_
          refine go_lcmp_eq 86 d_Ba_isShownNotNegative_71 d_Ba_isShownNotNegative_72 rfl (fun hn => absurd hn (hk0)) (fun _ => ?_)
          refine go_lload d_Ba_isShownNotNegative_75 rfl ?_
          refine go_ldc2 d_Ba_isShownNotNegative_77 i_Ba_65 ?_
          refine go_lcmp_ne 86 d_Ba_isShownNotNegative_80 d_Ba_isShownNotNegative_81 rfl (fun _ => ?_) (fun hn => by first | exact absurd hn (kn_ne (small (by omega) hb5 hcb)) | exact absurd (kn_ne (small (by omega) hb5 hcb)) hn)
          refine go_lload_n 2 d_Ba_isShownNotNegative_86 rfl rfl ?_
          refine go_lload d_Ba_isShownNotNegative_87 rfl ?_
          refine go_lconst (v := 0) d_Ba_isShownNotNegative_89 rfl ?_
          refine go_lcmp_le 103 d_Ba_isShownNotNegative_90 d_Ba_isShownNotNegative_91 rfl (fun _ => ?_) (fun hn => by first | exact absurd hn (hpos) | exact absurd (hpos) hn)
          refine go_lload d_Ba_isShownNotNegative_103 rfl ?_
          refine go_lload d_Ba_isShownNotNegative_105 rfl ?_
          refine go_lmul d_Ba_isShownNotNegative_107 ?_
          refine go_ladd d_Ba_isShownNotNegative_108 ?_
          exact nxt _ _ _ hst
  have outer : ∀ (r a : Nat) (x : Int32) (v' : Int64) (o5 o6 o8 : Option Value), x = nI a → a + r = 5 → (ba_sh C s ↔ ∃ v, ba_all C s.1 r v' = some v ∧ ¬ v < 0) → gw_Go y_Ba_isShownNotNegative (d + 1) 0 0 8 [some (.ref o), some (.ref k), some (.long v'), none, some (.int x), o5, o6, none, o8, none] [] (n, sh, X, R, I, L) Q := by
    intro r
    induction r with
    | zero =>
      intro a x v' o5 o6 o8 hx hr hiff
      have ha5 : a = 5 := by omega
      subst ha5
      refine go_iload d_Ba_isShownNotNegative_8 rfl ?_
      refine go_iconst (v := 5) d_Ba_isShownNotNegative_10 rfl ?_
      refine go_icmp_ge 122 d_Ba_isShownNotNegative_11 rfl (fun _ => ?_) (fun hn => absurd (by rw [hx]; decide) hn)
      refine go_lload_n 2 d_Ba_isShownNotNegative_122 rfl rfl ?_
      refine go_lconst (v := 0) d_Ba_isShownNotNegative_123 rfl ?_
      refine go_lcmp_lt 132 d_Ba_isShownNotNegative_124 d_Ba_isShownNotNegative_125 rfl (fun h124 => ?_) (fun h124 => ?_)
      · refine go_iconst (v := 0) d_Ba_isShownNotNegative_132 rfl ?_
        first | exact go_zret d_Ba_isShownNotNegative_133 rfl (Or.inr rfl) (hQ true ⟨fun _ => hiff.mpr ⟨v', rfl, h124⟩, fun _ => rfl⟩) | exact go_zret d_Ba_isShownNotNegative_133 rfl (Or.inl rfl) (hQ false ⟨fun h => (by cases h), fun h => by obtain ⟨v, e1, e2⟩ := hiff.mp h; cases e1; exact absurd h124 e2⟩)
      · refine go_iconst (v := 1) d_Ba_isShownNotNegative_128 rfl ?_
        refine go_goto 133 d_Ba_isShownNotNegative_129 rfl ?_
        first | exact go_zret d_Ba_isShownNotNegative_133 rfl (Or.inr rfl) (hQ true ⟨fun _ => hiff.mpr ⟨v', rfl, h124⟩, fun _ => rfl⟩) | exact go_zret d_Ba_isShownNotNegative_133 rfl (Or.inl rfl) (hQ false ⟨fun h => (by cases h), fun h => by obtain ⟨v, e1, e2⟩ := hiff.mp h; cases e1; exact absurd h124 e2⟩)
    | succ r ih =>
      intro a x v' o5 o6 o8 hx hr hiff
      subst hx
      have har : 4 - r = a := by omega
      have har' : 4 - a = r := by omega
      have hiff' : ba_sh C s ↔ ∃ v, (match ba_row C s.1 a r v' with | none => none | some w => ba_all C s.1 (4 - a) w) = some v ∧ ¬ v < 0 := by rw [har', ← har]; exact hiff
      refine go_iload d_Ba_isShownNotNegative_8 rfl ?_
      refine go_iconst (v := 5) d_Ba_isShownNotNegative_10 rfl ?_
      refine go_icmp_ge 122 d_Ba_isShownNotNegative_11 rfl (fun hn => absurd hn (nI_ge (b := 5) (by omega) (by decide))) (fun _ => ?_)
      refine go_iload d_Ba_isShownNotNegative_14 rfl ?_
      refine go_iconst (v := 1) d_Ba_isShownNotNegative_16 rfl ?_
      refine go_iadd d_Ba_isShownNotNegative_17 ?_
      refine go_istore d_Ba_isShownNotNegative_18 (Nat.le_of_ble_eq_true rfl) ?_
      exact inner a (by omega) (fun v2 o5' o6' o8' hi2 => by refine go_iinc d_Ba_isShownNotNegative_116 rfl rfl (Nat.le_of_ble_eq_true rfl) ?_; refine go_goto 8 d_Ba_isShownNotNegative_119 rfl ?_; exact ih (a + 1) _ v2 o5' o6' o8' (gw_inc rfl) (by omega) (by rw [har'] at hi2; exact hi2)) r (a + 1) _ v' _ _ (nI_succ a).symm (by omega) (by omega) hiff'
  refine go_aload_n 0 d_Ba_isShownNotNegative_0 rfl rfl ?_
  refine go_getL d_Ba_isShownNotNegative_1 f_Ba_15 (by assumption) ?_
  refine go_lstore_n 2 d_Ba_isShownNotNegative_4 rfl (Nat.le_of_ble_eq_true rfl) ?_
  refine go_iconst (v := 0) d_Ba_isShownNotNegative_5 rfl ?_
  refine go_istore d_Ba_isShownNotNegative_6 (Nat.le_of_ble_eq_true rfl) ?_
  exact outer 5 0 _ _ _ _ _ rfl (by omega) (by rw [h1]; exact Iff.rfl)
end BA2
