/-! Known.showsClaims, Known.allowsNegative, Potential.speaksOfNothing -/
section KN4
variable {d n : Nat} {sh : Nat → Nat × Nat} {X : Nat × (Nat → Int32)} {R : Nat → Nat → Option Nat} {I : Nat → Nat → Int32} {L : Nat → Nat → Int64} {Q : Option Value → gw_Mem → Prop}
theorem c_Kn_showsClaims {o k p s : Nat} {A : ab_Cu} {C : sp_E} {f : Nat → ab_Sy} (hp : pt_Kn sh R o) (hc : pt_Cu sh R k) (ha : cu_at I k p A) (hk : kn_at L o C) (hC : kn_bd C 400000000000) (hy : pt_Sy sh R s) (hf : sy_at I L s f) (hfb : sy_bd f 50000000000) (hQ : ∀ b : Bool, (b = true ↔ kn_sh C f A.1) → Q (some (.int (bI b))) (n, sh, X, R, I, L)) : gw_Call y_Kn_showsClaims (d + 1) 0 0 [.ref o, .ref k, .ref s] (n, sh, X, R, I, L) Q := by
  have s0 := hp.1
  obtain ⟨c0, c1, c2, c3, c4, r2, r3, r4, r5, q0, q1, p0, p1⟩ := hc
  obtain ⟨a1, a2, a3, a4, a5, a6⟩ := ha
  obtain ⟨y0, y1, y2, z0, z1⟩ := hy
  refine gw_call o_Kn_showsClaims (Nat.le_of_ble_eq_true rfl) ?_
  have loop : ∀ (ts : List (Nat × Nat × Int32)) (i : Nat) (x : Int32) (o4 o5 o6 : Option Value), x = nI i → i ≤ A.1.length → A.1.drop i = ts → (kn_sh C f A.1 ↔ kn_sh C f ts) → gw_Go y_Kn_showsClaims (d + 1) 0 0 2 [some (.ref o), some (.ref k), some (.ref s), some (.int x), o4, o5, o6, none] [] (n, sh, X, R, I, L) Q := by
    intro ts
    induction ts with
    | nil =>
      intro i x o4 o5 o6 hx h0 hd hs
      have hi := gw_dropE hd
      refine go_iload_n 3 d_Kn_showsClaims_2 rfl rfl ?_
      refine go_aload_n 1 d_Kn_showsClaims_3 rfl rfl ?_
      refine go_getI d_Kn_showsClaims_4 f_Kn_27 (by assumption) ?_
      refine go_icmp_ge 107 d_Kn_showsClaims_7 rfl (fun _ => ?_) (fun hn => absurd (by rw [a2, hx]; exact nI_le hi (by omega)) hn)
      refine go_iconst (v := 1) d_Kn_showsClaims_107 rfl ?_
      exact go_zret d_Kn_showsClaims_108 rfl (by first | exact Or.inl rfl | exact Or.inr rfl | assumption) (hQ true ⟨fun _ => hs.mpr (fun t h => by cases h), fun _ => rfl⟩)
    | cons t ts ih =>
      intro i x o4 o5 o6 hx h0 hd hs
      obtain ⟨hi, ht, hn⟩ := gw_drop hd
      obtain ⟨b1, b2, b3, b4, b5⟩ := a4 i t ht
      have fa := hf t.1 b4
      have fb := hf t.2.1 b5
      have bt := i_32 t.2.2
      refine go_iload_n 3 d_Kn_showsClaims_2 rfl rfl ?_
      refine go_aload_n 1 d_Kn_showsClaims_3 rfl rfl ?_
      refine go_getI d_Kn_showsClaims_4 f_Kn_27 (by assumption) ?_
      refine go_icmp_ge 107 d_Kn_showsClaims_7 rfl (fun hn => absurd hn (by rw [a2, hx]; exact nI_ge hi (by omega))) (fun _ => ?_)
      refine go_aload_n 1 d_Kn_showsClaims_10 rfl rfl ?_
      refine go_getR d_Kn_showsClaims_11 f_Kn_33 (by assumption) (by assumption) ?_
      refine go_iload_n 3 d_Kn_showsClaims_14 rfl rfl ?_
      refine go_iald (i) d_Kn_showsClaims_15 (by assumption) (hx) (by omega) (by decide) ?_
      rw [b1]
      refine go_istore d_Kn_showsClaims_16 (Nat.le_of_ble_eq_true rfl) ?_
      refine go_aload_n 1 d_Kn_showsClaims_18 rfl rfl ?_
      refine go_getR d_Kn_showsClaims_19 f_Kn_37 (by assumption) (by assumption) ?_
      refine go_iload_n 3 d_Kn_showsClaims_22 rfl rfl ?_
      refine go_iald (i) d_Kn_showsClaims_23 (by assumption) (hx) (by omega) (by decide) ?_
      rw [b2]
      refine go_istore d_Kn_showsClaims_24 (Nat.le_of_ble_eq_true rfl) ?_
      refine go_aload_n 2 d_Kn_showsClaims_26 rfl rfl ?_
      refine go_getR d_Kn_showsClaims_27 f_Kn_47 (by assumption) (by assumption) ?_
      refine go_iload d_Kn_showsClaims_30 rfl ?_
      refine go_iald (t.1) d_Kn_showsClaims_32 (by assumption) (rfl) (b4) (by decide) ?_
      refine go_iconst (v := (-1)) d_Kn_showsClaims_33 rfl ?_
      refine go_icmp_eq 48 d_Kn_showsClaims_34 rfl (fun h34 => ?_) (fun h34 => ?_)
      · refine go_iconst (v := 0) d_Kn_showsClaims_48 rfl ?_
        first | exact go_zret d_Kn_showsClaims_49 rfl (Or.inl rfl) (hQ false ⟨fun h => (by cases h), fun h => by obtain ⟨q, r, w, e1, e2, _⟩ := hs.mp h t List.mem_cons_self; rw [(sd_none fb).mp h45] at e2; cases e2⟩) | exact go_zret d_Kn_showsClaims_49 rfl (Or.inl rfl) (hQ false ⟨fun h => (by cases h), fun h => by obtain ⟨q, r, w, e1, e2, _⟩ := hs.mp h t List.mem_cons_self; rw [(sd_none fa).mp h34] at e1; cases e1⟩)
      · refine go_aload_n 2 d_Kn_showsClaims_37 rfl rfl ?_
        refine go_getR d_Kn_showsClaims_38 f_Kn_47 (by assumption) (by assumption) ?_
        refine go_iload d_Kn_showsClaims_41 rfl ?_
        refine go_iald (t.2.1) d_Kn_showsClaims_43 (by assumption) (rfl) (b5) (by decide) ?_
        refine go_iconst (v := (-1)) d_Kn_showsClaims_44 rfl ?_
        refine go_icmp_ne 50 d_Kn_showsClaims_45 rfl (fun h45 => ?_) (fun h45 => ?_)
        · obtain ⟨⟨qa, va⟩, hfa⟩ : ∃ q, f t.1 = some q := by cases h : f t.1 with | none => exact absurd ((sd_none fa).mpr h) h34 | some q => exact ⟨q, rfl⟩
          obtain ⟨⟨qb, vb⟩, hfb2⟩ : ∃ q, f t.2.1 = some q := by cases h : f t.2.1 with | none => exact absurd ((sd_none fb).mpr h) h45 | some q => exact ⟨q, rfl⟩
          rw [hfa] at fa
          rw [hfb2] at fb
          obtain ⟨fa1, fa2, fa3⟩ := fa
          obtain ⟨fb1, fb2, fb3⟩ := fb
          dsimp only at fa1 fa2 fa3 fb1 fb2 fb3
          have ba := hfb t.1 _ b4 hfa
          have bb := hfb t.2.1 _ b5 hfb2
          dsimp only at ba bb
          refine go_aload_n 1 d_Kn_showsClaims_50 rfl rfl ?_
          refine go_getR d_Kn_showsClaims_51 f_Kn_40 (by assumption) (by assumption) ?_
          refine go_iload_n 3 d_Kn_showsClaims_54 rfl rfl ?_
          refine go_iald (i) d_Kn_showsClaims_55 (by assumption) (hx) (by omega) (by decide) ?_
          refine go_i2l d_Kn_showsClaims_56 (rfl) ?_
          refine go_aload_n 2 d_Kn_showsClaims_57 rfl rfl ?_
          refine go_getR d_Kn_showsClaims_58 f_Kn_52 (by assumption) (by assumption) ?_
          refine go_iload d_Kn_showsClaims_61 rfl ?_
          refine go_lald (t.1) d_Kn_showsClaims_63 (by assumption) (rfl) (b4) (by decide) ?_
          refine go_lsub d_Kn_showsClaims_64 ?_
          refine go_aload_n 2 d_Kn_showsClaims_65 rfl rfl ?_
          refine go_getR d_Kn_showsClaims_66 f_Kn_52 (by assumption) (by assumption) ?_
          refine go_iload d_Kn_showsClaims_69 rfl ?_
          refine go_lald (t.2.1) d_Kn_showsClaims_71 (by assumption) (rfl) (b5) (by decide) ?_
          refine go_ladd d_Kn_showsClaims_72 ?_
          rw [b3, fa3, fb3, i_64]
          refine go_lstore d_Kn_showsClaims_73 (Nat.le_of_ble_eq_true rfl) ?_
          refine go_aload_n 0 d_Kn_showsClaims_75 rfl rfl ?_
          refine go_aload_n 2 d_Kn_showsClaims_76 rfl rfl ?_
          refine go_getR d_Kn_showsClaims_77 f_Kn_47 (by assumption) (by assumption) ?_
          refine go_iload d_Kn_showsClaims_80 rfl ?_
          refine go_iald (t.1) d_Kn_showsClaims_82 (by assumption) (rfl) (b4) (by decide) ?_
          refine go_aload_n 2 d_Kn_showsClaims_83 rfl rfl ?_
          refine go_getR d_Kn_showsClaims_84 f_Kn_47 (by assumption) (by assumption) ?_
          refine go_iload d_Kn_showsClaims_87 rfl ?_
          refine go_iald (t.2.1) d_Kn_showsClaims_89 (by assumption) (rfl) (b5) (by decide) ?_
          rw [fa1, fb1]
          refine go_V2 d_Kn_showsClaims_90 k_Kn_23 (by assumption) (Nat.le_of_ble_eq_true rfl) (c_Kn_boundOf hp hk fa2 fb2 ?_)
          refine go_lload d_Kn_showsClaims_93 rfl ?_
          have hcmp : Int64.ofInt t.2.2.toInt - va + vb < kn_e (C qa qb) ↔ ¬ ∃ w, C qa qb = some w ∧ w + va.toInt - vb.toInt ≤ t.2.2.toInt := by
            rw [← kn_of va, ← kn_of vb, ← Int64.ofInt_sub, kn_add, kn_of, kn_of]
            cases hc : C qa qb with
            | none => exact ⟨fun _ ⟨w, h, _⟩ => (by cases h), fun _ => kn_ltfar (by unfold kn_s; omega)⟩
            | some w =>
              have hw := hC qa qb w fa2 fb2 hc
              show Int64.ofInt _ < Int64.ofInt w ↔ _
              rw [kn_lt (by unfold kn_s; omega) (by unfold kn_s; omega)]
              exact ⟨fun h ⟨w', h1, h2⟩ => (by cases h1; omega), fun h => Int.not_le.mp (fun hh => h ⟨w, rfl, by omega⟩)⟩
          refine go_lcmp_le 101 d_Kn_showsClaims_95 d_Kn_showsClaims_96 rfl (fun h95 => ?_) (fun h95 => ?_)
          · refine go_iinc d_Kn_showsClaims_101 rfl rfl (Nat.le_of_ble_eq_true rfl) ?_
            refine go_goto 2 d_Kn_showsClaims_104 rfl ?_
            exact ih (i + 1) _ _ _ _ (gw_inc hx) (by omega) hn (hs.trans ⟨fun h q hq => h q (List.mem_cons_of_mem _ hq), fun h q hq => by rcases List.mem_cons.mp hq with rfl | hq; (obtain ⟨w, w1, w2⟩ := Classical.byContradiction (fun h9 => h95 (hcmp.mpr h9)); exact ⟨_, _, w, hfa, hfb2, w1, w2⟩); exact h q hq⟩)
          · refine go_iconst (v := 0) d_Kn_showsClaims_99 rfl ?_
            exact go_zret d_Kn_showsClaims_100 rfl (by first | exact Or.inl rfl | exact Or.inr rfl | assumption) (hQ false ⟨fun h => (by cases h), fun h => by obtain ⟨q, r, w, e1, e2, e3, e4⟩ := hs.mp h t List.mem_cons_self; rw [hfa] at e1; rw [hfb2] at e2; cases e1; cases e2; exact absurd ⟨w, e3, e4⟩ (hcmp.mp h95)⟩)
        · refine go_iconst (v := 0) d_Kn_showsClaims_48 rfl ?_
          first | exact go_zret d_Kn_showsClaims_49 rfl (Or.inl rfl) (hQ false ⟨fun h => (by cases h), fun h => by obtain ⟨q, r, w, e1, e2, _⟩ := hs.mp h t List.mem_cons_self; rw [(sd_none fb).mp h45] at e2; cases e2⟩) | exact go_zret d_Kn_showsClaims_49 rfl (Or.inl rfl) (hQ false ⟨fun h => (by cases h), fun h => by obtain ⟨q, r, w, e1, e2, _⟩ := hs.mp h t List.mem_cons_self; rw [(sd_none fa).mp h34] at e1; cases e1⟩)
  refine go_iconst (v := 0) d_Kn_showsClaims_0 rfl ?_
  refine go_istore_n 3 d_Kn_showsClaims_1 rfl (Nat.le_of_ble_eq_true rfl) ?_
  exact loop _ 0 _ _ _ _ rfl (by omega) rfl Iff.rfl
theorem c_Kn_allowsNegative {o k : Nat} {P : ab_Po} {C : sp_E} (hp : pt_Kn sh R o) (hc : pt_Po sh R k) (ha : po_at I k P) (hk : kn_at L o C) (hC : kn_bd C 400000000000) (hQ : ∀ b : Bool, (b = true ↔ kn_an C P.2 P.1.toInt64) → Q (some (.int (bI b))) (n, sh, X, R, I, L)) : gw_Call y_Kn_allowsNegative (d + 1) 0 0 [.ref o, .ref k] (n, sh, X, R, I, L) Q := by
  have s0 := hp.1
  obtain ⟨c0, c1, c2, c3, r2, r3, r4⟩ := hc
  obtain ⟨a1, a2, a3, a4⟩ := ha
  refine gw_call o_Kn_allowsNegative (Nat.le_of_ble_eq_true rfl) ?_
  have loop : ∀ (ts : List (Nat × Nat × Nat)) (i : Nat) (x : Int32) (s : Int64) (o5 : Option Value), x = nI i → i ≤ P.2.length → P.2.drop i = ts → (kn_an C P.2 P.1.toInt64 ↔ kn_an C ts s) → gw_Go y_Kn_allowsNegative (d + 1) 0 0 9 [some (.ref o), some (.ref k), some (.long s), none, some (.int x), o5, none] [] (n, sh, X, R, I, L) Q := by
    intro ts
    induction ts with
    | nil =>
      intro i x s o5 hx h0 hd hs
      have hi := gw_dropE hd
      refine go_iload d_Kn_allowsNegative_9 rfl ?_
      refine go_aload_n 1 d_Kn_allowsNegative_11 rfl rfl ?_
      refine go_getI d_Kn_allowsNegative_12 f_Kn_60 (by assumption) ?_
      refine go_icmp_ge 69 d_Kn_allowsNegative_15 rfl (fun _ => ?_) (fun hn => absurd (by rw [a2, hx]; exact nI_le hi (by omega)) hn)
      refine go_lload_n 2 d_Kn_allowsNegative_69 rfl rfl ?_
      refine go_lconst (v := 0) d_Kn_allowsNegative_70 rfl ?_
      refine go_lcmp_ge 79 d_Kn_allowsNegative_71 d_Kn_allowsNegative_72 rfl (fun h71 => ?_) (fun h71 => ?_)
      · refine go_iconst (v := 0) d_Kn_allowsNegative_79 rfl ?_
        first | exact go_zret d_Kn_allowsNegative_80 rfl (Or.inr rfl) (hQ true ⟨fun _ => hs.mpr h71, fun _ => rfl⟩) | exact go_zret d_Kn_allowsNegative_80 rfl (Or.inl rfl) (hQ false ⟨fun h => (by cases h), fun h => absurd (hs.mp h) h71⟩)
      · refine go_iconst (v := 1) d_Kn_allowsNegative_75 rfl ?_
        refine go_goto 80 d_Kn_allowsNegative_76 rfl ?_
        first | exact go_zret d_Kn_allowsNegative_80 rfl (Or.inr rfl) (hQ true ⟨fun _ => hs.mpr h71, fun _ => rfl⟩) | exact go_zret d_Kn_allowsNegative_80 rfl (Or.inl rfl) (hQ false ⟨fun h => (by cases h), fun h => absurd (hs.mp h) h71⟩)
    | cons t ts ih =>
      intro i x s o5 hx h0 hd hs
      obtain ⟨hi, ht, hn⟩ := gw_drop hd
      obtain ⟨b1, b2, b3, b4, b5⟩ := a4 i t ht
      have hs' : kn_an C P.2 P.1.toInt64 ↔ (match C t.2.2 t.2.1 with | none => True | some w => kn_an C ts (s - (nI t.1).toInt64 * Int64.ofInt w)) := hs
      refine go_iload d_Kn_allowsNegative_9 rfl ?_
      refine go_aload_n 1 d_Kn_allowsNegative_11 rfl rfl ?_
      refine go_getI d_Kn_allowsNegative_12 f_Kn_60 (by assumption) ?_
      refine go_icmp_ge 69 d_Kn_allowsNegative_15 rfl (fun hn => absurd hn (by rw [a2, hx]; exact nI_ge hi (by omega))) (fun _ => ?_)
      refine go_aload_n 0 d_Kn_allowsNegative_18 rfl rfl ?_
      refine go_aload_n 1 d_Kn_allowsNegative_19 rfl rfl ?_
      refine go_getR d_Kn_allowsNegative_20 f_Kn_63 (by assumption) (by assumption) ?_
      refine go_iload d_Kn_allowsNegative_23 rfl ?_
      refine go_iald (i) d_Kn_allowsNegative_25 (by assumption) (hx) (by omega) (by decide) ?_
      refine go_aload_n 1 d_Kn_allowsNegative_26 rfl rfl ?_
      refine go_getR d_Kn_allowsNegative_27 f_Kn_66 (by assumption) (by assumption) ?_
      refine go_iload d_Kn_allowsNegative_30 rfl ?_
      refine go_iald (i) d_Kn_allowsNegative_32 (by assumption) (hx) (by omega) (by decide) ?_
      rw [b3, b2]
      refine go_V2 d_Kn_allowsNegative_33 k_Kn_23 (by assumption) (Nat.le_of_ble_eq_true rfl) (c_Kn_boundOf hp hk b5 b4 ?_)
      refine go_lstore d_Kn_allowsNegative_36 (Nat.le_of_ble_eq_true rfl) ?_
      refine go_lload d_Kn_allowsNegative_38 rfl ?_
      refine go_ldc2 d_Kn_allowsNegative_40 i_Kn_15 ?_
      refine go_lcmp_ne 49 d_Kn_allowsNegative_43 d_Kn_allowsNegative_44 rfl (fun h43 => ?_) (fun h43 => ?_)
      · obtain ⟨w, hw⟩ : ∃ w, C t.2.2 t.2.1 = some w := by cases h : C t.2.2 t.2.1 with | none => rw [h] at h43; exact absurd rfl h43 | some w => exact ⟨w, rfl⟩
        rw [hw] at hs'
        refine go_lload_n 2 d_Kn_allowsNegative_49 rfl rfl ?_
        refine go_aload_n 1 d_Kn_allowsNegative_50 rfl rfl ?_
        refine go_getR d_Kn_allowsNegative_51 f_Kn_69 (by assumption) (by assumption) ?_
        refine go_iload d_Kn_allowsNegative_54 rfl ?_
        refine go_iald (i) d_Kn_allowsNegative_56 (by assumption) (hx) (by omega) (by decide) ?_
        refine go_i2l d_Kn_allowsNegative_57 (rfl) ?_
        rw [b1, hw]
        refine go_lload d_Kn_allowsNegative_58 rfl ?_
        refine go_lmul d_Kn_allowsNegative_60 ?_
        refine go_lsub d_Kn_allowsNegative_61 ?_
        refine go_lstore_n 2 d_Kn_allowsNegative_62 rfl (Nat.le_of_ble_eq_true rfl) ?_
        refine go_iinc d_Kn_allowsNegative_63 rfl rfl (Nat.le_of_ble_eq_true rfl) ?_
        refine go_goto 9 d_Kn_allowsNegative_66 rfl ?_
        exact ih (i + 1) _ _ _ (gw_inc hx) (by omega) hn hs'
      · refine go_iconst (v := 1) d_Kn_allowsNegative_47 rfl ?_
        have hnone := (kn_e_none (fun x hx => by have := hC _ _ _ b5 b4 hx; unfold kn_s; omega)).mp h43
        rw [hnone] at hs'
        exact go_zret d_Kn_allowsNegative_48 rfl (by first | exact Or.inl rfl | exact Or.inr rfl | assumption) (hQ true ⟨fun _ => hs'.mpr trivial, fun _ => rfl⟩)
  refine go_aload_n 1 d_Kn_allowsNegative_0 rfl rfl ?_
  refine go_getI d_Kn_allowsNegative_1 f_Kn_55 (by assumption) ?_
  refine go_i2l d_Kn_allowsNegative_4 (rfl) ?_
  refine go_lstore_n 2 d_Kn_allowsNegative_5 rfl (Nat.le_of_ble_eq_true rfl) ?_
  refine go_iconst (v := 0) d_Kn_allowsNegative_6 rfl ?_
  refine go_istore d_Kn_allowsNegative_7 (Nat.le_of_ble_eq_true rfl) ?_
  exact loop _ 0 _ _ _ rfl (by omega) rfl (by rw [a1]; exact Iff.rfl)
theorem c_Po_speaksOfNothing {o s : Nat} {P : ab_Po} {f : Nat → ab_Sy} (hc : pt_Po sh R o) (ha : po_at I o P) (hy : pt_Sy sh R s) (hf : sy_at I L s f) (hQ : ∀ b : Bool, (b = true ↔ po_no f P.2) → Q (some (.int (bI b))) (n, sh, X, R, I, L)) : gw_Call y_Po_speaksOfNothing d 0 0 [.ref o, .ref s] (n, sh, X, R, I, L) Q := by
  obtain ⟨c0, c1, c2, c3, r2, r3, r4⟩ := hc
  obtain ⟨a1, a2, a3, a4⟩ := ha
  obtain ⟨y0, y1, y2, z0, z1⟩ := hy
  refine gw_call o_Po_speaksOfNothing (Nat.le_of_ble_eq_true rfl) ?_
  have loop : ∀ (ts : List (Nat × Nat × Nat)) (i : Nat) (x : Int32), x = nI i → i ≤ P.2.length → P.2.drop i = ts → (po_no f P.2 ↔ po_no f ts) → gw_Go y_Po_speaksOfNothing d 0 0 2 [some (.ref o), some (.ref s), some (.int x)] [] (n, sh, X, R, I, L) Q := by
    intro ts
    induction ts with
    | nil =>
      intro i x hx h0 hd hs
      have hi := gw_dropE hd
      refine go_iload_n 2 d_Po_speaksOfNothing_2 rfl rfl ?_
      refine go_aload_n 0 d_Po_speaksOfNothing_3 rfl rfl ?_
      refine go_getI d_Po_speaksOfNothing_4 f_Po_25 (by assumption) ?_
      refine go_icmp_ge 48 d_Po_speaksOfNothing_7 rfl (fun _ => ?_) (fun hn => absurd (by rw [a2, hx]; exact nI_le hi (by omega)) hn)
      refine go_iconst (v := 0) d_Po_speaksOfNothing_48 rfl ?_
      exact go_zret d_Po_speaksOfNothing_49 rfl (by first | exact Or.inl rfl | exact Or.inr rfl | assumption) (hQ false ⟨fun h => (by cases h), fun h => by obtain ⟨t, h1, _⟩ := hs.mp h; cases h1⟩)
    | cons t ts ih =>
      intro i x hx h0 hd hs
      obtain ⟨hi, ht, hn⟩ := gw_drop hd
      obtain ⟨b1, b2, b3, b4, b5⟩ := a4 i t ht
      have fa := hf t.2.1 b4
      have fb := hf t.2.2 b5
      refine go_iload_n 2 d_Po_speaksOfNothing_2 rfl rfl ?_
      refine go_aload_n 0 d_Po_speaksOfNothing_3 rfl rfl ?_
      refine go_getI d_Po_speaksOfNothing_4 f_Po_25 (by assumption) ?_
      refine go_icmp_ge 48 d_Po_speaksOfNothing_7 rfl (fun hn => absurd hn (by rw [a2, hx]; exact nI_ge hi (by omega))) (fun _ => ?_)
      refine go_aload_n 1 d_Po_speaksOfNothing_10 rfl rfl ?_
      refine go_getR d_Po_speaksOfNothing_11 f_Po_28 (by assumption) (by assumption) ?_
      refine go_aload_n 0 d_Po_speaksOfNothing_14 rfl rfl ?_
      refine go_getR d_Po_speaksOfNothing_15 f_Po_15 (by assumption) (by assumption) ?_
      refine go_iload_n 2 d_Po_speaksOfNothing_18 rfl rfl ?_
      refine go_iald (i) d_Po_speaksOfNothing_19 (by assumption) (hx) (by omega) (by decide) ?_
      refine go_iald (t.2.1) d_Po_speaksOfNothing_20 (by assumption) (b2) (b4) (by decide) ?_
      refine go_iconst (v := (-1)) d_Po_speaksOfNothing_21 rfl ?_
      refine go_icmp_eq 40 d_Po_speaksOfNothing_22 rfl (fun h22 => ?_) (fun h22 => ?_)
      · refine go_iconst (v := 1) d_Po_speaksOfNothing_40 rfl ?_
        first | exact go_zret d_Po_speaksOfNothing_41 rfl (Or.inr rfl) (hQ true ⟨fun _ => hs.mpr ⟨t, List.mem_cons_self, Or.inr ((sd_none fb).mp h37)⟩, fun _ => rfl⟩) | exact go_zret d_Po_speaksOfNothing_41 rfl (Or.inr rfl) (hQ true ⟨fun _ => hs.mpr ⟨t, List.mem_cons_self, Or.inl ((sd_none fa).mp h22)⟩, fun _ => rfl⟩)
      · refine go_aload_n 1 d_Po_speaksOfNothing_25 rfl rfl ?_
        refine go_getR d_Po_speaksOfNothing_26 f_Po_28 (by assumption) (by assumption) ?_
        refine go_aload_n 0 d_Po_speaksOfNothing_29 rfl rfl ?_
        refine go_getR d_Po_speaksOfNothing_30 f_Po_18 (by assumption) (by assumption) ?_
        refine go_iload_n 2 d_Po_speaksOfNothing_33 rfl rfl ?_
        refine go_iald (i) d_Po_speaksOfNothing_34 (by assumption) (hx) (by omega) (by decide) ?_
        refine go_iald (t.2.2) d_Po_speaksOfNothing_35 (by assumption) (b3) (b5) (by decide) ?_
        refine go_iconst (v := (-1)) d_Po_speaksOfNothing_36 rfl ?_
        refine go_icmp_ne 42 d_Po_speaksOfNothing_37 rfl (fun h37 => ?_) (fun h37 => ?_)
        · refine go_iinc d_Po_speaksOfNothing_42 rfl rfl (Nat.le_of_ble_eq_true rfl) ?_
          refine go_goto 2 d_Po_speaksOfNothing_45 rfl ?_
          exact ih (i + 1) _ (gw_inc hx) (by omega) hn (hs.trans ⟨fun ⟨q, h1, h2⟩ => by rcases List.mem_cons.mp h1 with rfl | h1; (rcases h2 with h2 | h2; exact absurd ((sd_none fa).mpr h2) h22; exact absurd ((sd_none fb).mpr h2) h37); exact ⟨q, h1, h2⟩, fun ⟨q, h1, h2⟩ => ⟨q, List.mem_cons_of_mem _ h1, h2⟩⟩)
        · refine go_iconst (v := 1) d_Po_speaksOfNothing_40 rfl ?_
          first | exact go_zret d_Po_speaksOfNothing_41 rfl (Or.inr rfl) (hQ true ⟨fun _ => hs.mpr ⟨t, List.mem_cons_self, Or.inr ((sd_none fb).mp h37)⟩, fun _ => rfl⟩) | exact go_zret d_Po_speaksOfNothing_41 rfl (Or.inr rfl) (hQ true ⟨fun _ => hs.mpr ⟨t, List.mem_cons_self, Or.inl ((sd_none fa).mp h22)⟩, fun _ => rfl⟩)
  refine go_iconst (v := 0) d_Po_speaksOfNothing_0 rfl ?_
  refine go_istore_n 2 d_Po_speaksOfNothing_1 rfl (Nat.le_of_ble_eq_true rfl) ?_
  exact loop _ 0 _ rfl (by omega) rfl Iff.rfl
end KN4
