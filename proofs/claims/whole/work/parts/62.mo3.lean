/-! the reference: claim, base, term -/
theorem mc_at.cut {I I' : Nat → Nat → Int32} {U : Nat → ab_Me} {k i : Nat} {e : Nat × ab_Cu} {A : ab_Cu} (hc : mc_at I U) (hk : k < 4) (he : (U k).2.1[i]? = some e) (h1 : ∀ q, 534 ≤ q → q < 540 → I' q = I q) (h2 : ∀ c, c ≠ 6 * k + i → mu_eq I I' c) (h3 : mu_at I' (6 * k + i) A) : mc_at I' (va_up U k ((U k).1, (U k).2.1.set i (e.1, A), (U k).2.2)) := by
  intro m hm
  have hi : i < 6 := ge_lt he (hc k hk).2.2.2.2.2.1
  by_cases hmk : m = k
  · subst hmk
    rw [gw_up_eq]
    obtain ⟨a1, a2, a3, a4, a5, a6, a7⟩ := hc m hk
    refine ⟨by rw [h1 _ (by decide) (by decide)]; exact a1, a2, fun j t ht => by rw [h1 _ (by decide) (by decide), h1 _ (by decide) (by decide)]; exact a3 j t ht, by rw [h1 _ (by decide) (by decide)]; exact a4, by rw [h1 _ (by decide) (by decide), List.length_set]; exact a5, by rw [List.length_set]; exact a6, fun j c hh => ?_⟩
    rcases st_or hh with ⟨rfl, rfl⟩ | ⟨hne, hj⟩
    · exact ⟨by rw [h1 _ (by decide) (by decide)]; exact (a7 j e he).1, h3⟩
    · exact ⟨by rw [h1 _ (by decide) (by decide)]; exact (a7 j c hj).1, (a7 j c hj).2.ptw (h2 _ (by omega))⟩
  · rw [gw_up_ne hmk]
    exact (hc m hm).ptw (mk_eq.row (fun q a b => h1 q (by omega) (by omega))) (by rw [h1 _ (by decide) (by decide)]) ⟨by rw [h1 _ (by decide) (by decide)], fun j hj => ⟨by rw [h1 _ (by decide) (by decide)], h2 _ (by omega)⟩⟩
theorem cut_same {l : List (Nat × ab_Cu)} {i : Nat} {e e' : Nat × ab_Cu} {y : Int32} (hu : ∀ (i j : Nat) (e f : Nat × ab_Cu), l[i]? = some e → l[j]? = some f → nI e.1 = nI f.1 → i = j) (he : l[i]? = some e) (h1 : nI e.1 = y) (h2 : e' ∈ l) (h3 : nI e'.1 = y) : e' = e := by
  obtain ⟨j, hj⟩ := List.mem_iff_getElem?.mp h2
  have := hu i j e e' he hj (h1.trans h3.symm)
  subst this
  rw [he] at hj
  exact (Option.some.inj hj).symm
section MO
variable {d n : Nat} {sh : Nat → Nat × Nat} {X : Nat × (Nat → Int32)} {R : Nat → Nat → Option Nat} {I : Nat → Nat → Int32} {L : Nat → Nat → Int64} {Q : Option Value → gw_Mem → Prop}
variable {U : Nat → ab_Me}
theorem c_Mo_claim {x y a b c : Int32} (hp : pt_Mo sh R) (hc : mc_at I U)
    (hf : ¬ (∃ k e, k < 4 ∧ x = nI k ∧ e ∈ (U k).2.1 ∧ nI e.1 = y ∧ ((0 ≤ a ∧ a ≤ 4) ∧ (0 ≤ b ∧ b ≤ 4) ∧ a ≠ b) ∧ (-1000 ≤ c ∧ c ≤ 1000) ∧ e.2.1.length < 6) → Q (some (.int 0)) (n, sh, X, R, I, L))
    (hu : ∀ k, k < 4 → ∀ (i j : Nat) (e f : Nat × ab_Cu), (U k).2.1[i]? = some e → (U k).2.1[j]? = some f → nI e.1 = nI f.1 → i = j)
    (hQ : ∀ k i e a' b', k < 4 → x = nI k → (U k).2.1[i]? = some e → nI e.1 = y → a' < 5 → a = nI a' → b' < 5 → b = nI b' → a' ≠ b' → (-1000 ≤ c ∧ c ≤ 1000) → e.2.1.length < 6 → ∀ I', mc_at I' (cc_chg k (va_up U k ((U k).1, (U k).2.1.set i (e.1, (e.2.1 ++ [(a', b', c)], e.2.2)), (U k).2.2))) → (∀ q, q < 534 ∨ 549 ≤ q → I' q = I q) → Q (some (.int 1)) (n, sh, X, R, I', L)) : gw_Call y_Mo_claim (d + 2) 0 0 [.ref 533, .int x, .int y, .int a, .int b, .int c] (n, sh, X, R, I, L) Q := by
  have hp0 := hp
  obtain ⟨s533, s534, s535, s536, s537, s538, s539, s540, s541, s542, s543, s544, s545, s546, s547, s548, s549, s550, s551, s552, s553, s554, s555, s556, s557, r534, r535, r536, r537, r538, r539, r540, r541, r542, r543, r544, r545, r546, r547, r548, r549, r550, r551, r552, r553, r554, r555, r556, r557⟩ := hp
  refine gw_call o_Mo_claim (Nat.le_of_ble_eq_true rfl) ?_
  refine go_aload_n 0 d_Mo_claim_0 rfl rfl ?_
  refine go_iload_n 1 d_Mo_claim_1 rfl rfl ?_
  refine go_iload_n 2 d_Mo_claim_2 rfl rfl ?_
  refine go_V2 d_Mo_claim_3 k_Mo_106 (by assumption) (Nat.le_of_ble_eq_true rfl) (c_Mo_cutAt hp0 hc (fun hno => ?hno) (fun k i e a1 a2 a3 a4 a5 => ?_))
  case hno =>
    refine go_istore d_Mo_claim_6 (Nat.le_of_ble_eq_true rfl) ?_
    refine go_iload d_Mo_claim_8 rfl ?_
    refine go_if_lt 59 d_Mo_claim_10 rfl (fun _ => ?_) (fun hn => absurd (by decide) hn)
    refine go_iconst (v := 0) d_Mo_claim_59 rfl ?_
    exact go_zret d_Mo_claim_60 rfl (by first | exact Or.inl rfl | exact Or.inr rfl | assumption) (hf (fun ⟨k', e, q1, q2, q3, q4, _⟩ => hno ⟨k', e, q1, q2, q3, q4⟩))
  subst a2
  obtain ⟨g1, g2⟩ := (hc k a1).2.2.2.2.2.2 i e a3
  obtain ⟨u1, u2, u3, u4, u5⟩ := g2
  refine go_istore d_Mo_claim_6 (Nat.le_of_ble_eq_true rfl) ?_
  refine go_iload d_Mo_claim_8 rfl ?_
  refine go_if_lt 59 d_Mo_claim_10 rfl (fun hn => absurd hn (nI_pos (by omega))) (fun _ => ?_)
  refine go_iload_n 3 d_Mo_claim_13 rfl rfl ?_
  refine go_i2l d_Mo_claim_14 (rfl) ?_
  refine go_lconst (v := 0) d_Mo_claim_15 rfl ?_
  refine go_ldc2 d_Mo_claim_16 i_Mo_110 ?_
  refine go_S3 d_Mo_claim_19 k_Mo_86 (Nat.le_of_ble_eq_true rfl) (c_Mo_in (l := 0) (h := 4) rfl rfl (fun b1 k1 z1 => ?_))
  refine go_if_eq 59 d_Mo_claim_22 rfl (fun h22 => ?_) (fun h22 => ?_)
  · refine go_iconst (v := 0) d_Mo_claim_59 rfl ?_
    exact go_zret d_Mo_claim_60 rfl (by first | exact Or.inl rfl | exact Or.inr rfl | assumption) (hf (fun ⟨k', e', q1, q2, q3, q4, ⟨q5, q6, q7⟩, q8, q9⟩ => by first | exact k1.mpr q5 h22 | exact k2.mpr q6 h35 | exact q7 h41 | exact k3.mpr q8 h56))
  · refine go_iload d_Mo_claim_25 rfl ?_
    refine go_i2l d_Mo_claim_27 (rfl) ?_
    refine go_lconst (v := 0) d_Mo_claim_28 rfl ?_
    refine go_ldc2 d_Mo_claim_29 i_Mo_110 ?_
    refine go_S3 d_Mo_claim_32 k_Mo_86 (Nat.le_of_ble_eq_true rfl) (c_Mo_in (l := 0) (h := 4) rfl rfl (fun b2 k2 z2 => ?_))
    refine go_if_eq 59 d_Mo_claim_35 rfl (fun h35 => ?_) (fun h35 => ?_)
    · refine go_iconst (v := 0) d_Mo_claim_59 rfl ?_
      exact go_zret d_Mo_claim_60 rfl (by first | exact Or.inl rfl | exact Or.inr rfl | assumption) (hf (fun ⟨k', e', q1, q2, q3, q4, ⟨q5, q6, q7⟩, q8, q9⟩ => by first | exact k1.mpr q5 h22 | exact k2.mpr q6 h35 | exact q7 h41 | exact k3.mpr q8 h56))
    · refine go_iload_n 3 d_Mo_claim_38 rfl rfl ?_
      refine go_iload d_Mo_claim_39 rfl ?_
      refine go_icmp_eq 59 d_Mo_claim_41 rfl (fun h41 => ?_) (fun h41 => ?_)
      · refine go_iconst (v := 0) d_Mo_claim_59 rfl ?_
        exact go_zret d_Mo_claim_60 rfl (by first | exact Or.inl rfl | exact Or.inr rfl | assumption) (hf (fun ⟨k', e', q1, q2, q3, q4, ⟨q5, q6, q7⟩, q8, q9⟩ => by first | exact k1.mpr q5 h22 | exact k2.mpr q6 h35 | exact q7 h41 | exact k3.mpr q8 h56))
      · refine go_iload d_Mo_claim_44 rfl ?_
        refine go_i2l d_Mo_claim_46 (rfl) ?_
        refine go_ldc2 d_Mo_claim_47 i_Mo_92 ?_
        refine go_ldc2 d_Mo_claim_50 i_Mo_94 ?_
        refine go_S3 d_Mo_claim_53 k_Mo_86 (Nat.le_of_ble_eq_true rfl) (c_Mo_in (l := -1000) (h := 1000) rfl rfl (fun b3 k3 z3 => ?_))
        refine go_if_ne 61 d_Mo_claim_56 rfl (fun h56 => ?_) (fun h56 => ?_)
        · obtain ⟨a', ha', rfl⟩ := nI_of2 (n := 4) (by decide) (Int32.not_lt.mpr (k1.mp h22).1) (k1.mp h22).2
          obtain ⟨b', hb', rfl⟩ := nI_of2 (n := 4) (by decide) (Int32.not_lt.mpr (k2.mp h35).1) (k2.mp h35).2
          refine go_aload_n 0 d_Mo_claim_61 rfl rfl ?_
          refine go_getR d_Mo_claim_62 f_Mo_29 (by assumption) (by assumption) ?_
          refine go_iload d_Mo_claim_65 rfl ?_
          refine go_iald (6 * k + i) d_Mo_claim_67 (by assumption) (rfl) (by omega) (by decide) ?_
          refine go_bipush (v := 6) d_Mo_claim_68 rfl ?_
          refine go_icmp_ne 75 d_Mo_claim_70 rfl (fun h70 => ?_) (fun h70 => ?_)
          · have hlen : e.2.1.length < 6 := by rcases Nat.lt_or_ge e.2.1.length 6 with h | h; exact h; exact absurd (by rw [u1, show e.2.1.length = 6 by omega]; rfl) h70
            refine go_bipush (v := 6) d_Mo_claim_75 rfl ?_
            refine go_iload d_Mo_claim_77 rfl ?_
            refine go_imul d_Mo_claim_79 ?_
            refine go_aload_n 0 d_Mo_claim_80 rfl rfl ?_
            refine go_getR d_Mo_claim_81 f_Mo_29 (by assumption) (by assumption) ?_
            refine go_iload d_Mo_claim_84 rfl ?_
            refine go_iald (6 * k + i) d_Mo_claim_86 (by assumption) (rfl) (by omega) (by decide) ?_
            refine go_iadd d_Mo_claim_87 ?_
            rw [u1, show (6 : Int32) * nI (6 * k + i) + nI e.2.1.length = nI (6 * (6 * k + i) + e.2.1.length) from ix (a := 6)]
            refine go_istore d_Mo_claim_88 (Nat.le_of_ble_eq_true rfl) ?_
            refine go_aload_n 0 d_Mo_claim_90 rfl rfl ?_
            refine go_getR d_Mo_claim_91 f_Mo_32 (by assumption) (by assumption) ?_
            refine go_iload d_Mo_claim_94 rfl ?_
            refine go_iload_n 3 d_Mo_claim_96 rfl rfl ?_
            refine go_iast (6 * (6 * k + i) + e.2.1.length) d_Mo_claim_97 (by assumption) (rfl) (by omega) (by decide) ?_
            refine go_aload_n 0 d_Mo_claim_98 rfl rfl ?_
            refine go_getR d_Mo_claim_99 f_Mo_35 (by assumption) (by assumption) ?_
            refine go_iload d_Mo_claim_102 rfl ?_
            refine go_iload d_Mo_claim_104 rfl ?_
            refine go_iast (6 * (6 * k + i) + e.2.1.length) d_Mo_claim_106 (by assumption) (rfl) (by omega) (by decide) ?_
            refine go_aload_n 0 d_Mo_claim_107 rfl rfl ?_
            refine go_getR d_Mo_claim_108 f_Mo_38 (by assumption) (by assumption) ?_
            refine go_iload d_Mo_claim_111 rfl ?_
            refine go_iload d_Mo_claim_113 rfl ?_
            refine go_iast (6 * (6 * k + i) + e.2.1.length) d_Mo_claim_115 (by assumption) (rfl) (by omega) (by decide) ?_
            refine go_aload_n 0 d_Mo_claim_116 rfl rfl ?_
            refine go_getR d_Mo_claim_117 f_Mo_29 (by assumption) (by assumption) ?_
            refine go_iload d_Mo_claim_120 rfl ?_
            refine go_dup2 d_Mo_claim_122 rfl rfl ?_
            refine go_iald (6 * k + i) d_Mo_claim_123 (by assumption) (rfl) (by omega) (by decide) ?_
            refine go_iconst (v := 1) d_Mo_claim_124 rfl ?_
            refine go_iadd d_Mo_claim_125 ?_
            refine go_iast (6 * k + i) d_Mo_claim_126 (by assumption) (rfl) (by omega) (by decide) ?_
            refine go_aload_n 0 d_Mo_claim_127 rfl rfl ?_
            refine go_iload_n 1 d_Mo_claim_128 rfl rfl ?_
            refine go_V1 d_Mo_claim_129 k_Mo_96 (by assumption) (Nat.le_of_ble_eq_true rfl) (c_Mo_changed (U := va_up U k ((U k).1, (U k).2.1.set i (e.1, (e.2.1 ++ [(a', b', c)], e.2.2)), (U k).2.2)) hp0 (hc.cut a1 a3 (fun q h1 h2 => by rw [gw_up_ne (by omega), gw_up_ne (by omega), gw_up_ne (by omega), gw_up_ne (by omega)]) ?h2 ?h3) a1 (fun I4 e1 e2 => ?_))
            case h2 => exact fun c' hc' => ⟨by simp (disch := omega) only [up2_eq, up2_ne], fun j hj => ⟨by simp (disch := omega) only [up2_eq, up2_ne], by simp (disch := omega) only [up2_eq, up2_ne], by simp (disch := omega) only [up2_eq, up2_ne]⟩, mp_eq.row (fun q h1 h2 => by rw [gw_up_ne (by omega), gw_up_ne (by omega), gw_up_ne (by omega), gw_up_ne (by omega)]), mp_eq.row (fun q h1 h2 => by rw [gw_up_ne (by omega), gw_up_ne (by omega), gw_up_ne (by omega), gw_up_ne (by omega)])⟩
            case h3 =>
              refine ⟨by simp (disch := omega) only [up2_eq, up2_ne]; rw [u1, List.length_append, nI_1]; rfl, by rw [List.length_append]; exact hlen, fun j t ht => ?_, u4.ptw (mp_eq.row (fun q h1 h2 => by rw [gw_up_ne (by omega), gw_up_ne (by omega), gw_up_ne (by omega), gw_up_ne (by omega)])), u5.ptw (mp_eq.row (fun q h1 h2 => by rw [gw_up_ne (by omega), gw_up_ne (by omega), gw_up_ne (by omega), gw_up_ne (by omega)]))⟩
              rcases ap_or ht with ⟨h1, h2⟩ | ⟨rfl, rfl⟩
              · have := u3 j t h2; simp (disch := omega) only [up2_eq, up2_ne]; exact this
              · exact ⟨by simp (disch := omega) only [up2_eq, up2_ne], by simp (disch := omega) only [up2_eq, up2_ne], by simp (disch := omega) only [up2_eq, up2_ne], by show a' < 5; omega, by show b' < 5; omega⟩
            refine go_iconst (v := 1) d_Mo_claim_132 rfl ?_
            exact go_zret d_Mo_claim_133 rfl (by first | exact Or.inl rfl | exact Or.inr rfl | assumption) (hQ k i e a' b' a1 rfl a3 a4 (by omega) rfl (by omega) rfl (fun hab => h41 (by rw [hab])) (k3.mp h56) hlen I4 e1 (fun q hq => by rw [e2 q (by omega), gw_up_ne (by omega), gw_up_ne (by omega), gw_up_ne (by omega), gw_up_ne (by omega)]))
          · refine go_iconst (v := 0) d_Mo_claim_73 rfl ?_
            exact go_zret d_Mo_claim_74 rfl (by first | exact Or.inl rfl | exact Or.inr rfl | assumption) (hf (fun ⟨k', e', q1, q2, q3, q4, ⟨q5, q6, q7⟩, q8, q9⟩ => by have ek := (nI_eq (by omega) (by omega)).mp q2; subst ek; have ee := cut_same (hu k a1) a3 a4 q3 q4; subst ee; exact absurd ((nI_eq (b := 6) (by omega) (by decide)).mp (u1.symm.trans h70)) (by omega)))
        · refine go_iconst (v := 0) d_Mo_claim_59 rfl ?_
          exact go_zret d_Mo_claim_60 rfl (by first | exact Or.inl rfl | exact Or.inr rfl | assumption) (hf (fun ⟨k', e', q1, q2, q3, q4, ⟨q5, q6, q7⟩, q8, q9⟩ => by first | exact k1.mpr q5 h22 | exact k2.mpr q6 h35 | exact q7 h41 | exact k3.mpr q8 h56))
theorem c_Mo_base {x y a b : Int32} (hp : pt_Mo sh R) (hc : mc_at I U)
    (hf : ¬ (∃ k e, k < 4 ∧ x = nI k ∧ e ∈ (U k).2.1 ∧ nI e.1 = y ∧ (0 ≤ a ∧ a ≤ 1) ∧ (-10000 ≤ b ∧ b ≤ 10000)) → Q (some (.int 0)) (n, sh, X, R, I, L))
    (hQ : ∀ k i e v, k < 4 → x = nI k → (U k).2.1[i]? = some e → nI e.1 = y → v < 2 → a = nI v → (-10000 ≤ b ∧ b ≤ 10000) → ∀ I', mc_at I' (cc_chg k (va_up U k ((U k).1, (U k).2.1.set i (e.1, cu_setp v (b, (cu_pot v e.2).2) e.2), (U k).2.2))) → (∀ q, q < 534 ∨ 549 ≤ q → I' q = I q) → Q (some (.int 1)) (n, sh, X, R, I', L)) : gw_Call y_Mo_base (d + 2) 0 0 [.ref 533, .int x, .int y, .int a, .int b] (n, sh, X, R, I, L) Q := by
  have hp0 := hp
  obtain ⟨s533, s534, s535, s536, s537, s538, s539, s540, s541, s542, s543, s544, s545, s546, s547, s548, s549, s550, s551, s552, s553, s554, s555, s556, s557, r534, r535, r536, r537, r538, r539, r540, r541, r542, r543, r544, r545, r546, r547, r548, r549, r550, r551, r552, r553, r554, r555, r556, r557⟩ := hp
  refine gw_call o_Mo_base (Nat.le_of_ble_eq_true rfl) ?_
  refine go_aload_n 0 d_Mo_base_0 rfl rfl ?_
  refine go_iload_n 1 d_Mo_base_1 rfl rfl ?_
  refine go_iload_n 2 d_Mo_base_2 rfl rfl ?_
  refine go_V2 d_Mo_base_3 k_Mo_106 (by assumption) (Nat.le_of_ble_eq_true rfl) (c_Mo_cutAt hp0 hc (fun hno => ?hno) (fun k i e a1 a2 a3 a4 a5 => ?_))
  case hno =>
    refine go_istore d_Mo_base_6 (Nat.le_of_ble_eq_true rfl) ?_
    refine go_iload d_Mo_base_8 rfl ?_
    refine go_if_lt 38 d_Mo_base_10 rfl (fun _ => ?_) (fun hn => absurd (by decide) hn)
    refine go_iconst (v := 0) d_Mo_base_38 rfl ?_
    exact go_zret d_Mo_base_39 rfl (by first | exact Or.inl rfl | exact Or.inr rfl | assumption) (hf (fun ⟨k', e, q1, q2, q3, q4, _⟩ => hno ⟨k', e, q1, q2, q3, q4⟩))
  subst a2
  obtain ⟨g1, g2⟩ := (hc k a1).2.2.2.2.2.2 i e a3
  obtain ⟨u1, u2, u3, u4, u5⟩ := g2
  refine go_istore d_Mo_base_6 (Nat.le_of_ble_eq_true rfl) ?_
  refine go_iload d_Mo_base_8 rfl ?_
  refine go_if_lt 38 d_Mo_base_10 rfl (fun hn => absurd hn (nI_pos (by omega))) (fun _ => ?_)
  refine go_iload_n 3 d_Mo_base_13 rfl rfl ?_
  refine go_i2l d_Mo_base_14 (rfl) ?_
  refine go_lconst (v := 0) d_Mo_base_15 rfl ?_
  refine go_lconst (v := 1) d_Mo_base_16 rfl ?_
  refine go_S3 d_Mo_base_17 k_Mo_86 (Nat.le_of_ble_eq_true rfl) (c_Mo_in (l := 0) (h := 1) rfl rfl (fun b1 k1 z1 => ?_))
  refine go_if_eq 38 d_Mo_base_20 rfl (fun h20 => ?_) (fun h20 => ?_)
  · refine go_iconst (v := 0) d_Mo_base_38 rfl ?_
    exact go_zret d_Mo_base_39 rfl (by first | exact Or.inl rfl | exact Or.inr rfl | assumption) (hf (fun ⟨k', e', q1, q2, q3, q4, q5, q6⟩ => by first | exact k1.mpr q5 h20 | exact k3.mpr q6 h35))
  · refine go_iload d_Mo_base_23 rfl ?_
    refine go_i2l d_Mo_base_25 (rfl) ?_
    refine go_ldc2 d_Mo_base_26 i_Mo_112 ?_
    refine go_ldc2 d_Mo_base_29 i_Mo_114 ?_
    refine go_S3 d_Mo_base_32 k_Mo_86 (Nat.le_of_ble_eq_true rfl) (c_Mo_in (l := -10000) (h := 10000) rfl rfl (fun b3 k3 z3 => ?_))
    refine go_if_ne 40 d_Mo_base_35 rfl (fun h35 => ?_) (fun h35 => ?_)
    · obtain ⟨v, hv, rfl⟩ := nI_of2 (n := 1) (by decide) (Int32.not_lt.mpr (k1.mp h20).1) (k1.mp h20).2
      refine go_aload_n 0 d_Mo_base_40 rfl rfl ?_
      refine go_getR d_Mo_base_41 f_Mo_41 (by assumption) (by assumption) ?_
      refine go_iconst (v := 2) d_Mo_base_44 rfl ?_
      refine go_iload d_Mo_base_45 rfl ?_
      refine go_imul d_Mo_base_47 ?_
      refine go_iload_n 3 d_Mo_base_48 rfl rfl ?_
      refine go_iadd d_Mo_base_49 ?_
      refine go_iload d_Mo_base_50 rfl ?_
      refine go_iast (2 * (6 * k + i) + v) d_Mo_base_52 (by assumption) (ix (a := 2)) (by omega) (by decide) ?_
      refine go_aload_n 0 d_Mo_base_53 rfl rfl ?_
      refine go_iload_n 1 d_Mo_base_54 rfl rfl ?_
      refine go_V1 d_Mo_base_55 k_Mo_96 (by assumption) (Nat.le_of_ble_eq_true rfl) (c_Mo_changed (U := va_up U k ((U k).1, (U k).2.1.set i (e.1, cu_setp v (b, (cu_pot v e.2).2) e.2), (U k).2.2)) hp0 (hc.cut a1 a3 (fun q h1 h2 => by rw [gw_up_ne (by omega)]) ?h2 ?h3) a1 (fun I4 e1 e2 => ?_))
      case h2 => exact fun c' hc' => ⟨by simp (disch := omega) only [up2_eq, up2_ne], fun j hj => ⟨by simp (disch := omega) only [up2_eq, up2_ne], by simp (disch := omega) only [up2_eq, up2_ne], by simp (disch := omega) only [up2_eq, up2_ne]⟩, ⟨by simp (disch := omega) only [up2_eq, up2_ne], by simp (disch := omega) only [up2_eq, up2_ne], fun j hj => ⟨by simp (disch := omega) only [up2_eq, up2_ne], by simp (disch := omega) only [up2_eq, up2_ne], by simp (disch := omega) only [up2_eq, up2_ne]⟩⟩, ⟨by simp (disch := omega) only [up2_eq, up2_ne], by simp (disch := omega) only [up2_eq, up2_ne], fun j hj => ⟨by simp (disch := omega) only [up2_eq, up2_ne], by simp (disch := omega) only [up2_eq, up2_ne], by simp (disch := omega) only [up2_eq, up2_ne]⟩⟩⟩
      case h3 =>
        rcases (show v = 0 ∨ v = 1 by omega) with rfl | rfl
        · exact ⟨by simp (disch := omega) only [up2_eq, up2_ne]; exact u1, u2, fun j t ht => (by have := u3 j t ht; simp (disch := omega) only [up2_eq, up2_ne]; exact this), ⟨by rw [Nat.add_zero]; simp (disch := omega) only [up2_eq, up2_ne] <;> rfl, by simp (disch := omega) only [up2_eq, up2_ne]; exact u4.2.1, u4.2.2.1, fun j t ht => (by have := u4.2.2.2 j t ht; simp (disch := omega) only [up2_eq, up2_ne]; exact this)⟩, u5.ptw ⟨by simp (disch := omega) only [up2_eq, up2_ne], by simp (disch := omega) only [up2_eq, up2_ne], fun j hj => ⟨by simp (disch := omega) only [up2_eq, up2_ne], by simp (disch := omega) only [up2_eq, up2_ne], by simp (disch := omega) only [up2_eq, up2_ne]⟩⟩⟩
        · exact ⟨by simp (disch := omega) only [up2_eq, up2_ne]; exact u1, u2, fun j t ht => (by have := u3 j t ht; simp (disch := omega) only [up2_eq, up2_ne]; exact this), u4.ptw ⟨by simp (disch := omega) only [up2_eq, up2_ne], by simp (disch := omega) only [up2_eq, up2_ne], fun j hj => ⟨by simp (disch := omega) only [up2_eq, up2_ne], by simp (disch := omega) only [up2_eq, up2_ne], by simp (disch := omega) only [up2_eq, up2_ne]⟩⟩, ⟨by simp (disch := omega) only [up2_eq, up2_ne] <;> rfl, by simp (disch := omega) only [up2_eq, up2_ne]; exact u5.2.1, u5.2.2.1, fun j t ht => (by have := u5.2.2.2 j t ht; simp (disch := omega) only [up2_eq, up2_ne]; exact this)⟩⟩
      refine go_iconst (v := 1) d_Mo_base_58 rfl ?_
      exact go_zret d_Mo_base_59 rfl (by first | exact Or.inl rfl | exact Or.inr rfl | assumption) (hQ k i e v a1 rfl a3 a4 (by omega) rfl (k3.mp h35) I4 e1 (fun q hq => by rw [e2 q (by omega), gw_up_ne (by omega)]))
    · refine go_iconst (v := 0) d_Mo_base_38 rfl ?_
      exact go_zret d_Mo_base_39 rfl (by first | exact Or.inl rfl | exact Or.inr rfl | assumption) (hf (fun ⟨k', e', q1, q2, q3, q4, q5, q6⟩ => by first | exact k1.mpr q5 h20 | exact k3.mpr q6 h35))
theorem c_Mo_term {x y a f z : Int32} (hp : pt_Mo sh R) (hc : mc_at I U)
    (hu : ∀ k, k < 4 → ∀ (i j : Nat) (e f : Nat × ab_Cu), (U k).2.1[i]? = some e → (U k).2.1[j]? = some f → nI e.1 = nI f.1 → i = j)
    (hf : ¬ (∃ k e v s, k < 4 ∧ x = nI k ∧ e ∈ (U k).2.1 ∧ nI e.1 = y ∧ v < 2 ∧ a = nI v ∧ (1 ≤ f ∧ f ≤ 100) ∧ s < 25 ∧ z = nI s ∧ s / 5 ≠ s % 5 ∧ (cu_pot v e.2).2.length < 3) → Q (some (.int 0)) (n, sh, X, R, I, L))
    (hQ : ∀ k i e v g s, k < 4 → x = nI k → (U k).2.1[i]? = some e → nI e.1 = y → v < 2 → a = nI v → 1 ≤ g → g ≤ 100 → f = nI g → s < 25 → z = nI s → s / 5 ≠ s % 5 → (cu_pot v e.2).2.length < 3 → ∀ I', mc_at I' (cc_chg k (va_up U k ((U k).1, (U k).2.1.set i (e.1, cu_setp v ((cu_pot v e.2).1, (cu_pot v e.2).2 ++ [(g, s / 5, s % 5)]) e.2), (U k).2.2))) → (∀ q, q < 534 ∨ 549 ≤ q → I' q = I q) → Q (some (.int 1)) (n, sh, X, R, I', L)) : gw_Call y_Mo_term (d + 2) 0 0 [.ref 533, .int x, .int y, .int a, .int f, .int z] (n, sh, X, R, I, L) Q := by
  have hp0 := hp
  obtain ⟨s533, s534, s535, s536, s537, s538, s539, s540, s541, s542, s543, s544, s545, s546, s547, s548, s549, s550, s551, s552, s553, s554, s555, s556, s557, r534, r535, r536, r537, r538, r539, r540, r541, r542, r543, r544, r545, r546, r547, r548, r549, r550, r551, r552, r553, r554, r555, r556, r557⟩ := hp
  refine gw_call o_Mo_term (Nat.le_of_ble_eq_true rfl) ?_
  refine go_aload_n 0 d_Mo_term_0 rfl rfl ?_
  refine go_iload_n 1 d_Mo_term_1 rfl rfl ?_
  refine go_iload_n 2 d_Mo_term_2 rfl rfl ?_
  refine go_V2 d_Mo_term_3 k_Mo_106 (by assumption) (Nat.le_of_ble_eq_true rfl) (c_Mo_cutAt hp0 hc (fun hno => ?hno) (fun k i e a1 a2 a3 a4 a5 => ?_))
  case hno =>
    refine go_istore d_Mo_term_6 (Nat.le_of_ble_eq_true rfl) ?_
    refine go_iload d_Mo_term_8 rfl ?_
    refine go_if_lt 60 d_Mo_term_10 rfl (fun _ => ?_) (fun hn => absurd (by decide) hn)
    refine go_iconst (v := 0) d_Mo_term_60 rfl ?_
    exact go_zret d_Mo_term_61 rfl (by first | exact Or.inl rfl | exact Or.inr rfl | assumption) (hf (fun ⟨k', e, v, s, q1, q2, q3, q4, _⟩ => hno ⟨k', e, q1, q2, q3, q4⟩))
  subst a2
  obtain ⟨g1, g2⟩ := (hc k a1).2.2.2.2.2.2 i e a3
  obtain ⟨u1, u2, u3, u4, u5⟩ := g2
  refine go_istore d_Mo_term_6 (Nat.le_of_ble_eq_true rfl) ?_
  refine go_iload d_Mo_term_8 rfl ?_
  refine go_if_lt 60 d_Mo_term_10 rfl (fun hn => absurd hn (nI_pos (by omega))) (fun _ => ?_)
  refine go_iload_n 3 d_Mo_term_13 rfl rfl ?_
  refine go_i2l d_Mo_term_14 (rfl) ?_
  refine go_lconst (v := 0) d_Mo_term_15 rfl ?_
  refine go_lconst (v := 1) d_Mo_term_16 rfl ?_
  refine go_S3 d_Mo_term_17 k_Mo_86 (Nat.le_of_ble_eq_true rfl) (c_Mo_in (l := 0) (h := 1) rfl rfl (fun b1 k1 z1 => ?_))
  refine go_if_eq 60 d_Mo_term_20 rfl (fun h20 => ?_) (fun h20 => ?_)
  · refine go_iconst (v := 0) d_Mo_term_60 rfl ?_
    exact go_zret d_Mo_term_61 rfl (by first | exact Or.inl rfl | exact Or.inr rfl | assumption) (hf (fun ⟨k', e', v', s', q1, q2, q3, q4, q5, q6, q7, q8, q9, q10, q11⟩ => by first | exact k1.mpr (by rw [q6]; exact ⟨nI_pos' (by omega), (nI_leI (b := 1) (by omega) (by decide)).mpr (by omega)⟩) h20 | exact k2.mpr q7 h33 | exact k3.mpr (by rw [q9]; exact ⟨nI_pos' (by omega), (nI_leI (b := 24) (by omega) (by decide)).mpr (by omega)⟩) h46 | (have es := (nI_eq (by omega) (by omega)).mp q9; subst es; exact absurd (Classical.byContradiction h57) (by rw [er, ed]; exact fun hh => q10 ((nI_eq (by omega) (by omega)).mp hh))) | (have es := (nI_eq (by omega) (by omega)).mp q9; subst es; exact absurd h57 (by rw [er, ed]; exact fun hh => q10 ((nI_eq (by omega) (by omega)).mp hh)))))
  · refine go_iload d_Mo_term_23 rfl ?_
    refine go_i2l d_Mo_term_25 (rfl) ?_
    refine go_lconst (v := 1) d_Mo_term_26 rfl ?_
    refine go_ldc2 d_Mo_term_27 i_Mo_116 ?_
    refine go_S3 d_Mo_term_30 k_Mo_86 (Nat.le_of_ble_eq_true rfl) (c_Mo_in (l := 1) (h := 100) rfl rfl (fun b2 k2 z2 => ?_))
    refine go_if_eq 60 d_Mo_term_33 rfl (fun h33 => ?_) (fun h33 => ?_)
    · refine go_iconst (v := 0) d_Mo_term_60 rfl ?_
      exact go_zret d_Mo_term_61 rfl (by first | exact Or.inl rfl | exact Or.inr rfl | assumption) (hf (fun ⟨k', e', v', s', q1, q2, q3, q4, q5, q6, q7, q8, q9, q10, q11⟩ => by first | exact k1.mpr (by rw [q6]; exact ⟨nI_pos' (by omega), (nI_leI (b := 1) (by omega) (by decide)).mpr (by omega)⟩) h20 | exact k2.mpr q7 h33 | exact k3.mpr (by rw [q9]; exact ⟨nI_pos' (by omega), (nI_leI (b := 24) (by omega) (by decide)).mpr (by omega)⟩) h46 | (have es := (nI_eq (by omega) (by omega)).mp q9; subst es; exact absurd (Classical.byContradiction h57) (by rw [er, ed]; exact fun hh => q10 ((nI_eq (by omega) (by omega)).mp hh))) | (have es := (nI_eq (by omega) (by omega)).mp q9; subst es; exact absurd h57 (by rw [er, ed]; exact fun hh => q10 ((nI_eq (by omega) (by omega)).mp hh)))))
    · refine go_iload d_Mo_term_36 rfl ?_
      refine go_i2l d_Mo_term_38 (rfl) ?_
      refine go_lconst (v := 0) d_Mo_term_39 rfl ?_
      refine go_ldc2 d_Mo_term_40 i_Mo_118 ?_
      refine go_S3 d_Mo_term_43 k_Mo_86 (Nat.le_of_ble_eq_true rfl) (c_Mo_in (l := 0) (h := 24) rfl rfl (fun b3 k3 z3 => ?_))
      refine go_if_eq 60 d_Mo_term_46 rfl (fun h46 => ?_) (fun h46 => ?_)
      · refine go_iconst (v := 0) d_Mo_term_60 rfl ?_
        exact go_zret d_Mo_term_61 rfl (by first | exact Or.inl rfl | exact Or.inr rfl | assumption) (hf (fun ⟨k', e', v', s', q1, q2, q3, q4, q5, q6, q7, q8, q9, q10, q11⟩ => by first | exact k1.mpr (by rw [q6]; exact ⟨nI_pos' (by omega), (nI_leI (b := 1) (by omega) (by decide)).mpr (by omega)⟩) h20 | exact k2.mpr q7 h33 | exact k3.mpr (by rw [q9]; exact ⟨nI_pos' (by omega), (nI_leI (b := 24) (by omega) (by decide)).mpr (by omega)⟩) h46 | (have es := (nI_eq (by omega) (by omega)).mp q9; subst es; exact absurd (Classical.byContradiction h57) (by rw [er, ed]; exact fun hh => q10 ((nI_eq (by omega) (by omega)).mp hh))) | (have es := (nI_eq (by omega) (by omega)).mp q9; subst es; exact absurd h57 (by rw [er, ed]; exact fun hh => q10 ((nI_eq (by omega) (by omega)).mp hh)))))
      · obtain ⟨s, hs, rfl⟩ := nI_of2 (n := 24) (by decide) (Int32.not_lt.mpr (k3.mp h46).1) (k3.mp h46).2
        have er : nI s - nI s / 5 * 5 = nI (s % 5) := pk_rem (d := 5) (by omega) (by decide) (by decide)
        have ed : nI s / 5 = nI (s / 5) := pk_div (d := 5) (by omega) (by decide) (by decide)
        refine go_iload d_Mo_term_49 rfl ?_
        refine go_iconst (v := 5) d_Mo_term_51 rfl ?_
        refine go_idiv d_Mo_term_52 (by decide) ?_
        refine go_iload d_Mo_term_53 rfl ?_
        refine go_iconst (v := 5) d_Mo_term_55 rfl ?_
        refine go_irem d_Mo_term_56 (by decide) ?_
        refine go_icmp_ne 62 d_Mo_term_57 rfl (fun h57 => ?_) (fun h57 => ?_)
        · have hne : s / 5 ≠ s % 5 := fun hh => h57 (by rw [er, ed, hh])
          obtain ⟨v, hv, rfl⟩ := nI_of2 (n := 1) (by decide) (Int32.not_lt.mpr (k1.mp h20).1) (k1.mp h20).2
          obtain ⟨g, hg, rfl⟩ := nI_of2 (n := 100) (by decide) (fun hh => absurd ((k2.mp h33).1) (fun h1 => absurd (Int32.lt_iff_toInt_lt.mp hh) (by have := Int32.le_iff_toInt_le.mp h1; have e1 : (1 : Int32).toInt = 1 := (by decide); have e0 : (0 : Int32).toInt = 0 := (by decide); omega))) (k2.mp h33).2
          have hg1 : 1 ≤ g := (nI_leI (a := 1) (by decide) (by omega)).mp (k2.mp h33).1
          have up : mp_at I (2 * (6 * k + i) + v) (cu_pot v e.2) := by rcases (show v = 0 ∨ v = 1 by omega) with rfl | rfl; exact u4; exact u5
          obtain ⟨w1, w2, w3, w4⟩ := up
          refine go_iconst (v := 2) d_Mo_term_62 rfl ?_
          refine go_iload d_Mo_term_63 rfl ?_
          refine go_imul d_Mo_term_65 ?_
          refine go_iload_n 3 d_Mo_term_66 rfl rfl ?_
          refine go_iadd d_Mo_term_67 ?_
          rw [show (2 : Int32) * nI (6 * k + i) + nI v = nI (2 * (6 * k + i) + v) from ix (a := 2)]
          refine go_istore d_Mo_term_68 (Nat.le_of_ble_eq_true rfl) ?_
          refine go_aload_n 0 d_Mo_term_70 rfl rfl ?_
          refine go_getR d_Mo_term_71 f_Mo_44 (by assumption) (by assumption) ?_
          refine go_iload d_Mo_term_74 rfl ?_
          refine go_iald (2 * (6 * k + i) + v) d_Mo_term_76 (by assumption) (rfl) (by omega) (by decide) ?_
          refine go_iconst (v := 3) d_Mo_term_77 rfl ?_
          refine go_icmp_ne 83 d_Mo_term_78 rfl (fun h78 => ?_) (fun h78 => ?_)
          · have hlen : (cu_pot v e.2).2.length < 3 := by rcases Nat.lt_or_ge (cu_pot v e.2).2.length 3 with h | h; exact h; exact absurd (by rw [w2, show (cu_pot v e.2).2.length = 3 by omega]; rfl) h78
            refine go_aload_n 0 d_Mo_term_83 rfl rfl ?_
            refine go_getR d_Mo_term_84 f_Mo_47 (by assumption) (by assumption) ?_
            refine go_iconst (v := 3) d_Mo_term_87 rfl ?_
            refine go_iload d_Mo_term_88 rfl ?_
            refine go_imul d_Mo_term_90 ?_
            refine go_aload_n 0 d_Mo_term_91 rfl rfl ?_
            refine go_getR d_Mo_term_92 f_Mo_44 (by assumption) (by assumption) ?_
            refine go_iload d_Mo_term_95 rfl ?_
            refine go_iald (2 * (6 * k + i) + v) d_Mo_term_97 (by assumption) (rfl) (by omega) (by decide) ?_
            refine go_iadd d_Mo_term_98 ?_
            refine go_iload d_Mo_term_99 rfl ?_
            refine go_iast (3 * (2 * (6 * k + i) + v) + (cu_pot v e.2).2.length) d_Mo_term_101 (by assumption) (by rw [w2]; exact ix (a := 3)) (by omega) (by decide) ?_
            refine go_aload_n 0 d_Mo_term_102 rfl rfl ?_
            refine go_getR d_Mo_term_103 f_Mo_50 (by assumption) (by assumption) ?_
            refine go_iconst (v := 3) d_Mo_term_106 rfl ?_
            refine go_iload d_Mo_term_107 rfl ?_
            refine go_imul d_Mo_term_109 ?_
            refine go_aload_n 0 d_Mo_term_110 rfl rfl ?_
            refine go_getR d_Mo_term_111 f_Mo_44 (by assumption) (by assumption) ?_
            refine go_iload d_Mo_term_114 rfl ?_
            refine go_iald (2 * (6 * k + i) + v) d_Mo_term_116 (by assumption) (rfl) (by omega) (by decide) ?_
            refine go_iadd d_Mo_term_117 ?_
            refine go_iload d_Mo_term_118 rfl ?_
            refine go_iconst (v := 5) d_Mo_term_120 rfl ?_
            refine go_idiv d_Mo_term_121 (by decide) ?_
            refine go_iast (3 * (2 * (6 * k + i) + v) + (cu_pot v e.2).2.length) d_Mo_term_122 (by assumption) (by simp (disch := omega) only [up2_eq, up2_ne]; rw [w2]; exact ix (a := 3)) (by omega) (by decide) ?_
            refine go_aload_n 0 d_Mo_term_123 rfl rfl ?_
            refine go_getR d_Mo_term_124 f_Mo_53 (by assumption) (by assumption) ?_
            refine go_iconst (v := 3) d_Mo_term_127 rfl ?_
            refine go_iload d_Mo_term_128 rfl ?_
            refine go_imul d_Mo_term_130 ?_
            refine go_aload_n 0 d_Mo_term_131 rfl rfl ?_
            refine go_getR d_Mo_term_132 f_Mo_44 (by assumption) (by assumption) ?_
            refine go_iload d_Mo_term_135 rfl ?_
            refine go_iald (2 * (6 * k + i) + v) d_Mo_term_137 (by assumption) (rfl) (by omega) (by decide) ?_
            refine go_iadd d_Mo_term_138 ?_
            refine go_iload d_Mo_term_139 rfl ?_
            refine go_iconst (v := 5) d_Mo_term_141 rfl ?_
            refine go_irem d_Mo_term_142 (by decide) ?_
            refine go_iast (3 * (2 * (6 * k + i) + v) + (cu_pot v e.2).2.length) d_Mo_term_143 (by assumption) (by simp (disch := omega) only [up2_eq, up2_ne]; rw [w2]; exact ix (a := 3)) (by omega) (by decide) ?_
            refine go_aload_n 0 d_Mo_term_144 rfl rfl ?_
            refine go_getR d_Mo_term_145 f_Mo_44 (by assumption) (by assumption) ?_
            refine go_iload d_Mo_term_148 rfl ?_
            refine go_dup2 d_Mo_term_150 rfl rfl ?_
            refine go_iald (2 * (6 * k + i) + v) d_Mo_term_151 (by assumption) (rfl) (by omega) (by decide) ?_
            refine go_iconst (v := 1) d_Mo_term_152 rfl ?_
            refine go_iadd d_Mo_term_153 ?_
            refine go_iast (2 * (6 * k + i) + v) d_Mo_term_154 (by assumption) (rfl) (by omega) (by decide) ?_
            refine go_aload_n 0 d_Mo_term_155 rfl rfl ?_
            refine go_iload_n 1 d_Mo_term_156 rfl rfl ?_
            refine go_V1 d_Mo_term_157 k_Mo_96 (by assumption) (Nat.le_of_ble_eq_true rfl) (c_Mo_changed (U := va_up U k ((U k).1, (U k).2.1.set i (e.1, cu_setp v ((cu_pot v e.2).1, (cu_pot v e.2).2 ++ [(g, s / 5, s % 5)]) e.2), (U k).2.2)) hp0 (hc.cut a1 a3 (fun q h1 h2 => by rw [gw_up_ne (by omega), gw_up_ne (by omega), gw_up_ne (by omega), gw_up_ne (by omega)]) ?h2 ?h3) a1 (fun I4 e1 e2 => ?_))
            case h2 => exact fun c' hc' => ⟨by simp (disch := omega) only [up2_eq, up2_ne], fun j hj => ⟨by simp (disch := omega) only [up2_eq, up2_ne], by simp (disch := omega) only [up2_eq, up2_ne], by simp (disch := omega) only [up2_eq, up2_ne]⟩, ⟨by simp (disch := omega) only [up2_eq, up2_ne], by simp (disch := omega) only [up2_eq, up2_ne], fun j hj => ⟨by simp (disch := omega) only [up2_eq, up2_ne], by simp (disch := omega) only [up2_eq, up2_ne], by simp (disch := omega) only [up2_eq, up2_ne]⟩⟩, ⟨by simp (disch := omega) only [up2_eq, up2_ne], by simp (disch := omega) only [up2_eq, up2_ne], fun j hj => ⟨by simp (disch := omega) only [up2_eq, up2_ne], by simp (disch := omega) only [up2_eq, up2_ne], by simp (disch := omega) only [up2_eq, up2_ne]⟩⟩⟩
            case h3 =>
              rcases (show v = 0 ∨ v = 1 by omega) with rfl | rfl
              · have w2 : I 545 (2 * (6 * k + i)) = nI e.2.2.1.2.length := u4.2.1
                have hlen : e.2.2.1.2.length < 3 := hlen
                refine ⟨by simp (disch := omega) only [up2_eq, up2_ne]; exact u1, u2, fun j t ht => (by have := u3 j t ht; simp (disch := omega) only [up2_eq, up2_ne]; exact this), ⟨by simp (disch := omega) only [up2_eq, up2_ne]; exact u4.1, by rw [Nat.add_zero]; simp (disch := omega) only [up2_eq, up2_ne]; rw [w2, nI_1]; show _ = nI (e.2.2.1.2 ++ _).length; rw [List.length_append]; rfl, by show (e.2.2.1.2 ++ _).length ≤ 3; rw [List.length_append]; exact hlen, fun j t ht => ?_⟩, u5.ptw ⟨by simp (disch := omega) only [up2_eq, up2_ne], by simp (disch := omega) only [up2_eq, up2_ne], fun j hj => ⟨by simp (disch := omega) only [up2_eq, up2_ne], by simp (disch := omega) only [up2_eq, up2_ne], by simp (disch := omega) only [up2_eq, up2_ne]⟩⟩⟩
                rcases ap_or (l := e.2.2.1.2) ht with ⟨h1, h2⟩ | ⟨h1, rfl⟩
                · have := u4.2.2.2 j t h2; rw [show cu_pot 0 e.2 = e.2.2.1 from rfl]; simp (disch := omega) only [up2_eq, up2_ne]; exact this
                · subst h1; rw [show cu_pot 0 e.2 = e.2.2.1 from rfl, Nat.add_zero]; exact ⟨by simp (disch := omega) only [up2_eq, up2_ne], by simp (disch := omega) only [up2_eq, up2_ne]; exact ed, by simp (disch := omega) only [up2_eq, up2_ne]; exact er, by show s / 5 < 5; omega, by show s % 5 < 5; omega⟩
              · have w2 : I 545 (2 * (6 * k + i) + 1) = nI e.2.2.2.2.length := u5.2.1
                have hlen : e.2.2.2.2.length < 3 := hlen
                refine ⟨by simp (disch := omega) only [up2_eq, up2_ne]; exact u1, u2, fun j t ht => (by have := u3 j t ht; simp (disch := omega) only [up2_eq, up2_ne]; exact this), u4.ptw ⟨by simp (disch := omega) only [up2_eq, up2_ne], by simp (disch := omega) only [up2_eq, up2_ne], fun j hj => ⟨by simp (disch := omega) only [up2_eq, up2_ne], by simp (disch := omega) only [up2_eq, up2_ne], by simp (disch := omega) only [up2_eq, up2_ne]⟩⟩, ⟨by simp (disch := omega) only [up2_eq, up2_ne]; exact u5.1, by simp (disch := omega) only [up2_eq, up2_ne]; rw [w2, nI_1]; show _ = nI (e.2.2.2.2 ++ _).length; rw [List.length_append]; rfl, by show (e.2.2.2.2 ++ _).length ≤ 3; rw [List.length_append]; exact hlen, fun j t ht => ?_⟩⟩
                rcases ap_or (l := e.2.2.2.2) ht with ⟨h1, h2⟩ | ⟨h1, rfl⟩
                · have := u5.2.2.2 j t h2; rw [show cu_pot 1 e.2 = e.2.2.2 from rfl]; simp (disch := omega) only [up2_eq, up2_ne]; exact this
                · subst h1; rw [show cu_pot 1 e.2 = e.2.2.2 from rfl]; exact ⟨by simp (disch := omega) only [up2_eq, up2_ne], by simp (disch := omega) only [up2_eq, up2_ne]; exact ed, by simp (disch := omega) only [up2_eq, up2_ne]; exact er, by show s / 5 < 5; omega, by show s % 5 < 5; omega⟩
            refine go_iconst (v := 1) d_Mo_term_160 rfl ?_
            exact go_zret d_Mo_term_161 rfl (by first | exact Or.inl rfl | exact Or.inr rfl | assumption) (hQ k i e v g s a1 rfl a3 a4 (by omega) rfl hg1 (by omega) rfl (by omega) rfl hne hlen I4 e1 (fun q hq => by rw [e2 q (by omega), gw_up_ne (by omega), gw_up_ne (by omega), gw_up_ne (by omega), gw_up_ne (by omega)]))
          · refine go_iconst (v := 0) d_Mo_term_81 rfl ?_
            exact go_zret d_Mo_term_82 rfl (by first | exact Or.inl rfl | exact Or.inr rfl | assumption) (hf (fun ⟨k', e', v', s', q1, q2, q3, q4, q5, q6, q7, q8, q9, q10, q11⟩ => by have ek := (nI_eq (by omega) (by omega)).mp q2; subst ek; have ee := cut_same (hu k a1) a3 a4 q3 q4; subst ee; have ev := (nI_eq (by omega) (by omega)).mp q6; subst ev; exact absurd ((nI_eq (b := 3) (by omega) (by decide)).mp (w2.symm.trans h78)) (by omega)))
        · refine go_iconst (v := 0) d_Mo_term_60 rfl ?_
          exact go_zret d_Mo_term_61 rfl (by first | exact Or.inl rfl | exact Or.inr rfl | assumption) (hf (fun ⟨k', e', v', s', q1, q2, q3, q4, q5, q6, q7, q8, q9, q10, q11⟩ => by first | exact k1.mpr (by rw [q6]; exact ⟨nI_pos' (by omega), (nI_leI (b := 1) (by omega) (by decide)).mpr (by omega)⟩) h20 | exact k2.mpr q7 h33 | exact k3.mpr (by rw [q9]; exact ⟨nI_pos' (by omega), (nI_leI (b := 24) (by omega) (by decide)).mpr (by omega)⟩) h46 | (have es := (nI_eq (by omega) (by omega)).mp q9; subst es; exact absurd (Classical.byContradiction h57) (by rw [er, ed]; exact fun hh => q10 ((nI_eq (by omega) (by omega)).mp hh))) | (have es := (nI_eq (by omega) (by omega)).mp q9; subst es; exact absurd h57 (by rw [er, ed]; exact fun hh => q10 ((nI_eq (by omega) (by omega)).mp hh)))))
end MO
