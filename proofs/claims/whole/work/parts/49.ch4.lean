/-! Checker.reasonFrom -/
theorem cIf_or {α : Type} (p : Prop) (a b : α) : cIf p a b = a ∨ cIf p a b = b := by
  by_cases h : p
  · exact Or.inl (cIf_pos h)
  · exact Or.inr (cIf_neg h)
theorem ce_end_le {e : Nat} {st : List ab_Sy} {lo : Nat → ab_Sy} {C : sp_E} {b0 b1 : ab_Ba} {en : Option ab_Cu} (h : e ≤ 50) : (ce_end e st lo C b0 b1 en).2 ≤ 50 := by
  unfold ce_end
  by_cases h5 : 50 ≤ e
  · rw [if_pos h5]; exact h
  · rw [if_neg h5]
    cases en with
    | none =>
      dsimp only
      rcases cIf_or (ba_sh C b0 ∧ ba_sh C b1) ((0 : Int32), e + 1) (9, e + 1) with h1 | h1 <;> rw [h1] <;> show e + 1 ≤ 50 <;> omega
    | some A =>
      dsimp only
      by_cases h6 : 0 < st.length
      · rw [if_pos h6]; show e + 1 ≤ 50; omega
      · rw [if_neg h6]
        by_cases h7 : kn_sh C lo A.1
        · rw [cIf_pos h7]
          rcases cIf_or ((¬ po_no lo A.2.1.2 ∧ ba_sh C (ba_pot lo (-1 : Int32).toInt64 A.2.1 b0)) ∧ (¬ po_no lo A.2.2.2 ∧ ba_sh C (ba_pot lo (-1 : Int32).toInt64 A.2.2 b1))) ((0 : Int32), e + 1) (9, e + 1) with h1 | h1 <;> rw [h1] <;> show e + 1 ≤ 50 <;> omega
        · rw [cIf_neg h7]; show e + 1 ≤ 50; omega
/-- what is sure of all methods -/
def st_ok (S : Nat → ab_Me) : Prop := ∀ m, m < 4 → (∀ t ∈ (S m).1, -1000 ≤ t.2.toInt ∧ t.2.toInt ≤ 1000) ∧ (S m).2.1 ≠ [] ∧ ∀ (i j : Nat) (c c' : Nat × ab_Cu), (S m).2.1[i]? = some c → (S m).2.1[j]? = some c' → nI c.1 = nI c'.1 → i = j
theorem cu_of_none {p : Int32} : ∀ {l : List (Nat × ab_Cu)}, (∀ c ∈ l, nI c.1 ≠ p) → cu_of l p = none
  | [], _ => rfl
  | c :: l, h => by
    unfold cu_of
    rw [if_neg (h c List.mem_cons_self)]
    exact cu_of_none (fun c' hc' => h c' (List.mem_cons_of_mem _ hc'))
theorem cu_of_some {p : Int32} {c : Nat × ab_Cu} (hp : nI c.1 = p) : ∀ {l : List (Nat × ab_Cu)} {i : Nat}, (∀ (i j : Nat) (c c' : Nat × ab_Cu), l[i]? = some c → l[j]? = some c' → nI c.1 = nI c'.1 → i = j) → l[i]? = some c → cu_of l p = some c.2
  | [], i, _, h => by cases h
  | a :: l, i, hu, h => by
    unfold cu_of
    by_cases ha : nI a.1 = p
    · rw [if_pos ha]
      have h0 := hu 0 i a c rfl h (ha.trans hp.symm)
      subst h0
      cases h
      rfl
    · rw [if_neg ha]
      cases i with
      | zero => cases h; exact absurd hp ha
      | succ i => exact cu_of_some hp (i := i) (fun i j c c' h1 h2 h3 => by have := hu (i + 1) (j + 1) c c' h1 h2 h3; omega) h
theorem ca_sb {N : Nat} {x y z : ab_Sy} (hx : sb N x) (hy : sb N y) (hz : sb N z) : sy_bd (ca_sy x y z) N := by
  intro j q hj hq
  have z0 : (0 : Int64).toInt = 0 := rfl
  unfold ca_sy ca_f ca_g at hq
  rcases (show j = 0 ∨ j = 1 ∨ j = 2 ∨ j = 3 ∨ j = 4 by omega) with rfl | rfl | rfl | rfl | rfl
  · exact hx q hq
  · exact hy q hq
  · exact hz q hq
  · cases hq; rw [z0]; omega
  · cases hq; rw [z0]; omega
theorem pa_at.place {I : Nat → Nat → Int32} {L : Nat → Nat → Int64} {o md : Nat} {p p' : Int32} {st : List ab_Sy} {lo : Nat → ab_Sy} {C : sp_E} {b0 b1 : ab_Ba} (h : pa_at I L o p md st lo C b0 b1) : pa_at (va_up I o (va_up (I o) 4 p')) L o p' md st lo C b0 b1 := by
  obtain ⟨a1, a2, a3, a4, a5, a6, a7, a8⟩ := h
  exact ⟨by rw [gw_up_eq, gw_up_ne (by omega)]; exact a1, by rw [gw_up_eq, gw_up_eq], by rw [gw_up_eq, gw_up_ne (by omega)]; exact a3, by rw [gw_up_ne (by omega)]; exact a4, a5.kept (gw_up_ne (by omega)) rfl, a6, a7, a8⟩
section CH
variable {n : Nat} {sh : Nat → Nat × Nat} {X : Nat × (Nat → Int32)} {R : Nat → Nat → Option Nat} {S : Nat → ab_Me} {m : Nat}
/-- the loop of reasonFrom with so many instructions left -/
def ch_G (n : Nat) (sh : Nat → Nat × Nat) (X : Nat × (Nat → Int32)) (R : Nat → Nat → Option Nat) (S : Nat → ab_Me) (m f : Nat) : Prop := ∀ (d level r t md e : Nat) (p : Int32) (st : List ab_Sy) (lo : Nat → ab_Sy) (s : sp_E × sp_E) (b0 b1 : ab_Ba) (I : Nat → Nat → Int32) (L : Nat → Nat → Int64) (Q : Option Value → gw_Mem → Prop) (o4 o5 o6 o7 o8 : Option Value), f + md = 41 → level + r = 13 → 3 * level + st.length ≤ md → st.length ≤ 6 → t ≤ md → md ≤ 40 → cc_at R I S → pa_at I L (350 + 13 * level) p md st lo s.2 b0 b1 → kn_ok s → pa_bd (pa_B md st.length) st lo → I 345 4 = nI e → e ≤ 50 → (∀ (I' : Nat → Nat → Int32) (L' : Nat → Nat → Int64), I' 345 4 = nI (ce_go S m f (p, md, st, lo, s, b0, b1) e).2 → (ce_go S m f (p, md, st, lo, s, b0, b1) e).2 ≤ 50 → (∀ q, q ≠ 345 → q ≠ 348 → q < 350 + 13 * level ∨ 532 ≤ q → I' q = I q) → (∀ q, q ≠ 349 → q < 350 + 13 * level ∨ 532 ≤ q → L' q = L q) → Q (some (.int (ce_go S m f (p, md, st, lo, s, b0, b1) e).1)) (n, sh, X, R, I', L')) → gw_Go y_Ch_reasonFrom (d + 2 * r + 3) 0 0 17 [some (.ref 345), some (.int (nI level)), some (.ref (350 + 13 * level)), some (.int (nI t)), o4, o5, o6, o7, o8] [] (n, sh, X, R, I, L) Q
theorem c_Ch_from {f d level r md e : Nat} {p : Int32} {st : List ab_Sy} {lo : Nat → ab_Sy} {s : sp_E × sp_E} {b0 b1 : ab_Ba} {I : Nat → Nat → Int32} {L : Nat → Nat → Int64} {Q : Option Value → gw_Mem → Prop} (hG : ch_G n sh X R S m f) (hch : pt_Ch sh R) (hf : f + md = 41) (hl : level + r = 13) (h3 : 3 * level + st.length ≤ md) (h6 : st.length ≤ 6) (hmd : md ≤ 40) (hc : cc_at R I S) (ha : pa_at I L (350 + 13 * level) p md st lo s.2 b0 b1) (hs : kn_ok s) (hb : pa_bd (pa_B md st.length) st lo) (h4 : I 345 4 = nI e) (he : e ≤ 50) (hQ : ∀ (I' : Nat → Nat → Int32) (L' : Nat → Nat → Int64), I' 345 4 = nI (ce_go S m f (p, md, st, lo, s, b0, b1) e).2 → (ce_go S m f (p, md, st, lo, s, b0, b1) e).2 ≤ 50 → (∀ q, q ≠ 345 → q ≠ 348 → q < 350 + 13 * level ∨ 532 ≤ q → I' q = I q) → (∀ q, q ≠ 349 → q < 350 + 13 * level ∨ 532 ≤ q → L' q = L q) → Q (some (.int (ce_go S m f (p, md, st, lo, s, b0, b1) e).1)) (n, sh, X, R, I', L')) : gw_Call y_Ch_reasonFrom (d + 2 * r + 3) 0 0 [.ref 345, .int (nI level)] (n, sh, X, R, I, L) Q := by
  obtain ⟨s345, s346, g0, g2, g3, g347, gp⟩ := hch
  obtain ⟨rl, hpl⟩ := gp level (by omega)
  refine gw_call o_Ch_reasonFrom (Nat.le_of_ble_eq_true rfl) ?_
  refine go_iload_n 1 d_Ch_reasonFrom_0 rfl rfl ?_
  refine go_bipush (v := 14) d_Ch_reasonFrom_1 rfl ?_
  refine go_icmp_lt 8 d_Ch_reasonFrom_3 rfl (fun _ => ?_) (fun hn => absurd (nI_lt (b := 14) (by omega) (by decide)) hn)
  refine go_aload_n 0 d_Ch_reasonFrom_8 rfl rfl ?_
  refine go_getR d_Ch_reasonFrom_9 f_Ch_11 (by assumption) (by assumption) ?_
  refine go_iload_n 1 d_Ch_reasonFrom_12 rfl rfl ?_
  refine go_aald (t := 4) (level) d_Ch_reasonFrom_13 (by assumption) (by decide) (rfl) (by omega) (by decide) (by assumption) ?_
  refine go_astore_n 2 d_Ch_reasonFrom_14 rfl (Nat.le_of_ble_eq_true rfl) ?_
  refine go_iconst (v := 0) d_Ch_reasonFrom_15 rfl ?_
  refine go_istore_n 3 d_Ch_reasonFrom_16 rfl (Nat.le_of_ble_eq_true rfl) ?_
  exact hG d level r 0 md e p st lo s b0 b1 I L Q _ _ _ _ _ hf hl h3 h6 (Nat.zero_le _) hmd hc ha hs hb h4 he hQ
theorem ch_G_0 : ch_G n sh X R S m 0 := by
  intro d level r t md e p st lo s b0 b1 I L Q o4 o5 o6 o7 o8 hf hl h3 h6 ht hmd
  omega
theorem ch_G_s {f : Nat} (hcc : pt_CC sh R) (hch : pt_Ch sh R) (hm : m < 4) (hrm : R 345 1 = some (2 + 82 * m)) (hS : st_ok S) (ih : ch_G n sh X R S m f) : ch_G n sh X R S m (f + 1) := by
  intro d level r t md e p st lo s b0 b1 I L Q o4 o5 o6 o7 o8 hf hl h3 h6 ht hmd hc ha hs hb h4 he hQ
  have hch0 := hch
  obtain ⟨s345, s346, g0, g2, g3, g347, gp⟩ := hch
  obtain ⟨rl, hpl⟩ := gp level (by omega)
  have zl := hpl.1
  have zs1 := hcc.2.1
  obtain ⟨hr1, hme⟩ := hcc.2.2.2 m hm
  have hme0 := hme
  obtain ⟨sm, sm1, sm2, sm3, rm1, rm2, rm4, hcu⟩ := hme0
  obtain ⟨w, g1, hco, hcs, g6⟩ := hc m hm
  obtain ⟨hS1, hS2, hS3⟩ := hS m hm
  have a1 := ha.1
  have a2 := ha.2.1
  have a3 := ha.2.2.1
  have hB := pa_B_m (len := st.length) hmd
  have nt : ¬ (40 : Int32) < nI t := nI_nlt (a := 40) (b := t) (by omega) (by decide)
  by_cases hp0 : ∃ q, q < (S m).1.length ∧ p = nI q
  case neg =>
    have hgo : ce_go S m (f + 1) (p, md, st, lo, s, b0, b1) e = (2, e) := cIf_neg hp0
    rw [hgo] at hQ
    refine go_iload_n 3 d_Ch_reasonFrom_17 rfl rfl ?_
    refine go_bipush (v := 40) d_Ch_reasonFrom_18 rfl ?_
    refine go_icmp_gt 284 d_Ch_reasonFrom_20 rfl (fun hn => absurd hn (nt)) (fun _ => ?_)
    refine go_aload_n 2 d_Ch_reasonFrom_23 rfl rfl ?_
    refine go_getI d_Ch_reasonFrom_24 f_Ch_80 (by assumption) ?_
    rw [a2]
    refine go_istore d_Ch_reasonFrom_27 (Nat.le_of_ble_eq_true rfl) ?_
    refine go_aload_n 0 d_Ch_reasonFrom_29 rfl rfl ?_
    refine go_getR d_Ch_reasonFrom_30 f_Ch_28 (by assumption) (by assumption) ?_
    refine go_iload d_Ch_reasonFrom_33 rfl ?_
    refine go_V1 d_Ch_reasonFrom_35 k_Ch_81 (by assumption) (Nat.le_of_ble_eq_true rfl) (c_Me_hasPlace hme hco (fun b hbb => ?_))
    refine go_if_ne 43 d_Ch_reasonFrom_38 rfl (fun hn => absurd hn (fun h => hp0 (hbb.mp (bI_n0.mp h)))) (fun _ => ?_)
    refine go_iconst (v := 2) d_Ch_reasonFrom_41 rfl ?_
    exact go_iret d_Ch_reasonFrom_42 rfl (hQ I L h4 he (fun _ _ _ _ => rfl) (fun _ _ _ => rfl))
  obtain ⟨q, hq, rfl⟩ := hp0
  have hl24 := hco.2.1
  obtain ⟨k, nn, hkq⟩ : ∃ k nn, (S m).1[q]? = some (k, nn) := ⟨_, _, List.getElem?_eq_getElem hq⟩
  obtain ⟨bk, bn, k15⟩ := hco.2.2 q (k, nn) hkq
  dsimp only at bk bn k15
  have hnn := hS1 (k, nn) (List.mem_of_getElem? hkq)
  dsimp only at hnn
  have hg0 : (if md = 0 then none else cu_of (S m).2.1 (nI q)) = none → ce_go S m (f + 1) (nI q, md, st, lo, s, b0, b1) e = if 40 ≤ md then (3, e) else cIf (rn_cr (fun j => (S j).1.length) k nn m st.length) (2, e) (ce_do (ce_go S m f) S k nn (nI q + 1) (md + 1) st lo s (b0.1, b0.2 - 1) b1 e) := by
    intro hn
    show cIf _ _ _ = _
    rw [cIf_pos ⟨q, hq, rfl⟩, hn]
    dsimp only
    rw [nI_clamp (by omega), hkq]
  have body : (if md = 0 then none else cu_of (S m).2.1 (nI q)) = none → gw_Go y_Ch_reasonFrom (d + 2 * r + 3) 0 0 78 [some (.ref 345), some (.int (nI level)), some (.ref (350 + 13 * level)), some (.int (nI t)), some (.int (nI q)), some .null, o6, o7, o8] [] (n, sh, X, R, I, L) Q := by
    intro hn
    rw [hg0 hn] at hQ
    by_cases h40 : 40 ≤ md
    · rw [if_pos h40] at hQ
      refine go_aload_n 2 d_Ch_reasonFrom_78 rfl rfl ?_
      refine go_getI d_Ch_reasonFrom_79 f_Ch_85 (by assumption) ?_
      rw [a3]
      refine go_bipush (v := 40) d_Ch_reasonFrom_82 rfl ?_
      refine go_icmp_lt 89 d_Ch_reasonFrom_84 rfl (fun hn => absurd hn (nI_nlt (b := 40) h40 (by omega))) (fun _ => ?_)
      refine go_iconst (v := 3) d_Ch_reasonFrom_87 rfl ?_
      exact go_iret d_Ch_reasonFrom_88 rfl (hQ I L h4 he (fun _ _ _ _ => rfl) (fun _ _ _ => rfl))
    rw [if_neg h40] at hQ
    have y40 : nI md < 40 := nI_lt (b := 40) (by omega) (by decide)
    by_cases hcr : rn_cr (fun j => (S j).1.length) k nn m st.length
    · rw [cIf_pos hcr] at hQ
      refine go_aload_n 2 d_Ch_reasonFrom_78 rfl rfl ?_
      refine go_getI d_Ch_reasonFrom_79 f_Ch_85 (by assumption) ?_
      rw [a3]
      refine go_bipush (v := 40) d_Ch_reasonFrom_82 rfl ?_
      refine go_icmp_lt 89 d_Ch_reasonFrom_84 rfl (fun _ => ?_) (fun hn => absurd (y40) hn)
      refine go_aload_n 0 d_Ch_reasonFrom_89 rfl rfl ?_
      refine go_getR d_Ch_reasonFrom_90 f_Ch_24 (by assumption) (by assumption) ?_
      refine go_aload_n 0 d_Ch_reasonFrom_93 rfl rfl ?_
      refine go_getR d_Ch_reasonFrom_94 f_Ch_28 (by assumption) (by assumption) ?_
      refine go_iload d_Ch_reasonFrom_97 rfl ?_
      refine go_aload_n 2 d_Ch_reasonFrom_99 rfl rfl ?_
      refine go_getI d_Ch_reasonFrom_100 f_Ch_96 (by assumption) ?_
      rw [a1]
      refine go_S4 d_Ch_reasonFrom_103 k_Ch_99 (Nat.le_of_ble_eq_true rfl) (c_CC_isCramped hcc hc hm hkq h6 (fun b hbb => ?_))
      refine go_if_eq 111 d_Ch_reasonFrom_106 rfl (fun hn => absurd hn (bI_n0.mpr (hbb.mpr hcr))) (fun _ => ?_)
      refine go_iconst (v := 2) d_Ch_reasonFrom_109 rfl ?_
      exact go_iret d_Ch_reasonFrom_110 rfl (hQ I L h4 he (fun _ _ _ _ => rfl) (fun _ _ _ => rfl))
    rw [cIf_neg hcr] at hQ
    have q2 : rn_tk k ≤ st.length := Nat.not_lt.mp (fun h => hcr (Or.inl h))
    have q3 : st.length - rn_tk k + rn_pu k ≤ 6 := Nat.not_lt.mp (fun h => hcr (Or.inr (Or.inl h)))
    have q4 : (k = 1 ∨ k = 2) → ∃ j, j < 4 ∧ nn = nI j := fun h => Classical.byContradiction (fun h1 => hcr (Or.inr (Or.inr (Or.inl ⟨h, h1⟩))))
    have q5 : k = 11 → ∃ j, j < m ∧ nn = nI j ∧ (S j).1.length ≠ 0 := fun h => Classical.byContradiction (fun h1 => hcr (Or.inr (Or.inr (Or.inr ⟨h, h1⟩))))
    refine go_aload_n 2 d_Ch_reasonFrom_78 rfl rfl ?_
    refine go_getI d_Ch_reasonFrom_79 f_Ch_85 (by assumption) ?_
    rw [a3]
    refine go_bipush (v := 40) d_Ch_reasonFrom_82 rfl ?_
    refine go_icmp_lt 89 d_Ch_reasonFrom_84 rfl (fun _ => ?_) (fun hn => absurd (y40) hn)
    refine go_aload_n 0 d_Ch_reasonFrom_89 rfl rfl ?_
    refine go_getR d_Ch_reasonFrom_90 f_Ch_24 (by assumption) (by assumption) ?_
    refine go_aload_n 0 d_Ch_reasonFrom_93 rfl rfl ?_
    refine go_getR d_Ch_reasonFrom_94 f_Ch_28 (by assumption) (by assumption) ?_
    refine go_iload d_Ch_reasonFrom_97 rfl ?_
    refine go_aload_n 2 d_Ch_reasonFrom_99 rfl rfl ?_
    refine go_getI d_Ch_reasonFrom_100 f_Ch_96 (by assumption) ?_
    rw [a1]
    refine go_S4 d_Ch_reasonFrom_103 k_Ch_99 (Nat.le_of_ble_eq_true rfl) (c_CC_isCramped hcc hc hm hkq h6 (fun b hbb => ?_))
    refine go_if_eq 111 d_Ch_reasonFrom_106 rfl (fun _ => ?_) (fun hn => absurd (bI_0.mpr (by cases b; rfl; exact absurd (hbb.mp rfl) hcr)) hn)
    refine go_aload_n 0 d_Ch_reasonFrom_111 rfl rfl ?_
    refine go_getR d_Ch_reasonFrom_112 f_Ch_28 (by assumption) (by assumption) ?_
    refine go_getR d_Ch_reasonFrom_115 f_Ch_103 (by assumption) (by assumption) ?_
    refine go_iload d_Ch_reasonFrom_118 rfl ?_
    refine go_iald (q) d_Ch_reasonFrom_120 (by assumption) (rfl) (by omega) (by decide) ?_
    rw [bk]
    refine go_istore d_Ch_reasonFrom_121 (Nat.le_of_ble_eq_true rfl) ?_
    refine go_aload_n 0 d_Ch_reasonFrom_123 rfl rfl ?_
    refine go_getR d_Ch_reasonFrom_124 f_Ch_28 (by assumption) (by assumption) ?_
    refine go_getR d_Ch_reasonFrom_127 f_Ch_107 (by assumption) (by assumption) ?_
    refine go_iload d_Ch_reasonFrom_130 rfl ?_
    refine go_iald (q) d_Ch_reasonFrom_132 (by assumption) (rfl) (by omega) (by decide) ?_
    rw [bn]
    refine go_istore d_Ch_reasonFrom_133 (Nat.le_of_ble_eq_true rfl) ?_
    refine go_aload_n 2 d_Ch_reasonFrom_135 rfl rfl ?_
    refine go_V0 d_Ch_reasonFrom_136 k_Ch_110 (by assumption) (Nat.le_of_ble_eq_true rfl) (c_Pa_countInstruction hpl ha (fun I1 L1 c1 f1 f2 => ?_))
    clear bk bn a1 a2 a3
    have hc1 : cc_at R I1 S := hc.kept (fun q hq => f1 q (by omega))
    have h41 : I1 345 4 = nI e := by rw [f1 _ (by omega)]; exact h4
    generalize hRES : ce_do (ce_go S m f) S k nn (nI q + 1) (md + 1) st lo s (b0.1, b0.2 - 1) b1 e = RES at hQ
    have next : ∀ (e' : Nat) (p' : Int32) (st' : List ab_Sy) (lo' : Nat → ab_Sy) (s' : sp_E × sp_E) (b0' b1' : ab_Ba) (I3 : Nat → Nat → Int32) (L3 : Nat → Nat → Int64) (o5 : Option Value), st'.length ≤ 6 → 3 * level + st'.length ≤ md + 1 → pa_at I3 L3 (350 + 13 * level) p' (md + 1) st' lo' s'.2 b0' b1' → kn_ok s' → pa_bd (pa_B (md + 1) st'.length) st' lo' → I3 345 4 = nI e' → e' ≤ 50 → (∀ q, q ≠ 345 → q ≠ 348 → q < 350 + 13 * level ∨ 532 ≤ q → I3 q = I q) → (∀ q, q ≠ 349 → q < 350 + 13 * level ∨ 532 ≤ q → L3 q = L q) → ce_go S m f (p', md + 1, st', lo', s', b0', b1') e' = RES → gw_Go y_Ch_reasonFrom (d + 2 * r + 3) 0 0 270 [some (.ref 345), some (.int (nI level)), some (.ref (350 + 13 * level)), some (.int (nI t)), some (.int (nI q)), o5, some (.int (nI k)), some (.int nn), some (.int 0)] [] (n, sh, X, R, I3, L3) Q := by
      intro e' p' st' lo' s' b0' b1' I3 L3 o5' n1 n2 n3 n4 n5 n6 n7 n8 n9 n10
      refine go_iload d_Ch_reasonFrom_270 rfl ?_
      refine go_if_eq 278 d_Ch_reasonFrom_272 rfl (fun _ => ?_) (fun hn => absurd (rfl) hn)
      refine go_iinc d_Ch_reasonFrom_278 rfl rfl (Nat.le_of_ble_eq_true rfl) ?_
      refine go_goto 17 d_Ch_reasonFrom_281 rfl ?_
      rw [gw_inc (x := nI t) (i := t) rfl]
      exact ih d level r (t + 1) (md + 1) e' p' st' lo' s' b0' b1' I3 L3 Q _ _ _ _ _ (by omega) hl n2 n1 (by omega) (by omega) (hc.kept (fun q hq => n8 q (by omega) (by omega) (by omega))) n3 n4 n5 n6 n7 (by rw [n10]; exact fun I' L' k1 k2 k3 k4 => hQ I' L' k1 k2 (fun q j1 j2 j3 => by rw [k3 q j1 j2 j3, n8 q j1 j2 j3]) (fun q j1 j2 => by rw [k4 q j1 j2, n9 q j1 j2]))
    have lose : ∀ (v : Int32) (I3 : Nat → Nat → Int32) (L3 : Nat → Nat → Int64) (o5 : Option Value), ¬ v = 0 → RES.1 = v → I3 345 4 = nI RES.2 → RES.2 ≤ 50 → (∀ q, q ≠ 345 → q ≠ 348 → q < 350 + 13 * level ∨ 532 ≤ q → I3 q = I q) → (∀ q, q ≠ 349 → q < 350 + 13 * level ∨ 532 ≤ q → L3 q = L q) → gw_Go y_Ch_reasonFrom (d + 2 * r + 3) 0 0 270 [some (.ref 345), some (.int (nI level)), some (.ref (350 + 13 * level)), some (.int (nI t)), some (.int (nI q)), o5, some (.int (nI k)), some (.int nn), some (.int v)] [] (n, sh, X, R, I3, L3) Q := by
      intro v I3 L3 o5' n1 n2 n3 n4 n5 n6
      subst n2
      refine go_iload d_Ch_reasonFrom_270 rfl ?_
      refine go_if_eq 278 d_Ch_reasonFrom_272 rfl (fun hn => absurd hn (n1)) (fun _ => ?_)
      refine go_iload d_Ch_reasonFrom_275 rfl ?_
      exact go_iret d_Ch_reasonFrom_277 rfl (hQ I3 L3 n3 n4 n5 n6)
    have fI : ∀ q, q ≠ 345 → q ≠ 348 → q < 350 + 13 * level ∨ 532 ≤ q → I1 q = I q := fun q j1 j2 j3 => f1 q (by omega)
    have fL : ∀ q, q ≠ 349 → q < 350 + 13 * level ∨ 532 ≤ q → L1 q = L q := fun q j1 j2 => f2 q (by omega)
    have hkk : k = 12 ∨ k = 8 ∨ k = 9 ∨ k = 10 ∨ k = 11 ∨ (k < 8 ∨ k = 13 ∨ k = 14) := by clear q4 q5; omega
    rcases hkk with rfl | rfl | rfl | rfl | rfl | hk
    · have hR : ce_end e st lo s.2 (b0.1, b0.2 - 1) b1 none = RES := hRES
      refine go_iload d_Ch_reasonFrom_139 rfl ?_
      refine go_bipush (v := 12) d_Ch_reasonFrom_141 rfl ?_
      refine go_icmp_ne 153 d_Ch_reasonFrom_143 rfl (fun hn => absurd hn (fun h => h rfl)) (fun _ => ?_)
      refine go_aload_n 0 d_Ch_reasonFrom_146 rfl rfl ?_
      refine go_aload_n 2 d_Ch_reasonFrom_147 rfl rfl ?_
      refine go_null d_Ch_reasonFrom_148 ?_
      refine go_V2 d_Ch_reasonFrom_149 k_Ch_92 (by assumption) (Nat.le_of_ble_eq_true rfl) (c_Ch_end0 s345 hpl (by omega) c1 (kn_ok_bd hs) h41 he (fun I3 k1 k2 => ?_))
      rw [hR] at k1 ⊢
      exact go_iret d_Ch_reasonFrom_152 rfl (hQ I3 L1 k1 (by rw [← hR]; exact ce_end_le he) (fun q j1 j2 j3 => by rw [k2 q j1, fI q j1 j2 j3]) fL)
    · obtain ⟨y, x, st, rfl⟩ : ∃ y x s, st = y :: x :: s := by cases st with | nil => exact absurd q2 (by decide) | cons y s => cases s with | nil => exact absurd q2 (by simp [rn_tk]) | cons x s => exact ⟨y, x, s, rfl⟩
      have h3' : 3 * level + (st.length + 2) ≤ md := h3
      have h6' : st.length + 2 ≤ 6 := h6
      obtain ⟨r', rfl⟩ : ∃ r', r = r' + 1 := ⟨r - 1, by omega⟩
      have hBs := pa_B_s (md := md) (len := st.length + 2) (len' := st.length) (by omega)
      have hbt : pa_bd (pa_B (md + 1) st.length) st lo := hb.tail.tail.mono (by show pa_B md (st.length + 2) ≤ _; omega)
      have hbx := hb.tail.head.mono hB
      have hby := hb.head.mono hB
      have hR : ce_br (ce_go S m f) (pa_lrn (pa_edge false x y) s) (pa_lrn (pa_edge true x y) s) (nI q + 1) nn (md + 1) st lo (b0.1, b0.2 - 1) b1 e = RES := hRES
      refine go_iload d_Ch_reasonFrom_139 rfl ?_
      refine go_bipush (v := 12) d_Ch_reasonFrom_141 rfl ?_
      refine go_icmp_ne 153 d_Ch_reasonFrom_143 rfl (fun _ => ?_) (fun hn => by first | exact absurd hn (by decide) | exact absurd (by decide) hn)
      refine go_iconst (v := 0) d_Ch_reasonFrom_153 rfl ?_
      refine go_istore d_Ch_reasonFrom_154 (Nat.le_of_ble_eq_true rfl) ?_
      refine go_iload d_Ch_reasonFrom_156 rfl ?_
      refine go_bipush (v := 8) d_Ch_reasonFrom_158 rfl ?_
      refine go_icmp_eq 170 d_Ch_reasonFrom_160 rfl (fun _ => ?_) (fun hn => absurd (rfl) hn)
      refine go_aload_n 0 d_Ch_reasonFrom_170 rfl rfl ?_
      refine go_iload_n 1 d_Ch_reasonFrom_171 rfl rfl ?_
      refine go_iload d_Ch_reasonFrom_172 rfl ?_
      refine go_bipush (v := 9) d_Ch_reasonFrom_174 rfl ?_
      refine go_icmp_ne 183 d_Ch_reasonFrom_176 rfl (fun _ => ?_) (fun hn => by first | exact absurd hn (by decide) | exact absurd (by decide) hn)
      refine go_iconst (v := 0) d_Ch_reasonFrom_183 rfl ?_
      rw [show d + 2 * (r' + 1) + 3 = (d + 2 * r') + 4 + 1 by omega]
      refine go_V2 d_Ch_reasonFrom_184 k_Ch_113 (by assumption) (Nat.le_of_ble_eq_true rfl) (c_Ch_behind (w := d + 2 * r') (isLess := false) (go := ce_go S m f) hch0 (by omega) hc1 c1 h6' hs hbx hby h41 he (fun s' I5 L5 Q5 k1 k2 k3 k4 k5 => c_Ch_from ih hch0 (by omega) (by omega) (by omega) (by omega) (by omega) k1 k2 k3 hbt k4 he k5) (fun I5 L5 k1 k2 k3 k4 k5 k6 k7 => ?_))
      rw [show (d + 2 * r') + 4 + 1 = d + 2 * (r' + 1) + 3 by omega]
      refine go_istore d_Ch_reasonFrom_187 (Nat.le_of_ble_eq_true rfl) ?_
      refine go_aload_n 2 d_Ch_reasonFrom_189 rfl rfl ?_
      refine go_iload d_Ch_reasonFrom_190 rfl ?_
      refine go_putI d_Ch_reasonFrom_192 f_Ch_80 (by assumption) ?_
      refine go_iload d_Ch_reasonFrom_195 rfl ?_
      refine go_if_ne 270 d_Ch_reasonFrom_197 rfl (fun h197 => ?_) (fun h197 => ?_)
      · exact lose _ _ L5 _ h197 (by rw [← hR]; unfold ce_br; rw [if_neg h197]) (by rw [gw_up_ne (by omega), ← hR]; unfold ce_br; rw [if_neg h197]; exact k4) (by rw [← hR]; unfold ce_br; rw [if_neg h197]; exact k5) (fun q j1 j2 j3 => by rw [gw_up_ne (by omega), k6 q j1 j2 j3, fI q j1 j2 j3]) (fun q j1 j2 => by rw [k7 q j1 j2, fL q j1 j2])
      · have hR2 : ce_pa (ce_go S m f) (pa_lrn (pa_edge true x y) s) nn (md + 1) st lo (b0.1, b0.2 - 1) b1 (ce_pa (ce_go S m f) (pa_lrn (pa_edge false x y) s) (nI q + 1) (md + 1) st lo (b0.1, b0.2 - 1) b1 e).2 = RES := by rw [← hR]; unfold ce_br; rw [if_pos h197]
        rw [h197]
        refine go_aload_n 2 d_Ch_reasonFrom_200 rfl rfl ?_
        refine go_iload d_Ch_reasonFrom_201 rfl ?_
        refine go_bipush (v := 8) d_Ch_reasonFrom_203 rfl ?_
        refine go_icmp_ne 212 d_Ch_reasonFrom_205 rfl (fun hn => absurd hn (fun h => h rfl)) (fun _ => ?_)
        refine go_iconst (v := 1) d_Ch_reasonFrom_208 rfl ?_
        refine go_goto 213 d_Ch_reasonFrom_209 rfl ?_
        refine go_V1 d_Ch_reasonFrom_213 k_Ch_117 (by assumption) (Nat.le_of_ble_eq_true rfl) (c_Pa_learnLess (isLess := true) (p := nn) (md := md + 1) (lo := lo) (b0 := (b0.1, b0.2 - 1)) (b1 := b1) (st := st) (s := s) (a := x) (b := y) hpl (k1.place) (by omega) (by rw [gw_up_ne (by omega)]; exact k2) (by rw [gw_up_ne (by omega)]; exact k3) hs (fun q hq => hbx q hq) (fun q hq => hby q hq) (fun hno => ?_) (fun s' hs' hok L6 k8 k9 => ?_))
        · rw [hno] at hR2
          have hR3 : RES.1 = 0 ∧ RES.2 = (ce_pa (ce_go S m f) (pa_lrn (pa_edge false x y) s) (nI q + 1) (md + 1) st lo (b0.1, b0.2 - 1) b1 e).2 := by rw [← hR2]; exact ⟨rfl, rfl⟩
          rw [hR3.1, hR3.2] at hQ
          refine go_if_ne 270 d_Ch_reasonFrom_216 rfl (fun hn => absurd hn (fun h => h rfl)) (fun _ => ?_)
          refine go_iconst (v := 0) d_Ch_reasonFrom_219 rfl ?_
          exact go_iret d_Ch_reasonFrom_220 rfl (hQ _ L5 (by rw [gw_up_ne (by omega)]; exact k4) k5 (fun q j1 j2 j3 => by rw [gw_up_ne (by omega), k6 q j1 j2 j3, fI q j1 j2 j3]) (fun q j1 j2 => by rw [k7 q j1 j2, fL q j1 j2]))
        · rw [hs'] at hR2
          refine go_if_ne 270 d_Ch_reasonFrom_216 rfl (fun _ => ?_) (fun hn => by first | exact absurd hn (by decide) | exact absurd (by decide) hn)
          exact next _ nn st lo s' _ _ _ L6 _ (by omega) (by omega) k8 hok hbt (by rw [gw_up_ne (by omega)]; exact k4) k5 (fun q j1 j2 j3 => by rw [gw_up_ne (by omega), k6 q j1 j2 j3, fI q j1 j2 j3]) (fun q j1 j2 => by rw [k9 q (by omega), k7 q j1 j2, fL q j1 j2]) hR2
    · obtain ⟨y, x, st, rfl⟩ : ∃ y x s, st = y :: x :: s := by cases st with | nil => exact absurd q2 (by decide) | cons y s => cases s with | nil => exact absurd q2 (by simp [rn_tk]) | cons x s => exact ⟨y, x, s, rfl⟩
      have h3' : 3 * level + (st.length + 2) ≤ md := h3
      have h6' : st.length + 2 ≤ 6 := h6
      obtain ⟨r', rfl⟩ : ∃ r', r = r' + 1 := ⟨r - 1, by omega⟩
      have hBs := pa_B_s (md := md) (len := st.length + 2) (len' := st.length) (by omega)
      have hbt : pa_bd (pa_B (md + 1) st.length) st lo := hb.tail.tail.mono (by show pa_B md (st.length + 2) ≤ _; omega)
      have hbx := hb.tail.head.mono hB
      have hby := hb.head.mono hB
      have hR : ce_br (ce_go S m f) (pa_lrn (pa_edge true x y) s) (pa_lrn (pa_edge false x y) s) (nI q + 1) nn (md + 1) st lo (b0.1, b0.2 - 1) b1 e = RES := hRES
      refine go_iload d_Ch_reasonFrom_139 rfl ?_
      refine go_bipush (v := 12) d_Ch_reasonFrom_141 rfl ?_
      refine go_icmp_ne 153 d_Ch_reasonFrom_143 rfl (fun _ => ?_) (fun hn => by first | exact absurd hn (by decide) | exact absurd (by decide) hn)
      refine go_iconst (v := 0) d_Ch_reasonFrom_153 rfl ?_
      refine go_istore d_Ch_reasonFrom_154 (Nat.le_of_ble_eq_true rfl) ?_
      refine go_iload d_Ch_reasonFrom_156 rfl ?_
      refine go_bipush (v := 8) d_Ch_reasonFrom_158 rfl ?_
      refine go_icmp_eq 170 d_Ch_reasonFrom_160 rfl (fun hn => absurd hn (by decide)) (fun _ => ?_)
      refine go_iload d_Ch_reasonFrom_163 rfl ?_
      refine go_bipush (v := 9) d_Ch_reasonFrom_165 rfl ?_
      refine go_icmp_ne 221 d_Ch_reasonFrom_167 rfl (fun hn => absurd hn (fun h => h rfl)) (fun _ => ?_)
      refine go_aload_n 0 d_Ch_reasonFrom_170 rfl rfl ?_
      refine go_iload_n 1 d_Ch_reasonFrom_171 rfl rfl ?_
      refine go_iload d_Ch_reasonFrom_172 rfl ?_
      refine go_bipush (v := 9) d_Ch_reasonFrom_174 rfl ?_
      refine go_icmp_ne 183 d_Ch_reasonFrom_176 rfl (fun hn => absurd hn (fun h => h rfl)) (fun _ => ?_)
      refine go_iconst (v := 1) d_Ch_reasonFrom_179 rfl ?_
      refine go_goto 184 d_Ch_reasonFrom_180 rfl ?_
      rw [show d + 2 * (r' + 1) + 3 = (d + 2 * r') + 4 + 1 by omega]
      refine go_V2 d_Ch_reasonFrom_184 k_Ch_113 (by assumption) (Nat.le_of_ble_eq_true rfl) (c_Ch_behind (w := d + 2 * r') (isLess := true) (go := ce_go S m f) hch0 (by omega) hc1 c1 h6' hs hbx hby h41 he (fun s' I5 L5 Q5 k1 k2 k3 k4 k5 => c_Ch_from ih hch0 (by omega) (by omega) (by omega) (by omega) (by omega) k1 k2 k3 hbt k4 he k5) (fun I5 L5 k1 k2 k3 k4 k5 k6 k7 => ?_))
      rw [show (d + 2 * r') + 4 + 1 = d + 2 * (r' + 1) + 3 by omega]
      refine go_istore d_Ch_reasonFrom_187 (Nat.le_of_ble_eq_true rfl) ?_
      refine go_aload_n 2 d_Ch_reasonFrom_189 rfl rfl ?_
      refine go_iload d_Ch_reasonFrom_190 rfl ?_
      refine go_putI d_Ch_reasonFrom_192 f_Ch_80 (by assumption) ?_
      refine go_iload d_Ch_reasonFrom_195 rfl ?_
      refine go_if_ne 270 d_Ch_reasonFrom_197 rfl (fun h197 => ?_) (fun h197 => ?_)
      · exact lose _ _ L5 _ h197 (by rw [← hR]; unfold ce_br; rw [if_neg h197]) (by rw [gw_up_ne (by omega), ← hR]; unfold ce_br; rw [if_neg h197]; exact k4) (by rw [← hR]; unfold ce_br; rw [if_neg h197]; exact k5) (fun q j1 j2 j3 => by rw [gw_up_ne (by omega), k6 q j1 j2 j3, fI q j1 j2 j3]) (fun q j1 j2 => by rw [k7 q j1 j2, fL q j1 j2])
      · have hR2 : ce_pa (ce_go S m f) (pa_lrn (pa_edge false x y) s) nn (md + 1) st lo (b0.1, b0.2 - 1) b1 (ce_pa (ce_go S m f) (pa_lrn (pa_edge true x y) s) (nI q + 1) (md + 1) st lo (b0.1, b0.2 - 1) b1 e).2 = RES := by rw [← hR]; unfold ce_br; rw [if_pos h197]
        rw [h197]
        refine go_aload_n 2 d_Ch_reasonFrom_200 rfl rfl ?_
        refine go_iload d_Ch_reasonFrom_201 rfl ?_
        refine go_bipush (v := 8) d_Ch_reasonFrom_203 rfl ?_
        refine go_icmp_ne 212 d_Ch_reasonFrom_205 rfl (fun _ => ?_) (fun hn => by first | exact absurd hn (by decide) | exact absurd (by decide) hn)
        refine go_iconst (v := 0) d_Ch_reasonFrom_212 rfl ?_
        refine go_V1 d_Ch_reasonFrom_213 k_Ch_117 (by assumption) (Nat.le_of_ble_eq_true rfl) (c_Pa_learnLess (isLess := false) (p := nn) (md := md + 1) (lo := lo) (b0 := (b0.1, b0.2 - 1)) (b1 := b1) (st := st) (s := s) (a := x) (b := y) hpl (k1.place) (by omega) (by rw [gw_up_ne (by omega)]; exact k2) (by rw [gw_up_ne (by omega)]; exact k3) hs (fun q hq => hbx q hq) (fun q hq => hby q hq) (fun hno => ?_) (fun s' hs' hok L6 k8 k9 => ?_))
        · rw [hno] at hR2
          have hR3 : RES.1 = 0 ∧ RES.2 = (ce_pa (ce_go S m f) (pa_lrn (pa_edge true x y) s) (nI q + 1) (md + 1) st lo (b0.1, b0.2 - 1) b1 e).2 := by rw [← hR2]; exact ⟨rfl, rfl⟩
          rw [hR3.1, hR3.2] at hQ
          refine go_if_ne 270 d_Ch_reasonFrom_216 rfl (fun hn => absurd hn (fun h => h rfl)) (fun _ => ?_)
          refine go_iconst (v := 0) d_Ch_reasonFrom_219 rfl ?_
          exact go_iret d_Ch_reasonFrom_220 rfl (hQ _ L5 (by rw [gw_up_ne (by omega)]; exact k4) k5 (fun q j1 j2 j3 => by rw [gw_up_ne (by omega), k6 q j1 j2 j3, fI q j1 j2 j3]) (fun q j1 j2 => by rw [k7 q j1 j2, fL q j1 j2]))
        · rw [hs'] at hR2
          refine go_if_ne 270 d_Ch_reasonFrom_216 rfl (fun _ => ?_) (fun hn => by first | exact absurd hn (by decide) | exact absurd (by decide) hn)
          exact next _ nn st lo s' _ _ _ L6 _ (by omega) (by omega) k8 hok hbt (by rw [gw_up_ne (by omega)]; exact k4) k5 (fun q j1 j2 j3 => by rw [gw_up_ne (by omega), k6 q j1 j2 j3, fI q j1 j2 j3]) (fun q j1 j2 => by rw [k9 q (by omega), k7 q j1 j2, fL q j1 j2]) hR2
    · obtain ⟨v, st, rfl⟩ : ∃ v s, st = v :: s := by cases st with | nil => exact absurd q2 (by decide) | cons v s => exact ⟨v, s, rfl⟩
      have h3' : 3 * level + (st.length + 1) ≤ md := h3
      have h6' : st.length + 1 ≤ 6 := h6
      have hBs := pa_B_s (md := md) (len := st.length + 1) (len' := st.length) (by omega)
      have hv := hb.head
      refine go_iload d_Ch_reasonFrom_139 rfl ?_
      refine go_bipush (v := 12) d_Ch_reasonFrom_141 rfl ?_
      refine go_icmp_ne 153 d_Ch_reasonFrom_143 rfl (fun _ => ?_) (fun hn => by first | exact absurd hn (by decide) | exact absurd (by decide) hn)
      refine go_iconst (v := 0) d_Ch_reasonFrom_153 rfl ?_
      refine go_istore d_Ch_reasonFrom_154 (Nat.le_of_ble_eq_true rfl) ?_
      refine go_iload d_Ch_reasonFrom_156 rfl ?_
      refine go_bipush (v := 8) d_Ch_reasonFrom_158 rfl ?_
      refine go_icmp_eq 170 d_Ch_reasonFrom_160 rfl (fun hn => absurd hn (by decide)) (fun _ => ?_)
      refine go_iload d_Ch_reasonFrom_163 rfl ?_
      refine go_bipush (v := 9) d_Ch_reasonFrom_165 rfl ?_
      refine go_icmp_ne 221 d_Ch_reasonFrom_167 rfl (fun _ => ?_) (fun hn => by first | exact absurd hn (by decide) | exact absurd (by decide) hn)
      refine go_iload d_Ch_reasonFrom_221 rfl ?_
      refine go_bipush (v := 10) d_Ch_reasonFrom_223 rfl ?_
      refine go_icmp_ne 238 d_Ch_reasonFrom_225 rfl (fun hn => absurd hn (fun h => h rfl)) (fun _ => ?_)
      refine go_aload_n 0 d_Ch_reasonFrom_228 rfl rfl ?_
      refine go_aload_n 2 d_Ch_reasonFrom_229 rfl rfl ?_
      refine go_V1 d_Ch_reasonFrom_230 k_Ch_121 (by assumption) (Nat.le_of_ble_eq_true rfl) (c_Ch_reasonOfNew s345 hpl c1 h6' (kn_ok_bd hs) (fun q hq => by have := (hv.mono hB) q hq; omega) (fun hno I5 k1 => ?_) (fun q w e1 e2 e3 I5 L5 k1 k2 k3 => ?_))
      · have hR : RES = (5, e) := by rw [← hRES]; cases v with | none => rfl | some qv => exact cIf_neg (fun ⟨w, w1, w2⟩ => hno ⟨qv, w, rfl, w1, w2⟩)
        refine go_istore d_Ch_reasonFrom_233 (Nat.le_of_ble_eq_true rfl) ?_
        refine go_goto 270 d_Ch_reasonFrom_235 rfl ?_
        exact lose 5 I5 L1 _ (by decide) (by rw [hR]) (by rw [hR, k1 _ (by omega)]; exact h41) (by rw [hR]; exact he) (fun q j1 j2 j3 => by rw [k1 q (by omega), fI q j1 j2 j3]) fL
      · subst e1
        refine go_istore d_Ch_reasonFrom_233 (Nat.le_of_ble_eq_true rfl) ?_
        refine go_goto 270 d_Ch_reasonFrom_235 rfl ?_
        exact next e (nI _ + 1) st lo s _ _ I5 L5 _ (by omega) (by omega) k1 hs (hb.tail.mono (by show pa_B md (st.length + 1) ≤ _; omega)) (by rw [k2 _ (by omega)]; exact h41) he (fun q j1 j2 j3 => by rw [k2 q (by omega), fI q j1 j2 j3]) (fun q j1 j2 => by rw [k3 q (by omega), fL q j1 j2]) (by rw [← hRES]; exact (cIf_pos ⟨w, e2, e3⟩).symm)
    · obtain ⟨z, y, x, st, rfl⟩ : ∃ z y x s, st = z :: y :: x :: s := by cases st with | nil => exact absurd q2 (by decide) | cons z s => cases s with | nil => exact absurd q2 (by simp [rn_tk]) | cons y s => cases s with | nil => exact absurd q2 (by simp [rn_tk]) | cons x s => exact ⟨z, y, x, s, rfl⟩
      have h3' : 3 * level + (st.length + 3) ≤ md := h3
      have h6' : st.length + 3 ≤ 6 := h6
      have hBs := pa_B_s (md := md) (len := st.length + 3) (len' := st.length + 1) (by omega)
      obtain ⟨j, hj, rfl, hjl⟩ := q5 rfl
      obtain ⟨hrj, smj, sj1, sj2, sj3, rj1, rj2, rj4, hcj⟩ := hcc.2.2.2 j (by omega)
      obtain ⟨wj, gj1, gj2, gj3, gj6⟩ := hc1 j (by omega)
      obtain ⟨hj1, hj2, hj3⟩ := hS j (by omega)
      obtain ⟨cf, hcf⟩ : ∃ c, (S j).2.1[0]? = some c := by cases hh : (S j).2.1 with | nil => exact absurd hh hj2 | cons c l => exact ⟨c, rfl⟩
      have hfst : cu_first (S j) = cf.2 := by unfold cu_first; cases hh : (S j).2.1 with | nil => exact absurd hh hj2 | cons c l => rw [hh] at hcf; cases hcf; rfl
      have hw0 := gj3.2.2.1 0 (by decide)
      have rj0 := gj3.2.2.2.2.1 0 (by decide)
      have hRES' : cIf ((S j).2.2 = true ∧ kn_sh s.2 (ca_sy x y z) cf.2.1 ∧ ¬ po_no (ca_sy x y z) cf.2.2.1.2 ∧ ¬ po_no (ca_sy x y z) cf.2.2.2.2) (ce_go S m f (nI q + 1, md + 1, none :: st, lo, s, ba_pot (ca_sy x y z) (-1 : Int32).toInt64 cf.2.2.1 (b0.1, b0.2 - 1), ba_pot (ca_sy x y z) (-1 : Int32).toInt64 cf.2.2.2 b1) e) (6, e) = RES := by rw [← hRES, ← hfst]; simp only [ce_do]; rw [nI_clamp (by omega)]
      refine go_iload d_Ch_reasonFrom_139 rfl ?_
      refine go_bipush (v := 12) d_Ch_reasonFrom_141 rfl ?_
      refine go_icmp_ne 153 d_Ch_reasonFrom_143 rfl (fun _ => ?_) (fun hn => by first | exact absurd hn (by decide) | exact absurd (by decide) hn)
      refine go_iconst (v := 0) d_Ch_reasonFrom_153 rfl ?_
      refine go_istore d_Ch_reasonFrom_154 (Nat.le_of_ble_eq_true rfl) ?_
      refine go_iload d_Ch_reasonFrom_156 rfl ?_
      refine go_bipush (v := 8) d_Ch_reasonFrom_158 rfl ?_
      refine go_icmp_eq 170 d_Ch_reasonFrom_160 rfl (fun hn => absurd hn (by decide)) (fun _ => ?_)
      refine go_iload d_Ch_reasonFrom_163 rfl ?_
      refine go_bipush (v := 9) d_Ch_reasonFrom_165 rfl ?_
      refine go_icmp_ne 221 d_Ch_reasonFrom_167 rfl (fun _ => ?_) (fun hn => by first | exact absurd hn (by decide) | exact absurd (by decide) hn)
      refine go_iload d_Ch_reasonFrom_221 rfl ?_
      refine go_bipush (v := 10) d_Ch_reasonFrom_223 rfl ?_
      refine go_icmp_ne 238 d_Ch_reasonFrom_225 rfl (fun _ => ?_) (fun hn => by first | exact absurd hn (by decide) | exact absurd (by decide) hn)
      refine go_iload d_Ch_reasonFrom_238 rfl ?_
      refine go_bipush (v := 11) d_Ch_reasonFrom_240 rfl ?_
      refine go_icmp_ne 262 d_Ch_reasonFrom_242 rfl (fun hn => absurd hn (fun h => h rfl)) (fun _ => ?_)
      refine go_aload_n 0 d_Ch_reasonFrom_245 rfl rfl ?_
      refine go_aload_n 2 d_Ch_reasonFrom_246 rfl rfl ?_
      refine go_aload_n 0 d_Ch_reasonFrom_247 rfl rfl ?_
      refine go_getR d_Ch_reasonFrom_248 f_Ch_24 (by assumption) (by assumption) ?_
      refine go_iload d_Ch_reasonFrom_251 rfl ?_
      refine go_aald (t := 0) (j) d_Ch_reasonFrom_253 (by assumption) (by decide) (rfl) (by omega) (by decide) (by assumption) ?_
      refine go_V2 d_Ch_reasonFrom_254 k_Ch_125 (by assumption) (Nat.le_of_ble_eq_true rfl) (c_Ch_reasonOfCall hch0 hpl (by omega) (by omega) smj sj3 rj4 rj0 (by omega) (hcj _ hw0) (gj3.2.2.2.2.2 0 cf hcf) gj6 c1 h6' (kn_ok_bd hs) (ca_sb (hb.tail.tail.head.mono (Nat.le_trans hB (by decide))) (hb.tail.head.mono (Nat.le_trans hB (by decide))) (hb.head.mono (Nat.le_trans hB (by decide)))) (fun hno I5 L5 k1 k2 => ?_) (fun hyes I5 L5 k1 k2 k3 => ?_))
      · have hR : RES = (6, e) := by rw [← hRES']; exact cIf_neg hno
        refine go_istore d_Ch_reasonFrom_257 (Nat.le_of_ble_eq_true rfl) ?_
        refine go_goto 270 d_Ch_reasonFrom_259 rfl ?_
        exact lose 6 I5 L5 _ (by decide) (by rw [hR]) (by rw [hR, k1 _ (by omega) (by omega)]; exact h41) (by rw [hR]; exact he) (fun q j1 j2 j3 => by rw [k1 q j2 (by omega), fI q j1 j2 j3]) (fun q j1 j2 => by rw [k2 q j1 (by omega), fL q j1 j2])
      · skip
        refine go_istore d_Ch_reasonFrom_257 (Nat.le_of_ble_eq_true rfl) ?_
        refine go_goto 270 d_Ch_reasonFrom_259 rfl ?_
        exact next e (nI q + 1) (none :: st) lo s _ _ I5 L5 _ (by simp only [List.length_cons]; omega) (by simp only [List.length_cons]; omega) k1 hs ((hb.tail.tail.tail.mono (by show pa_B md (st.length + 3) ≤ pa_B (md + 1) (st.length + 1); omega)).cons sb_none) (by rw [k2 _ (by omega) (by omega)]; exact h41) he (fun q j1 j2 j3 => by rw [k2 q j2 (by omega), fI q j1 j2 j3]) (fun q j1 j2 => by rw [k3 q j1 (by omega), fL q j1 j2]) (by rw [← hRES']; exact (cIf_pos hyes).symm)
    · obtain ⟨u1, u2⟩ := pa_do_bd (p := nI q + 1) hb hmd (by omega) hnn hk q2 q4
      have hR : ce_go S m f ((pa_do k nn (nI q + 1) st lo).1, md + 1, (pa_do k nn (nI q + 1) st lo).2.1, (pa_do k nn (nI q + 1) st lo).2.2, s, (b0.1, b0.2 - 1), b1) e = RES := by
        rw [← hRES]
        clear q2 q3 q4 q5 u1 u2 hRES next lose
        rcases (show k = 0 ∨ k = 1 ∨ k = 2 ∨ k = 3 ∨ k = 4 ∨ k = 5 ∨ k = 6 ∨ k = 7 ∨ k = 13 ∨ k = 14 by omega) with rfl | rfl | rfl | rfl | rfl | rfl | rfl | rfl | rfl | rfl <;> rfl
      have v1 : 3 * level + (st.length - rn_tk k + rn_pu k) ≤ md + 1 := by have := (rn_tk_eq k k15).2.2.2; clear q4 q5; omega
      have nk : ∀ c : Nat, c < 15 → c ≠ k → ¬ nI k = nI c := fun c hc1 hc2 h => hc2 ((nI_eq (by omega) (by omega)).mp h).symm
      refine go_iload d_Ch_reasonFrom_139 rfl ?_
      refine go_bipush (v := 12) d_Ch_reasonFrom_141 rfl ?_
      refine go_icmp_ne 153 d_Ch_reasonFrom_143 rfl (fun _ => ?_) (fun hn => by first | exact absurd hn (nk 12 (by decide) (by omega)) | exact absurd (nk 12 (by decide) (by omega)) hn)
      refine go_iconst (v := 0) d_Ch_reasonFrom_153 rfl ?_
      refine go_istore d_Ch_reasonFrom_154 (Nat.le_of_ble_eq_true rfl) ?_
      refine go_iload d_Ch_reasonFrom_156 rfl ?_
      refine go_bipush (v := 8) d_Ch_reasonFrom_158 rfl ?_
      refine go_icmp_eq 170 d_Ch_reasonFrom_160 rfl (fun hn => absurd hn (nk 8 (by decide) (by omega))) (fun _ => ?_)
      refine go_iload d_Ch_reasonFrom_163 rfl ?_
      refine go_bipush (v := 9) d_Ch_reasonFrom_165 rfl ?_
      refine go_icmp_ne 221 d_Ch_reasonFrom_167 rfl (fun _ => ?_) (fun hn => by first | exact absurd hn (nk 9 (by decide) (by omega)) | exact absurd (nk 9 (by decide) (by omega)) hn)
      refine go_iload d_Ch_reasonFrom_221 rfl ?_
      refine go_bipush (v := 10) d_Ch_reasonFrom_223 rfl ?_
      refine go_icmp_ne 238 d_Ch_reasonFrom_225 rfl (fun _ => ?_) (fun hn => by first | exact absurd hn (nk 10 (by decide) (by omega)) | exact absurd (nk 10 (by decide) (by omega)) hn)
      refine go_iload d_Ch_reasonFrom_238 rfl ?_
      refine go_bipush (v := 11) d_Ch_reasonFrom_240 rfl ?_
      refine go_icmp_ne 262 d_Ch_reasonFrom_242 rfl (fun _ => ?_) (fun hn => by first | exact absurd hn (nk 11 (by decide) (by omega)) | exact absurd (nk 11 (by decide) (by omega)) hn)
      refine go_aload_n 2 d_Ch_reasonFrom_262 rfl rfl ?_
      refine go_iload d_Ch_reasonFrom_263 rfl ?_
      refine go_iload d_Ch_reasonFrom_265 rfl ?_
      refine go_V2 d_Ch_reasonFrom_267 k_Ch_129 (by assumption) (Nat.le_of_ble_eq_true rfl) (c_Pa_performPlain hpl c1 h6 hk q2 q3 q4 (fun I5 L5 k1 k2 k3 => ?_))
      exact next e _ _ _ s _ _ I5 L5 _ (by rw [u2]; exact q3) (by rw [u2]; exact v1) k1 hs u1 (by rw [k2 _ (by omega)]; exact h41) he (fun q j1 j2 j3 => by rw [k2 q (by omega), fI q j1 j2 j3]) (fun q j1 j2 => by rw [k3 q (by omega), fL q j1 j2]) hR
  by_cases hmd0 : md = 0
  · skip
    refine go_iload_n 3 d_Ch_reasonFrom_17 rfl rfl ?_
    refine go_bipush (v := 40) d_Ch_reasonFrom_18 rfl ?_
    refine go_icmp_gt 284 d_Ch_reasonFrom_20 rfl (fun hn => absurd hn (nt)) (fun _ => ?_)
    refine go_aload_n 2 d_Ch_reasonFrom_23 rfl rfl ?_
    refine go_getI d_Ch_reasonFrom_24 f_Ch_80 (by assumption) ?_
    rw [a2]
    refine go_istore d_Ch_reasonFrom_27 (Nat.le_of_ble_eq_true rfl) ?_
    refine go_aload_n 0 d_Ch_reasonFrom_29 rfl rfl ?_
    refine go_getR d_Ch_reasonFrom_30 f_Ch_28 (by assumption) (by assumption) ?_
    refine go_iload d_Ch_reasonFrom_33 rfl ?_
    refine go_V1 d_Ch_reasonFrom_35 k_Ch_81 (by assumption) (Nat.le_of_ble_eq_true rfl) (c_Me_hasPlace hme hco (fun b hbb => ?_))
    refine go_if_ne 43 d_Ch_reasonFrom_38 rfl (fun _ => ?_) (fun hn => by first | exact absurd hn (bI_n0.mpr (hbb.mpr ⟨q, hq, rfl⟩)) | exact absurd (bI_n0.mpr (hbb.mpr ⟨q, hq, rfl⟩)) hn)
    refine go_aload_n 2 d_Ch_reasonFrom_43 rfl rfl ?_
    refine go_getI d_Ch_reasonFrom_44 f_Ch_85 (by assumption) ?_
    refine go_if_ne 54 d_Ch_reasonFrom_47 rfl (fun hn => absurd hn (fun h => h (by rw [a3, hmd0]; rfl))) (fun _ => ?_)
    refine go_null d_Ch_reasonFrom_50 ?_
    refine go_goto 63 d_Ch_reasonFrom_51 rfl ?_
    refine go_astoreN d_Ch_reasonFrom_63 (Nat.le_of_ble_eq_true rfl) ?_
    refine go_aloadN d_Ch_reasonFrom_65 rfl ?_
    refine go_ifnullN 78 d_Ch_reasonFrom_67 rfl ?_
    exact body (by rw [if_pos hmd0])
  · skip
    refine go_iload_n 3 d_Ch_reasonFrom_17 rfl rfl ?_
    refine go_bipush (v := 40) d_Ch_reasonFrom_18 rfl ?_
    refine go_icmp_gt 284 d_Ch_reasonFrom_20 rfl (fun hn => absurd hn (nt)) (fun _ => ?_)
    refine go_aload_n 2 d_Ch_reasonFrom_23 rfl rfl ?_
    refine go_getI d_Ch_reasonFrom_24 f_Ch_80 (by assumption) ?_
    rw [a2]
    refine go_istore d_Ch_reasonFrom_27 (Nat.le_of_ble_eq_true rfl) ?_
    refine go_aload_n 0 d_Ch_reasonFrom_29 rfl rfl ?_
    refine go_getR d_Ch_reasonFrom_30 f_Ch_28 (by assumption) (by assumption) ?_
    refine go_iload d_Ch_reasonFrom_33 rfl ?_
    refine go_V1 d_Ch_reasonFrom_35 k_Ch_81 (by assumption) (Nat.le_of_ble_eq_true rfl) (c_Me_hasPlace hme hco (fun b hbb => ?_))
    refine go_if_ne 43 d_Ch_reasonFrom_38 rfl (fun _ => ?_) (fun hn => by first | exact absurd hn (bI_n0.mpr (hbb.mpr ⟨q, hq, rfl⟩)) | exact absurd (bI_n0.mpr (hbb.mpr ⟨q, hq, rfl⟩)) hn)
    refine go_aload_n 2 d_Ch_reasonFrom_43 rfl rfl ?_
    refine go_getI d_Ch_reasonFrom_44 f_Ch_85 (by assumption) ?_
    refine go_if_ne 54 d_Ch_reasonFrom_47 rfl (fun _ => ?_) (fun hn => by first | exact absurd hn (by rw [a3]; exact nI_ne0 (Nat.pos_of_ne_zero hmd0) (by omega)) | exact absurd (by rw [a3]; exact nI_ne0 (Nat.pos_of_ne_zero hmd0) (by omega)) hn)
    refine go_aload_n 0 d_Ch_reasonFrom_54 rfl rfl ?_
    refine go_getR d_Ch_reasonFrom_55 f_Ch_28 (by assumption) (by assumption) ?_
    refine go_iload d_Ch_reasonFrom_58 rfl ?_
    refine go_V1 d_Ch_reasonFrom_60 k_Ch_88 (by assumption) (Nat.le_of_ble_eq_true rfl) (c_Me_findCut hme hcs (fun hN => ?_) (fun i c hi hcp => ?_))
    · skip
      refine go_astoreN d_Ch_reasonFrom_63 (Nat.le_of_ble_eq_true rfl) ?_
      refine go_aloadN d_Ch_reasonFrom_65 rfl ?_
      refine go_ifnullN 78 d_Ch_reasonFrom_67 rfl ?_
      exact body (by rw [if_neg hmd0]; exact cu_of_none hN)
    · have hgo : ce_go S m (f + 1) (nI q, md, st, lo, s, b0, b1) e = ce_end e st lo s.2 b0 b1 (some c.2) := by
        show cIf _ _ _ = _
        rw [cIf_pos ⟨q, hq, rfl⟩, if_neg hmd0, cu_of_some hcp hS3 hi]
      rw [hgo] at hQ
      have hi6 : i < 6 := by have := (List.getElem?_eq_some_iff.mp hi).1; have := hcs.2.1; omega
      have hwi := hcs.2.2.1 i hi6
      refine go_astore d_Ch_reasonFrom_63 (Nat.le_of_ble_eq_true rfl) ?_
      refine go_aload d_Ch_reasonFrom_65 rfl ?_
      refine go_ifnull d_Ch_reasonFrom_67 ?_
      refine go_aload_n 0 d_Ch_reasonFrom_70 rfl rfl ?_
      refine go_aload_n 2 d_Ch_reasonFrom_71 rfl rfl ?_
      refine go_aload d_Ch_reasonFrom_72 rfl ?_
      refine go_V2 d_Ch_reasonFrom_74 k_Ch_92 (by assumption) (Nat.le_of_ble_eq_true rfl) (c_Ch_end1 s345 hpl (by omega) (by omega) (hcu _ hwi) (hcs.2.2.2.2.2 i c hi) ha h6 (fun j qq hj hqq => by have := ((hb.2 j hj).mono hB) qq hqq; omega) (kn_ok_bd hs) h4 he (fun I3 L3 k1 k2 k3 => ?_))
      exact go_iret d_Ch_reasonFrom_77 rfl (hQ I3 L3 k1 (ce_end_le he) (fun q j1 j2 j3 => k2 q j1) (fun q j1 j2 => k3 q (by omega)))
theorem ch_all (hcc : pt_CC sh R) (hch : pt_Ch sh R) (hm : m < 4) (hrm : R 345 1 = some (2 + 82 * m)) (hS : st_ok S) : ∀ f, ch_G n sh X R S m f
  | 0 => ch_G_0
  | f + 1 => ch_G_s hcc hch hm hrm hS (ch_all hcc hch hm hrm hS f)
end CH
