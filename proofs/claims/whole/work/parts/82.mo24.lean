/-! the reference: check, its constructor -/
noncomputable def uc_to (U : Nat → ab_Me) (m : Nat) : Nat → Nat → Int32
  | _, 0 => 0
  | p, n + 1 => match cu_of (U m).2.1 (nI p) with
    | none => uc_to U m (p + 1) n
    | some A => if ce_cut U m (p, A) = 0 then uc_to U m (p + 1) n else 100 * nI p + ce_cut U m (p, A)
noncomputable def uc_ans (U : Nat → ab_Me) (m : Nat) : Int32 := if (U m).1.length = 0 then 2 else uc_to U m 0 24
theorem ce_end_9 {e : Nat} {st : List ab_Sy} {lo : Nat → ab_Sy} {C : sp_E} {b0 b1 : ab_Ba} {en : Option ab_Cu} : ∃ v, v ≤ 9 ∧ (ce_end e st lo C b0 b1 en).1 = nI v := by
  unfold ce_end
  by_cases h : 50 ≤ e
  · rw [if_pos h]; exact ⟨4, by decide, rfl⟩
  · rw [if_neg h]
    cases en with
    | none => dsimp only; rcases cIf_or (ba_sh C b0 ∧ ba_sh C b1) ((0 : Int32), e + 1) (9, e + 1) with h | h <;> rw [h]; exact ⟨0, by decide, rfl⟩; exact ⟨9, by decide, rfl⟩
    | some A =>
      dsimp only
      split
      · exact ⟨7, by decide, rfl⟩
      · rcases cIf_or (kn_sh C lo A.1) (cIf ((¬ po_no lo A.2.1.2 ∧ ba_sh C (ba_pot lo (-1 : Int32).toInt64 A.2.1 b0)) ∧ (¬ po_no lo A.2.2.2 ∧ ba_sh C (ba_pot lo (-1 : Int32).toInt64 A.2.2 b1))) ((0 : Int32), e + 1) (9, e + 1)) (8, e + 1) with h | h <;> rw [h]
        · rcases cIf_or ((¬ po_no lo A.2.1.2 ∧ ba_sh C (ba_pot lo (-1 : Int32).toInt64 A.2.1 b0)) ∧ (¬ po_no lo A.2.2.2 ∧ ba_sh C (ba_pot lo (-1 : Int32).toInt64 A.2.2 b1))) ((0 : Int32), e + 1) (9, e + 1) with h | h <;> rw [h]; exact ⟨0, by decide, rfl⟩; exact ⟨9, by decide, rfl⟩
        · exact ⟨8, by decide, rfl⟩
theorem ce_do_9 {go : ab_Pa → Nat → Int32 × Nat} {S : Nat → ab_Me} {k : Nat} {nn p : Int32} {md : Nat} {st : List ab_Sy} {lo : Nat → ab_Sy} {s : sp_E × sp_E} {b0 b1 : ab_Ba} {e : Nat} (hgo : ∀ x e, ∃ v, v ≤ 9 ∧ (go x e).1 = nI v) : ∃ v, v ≤ 9 ∧ (ce_do go S k nn p md st lo s b0 b1 e).1 = nI v := by
  have hpa : ∀ (k : Option (sp_E × sp_E)) (p : Int32) (md : Nat) (st : List ab_Sy) (lo : Nat → ab_Sy) (b0 b1 : ab_Ba) (e : Nat), ∃ v, v ≤ 9 ∧ (ce_pa go k p md st lo b0 b1 e).1 = nI v := fun k p md st lo b0 b1 e => by
    cases k with
    | none => exact ⟨0, by decide, rfl⟩
    | some s => exact hgo _ e
  have hbr : ∀ (near jump : Option (sp_E × sp_E)) (p pj : Int32) (md : Nat) (st : List ab_Sy) (lo : Nat → ab_Sy) (b0 b1 : ab_Ba) (e : Nat), ∃ v, v ≤ 9 ∧ (ce_br go near jump p pj md st lo b0 b1 e).1 = nI v := fun near jump p pj md st lo b0 b1 e => by
    unfold ce_br
    split
    · exact hpa _ _ _ _ _ _ _ _
    · exact hpa _ _ _ _ _ _ _ _
  have hci : ∀ (P : Prop) (a b : Int32 × Nat), (∃ v, v ≤ 9 ∧ a.1 = nI v) → (∃ v, v ≤ 9 ∧ b.1 = nI v) → ∃ v, v ≤ 9 ∧ (cIf P a b).1 = nI v := fun P a b ha hb => by rcases cIf_or P a b with h | h <;> rw [h]; exact ha; exact hb
  unfold ce_do
  split
  · exact ce_end_9
  · exact hbr _ _ _ _ _ _ _ _ _ _
  · exact hbr _ _ _ _ _ _ _ _ _ _
  · exact ⟨5, by decide, rfl⟩
  · exact hci _ _ _ (hgo _ _) ⟨5, by decide, rfl⟩
  · exact hci _ _ _ (hgo _ _) ⟨6, by decide, rfl⟩
  · exact hgo _ _
theorem ce_go_9 {U : Nat → ab_Me} {m : Nat} : ∀ (f : Nat) (x : ab_Pa) (e : Nat), ∃ v, v ≤ 9 ∧ (ce_go U m f x e).1 = nI v
  | 0, x, e => ⟨3, by decide, rfl⟩
  | f + 1, (p, md, st, lo, s, b0, b1), e => by
    have hci : ∀ (P : Prop) (a b : Int32 × Nat), (∃ v, v ≤ 9 ∧ a.1 = nI v) → (∃ v, v ≤ 9 ∧ b.1 = nI v) → ∃ v, v ≤ 9 ∧ (cIf P a b).1 = nI v := fun P a b ha hb => by rcases cIf_or P a b with h | h <;> rw [h]; exact ha; exact hb
    unfold ce_go
    refine hci _ _ _ ?_ ⟨2, by decide, rfl⟩
    split
    · exact ce_end_9
    · split
      · exact ⟨3, by decide, rfl⟩
      · split
        · exact ⟨2, by decide, rfl⟩
        · exact hci _ _ _ ⟨2, by decide, rfl⟩ (ce_do_9 (fun x e => ce_go_9 f x e))
theorem ce_cut_9 {U : Nat → ab_Me} {m : Nat} {c : Nat × ab_Cu} : ∃ v, v ≤ 9 ∧ ce_cut U m c = nI v := by
  unfold ce_cut
  split
  · exact ⟨0, by decide, rfl⟩
  · rename_i s _
    rcases cIf_or (kn_an s.2 c.2.2.1.2 c.2.2.1.1.toInt64 ∨ kn_an s.2 c.2.2.2.2 c.2.2.2.1.toInt64) 1 (ce_go U m 41 (nI c.1, 0, [], sy_id, s, ba_new c.2.2.1, ba_new c.2.2.2) 0).1 with h | h <;> rw [h]
    · exact ⟨1, by decide, rfl⟩
    · exact ce_go_9 _ _ _
theorem uc_nz {U : Nat → ab_Me} {m : Nat} {c : Nat × ab_Cu} {pl : Nat} {y : Int32} (h24 : pl < 24) (hc : ¬ ce_cut U m c = 0) : 100 * nI pl + ce_cut U m c = (if 100 * nI pl + ce_cut U m c = 0 then y else 100 * nI pl + ce_cut U m c) := by
  obtain ⟨v, hv, e⟩ := ce_cut_9 (U := U) (m := m) (c := c)
  rw [e] at hc ⊢
  rw [show (100 : Int32) * nI pl + nI v = nI (100 * pl + v) from ix (a := 100)]
  rw [if_neg (fun h0 => hc (by rw [show v = 0 by have := (nI_eq (b := 0) (by omega) (by decide)).mp h0; omega]; rfl))]
section MO
variable {d n : Nat} {sh : Nat → Nat × Nat} {X : Nat × (Nat → Int32)} {R : Nat → Nat → Option Nat} {I : Nat → Nat → Int32} {L : Nat → Nat → Int64} {Q : Option Value → gw_Mem → Prop}
variable {U : Nat → ab_Me}
theorem mc_at.acc {k : Nat} {b : Bool} {x : Int32} (h : mc_at I U) (hk : k < 4) (hx : x = bI b) : mc_at (va_up I 537 (va_up (I 537) k x)) (va_up U k ((U k).1, (U k).2.1, b)) := by
  intro m hm
  by_cases he : m = k
  · subst he
    rw [gw_up_eq]
    obtain ⟨a1, a2, a3, a4, a5, a6, a7⟩ := h m hm
    exact ⟨by rw [gw_up_ne (by decide)]; exact a1, a2, fun j t ht => by rw [gw_up_ne (by decide), gw_up_ne (by decide)]; exact a3 j t ht, by rw [up2_eq]; exact hx, by rw [gw_up_ne (by decide)]; exact a5, a6, fun i c hh => ⟨by rw [gw_up_ne (by decide)]; exact (a7 i c hh).1, (a7 i c hh).2.ptw (mu_eq.row (fun q u v => gw_up_ne (by omega)))⟩⟩
  · rw [gw_up_ne he]
    exact (h m hm).ptw (mk_eq.row (fun q a b => gw_up_ne (by omega))) (up2_ne (Or.inr he)) (ms_eq.row (fun q a b => gw_up_ne (by omega)))
theorem c_Mo_check {x : Int32} (hp : pt_Mo sh R) (hU : u_ok U) (hmc : mc_at I U) (hf : ¬ (∃ k, k < 4 ∧ x = nI k) → Q (some (.int (-1))) (n, sh, X, R, I, L)) (hQ : ∀ k, k < 4 → x = nI k → ∀ I' L', mc_at I' (va_up U k ((U k).1, (U k).2.1, decide (uc_ans U k = 0))) → (∀ j, j ≠ 16 → j ≠ 17 → I' 533 j = I 533 j) → (∀ q, q ≠ 533 → q ≠ 537 → I' q = I q) → (∀ q, q ≠ 549 → q ≠ 550 → q ≠ 551 → L' q = L q) → Q (some (.int (uc_ans U k))) (n, sh, X, R, I', L')) : gw_Call y_Mo_check (d + 6) 0 0 [.ref 533, .int x] (n, sh, X, R, I, L) Q := by
  have hp0 := hp
  obtain ⟨s533, s534, s535, s536, s537, s538, s539, s540, s541, s542, s543, s544, s545, s546, s547, s548, s549, s550, s551, s552, s553, s554, s555, s556, s557, r534, r535, r536, r537, r538, r539, r540, r541, r542, r543, r544, r545, r546, r547, r548, r549, r550, r551, r552, r553, r554, r555, r556, r557⟩ := hp
  refine gw_call o_Mo_check (Nat.le_of_ble_eq_true rfl) ?_
  have last : ∀ (k : Nat) (a : Int32) (I1 : Nat → Nat → Int32) (L1 : Nat → Nat → Int64) (o3 o4 o5 : Option Value), k < 4 → x = nI k → a = uc_ans U k → ad_fr 0 I I1 L L1 → gw_Go y_Mo_check (d + 6) 0 0 95 [some (.ref 533), some (.int (nI k)), some (.int a), o3, o4, o5] [] (n, sh, X, R, I1, L1) Q := by
    intro k a I1 L1 o3 o4 o5 hk hx ha hfr
    have hmc1 : mc_at I1 U := hmc.kept (fun q u v => hfr.2.1 q (by omega))
    have fin := hQ k hk hx
    rw [← ha] at fin
    refine go_aload_n 0 d_Mo_check_95 rfl rfl ?_
    refine go_getR d_Mo_check_96 f_Mo_19 (by assumption) (by assumption) ?_
    refine go_iload_n 1 d_Mo_check_99 rfl rfl ?_
    refine go_iload_n 2 d_Mo_check_100 rfl rfl ?_
    refine go_if_ne 108 d_Mo_check_101 rfl (fun h101 => ?_) (fun h101 => ?_)
    · refine go_iconst (v := 0) d_Mo_check_108 rfl ?_
      refine go_zast (k) d_Mo_check_109 (by assumption) (rfl) (hk) (by decide) (by first | exact Or.inl rfl | exact Or.inr rfl | assumption) ?_
      refine go_iload_n 2 d_Mo_check_110 rfl rfl ?_
      exact go_iret d_Mo_check_111 rfl (fin _ L1 (by first | exact hmc1.acc hk (by rw [decide_eq_true h101]; rfl) | exact hmc1.acc hk (by rw [decide_eq_false h101]; rfl)) (fun j a b => by rw [gw_up_ne (by decide)]; exact hfr.1 j a b) (fun q a b => by rw [gw_up_ne b]; exact hfr.2.1 q a) hfr.2.2.2)
    · refine go_iconst (v := 1) d_Mo_check_104 rfl ?_
      refine go_goto 109 d_Mo_check_105 rfl ?_
      refine go_zast (k) d_Mo_check_109 (by assumption) (rfl) (hk) (by decide) (by first | exact Or.inl rfl | exact Or.inr rfl | assumption) ?_
      refine go_iload_n 2 d_Mo_check_110 rfl rfl ?_
      exact go_iret d_Mo_check_111 rfl (fin _ L1 (by first | exact hmc1.acc hk (by rw [decide_eq_true h101]; rfl) | exact hmc1.acc hk (by rw [decide_eq_false h101]; rfl)) (fun j a b => by rw [gw_up_ne (by decide)]; exact hfr.1 j a b) (fun q a b => by rw [gw_up_ne b]; exact hfr.2.1 q a) hfr.2.2.2)
  have loop : ∀ (w pl k : Nat) (z a : Int32) (I1 : Nat → Nat → Int32) (L1 : Nat → Nat → Int64) (o4 o5 : Option Value), k < 4 → x = nI k → z = nI pl → pl + w = 24 → uc_ans U k = (if a = 0 then uc_to U k pl w else a) → ad_fr 0 I I1 L L1 → gw_Go y_Mo_check (d + 6) 0 0 36 [some (.ref 533), some (.int (nI k)), some (.int a), some (.int z), o4, o5] [] (n, sh, X, R, I1, L1) Q := by
    intro w
    induction w with
    | zero =>
      intro pl k z a I1 L1 o4 o5 hk hx hz hw ha hfr
      have h24 : pl = 24 := by omega
      subst h24
      refine go_iload_n 3 d_Mo_check_36 rfl rfl ?_
      refine go_bipush (v := 24) d_Mo_check_37 rfl ?_
      refine go_icmp_ge 95 d_Mo_check_39 rfl (fun _ => ?_) (fun hn => absurd (by rw [hz]; decide) hn)
      exact last k a I1 L1 _ _ _ hk hx (by rw [ha]; by_cases h0 : a = 0; (rw [if_pos h0]; exact h0); rw [if_neg h0]) hfr
    | succ w ih =>
      intro pl k z a I1 L1 o4 o5 hk hx hz hw ha hfr
      have hmc1 : mc_at I1 U := hmc.kept (fun q u v => hfr.2.1 q (by omega))
      by_cases h0 : a = 0
      · rw [if_pos h0] at ha
        have ha' : uc_ans U k = (match cu_of (U k).2.1 (nI pl) with | none => uc_to U k (pl + 1) w | some A => if ce_cut U k (pl, A) = 0 then uc_to U k (pl + 1) w else 100 * nI pl + ce_cut U k (pl, A)) := ha
        subst hz
        refine go_iload_n 3 d_Mo_check_36 rfl rfl ?_
        refine go_bipush (v := 24) d_Mo_check_37 rfl ?_
        refine go_icmp_ge 95 d_Mo_check_39 rfl (fun hn => absurd hn (nI_ge (b := 24) (by omega) (by decide))) (fun _ => ?_)
        refine go_iload_n 2 d_Mo_check_42 rfl rfl ?_
        refine go_if_ne 95 d_Mo_check_43 rfl (fun hn => absurd hn ((fun hh => hh h0))) (fun _ => ?_)
        refine go_aload_n 0 d_Mo_check_46 rfl rfl ?_
        refine go_iload_n 1 d_Mo_check_47 rfl rfl ?_
        refine go_iload_n 3 d_Mo_check_48 rfl rfl ?_
        refine go_V2 d_Mo_check_49 k_Mo_106 (by assumption) (Nat.le_of_ble_eq_true rfl) (c_Mo_cutAt (d := d + 4) hp0 hmc1 (fun hno => ?hno) (fun k' i e' a1 a2 a3 a4 a5 => ?_))
        case hno =>
          rw [cu_of_none (fun c hc hcp => hno ⟨k, c, hk, rfl, hc, hcp⟩)] at ha'
          refine go_istore d_Mo_check_52 (Nat.le_of_ble_eq_true rfl) ?_
          refine go_iload d_Mo_check_54 rfl ?_
          refine go_if_ge 63 d_Mo_check_56 rfl (fun hn => absurd hn (by decide)) (fun _ => ?_)
          refine go_iconst (v := 0) d_Mo_check_59 rfl ?_
          refine go_goto 70 d_Mo_check_60 rfl ?_
          refine go_istore d_Mo_check_70 (Nat.le_of_ble_eq_true rfl) ?_
          refine go_iload d_Mo_check_72 rfl ?_
          refine go_if_ne 81 d_Mo_check_74 rfl (fun hn => absurd hn ((fun hh => hh rfl))) (fun _ => ?_)
          refine go_iconst (v := 0) d_Mo_check_77 rfl ?_
          refine go_goto 88 d_Mo_check_78 rfl ?_
          refine go_istore_n 2 d_Mo_check_88 rfl (Nat.le_of_ble_eq_true rfl) ?_
          refine go_iinc d_Mo_check_89 rfl rfl (Nat.le_of_ble_eq_true rfl) ?_
          refine go_goto 36 d_Mo_check_92 rfl ?_
          exact ih (pl + 1) k _ _ I1 L1 _ _ hk hx (gw_inc rfl) (by omega) (by rw [ha', if_pos rfl]) hfr
        have ek := (nI_eq (by omega) (by omega)).mp a2
        subst ek
        rw [cu_of_some a4 (hU k hk).2.1 a3] at ha'
        have hpl : e'.1 = pl := (nI_eq (by have := ((hU k hk).2.2.1 e' (List.mem_of_getElem? a3)).2.2; omega) (by omega)).mp a4
        subst hpl
        refine go_istore d_Mo_check_52 (Nat.le_of_ble_eq_true rfl) ?_
        refine go_iload d_Mo_check_54 rfl ?_
        refine go_if_ge 63 d_Mo_check_56 rfl (fun _ => ?_) (fun hn => absurd (nI_pos' (by omega)) hn)
        refine go_aload_n 0 d_Mo_check_63 rfl rfl ?_
        refine go_iload_n 1 d_Mo_check_64 rfl rfl ?_
        refine go_iload d_Mo_check_65 rfl ?_
        refine go_V2 d_Mo_check_67 k_Mo_128 (by assumption) (Nat.le_of_ble_eq_true rfl) (c_Mo_checkCut (d := d) (U := U) (pl := e'.1) (A := e'.2) hp0 hk hU hmc1 a3 (fun I2 L2 c1 => ?_))
        refine go_istore d_Mo_check_70 (Nat.le_of_ble_eq_true rfl) ?_
        refine go_iload d_Mo_check_72 rfl ?_
        refine go_if_ne 81 d_Mo_check_74 rfl (fun h74 => ?_) (fun h74 => ?_)
        · refine go_bipush (v := 100) d_Mo_check_81 rfl ?_
          refine go_iload_n 3 d_Mo_check_83 rfl rfl ?_
          refine go_imul d_Mo_check_84 ?_
          refine go_iload d_Mo_check_85 rfl ?_
          refine go_iadd d_Mo_check_87 ?_
          refine go_istore_n 2 d_Mo_check_88 rfl (Nat.le_of_ble_eq_true rfl) ?_
          refine go_iinc d_Mo_check_89 rfl rfl (Nat.le_of_ble_eq_true rfl) ?_
          refine go_goto 36 d_Mo_check_92 rfl ?_
          exact ih (e'.1 + 1) k _ _ I2 L2 _ _ hk hx (gw_inc rfl) (by omega) (by first | (rw [ha']; dsimp only; rw [if_pos (Classical.byContradiction h74), if_pos rfl]) | (rw [ha']; dsimp only; rw [if_pos h74, if_pos rfl]) | (rw [ha']; dsimp only; rw [if_neg h74]; exact uc_nz (by have := ((hU k hk).2.2.1 e' (List.mem_of_getElem? a3)).2.2; omega) h74)) (hfr.trans c1)
        · refine go_iconst (v := 0) d_Mo_check_77 rfl ?_
          refine go_goto 88 d_Mo_check_78 rfl ?_
          refine go_istore_n 2 d_Mo_check_88 rfl (Nat.le_of_ble_eq_true rfl) ?_
          refine go_iinc d_Mo_check_89 rfl rfl (Nat.le_of_ble_eq_true rfl) ?_
          refine go_goto 36 d_Mo_check_92 rfl ?_
          exact ih (e'.1 + 1) k _ _ I2 L2 _ _ hk hx (gw_inc rfl) (by omega) (by first | (rw [ha']; dsimp only; rw [if_pos (Classical.byContradiction h74), if_pos rfl]) | (rw [ha']; dsimp only; rw [if_pos h74, if_pos rfl]) | (rw [ha']; dsimp only; rw [if_neg h74]; exact uc_nz (by have := ((hU k hk).2.2.1 e' (List.mem_of_getElem? a3)).2.2; omega) h74)) (hfr.trans c1)
      · rw [if_neg h0] at ha
        refine go_iload_n 3 d_Mo_check_36 rfl rfl ?_
        refine go_bipush (v := 24) d_Mo_check_37 rfl ?_
        refine go_icmp_ge 95 d_Mo_check_39 rfl (fun hn => absurd hn (by rw [hz]; exact nI_ge (b := 24) (by omega) (by decide))) (fun _ => ?_)
        refine go_iload_n 2 d_Mo_check_42 rfl rfl ?_
        refine go_if_ne 95 d_Mo_check_43 rfl (fun _ => ?_) (fun hn => by first | exact absurd hn (h0) | exact absurd (h0) hn)
        exact last k a I1 L1 _ _ _ hk hx ha.symm hfr
  refine go_iload_n 1 d_Mo_check_0 rfl rfl ?_
  refine go_i2l d_Mo_check_1 (rfl) ?_
  refine go_lconst (v := 0) d_Mo_check_2 rfl ?_
  refine go_ldc2 d_Mo_check_3 i_Mo_84 ?_
  refine go_S3 d_Mo_check_6 k_Mo_86 (Nat.le_of_ble_eq_true rfl) (c_Mo_in (l := 0) (h := 3) rfl rfl (fun b1 k1 z1 => ?_))
  refine go_if_ne 14 d_Mo_check_9 rfl (fun h9 => ?_) (fun h9 => ?_)
  · obtain ⟨k, hk, hx⟩ := m4' (k1.mp h9)
    subst hx
    refine go_aload_n 0 d_Mo_check_14 rfl rfl ?_
    refine go_getR d_Mo_check_15 f_Mo_7 (by assumption) (by assumption) ?_
    refine go_iload_n 1 d_Mo_check_18 rfl rfl ?_
    refine go_iald (k) d_Mo_check_19 (by assumption) (rfl) (hk) (by decide) ?_
    rw [(hmc k hk).1]
    refine go_if_ne 32 d_Mo_check_20 rfl (fun h20 => ?_) (fun h20 => ?_)
    · refine go_iconst (v := 0) d_Mo_check_32 rfl ?_
      refine go_istore_n 2 d_Mo_check_33 rfl (Nat.le_of_ble_eq_true rfl) ?_
      refine go_iconst (v := 0) d_Mo_check_34 rfl ?_
      refine go_istore_n 3 d_Mo_check_35 rfl (Nat.le_of_ble_eq_true rfl) ?_
      exact loop 24 0 k _ _ I L _ _ hk rfl rfl rfl (by rw [if_pos rfl]; exact if_neg (fun hh => h20 (by rw [hh]; rfl))) ⟨fun _ _ _ => rfl, fun _ _ => rfl, fun _ _ => rfl, fun _ _ _ _ => rfl⟩
    · refine go_aload_n 0 d_Mo_check_23 rfl rfl ?_
      refine go_getR d_Mo_check_24 f_Mo_19 (by assumption) (by assumption) ?_
      refine go_iload_n 1 d_Mo_check_27 rfl rfl ?_
      refine go_iconst (v := 0) d_Mo_check_28 rfl ?_
      refine go_zast (k) d_Mo_check_29 (by assumption) (rfl) (hk) (by decide) (by first | exact Or.inl rfl | exact Or.inr rfl | assumption) ?_
      refine go_iconst (v := 2) d_Mo_check_30 rfl ?_
      exact go_iret d_Mo_check_31 rfl (by (have h2 : uc_ans U k = 2 := (if_pos ((nI_eq (b := 0) (by have := (hmc k hk).2.1; omega) (by decide)).mp h20)); have fin := hQ k hk rfl; rw [h2] at fin; exact fin _ L (hmc.acc hk (by rw [decide_eq_false (by decide)]; rfl)) (fun j a b => by rw [gw_up_ne (by decide)]) (fun q a b => by rw [gw_up_ne b]) (fun _ _ _ _ => rfl)))
  · refine go_iconst (v := (-1)) d_Mo_check_12 rfl ?_
    exact go_iret d_Mo_check_13 rfl (hf (fun ⟨k', q1, q2⟩ => k1.mpr (by rw [q2]; exact m4 q1) h9))
theorem c_Mo_init (s533 : sh 533 = (0, 11)) (hI : I 533 = fun _ => 0) (hQ : ∀ sh' R' I' L', pt_Mo sh' R' → mc_at I' (fun _ => ([], [(0, cu_0)], false)) → mr_at I' 0 0 0 0 [] → mk_fr 533 sh sh' R R' I I' L L' → Q none (558, sh', X, R', I', L')) : gw_Call y_Mo_init (d + 1) 24 5694 [.ref 533] (534, sh, X, R, I, L) Q := by
  refine gw_call o_Mo_init (Nat.le_of_ble_eq_true rfl) ?_
  have loop : ∀ (r i : Nat) (x : Int32) (sh1 : Nat → Nat × Nat) (R1 : Nat → Nat → Option Nat) (I1 : Nat → Nat → Int32) (L1 : Nat → Nat → Int64), x = nI i → i + r = 4 → pt_Mo sh1 R1 → (∀ j, j < i → I1 538 j = 1) → (∀ q, 534 ≤ q → q < 558 → q ≠ 538 → I1 q = fun _ => 0) → I1 533 = (fun _ => 0) → mk_fr 533 sh sh1 R R1 I I1 L L1 → gw_Go y_Mo_init (d + 1) 0 0 199 [some (.ref 533), some (.int x)] [] (558, sh1, X, R1, I1, L1) Q := by
    intro r
    induction r with
    | zero =>
      intro i x sh1 R1 I1 L1 hx hr hpt h1 h2 h3 hfr
      have h4 : i = 4 := by omega
      subst h4
      refine go_iload_n 1 d_Mo_init_199 rfl rfl ?_
      refine go_iconst (v := 4) d_Mo_init_200 rfl ?_
      refine go_icmp_ge 217 d_Mo_init_201 rfl (fun _ => ?_) (fun hn => absurd (by rw [hx]; decide) hn)
      exact go_vret d_Mo_init_217 rfl (hQ sh1 R1 I1 L1 hpt (fun m hm => ⟨by rw [h2 _ (by decide) (by decide) (by decide)]; rfl, by simp, fun j t ht => (by cases ht), by rw [h2 _ (by decide) (by decide) (by decide)]; rfl, by rw [h1 m hm]; rfl, by simp, fun i c hh => by (cases i with | zero => (cases hh; exact ⟨by rw [h2 _ (by decide) (by decide) (by decide)]; rfl, by rw [h2 _ (by decide) (by decide) (by decide)]; rfl, by decide, fun j t ht => (by cases ht), ⟨by rw [h2 _ (by decide) (by decide) (by decide)] <;> rfl, by rw [h2 _ (by decide) (by decide) (by decide)] <;> rfl, by decide, fun j t ht => (by cases ht)⟩, ⟨by rw [h2 _ (by decide) (by decide) (by decide)] <;> rfl, by rw [h2 _ (by decide) (by decide) (by decide)] <;> rfl, by decide, fun j t ht => (by cases ht)⟩⟩) | succ i => cases hh)⟩) ⟨by rw [h3], by rw [h3], by rw [h3], by rw [h3], by rw [h3]; rfl, by decide, fun j v h => by cases h⟩ hfr)
    | succ r ih =>
      intro i x sh1 R1 I1 L1 hx hr hpt h1 h2 h3 hfr
      obtain ⟨t533, t534, t535, t536, t537, t538, tt⟩ := id hpt
      have r538 : R1 533 4 = some 538 := by obtain ⟨_, _, _, _, _, _, _, _, _, _, _, _, _, _, _, _, _, _, _, _, _, _, _, _, _, _, _, _, _, r4, _⟩ := hpt; exact r4
      refine go_iload_n 1 d_Mo_init_199 rfl rfl ?_
      refine go_iconst (v := 4) d_Mo_init_200 rfl ?_
      refine go_icmp_ge 217 d_Mo_init_201 rfl (fun hn => absurd hn (by rw [hx]; exact nI_ge (b := 4) (by omega) (by decide))) (fun _ => ?_)
      refine go_aload_n 0 d_Mo_init_204 rfl rfl ?_
      refine go_getR d_Mo_init_205 f_Mo_23 (by assumption) (by assumption) ?_
      refine go_iload_n 1 d_Mo_init_208 rfl rfl ?_
      refine go_iconst (v := 1) d_Mo_init_209 rfl ?_
      refine go_iast (i) d_Mo_init_210 (by assumption) (hx) (by omega) (by decide) ?_
      refine go_iinc d_Mo_init_211 rfl rfl (Nat.le_of_ble_eq_true rfl) ?_
      refine go_goto 199 d_Mo_init_214 rfl ?_
      exact ih (i + 1) _ sh1 R1 _ L1 (gw_inc hx) (by omega) hpt (fun j hj => by by_cases he : j = i; (subst he; rw [up2_eq]); (rw [up2_ne (Or.inr he)]; exact h1 j (by omega))) (fun q a b c => by rw [gw_up_ne c]; exact h2 q a b c) (by rw [gw_up_ne (by decide)]; exact h3) (fun q hq => by obtain ⟨v1, v2, v3, v4⟩ := hfr q hq; exact ⟨v1, v2, by rw [gw_up_ne (by omega)]; exact v3, v4⟩)
  have q1 : (va_up sh 534 (1, 4)) 533 = (0, 11) := by simp (disch := omega) only [Nat.add_assoc, Nat.reduceAdd, gw_up_eq, gw_up_ne, ne_eq, not_false_eq_true]; exact s533
  have q2 : (va_up (va_up sh 534 (1, 4)) 535 (1, 96)) 533 = (0, 11) := by simp (disch := omega) only [Nat.add_assoc, Nat.reduceAdd, gw_up_eq, gw_up_ne, ne_eq, not_false_eq_true]; exact s533
  have q3 : (va_up (va_up (va_up sh 534 (1, 4)) 535 (1, 96)) 536 (1, 96)) 533 = (0, 11) := by simp (disch := omega) only [Nat.add_assoc, Nat.reduceAdd, gw_up_eq, gw_up_ne, ne_eq, not_false_eq_true]; exact s533
  have q4 : (va_up (va_up (va_up (va_up sh 534 (1, 4)) 535 (1, 96)) 536 (1, 96)) 537 (3, 4)) 533 = (0, 11) := by simp (disch := omega) only [Nat.add_assoc, Nat.reduceAdd, gw_up_eq, gw_up_ne, ne_eq, not_false_eq_true]; exact s533
  have q5 : (va_up (va_up (va_up (va_up (va_up sh 534 (1, 4)) 535 (1, 96)) 536 (1, 96)) 537 (3, 4)) 538 (1, 4)) 533 = (0, 11) := by simp (disch := omega) only [Nat.add_assoc, Nat.reduceAdd, gw_up_eq, gw_up_ne, ne_eq, not_false_eq_true]; exact s533
  have q6 : (va_up (va_up (va_up (va_up (va_up (va_up sh 534 (1, 4)) 535 (1, 96)) 536 (1, 96)) 537 (3, 4)) 538 (1, 4)) 539 (1, 24)) 533 = (0, 11) := by simp (disch := omega) only [Nat.add_assoc, Nat.reduceAdd, gw_up_eq, gw_up_ne, ne_eq, not_false_eq_true]; exact s533
  have q7 : (va_up (va_up (va_up (va_up (va_up (va_up (va_up sh 534 (1, 4)) 535 (1, 96)) 536 (1, 96)) 537 (3, 4)) 538 (1, 4)) 539 (1, 24)) 540 (1, 24)) 533 = (0, 11) := by simp (disch := omega) only [Nat.add_assoc, Nat.reduceAdd, gw_up_eq, gw_up_ne, ne_eq, not_false_eq_true]; exact s533
  have q8 : (va_up (va_up (va_up (va_up (va_up (va_up (va_up (va_up sh 534 (1, 4)) 535 (1, 96)) 536 (1, 96)) 537 (3, 4)) 538 (1, 4)) 539 (1, 24)) 540 (1, 24)) 541 (1, 144)) 533 = (0, 11) := by simp (disch := omega) only [Nat.add_assoc, Nat.reduceAdd, gw_up_eq, gw_up_ne, ne_eq, not_false_eq_true]; exact s533
  have q9 : (va_up (va_up (va_up (va_up (va_up (va_up (va_up (va_up (va_up sh 534 (1, 4)) 535 (1, 96)) 536 (1, 96)) 537 (3, 4)) 538 (1, 4)) 539 (1, 24)) 540 (1, 24)) 541 (1, 144)) 542 (1, 144)) 533 = (0, 11) := by simp (disch := omega) only [Nat.add_assoc, Nat.reduceAdd, gw_up_eq, gw_up_ne, ne_eq, not_false_eq_true]; exact s533
  have q10 : (va_up (va_up (va_up (va_up (va_up (va_up (va_up (va_up (va_up (va_up sh 534 (1, 4)) 535 (1, 96)) 536 (1, 96)) 537 (3, 4)) 538 (1, 4)) 539 (1, 24)) 540 (1, 24)) 541 (1, 144)) 542 (1, 144)) 543 (1, 144)) 533 = (0, 11) := by simp (disch := omega) only [Nat.add_assoc, Nat.reduceAdd, gw_up_eq, gw_up_ne, ne_eq, not_false_eq_true]; exact s533
  have q11 : (va_up (va_up (va_up (va_up (va_up (va_up (va_up (va_up (va_up (va_up (va_up sh 534 (1, 4)) 535 (1, 96)) 536 (1, 96)) 537 (3, 4)) 538 (1, 4)) 539 (1, 24)) 540 (1, 24)) 541 (1, 144)) 542 (1, 144)) 543 (1, 144)) 544 (1, 48)) 533 = (0, 11) := by simp (disch := omega) only [Nat.add_assoc, Nat.reduceAdd, gw_up_eq, gw_up_ne, ne_eq, not_false_eq_true]; exact s533
  have q12 : (va_up (va_up (va_up (va_up (va_up (va_up (va_up (va_up (va_up (va_up (va_up (va_up sh 534 (1, 4)) 535 (1, 96)) 536 (1, 96)) 537 (3, 4)) 538 (1, 4)) 539 (1, 24)) 540 (1, 24)) 541 (1, 144)) 542 (1, 144)) 543 (1, 144)) 544 (1, 48)) 545 (1, 48)) 533 = (0, 11) := by simp (disch := omega) only [Nat.add_assoc, Nat.reduceAdd, gw_up_eq, gw_up_ne, ne_eq, not_false_eq_true]; exact s533
  have q13 : (va_up (va_up (va_up (va_up (va_up (va_up (va_up (va_up (va_up (va_up (va_up (va_up (va_up sh 534 (1, 4)) 535 (1, 96)) 536 (1, 96)) 537 (3, 4)) 538 (1, 4)) 539 (1, 24)) 540 (1, 24)) 541 (1, 144)) 542 (1, 144)) 543 (1, 144)) 544 (1, 48)) 545 (1, 48)) 546 (1, 144)) 533 = (0, 11) := by simp (disch := omega) only [Nat.add_assoc, Nat.reduceAdd, gw_up_eq, gw_up_ne, ne_eq, not_false_eq_true]; exact s533
  have q14 : (va_up (va_up (va_up (va_up (va_up (va_up (va_up (va_up (va_up (va_up (va_up (va_up (va_up (va_up sh 534 (1, 4)) 535 (1, 96)) 536 (1, 96)) 537 (3, 4)) 538 (1, 4)) 539 (1, 24)) 540 (1, 24)) 541 (1, 144)) 542 (1, 144)) 543 (1, 144)) 544 (1, 48)) 545 (1, 48)) 546 (1, 144)) 547 (1, 144)) 533 = (0, 11) := by simp (disch := omega) only [Nat.add_assoc, Nat.reduceAdd, gw_up_eq, gw_up_ne, ne_eq, not_false_eq_true]; exact s533
  have q15 : (va_up (va_up (va_up (va_up (va_up (va_up (va_up (va_up (va_up (va_up (va_up (va_up (va_up (va_up (va_up sh 534 (1, 4)) 535 (1, 96)) 536 (1, 96)) 537 (3, 4)) 538 (1, 4)) 539 (1, 24)) 540 (1, 24)) 541 (1, 144)) 542 (1, 144)) 543 (1, 144)) 544 (1, 48)) 545 (1, 48)) 546 (1, 144)) 547 (1, 144)) 548 (1, 144)) 533 = (0, 11) := by simp (disch := omega) only [Nat.add_assoc, Nat.reduceAdd, gw_up_eq, gw_up_ne, ne_eq, not_false_eq_true]; exact s533
  have q16 : (va_up (va_up (va_up (va_up (va_up (va_up (va_up (va_up (va_up (va_up (va_up (va_up (va_up (va_up (va_up (va_up sh 534 (1, 4)) 535 (1, 96)) 536 (1, 96)) 537 (3, 4)) 538 (1, 4)) 539 (1, 24)) 540 (1, 24)) 541 (1, 144)) 542 (1, 144)) 543 (1, 144)) 544 (1, 48)) 545 (1, 48)) 546 (1, 144)) 547 (1, 144)) 548 (1, 144)) 549 (2, 4368)) 533 = (0, 11) := by simp (disch := omega) only [Nat.add_assoc, Nat.reduceAdd, gw_up_eq, gw_up_ne, ne_eq, not_false_eq_true]; exact s533
  have q17 : (va_up (va_up (va_up (va_up (va_up (va_up (va_up (va_up (va_up (va_up (va_up (va_up (va_up (va_up (va_up (va_up (va_up sh 534 (1, 4)) 535 (1, 96)) 536 (1, 96)) 537 (3, 4)) 538 (1, 4)) 539 (1, 24)) 540 (1, 24)) 541 (1, 144)) 542 (1, 144)) 543 (1, 144)) 544 (1, 48)) 545 (1, 48)) 546 (1, 144)) 547 (1, 144)) 548 (1, 144)) 549 (2, 4368)) 550 (2, 25)) 533 = (0, 11) := by simp (disch := omega) only [Nat.add_assoc, Nat.reduceAdd, gw_up_eq, gw_up_ne, ne_eq, not_false_eq_true]; exact s533
  have q18 : (va_up (va_up (va_up (va_up (va_up (va_up (va_up (va_up (va_up (va_up (va_up (va_up (va_up (va_up (va_up (va_up (va_up (va_up sh 534 (1, 4)) 535 (1, 96)) 536 (1, 96)) 537 (3, 4)) 538 (1, 4)) 539 (1, 24)) 540 (1, 24)) 541 (1, 144)) 542 (1, 144)) 543 (1, 144)) 544 (1, 48)) 545 (1, 48)) 546 (1, 144)) 547 (1, 144)) 548 (1, 144)) 549 (2, 4368)) 550 (2, 25)) 551 (2, 25)) 533 = (0, 11) := by simp (disch := omega) only [Nat.add_assoc, Nat.reduceAdd, gw_up_eq, gw_up_ne, ne_eq, not_false_eq_true]; exact s533
  have q19 : (va_up (va_up (va_up (va_up (va_up (va_up (va_up (va_up (va_up (va_up (va_up (va_up (va_up (va_up (va_up (va_up (va_up (va_up (va_up sh 534 (1, 4)) 535 (1, 96)) 536 (1, 96)) 537 (3, 4)) 538 (1, 4)) 539 (1, 24)) 540 (1, 24)) 541 (1, 144)) 542 (1, 144)) 543 (1, 144)) 544 (1, 48)) 545 (1, 48)) 546 (1, 144)) 547 (1, 144)) 548 (1, 144)) 549 (2, 4368)) 550 (2, 25)) 551 (2, 25)) 552 (1, 12)) 533 = (0, 11) := by simp (disch := omega) only [Nat.add_assoc, Nat.reduceAdd, gw_up_eq, gw_up_ne, ne_eq, not_false_eq_true]; exact s533
  have q20 : (va_up (va_up (va_up (va_up (va_up (va_up (va_up (va_up (va_up (va_up (va_up (va_up (va_up (va_up (va_up (va_up (va_up (va_up (va_up (va_up sh 534 (1, 4)) 535 (1, 96)) 536 (1, 96)) 537 (3, 4)) 538 (1, 4)) 539 (1, 24)) 540 (1, 24)) 541 (1, 144)) 542 (1, 144)) 543 (1, 144)) 544 (1, 48)) 545 (1, 48)) 546 (1, 144)) 547 (1, 144)) 548 (1, 144)) 549 (2, 4368)) 550 (2, 25)) 551 (2, 25)) 552 (1, 12)) 553 (1, 4)) 533 = (0, 11) := by simp (disch := omega) only [Nat.add_assoc, Nat.reduceAdd, gw_up_eq, gw_up_ne, ne_eq, not_false_eq_true]; exact s533
  have q21 : (va_up (va_up (va_up (va_up (va_up (va_up (va_up (va_up (va_up (va_up (va_up (va_up (va_up (va_up (va_up (va_up (va_up (va_up (va_up (va_up (va_up sh 534 (1, 4)) 535 (1, 96)) 536 (1, 96)) 537 (3, 4)) 538 (1, 4)) 539 (1, 24)) 540 (1, 24)) 541 (1, 144)) 542 (1, 144)) 543 (1, 144)) 544 (1, 48)) 545 (1, 48)) 546 (1, 144)) 547 (1, 144)) 548 (1, 144)) 549 (2, 4368)) 550 (2, 25)) 551 (2, 25)) 552 (1, 12)) 553 (1, 4)) 554 (1, 4)) 533 = (0, 11) := by simp (disch := omega) only [Nat.add_assoc, Nat.reduceAdd, gw_up_eq, gw_up_ne, ne_eq, not_false_eq_true]; exact s533
  have q22 : (va_up (va_up (va_up (va_up (va_up (va_up (va_up (va_up (va_up (va_up (va_up (va_up (va_up (va_up (va_up (va_up (va_up (va_up (va_up (va_up (va_up (va_up sh 534 (1, 4)) 535 (1, 96)) 536 (1, 96)) 537 (3, 4)) 538 (1, 4)) 539 (1, 24)) 540 (1, 24)) 541 (1, 144)) 542 (1, 144)) 543 (1, 144)) 544 (1, 48)) 545 (1, 48)) 546 (1, 144)) 547 (1, 144)) 548 (1, 144)) 549 (2, 4368)) 550 (2, 25)) 551 (2, 25)) 552 (1, 12)) 553 (1, 4)) 554 (1, 4)) 555 (1, 4)) 533 = (0, 11) := by simp (disch := omega) only [Nat.add_assoc, Nat.reduceAdd, gw_up_eq, gw_up_ne, ne_eq, not_false_eq_true]; exact s533
  have q23 : (va_up (va_up (va_up (va_up (va_up (va_up (va_up (va_up (va_up (va_up (va_up (va_up (va_up (va_up (va_up (va_up (va_up (va_up (va_up (va_up (va_up (va_up (va_up sh 534 (1, 4)) 535 (1, 96)) 536 (1, 96)) 537 (3, 4)) 538 (1, 4)) 539 (1, 24)) 540 (1, 24)) 541 (1, 144)) 542 (1, 144)) 543 (1, 144)) 544 (1, 48)) 545 (1, 48)) 546 (1, 144)) 547 (1, 144)) 548 (1, 144)) 549 (2, 4368)) 550 (2, 25)) 551 (2, 25)) 552 (1, 12)) 553 (1, 4)) 554 (1, 4)) 555 (1, 4)) 556 (1, 16)) 533 = (0, 11) := by simp (disch := omega) only [Nat.add_assoc, Nat.reduceAdd, gw_up_eq, gw_up_ne, ne_eq, not_false_eq_true]; exact s533
  have q24 : (va_up (va_up (va_up (va_up (va_up (va_up (va_up (va_up (va_up (va_up (va_up (va_up (va_up (va_up (va_up (va_up (va_up (va_up (va_up (va_up (va_up (va_up (va_up (va_up sh 534 (1, 4)) 535 (1, 96)) 536 (1, 96)) 537 (3, 4)) 538 (1, 4)) 539 (1, 24)) 540 (1, 24)) 541 (1, 144)) 542 (1, 144)) 543 (1, 144)) 544 (1, 48)) 545 (1, 48)) 546 (1, 144)) 547 (1, 144)) 548 (1, 144)) 549 (2, 4368)) 550 (2, 25)) 551 (2, 25)) 552 (1, 12)) 553 (1, 4)) 554 (1, 4)) 555 (1, 4)) 556 (1, 16)) 557 (1, 24)) 533 = (0, 11) := by simp (disch := omega) only [Nat.add_assoc, Nat.reduceAdd, gw_up_eq, gw_up_ne, ne_eq, not_false_eq_true]; exact s533
  obtain ⟨z, hz⟩ : ∃ z : Nat, z = 0 := ⟨0, rfl⟩
  refine go_bud (bc' := z + 24) (bs' := z + 5694) (by omega) (by omega) ?_
  refine go_aload_n 0 d_Mo_init_0 rfl rfl ?_
  refine go_obj d_Mo_init_1 j_Mo_1 gw_jo1 gw_jo2 (Nat.le_of_ble_eq_true rfl) ?_
  refine go_aload_n 0 d_Mo_init_4 rfl rfl ?_
  refine go_iconst (v := 4) d_Mo_init_5 rfl ?_
  refine go_newI (len := 4) d_Mo_init_6 gw_aI rfl (by decide) (by decide) ?_
  refine go_putFR d_Mo_init_8 f_Mo_7 rfl rfl (by assumption) ?_
  refine go_aload_n 0 d_Mo_init_11 rfl rfl ?_
  refine go_bipush (v := 96) d_Mo_init_12 rfl ?_
  refine go_newI (len := 96) d_Mo_init_14 gw_aI rfl (by decide) (by decide) ?_
  refine go_putFR d_Mo_init_16 f_Mo_13 rfl rfl (by assumption) ?_
  refine go_aload_n 0 d_Mo_init_19 rfl rfl ?_
  refine go_bipush (v := 96) d_Mo_init_20 rfl ?_
  refine go_newI (len := 96) d_Mo_init_22 gw_aI rfl (by decide) (by decide) ?_
  refine go_putFR d_Mo_init_24 f_Mo_16 rfl rfl (by assumption) ?_
  refine go_aload_n 0 d_Mo_init_27 rfl rfl ?_
  refine go_iconst (v := 4) d_Mo_init_28 rfl ?_
  refine go_newZ (len := 4) d_Mo_init_29 gw_aZ rfl (by decide) (by decide) ?_
  refine go_putFR d_Mo_init_31 f_Mo_19 rfl rfl (by assumption) ?_
  refine go_aload_n 0 d_Mo_init_34 rfl rfl ?_
  refine go_iconst (v := 4) d_Mo_init_35 rfl ?_
  refine go_newI (len := 4) d_Mo_init_36 gw_aI rfl (by decide) (by decide) ?_
  refine go_putFR d_Mo_init_38 f_Mo_23 rfl rfl (by assumption) ?_
  refine go_aload_n 0 d_Mo_init_41 rfl rfl ?_
  refine go_bipush (v := 24) d_Mo_init_42 rfl ?_
  refine go_newI (len := 24) d_Mo_init_44 gw_aI rfl (by decide) (by decide) ?_
  refine go_putFR d_Mo_init_46 f_Mo_26 rfl rfl (by assumption) ?_
  refine go_aload_n 0 d_Mo_init_49 rfl rfl ?_
  refine go_bipush (v := 24) d_Mo_init_50 rfl ?_
  refine go_newI (len := 24) d_Mo_init_52 gw_aI rfl (by decide) (by decide) ?_
  refine go_putFR d_Mo_init_54 f_Mo_29 rfl rfl (by assumption) ?_
  refine go_aload_n 0 d_Mo_init_57 rfl rfl ?_
  refine go_sipush (v := 144) d_Mo_init_58 rfl ?_
  refine go_newI (len := 144) d_Mo_init_61 gw_aI rfl (by decide) (by decide) ?_
  refine go_putFR d_Mo_init_63 f_Mo_32 rfl rfl (by assumption) ?_
  refine go_aload_n 0 d_Mo_init_66 rfl rfl ?_
  refine go_sipush (v := 144) d_Mo_init_67 rfl ?_
  refine go_newI (len := 144) d_Mo_init_70 gw_aI rfl (by decide) (by decide) ?_
  refine go_putFR d_Mo_init_72 f_Mo_35 rfl rfl (by assumption) ?_
  refine go_aload_n 0 d_Mo_init_75 rfl rfl ?_
  refine go_sipush (v := 144) d_Mo_init_76 rfl ?_
  refine go_newI (len := 144) d_Mo_init_79 gw_aI rfl (by decide) (by decide) ?_
  refine go_putFR d_Mo_init_81 f_Mo_38 rfl rfl (by assumption) ?_
  refine go_aload_n 0 d_Mo_init_84 rfl rfl ?_
  refine go_bipush (v := 48) d_Mo_init_85 rfl ?_
  refine go_newI (len := 48) d_Mo_init_87 gw_aI rfl (by decide) (by decide) ?_
  refine go_putFR d_Mo_init_89 f_Mo_41 rfl rfl (by assumption) ?_
  refine go_aload_n 0 d_Mo_init_92 rfl rfl ?_
  refine go_bipush (v := 48) d_Mo_init_93 rfl ?_
  refine go_newI (len := 48) d_Mo_init_95 gw_aI rfl (by decide) (by decide) ?_
  refine go_putFR d_Mo_init_97 f_Mo_44 rfl rfl (by assumption) ?_
  refine go_aload_n 0 d_Mo_init_100 rfl rfl ?_
  refine go_sipush (v := 144) d_Mo_init_101 rfl ?_
  refine go_newI (len := 144) d_Mo_init_104 gw_aI rfl (by decide) (by decide) ?_
  refine go_putFR d_Mo_init_106 f_Mo_47 rfl rfl (by assumption) ?_
  refine go_aload_n 0 d_Mo_init_109 rfl rfl ?_
  refine go_sipush (v := 144) d_Mo_init_110 rfl ?_
  refine go_newI (len := 144) d_Mo_init_113 gw_aI rfl (by decide) (by decide) ?_
  refine go_putFR d_Mo_init_115 f_Mo_50 rfl rfl (by assumption) ?_
  refine go_aload_n 0 d_Mo_init_118 rfl rfl ?_
  refine go_sipush (v := 144) d_Mo_init_119 rfl ?_
  refine go_newI (len := 144) d_Mo_init_122 gw_aI rfl (by decide) (by decide) ?_
  refine go_putFR d_Mo_init_124 f_Mo_53 rfl rfl (by assumption) ?_
  refine go_aload_n 0 d_Mo_init_127 rfl rfl ?_
  refine go_sipush (v := 4368) d_Mo_init_128 rfl ?_
  refine go_newL (len := 4368) d_Mo_init_131 gw_aL rfl (by decide) (by decide) ?_
  refine go_putFR d_Mo_init_133 f_Mo_56 rfl rfl (by assumption) ?_
  refine go_aload_n 0 d_Mo_init_136 rfl rfl ?_
  refine go_bipush (v := 25) d_Mo_init_137 rfl ?_
  refine go_newL (len := 25) d_Mo_init_139 gw_aL rfl (by decide) (by decide) ?_
  refine go_putFR d_Mo_init_141 f_Mo_60 rfl rfl (by assumption) ?_
  refine go_aload_n 0 d_Mo_init_144 rfl rfl ?_
  refine go_bipush (v := 25) d_Mo_init_145 rfl ?_
  refine go_newL (len := 25) d_Mo_init_147 gw_aL rfl (by decide) (by decide) ?_
  refine go_putFR d_Mo_init_149 f_Mo_63 rfl rfl (by assumption) ?_
  refine go_aload_n 0 d_Mo_init_152 rfl rfl ?_
  refine go_bipush (v := 12) d_Mo_init_153 rfl ?_
  refine go_newI (len := 12) d_Mo_init_155 gw_aI rfl (by decide) (by decide) ?_
  refine go_putFR d_Mo_init_157 f_Mo_66 rfl rfl (by assumption) ?_
  refine go_aload_n 0 d_Mo_init_160 rfl rfl ?_
  refine go_iconst (v := 4) d_Mo_init_161 rfl ?_
  refine go_newI (len := 4) d_Mo_init_162 gw_aI rfl (by decide) (by decide) ?_
  refine go_putFR d_Mo_init_164 f_Mo_69 rfl rfl (by assumption) ?_
  refine go_aload_n 0 d_Mo_init_167 rfl rfl ?_
  refine go_iconst (v := 4) d_Mo_init_168 rfl ?_
  refine go_newI (len := 4) d_Mo_init_169 gw_aI rfl (by decide) (by decide) ?_
  refine go_putFR d_Mo_init_171 f_Mo_72 rfl rfl (by assumption) ?_
  refine go_aload_n 0 d_Mo_init_174 rfl rfl ?_
  refine go_iconst (v := 4) d_Mo_init_175 rfl ?_
  refine go_newI (len := 4) d_Mo_init_176 gw_aI rfl (by decide) (by decide) ?_
  refine go_putFR d_Mo_init_178 f_Mo_75 rfl rfl (by assumption) ?_
  refine go_aload_n 0 d_Mo_init_181 rfl rfl ?_
  refine go_bipush (v := 16) d_Mo_init_182 rfl ?_
  refine go_newI (len := 16) d_Mo_init_184 gw_aI rfl (by decide) (by decide) ?_
  refine go_putFR d_Mo_init_186 f_Mo_78 rfl rfl (by assumption) ?_
  refine go_aload_n 0 d_Mo_init_189 rfl rfl ?_
  refine go_bipush (v := 24) d_Mo_init_190 rfl ?_
  refine go_newI (len := 24) d_Mo_init_192 gw_aI rfl (by decide) (by decide) ?_
  refine go_putFR d_Mo_init_194 f_Mo_81 rfl rfl (by assumption) ?_
  refine go_iconst (v := 0) d_Mo_init_197 rfl ?_
  refine go_istore_n 1 d_Mo_init_198 rfl (Nat.le_of_ble_eq_true rfl) ?_
  subst hz
  refine loop 4 0 _ _ _ _ _ rfl rfl ?_ (fun j hj => by omega) (fun q a b c => ?_) ?_ (fun q hq => ⟨?_, ?_, ?_, ?_⟩)
  · exact ⟨by simp (disch := omega) only [Nat.add_assoc, Nat.reduceAdd, gw_up_eq, gw_up_ne, ne_eq, not_false_eq_true]; exact s533, by simp (disch := omega) only [Nat.add_assoc, Nat.reduceAdd, gw_up_eq, gw_up_ne, ne_eq, not_false_eq_true], by simp (disch := omega) only [Nat.add_assoc, Nat.reduceAdd, gw_up_eq, gw_up_ne, ne_eq, not_false_eq_true], by simp (disch := omega) only [Nat.add_assoc, Nat.reduceAdd, gw_up_eq, gw_up_ne, ne_eq, not_false_eq_true], by simp (disch := omega) only [Nat.add_assoc, Nat.reduceAdd, gw_up_eq, gw_up_ne, ne_eq, not_false_eq_true], by simp (disch := omega) only [Nat.add_assoc, Nat.reduceAdd, gw_up_eq, gw_up_ne, ne_eq, not_false_eq_true], by simp (disch := omega) only [Nat.add_assoc, Nat.reduceAdd, gw_up_eq, gw_up_ne, ne_eq, not_false_eq_true], by simp (disch := omega) only [Nat.add_assoc, Nat.reduceAdd, gw_up_eq, gw_up_ne, ne_eq, not_false_eq_true], by simp (disch := omega) only [Nat.add_assoc, Nat.reduceAdd, gw_up_eq, gw_up_ne, ne_eq, not_false_eq_true], by simp (disch := omega) only [Nat.add_assoc, Nat.reduceAdd, gw_up_eq, gw_up_ne, ne_eq, not_false_eq_true], by simp (disch := omega) only [Nat.add_assoc, Nat.reduceAdd, gw_up_eq, gw_up_ne, ne_eq, not_false_eq_true], by simp (disch := omega) only [Nat.add_assoc, Nat.reduceAdd, gw_up_eq, gw_up_ne, ne_eq, not_false_eq_true], by simp (disch := omega) only [Nat.add_assoc, Nat.reduceAdd, gw_up_eq, gw_up_ne, ne_eq, not_false_eq_true], by simp (disch := omega) only [Nat.add_assoc, Nat.reduceAdd, gw_up_eq, gw_up_ne, ne_eq, not_false_eq_true], by simp (disch := omega) only [Nat.add_assoc, Nat.reduceAdd, gw_up_eq, gw_up_ne, ne_eq, not_false_eq_true], by simp (disch := omega) only [Nat.add_assoc, Nat.reduceAdd, gw_up_eq, gw_up_ne, ne_eq, not_false_eq_true], by simp (disch := omega) only [Nat.add_assoc, Nat.reduceAdd, gw_up_eq, gw_up_ne, ne_eq, not_false_eq_true], by simp (disch := omega) only [Nat.add_assoc, Nat.reduceAdd, gw_up_eq, gw_up_ne, ne_eq, not_false_eq_true], by simp (disch := omega) only [Nat.add_assoc, Nat.reduceAdd, gw_up_eq, gw_up_ne, ne_eq, not_false_eq_true], by simp (disch := omega) only [Nat.add_assoc, Nat.reduceAdd, gw_up_eq, gw_up_ne, ne_eq, not_false_eq_true], by simp (disch := omega) only [Nat.add_assoc, Nat.reduceAdd, gw_up_eq, gw_up_ne, ne_eq, not_false_eq_true], by simp (disch := omega) only [Nat.add_assoc, Nat.reduceAdd, gw_up_eq, gw_up_ne, ne_eq, not_false_eq_true], by simp (disch := omega) only [Nat.add_assoc, Nat.reduceAdd, gw_up_eq, gw_up_ne, ne_eq, not_false_eq_true], by simp (disch := omega) only [Nat.add_assoc, Nat.reduceAdd, gw_up_eq, gw_up_ne, ne_eq, not_false_eq_true], by simp (disch := omega) only [Nat.add_assoc, Nat.reduceAdd, gw_up_eq, gw_up_ne, ne_eq, not_false_eq_true], by simp (disch := omega) only [Nat.add_assoc, Nat.reduceAdd, gw_up_eq, gw_up_ne, ne_eq, not_false_eq_true], by simp (disch := omega) only [Nat.add_assoc, Nat.reduceAdd, gw_up_eq, gw_up_ne, ne_eq, not_false_eq_true], by simp (disch := omega) only [Nat.add_assoc, Nat.reduceAdd, gw_up_eq, gw_up_ne, ne_eq, not_false_eq_true], by simp (disch := omega) only [Nat.add_assoc, Nat.reduceAdd, gw_up_eq, gw_up_ne, ne_eq, not_false_eq_true], by simp (disch := omega) only [Nat.add_assoc, Nat.reduceAdd, gw_up_eq, gw_up_ne, ne_eq, not_false_eq_true], by simp (disch := omega) only [Nat.add_assoc, Nat.reduceAdd, gw_up_eq, gw_up_ne, ne_eq, not_false_eq_true], by simp (disch := omega) only [Nat.add_assoc, Nat.reduceAdd, gw_up_eq, gw_up_ne, ne_eq, not_false_eq_true], by simp (disch := omega) only [Nat.add_assoc, Nat.reduceAdd, gw_up_eq, gw_up_ne, ne_eq, not_false_eq_true], by simp (disch := omega) only [Nat.add_assoc, Nat.reduceAdd, gw_up_eq, gw_up_ne, ne_eq, not_false_eq_true], by simp (disch := omega) only [Nat.add_assoc, Nat.reduceAdd, gw_up_eq, gw_up_ne, ne_eq, not_false_eq_true], by simp (disch := omega) only [Nat.add_assoc, Nat.reduceAdd, gw_up_eq, gw_up_ne, ne_eq, not_false_eq_true], by simp (disch := omega) only [Nat.add_assoc, Nat.reduceAdd, gw_up_eq, gw_up_ne, ne_eq, not_false_eq_true], by simp (disch := omega) only [Nat.add_assoc, Nat.reduceAdd, gw_up_eq, gw_up_ne, ne_eq, not_false_eq_true], by simp (disch := omega) only [Nat.add_assoc, Nat.reduceAdd, gw_up_eq, gw_up_ne, ne_eq, not_false_eq_true], by simp (disch := omega) only [Nat.add_assoc, Nat.reduceAdd, gw_up_eq, gw_up_ne, ne_eq, not_false_eq_true], by simp (disch := omega) only [Nat.add_assoc, Nat.reduceAdd, gw_up_eq, gw_up_ne, ne_eq, not_false_eq_true], by simp (disch := omega) only [Nat.add_assoc, Nat.reduceAdd, gw_up_eq, gw_up_ne, ne_eq, not_false_eq_true], by simp (disch := omega) only [Nat.add_assoc, Nat.reduceAdd, gw_up_eq, gw_up_ne, ne_eq, not_false_eq_true], by simp (disch := omega) only [Nat.add_assoc, Nat.reduceAdd, gw_up_eq, gw_up_ne, ne_eq, not_false_eq_true], by simp (disch := omega) only [Nat.add_assoc, Nat.reduceAdd, gw_up_eq, gw_up_ne, ne_eq, not_false_eq_true], by simp (disch := omega) only [Nat.add_assoc, Nat.reduceAdd, gw_up_eq, gw_up_ne, ne_eq, not_false_eq_true], by simp (disch := omega) only [Nat.add_assoc, Nat.reduceAdd, gw_up_eq, gw_up_ne, ne_eq, not_false_eq_true], by simp (disch := omega) only [Nat.add_assoc, Nat.reduceAdd, gw_up_eq, gw_up_ne, ne_eq, not_false_eq_true], by simp (disch := omega) only [Nat.add_assoc, Nat.reduceAdd, gw_up_eq, gw_up_ne, ne_eq, not_false_eq_true]⟩
  · rcases (show q = 534 ∨ q = 535 ∨ q = 536 ∨ q = 537 ∨ q = 539 ∨ q = 540 ∨ q = 541 ∨ q = 542 ∨ q = 543 ∨ q = 544 ∨ q = 545 ∨ q = 546 ∨ q = 547 ∨ q = 548 ∨ q = 549 ∨ q = 550 ∨ q = 551 ∨ q = 552 ∨ q = 553 ∨ q = 554 ∨ q = 555 ∨ q = 556 ∨ q = 557 by omega) with rfl | rfl | rfl | rfl | rfl | rfl | rfl | rfl | rfl | rfl | rfl | rfl | rfl | rfl | rfl | rfl | rfl | rfl | rfl | rfl | rfl | rfl | rfl
    all_goals simp (disch := omega) only [Nat.add_assoc, Nat.reduceAdd, gw_up_eq, gw_up_ne, ne_eq, not_false_eq_true]
  · simp (disch := omega) only [Nat.add_assoc, Nat.reduceAdd, gw_up_eq, gw_up_ne, ne_eq, not_false_eq_true]; exact hI
  · simp (disch := omega) only [Nat.add_assoc, Nat.reduceAdd, gw_up_eq, gw_up_ne, ne_eq, not_false_eq_true]
  · simp (disch := omega) only [Nat.add_assoc, Nat.reduceAdd, gw_up_eq, gw_up_ne, ne_eq, not_false_eq_true]
  · simp (disch := omega) only [Nat.add_assoc, Nat.reduceAdd, gw_up_eq, gw_up_ne, ne_eq, not_false_eq_true]
  · simp (disch := omega) only [Nat.add_assoc, Nat.reduceAdd, gw_up_eq, gw_up_ne, ne_eq, not_false_eq_true]
end MO
