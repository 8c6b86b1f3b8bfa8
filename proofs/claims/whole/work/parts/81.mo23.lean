/-! the reference: checkCut, check -/
theorem ce_end_50 {e : Nat} {st : List ab_Sy} {lo : Nat → ab_Sy} {C : sp_E} {b0 b1 : ab_Ba} {en : Option ab_Cu} (he : e ≤ 50) : (ce_end e st lo C b0 b1 en).2 ≤ 50 := by
  unfold ce_end
  by_cases h : 50 ≤ e
  · rw [if_pos h]; exact he
  · rw [if_neg h]
    have h1 : e + 1 ≤ 50 := by omega
    cases en with
    | none => dsimp only; rcases cIf_or (ba_sh C b0 ∧ ba_sh C b1) ((0 : Int32), e + 1) (9, e + 1) with h | h <;> rw [h] <;> exact h1
    | some A =>
      dsimp only
      split
      · exact h1
      · rcases cIf_or (kn_sh C lo A.1) (cIf ((¬ po_no lo A.2.1.2 ∧ ba_sh C (ba_pot lo (-1 : Int32).toInt64 A.2.1 b0)) ∧ (¬ po_no lo A.2.2.2 ∧ ba_sh C (ba_pot lo (-1 : Int32).toInt64 A.2.2 b1))) ((0 : Int32), e + 1) (9, e + 1)) (8, e + 1) with h | h <;> rw [h]
        · rcases cIf_or ((¬ po_no lo A.2.1.2 ∧ ba_sh C (ba_pot lo (-1 : Int32).toInt64 A.2.1 b0)) ∧ (¬ po_no lo A.2.2.2 ∧ ba_sh C (ba_pot lo (-1 : Int32).toInt64 A.2.2 b1))) ((0 : Int32), e + 1) (9, e + 1) with h | h <;> rw [h] <;> exact h1
        · exact h1
theorem ce_do_50 {go : ab_Pa → Nat → Int32 × Nat} {S : Nat → ab_Me} {k : Nat} {nn p : Int32} {md : Nat} {st : List ab_Sy} {lo : Nat → ab_Sy} {s : sp_E × sp_E} {b0 b1 : ab_Ba} {e : Nat} (hgo : ∀ x e, e ≤ 50 → (go x e).2 ≤ 50) (he : e ≤ 50) : (ce_do go S k nn p md st lo s b0 b1 e).2 ≤ 50 := by
  have hpa : ∀ (k : Option (sp_E × sp_E)) (p : Int32) (md : Nat) (st : List ab_Sy) (lo : Nat → ab_Sy) (b0 b1 : ab_Ba) (e : Nat), e ≤ 50 → (ce_pa go k p md st lo b0 b1 e).2 ≤ 50 := fun k p md st lo b0 b1 e he => by
    cases k with
    | none => exact he
    | some s => exact hgo _ e he
  have hbr : ∀ (near jump : Option (sp_E × sp_E)) (p pj : Int32) (md : Nat) (st : List ab_Sy) (lo : Nat → ab_Sy) (b0 b1 : ab_Ba) (e : Nat), e ≤ 50 → (ce_br go near jump p pj md st lo b0 b1 e).2 ≤ 50 := fun near jump p pj md st lo b0 b1 e he => by
    unfold ce_br
    split
    · exact hpa _ _ _ _ _ _ _ _ (hpa _ _ _ _ _ _ _ _ he)
    · exact hpa _ _ _ _ _ _ _ _ he
  have hci : ∀ (P : Prop) (a b : Int32 × Nat), a.2 ≤ 50 → b.2 ≤ 50 → (cIf P a b).2 ≤ 50 := fun P a b ha hb => by rcases cIf_or P a b with h | h <;> rw [h]; exact ha; exact hb
  unfold ce_do
  split
  · exact ce_end_50 he
  · exact hbr _ _ _ _ _ _ _ _ _ _ he
  · exact hbr _ _ _ _ _ _ _ _ _ _ he
  · exact he
  · exact hci _ _ _ (hgo _ _ he) he
  · exact hci _ _ _ (hgo _ _ he) he
  · exact hgo _ _ he
theorem ce_go_50 {U : Nat → ab_Me} {m : Nat} : ∀ (f : Nat) (x : ab_Pa) {e : Nat}, e ≤ 50 → (ce_go U m f x e).2 ≤ 50
  | 0, x, e, he => he
  | f + 1, (p, md, st, lo, s, b0, b1), e, he => by
    have hci : ∀ (P : Prop) (a b : Int32 × Nat), a.2 ≤ 50 → b.2 ≤ 50 → (cIf P a b).2 ≤ 50 := fun P a b ha hb => by rcases cIf_or P a b with h | h <;> rw [h]; exact ha; exact hb
    unfold ce_go
    refine hci _ _ _ ?_ he
    split
    · exact ce_end_50 he
    · split
      · exact he
      · split
        · exact he
        · exact hci _ _ _ he (ce_do_50 (fun x e h => ce_go_50 f x h) he)
theorem ad_fr.trans {r : Nat} {I I1 I2 : Nat → Nat → Int32} {L L1 L2 : Nat → Nat → Int64} (h : ad_fr r I I1 L L1) (g : ad_fr r I1 I2 L1 L2) : ad_fr r I I2 L L2 := ⟨fun j a b => (g.1 j a b).trans (h.1 j a b), fun q hq => (g.2.1 q hq).trans (h.2.1 q hq), fun i hi => (g.2.2.1 i hi).trans (h.2.2.1 i hi), fun q a b c => (g.2.2.2 q a b c).trans (h.2.2.2 q a b c)⟩
theorem ad_fr.down {r : Nat} {I I1 : Nat → Nat → Int32} {L L1 : Nat → Nat → Int64} (h : ad_fr (r + 1) I I1 L L1) : ad_fr r I I1 L L1 := ⟨h.1, h.2.1, fun i hi => h.2.2.1 i (by omega), h.2.2.2⟩
section MO
variable {d n : Nat} {sh : Nat → Nat × Nat} {X : Nat × (Nat → Int32)} {R : Nat → Nat → Option Nat} {I : Nat → Nat → Int32} {L : Nat → Nat → Int64} {Q : Option Value → gw_Mem → Prop}
variable {U : Nat → ab_Me}
/-- the loop of checkCut: a row and all that part from it -/
theorem c_Mo_G {m c : Nat} (hp : pt_Mo sh R) (hm : m < 4) (hU : u_ok U) : ∀ (f r md e : Nat) (p : Int32) (st : List ab_Sy) (lo : Nat → ab_Sy) (s : sp_E × sp_E) (b0 b1 : ab_Ba) (I : Nat → Nat → Int32) (L : Nat → Nat → Int64), f + md = 41 → md ≤ 40 → r ≤ md → mc_at I U → rw_at (L 549) (104 * r) p md st lo s.1 b0 b1 → kn_ok s → pa_bd (pa_B md st.length) st lo → st.length ≤ md → e ≤ 50 → I 533 17 = nI e → I 533 16 = nI (r + 1) → (∀ (I' : Nat → Nat → Int32) (L' : Nat → Nat → Int64), I' 533 17 = nI (ce_go U m f (p, md, st, lo, s, b0, b1) e).2 → (ce_go U m f (p, md, st, lo, s, b0, b1) e).2 ≤ 50 → ((ce_go U m f (p, md, st, lo, s, b0, b1) e).1 = 0 → I' 533 16 = nI r) → ad_fr r I I' L L' → gw_Go y_Mo_checkCut (d + 5) 0 0 51 [some (.ref 533), some (.int (nI m)), some (.int (nI c)), some (.int (ce_go U m f (p, md, st, lo, s, b0, b1) e).1)] [] (n, sh, X, R, I', L') Q) → gw_Go y_Mo_checkCut (d + 5) 0 0 51 [some (.ref 533), some (.int (nI m)), some (.int (nI c)), some (.int 0)] [] (n, sh, X, R, I, L) Q := by
  have hp0 := hp
  obtain ⟨s533, s534, s535, s536, s537, s538, s539, s540, s541, s542, s543, s544, s545, s546, s547, s548, s549, s550, s551, s552, s553, s554, s555, s556, s557, r534, r535, r536, r537, r538, r539, r540, r541, r542, r543, r544, r545, r546, r547, r548, r549, r550, r551, r552, r553, r554, r555, r556, r557⟩ := hp
  intro f
  induction f with
  | zero => intro r md e p st lo s b0 b1 I L h1 h2; omega
  | succ f ih =>
    intro r md e p st lo s b0 b1 I L hf hmd hr hmc hrow hok hb0 hlen he h17 h16 next
    refine go_aload_n 0 d_Mo_checkCut_51 rfl rfl ?_
    refine go_getI d_Mo_checkCut_52 f_Mo_149 (by assumption) ?_
    rw [h16]
    refine go_if_le 77 d_Mo_checkCut_55 rfl (fun hn => absurd hn ((fun hh => absurd hh (nI_nle (by omega) (by omega))))) (fun _ => ?_)
    refine go_iload_n 3 d_Mo_checkCut_58 rfl rfl ?_
    refine go_if_ne 77 d_Mo_checkCut_59 rfl (fun hn => absurd hn ((fun hh => hh rfl))) (fun _ => ?_)
    refine go_aload_n 0 d_Mo_checkCut_62 rfl rfl ?_
    refine go_iload_n 1 d_Mo_checkCut_63 rfl rfl ?_
    refine go_aload_n 0 d_Mo_checkCut_64 rfl rfl ?_
    refine go_getI d_Mo_checkCut_65 f_Mo_149 (by assumption) ?_
    refine go_iconst (v := 1) d_Mo_checkCut_68 rfl ?_
    refine go_isub d_Mo_checkCut_69 ?_
    rw [h16, nI_pred]
    refine go_V2 d_Mo_checkCut_70 k_Mo_156 (by assumption) (Nat.le_of_ble_eq_true rfl) (c_Mo_advance (d := d) (f := f) (e := e) hp0 hmc hm hU (by omega) hmd hrow hok hb0 hlen he h17 (fun v e' I1 L1 q1 q2 q3 q4 => ?hE) (fun p' st' lo' c0 c1 I1 L1 q1 q2 q3 q4 q5 q6 q7 q8 => ?hG) (fun nn near jump st' w I1 L1 q1 q2 q3 q4 q5 q6 q7 q8 q9 => ?hB))
    case hE =>
      rw [q1] at next
      refine go_istore_n 3 d_Mo_checkCut_73 rfl (Nat.le_of_ble_eq_true rfl) ?_
      refine go_goto 51 d_Mo_checkCut_74 rfl ?_
      exact next I1 L1 q2 (by have := ce_go_50 (U := U) (m := m) (f + 1) (p, md, st, lo, s, b0, b1) he; rw [q1] at this; exact this) q3 q4
    case hG =>
      rw [q1] at next
      refine go_istore_n 3 d_Mo_checkCut_73 rfl (Nat.le_of_ble_eq_true rfl) ?_
      refine go_goto 51 d_Mo_checkCut_74 rfl ?_
      exact ih r (md + 1) e p' st' lo' s c0 c1 I1 L1 (by omega) (by omega) (by omega) (hmc.kept (fun q a b => q8.2.1 q (by omega))) q2 hok q3 q4 he q6 (by rw [q5]; exact h16) (fun I2 L2 g1 g2 g3 g4 => next I2 L2 g1 g2 g3 (q8.trans g4))
    case hB =>
      rw [q1] at next
      have hmc1 : mc_at I1 U := hmc.kept (fun q a b => q9.2.1 q (by omega))
      have h50 := ce_go_50 (U := U) (m := m)
      cases hN : near with
      | none => cases hJ : jump with
        | none =>
          subst hN
          subst hJ
          have hw : w = r := q2
          have hz : ce_br (ce_go U m f) none none (p + 1) nn (md + 1) st' lo (b0.1, b0.2 - 1) b1 e = (0, e) := by unfold ce_br ce_pa; exact if_pos rfl
          rw [hz] at next
          refine go_istore_n 3 d_Mo_checkCut_73 rfl (Nat.le_of_ble_eq_true rfl) ?_
          refine go_goto 51 d_Mo_checkCut_74 rfl ?_
          exact next I1 L1 q7 he (fun _ => by rw [q6, hw]) q9
        | some j =>
          subst hN
          subst hJ
          obtain ⟨hw, hrj⟩ := q2
          have hz : ce_br (ce_go U m f) none (some j) (p + 1) nn (md + 1) st' lo (b0.1, b0.2 - 1) b1 e = ce_go U m f (nn, md + 1, st', lo, j, (b0.1, b0.2 - 1), b1) e := by unfold ce_br ce_pa; exact if_pos rfl
          rw [hz] at next
          refine go_istore_n 3 d_Mo_checkCut_73 rfl (Nat.le_of_ble_eq_true rfl) ?_
          refine go_goto 51 d_Mo_checkCut_74 rfl ?_
          exact ih r (md + 1) e nn st' lo j _ _ I1 L1 (by omega) (by omega) (by omega) hmc1 hrj (q3 j (Or.inr rfl)) q4 q5 he q7 (by rw [q6, hw]) (fun I2 L2 g1 g2 g3 g4 => next I2 L2 g1 g2 g3 (q9.trans g4))
      | some g => cases hJ : jump with
        | none =>
          subst hN
          subst hJ
          obtain ⟨hw, hrg⟩ := q2
          have hz : ce_br (ce_go U m f) (some g) none (p + 1) nn (md + 1) st' lo (b0.1, b0.2 - 1) b1 e = ce_go U m f (p + 1, md + 1, st', lo, g, (b0.1, b0.2 - 1), b1) e := by
            unfold ce_br ce_pa
            dsimp only
            split
            · rename_i h0; exact Prod.ext h0.symm rfl
            · rfl
          rw [hz] at next
          refine go_istore_n 3 d_Mo_checkCut_73 rfl (Nat.le_of_ble_eq_true rfl) ?_
          refine go_goto 51 d_Mo_checkCut_74 rfl ?_
          exact ih r (md + 1) e (p + 1) st' lo g _ _ I1 L1 (by omega) (by omega) (by omega) hmc1 hrg (q3 g (Or.inl rfl)) q4 q5 he q7 (by rw [q6, hw]) (fun I2 L2 g1 g2 g3 g4 => next I2 L2 g1 g2 g3 (q9.trans g4))
        | some j =>
          subst hN
          subst hJ
          obtain ⟨hw, hrj, hrg⟩ := q2
          have hgo : gw_Go y_Mo_checkCut (d + 5) 0 0 51 [some (.ref 533), some (.int (nI m)), some (.int (nI c)), some (.int 0)] [] (n, sh, X, R, I1, L1) Q := by
            refine ih (r + 1) (md + 1) e (p + 1) st' lo g _ _ I1 L1 (by omega) (by omega) (by omega) hmc1 hrg (q3 g (Or.inl rfl)) q4 q5 he q7 (by rw [q6, hw]) (fun I2 L2 g1 g2 g3 g4 => ?_)
            by_cases h0 : (ce_go U m f (p + 1, md + 1, st', lo, g, (b0.1, b0.2 - 1), b1) e).1 = 0
            · have hz : ce_br (ce_go U m f) (some g) (some j) (p + 1) nn (md + 1) st' lo (b0.1, b0.2 - 1) b1 e = ce_go U m f (nn, md + 1, st', lo, j, (b0.1, b0.2 - 1), b1) (ce_go U m f (p + 1, md + 1, st', lo, g, (b0.1, b0.2 - 1), b1) e).2 := by unfold ce_br ce_pa; exact if_pos h0
              rw [hz] at next
              rw [h0]
              exact ih r (md + 1) _ nn st' lo j _ _ I2 L2 (by omega) (by omega) (by omega) (hmc1.kept (fun q a b => g4.2.1 q (by omega))) (hrj.kept (fun i ha hb => g4.2.2.1 i (by omega))) (q3 j (Or.inr rfl)) q4 q5 g2 g1 (g3 h0) (fun I3 L3 k1 k2 k3 k4 => next I3 L3 k1 k2 k3 (q9.trans (g4.down.trans k4)))
            · have hz : ce_br (ce_go U m f) (some g) (some j) (p + 1) nn (md + 1) st' lo (b0.1, b0.2 - 1) b1 e = ce_go U m f (p + 1, md + 1, st', lo, g, (b0.1, b0.2 - 1), b1) e := by unfold ce_br ce_pa; exact if_neg h0
              rw [hz] at next
              exact next I2 L2 g1 g2 (fun h => absurd h h0) (q9.trans g4.down)
          refine go_istore_n 3 d_Mo_checkCut_73 rfl (Nat.le_of_ble_eq_true rfl) ?_
          refine go_goto 51 d_Mo_checkCut_74 rfl ?_
          exact hgo
theorem c_Mo_checkCut {m i pl : Nat} {A : ab_Cu} (hp : pt_Mo sh R) (hm : m < 4) (hU : u_ok U) (hmc : mc_at I U) (hcut : (U m).2.1[i]? = some (pl, A)) (hQ : ∀ I' L', ad_fr 0 I I' L L' → Q (some (.int (ce_cut U m (pl, A)))) (n, sh, X, R, I', L')) : gw_Call y_Mo_checkCut (d + 5) 0 0 [.ref 533, .int (nI m), .int (nI (6 * m + i))] (n, sh, X, R, I, L) Q := by
  have hp0 := hp
  obtain ⟨s533, s534, s535, s536, s537, s538, s539, s540, s541, s542, s543, s544, s545, s546, s547, s548, s549, s550, s551, s552, s553, s554, s555, s556, s557, r534, r535, r536, r537, r538, r539, r540, r541, r542, r543, r544, r545, r546, r547, r548, r549, r550, r551, r552, r553, r554, r555, r556, r557⟩ := hp
  have hi6 : i < 6 := ge_lt hcut (hmc m hm).2.2.2.2.2.1
  obtain ⟨g1, g2⟩ := (hmc m hm).2.2.2.2.2.2 i _ hcut
  dsimp only at g1 g2
  have hA5 : ∀ t ∈ A.1, t.1 < 5 ∧ t.2.1 < 5 := fun t ht => by
    obtain ⟨j, hj⟩ := List.mem_iff_getElem?.mp ht
    exact (g2.2.2.1 j t hj).2.2.2
  have hlr := kn_lc_lr A.1 kn_ok_new hA5
  obtain ⟨c, hc⟩ : ∃ c, c = 6 * m + i := ⟨_, rfl⟩
  rw [← hc] at g1 g2 ⊢
  have hc24 : c < 24 := by omega
  have e2 : (2 : Int32) * nI c = nI (2 * c) := nI_mul 2 c
  refine gw_call o_Mo_checkCut (Nat.le_of_ble_eq_true rfl) ?_
  cases hl : kn_lc A.1 kn_new with
  | none =>
    rw [hl] at hlr
    obtain ⟨hb1, a0, k0, u0, hb2, hb3, hb4⟩ := hlr
    have hz : ce_cut U m (pl, A) = 0 := by unfold ce_cut; rw [hl]
    rw [hz] at hQ
    refine go_aload_n 0 d_Mo_checkCut_0 rfl rfl ?_
    refine go_iload_n 2 d_Mo_checkCut_1 rfl rfl ?_
    refine go_V1 d_Mo_checkCut_2 k_Mo_139 (by assumption) (Nat.le_of_ble_eq_true rfl) (c_Mo_begin (d := d + 2) hp0 hc24 g2 g1 (fun L1 f1 f2 => ?_))
    refine go_aload_n 0 d_Mo_checkCut_5 rfl rfl ?_
    refine go_iconst (v := nI 0) d_Mo_checkCut_6 rfl ?_
    refine go_V1 d_Mo_checkCut_7 k_Mo_142 (by assumption) (Nat.le_of_ble_eq_true rfl) (c_Mo_fbN (d := d + 3) (r := 0) hp0 (by decide) f1.2.2.2.2.2.2.2.1 hb1 hb2 hb3 hb4 (fun L2 f3 => ?_))
    refine go_if_ne 15 d_Mo_checkCut_10 rfl (fun hn => absurd hn (fun hh => hh rfl)) (fun _ => ?_)
    refine go_iconst (v := 0) d_Mo_checkCut_13 rfl ?_
    exact go_iret d_Mo_checkCut_14 rfl (hQ I L2 ⟨fun _ _ _ => rfl, fun _ _ => rfl, fun i hi => by omega, fun q a b c => by rw [f3 q b c, f2 q a]⟩)
  | some s =>
    rw [hl] at hlr
    obtain ⟨hok, hE⟩ := hlr
    have hC := kn_ok_bd hok
    have hz : ce_cut U m (pl, A) = cIf (kn_an s.2 A.2.1.2 A.2.1.1.toInt64 ∨ kn_an s.2 A.2.2.2 A.2.2.1.toInt64) 1 (ce_go U m 41 (nI pl, 0, [], sy_id, s, ba_new A.2.1, ba_new A.2.2) 0).1 := by unfold ce_cut; rw [hl]
    rw [hz] at hQ
    refine go_aload_n 0 d_Mo_checkCut_0 rfl rfl ?_
    refine go_iload_n 2 d_Mo_checkCut_1 rfl rfl ?_
    refine go_V1 d_Mo_checkCut_2 k_Mo_139 (by assumption) (Nat.le_of_ble_eq_true rfl) (c_Mo_begin (d := d + 2) hp0 hc24 g2 g1 (fun L1 f1 f2 => ?_))
    refine go_aload_n 0 d_Mo_checkCut_5 rfl rfl ?_
    refine go_iconst (v := nI 0) d_Mo_checkCut_6 rfl ?_
    refine go_V1 d_Mo_checkCut_7 k_Mo_142 (by assumption) (Nat.le_of_ble_eq_true rfl) (c_Mo_fbC (d := d + 3) (r := 0) (s := s) hp0 (by decide) (by rw [hE]; exact f1.2.2.2.2.2.2.2.1) hok (fun L2 f3 f4 => ?_))
    refine go_if_ne 15 d_Mo_checkCut_10 rfl (fun _ => ?_) (fun hn => by first | exact absurd hn (i_10) | exact absurd (i_10) hn)
    refine go_aload_n 0 d_Mo_checkCut_15 rfl rfl ?_
    refine go_iconst (v := 2) d_Mo_checkCut_16 rfl ?_
    refine go_iload_n 2 d_Mo_checkCut_17 rfl rfl ?_
    refine go_imul d_Mo_checkCut_18 ?_
    rw [e2]
    refine go_V1 d_Mo_checkCut_19 k_Mo_146 (by assumption) (Nat.le_of_ble_eq_true rfl) (c_Mo_negative hp0 (by omega) g2.2.2.2.1 f3 hC (fun g k1 z1 => ?_))
    refine go_if_ne 37 d_Mo_checkCut_22 rfl (fun h22 => ?_) (fun h22 => ?_)
    · refine go_iconst (v := 1) d_Mo_checkCut_37 rfl ?_
      exact go_iret d_Mo_checkCut_38 rfl (by (rw [cIf_pos (by first | exact Or.inl (k1.mp h22) | exact Or.inr (k2.mp h34))] at hQ; exact hQ I L2 ⟨fun _ _ _ => rfl, fun _ _ => rfl, fun i hi => by omega, fun q a b c => by rw [f4 q b c, f2 q a]⟩))
    · refine go_aload_n 0 d_Mo_checkCut_25 rfl rfl ?_
      refine go_iconst (v := 2) d_Mo_checkCut_26 rfl ?_
      refine go_iload_n 2 d_Mo_checkCut_27 rfl rfl ?_
      refine go_imul d_Mo_checkCut_28 ?_
      refine go_iconst (v := 1) d_Mo_checkCut_29 rfl ?_
      refine go_iadd d_Mo_checkCut_30 ?_
      rw [e2, show nI (2 * c) + 1 = nI (2 * c + 1) from nI_1 _]
      refine go_V1 d_Mo_checkCut_31 k_Mo_146 (by assumption) (Nat.le_of_ble_eq_true rfl) (c_Mo_negative hp0 (by omega) g2.2.2.2.2 f3 hC (fun g' k2 z2 => ?_))
      refine go_if_eq 39 d_Mo_checkCut_34 rfl (fun h34 => ?_) (fun h34 => ?_)
      · rw [cIf_neg (fun hh => hh.elim (fun h => absurd h22 (k1.mpr h)) (fun h => absurd h34 (k2.mpr h)))] at hQ
        refine go_aload_n 0 d_Mo_checkCut_39 rfl rfl ?_
        refine go_iconst (v := 1) d_Mo_checkCut_40 rfl ?_
        refine go_putI d_Mo_checkCut_41 f_Mo_149 (by assumption) ?_
        refine go_aload_n 0 d_Mo_checkCut_44 rfl rfl ?_
        refine go_iconst (v := 0) d_Mo_checkCut_45 rfl ?_
        refine go_putI d_Mo_checkCut_46 f_Mo_153 (by assumption) ?_
        refine go_iconst (v := 0) d_Mo_checkCut_49 rfl ?_
        refine go_istore_n 3 d_Mo_checkCut_50 rfl (Nat.le_of_ble_eq_true rfl) ?_
        obtain ⟨Ie, hIe⟩ : ∃ Ie, Ie = va_up (va_up I 533 (va_up (I 533) 16 1)) 533 (va_up (va_up I 533 (va_up (I 533) 16 1) 533) 17 0) := ⟨_, rfl⟩
        rw [← hIe]
        have eo : ∀ j, j ≠ 16 → j ≠ 17 → Ie 533 j = I 533 j := fun j a b => by rw [hIe]; simp (disch := omega) only [up2_eq, up2_ne]
        have eq : ∀ q, q ≠ 533 → Ie q = I q := fun q hq => by rw [hIe, gw_up_ne hq, gw_up_ne hq]
        have hrow : rw_at (L2 549) (104 * 0) (nI pl) 0 [] sy_id s.1 (ba_new A.2.1) (ba_new A.2.2) := by rw [f4 _ (by decide) (by decide), hE]; exact f1
        have hpb : pa_bd (pa_B 0 ([] : List ab_Sy).length) [] sy_id := by
          refine ⟨fun v hv => (by cases hv), fun j hj q hq => ?_⟩
          cases hq
          have e0 : (0 : Int64).toInt = 0 := by decide
          exact ⟨by show _ ≤ (0 : Int64).toInt; rw [e0]; omega, by show (0 : Int64).toInt ≤ _; rw [e0]; omega⟩
        refine c_Mo_G (U := U) hp0 hm hU 41 0 0 0 (nI pl) [] sy_id s (ba_new A.2.1) (ba_new A.2.2) Ie L2 rfl (by decide) (Nat.le_refl _) (hmc.kept (fun q a b => eq q (by omega))) hrow hok hpb (Nat.le_refl _) (by decide) (by rw [hIe]; simp (disch := omega) only [up2_eq, up2_ne]; rfl) (by rw [hIe]; simp (disch := omega) only [up2_eq, up2_ne]; rfl) (fun I3 L3 k1' k2' k3' k4' => ?_)
        have fin := hQ I3 L3 ⟨fun j a b => by rw [k4'.1 j a b]; exact eo j a b, fun q hq => by rw [k4'.2.1 q hq]; exact eq q hq, fun i hi => by omega, fun q a b c => by rw [k4'.2.2.2 q a b c, f4 q b c, f2 q a]⟩
        by_cases h0 : (ce_go U m 41 (nI pl, 0, [], sy_id, s, ba_new A.2.1, ba_new A.2.2) 0).1 = 0
        · have h16 := k3' h0
          refine go_aload_n 0 d_Mo_checkCut_51 rfl rfl ?_
          refine go_getI d_Mo_checkCut_52 f_Mo_149 (by assumption) ?_
          rw [h16]
          refine go_if_le 77 d_Mo_checkCut_55 rfl (fun _ => ?_) (fun hn => absurd (by decide) hn)
          refine go_iload_n 3 d_Mo_checkCut_77 rfl rfl ?_
          exact go_iret d_Mo_checkCut_78 rfl (fin)
        · skip
          refine go_aload_n 0 d_Mo_checkCut_51 rfl rfl ?_
          refine go_getI d_Mo_checkCut_52 f_Mo_149 (by assumption) ?_
          refine go_if_le 77 d_Mo_checkCut_55 rfl (fun h55 => ?_) (fun h55 => ?_)
          · refine go_iload_n 3 d_Mo_checkCut_77 rfl rfl ?_
            exact go_iret d_Mo_checkCut_78 rfl (fin)
          · refine go_iload_n 3 d_Mo_checkCut_58 rfl rfl ?_
            refine go_if_ne 77 d_Mo_checkCut_59 rfl (fun _ => ?_) (fun hn => by first | exact absurd hn (h0) | exact absurd (h0) hn)
            refine go_iload_n 3 d_Mo_checkCut_77 rfl rfl ?_
            exact go_iret d_Mo_checkCut_78 rfl (fin)
      · refine go_iconst (v := 1) d_Mo_checkCut_37 rfl ?_
        exact go_iret d_Mo_checkCut_38 rfl (by (rw [cIf_pos (by first | exact Or.inl (k1.mp h22) | exact Or.inr (k2.mp h34))] at hQ; exact hQ I L2 ⟨fun _ _ _ => rfl, fun _ _ => rfl, fun i hi => by omega, fun q a b c => by rw [f4 q b c, f2 q a]⟩))
end MO
