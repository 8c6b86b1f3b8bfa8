/-! Checker.reasonAtCut, answerFor; CostChecker.check -/
/-- what is wrong on the paths from a cut -/
noncomputable def ce_cut (S : Nat → ab_Me) (m : Nat) (c : Nat × ab_Cu) : Int32 := match kn_lc c.2.1 kn_new with
  | none => 0
  | some s => cIf (kn_an s.2 c.2.2.1.2 c.2.2.1.1.toInt64 ∨ kn_an s.2 c.2.2.2.2 c.2.2.2.1.toInt64) 1 (ce_go S m 41 (nI c.1, 0, [], sy_id, s, ba_new c.2.2.1, ba_new c.2.2.2) 0).1
noncomputable def ce_cuts (S : Nat → ab_Me) (m : Nat) : List (Nat × ab_Cu) → Int32
  | [] => 0
  | c :: l => if ce_cut S m c = 0 then ce_cuts S m l else 100 * nI c.1 + ce_cut S m c
/-- what check answers -/
noncomputable def ce_ans (S : Nat → ab_Me) (m : Nat) : Int32 := if (S m).1.length = 0 then 2 else ce_cuts S m (S m).2.1
section CK
variable {d n : Nat} {sh : Nat → Nat × Nat} {X : Nat × (Nat → Int32)} {R : Nat → Nat → Option Nat} {I : Nat → Nat → Int32} {L : Nat → Nat → Int64} {Q : Option Value → gw_Mem → Prop} {S : Nat → ab_Me} {m : Nat}
theorem c_Ch_reasonAtCut {k : Nat} {c : Nat × ab_Cu} (hcc : pt_CC sh R) (hch : pt_Ch sh R) (hm : m < 4) (hrm : R 345 1 = some (2 + 82 * m)) (hS : st_ok S) (hc : cc_at R I S) (hk : k + 13 ≤ 330) (hcu : pt_Cu sh R k) (hA : cu_at I k c.1 c.2) (hQ : ∀ I' L', (∀ q, q < 345 ∨ 532 ≤ q → I' q = I q) → (∀ q, q < 345 ∨ 532 ≤ q → L' q = L q) → Q (some (.int (ce_cut S m c))) (n, sh, X, R, I', L')) : gw_Call y_Ch_reasonAtCut (d + 30) 0 0 [.ref 345, .ref k] (n, sh, X, R, I, L) Q := by
  have hch0 := hch
  obtain ⟨s345, s346, g0, g2, g3, g347, gp⟩ := hch
  obtain ⟨rl, hpl⟩ := gp 0 (by omega)
  have hpl0 : pt_Pa sh R 350 := hpl
  have rl0 : R 346 0 = some 350 := rl
  have zl := hpl0.1
  have z6 := hpl0.2.2.2.2.1.1
  have r6 := hpl0.2.2.2.2.2.2.2.2.2.2.2.1
  obtain ⟨c0, c4, c5, q0, q1, p0, p1⟩ := hcu.pots
  have zp0 := p0.1
  have zp1 := p1.1
  refine gw_call o_Ch_reasonAtCut (Nat.le_of_ble_eq_true rfl) ?_
  refine go_aload_n 0 d_Ch_reasonAtCut_0 rfl rfl ?_
  refine go_getR d_Ch_reasonAtCut_1 f_Ch_11 (by assumption) (by assumption) ?_
  refine go_iconst (v := 0) d_Ch_reasonAtCut_4 rfl ?_
  refine go_aald (t := 4) (0) d_Ch_reasonAtCut_5 (by assumption) (by decide) (rfl) (by decide) (by decide) (by assumption) ?_
  refine go_astore_n 2 d_Ch_reasonAtCut_6 rfl (Nat.le_of_ble_eq_true rfl) ?_
  refine go_aload_n 2 d_Ch_reasonAtCut_7 rfl rfl ?_
  refine go_aload_n 1 d_Ch_reasonAtCut_8 rfl rfl ?_
  refine go_V1 d_Ch_reasonAtCut_9 k_Ch_55 (by assumption) (Nat.le_of_ble_eq_true rfl) (c_Pa_beginAt (d := d + 26) hpl0 hcu hA (by omega) (fun hno I1 L1 f1 f2 => ?_) (fun s hs hok I1 L1 e1 f1 f2 => ?_))
  · have hr : ce_cut S m c = 0 := by unfold ce_cut; rw [hno]
    rw [hr] at hQ
    refine go_if_ne 17 d_Ch_reasonAtCut_12 rfl (fun hn => absurd hn (fun h => h rfl)) (fun _ => ?_)
    refine go_iconst (v := 0) d_Ch_reasonAtCut_15 rfl ?_
    exact go_iret d_Ch_reasonAtCut_16 rfl (hQ I1 L1 (fun q hq => f1 q (by omega)) (fun q hq => f2 q (by omega)))
  · have hr : ce_cut S m c = cIf (kn_an s.2 c.2.2.1.2 c.2.2.1.1.toInt64 ∨ kn_an s.2 c.2.2.2.2 c.2.2.2.1.toInt64) 1 (ce_go S m 41 (nI c.1, 0, [], sy_id, s, ba_new c.2.2.1, ba_new c.2.2.2) 0).1 := by unfold ce_cut; rw [hs]
    rw [hr] at hQ
    have hA1 : cu_at I1 k c.1 c.2 := hA.kept (fun q h1 h2 => f1 q (by omega))
    have fI : ∀ q, q < 345 ∨ 532 ≤ q → I1 q = I q := fun q hq => f1 q (by omega)
    have fL : ∀ q, q < 345 ∨ 532 ≤ q → L1 q = L q := fun q hq => f2 q (by omega)
    refine go_if_ne 17 d_Ch_reasonAtCut_12 rfl (fun _ => ?_) (fun hn => by first | exact absurd hn (by decide) | exact absurd (by decide) hn)
    refine go_aload_n 2 d_Ch_reasonAtCut_17 rfl rfl ?_
    refine go_getR d_Ch_reasonAtCut_18 f_Ch_59 (by assumption) (by assumption) ?_
    refine go_aload_n 1 d_Ch_reasonAtCut_21 rfl rfl ?_
    refine go_getR d_Ch_reasonAtCut_22 f_Ch_63 (by assumption) (by assumption) ?_
    refine go_iconst (v := 0) d_Ch_reasonAtCut_25 rfl ?_
    refine go_aald (t := 2) (0) d_Ch_reasonAtCut_26 (by assumption) (by decide) (rfl) (by decide) (by decide) (by assumption) ?_
    refine go_V1 d_Ch_reasonAtCut_27 k_Ch_67 (by assumption) (Nat.le_of_ble_eq_true rfl) (c_Kn_allowsNegative (d := d + 28) hpl0.2.2.2.2.1 p0 hA1.2.2.2.2.1 e1.2.2.2.2.2.1 (kn_ok_bd hok) (fun b hb => ?_))
    refine go_if_ne 49 d_Ch_reasonAtCut_30 rfl (fun h30 => ?_) (fun h30 => ?_)
    · rw [cIf_pos (Or.inl (hb.mp (bI_n0.mp h30)))] at hQ; refine go_iconst (v := 1) d_Ch_reasonAtCut_49 rfl ?_; exact go_iret d_Ch_reasonAtCut_50 rfl (hQ I1 L1 fI fL)
    · refine go_aload_n 2 d_Ch_reasonAtCut_33 rfl rfl ?_
      refine go_getR d_Ch_reasonAtCut_34 f_Ch_59 (by assumption) (by assumption) ?_
      refine go_aload_n 1 d_Ch_reasonAtCut_37 rfl rfl ?_
      refine go_getR d_Ch_reasonAtCut_38 f_Ch_63 (by assumption) (by assumption) ?_
      refine go_iconst (v := 1) d_Ch_reasonAtCut_41 rfl ?_
      refine go_aald (t := 2) (1) d_Ch_reasonAtCut_42 (by assumption) (by decide) (rfl) (by decide) (by decide) (by assumption) ?_
      refine go_V1 d_Ch_reasonAtCut_43 k_Ch_67 (by assumption) (Nat.le_of_ble_eq_true rfl) (c_Kn_allowsNegative (d := d + 28) hpl0.2.2.2.2.1 p1 hA1.2.2.2.2.2 e1.2.2.2.2.2.1 (kn_ok_bd hok) (fun b2 hb2 => ?_))
      refine go_if_eq 51 d_Ch_reasonAtCut_46 rfl (fun h46 => ?_) (fun h46 => ?_)
      · rw [cIf_neg (fun h => by rcases h with h | h; (rw [hb.mpr h] at h30; exact absurd h30 (by decide)); (rw [hb2.mpr h] at h46; exact absurd h46 (by decide)))] at hQ
        refine go_aload_n 0 d_Ch_reasonAtCut_51 rfl rfl ?_
        refine go_iconst (v := 0) d_Ch_reasonAtCut_52 rfl ?_
        refine go_putI d_Ch_reasonAtCut_53 f_Ch_73 (by assumption) ?_
        refine go_aload_n 0 d_Ch_reasonAtCut_56 rfl rfl ?_
        refine go_iconst (v := 0) d_Ch_reasonAtCut_57 rfl ?_
        have e2 : pa_at (va_up I1 345 (va_up (I1 345) 4 0)) L1 (350 + 13 * 0) (nI c.1) 0 [] sy_id s.2 (ba_new c.2.2.1) (ba_new c.2.2.2) := e1.kept (fun q h1 h2 => gw_up_ne (by omega)) (fun _ _ _ => rfl)
        rw [show d + 30 = d + 2 * 13 + 3 + 1 by omega]
        refine go_V1 d_Ch_reasonAtCut_58 k_Ch_76 (by assumption) (Nat.le_of_ble_eq_true rfl) (c_Ch_from (level := 0) (r := 13) (md := 0) (e := 0) (st := []) (ch_all hcc hch0 hm hrm hS 41) hch0 (by omega) (by omega) (by simp) (by simp) (by omega) (hc.kept (fun q hq => by rw [gw_up_ne (by omega)]; exact fI q (by omega))) e2 hok ⟨fun v hv => (by cases hv), fun j hj q hq => by cases hq; have z0 : (0 : Int64).toInt = 0 := rfl; dsimp only; rw [z0]; omega⟩ (by rw [gw_up_eq, gw_up_eq]; rfl) (by omega) (fun I3 L3 k1 k2 k3 k4 => ?_))
        exact go_iret d_Ch_reasonAtCut_61 rfl (hQ I3 L3 (fun q hq => by rw [k3 q (by omega) (by omega) (by omega), gw_up_ne (by omega)]; exact fI q hq) (fun q hq => by rw [k4 q (by omega) (by omega)]; exact fL q hq))
      · refine go_iconst (v := 1) d_Ch_reasonAtCut_49 rfl ?_
        rw [cIf_pos (Or.inr (hb2.mp (bI_n0.mp h46)))] at hQ
        exact go_iret d_Ch_reasonAtCut_50 rfl (hQ I1 L1 fI fL)
end CK
