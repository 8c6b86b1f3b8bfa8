/-! Path.beginAt -/
def sy_id : Nat → ab_Sy := fun j => some (j, 0)
theorem po_no_id {l : List (Nat × Nat × Nat)} : ¬ po_no sy_id l := fun ⟨t, _, h⟩ => by rcases h with h | h <;> cases h
noncomputable abbrev kn_new : sp_E × sp_E := (fun _ _ => none, fun a b => if a = b then some 0 else none)
abbrev ba_new (P : ab_Po) : ab_Ba := ba_pot sy_id (1 : Int32).toInt64 P (fun _ _ => 0, 0)
theorem pt_Cu.pots {sh : Nat → Nat × Nat} {R : Nat → Nat → Option Nat} {k : Nat} (h : pt_Cu sh R k) : sh k = (0, 2) ∧ sh (k + 4) = (2 + 4, 2) ∧ R k 5 = some (k + 4) ∧ R (k + 4) 0 = some (k + 5) ∧ R (k + 4) 1 = some (k + 9) ∧ pt_Po sh R (k + 5) ∧ pt_Po sh R (k + 9) := by
  obtain ⟨c0, c1, c2, c3, c4, r2, r3, r4, r5, q0, q1, p0, p1⟩ := h
  exact ⟨c0, c4, r5, q0, q1, p0, p1⟩
section PA
variable {d n : Nat} {sh : Nat → Nat × Nat} {X : Nat × (Nat → Int32)} {R : Nat → Nat → Option Nat} {I : Nat → Nat → Int32} {L : Nat → Nat → Int64} {Q : Option Value → gw_Mem → Prop} {o : Nat}
theorem c_Pa_beginAt {k p : Nat} {A : ab_Cu} (hp : pt_Pa sh R o) (hc : pt_Cu sh R k) (ha : cu_at I k p A) (hd : k + 13 ≤ o) (hf : kn_lc A.1 kn_new = none → ∀ I' L', (∀ q, q < o ∨ o + 13 ≤ q → I' q = I q) → (∀ q, q < o ∨ o + 13 ≤ q → L' q = L q) → Q (some (.int 0)) (n, sh, X, R, I', L')) (hQ : ∀ s, kn_lc A.1 kn_new = some s → kn_ok s → ∀ I' L', pa_at I' L' o (nI p) 0 [] sy_id s.2 (ba_new A.2.1) (ba_new A.2.2) → (∀ q, q < o ∨ o + 13 ≤ q → I' q = I q) → (∀ q, q < o ∨ o + 13 ≤ q → L' q = L q) → Q (some (.int 1)) (n, sh, X, R, I', L')) : gw_Call y_Pa_beginAt (d + 3) 0 0 [.ref o, .ref k] (n, sh, X, R, I, L) Q := by
  obtain ⟨s0, s1, s4, s5, s6, s8, s9, s11, r0, r1, r2, r6, r7, r80, r81⟩ := hp
  obtain ⟨c0, c4, c5, q0, q1, p0, p1⟩ := hc.pots
  have z1 := s1.1
  have z6 := s6.1
  have z9 := s9.1
  have z11 := s11.1
  have zp0 := p0.1
  have zp1 := p1.1
  refine gw_call o_Pa_beginAt (Nat.le_of_ble_eq_true rfl) ?_
  have rest : ∀ (I3 : Nat → Nat → Int32) (L2 : Nat → Nat → Int64), I3 o 3 = 0 → I3 o 4 = nI p → I3 o 5 = 0 → sy_at I3 L2 (o + 1) sy_id → (∀ q, q < o ∨ o + 13 ≤ q → I3 q = I q) → (∀ q, q < o ∨ o + 13 ≤ q → L2 q = L q) → gw_Go y_Pa_beginAt (d + 3) 0 0 27 [some (.ref o), some (.ref k), some (.int 0)] [] (n, sh, X, R, I3, L2) Q := by
    intro I3 L2 e1 e2 e3 e4 e5 e6
    have ha3 : cu_at I3 k p A := ha.kept (fun q h1 h2 => e5 q (by omega))
    obtain ⟨a1, a2, a3, a4, a5, a6⟩ := ha3
    refine go_iload_n 2 d_Pa_beginAt_27 rfl rfl ?_
    refine go_iconst (v := 2) d_Pa_beginAt_28 rfl ?_
    refine go_icmp_ge 67 d_Pa_beginAt_29 rfl (fun hn => absurd hn (by decide)) (fun _ => ?_)
    refine go_aload_n 0 d_Pa_beginAt_32 rfl rfl ?_
    refine go_getR d_Pa_beginAt_33 f_Pa_35 (by assumption) (by assumption) ?_
    refine go_iload_n 2 d_Pa_beginAt_36 rfl rfl ?_
    refine go_aald (t := 5) (0) d_Pa_beginAt_37 (by assumption) (by decide) (rfl) (by decide) (by decide) (by assumption) ?_
    refine go_V0 d_Pa_beginAt_38 k_Pa_56 (by assumption) (Nat.le_of_ble_eq_true rfl) (c_Ba_reset s9 (fun L3 c1 c2 => ?_))
    refine go_aload_n 0 d_Pa_beginAt_41 rfl rfl ?_
    refine go_getR d_Pa_beginAt_42 f_Pa_35 (by assumption) (by assumption) ?_
    refine go_iload_n 2 d_Pa_beginAt_45 rfl rfl ?_
    refine go_aald (t := 5) (0) d_Pa_beginAt_46 (by assumption) (by decide) (rfl) (by decide) (by decide) (by assumption) ?_
    refine go_iconst (v := 1) d_Pa_beginAt_47 rfl ?_
    refine go_aload_n 1 d_Pa_beginAt_48 rfl rfl ?_
    refine go_getR d_Pa_beginAt_49 f_Pa_59 (by assumption) (by assumption) ?_
    refine go_iload_n 2 d_Pa_beginAt_52 rfl rfl ?_
    refine go_aald (t := 2) (0) d_Pa_beginAt_53 (by assumption) (by decide) (rfl) (by decide) (by decide) (by assumption) ?_
    refine go_aload_n 0 d_Pa_beginAt_54 rfl rfl ?_
    refine go_getR d_Pa_beginAt_55 f_Pa_12 (by assumption) (by assumption) ?_
    refine go_V3 d_Pa_beginAt_58 k_Pa_63 (by assumption) (Nat.le_of_ble_eq_true rfl) (c_Ba_addPotential s9 c1 p0 a5 s1 (e4.kept rfl (c2 _ (by omega) (by omega))) po_no_id ⟨by omega, by omega⟩ (fun L4 c3 c4 => ?_))
    refine go_iinc d_Pa_beginAt_61 rfl rfl (Nat.le_of_ble_eq_true rfl) ?_
    refine go_goto 27 d_Pa_beginAt_64 rfl ?_
    refine go_iload_n 2 d_Pa_beginAt_27 rfl rfl ?_
    refine go_iconst (v := 2) d_Pa_beginAt_28 rfl ?_
    refine go_icmp_ge 67 d_Pa_beginAt_29 rfl (fun hn => absurd hn (by decide)) (fun _ => ?_)
    refine go_aload_n 0 d_Pa_beginAt_32 rfl rfl ?_
    refine go_getR d_Pa_beginAt_33 f_Pa_35 (by assumption) (by assumption) ?_
    refine go_iload_n 2 d_Pa_beginAt_36 rfl rfl ?_
    refine go_aald (t := 5) (1) d_Pa_beginAt_37 (by assumption) (by decide) (rfl) (by decide) (by decide) (by assumption) ?_
    refine go_V0 d_Pa_beginAt_38 k_Pa_56 (by assumption) (Nat.le_of_ble_eq_true rfl) (c_Ba_reset s11 (fun L5 c5 c6 => ?_))
    refine go_aload_n 0 d_Pa_beginAt_41 rfl rfl ?_
    refine go_getR d_Pa_beginAt_42 f_Pa_35 (by assumption) (by assumption) ?_
    refine go_iload_n 2 d_Pa_beginAt_45 rfl rfl ?_
    refine go_aald (t := 5) (1) d_Pa_beginAt_46 (by assumption) (by decide) (rfl) (by decide) (by decide) (by assumption) ?_
    refine go_iconst (v := 1) d_Pa_beginAt_47 rfl ?_
    refine go_aload_n 1 d_Pa_beginAt_48 rfl rfl ?_
    refine go_getR d_Pa_beginAt_49 f_Pa_59 (by assumption) (by assumption) ?_
    refine go_iload_n 2 d_Pa_beginAt_52 rfl rfl ?_
    refine go_aald (t := 2) (1) d_Pa_beginAt_53 (by assumption) (by decide) (rfl) (by decide) (by decide) (by assumption) ?_
    refine go_aload_n 0 d_Pa_beginAt_54 rfl rfl ?_
    refine go_getR d_Pa_beginAt_55 f_Pa_12 (by assumption) (by assumption) ?_
    refine go_V3 d_Pa_beginAt_58 k_Pa_63 (by assumption) (Nat.le_of_ble_eq_true rfl) (c_Ba_addPotential s11 c5 p1 a6 s1 (e4.kept rfl (by rw [c6 _ (by omega) (by omega), c4 _ (by omega) (by omega), c2 _ (by omega) (by omega)])) po_no_id ⟨by omega, by omega⟩ (fun L6 c7 c8 => ?_))
    refine go_iinc d_Pa_beginAt_61 rfl rfl (Nat.le_of_ble_eq_true rfl) ?_
    refine go_goto 27 d_Pa_beginAt_64 rfl ?_
    have hL : ∀ q, q < o + 9 ∨ o + 13 ≤ q → L6 q = L2 q := fun q hq => by rw [c8 q (by omega) (by omega), c6 q (by omega) (by omega), c4 q (by omega) (by omega), c2 q (by omega) (by omega)]
    refine go_iload_n 2 d_Pa_beginAt_27 rfl rfl ?_
    refine go_iconst (v := 2) d_Pa_beginAt_28 rfl ?_
    refine go_icmp_ge 67 d_Pa_beginAt_29 rfl (fun _ => ?_) (fun hn => absurd (by decide) hn)
    refine go_aload_n 0 d_Pa_beginAt_67 rfl rfl ?_
    refine go_getR d_Pa_beginAt_68 f_Pa_29 (by assumption) (by assumption) ?_
    refine go_V0 d_Pa_beginAt_71 k_Pa_67 (by assumption) (Nat.le_of_ble_eq_true rfl) (c_Kn_forgetAll s6 (fun L7 c9 c10 => ?_))
    refine go_aload_n 0 d_Pa_beginAt_74 rfl rfl ?_
    refine go_getR d_Pa_beginAt_75 f_Pa_29 (by assumption) (by assumption) ?_
    refine go_aload_n 1 d_Pa_beginAt_78 rfl rfl ?_
    refine go_V1 d_Pa_beginAt_79 k_Pa_70 (by assumption) (Nat.le_of_ble_eq_true rfl) (c_Kn_learnClaims s6 hc ⟨a1, a2, a3, a4, a5, a6⟩ (s := kn_new) c9 kn_ok_0 (fun hno L8 c12 => ?_) (fun s' hs' hok L8 c11 c12 => ?_))
    · exact go_zret d_Pa_beginAt_82 rfl (Or.inl rfl) (hf hno I3 L8 e5 (fun q hq => by rw [c12 q (by omega), c10 q (by omega), hL q (by omega)]; exact e6 q hq))
    · have hL8 : ∀ q, q ≠ o + 6 + 1 → L8 q = L6 q := fun q hq => by rw [c12 q hq, c10 q hq]
      exact go_zret d_Pa_beginAt_82 rfl (Or.inr rfl) (hQ s' hs' hok I3 L8 ⟨e1, e2, e3, trivial, e4.kept rfl (by rw [hL8 _ (by omega), hL _ (by omega)]), c11, c3.kept (by rw [hL8 _ (by omega), c8 _ (by omega) (by omega), c6 _ (by omega) (by omega)]) (by rw [hL8 _ (by omega), c8 _ (by omega) (by omega), c6 _ (by omega) (by omega)]), c7.kept (hL8 _ (by omega)) (hL8 _ (by omega))⟩ e5 (fun q hq => by rw [hL8 q (by omega), hL q (by omega)]; exact e6 q hq))
  refine go_aload_n 0 d_Pa_beginAt_0 rfl rfl ?_
  refine go_aload_n 1 d_Pa_beginAt_1 rfl rfl ?_
  refine go_getI d_Pa_beginAt_2 f_Pa_40 (by assumption) ?_
  refine go_putI d_Pa_beginAt_5 f_Pa_46 (by assumption) ?_
  refine go_aload_n 0 d_Pa_beginAt_8 rfl rfl ?_
  refine go_iconst (v := 0) d_Pa_beginAt_9 rfl ?_
  refine go_putI d_Pa_beginAt_10 f_Pa_47 (by assumption) ?_
  refine go_aload_n 0 d_Pa_beginAt_13 rfl rfl ?_
  refine go_iconst (v := 0) d_Pa_beginAt_14 rfl ?_
  refine go_putI d_Pa_beginAt_15 f_Pa_50 (by assumption) ?_
  refine go_aload_n 0 d_Pa_beginAt_18 rfl rfl ?_
  refine go_getR d_Pa_beginAt_19 f_Pa_12 (by assumption) (by assumption) ?_
  refine go_V0 d_Pa_beginAt_22 k_Pa_53 (by assumption) (Nat.le_of_ble_eq_true rfl) (c_Sy_stand s1 (fun I1 L1 c1 c2 c3 => ?_))
  refine go_iconst (v := 0) d_Pa_beginAt_25 rfl ?_
  refine go_istore_n 2 d_Pa_beginAt_26 rfl (Nat.le_of_ble_eq_true rfl) ?_
  exact rest _ L1 (by rw [c2 _ (by omega)]; simp [va_up]) (by rw [c2 _ (by omega)]; simp [va_up]; exact ha.1) (by rw [c2 _ (by omega)]; simp [va_up]) c1 (fun q hq => by rw [c2 _ (by omega), gw_up_ne (by omega), gw_up_ne (by omega), gw_up_ne (by omega)]) (fun q hq => c3 _ (by omega))
end PA
