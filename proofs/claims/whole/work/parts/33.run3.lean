/-! Machine.runToEnd, CostChecker.run -/
section RV
variable {d n : Nat} {sh : Nat → Nat × Nat} {X : Nat × (Nat → Int32)} {R : Nat → Nat → Option Nat} {I : Nat → Nat → Int32} {L : Nat → Nat → Int64} {Q : Option Value → gw_Mem → Prop} {S : Nat → ab_Me}
theorem c_Ma_runToEnd {m : Nat} {x y z st wd mr rt : Int32} {inp : List Int32} (hp : pt_CX sh R) (hc : cc_at R I S) (hm : m < 4) (hl : (S m).1.length ≠ 0) (ha : ma_at I st wd mr rt inp)
    (hQ : ∀ I' r, r = rn_run (fun j => (S j).1) inp 3000 ([(m, 0, [], ar_v x y z)], 0, 0, 1) → ma_at I' (nI r.2.1) r.2.2.1 r.2.2.2.1 r.2.2.2.2 [] → (∀ q, q < 330 ∨ 345 ≤ q → I' q = I q) → Q (some (.int r.1)) (n, sh, X, R, I', L)) : gw_Call y_Ma_runToEnd (d + 5) 0 0 [.ref 330, .int (nI m), .int x, .int y, .int z] (n, sh, X, R, I, L) Q := by
  have hp0 := hp
  obtain ⟨hcc, -, -, -, -, hma⟩ := hp
  have hma0 := hma
  obtain ⟨s0, s1, s2, r0, r1, r3, hfr⟩ := hma
  obtain ⟨-, -, -, -, a5, a6, a7⟩ := ha
  have hrf := (hfr 0 (by decide)).1
  have hfo := hma0.fr (i := 0) (by decide)
  have so := hfo.1
  have fin : ∀ (e : Int32) (I1 : Nat → Nat → Int32) (t : Nat) (wd' dp' rt' : Int32), (∀ q, q < 330 ∨ q = 331 ∨ q = 332 ∨ 345 ≤ q → I1 q = I q) → I1 330 6 = nI t → I1 330 7 = wd' → I1 330 8 = dp' → I1 330 9 = rt' → rn_run (fun j => (S j).1) inp 3000 ([(m, 0, [], ar_v x y z)], 0, 0, 1) = ((if e = 0 then 4 else e), t, wd', dp', rt') → gw_Go y_Ma_runToEnd (d + 5) 0 0 81 [some (.ref 330), some (.int (nI m)), some (.int x), some (.int y), some (.int z), some (.int e)] [] (n, sh, X, R, I1, L) Q := by
    intro e I1 t wd' dp' rt' hk e6 e7 e8 e9 hrun
    refine go_aload_n 0 d_Ma_runToEnd_81 rfl rfl ?_
    refine go_iconst (v := 0) d_Ma_runToEnd_82 rfl ?_
    refine go_putI d_Ma_runToEnd_83 f_Ma_26 (by assumption) ?_
    have hma1 : ma_at (va_up I1 330 (va_up (I1 330) 4 0)) (nI t) wd' dp' rt' [] := ⟨by rw [gw_up_eq, gw_up_ne (by decide)]; exact e6, by rw [gw_up_eq, gw_up_ne (by decide)]; exact e7, by rw [gw_up_eq, gw_up_ne (by decide)]; exact e8, by rw [gw_up_eq, gw_up_ne (by decide)]; exact e9, by rw [gw_up_eq, gw_up_eq]; rfl, by decide, fun j v h => by cases h⟩
    have hfr1 : ∀ q, q < 330 ∨ 345 ≤ q → va_up I1 330 (va_up (I1 330) 4 0) q = I q := fun q hq => by rw [gw_up_ne (by omega)]; exact hk q (by omega)
    refine go_iload d_Ma_runToEnd_86 rfl ?_
    refine go_if_ne 95 d_Ma_runToEnd_88 rfl (fun h88 => ?_) (fun h88 => ?_)
    · refine go_iload d_Ma_runToEnd_95 rfl ?_
      first | (rw [if_pos h88] at hrun; exact go_iret d_Ma_runToEnd_97 rfl (hQ _ _ hrun.symm hma1 hfr1)) | (rw [if_neg h88] at hrun; exact go_iret d_Ma_runToEnd_97 rfl (hQ _ _ hrun.symm hma1 hfr1))
    · refine go_iconst (v := 4) d_Ma_runToEnd_91 rfl ?_
      refine go_goto 97 d_Ma_runToEnd_92 rfl ?_
      first | (rw [if_pos h88] at hrun; exact go_iret d_Ma_runToEnd_97 rfl (hQ _ _ hrun.symm hma1 hfr1)) | (rw [if_neg h88] at hrun; exact go_iret d_Ma_runToEnd_97 rfl (hQ _ _ hrun.symm hma1 hfr1))
  have loop : ∀ (fuel t : Nat) (s : rn_S) (I1 : Nat → Nat → Int32), t + fuel = 3000 → rn_good (fun j => (S j).1) inp s → fs_at I1 s.1 → I1 330 2 = nI (s.1.length - 1) → I1 330 5 = nI s.2.1 → I1 330 7 = s.2.2.1 → I1 330 8 = s.2.2.2 → I1 330 9 = 0 → I1 330 6 = nI t → I1 330 4 = nI inp.length → (∀ q, q < 330 ∨ q = 331 ∨ q = 332 ∨ 345 ≤ q → I1 q = I q) → rn_run (fun j => (S j).1) inp 3000 ([(m, 0, [], ar_v x y z)], 0, 0, 1) = ((rn_run (fun j => (S j).1) inp fuel s).1, t + (rn_run (fun j => (S j).1) inp fuel s).2.1, (rn_run (fun j => (S j).1) inp fuel s).2.2) → gw_Go y_Ma_runToEnd (d + 5) 0 0 47 [some (.ref 330), some (.int (nI m)), some (.int x), some (.int y), some (.int z), some (.int 0)] [] (n, sh, X, R, I1, L) Q := by
    intro fuel
    induction fuel with
    | zero =>
      intro t s I1 ht hg hf h2 h5 h7 h8 h9 h6 h4 hk hrun
      refine go_iload d_Ma_runToEnd_47 rfl ?_
      refine go_if_ne 81 d_Ma_runToEnd_49 rfl (fun hn => absurd hn (fun h => h rfl)) (fun _ => ?_)
      refine go_aload_n 0 d_Ma_runToEnd_52 rfl rfl ?_
      refine go_getI d_Ma_runToEnd_53 f_Ma_30 (by assumption) ?_
      refine go_sipush (v := 3000) d_Ma_runToEnd_56 rfl ?_
      refine go_icmp_ge 81 d_Ma_runToEnd_59 rfl (fun _ => ?_) (fun hn => absurd (by rw [h6, show t = 3000 by omega]; decide) hn)
      exact fin 0 I1 t s.2.2.1 s.2.2.2 0 hk h6 h7 h8 h9 hrun
    | succ fuel ih =>
      intro t s I1 ht hg hf h2 h5 h7 h8 h9 h6 h4 hk hrun
      obtain ⟨fs, u, wd', dp'⟩ := s
      obtain ⟨m', q, st', loc, rest, rfl, hq, hiv, hu⟩ : ∃ m q st loc rest, fs = (m, nI q, st, loc) :: rest ∧ q < (S m).1.length ∧ rn_iv m rest ∧ u ≤ inp.length := hg
      have hc1 : cc_at R I1 S := fun j hj => by obtain ⟨w, hw⟩ := hc j hj; exact ⟨w, hw.kept rfl (fun z a b => hk z (by omega))⟩
      have k1 : ∀ z, z ≠ 330 → va_up I1 330 (va_up (I1 330) 6 (nI (t + 1))) z = I1 z := fun z hz => gw_up_ne hz
      refine go_iload d_Ma_runToEnd_47 rfl ?_
      refine go_if_ne 81 d_Ma_runToEnd_49 rfl (fun hn => absurd hn (fun h => h rfl)) (fun _ => ?_)
      refine go_aload_n 0 d_Ma_runToEnd_52 rfl rfl ?_
      refine go_getI d_Ma_runToEnd_53 f_Ma_30 (by assumption) ?_
      refine go_sipush (v := 3000) d_Ma_runToEnd_56 rfl ?_
      refine go_icmp_ge 81 d_Ma_runToEnd_59 rfl (fun hn => absurd hn (by rw [h6]; exact nI_ge (b := 3000) (by omega) (by decide))) (fun _ => ?_)
      refine go_aload_n 0 d_Ma_runToEnd_62 rfl rfl ?_
      refine go_dup d_Ma_runToEnd_63 rfl ?_
      refine go_getI d_Ma_runToEnd_64 f_Ma_30 (by assumption) ?_
      refine go_iconst (v := 1) d_Ma_runToEnd_67 rfl ?_
      refine go_iadd d_Ma_runToEnd_68 ?_
      rw [show I1 330 6 + 1 = nI (t + 1) by rw [h6, nI_succ]]
      refine go_putI d_Ma_runToEnd_69 f_Ma_30 (by assumption) ?_
      refine go_aload_n 0 d_Ma_runToEnd_72 rfl rfl ?_
      refine go_V0 d_Ma_runToEnd_73 k_Ma_52 (by assumption) (Nat.le_of_ble_eq_true rfl) (c_Ma_step (inp := inp) (u := u) (wd := wd') (dp := dp') hp0 (S := S) (fun j hj => by obtain ⟨w, hw⟩ := hc1 j hj; exact ⟨w, hw.kept rfl (fun z a b => k1 z (by omega))⟩) hq hiv (hf.kept (fun z a b => k1 z (by omega))) (by rw [gw_up_eq, gw_up_ne (by decide)]; exact h2) (by rw [gw_up_eq, gw_up_ne (by decide)]; exact h5) hu (by rw [gw_up_eq, gw_up_ne (by decide)]; exact h4) a6 (fun j v hv => by rw [k1 332 (by decide), hk 332 (by omega)]; exact a7 j v hv) (by rw [gw_up_eq, gw_up_ne (by decide)]; exact h7) (by rw [gw_up_eq, gw_up_ne (by decide)]; exact h8) (fun I2 hI2 => ?_))
      obtain ⟨p1, p2, p3, p4, p5, p6, p7, p8⟩ := hI2
      have k2 : ∀ z, z < 330 ∨ z = 331 ∨ z = 332 ∨ 345 ≤ z → I2 z = I z := fun z hz => by rw [p8 z hz, k1 z (by omega)]; exact hk z hz
      have e6 : I2 330 6 = nI (t + 1) := by rw [p7, gw_up_eq, gw_up_eq]
      have e4 : I2 330 4 = nI inp.length := by rw [p6, gw_up_eq, gw_up_ne (by decide)]; exact h4
      have er : rn_run (fun j => (S j).1) inp (fuel + 1) ((m', nI q, st', loc) :: rest, u, wd', dp') = (let r := rn_step (fun j => (S j).1) inp ((m', nI q, st', loc) :: rest, u, wd', dp'); if r.1 = 0 then (let t := rn_run (fun j => (S j).1) inp fuel r.2.1; (t.1, t.2.1 + 1, t.2.2)) else (r.1, 1, r.2.1.2.2.1, r.2.1.2.2.2, r.2.2)) := rfl
      rw [er] at hrun
      generalize rn_step (fun j => (S j).1) inp ((m', nI q, st', loc) :: rest, u, wd', dp') = rr at p1 p2 p3 p4 p5 hrun ⊢
      by_cases hz : rr.1 = 0
      · obtain ⟨z1, z2, z3, z4⟩ := p1 hz
        dsimp only at hrun
        rw [if_pos hz] at hrun
        rw [hz]
        refine go_istore d_Ma_runToEnd_76 (Nat.le_of_ble_eq_true rfl) ?_
        refine go_goto 47 d_Ma_runToEnd_78 rfl ?_
        exact ih (t + 1) rr.2.1 I2 (by omega) z4 z1 z2 z3 p2 p3 (by rw [(p5 (by rw [hz]; decide)).1, gw_up_eq, gw_up_ne (by decide)]; exact h9) e6 e4 k2 (by rw [hrun]; dsimp only; rw [show t + ((rn_run (fun j => (S j).1) inp fuel rr.2.1).2.1 + 1) = t + 1 + (rn_run (fun j => (S j).1) inp fuel rr.2.1).2.1 by omega])
      dsimp only at hrun
      rw [if_neg hz] at hrun
      have e9 : I2 330 9 = rr.2.2 := by by_cases h1 : rr.1 = 1; exact p4 h1; (obtain ⟨w1, w2⟩ := p5 h1; rw [w1, w2, gw_up_eq, gw_up_ne (by decide)]; exact h9)
      refine go_istore d_Ma_runToEnd_76 (Nat.le_of_ble_eq_true rfl) ?_
      refine go_goto 47 d_Ma_runToEnd_78 rfl ?_
      refine go_iload d_Ma_runToEnd_47 rfl ?_
      refine go_if_ne 81 d_Ma_runToEnd_49 rfl (fun _ => ?_) (fun hn => by first | exact absurd hn (hz) | exact absurd (hz) hn)
      exact fin rr.1 I2 (t + 1) _ _ _ k2 e6 p2 p3 e9 (by rw [if_neg hz]; exact hrun)
  refine gw_call o_Ma_runToEnd (Nat.le_of_ble_eq_true rfl) ?_
  refine go_aload_n 0 d_Ma_runToEnd_0 rfl rfl ?_
  refine go_iconst (v := 0) d_Ma_runToEnd_1 rfl ?_
  refine go_putI d_Ma_runToEnd_2 f_Ma_30 (by assumption) ?_
  refine go_aload_n 0 d_Ma_runToEnd_5 rfl rfl ?_
  refine go_iconst (v := 0) d_Ma_runToEnd_6 rfl ?_
  refine go_putI d_Ma_runToEnd_7 f_Ma_33 (by assumption) ?_
  refine go_aload_n 0 d_Ma_runToEnd_10 rfl rfl ?_
  refine go_iconst (v := 1) d_Ma_runToEnd_11 rfl ?_
  refine go_putI d_Ma_runToEnd_12 f_Ma_36 (by assumption) ?_
  refine go_aload_n 0 d_Ma_runToEnd_15 rfl rfl ?_
  refine go_iconst (v := 0) d_Ma_runToEnd_16 rfl ?_
  refine go_putI d_Ma_runToEnd_17 f_Ma_39 (by assumption) ?_
  refine go_aload_n 0 d_Ma_runToEnd_20 rfl rfl ?_
  refine go_iconst (v := 0) d_Ma_runToEnd_21 rfl ?_
  refine go_putI d_Ma_runToEnd_22 f_Ma_42 (by assumption) ?_
  refine go_aload_n 0 d_Ma_runToEnd_25 rfl rfl ?_
  refine go_iconst (v := 0) d_Ma_runToEnd_26 rfl ?_
  refine go_putI d_Ma_runToEnd_27 f_Ma_45 (by assumption) ?_
  refine go_aload_n 0 d_Ma_runToEnd_30 rfl rfl ?_
  refine go_getR d_Ma_runToEnd_31 f_Ma_11 (by assumption) (by assumption) ?_
  refine go_iconst (v := 0) d_Ma_runToEnd_34 rfl ?_
  refine go_aald (t := 3) (0) d_Ma_runToEnd_35 (by assumption) (by decide) (rfl) (by decide) (by decide) (by assumption) ?_
  refine go_iload_n 1 d_Ma_runToEnd_36 rfl rfl ?_
  refine go_iload_n 2 d_Ma_runToEnd_37 rfl rfl ?_
  refine go_iload_n 3 d_Ma_runToEnd_38 rfl rfl ?_
  refine go_iload d_Ma_runToEnd_39 rfl ?_
  refine go_V4 d_Ma_runToEnd_41 k_Ma_48 (by assumption) (Nat.le_of_ble_eq_true rfl) (c_Fr_enter (m := m) hfo (fun I1 c1 c2 => ?_))
  have e330 := c2 330 (by decide) (by decide)
  refine go_iconst (v := 0) d_Ma_runToEnd_44 rfl ?_
  refine go_istore d_Ma_runToEnd_45 (Nat.le_of_ble_eq_true rfl) ?_
  exact loop 3000 0 ([(m, 0, [], ar_v x y z)], 0, 0, 1) I1 (by omega) ⟨m, 0, [], ar_v x y z, [], rfl, Nat.pos_of_ne_zero hl, hm, Nat.zero_le _⟩ ⟨c1, trivial⟩ (by rw [e330]; simp [va_up]; rfl) (by rw [e330]; simp [va_up]; rfl) (by rw [e330]; simp [va_up]) (by rw [e330]; simp [va_up]) (by rw [e330]; simp [va_up]) (by rw [e330]; simp [va_up]; rfl) (by rw [e330]; simp [va_up]; exact a5) (fun q hq => by rw [c2 q (by omega) (by omega)]; simp [va_up, show q ≠ 330 by omega]) (by simp)
theorem c_CC_run {x a b c st wd mr rt : Int32} {inp : List Int32} (hp : pt_CX sh R) (hc : cc_at R I S) (ha : ma_at I st wd mr rt inp)
    (hf : ¬ (∃ k, k < 4 ∧ x = nI k ∧ (S k).1.length ≠ 0 ∧ ((-1000000 ≤ a ∧ a ≤ 1000000) ∧ (-1000000 ≤ b ∧ b ≤ 1000000) ∧ (-1000000 ≤ c ∧ c ≤ 1000000))) → Q (some (.int (-1))) (n, sh, X, R, I, L))
    (hQ : ∀ k, k < 4 → x = nI k → (S k).1.length ≠ 0 → ((-1000000 ≤ a ∧ a ≤ 1000000) ∧ (-1000000 ≤ b ∧ b ≤ 1000000) ∧ (-1000000 ≤ c ∧ c ≤ 1000000)) → ∀ I' r, r = rn_run (fun j => (S j).1) inp 3000 ([(k, 0, [], ar_v a b c)], 0, 0, 1) → ma_at I' (nI r.2.1) r.2.2.1 r.2.2.2.1 r.2.2.2.2 [] → (∀ q, q < 330 ∨ 345 ≤ q → I' q = I q) → Q (some (.int r.1)) (n, sh, X, R, I', L)) : gw_Call y_CC_run (d + 6) 0 0 [.ref 0, .int x, .int a, .int b, .int c] (n, sh, X, R, I, L) Q := by
  have s0 := hp.1.1
  have r1 := hp.2.1
  have sma := hp.2.2.2.2.2.1
  refine gw_call o_CC_run (Nat.le_of_ble_eq_true rfl) ?_
  refine go_aload_n 0 d_CC_run_0 rfl rfl ?_
  refine go_iload_n 1 d_CC_run_1 rfl rfl ?_
  refine go_V1 d_CC_run_2 k_CC_38 (by assumption) (Nat.le_of_ble_eq_true rfl) (c_CC_methodAt hp.1 (fun hN => ?_) (fun k hk e => ?_))
  · skip
    refine go_astoreN d_CC_run_5 (Nat.le_of_ble_eq_true rfl) ?_
    refine go_aloadN d_CC_run_7 rfl ?_
    refine go_ifnullN 30 d_CC_run_9 rfl ?_
    refine go_iconst (v := (-1)) d_CC_run_30 rfl ?_
    exact go_iret d_CC_run_31 rfl (hf (fun ⟨k, q1, q2, _⟩ => hN ⟨k, q1, q2⟩))
  · subst e
    obtain ⟨w, g1, g2, g3, g4⟩ := hc k hk
    have sm := (hp.1.2.2.2 k hk).2.1
    have gl := g2.2.1
    refine go_astore d_CC_run_5 (Nat.le_of_ble_eq_true rfl) ?_
    refine go_aload d_CC_run_7 rfl ?_
    refine go_ifnull d_CC_run_9 ?_
    refine go_aload d_CC_run_12 rfl ?_
    refine go_getI d_CC_run_14 f_CC_54 (by assumption) ?_
    rw [g2.1]
    refine go_if_eq 30 d_CC_run_17 rfl (fun h17 => ?_) (fun h17 => ?_)
    · refine go_iconst (v := (-1)) d_CC_run_30 rfl ?_
      first | exact go_iret d_CC_run_31 rfl (hf (fun ⟨k', q1, q2, q3, q4⟩ => by rw [hb2.mpr q4] at h27; exact absurd h27 (by decide))) | exact go_iret d_CC_run_31 rfl (hf (fun ⟨k', q1, q2, q3, q4⟩ => by have e := (nI_eq (by omega) (by omega)).mp q2; subst e; exact absurd h17 (nI_ne0 (Nat.pos_of_ne_zero q3) (by omega))))
    · refine go_iload_n 2 d_CC_run_20 rfl rfl ?_
      refine go_iload_n 3 d_CC_run_21 rfl rfl ?_
      refine go_iload d_CC_run_22 rfl ?_
      refine go_S3 d_CC_run_24 k_CC_100 (Nat.le_of_ble_eq_true rfl) (c_CC_areValues (fun b2 hb2 => ?_))
      refine go_if_ne 32 d_CC_run_27 rfl (fun h27 => ?_) (fun h27 => ?_)
      · have hlen : (S k).1.length ≠ 0 := fun e => h17 (by rw [e]; rfl)
        have hval := hb2.mp (bI_n0.mp h27)
        refine go_aload_n 0 d_CC_run_32 rfl rfl ?_
        refine go_getR d_CC_run_33 f_CC_23 (by assumption) (by assumption) ?_
        refine go_iload_n 1 d_CC_run_36 rfl rfl ?_
        refine go_iload_n 2 d_CC_run_37 rfl rfl ?_
        refine go_iload_n 3 d_CC_run_38 rfl rfl ?_
        refine go_iload d_CC_run_39 rfl ?_
        refine go_V4 d_CC_run_41 k_CC_130 (by assumption) (Nat.le_of_ble_eq_true rfl) (c_Ma_runToEnd hp hc hk hlen ha (fun I' r hr h1 h2 => ?_))
        exact go_iret d_CC_run_44 rfl (hQ k hk rfl hlen hval I' r hr h1 h2)
      · refine go_iconst (v := (-1)) d_CC_run_30 rfl ?_
        first | exact go_iret d_CC_run_31 rfl (hf (fun ⟨k', q1, q2, q3, q4⟩ => by rw [hb2.mpr q4] at h27; exact absurd h27 (by decide))) | exact go_iret d_CC_run_31 rfl (hf (fun ⟨k', q1, q2, q3, q4⟩ => by have e := (nI_eq (by omega) (by omega)).mp q2; subst e; exact absurd h17 (nI_ne0 (Nat.pos_of_ne_zero q3) (by omega))))
end RV
