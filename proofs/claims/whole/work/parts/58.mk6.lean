/-! constructor of Checker -/
theorem pt_Pa.moved {sh sh' : Nat → Nat × Nat} {R R' : Nat → Nat → Option Nat} {o : Nat} (h : pt_Pa sh R o) (hq : ∀ q, o ≤ q → q < o + 13 → sh' q = sh q ∧ R' q = R q) : pt_Pa sh' R' o := by
  obtain ⟨s0, s1, s4, s5, s6, s8, s9, s11, r0, r1, r2, r6, r7, r80, r81⟩ := h
  exact ⟨by rw [(hq _ (by omega) (by omega)).1]; exact s0, s1.moved (fun q a b => hq q (by omega) (by omega)), by rw [(hq _ (by omega) (by omega)).1]; exact s4, by rw [(hq _ (by omega) (by omega)).1]; exact s5, s6.moved (fun q a b => hq q (by omega) (by omega)), by rw [(hq _ (by omega) (by omega)).1]; exact s8, s9.moved (fun q a b => hq q (by omega) (by omega)), s11.moved (fun q a b => hq q (by omega) (by omega)), by rw [(hq _ (by omega) (by omega)).2]; exact r0, by rw [(hq _ (by omega) (by omega)).2]; exact r1, by rw [(hq _ (by omega) (by omega)).2]; exact r2, by rw [(hq _ (by omega) (by omega)).2]; exact r6, by rw [(hq _ (by omega) (by omega)).2]; exact r7, by rw [(hq _ (by omega) (by omega)).2]; exact r80, by rw [(hq _ (by omega) (by omega)).2]; exact r81⟩
section MK
variable {d : Nat} {sh : Nat → Nat × Nat} {X : Nat × (Nat → Int32)} {R : Nat → Nat → Option Nat} {I : Nat → Nat → Int32} {L : Nat → Nat → Int64} {Q : Option Value → gw_Mem → Prop}
theorem c_Ch_init {o p m0 : Nat} (s0 : sh o = (0, 6)) (sp : sh p = (0 + 4, 4)) (hp : p < o) (hp0 : R p 0 = some m0) (hm0 : m0 < o) (sm0 : sh m0 = (0, 1)) (hm : o < 800000) (hQ : ∀ sh' R' I' L', sh' o = (0, 6) → sh' (o + 1) = (4 + 4, 14) → pt_Sy sh' R' (o + 2) → R' o 0 = some p → R' o 2 = some (o + 1) → R' o 3 = some (o + 2) → (∀ j, j < 14 → R' (o + 1) j = some (o + 5 + 13 * j) ∧ pt_Pa sh' R' (o + 5 + 13 * j)) → mk_fr o sh sh' R R' I I' L L' → Q none (o + 187, sh', X, R', I', L')) : gw_Call y_Ch_init (d + 3) 186 1622 [.ref o, .ref p] (o + 1, sh, X, R, I, L) Q := by
  refine gw_call o_Ch_init (Nat.le_of_ble_eq_true rfl) ?_
  have loop : ∀ (r i : Nat) (x : Int32) (sh1 : Nat → Nat × Nat) (R1 : Nat → Nat → Option Nat) (I1 : Nat → Nat → Int32) (L1 : Nat → Nat → Int64), x = nI i → i + r = 14 → sh1 o = (0, 6) → sh1 (o + 1) = (4 + 4, 14) → pt_Sy sh1 R1 (o + 2) → R1 o 0 = some p → R1 o 2 = some (o + 1) → R1 o 3 = some (o + 2) → (∀ j, j < i → R1 (o + 1) j = some (o + 5 + 13 * j) ∧ pt_Pa sh1 R1 (o + 5 + 13 * j)) → mk_fr o sh sh1 R R1 I I1 L L1 → gw_Go y_Ch_init (d + 3) (13 * r) (114 * r) 38 [some (.ref o), some (.ref p), some (.int x)] [] (o + 5 + 13 * i, sh1, X, R1, I1, L1) Q := by
    intro r
    induction r with
    | zero =>
      intro i x sh1 R1 I1 L1 hx hr a0 a1 a2 b0 b2 b3 hj hfr
      have hi : i = 14 := by omega
      subst hi
      refine go_iload_n 2 d_Ch_init_38 rfl rfl ?_
      refine go_bipush (v := 14) d_Ch_init_39 rfl ?_
      refine go_icmp_ge 63 d_Ch_init_41 rfl (fun _ => ?_) (fun hn => absurd (by rw [hx]; decide) hn)
      exact go_vret d_Ch_init_63 rfl (hQ sh1 R1 I1 L1 a0 a1 a2 b0 b2 b3 hj hfr)
    | succ r ih =>
      intro i x sh1 R1 I1 L1 hx hr a0 a1 a2 b0 b2 b3 hj hfr
      rw [show 13 * (r + 1) = 13 * r + 12 + 1 by omega, show 114 * (r + 1) = 114 * r + 106 + gw_N 7 by show _ = 114 * r + 106 + 8; omega]
      refine go_iload_n 2 d_Ch_init_38 rfl rfl ?_
      refine go_bipush (v := 14) d_Ch_init_39 rfl ?_
      refine go_icmp_ge 63 d_Ch_init_41 rfl (fun hn => absurd hn (by rw [hx]; exact nI_ge (b := 14) (by omega) (by decide))) (fun _ => ?_)
      refine go_aload_n 0 d_Ch_init_44 rfl rfl ?_
      refine go_getR d_Ch_init_45 f_Ch_11 (by assumption) (by assumption) ?_
      refine go_iload_n 2 d_Ch_init_48 rfl rfl ?_
      refine go_new d_Ch_init_49 c_Ch_9 gw_k2Pa (by omega) ?_
      refine go_dup d_Ch_init_52 rfl ?_
      refine go_I0 d_Ch_init_53 k_Ch_32 (Nat.le_of_ble_eq_true rfl) (c_Pa_init (by rw [gw_up_eq]) (by omega) (fun sh2 R2 I2 L2 k1 k3 => ?_))
      have f : ∀ q, q < o + 5 + 13 * i → sh2 q = sh1 q ∧ R2 q = R1 q ∧ I2 q = I1 q ∧ L2 q = L1 q := fun q hq => by obtain ⟨u1, u2, u3, u4⟩ := k3 q hq; exact ⟨by rw [u1, gw_up_ne (by omega)], by rw [u2, gw_up_ne (by omega)], by rw [u3, gw_up_ne (by omega)], by rw [u4, gw_up_ne (by omega)]⟩
      have a1' : sh2 (o + 1) = (4 + 4, 14) := by rw [(f _ (by omega)).1]; exact a1
      have ap : sh2 (o + 5 + 13 * i) = (0, 7) := k1.1
      refine go_aast (t := 4) (ci := 7) (i) d_Ch_init_56 (by assumption) (by decide) rfl rfl (by assumption) (hx) (by omega) (by decide) ?_
      refine go_iinc d_Ch_init_57 rfl rfl (Nat.le_of_ble_eq_true rfl) ?_
      refine go_goto 38 d_Ch_init_60 rfl ?_
      exact ih (i + 1) _ sh2 _ I2 L2 (gw_inc hx) (by omega) (by rw [(f _ (by omega)).1]; exact a0) a1' (a2.moved (fun q h1 h2 => ⟨(f q (by omega)).1, by rw [gw_up_ne (by omega), (f q (by omega)).2.1]⟩)) (by rw [gw_up_ne (by omega), (f _ (by omega)).2.1]; exact b0) (by rw [gw_up_ne (by omega), (f _ (by omega)).2.1]; exact b2) (by rw [gw_up_ne (by omega), (f _ (by omega)).2.1]; exact b3) (fun j hj2 => by by_cases he : j = i; (subst he; exact ⟨by rw [gw_up_eq, gw_up_eq], k1.moved (fun q h1 h2 => ⟨rfl, gw_up_ne (by omega)⟩)⟩); (obtain ⟨u1, u2⟩ := hj j (by omega); exact ⟨by rw [gw_up_eq, gw_up_ne he, (f _ (by omega)).2.1]; exact u1, u2.moved (fun q h1 h2 => ⟨(f q (by omega)).1, by rw [gw_up_ne (by omega), (f q (by omega)).2.1]⟩)⟩)) (fun q hq => by obtain ⟨v1, v2, v3, v4⟩ := hfr q hq; obtain ⟨u1, u2, u3, u4⟩ := f q (by omega); exact ⟨by rw [u1, v1], by rw [gw_up_ne (by omega), u2, v2], by rw [u3, v3], by rw [u4, v4]⟩)
  obtain ⟨r, hr⟩ : ∃ r : Nat, r = 14 := ⟨14, rfl⟩
  have t1 : va_up sh (o + 1) (4 + 4, 14) o = (0, 6) := by simp (disch := omega) only [Nat.add_assoc, Nat.reduceAdd, gw_up_eq, gw_up_ne, ne_eq, not_false_eq_true]; exact s0
  rw [show (186 : Nat) = 13 * r + 2 + 1 + 1 by omega, show (1622 : Nat) = 114 * r + 10 + gw_N 8 + 14 by subst hr; rfl]
  refine go_aload_n 0 d_Ch_init_0 rfl rfl ?_
  refine go_obj d_Ch_init_1 j_Ch_3 gw_jo1 gw_jo2 (Nat.le_of_ble_eq_true rfl) ?_
  refine go_aload_n 0 d_Ch_init_4 rfl rfl ?_
  refine go_bipush (v := 14) d_Ch_init_5 rfl ?_
  refine go_newq (t := 4) (len := 14) d_Ch_init_7 e_Ch_9 v_Pa (by decide) rfl rfl (by decide) (by omega) ?_
  refine go_putFR d_Ch_init_10 f_Ch_11 rfl rfl (by assumption) ?_
  refine go_aload_n 0 d_Ch_init_13 rfl rfl ?_
  refine go_new d_Ch_init_14 c_Ch_17 gw_k2Sy (by omega) ?_
  refine go_dup d_Ch_init_17 rfl ?_
  rw [show 13 * r + 2 = 13 * r + 2 from rfl]
  refine go_I0 d_Ch_init_18 k_Ch_19 (Nat.le_of_ble_eq_true rfl) (c_Sy_init (o := o + 1 + 1) (d := d + 1) gw_up_eq (by omega) (fun sh2 R2 I2 L2 k1 k2 => ?_))
  have f2 : ∀ q, q < o + 1 → q ≠ o → sh2 q = sh q ∧ R2 q = R q ∧ I2 q = I q ∧ L2 q = L q := fun q hq hq2 => by obtain ⟨u1, u2, u3, u4⟩ := k2 q (by omega); exact ⟨by rw [u1]; simp (disch := omega) only [Nat.add_assoc, Nat.reduceAdd, gw_up_eq, gw_up_ne, ne_eq, not_false_eq_true], by rw [u2]; simp (disch := omega) only [Nat.add_assoc, Nat.reduceAdd, gw_up_eq, gw_up_ne, ne_eq, not_false_eq_true], by rw [u3]; simp (disch := omega) only [Nat.add_assoc, Nat.reduceAdd, gw_up_eq, gw_up_ne, ne_eq, not_false_eq_true], by rw [u4]; simp (disch := omega) only [Nat.add_assoc, Nat.reduceAdd, gw_up_eq, gw_up_ne, ne_eq, not_false_eq_true]⟩
  have w0 : sh2 o = (0, 6) := by rw [(k2 o (by omega)).1, gw_up_ne (by omega)]; exact t1
  have w1 : sh2 (o + 1 + 1) = (0, 8) := k1.1
  have w2 : sh2 p = (0 + 4, 4) := by rw [(f2 p (by omega) (by omega)).1]; exact sp
  have w3 : sh2 m0 = (0, 1) := by rw [(f2 m0 (by omega) (by omega)).1]; exact sm0
  refine go_putFR d_Ch_init_21 f_Ch_20 rfl rfl (by assumption) ?_
  refine go_aload_n 0 d_Ch_init_24 rfl rfl ?_
  refine go_aload_n 1 d_Ch_init_25 rfl rfl ?_
  refine go_putFR d_Ch_init_26 f_Ch_24 rfl rfl (by assumption) ?_
  refine go_aload_n 0 d_Ch_init_29 rfl rfl ?_
  refine go_aload_n 1 d_Ch_init_30 rfl rfl ?_
  refine go_iconst (v := 0) d_Ch_init_31 rfl ?_
  have w4 : va_up (va_up R2 o (va_up (R2 o) 3 (some (o + 1 + 1)))) o (va_up (va_up R2 o (va_up (R2 o) 3 (some (o + 1 + 1))) o) 0 (some p)) p 0 = some m0 := by rw [gw_up_ne (by omega), gw_up_ne (by omega), (f2 p (by omega) (by omega)).2.1]; exact hp0
  refine go_aald (t := 0) (0) d_Ch_init_32 (by assumption) (by decide) (rfl) (by decide) (by decide) (by assumption) ?_
  refine go_putR d_Ch_init_33 f_Ch_28 (by assumption) ?_
  refine go_iconst (v := 0) d_Ch_init_36 rfl ?_
  refine go_istore_n 2 d_Ch_init_37 rfl (Nat.le_of_ble_eq_true rfl) ?_
  have g1 : sh2 (o + 1) = (4 + 4, 14) := by rw [(k2 _ (by omega)).1]; simp (disch := omega) only [Nat.add_assoc, Nat.reduceAdd, gw_up_eq, gw_up_ne, ne_eq, not_false_eq_true]
  have g2 : R2 o 2 = some (o + 1) := by rw [(k2 _ (by omega)).2.1]; simp (disch := omega) only [Nat.add_assoc, Nat.reduceAdd, gw_up_eq, gw_up_ne, ne_eq, not_false_eq_true]
  refine loop r 0 _ _ _ _ _ rfl (by omega) w0 g1 (k1.moved (fun q h1 h2 => ⟨rfl, ?_⟩)) ?_ ?_ ?_ (fun j hj => by omega) (fun q hq => ⟨(f2 q (by omega) (by omega)).1, ?_, (f2 q (by omega) (by omega)).2.2.1, (f2 q (by omega) (by omega)).2.2.2⟩)
  · simp (disch := omega) only [Nat.add_assoc, Nat.reduceAdd, gw_up_eq, gw_up_ne, ne_eq, not_false_eq_true]
  · simp (disch := omega) only [Nat.add_assoc, Nat.reduceAdd, gw_up_eq, gw_up_ne, ne_eq, not_false_eq_true]
  · simp (disch := omega) only [Nat.add_assoc, Nat.reduceAdd, gw_up_eq, gw_up_ne, ne_eq, not_false_eq_true]; exact g2
  · simp (disch := omega) only [Nat.add_assoc, Nat.reduceAdd, gw_up_eq, gw_up_ne, ne_eq, not_false_eq_true]
  · simp (disch := omega) only [Nat.add_assoc, Nat.reduceAdd, gw_up_eq, gw_up_ne, ne_eq, not_false_eq_true]; exact (f2 q (by omega) (by omega)).2.1
end MK
