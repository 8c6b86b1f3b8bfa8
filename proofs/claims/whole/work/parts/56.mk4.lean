/-! constructor of Path -/
theorem pt_Sy.moved {sh sh' : Nat → Nat × Nat} {R R' : Nat → Nat → Option Nat} {o : Nat} (h : pt_Sy sh R o) (hq : ∀ q, o ≤ q → q < o + 3 → sh' q = sh q ∧ R' q = R q) : pt_Sy sh' R' o := by
  unfold pt_Sy
  rw [(hq o (by omega) (by omega)).1, (hq o (by omega) (by omega)).2, (hq (o + 1) (by omega) (by omega)).1, (hq (o + 2) (by omega) (by omega)).1]
  exact h
theorem pt_Kn.moved {sh sh' : Nat → Nat × Nat} {R R' : Nat → Nat → Option Nat} {o : Nat} (h : pt_Kn sh R o) (hq : ∀ q, o ≤ q → q < o + 2 → sh' q = sh q ∧ R' q = R q) : pt_Kn sh' R' o := by
  unfold pt_Kn
  rw [(hq o (by omega) (by omega)).1, (hq o (by omega) (by omega)).2, (hq (o + 1) (by omega) (by omega)).1]
  exact h
theorem pt_Ba.moved {sh sh' : Nat → Nat × Nat} {R R' : Nat → Nat → Option Nat} {o : Nat} (h : pt_Ba sh R o) (hq : ∀ q, o ≤ q → q < o + 2 → sh' q = sh q ∧ R' q = R q) : pt_Ba sh' R' o := by
  unfold pt_Ba
  rw [(hq o (by omega) (by omega)).1, (hq o (by omega) (by omega)).2, (hq (o + 1) (by omega) (by omega)).1]
  exact h
section MK
variable {d : Nat} {sh : Nat → Nat × Nat} {X : Nat × (Nat → Int32)} {R : Nat → Nat → Option Nat} {I : Nat → Nat → Int32} {L : Nat → Nat → Int64} {Q : Option Value → gw_Mem → Prop}
set_option maxRecDepth 8000 in
theorem c_Pa_init {o : Nat} (s0 : sh o = (0, 7)) (hm : o < 900000) (hQ : ∀ sh' R' I' L', pt_Pa sh' R' o → mk_fr o sh sh' R R' I I' L L' → Q none (o + 13, sh', X, R', I', L')) : gw_Call y_Pa_init (d + 2) 12 106 [.ref o] (o + 1, sh, X, R, I, L) Q := by
  refine gw_call o_Pa_init (Nat.le_of_ble_eq_true rfl) ?_
  have loop : ∀ (r i : Nat) (x : Int32) (sh1 : Nat → Nat × Nat) (R1 : Nat → Nat → Option Nat) (I1 : Nat → Nat → Int32) (L1 : Nat → Nat → Int64), x = nI i → i + r = 2 → sh1 o = (0, 7) → pt_Sy sh1 R1 (o + 1) → sh1 (o + 4) = (1, 6) → sh1 (o + 5) = (2, 6) → pt_Kn sh1 R1 (o + 6) → sh1 (o + 8) = (5 + 4, 2) → R1 o 0 = some (o + 1) → R1 o 1 = some (o + 4) → R1 o 2 = some (o + 5) → R1 o 6 = some (o + 6) → R1 o 7 = some (o + 8) → (∀ j, j < i → R1 (o + 8) j = some (o + 9 + 2 * j) ∧ pt_Ba sh1 R1 (o + 9 + 2 * j)) → mk_fr o sh sh1 R R1 I I1 L L1 → gw_Go y_Pa_init (d + 2) (2 * r) (27 * r) 52 [some (.ref o), some (.int x)] [] (o + 9 + 2 * i, sh1, X, R1, I1, L1) Q := by
    intro r
    induction r with
    | zero =>
      intro i x sh1 R1 I1 L1 hx hr a0 a1 a4 a5 a6 a8 b0 b1 b2 b6 b7 hj hfr
      have hi : i = 2 := by omega
      subst hi
      obtain ⟨e1, e2⟩ := hj 0 (by decide)
      obtain ⟨e4, e5⟩ := hj 1 (by decide)
      refine go_iload_n 1 d_Pa_init_52 rfl rfl ?_
      refine go_iconst (v := 2) d_Pa_init_53 rfl ?_
      refine go_icmp_ge 76 d_Pa_init_54 rfl (fun _ => ?_) (fun hn => absurd (by rw [hx]; decide) hn)
      exact go_vret d_Pa_init_76 rfl (hQ sh1 R1 I1 L1 ⟨a0, a1, a4, a5, a6, a8, e2, e5, b0, b1, b2, b6, b7, e1, e4⟩ hfr)
    | succ r ih =>
      intro i x sh1 R1 I1 L1 hx hr a0 a1 a4 a5 a6 a8 b0 b1 b2 b6 b7 hj hfr
      rw [show 2 * (r + 1) = 2 * r + 1 + 1 by omega, show 27 * (r + 1) = 27 * r + 25 + gw_N 10 by show _ = 27 * r + 25 + 2; omega]
      refine go_iload_n 1 d_Pa_init_52 rfl rfl ?_
      refine go_iconst (v := 2) d_Pa_init_53 rfl ?_
      refine go_icmp_ge 76 d_Pa_init_54 rfl (fun hn => absurd hn (by rw [hx]; exact nI_ge (b := 2) (by omega) (by decide))) (fun _ => ?_)
      refine go_aload_n 0 d_Pa_init_57 rfl rfl ?_
      refine go_getR d_Pa_init_58 f_Pa_35 (by assumption) (by assumption) ?_
      refine go_iload_n 1 d_Pa_init_61 rfl rfl ?_
      refine go_new d_Pa_init_62 c_Pa_33 gw_k2Ba (by omega) ?_
      refine go_dup d_Pa_init_65 rfl ?_
      refine go_I0 d_Pa_init_66 k_Pa_39 (Nat.le_of_ble_eq_true rfl) (c_Ba_init (by rw [gw_up_eq]) (by omega) (fun sh2 R2 I2 L2 k1 k3 => ?_))
      have f : ∀ q, q < o + 9 + 2 * i → sh2 q = sh1 q ∧ R2 q = R1 q ∧ I2 q = I1 q ∧ L2 q = L1 q := fun q hq => by obtain ⟨u1, u2, u3, u4⟩ := k3 q hq; exact ⟨by rw [u1, gw_up_ne (by omega)], by rw [u2, gw_up_ne (by omega)], by rw [u3, gw_up_ne (by omega)], by rw [u4, gw_up_ne (by omega)]⟩
      have a8' : sh2 (o + 8) = (5 + 4, 2) := by rw [(f _ (by omega)).1]; exact a8
      have ap : sh2 (o + 9 + 2 * i) = (0, 10) := k1.1
      refine go_aast (t := 5) (ci := 10) (i) d_Pa_init_69 (by assumption) (by decide) rfl rfl (by assumption) (hx) (by omega) (by decide) ?_
      refine go_iinc d_Pa_init_70 rfl rfl (Nat.le_of_ble_eq_true rfl) ?_
      refine go_goto 52 d_Pa_init_73 rfl ?_
      exact ih (i + 1) _ sh2 _ I2 L2 (gw_inc hx) (by omega) (by rw [(f _ (by omega)).1]; exact a0) (a1.moved (fun q h1 h2 => ⟨(f q (by omega)).1, by rw [gw_up_ne (by omega), (f q (by omega)).2.1]⟩)) (by rw [(f _ (by omega)).1]; exact a4) (by rw [(f _ (by omega)).1]; exact a5) (a6.moved (fun q h1 h2 => ⟨(f q (by omega)).1, by rw [gw_up_ne (by omega), (f q (by omega)).2.1]⟩)) a8' (by rw [gw_up_ne (by omega), (f _ (by omega)).2.1]; exact b0) (by rw [gw_up_ne (by omega), (f _ (by omega)).2.1]; exact b1) (by rw [gw_up_ne (by omega), (f _ (by omega)).2.1]; exact b2) (by rw [gw_up_ne (by omega), (f _ (by omega)).2.1]; exact b6) (by rw [gw_up_ne (by omega), (f _ (by omega)).2.1]; exact b7) (fun j hj2 => by by_cases he : j = i; (subst he; exact ⟨by rw [gw_up_eq, gw_up_eq], k1.moved (fun q h1 h2 => ⟨rfl, gw_up_ne (by omega)⟩)⟩); (obtain ⟨u1, u2⟩ := hj j (by omega); exact ⟨by rw [gw_up_eq, gw_up_ne he, (f _ (by omega)).2.1]; exact u1, u2.moved (fun q h1 h2 => ⟨(f q (by omega)).1, by rw [gw_up_ne (by omega), (f q (by omega)).2.1]⟩)⟩)) (fun q hq => by obtain ⟨v1, v2, v3, v4⟩ := hfr q hq; obtain ⟨u1, u2, u3, u4⟩ := f q (by omega); exact ⟨by rw [u1, v1], by rw [gw_up_ne (by omega), u2, v2], by rw [u3, v3], by rw [u4, v4]⟩)
  obtain ⟨r, hr⟩ : ∃ r : Nat, r = 2 := ⟨2, rfl⟩
  rw [show (12 : Nat) = 2 * r + 1 + 1 + 1 + 1 + 1 + 2 + 1 by omega, show (106 : Nat) = 27 * r + 2 + 25 + 1 + 6 + 6 + 10 + gw_N 8 by subst hr; rfl]
  refine go_aload_n 0 d_Pa_init_0 rfl rfl ?_
  refine go_obj d_Pa_init_1 j_Pa_3 gw_jo1 gw_jo2 (Nat.le_of_ble_eq_true rfl) ?_
  refine go_aload_n 0 d_Pa_init_4 rfl rfl ?_
  refine go_new d_Pa_init_5 c_Pa_9 gw_k2Sy (by omega) ?_
  refine go_dup d_Pa_init_8 rfl ?_
  rw [show 2 * r + 7 = 2 * r + 5 + 2 by omega]
  refine go_I0 d_Pa_init_9 k_Pa_11 (Nat.le_of_ble_eq_true rfl) (c_Sy_init (o := o + 1) (d := d) gw_up_eq (by omega) (fun sh2 R2 I2 L2 k1 k2 => ?_))
  have f2 : ∀ q, q < o + 1 → sh2 q = sh q ∧ R2 q = R q ∧ I2 q = I q ∧ L2 q = L q := fun q hq => by obtain ⟨u1, u2, u3, u4⟩ := k2 q hq; exact ⟨by rw [u1, gw_up_ne (by omega)], by rw [u2, gw_up_ne (by omega)], by rw [u3, gw_up_ne (by omega)], by rw [u4, gw_up_ne (by omega)]⟩
  have w0 : sh2 o = (0, 7) := by rw [(f2 o (by omega)).1]; exact s0
  have w1 : sh2 (o + 1) = (0, 8) := k1.1
  refine go_putFR d_Pa_init_12 f_Pa_12 rfl rfl (by assumption) ?_
  refine go_aload_n 0 d_Pa_init_15 rfl rfl ?_
  refine go_bipush (v := 6) d_Pa_init_16 rfl ?_
  refine go_newI (len := 6) d_Pa_init_18 gw_aI rfl (by decide) (by omega) ?_
  have w2 : va_up sh2 (o + 1 + 3) (1, 6) o = (0, 7) := by simp (disch := omega) only [Nat.add_assoc, Nat.reduceAdd, gw_up_eq, gw_up_ne, ne_eq, not_false_eq_true]; exact w0
  refine go_putFR d_Pa_init_20 f_Pa_18 rfl rfl (by assumption) ?_
  refine go_aload_n 0 d_Pa_init_23 rfl rfl ?_
  refine go_bipush (v := 6) d_Pa_init_24 rfl ?_
  refine go_newL (len := 6) d_Pa_init_26 gw_aL rfl (by decide) (by omega) ?_
  have w3 : va_up (va_up sh2 (o + 1 + 3) (1, 6)) (o + 1 + 3 + 1) (2, 6) o = (0, 7) := by simp (disch := omega) only [Nat.add_assoc, Nat.reduceAdd, gw_up_eq, gw_up_ne, ne_eq, not_false_eq_true]; exact w0
  refine go_putFR d_Pa_init_28 f_Pa_22 rfl rfl (by assumption) ?_
  refine go_aload_n 0 d_Pa_init_31 rfl rfl ?_
  rw [show 27 * r + 28 = 27 * r + 27 + gw_N 9 from rfl]
  refine go_new d_Pa_init_32 c_Pa_26 gw_k2Kn (by omega) ?_
  refine go_dup d_Pa_init_35 rfl ?_
  rw [show 27 * r + 27 = 27 * r + 2 + 25 by omega, show 2 * r + 2 = 2 * r + 1 + 1 by omega]
  refine go_I0 d_Pa_init_36 k_Pa_28 (Nat.le_of_ble_eq_true rfl) (c_Kn_init (o := o + 1 + 3 + 1 + 1) (d := d) gw_up_eq (by omega) (fun sh3 R3 I3 L3 k3 k4 => ?_))
  have w4 : sh3 o = (0, 7) := by rw [(k4 o (by omega)).1, gw_up_ne (by omega)]; exact w3
  have w5 : sh3 (o + 1 + 3 + 1 + 1) = (0, 9) := k3.1
  refine go_putFR d_Pa_init_39 f_Pa_29 rfl rfl (by assumption) ?_
  refine go_aload_n 0 d_Pa_init_42 rfl rfl ?_
  refine go_iconst (v := 2) d_Pa_init_43 rfl ?_
  refine go_newq (t := 5) (len := 2) d_Pa_init_44 e_Pa_33 v_Ba (by decide) rfl rfl (by decide) (by omega) ?_
  have w6 : va_up sh3 (o + 1 + 3 + 1 + 1 + 2) (5 + 4, 2) o = (0, 7) := by rw [gw_up_ne (by omega)]; exact w4
  refine go_putFR d_Pa_init_47 f_Pa_35 rfl rfl (by assumption) ?_
  refine go_iconst (v := 0) d_Pa_init_50 rfl ?_
  refine go_istore_n 1 d_Pa_init_51 rfl (Nat.le_of_ble_eq_true rfl) ?_
  have g : ∀ q, q < o + 6 → sh3 q = _ ∧ R3 q = _ := fun q hq => ⟨(k4 q hq).1, (k4 q hq).2.1⟩
  refine loop r 0 _ _ _ _ _ rfl (by omega) w6 (k1.moved (fun q h1 h2 => ⟨?_, ?_⟩)) ?_ ?_ (k3.moved (fun q h1 h2 => ⟨?_, ?_⟩)) ?_ ?_ ?_ ?_ ?_ ?_ (fun j hj => by omega) (fun q hq => ⟨?_, ?_, ?_, ?_⟩)
  · rw [gw_up_ne (by omega), (g q (by omega)).1]; simp (disch := omega) only [Nat.add_assoc, Nat.reduceAdd, gw_up_eq, gw_up_ne, ne_eq, not_false_eq_true]
  · rw [gw_up_ne (by omega), gw_up_ne (by omega), gw_up_ne (by omega), (g q (by omega)).2]; simp (disch := omega) only [Nat.add_assoc, Nat.reduceAdd, gw_up_eq, gw_up_ne, ne_eq, not_false_eq_true]
  · rw [gw_up_ne (by omega), (g _ (by omega)).1]; simp (disch := omega) only [Nat.add_assoc, Nat.reduceAdd, gw_up_eq, gw_up_ne, ne_eq, not_false_eq_true]
  · rw [gw_up_ne (by omega), (g _ (by omega)).1]; simp (disch := omega) only [Nat.add_assoc, Nat.reduceAdd, gw_up_eq, gw_up_ne, ne_eq, not_false_eq_true]
  · rw [gw_up_ne (by omega)]
  · rw [gw_up_ne (by omega), gw_up_ne (by omega), gw_up_ne (by omega)]
  · simp (disch := omega) only [Nat.add_assoc, Nat.reduceAdd, gw_up_eq, gw_up_ne, ne_eq, not_false_eq_true]
  · rw [gw_up_eq, gw_up_ne (by decide), gw_up_ne (by omega), gw_up_eq, gw_up_ne (by decide), (g _ (by omega)).2]; simp (disch := omega) only [Nat.add_assoc, Nat.reduceAdd, gw_up_eq, gw_up_ne, ne_eq, not_false_eq_true]
  · rw [gw_up_eq, gw_up_ne (by decide), gw_up_ne (by omega), gw_up_eq, gw_up_ne (by decide), (g _ (by omega)).2]; simp (disch := omega) only [Nat.add_assoc, Nat.reduceAdd, gw_up_eq, gw_up_ne, ne_eq, not_false_eq_true]
  · rw [gw_up_eq, gw_up_ne (by decide), gw_up_ne (by omega), gw_up_eq, gw_up_ne (by decide), (g _ (by omega)).2]; simp (disch := omega) only [Nat.add_assoc, Nat.reduceAdd, gw_up_eq, gw_up_ne, ne_eq, not_false_eq_true]
  · rw [gw_up_eq, gw_up_ne (by decide), gw_up_ne (by omega), gw_up_eq, gw_up_eq]
  · rw [gw_up_eq, gw_up_eq]
  · rw [gw_up_ne (by omega), (k4 q (by omega)).1]; simp (disch := omega) only [Nat.add_assoc, Nat.reduceAdd, gw_up_eq, gw_up_ne, ne_eq, not_false_eq_true]; exact (f2 q (by omega)).1
  · rw [gw_up_ne (by omega), gw_up_ne (by omega), gw_up_ne (by omega), (k4 q (by omega)).2.1]; simp (disch := omega) only [Nat.add_assoc, Nat.reduceAdd, gw_up_eq, gw_up_ne, ne_eq, not_false_eq_true]; exact (f2 q (by omega)).2.1
  · rw [gw_up_ne (by omega), (k4 q (by omega)).2.2.1]; simp (disch := omega) only [Nat.add_assoc, Nat.reduceAdd, gw_up_eq, gw_up_ne, ne_eq, not_false_eq_true]; exact (f2 q (by omega)).2.2.1
  · rw [gw_up_ne (by omega), (k4 q (by omega)).2.2.2]; simp (disch := omega) only [Nat.add_assoc, Nat.reduceAdd, gw_up_eq, gw_up_ne, ne_eq, not_false_eq_true]; exact (f2 q (by omega)).2.2.2
end MK
