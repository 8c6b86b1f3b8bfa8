/-! constructor of Cut -/
theorem pt_Po.moved {sh sh' : Nat → Nat × Nat} {R R' : Nat → Nat → Option Nat} {o : Nat} (h : pt_Po sh R o) (hq : ∀ q, o ≤ q → q < o + 4 → sh' q = sh q ∧ R' q = R q) : pt_Po sh' R' o := by
  unfold pt_Po
  rw [(hq o (by omega) (by omega)).1, (hq o (by omega) (by omega)).2, (hq (o + 1) (by omega) (by omega)).1, (hq (o + 2) (by omega) (by omega)).1, (hq (o + 3) (by omega) (by omega)).1]
  exact h
section MK
variable {d : Nat} {sh : Nat → Nat × Nat} {X : Nat × (Nat → Int32)} {R : Nat → Nat → Option Nat} {I : Nat → Nat → Int32} {L : Nat → Nat → Int64} {Q : Option Value → gw_Mem → Prop}
theorem c_Cu_init {o : Nat} (s0 : sh o = (0, 2)) (hI : I o = fun _ => 0) (hm : o < 900000) (hQ : ∀ sh' R' I' L', pt_Cu sh' R' o → cu_at I' o 0 cu_0 → mk_fr o sh sh' R R' I I' L L' → Q none (o + 13, sh', X, R', I', L')) : gw_Call y_Cu_init (d + 2) 12 48 [.ref o] (o + 1, sh, X, R, I, L) Q := by
  refine gw_call o_Cu_init (Nat.le_of_ble_eq_true rfl) ?_
  have loop : ∀ (r i : Nat) (x : Int32) (sh1 : Nat → Nat × Nat) (R1 : Nat → Nat → Option Nat) (I1 : Nat → Nat → Int32) (L1 : Nat → Nat → Int64), x = nI i → i + r = 2 → sh1 o = (0, 2) → sh1 (o + 1) = (1, 6) → sh1 (o + 2) = (1, 6) → sh1 (o + 3) = (1, 6) → sh1 (o + 4) = (2 + 4, 2) → R1 o 2 = some (o + 1) → R1 o 3 = some (o + 2) → R1 o 4 = some (o + 3) → R1 o 5 = some (o + 4) → I1 o = (fun _ => 0) → (∀ j, j < i → R1 (o + 4) j = some (o + 5 + 4 * j) ∧ pt_Po sh1 R1 (o + 5 + 4 * j) ∧ po_at I1 (o + 5 + 4 * j) (0, [])) → mk_fr o sh sh1 R R1 I I1 L L1 → gw_Go y_Cu_init (d + 2) (4 * r) (14 * r) 38 [some (.ref o), some (.int x)] [] (o + 5 + 4 * i, sh1, X, R1, I1, L1) Q := by
    intro r
    induction r with
    | zero =>
      intro i x sh1 R1 I1 L1 hx hr a0 a1 a2 a3 a4 b2 b3 b4 b5 c0 hj hfr
      have hi : i = 2 := by omega
      subst hi
      obtain ⟨e1, e2, e3⟩ := hj 0 (by decide)
      obtain ⟨e4, e5, e6⟩ := hj 1 (by decide)
      refine go_iload_n 1 d_Cu_init_38 rfl rfl ?_
      refine go_iconst (v := 2) d_Cu_init_39 rfl ?_
      refine go_icmp_ge 62 d_Cu_init_40 rfl (fun _ => ?_) (fun hn => absurd (by rw [hx]; decide) hn)
      exact go_vret d_Cu_init_62 rfl (hQ sh1 R1 I1 L1 ⟨a0, a1, a2, a3, a4, b2, b3, b4, b5, e1, e4, e2, e5⟩ ⟨by rw [c0]; rfl, by rw [c0]; rfl, by simp, fun j t ht => (by cases ht), e3, e6⟩ hfr)
    | succ r ih =>
      intro i x sh1 R1 I1 L1 hx hr a0 a1 a2 a3 a4 b2 b3 b4 b5 c0 hj hfr
      rw [show 4 * (r + 1) = 4 * r + 3 + 1 by omega, show 14 * (r + 1) = 14 * r + 9 + gw_N 3 by show _ = 14 * r + 9 + 5; omega]
      refine go_iload_n 1 d_Cu_init_38 rfl rfl ?_
      refine go_iconst (v := 2) d_Cu_init_39 rfl ?_
      refine go_icmp_ge 62 d_Cu_init_40 rfl (fun hn => absurd hn (by rw [hx]; exact nI_ge (b := 2) (by omega) (by decide))) (fun _ => ?_)
      refine go_aload_n 0 d_Cu_init_43 rfl rfl ?_
      refine go_getR d_Cu_init_44 f_Cu_23 (by assumption) (by assumption) ?_
      refine go_iload_n 1 d_Cu_init_47 rfl rfl ?_
      refine go_new d_Cu_init_48 c_Cu_21 gw_k2Po (by omega) ?_
      refine go_dup d_Cu_init_51 rfl ?_
      refine go_I0 d_Cu_init_52 k_Cu_27 (Nat.le_of_ble_eq_true rfl) (c_Po_init (by rw [gw_up_eq]) (by rw [gw_up_eq]) (by omega) (fun sh2 R2 I2 L2 k1 k2 k3 => ?_))
      have f : ∀ q, q < o + 5 + 4 * i → sh2 q = sh1 q ∧ R2 q = R1 q ∧ I2 q = I1 q ∧ L2 q = L1 q := fun q hq => by obtain ⟨u1, u2, u3, u4⟩ := k3 q hq; exact ⟨by rw [u1, gw_up_ne (by omega)], by rw [u2, gw_up_ne (by omega)], by rw [u3, gw_up_ne (by omega)], by rw [u4, gw_up_ne (by omega)]⟩
      have a4' : sh2 (o + 4) = (2 + 4, 2) := by rw [(f _ (by omega)).1]; exact a4
      have ap : sh2 (o + 5 + 4 * i) = (0, 3) := k1.1
      refine go_aast (t := 2) (ci := 3) (i) d_Cu_init_55 (by assumption) (by decide) rfl rfl (by assumption) (hx) (by omega) (by decide) ?_
      refine go_iinc d_Cu_init_56 rfl rfl (Nat.le_of_ble_eq_true rfl) ?_
      refine go_goto 38 d_Cu_init_59 rfl ?_
      exact ih (i + 1) _ sh2 _ I2 L2 (gw_inc hx) (by omega) (by rw [(f _ (by omega)).1]; exact a0) (by rw [(f _ (by omega)).1]; exact a1) (by rw [(f _ (by omega)).1]; exact a2) (by rw [(f _ (by omega)).1]; exact a3) a4' (by rw [gw_up_ne (by omega), (f _ (by omega)).2.1]; exact b2) (by rw [gw_up_ne (by omega), (f _ (by omega)).2.1]; exact b3) (by rw [gw_up_ne (by omega), (f _ (by omega)).2.1]; exact b4) (by rw [gw_up_ne (by omega), (f _ (by omega)).2.1]; exact b5) (by rw [(f _ (by omega)).2.2.1]; exact c0) (fun j hj2 => by by_cases he : j = i; (subst he; exact ⟨by rw [gw_up_eq, gw_up_eq], k1.moved (fun q h1 h2 => ⟨rfl, gw_up_ne (by omega)⟩), k2⟩); (obtain ⟨u1, u2, u3⟩ := hj j (by omega); exact ⟨by rw [gw_up_eq, gw_up_ne he, (f _ (by omega)).2.1]; exact u1, u2.moved (fun q h1 h2 => ⟨(f q (by omega)).1, by rw [gw_up_ne (by omega), (f q (by omega)).2.1]⟩), u3.kept (fun q h1 h2 => (f q (by omega)).2.2.1)⟩)) (fun q hq => by obtain ⟨v1, v2, v3, v4⟩ := hfr q hq; obtain ⟨u1, u2, u3, u4⟩ := f q (by omega); exact ⟨by rw [u1, v1], by rw [gw_up_ne (by omega), u2, v2], by rw [u3, v3], by rw [u4, v4]⟩)
  have t1 : va_up sh (o + 1) (1, 6) o = (0, 2) := by simp (disch := omega) only [Nat.add_assoc, Nat.reduceAdd, gw_up_eq, gw_up_ne, ne_eq, not_false_eq_true]; exact s0
  have t2 : va_up (va_up sh (o + 1) (1, 6)) (o + 1 + 1) (1, 6) o = (0, 2) := by simp (disch := omega) only [Nat.add_assoc, Nat.reduceAdd, gw_up_eq, gw_up_ne, ne_eq, not_false_eq_true]; exact s0
  have t3 : va_up (va_up (va_up sh (o + 1) (1, 6)) (o + 1 + 1) (1, 6)) (o + 1 + 1 + 1) (1, 6) o = (0, 2) := by simp (disch := omega) only [Nat.add_assoc, Nat.reduceAdd, gw_up_eq, gw_up_ne, ne_eq, not_false_eq_true]; exact s0
  have t4 : va_up (va_up (va_up (va_up sh (o + 1) (1, 6)) (o + 1 + 1) (1, 6)) (o + 1 + 1 + 1) (1, 6)) (o + 1 + 1 + 1 + 1) (2 + 4, 2) o = (0, 2) := by simp (disch := omega) only [Nat.add_assoc, Nat.reduceAdd, gw_up_eq, gw_up_ne, ne_eq, not_false_eq_true]; exact s0
  refine go_aload_n 0 d_Cu_init_0 rfl rfl ?_
  refine go_obj d_Cu_init_1 j_Cu_3 gw_jo1 gw_jo2 (Nat.le_of_ble_eq_true rfl) ?_
  refine go_aload_n 0 d_Cu_init_4 rfl rfl ?_
  refine go_bipush (v := 6) d_Cu_init_5 rfl ?_
  refine go_newI (len := 6) d_Cu_init_7 gw_aI rfl (by decide) (by omega) ?_
  refine go_putFR d_Cu_init_9 f_Cu_9 rfl rfl (by assumption) ?_
  refine go_aload_n 0 d_Cu_init_12 rfl rfl ?_
  refine go_bipush (v := 6) d_Cu_init_13 rfl ?_
  refine go_newI (len := 6) d_Cu_init_15 gw_aI rfl (by decide) (by omega) ?_
  refine go_putFR d_Cu_init_17 f_Cu_15 rfl rfl (by assumption) ?_
  refine go_aload_n 0 d_Cu_init_20 rfl rfl ?_
  refine go_bipush (v := 6) d_Cu_init_21 rfl ?_
  refine go_newI (len := 6) d_Cu_init_23 gw_aI rfl (by decide) (by omega) ?_
  refine go_putFR d_Cu_init_25 f_Cu_18 rfl rfl (by assumption) ?_
  refine go_aload_n 0 d_Cu_init_28 rfl rfl ?_
  refine go_iconst (v := 2) d_Cu_init_29 rfl ?_
  refine go_newq (t := 2) (len := 2) d_Cu_init_30 e_Cu_21 v_Po (by decide) rfl rfl (by decide) (by omega) ?_
  refine go_putFR d_Cu_init_33 f_Cu_23 rfl rfl (by assumption) ?_
  refine go_iconst (v := 0) d_Cu_init_36 rfl ?_
  refine go_istore_n 1 d_Cu_init_37 rfl (Nat.le_of_ble_eq_true rfl) ?_
  exact loop 2 0 _ _ _ _ _ rfl rfl t4 (by simp (disch := omega) only [Nat.add_assoc, Nat.reduceAdd, gw_up_eq, gw_up_ne, ne_eq, not_false_eq_true]) (by simp (disch := omega) only [Nat.add_assoc, Nat.reduceAdd, gw_up_eq, gw_up_ne, ne_eq, not_false_eq_true]) (by simp (disch := omega) only [Nat.add_assoc, Nat.reduceAdd, gw_up_eq, gw_up_ne, ne_eq, not_false_eq_true]) (by simp (disch := omega) only [Nat.add_assoc, Nat.reduceAdd, gw_up_eq, gw_up_ne, ne_eq, not_false_eq_true]) (by simp (disch := omega) only [Nat.add_assoc, Nat.reduceAdd, gw_up_eq, gw_up_ne, ne_eq, not_false_eq_true]) (by simp (disch := omega) only [Nat.add_assoc, Nat.reduceAdd, gw_up_eq, gw_up_ne, ne_eq, not_false_eq_true]) (by simp (disch := omega) only [Nat.add_assoc, Nat.reduceAdd, gw_up_eq, gw_up_ne, ne_eq, not_false_eq_true]) (by simp (disch := omega) only [Nat.add_assoc, Nat.reduceAdd, gw_up_eq, gw_up_ne, ne_eq, not_false_eq_true]) (by simp (disch := omega) only [Nat.add_assoc, Nat.reduceAdd, gw_up_eq, gw_up_ne, ne_eq, not_false_eq_true]; exact hI) (fun j hj => by omega) (fun q hq => ⟨by simp (disch := omega) only [Nat.add_assoc, Nat.reduceAdd, gw_up_eq, gw_up_ne, ne_eq, not_false_eq_true], by simp (disch := omega) only [Nat.add_assoc, Nat.reduceAdd, gw_up_eq, gw_up_ne, ne_eq, not_false_eq_true], by simp (disch := omega) only [Nat.add_assoc, Nat.reduceAdd, gw_up_eq, gw_up_ne, ne_eq, not_false_eq_true], by simp (disch := omega) only [Nat.add_assoc, Nat.reduceAdd, gw_up_eq, gw_up_ne, ne_eq, not_false_eq_true]⟩)
end MK
