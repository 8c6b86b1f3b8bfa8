/-! constructor of Machine -/
theorem pt_Fr.moved {sh sh' : Nat → Nat × Nat} {R R' : Nat → Nat → Option Nat} {o : Nat} (h : pt_Fr sh R o) (hq : ∀ q, o ≤ q → q < o + 3 → sh' q = sh q ∧ R' q = R q) : pt_Fr sh' R' o := by
  unfold pt_Fr
  rw [(hq o (by omega) (by omega)).1, (hq o (by omega) (by omega)).2, (hq (o + 1) (by omega) (by omega)).1, (hq (o + 2) (by omega) (by omega)).1]
  exact h
section MK
variable {d : Nat} {sh : Nat → Nat × Nat} {X : Nat × (Nat → Int32)} {R : Nat → Nat → Option Nat} {I : Nat → Nat → Int32} {L : Nat → Nat → Int64} {Q : Option Value → gw_Mem → Prop}
theorem c_Ma_init {o p : Nat} (s0 : sh o = (0, 4)) (sp : sh p = (0 + 4, 4)) (hp : p < o) (hI : I o = fun _ => 0) (hm : o < 900000) (hQ : ∀ sh' R' I' L', sh' o = (0, 4) → sh' (o + 1) = (3 + 4, 4) → sh' (o + 2) = (1, 12) → R' o 0 = some p → R' o 1 = some (o + 1) → R' o 3 = some (o + 2) → I' o = (fun _ => 0) → (∀ j, j < 4 → R' (o + 1) j = some (o + 3 + 3 * j) ∧ pt_Fr sh' R' (o + 3 + 3 * j)) → mk_fr o sh sh' R R' I I' L L' → Q none (o + 15, sh', X, R', I', L')) : gw_Call y_Ma_init (d + 2) 14 76 [.ref o, .ref p] (o + 1, sh, X, R, I, L) Q := by
  refine gw_call o_Ma_init (Nat.le_of_ble_eq_true rfl) ?_
  have loop : ∀ (r i : Nat) (x : Int32) (sh1 : Nat → Nat × Nat) (R1 : Nat → Nat → Option Nat) (I1 : Nat → Nat → Int32) (L1 : Nat → Nat → Int64), x = nI i → i + r = 4 → sh1 o = (0, 4) → sh1 (o + 1) = (3 + 4, 4) → sh1 (o + 2) = (1, 12) → R1 o 0 = some p → R1 o 1 = some (o + 1) → R1 o 3 = some (o + 2) → I1 o = (fun _ => 0) → (∀ j, j < i → R1 (o + 1) j = some (o + 3 + 3 * j) ∧ pt_Fr sh1 R1 (o + 3 + 3 * j)) → mk_fr o sh sh1 R R1 I I1 L L1 → gw_Go y_Ma_init (d + 2) (3 * r) (15 * r) 27 [some (.ref o), some (.ref p), some (.int x)] [] (o + 3 + 3 * i, sh1, X, R1, I1, L1) Q := by
    intro r
    induction r with
    | zero =>
      intro i x sh1 R1 I1 L1 hx hr a0 a1 a2 b0 b1 b3 c0 hj hfr
      have hi : i = 4 := by omega
      subst hi
      refine go_iload_n 2 d_Ma_init_27 rfl rfl ?_
      refine go_iconst (v := 4) d_Ma_init_28 rfl ?_
      refine go_icmp_ge 51 d_Ma_init_29 rfl (fun _ => ?_) (fun hn => absurd (by rw [hx]; decide) hn)
      exact go_vret d_Ma_init_51 rfl (hQ sh1 R1 I1 L1 a0 a1 a2 b0 b1 b3 c0 hj hfr)
    | succ r ih =>
      intro i x sh1 R1 I1 L1 hx hr a0 a1 a2 b0 b1 b3 c0 hj hfr
      rw [show 3 * (r + 1) = 3 * r + 2 + 1 by omega, show 15 * (r + 1) = 15 * r + 10 + gw_N 5 by show _ = 15 * r + 10 + 5; omega]
      refine go_iload_n 2 d_Ma_init_27 rfl rfl ?_
      refine go_iconst (v := 4) d_Ma_init_28 rfl ?_
      refine go_icmp_ge 51 d_Ma_init_29 rfl (fun hn => absurd hn (by rw [hx]; exact nI_ge (b := 4) (by omega) (by decide))) (fun _ => ?_)
      refine go_aload_n 0 d_Ma_init_32 rfl rfl ?_
      refine go_getR d_Ma_init_33 f_Ma_11 (by assumption) (by assumption) ?_
      refine go_iload_n 2 d_Ma_init_36 rfl rfl ?_
      refine go_new d_Ma_init_37 c_Ma_9 gw_k2Fr (by omega) ?_
      refine go_dup d_Ma_init_40 rfl ?_
      refine go_I0 d_Ma_init_41 k_Ma_25 (Nat.le_of_ble_eq_true rfl) (c_Fr_init (by rw [gw_up_eq]) (by omega) (fun sh2 R2 I2 L2 k1 k3 => ?_))
      have f : ∀ q, q < o + 3 + 3 * i → sh2 q = sh1 q ∧ R2 q = R1 q ∧ I2 q = I1 q ∧ L2 q = L1 q := fun q hq => by obtain ⟨u1, u2, u3, u4⟩ := k3 q hq; exact ⟨by rw [u1, gw_up_ne (by omega)], by rw [u2, gw_up_ne (by omega)], by rw [u3, gw_up_ne (by omega)], by rw [u4, gw_up_ne (by omega)]⟩
      have a1' : sh2 (o + 1) = (3 + 4, 4) := by rw [(f _ (by omega)).1]; exact a1
      have ap : sh2 (o + 3 + 3 * i) = (0, 5) := k1.1
      refine go_aast (t := 3) (ci := 5) (i) d_Ma_init_44 (by assumption) (by decide) rfl rfl (by assumption) (hx) (by omega) (by decide) ?_
      refine go_iinc d_Ma_init_45 rfl rfl (Nat.le_of_ble_eq_true rfl) ?_
      refine go_goto 27 d_Ma_init_48 rfl ?_
      exact ih (i + 1) _ sh2 _ I2 L2 (gw_inc hx) (by omega) (by rw [(f _ (by omega)).1]; exact a0) a1' (by rw [(f _ (by omega)).1]; exact a2) (by rw [gw_up_ne (by omega), (f _ (by omega)).2.1]; exact b0) (by rw [gw_up_ne (by omega), (f _ (by omega)).2.1]; exact b1) (by rw [gw_up_ne (by omega), (f _ (by omega)).2.1]; exact b3) (by rw [(f _ (by omega)).2.2.1]; exact c0) (fun j hj2 => by by_cases he : j = i; (subst he; exact ⟨by rw [gw_up_eq, gw_up_eq], k1.moved (fun q h1 h2 => ⟨rfl, gw_up_ne (by omega)⟩)⟩); (obtain ⟨u1, u2⟩ := hj j (by omega); exact ⟨by rw [gw_up_eq, gw_up_ne he, (f _ (by omega)).2.1]; exact u1, u2.moved (fun q h1 h2 => ⟨(f q (by omega)).1, by rw [gw_up_ne (by omega), (f q (by omega)).2.1]⟩)⟩)) (fun q hq => by obtain ⟨v1, v2, v3, v4⟩ := hfr q hq; obtain ⟨u1, u2, u3, u4⟩ := f q (by omega); exact ⟨by rw [u1, v1], by rw [gw_up_ne (by omega), u2, v2], by rw [u3, v3], by rw [u4, v4]⟩)
  have t1 : va_up sh (o + 1) (3 + 4, 4) o = (0, 4) := by simp (disch := omega) only [Nat.add_assoc, Nat.reduceAdd, gw_up_eq, gw_up_ne, ne_eq, not_false_eq_true]; exact s0
  have t2 : va_up (va_up sh (o + 1) (3 + 4, 4)) (o + 1 + 1) (1, 12) o = (0, 4) := by simp (disch := omega) only [Nat.add_assoc, Nat.reduceAdd, gw_up_eq, gw_up_ne, ne_eq, not_false_eq_true]; exact s0
  have t3 : va_up (va_up sh (o + 1) (3 + 4, 4)) (o + 1 + 1) (1, 12) p = (0 + 4, 4) := by simp (disch := omega) only [Nat.add_assoc, Nat.reduceAdd, gw_up_eq, gw_up_ne, ne_eq, not_false_eq_true]; exact sp
  refine go_aload_n 0 d_Ma_init_0 rfl rfl ?_
  refine go_obj d_Ma_init_1 j_Ma_3 gw_jo1 gw_jo2 (Nat.le_of_ble_eq_true rfl) ?_
  refine go_aload_n 0 d_Ma_init_4 rfl rfl ?_
  refine go_iconst (v := 4) d_Ma_init_5 rfl ?_
  refine go_newq (t := 3) (len := 4) d_Ma_init_6 e_Ma_9 v_Fr (by decide) rfl rfl (by decide) (by omega) ?_
  refine go_putFR d_Ma_init_9 f_Ma_11 rfl rfl (by assumption) ?_
  refine go_aload_n 0 d_Ma_init_12 rfl rfl ?_
  refine go_bipush (v := 12) d_Ma_init_13 rfl ?_
  refine go_newI (len := 12) d_Ma_init_15 gw_aI rfl (by decide) (by omega) ?_
  refine go_putFR d_Ma_init_17 f_Ma_17 rfl rfl (by assumption) ?_
  refine go_aload_n 0 d_Ma_init_20 rfl rfl ?_
  refine go_aload_n 1 d_Ma_init_21 rfl rfl ?_
  refine go_putFR d_Ma_init_22 f_Ma_21 rfl rfl (by assumption) ?_
  refine go_iconst (v := 0) d_Ma_init_25 rfl ?_
  refine go_istore_n 2 d_Ma_init_26 rfl (Nat.le_of_ble_eq_true rfl) ?_
  exact loop 4 0 _ _ _ _ _ rfl rfl t2 (by simp (disch := omega) only [Nat.add_assoc, Nat.reduceAdd, gw_up_eq, gw_up_ne, ne_eq, not_false_eq_true]) (by simp (disch := omega) only [Nat.add_assoc, Nat.reduceAdd, gw_up_eq, gw_up_ne, ne_eq, not_false_eq_true]) (by simp (disch := omega) only [Nat.add_assoc, Nat.reduceAdd, gw_up_eq, gw_up_ne, ne_eq, not_false_eq_true]) (by simp (disch := omega) only [Nat.add_assoc, Nat.reduceAdd, gw_up_eq, gw_up_ne, ne_eq, not_false_eq_true]) (by simp (disch := omega) only [Nat.add_assoc, Nat.reduceAdd, gw_up_eq, gw_up_ne, ne_eq, not_false_eq_true]) (by simp (disch := omega) only [Nat.add_assoc, Nat.reduceAdd, gw_up_eq, gw_up_ne, ne_eq, not_false_eq_true]; exact hI) (fun j hj => by omega) (fun q hq => ⟨by simp (disch := omega) only [Nat.add_assoc, Nat.reduceAdd, gw_up_eq, gw_up_ne, ne_eq, not_false_eq_true], by simp (disch := omega) only [Nat.add_assoc, Nat.reduceAdd, gw_up_eq, gw_up_ne, ne_eq, not_false_eq_true], by simp (disch := omega) only [Nat.add_assoc, Nat.reduceAdd, gw_up_eq, gw_up_ne, ne_eq, not_false_eq_true], by simp (disch := omega) only [Nat.add_assoc, Nat.reduceAdd, gw_up_eq, gw_up_ne, ne_eq, not_false_eq_true]⟩)
end MK
