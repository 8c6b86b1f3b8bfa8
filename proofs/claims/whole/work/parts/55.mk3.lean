/-! constructor of Method -/
theorem pt_Cu.moved {sh sh' : Nat → Nat × Nat} {R R' : Nat → Nat → Option Nat} {o : Nat} (h : pt_Cu sh R o) (hq : ∀ q, o ≤ q → q < o + 13 → sh' q = sh q ∧ R' q = R q) : pt_Cu sh' R' o := by
  obtain ⟨c0, c1, c2, c3, c4, r2, r3, r4, r5, q0, q1, p0, p1⟩ := h
  exact ⟨by rw [(hq _ (by omega) (by omega)).1]; exact c0, by rw [(hq _ (by omega) (by omega)).1]; exact c1, by rw [(hq _ (by omega) (by omega)).1]; exact c2, by rw [(hq _ (by omega) (by omega)).1]; exact c3, by rw [(hq _ (by omega) (by omega)).1]; exact c4, by rw [(hq _ (by omega) (by omega)).2]; exact r2, by rw [(hq _ (by omega) (by omega)).2]; exact r3, by rw [(hq _ (by omega) (by omega)).2]; exact r4, by rw [(hq _ (by omega) (by omega)).2]; exact r5, by rw [(hq _ (by omega) (by omega)).2]; exact q0, by rw [(hq _ (by omega) (by omega)).2]; exact q1, p0.moved (fun q a b => hq q (by omega) (by omega)), p1.moved (fun q a b => hq q (by omega) (by omega))⟩
section MK
variable {d : Nat} {sh : Nat → Nat × Nat} {X : Nat × (Nat → Int32)} {R : Nat → Nat → Option Nat} {I : Nat → Nat → Int32} {L : Nat → Nat → Int64} {Q : Option Value → gw_Mem → Prop}
theorem c_Me_init {o : Nat} {v : Int32} (s0 : sh o = (0, 1)) (hI : I o = fun _ => 0) (hm : o < 800000) (hQ : ∀ sh' R' I' L', pt_Me sh' R' o → co_at I' o [] → cs_at R' I' o (fun i => i) [(0, cu_0)] → I' o 0 = v → I' o 6 = 0 → mk_fr o sh sh' R R' I I' L L' → Q none (o + 82, sh', X, R', I', L')) : gw_Call y_Me_init (d + 3) 81 378 [.ref o, .int v] (o + 1, sh, X, R, I, L) Q := by
  refine gw_call o_Me_init (Nat.le_of_ble_eq_true rfl) ?_
  have loop : ∀ (r i : Nat) (x : Int32) (sh1 : Nat → Nat × Nat) (R1 : Nat → Nat → Option Nat) (I1 : Nat → Nat → Int32) (L1 : Nat → Nat → Int64), x = nI i → i + r = 6 → sh1 o = (0, 1) → sh1 (o + 1) = (1, 24) → sh1 (o + 2) = (1, 24) → sh1 (o + 3) = (1 + 4, 6) → R1 o 1 = some (o + 1) → R1 o 2 = some (o + 2) → R1 o 4 = some (o + 3) → I1 o 0 = v → I1 o 3 = 0 → I1 o 6 = 0 → (∀ j, j < i → R1 (o + 3) j = some (o + 4 + 13 * j) ∧ pt_Cu sh1 R1 (o + 4 + 13 * j) ∧ cu_at I1 (o + 4 + 13 * j) 0 cu_0) → mk_fr o sh sh1 R R1 I I1 L L1 → gw_Go y_Me_init (d + 3) (13 * r) (54 * r) 36 [some (.ref o), some (.int v), some (.int x)] [] (o + 4 + 13 * i, sh1, X, R1, I1, L1) Q := by
    intro r
    induction r with
    | zero =>
      intro i x sh1 R1 I1 L1 hx hr a0 a1 a2 a3 b1 b2 b4 c0 c3 c6 hj hfr
      have hi : i = 6 := by omega
      subst hi
      refine go_iload_n 2 d_Me_init_36 rfl rfl ?_
      refine go_bipush (v := 6) d_Me_init_37 rfl ?_
      refine go_icmp_ge 61 d_Me_init_39 rfl (fun _ => ?_) (fun hn => absurd (by rw [hx]; decide) hn)
      refine go_aload_n 0 d_Me_init_61 rfl rfl ?_
      refine go_iconst (v := 1) d_Me_init_62 rfl ?_
      refine go_putI d_Me_init_63 f_Me_29 (by assumption) ?_
      exact go_vret d_Me_init_66 rfl (hQ sh1 R1 _ L1 ⟨a0, a1, a2, a3, b1, b2, b4, fun i hi => (hj i hi).2.1⟩ ⟨by rw [gw_up_eq, gw_up_ne (by decide), c3]; rfl, by simp, fun j t ht => by cases ht⟩ ⟨by rw [gw_up_eq, gw_up_eq]; rfl, by simp, fun i hi => hi, fun i j _ _ h => h, fun i hi => (hj i hi).1, fun i c hc => by cases i with | zero => (cases hc; exact (hj 0 (by decide)).2.2.kept (fun q a b => gw_up_ne (by omega))) | succ i => cases hc⟩ (by rw [gw_up_eq, gw_up_ne (by decide)]; exact c0) (by rw [gw_up_eq, gw_up_ne (by decide)]; exact c6) (fun q hq => by obtain ⟨v1, v2, v3, v4⟩ := hfr q hq; exact ⟨v1, v2, by rw [gw_up_ne (by omega), v3], v4⟩))
    | succ r ih =>
      intro i x sh1 R1 I1 L1 hx hr a0 a1 a2 a3 b1 b2 b4 c0 c3 c6 hj hfr
      rw [show 13 * (r + 1) = 13 * r + 12 + 1 by omega, show 54 * (r + 1) = 54 * r + 48 + gw_N 2 by show _ = 54 * r + 48 + 6; omega]
      refine go_iload_n 2 d_Me_init_36 rfl rfl ?_
      refine go_bipush (v := 6) d_Me_init_37 rfl ?_
      refine go_icmp_ge 61 d_Me_init_39 rfl (fun hn => absurd hn (by rw [hx]; exact nI_ge (b := 6) (by omega) (by decide))) (fun _ => ?_)
      refine go_aload_n 0 d_Me_init_42 rfl rfl ?_
      refine go_getR d_Me_init_43 f_Me_20 (by assumption) (by assumption) ?_
      refine go_iload_n 2 d_Me_init_46 rfl rfl ?_
      refine go_new d_Me_init_47 c_Me_18 gw_k2Cu (by omega) ?_
      refine go_dup d_Me_init_50 rfl ?_
      refine go_I0 d_Me_init_51 k_Me_28 (Nat.le_of_ble_eq_true rfl) (c_Cu_init (by rw [gw_up_eq]) (by rw [gw_up_eq]) (by omega) (fun sh2 R2 I2 L2 k1 k2 k3 => ?_))
      have f : ∀ q, q < o + 4 + 13 * i → sh2 q = sh1 q ∧ R2 q = R1 q ∧ I2 q = I1 q ∧ L2 q = L1 q := fun q hq => by obtain ⟨u1, u2, u3, u4⟩ := k3 q hq; exact ⟨by rw [u1, gw_up_ne (by omega)], by rw [u2, gw_up_ne (by omega)], by rw [u3, gw_up_ne (by omega)], by rw [u4, gw_up_ne (by omega)]⟩
      have a3' : sh2 (o + 3) = (1 + 4, 6) := by rw [(f _ (by omega)).1]; exact a3
      have ap : sh2 (o + 4 + 13 * i) = (0, 2) := k1.1
      refine go_aast (t := 1) (ci := 2) (i) d_Me_init_54 (by assumption) (by decide) rfl rfl (by assumption) (hx) (by omega) (by decide) ?_
      refine go_iinc d_Me_init_55 rfl rfl (Nat.le_of_ble_eq_true rfl) ?_
      refine go_goto 36 d_Me_init_58 rfl ?_
      exact ih (i + 1) _ sh2 _ I2 L2 (gw_inc hx) (by omega) (by rw [(f _ (by omega)).1]; exact a0) (by rw [(f _ (by omega)).1]; exact a1) (by rw [(f _ (by omega)).1]; exact a2) a3' (by rw [gw_up_ne (by omega), (f _ (by omega)).2.1]; exact b1) (by rw [gw_up_ne (by omega), (f _ (by omega)).2.1]; exact b2) (by rw [gw_up_ne (by omega), (f _ (by omega)).2.1]; exact b4) (by rw [(f _ (by omega)).2.2.1]; exact c0) (by rw [(f _ (by omega)).2.2.1]; exact c3) (by rw [(f _ (by omega)).2.2.1]; exact c6) (fun j hj2 => by by_cases he : j = i; (subst he; exact ⟨by rw [gw_up_eq, gw_up_eq], k1.moved (fun q h1 h2 => ⟨rfl, gw_up_ne (by omega)⟩), k2⟩); (obtain ⟨u1, u2, u3⟩ := hj j (by omega); exact ⟨by rw [gw_up_eq, gw_up_ne he, (f _ (by omega)).2.1]; exact u1, u2.moved (fun q h1 h2 => ⟨(f q (by omega)).1, by rw [gw_up_ne (by omega), (f q (by omega)).2.1]⟩), u3.kept (fun q h1 h2 => (f q (by omega)).2.2.1)⟩)) (fun q hq => by obtain ⟨v1, v2, v3, v4⟩ := hfr q hq; obtain ⟨u1, u2, u3, u4⟩ := f q (by omega); exact ⟨by rw [u1, v1], by rw [gw_up_ne (by omega), u2, v2], by rw [u3, v3], by rw [u4, v4]⟩)
  have t1 : va_up sh (o + 1) (1, 24) o = (0, 1) := by simp (disch := omega) only [Nat.add_assoc, Nat.reduceAdd, gw_up_eq, gw_up_ne, ne_eq, not_false_eq_true]; exact s0
  have t2 : va_up (va_up sh (o + 1) (1, 24)) (o + 1 + 1) (1, 24) o = (0, 1) := by simp (disch := omega) only [Nat.add_assoc, Nat.reduceAdd, gw_up_eq, gw_up_ne, ne_eq, not_false_eq_true]; exact s0
  have t3 : va_up (va_up (va_up sh (o + 1) (1, 24)) (o + 1 + 1) (1, 24)) (o + 1 + 1 + 1) (1 + 4, 6) o = (0, 1) := by simp (disch := omega) only [Nat.add_assoc, Nat.reduceAdd, gw_up_eq, gw_up_ne, ne_eq, not_false_eq_true]; exact s0
  refine go_aload_n 0 d_Me_init_0 rfl rfl ?_
  refine go_obj d_Me_init_1 j_Me_3 gw_jo1 gw_jo2 (Nat.le_of_ble_eq_true rfl) ?_
  refine go_aload_n 0 d_Me_init_4 rfl rfl ?_
  refine go_bipush (v := 24) d_Me_init_5 rfl ?_
  refine go_newI (len := 24) d_Me_init_7 gw_aI rfl (by decide) (by omega) ?_
  refine go_putFR d_Me_init_9 f_Me_9 rfl rfl (by assumption) ?_
  refine go_aload_n 0 d_Me_init_12 rfl rfl ?_
  refine go_bipush (v := 24) d_Me_init_13 rfl ?_
  refine go_newI (len := 24) d_Me_init_15 gw_aI rfl (by decide) (by omega) ?_
  refine go_putFR d_Me_init_17 f_Me_15 rfl rfl (by assumption) ?_
  refine go_aload_n 0 d_Me_init_20 rfl rfl ?_
  refine go_bipush (v := 6) d_Me_init_21 rfl ?_
  refine go_newq (t := 1) (len := 6) d_Me_init_23 e_Me_18 v_Cu (by decide) rfl rfl (by decide) (by omega) ?_
  refine go_putFR d_Me_init_26 f_Me_20 rfl rfl (by assumption) ?_
  refine go_aload_n 0 d_Me_init_29 rfl rfl ?_
  refine go_iload_n 1 d_Me_init_30 rfl rfl ?_
  refine go_putFI d_Me_init_31 f_Me_24 rfl rfl (by assumption) ?_
  refine go_iconst (v := 0) d_Me_init_34 rfl ?_
  refine go_istore_n 2 d_Me_init_35 rfl (Nat.le_of_ble_eq_true rfl) ?_
  exact loop 6 0 _ _ _ _ _ rfl rfl t3 (by simp (disch := omega) only [Nat.add_assoc, Nat.reduceAdd, gw_up_eq, gw_up_ne, ne_eq, not_false_eq_true]) (by simp (disch := omega) only [Nat.add_assoc, Nat.reduceAdd, gw_up_eq, gw_up_ne, ne_eq, not_false_eq_true]) (by simp (disch := omega) only [Nat.add_assoc, Nat.reduceAdd, gw_up_eq, gw_up_ne, ne_eq, not_false_eq_true]) (by simp (disch := omega) only [Nat.add_assoc, Nat.reduceAdd, gw_up_eq, gw_up_ne, ne_eq, not_false_eq_true]) (by simp (disch := omega) only [Nat.add_assoc, Nat.reduceAdd, gw_up_eq, gw_up_ne, ne_eq, not_false_eq_true]) (by simp (disch := omega) only [Nat.add_assoc, Nat.reduceAdd, gw_up_eq, gw_up_ne, ne_eq, not_false_eq_true]) (by simp (disch := omega) only [Nat.add_assoc, Nat.reduceAdd, gw_up_eq, gw_up_ne, ne_eq, not_false_eq_true]) (by simp (disch := omega) only [Nat.add_assoc, Nat.reduceAdd, gw_up_eq, gw_up_ne, ne_eq, not_false_eq_true]; rw [hI]) (by simp (disch := omega) only [Nat.add_assoc, Nat.reduceAdd, gw_up_eq, gw_up_ne, ne_eq, not_false_eq_true]; rw [hI]) (fun j hj => by omega) (fun q hq => ⟨by simp (disch := omega) only [Nat.add_assoc, Nat.reduceAdd, gw_up_eq, gw_up_ne, ne_eq, not_false_eq_true], by simp (disch := omega) only [Nat.add_assoc, Nat.reduceAdd, gw_up_eq, gw_up_ne, ne_eq, not_false_eq_true], by simp (disch := omega) only [Nat.add_assoc, Nat.reduceAdd, gw_up_eq, gw_up_ne, ne_eq, not_false_eq_true], by simp (disch := omega) only [Nat.add_assoc, Nat.reduceAdd, gw_up_eq, gw_up_ne, ne_eq, not_false_eq_true]⟩)
end MK
