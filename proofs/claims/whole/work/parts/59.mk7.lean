/-! constructor of CostChecker -/
theorem pt_Me.moved {sh sh' : Nat → Nat × Nat} {R R' : Nat → Nat → Option Nat} {o : Nat} (h : pt_Me sh R o) (hq : ∀ q, o ≤ q → q < o + 82 → sh' q = sh q ∧ R' q = R q) : pt_Me sh' R' o := by
  obtain ⟨s0, s1, s2, s3, r1, r2, r4, hc⟩ := h
  exact ⟨by rw [(hq _ (by omega) (by omega)).1]; exact s0, by rw [(hq _ (by omega) (by omega)).1]; exact s1, by rw [(hq _ (by omega) (by omega)).1]; exact s2, by rw [(hq _ (by omega) (by omega)).1]; exact s3, by rw [(hq _ (by omega) (by omega)).2]; exact r1, by rw [(hq _ (by omega) (by omega)).2]; exact r2, by rw [(hq _ (by omega) (by omega)).2]; exact r4, fun i hi => (hc i hi).moved (fun q a b => hq q (by omega) (by omega))⟩
theorem go_bud {y : gw_Y} {d bc bs bc' bs' pc : Nat} {lv : List (Option Value)} {st : List Value} {M : gw_Mem} {Q : Option Value → gw_Mem → Prop} (h1 : bc = bc') (h2 : bs = bs') (k : gw_Go y d bc' bs' pc lv st M Q) : gw_Go y d bc bs pc lv st M Q := by subst h1; subst h2; exact k
section MK
variable {d : Nat} {sh : Nat → Nat × Nat} {X : Nat × (Nat → Int32)} {R : Nat → Nat → Option Nat} {I : Nat → Nat → Int32} {L : Nat → Nat → Int64} {Q : Option Value → gw_Mem → Prop}
theorem c_CC_init (s0 : sh 0 = (0, 0)) (hQ : ∀ sh' R' I' L', pt_CX sh' R' → pt_Ch sh' R' → cc_at R' I' (fun _ => ([], [(0, cu_0)], false)) → ma_at I' 0 0 0 0 [] → Q none (533, sh', X, R', I', L')) : gw_Call y_CC_init (d + 4) 532 3266 [.ref 0] (1, sh, X, R, I, L) Q := by
  refine gw_call o_CC_init (Nat.le_of_ble_eq_true rfl) ?_
  have loop : ∀ (r i : Nat) (x : Int32) (sh1 : Nat → Nat × Nat) (R1 : Nat → Nat → Option Nat) (I1 : Nat → Nat → Int32) (L1 : Nat → Nat → Int64), x = nI i → i + r = 4 → sh1 0 = (0, 0) → sh1 1 = (0 + 4, 4) → (∀ j, j < i → R1 1 j = some (2 + 82 * j) ∧ pt_Me sh1 R1 (2 + 82 * j) ∧ me_at R1 I1 j (fun i => i) ([], [(0, cu_0)], false)) → gw_Go y_CC_init (d + 4) (82 * r + 203) (386 * r + 1718) 11 [some (.ref 0), some (.ref 1), some (.int x)] [] (2 + 82 * i, sh1, X, R1, I1, L1) Q := by
    intro r
    induction r with
    | zero =>
      intro i x sh1 R1 I1 L1 hx hr a0 a1 hj
      have hi : i = 4 := by omega
      subst hi
      clear hr
      obtain ⟨e, he⟩ : ∃ e : Nat, e = 0 := ⟨0, rfl⟩
      refine go_bud (bc' := e + 202 + 1) (bs' := e + 1708 + gw_N 4) (by subst he; rfl) (by subst he; rfl) ?_
      refine go_iload_n 2 d_CC_init_11 rfl rfl ?_
      refine go_iconst (v := 4) d_CC_init_12 rfl ?_
      refine go_icmp_ge 33 d_CC_init_13 rfl (fun _ => ?_) (fun hn => absurd (by rw [hx]; decide) hn)
      refine go_aload_n 0 d_CC_init_33 rfl rfl ?_
      refine go_aload_n 1 d_CC_init_34 rfl rfl ?_
      refine go_putFR d_CC_init_35 f_CC_14 rfl rfl (by assumption) ?_
      refine go_aload_n 0 d_CC_init_38 rfl rfl ?_
      refine go_new d_CC_init_39 c_CC_18 gw_k2Ma (by omega) ?_
      refine go_dup d_CC_init_42 rfl ?_
      refine go_aload_n 1 d_CC_init_43 rfl rfl ?_
      refine go_bud (bc' := e + 188 + 14) (bs' := e + 1632 + 76) (by omega) (by omega) ?_
      refine go_I1 d_CC_init_44 k_CC_20 (Nat.le_of_ble_eq_true rfl) (c_Ma_init (d := d + 1) (o := 330) (p := 1) (by rw [gw_up_eq]) (by rw [gw_up_ne (by decide)]; exact a1) (by decide) (by rw [gw_up_eq]) (by omega) (fun sh2 R2 I2 L2 p0 p1 p2 p3 p4 p5 p6 p7 p8 => ?_))
      have f2 : ∀ q, q < 330 → sh2 q = sh1 q ∧ (q ≠ 0 → R2 q = R1 q) ∧ I2 q = I1 q := fun q hq => by obtain ⟨u1, u2, u3, u4⟩ := p8 q hq; exact ⟨by rw [u1, gw_up_ne (by omega)], fun h0 => by rw [u2, gw_up_ne (by omega), gw_up_ne (by omega)], by rw [u3, gw_up_ne (by omega)]⟩
      have f2R : R2 0 0 = some 1 := by rw [(p8 0 (by decide)).2.1, gw_up_ne (by decide), gw_up_eq, gw_up_eq]
      have a0' : sh2 0 = (0, 0) := by rw [(f2 _ (by decide)).1]; exact a0
      have a1' : sh2 1 = (0 + 4, 4) := by rw [(f2 _ (by decide)).1]; exact a1
      refine go_putFR d_CC_init_47 f_CC_23 rfl rfl (by assumption) ?_
      refine go_aload_n 0 d_CC_init_50 rfl rfl ?_
      refine go_bud (bc' := e + 187 + 1) (bs' := e + 1627 + gw_N 6) (by omega) (by show _ = e + 1627 + 5; omega) ?_
      refine go_new d_CC_init_51 c_CC_27 gw_k2Ch (by omega) ?_
      refine go_dup d_CC_init_54 rfl ?_
      refine go_aload_n 1 d_CC_init_55 rfl rfl ?_
      refine go_bud (bc' := e + 1 + 186) (bs' := e + 5 + 1622) (by omega) (by omega) ?_
      refine go_I1 (bc := e + 1) (bs := e + 5) (mc := 186) (ms := 1622) d_CC_init_56 k_CC_29 (Nat.le_of_ble_eq_true rfl) (c_Ch_init (d := d) (o := 345) (p := 1) (m0 := 2) (by rw [gw_up_eq]) (by rw [gw_up_ne (by decide)]; exact a1') (by decide) (by rw [gw_up_ne (by decide), gw_up_ne (by decide), (f2 1 (by decide)).2.1 (by decide)]; exact (hj 0 (by decide)).1) (by decide) (by rw [gw_up_ne (by decide), (f2 2 (by decide)).1]; exact (hj 0 (by decide)).2.1.1) (by omega) (fun sh3 R3 I3 L3 q0 q1 q2 q3 q4 q5 q6 q7 => ?_))
      have f3 : ∀ q, q < 345 → sh3 q = sh2 q ∧ (q ≠ 0 → R3 q = R2 q) ∧ I3 q = I2 q := fun q hq => by obtain ⟨u1, u2, u3, u4⟩ := q7 q hq; exact ⟨by rw [u1, gw_up_ne (by omega)], fun h0 => by rw [u2, gw_up_ne (by omega), gw_up_ne (by omega)], by rw [u3, gw_up_ne (by omega)]⟩
      have f3R : R3 0 0 = some 1 ∧ R3 0 1 = some 330 := by rw [(q7 0 (by decide)).2.1]; exact ⟨by rw [gw_up_ne (by decide), gw_up_eq, gw_up_ne (by decide)]; exact f2R, by rw [gw_up_ne (by decide), gw_up_eq, gw_up_eq]⟩
      have a02 : sh3 0 = (0, 0) := by rw [(f3 _ (by decide)).1]; exact a0'
      refine go_putFR d_CC_init_59 f_CC_30 rfl rfl (by assumption) ?_
      refine go_aload_n 0 d_CC_init_62 rfl rfl ?_
      refine go_iconst (v := 5) d_CC_init_63 rfl ?_
      refine go_newI (len := 5) d_CC_init_64 gw_aI rfl (by decide) (by omega) ?_
      have a03 : va_up sh3 532 (1, 5) 0 = (0, 0) := by rw [gw_up_ne (by decide)]; exact a02
      refine go_putFR d_CC_init_66 f_CC_34 rfl rfl (by assumption) ?_
      have g : ∀ q, q ≠ 0 → q < 532 → va_up (va_up (va_up R3 0 (va_up (R3 0) 2 (some 345))) 532 (fun _ => none)) 0 (va_up (va_up (va_up R3 0 (va_up (R3 0) 2 (some 345))) 532 (fun _ => none) 0) 3 (some 532)) q = R3 q := fun q h1 h2 => by rw [gw_up_ne (by omega), gw_up_ne (by omega), gw_up_ne (by omega)]
      have gs : ∀ q, q < 532 → va_up sh3 532 (1, 5) q = sh3 q := fun q h2 => by rw [gw_up_ne (by omega)]
      have gi : ∀ q, q < 532 → va_up I3 532 (fun _ => 0) q = I3 q := fun q h2 => by rw [gw_up_ne (by omega)]
      have gm : ∀ j, j < 4 → pt_Me (va_up sh3 532 (1, 5)) (va_up (va_up (va_up R3 0 (va_up (R3 0) 2 (some 345))) 532 (fun _ => none)) 0 (va_up (va_up (va_up R3 0 (va_up (R3 0) 2 (some 345))) 532 (fun _ => none) 0) 3 (some 532))) (2 + 82 * j) := fun j h => (hj j h).2.1.moved (fun q h1 h2 => ⟨by rw [gs q (by omega), (f3 q (by omega)).1, (f2 q (by omega)).1], by rw [g q (by omega) (by omega), (f3 q (by omega)).2.1 (by omega), (f2 q (by omega)).2.1 (by omega)]⟩)
      subst he
      exact go_vret d_CC_init_69 rfl (hQ (va_up sh3 532 (1, 5)) (va_up (va_up (va_up R3 0 (va_up (R3 0) 2 (some 345))) 532 (fun _ => none)) 0 (va_up (va_up (va_up R3 0 (va_up (R3 0) 2 (some 345))) 532 (fun _ => none) 0) 3 (some 532))) (va_up I3 532 (fun _ => 0)) _ ⟨⟨a03, by rw [gs 1 (by decide), (f3 1 (by decide)).1]; exact a1', by rw [gw_up_eq, gw_up_ne (by decide), gw_up_ne (by decide), gw_up_eq, gw_up_ne (by decide)]; exact f3R.1, fun j h => ⟨by rw [g 1 (by decide) (by decide), (f3 1 (by decide)).2.1 (by decide), (f2 1 (by decide)).2.1 (by decide)]; exact (hj j h).1, gm j h⟩⟩, by rw [gw_up_eq, gw_up_ne (by decide), gw_up_ne (by decide), gw_up_eq, gw_up_ne (by decide)]; exact f3R.2, by rw [gw_up_eq, gw_up_ne (by decide), gw_up_ne (by decide), gw_up_eq, gw_up_eq], by rw [gw_up_eq, gw_up_eq], by rw [gw_up_eq], by rw [gs _ (by decide), (f3 _ (by decide)).1]; exact p0, by rw [gs _ (by decide), (f3 _ (by decide)).1]; exact p1, by rw [gs _ (by decide), (f3 _ (by decide)).1]; exact p2, by rw [g _ (by decide) (by decide), (f3 _ (by decide)).2.1 (by decide)]; exact p3, by rw [g _ (by decide) (by decide), (f3 _ (by decide)).2.1 (by decide)]; exact p4, by rw [g _ (by decide) (by decide), (f3 _ (by decide)).2.1 (by decide)]; exact p5, fun i hi => by (obtain ⟨u1, u2⟩ := p7 i hi; have u3 := u2.moved (sh' := va_up sh3 532 (1, 5)) (R' := va_up (va_up (va_up R3 0 (va_up (R3 0) 2 (some 345))) 532 (fun _ => none)) 0 (va_up (va_up (va_up R3 0 (va_up (R3 0) 2 (some 345))) 532 (fun _ => none) 0) 3 (some 532))) (fun q h1 h2 => ⟨by rw [gs q (by omega), (f3 q (by omega)).1], by rw [g q (by omega) (by omega), (f3 q (by omega)).2.1 (by omega)]⟩); exact ⟨by rw [g _ (by decide) (by decide), (f3 _ (by decide)).2.1 (by decide)]; exact u1, u3⟩)⟩ ⟨by rw [gs _ (by decide)]; exact q0, by rw [gs _ (by decide)]; exact q1, by rw [g _ (by decide) (by decide)]; exact q3, by rw [g _ (by decide) (by decide)]; exact q4, by rw [g _ (by decide) (by decide)]; exact q5, q2.moved (fun q h1 h2 => ⟨gs q (by omega), g q (by omega) (by omega)⟩), fun i hi => ⟨by rw [g _ (by decide) (by decide)]; exact (q6 i hi).1, (q6 i hi).2.moved (fun q h1 h2 => ⟨gs q (by omega), g q (by omega) (by omega)⟩)⟩⟩ (fun m hm => ⟨_, (hj m hm).2.2.kept (by rw [g _ (by omega) (by omega), (f3 _ (by omega)).2.1 (by omega), (f2 _ (by omega)).2.1 (by omega)]) (fun q h1 h2 => by rw [gi q (by omega), (f3 _ (by omega)).2.2, (f2 _ (by omega)).2.2])⟩) ⟨by rw [gi _ (by decide), (f3 _ (by decide)).2.2, p6], by rw [gi _ (by decide), (f3 _ (by decide)).2.2, p6], by rw [gi _ (by decide), (f3 _ (by decide)).2.2, p6], by rw [gi _ (by decide), (f3 _ (by decide)).2.2, p6], by rw [gi _ (by decide), (f3 _ (by decide)).2.2, p6]; rfl, by decide, fun j v h => by cases h⟩)
    | succ r ih =>
      intro i x sh1 R1 I1 L1 hx hr a0 a1 hj
      refine go_bud (bc' := 82 * r + 203 + 81 + 1) (bs' := 386 * r + 1718 + 378 + gw_N 1) (by omega) (by show _ = 386 * r + 1718 + 378 + 8; omega) ?_
      refine go_iload_n 2 d_CC_init_11 rfl rfl ?_
      refine go_iconst (v := 4) d_CC_init_12 rfl ?_
      refine go_icmp_ge 33 d_CC_init_13 rfl (fun hn => absurd hn (by rw [hx]; exact nI_ge (b := 4) (by omega) (by decide))) (fun _ => ?_)
      refine go_aload_n 1 d_CC_init_16 rfl rfl ?_
      refine go_iload_n 2 d_CC_init_17 rfl rfl ?_
      refine go_new d_CC_init_18 c_CC_9 gw_k2Me (by omega) ?_
      refine go_dup d_CC_init_21 rfl ?_
      refine go_iload_n 2 d_CC_init_22 rfl rfl ?_
      refine go_bud (bc' := 82 * r + 203 + 81) (bs' := 386 * r + 1718 + 378) (by omega) (by omega) ?_
      refine go_I1 d_CC_init_23 k_CC_11 (Nat.le_of_ble_eq_true rfl) (c_Me_init (by rw [gw_up_eq]) (by rw [gw_up_eq]) (by omega) (fun sh2 R2 I2 L2 k1 k2 k3 k4 k5 k6 => ?_))
      have f : ∀ q, q < 2 + 82 * i → sh2 q = sh1 q ∧ R2 q = R1 q ∧ I2 q = I1 q ∧ L2 q = L1 q := fun q hq => by obtain ⟨u1, u2, u3, u4⟩ := k6 q hq; exact ⟨by rw [u1, gw_up_ne (by omega)], by rw [u2, gw_up_ne (by omega)], by rw [u3, gw_up_ne (by omega)], by rw [u4, gw_up_ne (by omega)]⟩
      have a1' : sh2 1 = (0 + 4, 4) := by rw [(f _ (by omega)).1]; exact a1
      have ap : sh2 (2 + 82 * i) = (0, 1) := k1.1
      refine go_aast (t := 0) (ci := 1) (i) d_CC_init_26 (by assumption) (by decide) rfl rfl (by assumption) (hx) (by omega) (by decide) ?_
      refine go_iinc d_CC_init_27 rfl rfl (Nat.le_of_ble_eq_true rfl) ?_
      refine go_goto 11 d_CC_init_30 rfl ?_
      exact ih (i + 1) _ sh2 _ I2 L2 (gw_inc hx) (by omega) (by rw [(f _ (by omega)).1]; exact a0) a1' (fun j hj2 => by by_cases he : j = i; (subst he; exact ⟨by rw [gw_up_eq, gw_up_eq], k1.moved (fun q h1 h2 => ⟨rfl, gw_up_ne (by omega)⟩), ⟨by rw [k4]; exact hx, k2, k3.kept rfl (gw_up_ne (by omega)) (fun q h1 h2 => rfl), k5⟩⟩); (obtain ⟨u1, u2, u3⟩ := hj j (by omega); exact ⟨by rw [gw_up_eq, gw_up_ne he, (f _ (by omega)).2.1]; exact u1, u2.moved (fun q h1 h2 => ⟨(f q (by omega)).1, by rw [gw_up_ne (by omega), (f q (by omega)).2.1]⟩), u3.kept (by rw [gw_up_ne (by omega), (f _ (by omega)).2.1]) (fun q h1 h2 => (f q (by omega)).2.2.1)⟩))
  obtain ⟨r, hr⟩ : ∃ r : Nat, r = 4 := ⟨4, rfl⟩
  refine go_bud (bc' := 82 * r + 203 + 1) (bs' := 386 * r + 1718 + 4) (by omega) (by omega) ?_
  refine go_aload_n 0 d_CC_init_0 rfl rfl ?_
  refine go_obj d_CC_init_1 j_CC_3 gw_jo1 gw_jo2 (Nat.le_of_ble_eq_true rfl) ?_
  refine go_iconst (v := 4) d_CC_init_4 rfl ?_
  refine go_newq (t := 0) (len := 4) d_CC_init_5 e_CC_9 v_Me (by decide) rfl rfl (by decide) (by omega) ?_
  refine go_astore_n 1 d_CC_init_8 rfl (Nat.le_of_ble_eq_true rfl) ?_
  refine go_iconst (v := 0) d_CC_init_9 rfl ?_
  refine go_istore_n 2 d_CC_init_10 rfl (Nat.le_of_ble_eq_true rfl) ?_
  exact loop r 0 _ _ _ _ _ rfl (by omega) (by rw [gw_up_ne (by decide)]; exact s0) (by rw [gw_up_eq]) (fun j hj => by omega)
end MK
