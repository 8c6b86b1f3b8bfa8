/-! the law: its constructors, its loop -/
section MK
variable {d : Nat} {sh : Nat → Nat × Nat} {X : Nat × (Nat → Int32)} {R : Nat → Nat → Option Nat} {I : Nat → Nat → Int32} {L : Nat → Nat → Int64} {Q : Option Value → gw_Mem → Prop}
theorem c_CC_init2 (s0 : sh 0 = (0, 0)) (hQ : ∀ sh' R' I' L', pt_CX sh' R' → pt_Ch sh' R' → cc_at R' I' (fun _ => ([], [(0, cu_0)], false)) → ma_at I' 0 0 0 0 [] → I' 532 = (fun _ => 0) → Q none (533, sh', X, R', I', L')) : gw_Call y_CC_init (d + 4) 532 3266 [.ref 0] (1, sh, X, R, I, L) Q := by
  refine gw_call o_CC_init (Nat.le_of_ble_eq_true rfl) ?_
  have loop : ∀ (r i : Nat) (x : Int32) (sh1 : Nat → Nat × Nat) (R1 : Nat → Nat → Option Nat) (I1 : Nat → Nat → Int32) (L1 : Nat → Nat → Int64), x = nI i → i + r = 4 → sh1 0 = (0, 0) → sh1 1 = (0 + 4, 4) → (∀ j, j < i → R1 1 j = some (2 + 82 * j) ∧ pt_Me sh1 R1 (2 + 82 * j) ∧ me_at R1 I1 j (fun i => i) ([], [(0, cu_0)], false)) → gw_Go y_CC_init (d + 4) (82 * r + 203) (386 * r + 1718) 11 [some (.ref 0), some (.ref 1), some (.int x)] [] (2 + 82 * i, sh1, X, R1, I1, L1) Q := by
    intro r
    induction r with
    | zero =>
      intro i x sh1 R1 I1 L1 hx hr a0 a1 hj
      have hi : i = 4 := by omega
      subst hi
      clear hr
      obtain ⟨e, he⟩ : ∃ e : Nat, e = 0 := ⟨0, rfl⟩
      refine go_bud (bc' := e + 202 + 1) (bs' := e + 1708 + gw_N 4) (by subst he; rfl) (by subst he; rfl) ?_
      refine go_iload_n 2 d_CC_init_11 rfl rfl ?_
      refine go_iconst (v := 4) d_CC_init_12 rfl ?_
      refine go_icmp_ge 33 d_CC_init_13 rfl (fun _ => ?_) (fun hn => absurd (by rw [hx]; decide) hn)
      refine go_aload_n 0 d_CC_init_33 rfl rfl ?_
      refine go_aload_n 1 d_CC_init_34 rfl rfl ?_
      refine go_putFR d_CC_init_35 f_CC_14 rfl rfl (by assumption) ?_
      refine go_aload_n 0 d_CC_init_38 rfl rfl ?_
      refine go_new d_CC_init_39 c_CC_18 gw_k2Ma (by omega) ?_
      refine go_dup d_CC_init_42 rfl ?_
      refine go_aload_n 1 d_CC_init_43 rfl rfl ?_
      refine go_bud (bc' := e + 188 + 14) (bs' := e + 1632 + 76) (by omega) (by omega) ?_
      refine go_I1 d_CC_init_44 k_CC_20 (Nat.le_of_ble_eq_true rfl) (c_Ma_init (d := d + 1) (o := 330) (p := 1) (by rw [gw_up_eq]) (by rw [gw_up_ne (by decide)]; exact a1) (by decide) (by rw [gw_up_eq]) (by omega) (fun sh2 R2 I2 L2 p0 p1 p2 p3 p4 p5 p6 p7 p8 => ?_))
      have f2 : ∀ q, q < 330 → sh2 q = sh1 q ∧ (q ≠ 0 → R2 q = R1 q) ∧ I2 q = I1 q := fun q hq => by obtain ⟨u1, u2, u3, u4⟩ := p8 q hq; exact ⟨by rw [u1, gw_up_ne (by omega)], fun h0 => by rw [u2, gw_up_ne (by omega), gw_up_ne (by omega)], by rw [u3, gw_up_ne (by omega)]⟩
      have f2R : R2 0 0 = some 1 := by rw [(p8 0 (by decide)).2.1, gw_up_ne (by decide), gw_up_eq, gw_up_eq]
      have a0' : sh2 0 = (0, 0) := by rw [(f2 _ (by decide)).1]; exact a0
      have a1' : sh2 1 = (0 + 4, 4) := by rw [(f2 _ (by decide)).1]; exact a1
      refine go_putFR d_CC_init_47 f_CC_23 rfl rfl (by assumption) ?_
      refine go_aload_n 0 d_CC_init_50 rfl rfl ?_
      refine go_bud (bc' := e + 187 + 1) (bs' := e + 1627 + gw_N 6) (by omega) (by show _ = e + 1627 + 5; omega) ?_
      refine go_new d_CC_init_51 c_CC_27 gw_k2Ch (by omega) ?_
      refine go_dup d_CC_init_54 rfl ?_
      refine go_aload_n 1 d_CC_init_55 rfl rfl ?_
      refine go_bud (bc' := e + 1 + 186) (bs' := e + 5 + 1622) (by omega) (by omega) ?_
      refine go_I1 (bc := e + 1) (bs := e + 5) (mc := 186) (ms := 1622) d_CC_init_56 k_CC_29 (Nat.le_of_ble_eq_true rfl) (c_Ch_init (d := d) (o := 345) (p := 1) (m0 := 2) (by rw [gw_up_eq]) (by rw [gw_up_ne (by decide)]; exact a1') (by decide) (by rw [gw_up_ne (by decide), gw_up_ne (by decide), (f2 1 (by decide)).2.1 (by decide)]; exact (hj 0 (by decide)).1) (by decide) (by rw [gw_up_ne (by decide), (f2 2 (by decide)).1]; exact (hj 0 (by decide)).2.1.1) (by omega) (fun sh3 R3 I3 L3 q0 q1 q2 q3 q4 q5 q6 q7 => ?_))
      have f3 : ∀ q, q < 345 → sh3 q = sh2 q ∧ (q ≠ 0 → R3 q = R2 q) ∧ I3 q = I2 q := fun q hq => by obtain ⟨u1, u2, u3, u4⟩ := q7 q hq; exact ⟨by rw [u1, gw_up_ne (by omega)], fun h0 => by rw [u2, gw_up_ne (by omega), gw_up_ne (by omega)], by rw [u3, gw_up_ne (by omega)]⟩
      have f3R : R3 0 0 = some 1 ∧ R3 0 1 = some 330 := by rw [(q7 0 (by decide)).2.1]; exact ⟨by rw [gw_up_ne (by decide), gw_up_eq, gw_up_ne (by decide)]; exact f2R, by rw [gw_up_ne (by decide), gw_up_eq, gw_up_eq]⟩
      have a02 : sh3 0 = (0, 0) := by rw [(f3 _ (by decide)).1]; exact a0'
      refine go_putFR d_CC_init_59 f_CC_30 rfl rfl (by assumption) ?_
      refine go_aload_n 0 d_CC_init_62 rfl rfl ?_
      refine go_iconst (v := 5) d_CC_init_63 rfl ?_
      refine go_newI (len := 5) d_CC_init_64 gw_aI rfl (by decide) (by omega) ?_
      have a03 : va_up sh3 532 (1, 5) 0 = (0, 0) := by rw [gw_up_ne (by decide)]; exact a02
      refine go_putFR d_CC_init_66 f_CC_34 rfl rfl (by assumption) ?_
      have g : ∀ q, q ≠ 0 → q < 532 → va_up (va_up (va_up R3 0 (va_up (R3 0) 2 (some 345))) 532 (fun _ => none)) 0 (va_up (va_up (va_up R3 0 (va_up (R3 0) 2 (some 345))) 532 (fun _ => none) 0) 3 (some 532)) q = R3 q := fun q h1 h2 => by rw [gw_up_ne (by omega), gw_up_ne (by omega), gw_up_ne (by omega)]
      have gs : ∀ q, q < 532 → va_up sh3 532 (1, 5) q = sh3 q := fun q h2 => by rw [gw_up_ne (by omega)]
      have gi : ∀ q, q < 532 → va_up I3 532 (fun _ => 0) q = I3 q := fun q h2 => by rw [gw_up_ne (by omega)]
      have gm : ∀ j, j < 4 → pt_Me (va_up sh3 532 (1, 5)) (va_up (va_up (va_up R3 0 (va_up (R3 0) 2 (some 345))) 532 (fun _ => none)) 0 (va_up (va_up (va_up R3 0 (va_up (R3 0) 2 (some 345))) 532 (fun _ => none) 0) 3 (some 532))) (2 + 82 * j) := fun j h => (hj j h).2.1.moved (fun q h1 h2 => ⟨by rw [gs q (by omega), (f3 q (by omega)).1, (f2 q (by omega)).1], by rw [g q (by omega) (by omega), (f3 q (by omega)).2.1 (by omega), (f2 q (by omega)).2.1 (by omega)]⟩)
      subst he
      exact go_vret d_CC_init_69 rfl (hQ (va_up sh3 532 (1, 5)) (va_up (va_up (va_up R3 0 (va_up (R3 0) 2 (some 345))) 532 (fun _ => none)) 0 (va_up (va_up (va_up R3 0 (va_up (R3 0) 2 (some 345))) 532 (fun _ => none) 0) 3 (some 532))) (va_up I3 532 (fun _ => 0)) _ ⟨⟨a03, by rw [gs 1 (by decide), (f3 1 (by decide)).1]; exact a1', by rw [gw_up_eq, gw_up_ne (by decide), gw_up_ne (by decide), gw_up_eq, gw_up_ne (by decide)]; exact f3R.1, fun j h => ⟨by rw [g 1 (by decide) (by decide), (f3 1 (by decide)).2.1 (by decide), (f2 1 (by decide)).2.1 (by decide)]; exact (hj j h).1, gm j h⟩⟩, by rw [gw_up_eq, gw_up_ne (by decide), gw_up_ne (by decide), gw_up_eq, gw_up_ne (by decide)]; exact f3R.2, by rw [gw_up_eq, gw_up_ne (by decide), gw_up_ne (by decide), gw_up_eq, gw_up_eq], by rw [gw_up_eq, gw_up_eq], by rw [gw_up_eq], by rw [gs _ (by decide), (f3 _ (by decide)).1]; exact p0, by rw [gs _ (by decide), (f3 _ (by decide)).1]; exact p1, by rw [gs _ (by decide), (f3 _ (by decide)).1]; exact p2, by rw [g _ (by decide) (by decide), (f3 _ (by decide)).2.1 (by decide)]; exact p3, by rw [g _ (by decide) (by decide), (f3 _ (by decide)).2.1 (by decide)]; exact p4, by rw [g _ (by decide) (by decide), (f3 _ (by decide)).2.1 (by decide)]; exact p5, fun i hi => by (obtain ⟨u1, u2⟩ := p7 i hi; have u3 := u2.moved (sh' := va_up sh3 532 (1, 5)) (R' := va_up (va_up (va_up R3 0 (va_up (R3 0) 2 (some 345))) 532 (fun _ => none)) 0 (va_up (va_up (va_up R3 0 (va_up (R3 0) 2 (some 345))) 532 (fun _ => none) 0) 3 (some 532))) (fun q h1 h2 => ⟨by rw [gs q (by omega), (f3 q (by omega)).1], by rw [g q (by omega) (by omega), (f3 q (by omega)).2.1 (by omega)]⟩); exact ⟨by rw [g _ (by decide) (by decide), (f3 _ (by decide)).2.1 (by decide)]; exact u1, u3⟩)⟩ ⟨by rw [gs _ (by decide)]; exact q0, by rw [gs _ (by decide)]; exact q1, by rw [g _ (by decide) (by decide)]; exact q3, by rw [g _ (by decide) (by decide)]; exact q4, by rw [g _ (by decide) (by decide)]; exact q5, q2.moved (fun q h1 h2 => ⟨gs q (by omega), g q (by omega) (by omega)⟩), fun i hi => ⟨by rw [g _ (by decide) (by decide)]; exact (q6 i hi).1, (q6 i hi).2.moved (fun q h1 h2 => ⟨gs q (by omega), g q (by omega) (by omega)⟩)⟩⟩ (fun m hm => ⟨_, (hj m hm).2.2.kept (by rw [g _ (by omega) (by omega), (f3 _ (by omega)).2.1 (by omega), (f2 _ (by omega)).2.1 (by omega)]) (fun q h1 h2 => by rw [gi q (by omega), (f3 _ (by omega)).2.2, (f2 _ (by omega)).2.2])⟩) ⟨by rw [gi _ (by decide), (f3 _ (by decide)).2.2, p6], by rw [gi _ (by decide), (f3 _ (by decide)).2.2, p6], by rw [gi _ (by decide), (f3 _ (by decide)).2.2, p6], by rw [gi _ (by decide), (f3 _ (by decide)).2.2, p6], by rw [gi _ (by decide), (f3 _ (by decide)).2.2, p6]; rfl, by decide, fun j v h => by cases h⟩ (by rw [gw_up_eq]))
    | succ r ih =>
      intro i x sh1 R1 I1 L1 hx hr a0 a1 hj
      refine go_bud (bc' := 82 * r + 203 + 81 + 1) (bs' := 386 * r + 1718 + 378 + gw_N 1) (by omega) (by show _ = 386 * r + 1718 + 378 + 8; omega) ?_
      refine go_iload_n 2 d_CC_init_11 rfl rfl ?_
      refine go_iconst (v := 4) d_CC_init_12 rfl ?_
      refine go_icmp_ge 33 d_CC_init_13 rfl (fun hn => absurd hn (by rw [hx]; exact nI_ge (b := 4) (by omega) (by decide))) (fun _ => ?_)
      refine go_aload_n 1 d_CC_init_16 rfl rfl ?_
      refine go_iload_n 2 d_CC_init_17 rfl rfl ?_
      refine go_new d_CC_init_18 c_CC_9 gw_k2Me (by omega) ?_
      refine go_dup d_CC_init_21 rfl ?_
      refine go_iload_n 2 d_CC_init_22 rfl rfl ?_
      refine go_bud (bc' := 82 * r + 203 + 81) (bs' := 386 * r + 1718 + 378) (by omega) (by omega) ?_
      refine go_I1 d_CC_init_23 k_CC_11 (Nat.le_of_ble_eq_true rfl) (c_Me_init (by rw [gw_up_eq]) (by rw [gw_up_eq]) (by omega) (fun sh2 R2 I2 L2 k1 k2 k3 k4 k5 k6 => ?_))
      have f : ∀ q, q < 2 + 82 * i → sh2 q = sh1 q ∧ R2 q = R1 q ∧ I2 q = I1 q ∧ L2 q = L1 q := fun q hq => by obtain ⟨u1, u2, u3, u4⟩ := k6 q hq; exact ⟨by rw [u1, gw_up_ne (by omega)], by rw [u2, gw_up_ne (by omega)], by rw [u3, gw_up_ne (by omega)], by rw [u4, gw_up_ne (by omega)]⟩
      have a1' : sh2 1 = (0 + 4, 4) := by rw [(f _ (by omega)).1]; exact a1
      have ap : sh2 (2 + 82 * i) = (0, 1) := k1.1
      refine go_aast (t := 0) (ci := 1) (i) d_CC_init_26 (by assumption) (by decide) rfl rfl (by assumption) (hx) (by omega) (by decide) ?_
      refine go_iinc d_CC_init_27 rfl rfl (Nat.le_of_ble_eq_true rfl) ?_
      refine go_goto 11 d_CC_init_30 rfl ?_
      exact ih (i + 1) _ sh2 _ I2 L2 (gw_inc hx) (by omega) (by rw [(f _ (by omega)).1]; exact a0) a1' (fun j hj2 => by by_cases he : j = i; (subst he; exact ⟨by rw [gw_up_eq, gw_up_eq], k1.moved (fun q h1 h2 => ⟨rfl, gw_up_ne (by omega)⟩), ⟨by rw [k4]; exact hx, k2, k3.kept rfl (gw_up_ne (by omega)) (fun q h1 h2 => rfl), k5⟩⟩); (obtain ⟨u1, u2, u3⟩ := hj j (by omega); exact ⟨by rw [gw_up_eq, gw_up_ne he, (f _ (by omega)).2.1]; exact u1, u2.moved (fun q h1 h2 => ⟨(f q (by omega)).1, by rw [gw_up_ne (by omega), (f q (by omega)).2.1]⟩), u3.kept (by rw [gw_up_ne (by omega), (f _ (by omega)).2.1]) (fun q h1 h2 => (f q (by omega)).2.2.1)⟩))
  obtain ⟨r, hr⟩ : ∃ r : Nat, r = 4 := ⟨4, rfl⟩
  refine go_bud (bc' := 82 * r + 203 + 1) (bs' := 386 * r + 1718 + 4) (by omega) (by omega) ?_
  refine go_aload_n 0 d_CC_init_0 rfl rfl ?_
  refine go_obj d_CC_init_1 j_CC_3 gw_jo1 gw_jo2 (Nat.le_of_ble_eq_true rfl) ?_
  refine go_iconst (v := 4) d_CC_init_4 rfl ?_
  refine go_newq (t := 0) (len := 4) d_CC_init_5 e_CC_9 v_Me (by decide) rfl rfl (by decide) (by omega) ?_
  refine go_astore_n 1 d_CC_init_8 rfl (Nat.le_of_ble_eq_true rfl) ?_
  refine go_iconst (v := 0) d_CC_init_9 rfl ?_
  refine go_istore_n 2 d_CC_init_10 rfl (Nat.le_of_ble_eq_true rfl) ?_
  exact loop r 0 _ _ _ _ _ rfl (by omega) (by rw [gw_up_ne (by decide)]; exact s0) (by rw [gw_up_eq]) (fun j hj => by omega)
end MK
theorem pt_CX.moved {sh sh' : Nat → Nat × Nat} {R R' : Nat → Nat → Option Nat} (h : pt_CX sh R) (hq : ∀ q, q < 533 → sh' q = sh q ∧ R' q = R q) : pt_CX sh' R' := by
  obtain ⟨⟨a1, a2, a3, a4⟩, b1, b2, b3, b4, c1, c2, c3, c4, c5, c6, c7⟩ := h
  exact ⟨⟨by rw [(hq _ (by decide)).1]; exact a1, by rw [(hq _ (by decide)).1]; exact a2, by rw [(hq _ (by decide)).2]; exact a3, fun m hm => ⟨by rw [(hq _ (by decide)).2]; exact (a4 m hm).1, (a4 m hm).2.moved (fun q h1 h2 => hq q (by omega))⟩⟩, by rw [(hq _ (by decide)).2]; exact b1, by rw [(hq _ (by decide)).2]; exact b2, by rw [(hq _ (by decide)).2]; exact b3, by rw [(hq _ (by decide)).1]; exact b4, by rw [(hq _ (by decide)).1]; exact c1, by rw [(hq _ (by decide)).1]; exact c2, by rw [(hq _ (by decide)).1]; exact c3, by rw [(hq _ (by decide)).2]; exact c4, by rw [(hq _ (by decide)).2]; exact c5, by rw [(hq _ (by decide)).2]; exact c6, fun i hi => by
    obtain ⟨d1, d2, d3, d4, d5, d6⟩ := c7 i hi
    exact ⟨by rw [(hq _ (by decide)).2]; exact d1, by rw [(hq _ (by omega)).1]; exact d2, by rw [(hq _ (by omega)).1]; exact d3, by rw [(hq _ (by omega)).1]; exact d4, by rw [(hq _ (by omega)).2]; exact d5, by rw [(hq _ (by omega)).2]; exact d6⟩⟩
theorem pt_Ch.moved {sh sh' : Nat → Nat × Nat} {R R' : Nat → Nat → Option Nat} (h : pt_Ch sh R) (hq : ∀ q, q < 533 → sh' q = sh q ∧ R' q = R q) : pt_Ch sh' R' := by
  obtain ⟨a1, a2, a3, a4, a5, a6, a7⟩ := h
  exact ⟨by rw [(hq _ (by decide)).1]; exact a1, by rw [(hq _ (by decide)).1]; exact a2, by rw [(hq _ (by decide)).2]; exact a3, by rw [(hq _ (by decide)).2]; exact a4, by rw [(hq _ (by decide)).2]; exact a5, a6.moved (fun q h1 h2 => hq q (by omega)), fun i hi => ⟨by rw [(hq _ (by decide)).2]; exact (a7 i hi).1, (a7 i hi).2.moved (fun q h1 h2 => hq q (by omega))⟩⟩
section LB
variable {nm : String} {d : Nat} {X : Nat × (Nat → Int32)} {Q : Option Value → gw_Mem → Prop}
theorem la_loop {sh : Nat → Nat × Nat} (hX0 : X.1 ≤ 3072) (hQ : ∀ M, Q (some (.int 1)) M) : ∀ (f j : Nat) (z : Int32) (R : Nat → Nat → Option Nat) (I : Nat → Nat → Int32) (L : Nat → Nat → Int64) (S U : Nat → ab_Me), X.1 ≤ j + f → j ≤ 4000 → z = nI j → la_iv sh R I S U → gw_Go (y_La nm) (d + 40) 0 0 18 [some (.ref 1048576), some (.ref 0), some (.ref 533), some (.int z)] [] (558, sh, X, R, I, L) Q := by
  have hX : X.1 < 2 ^ 31 := by omega
  intro f
  induction f with
  | zero =>
    intro j z R I L S U hf hj0 hz hi
    have hgt : nI X.1 - 6 < z := by rw [Int32.lt_iff_toInt_lt, hz, show (6 : Int32) = nI 6 from rfl, pk_sub_toInt (by omega) (by decide), nI_toInt (by omega)]; omega
    refine go_iload_n 3 d_La_law_18 rfl rfl ?_
    refine go_aload_n 0 d_La_law_19 rfl rfl ?_
    refine go_slen d_La_law_20 ?_
    refine go_bipush (v := 6) d_La_law_21 rfl ?_
    refine go_isub d_La_law_23 ?_
    refine go_icmp_gt 616 d_La_law_24 rfl (fun _ => ?_) (fun hn => absurd (hgt) hn)
    refine go_iconst (v := 1) d_La_law_616 rfl ?_
    exact go_zret d_La_law_617 rfl (Or.inr rfl) (hQ _)
  | succ f ih =>
    intro j z R I L S U hf hj0 hz hi
    by_cases hj : j + 6 ≤ X.1
    · have hgt : ¬ nI X.1 - 6 < z := by rw [Int32.lt_iff_toInt_lt, hz, show (6 : Int32) = nI 6 from rfl, pk_sub_toInt (by omega) (by decide), nI_toInt (by omega)]; omega
      have next : ∀ (R' : Nat → Nat → Option Nat) (I' : Nat → Nat → Int32) (L' : Nat → Nat → Int64) (S' U' : Nat → ab_Me), la_iv sh R' I' S' U' → gw_Go (y_La nm) (d + 40) 0 0 610 [some (.ref 1048576), some (.ref 0), some (.ref 533), some (.int z)] [] (558, sh, X, R', I', L') Q := by
        intro R' I' L' S' U' hi'
        refine go_iinc d_La_law_610 rfl rfl (Nat.le_of_ble_eq_true rfl) ?_
        refine go_goto 18 d_La_law_613 rfl ?_
        exact ih (j + 6) _ R' I' L' S' U' (by omega) (by omega) (by rw [hz]; exact nI_add j 6) hi'
      refine go_iload_n 3 d_La_law_18 rfl rfl ?_
      refine go_aload_n 0 d_La_law_19 rfl rfl ?_
      refine go_slen d_La_law_20 ?_
      refine go_bipush (v := 6) d_La_law_21 rfl ?_
      refine go_isub d_La_law_23 ?_
      refine go_icmp_gt 616 d_La_law_24 rfl (fun hn => absurd hn (hgt)) (fun _ => ?_)
      refine go_aload_n 0 d_La_law_27 rfl rfl ?_
      refine go_iload_n 3 d_La_law_28 rfl rfl ?_
      refine go_sld (j) d_La_law_29 (hz) (by omega) (by assumption) ?_
      refine go_bipush (v := 15) d_La_law_30 rfl ?_
      refine go_iand d_La_law_32 ?_
      skip
      by_cases h0 : X.2 j &&& 15 = 0
      · rw [h0]
        exact go_tableIn 100 d_La_law_33 (by decide) (by decide) rfl rfl (la_0 hX hz hj hi next)
      by_cases h1 : X.2 j &&& 15 = 1
      · rw [h1]
        exact go_tableIn 143 d_La_law_33 (by decide) (by decide) rfl rfl (la_1 hX hz hj hi next)
      by_cases h2 : X.2 j &&& 15 = 2
      · rw [h2]
        exact go_tableIn 166 d_La_law_33 (by decide) (by decide) rfl rfl (la_2 hX hz hj hi next)
      by_cases h3 : X.2 j &&& 15 = 3
      · rw [h3]
        exact go_tableIn 199 d_La_law_33 (by decide) (by decide) rfl rfl (la_3 hX hz hj hi next)
      by_cases h4 : X.2 j &&& 15 = 4
      · rw [h4]
        exact go_tableIn 262 d_La_law_33 (by decide) (by decide) rfl rfl (la_4 hX hz hj hi next)
      by_cases h5 : X.2 j &&& 15 = 5
      · rw [h5]
        exact go_tableIn 315 d_La_law_33 (by decide) (by decide) rfl rfl (la_5 hX hz hj hi next)
      by_cases h6 : X.2 j &&& 15 = 6
      · rw [h6]
        exact go_tableIn 378 d_La_law_33 (by decide) (by decide) rfl rfl (la_6 hX hz hj hi next)
      by_cases h7 : X.2 j &&& 15 = 7
      · rw [h7]
        exact go_tableIn 401 d_La_law_33 (by decide) (by decide) rfl rfl (la_7 hX hz hj hi next)
      by_cases h8 : X.2 j &&& 15 = 8
      · rw [h8]
        exact go_tableIn 424 d_La_law_33 (by decide) (by decide) rfl rfl (la_8 hX hz hj hi next)
      by_cases h9 : X.2 j &&& 15 = 9
      · rw [h9]
        exact go_tableIn 488 d_La_law_33 (by decide) (by decide) rfl rfl (la_9 hX hz hj hi next)
      by_cases h10 : X.2 j &&& 15 = 10
      · rw [h10]
        exact go_tableIn 511 d_La_law_33 (by decide) (by decide) rfl rfl (la_10 hX hz hj hi next)
      by_cases h11 : X.2 j &&& 15 = 11
      · rw [h11]
        exact go_tableIn 534 d_La_law_33 (by decide) (by decide) rfl rfl (la_11 hX hz hj hi next)
      by_cases h12 : X.2 j &&& 15 = 12
      · rw [h12]
        exact go_tableIn 587 d_La_law_33 (by decide) (by decide) rfl rfl (la_12 hX hz hj hi next)
      · have hout : (X.2 j &&& 15).toInt < 0 ∨ 12 < (X.2 j &&& 15).toInt := by
          have e0 : ¬ (X.2 j &&& 15).toInt = 0 := fun e => h0 (Int32.toInt_inj.mp (e.trans rfl))
          have e1 : ¬ (X.2 j &&& 15).toInt = 1 := fun e => h1 (Int32.toInt_inj.mp (e.trans rfl))
          have e2 : ¬ (X.2 j &&& 15).toInt = 2 := fun e => h2 (Int32.toInt_inj.mp (e.trans rfl))
          have e3 : ¬ (X.2 j &&& 15).toInt = 3 := fun e => h3 (Int32.toInt_inj.mp (e.trans rfl))
          have e4 : ¬ (X.2 j &&& 15).toInt = 4 := fun e => h4 (Int32.toInt_inj.mp (e.trans rfl))
          have e5 : ¬ (X.2 j &&& 15).toInt = 5 := fun e => h5 (Int32.toInt_inj.mp (e.trans rfl))
          have e6 : ¬ (X.2 j &&& 15).toInt = 6 := fun e => h6 (Int32.toInt_inj.mp (e.trans rfl))
          have e7 : ¬ (X.2 j &&& 15).toInt = 7 := fun e => h7 (Int32.toInt_inj.mp (e.trans rfl))
          have e8 : ¬ (X.2 j &&& 15).toInt = 8 := fun e => h8 (Int32.toInt_inj.mp (e.trans rfl))
          have e9 : ¬ (X.2 j &&& 15).toInt = 9 := fun e => h9 (Int32.toInt_inj.mp (e.trans rfl))
          have e10 : ¬ (X.2 j &&& 15).toInt = 10 := fun e => h10 (Int32.toInt_inj.mp (e.trans rfl))
          have e11 : ¬ (X.2 j &&& 15).toInt = 11 := fun e => h11 (Int32.toInt_inj.mp (e.trans rfl))
          have e12 : ¬ (X.2 j &&& 15).toInt = 12 := fun e => h12 (Int32.toInt_inj.mp (e.trans rfl))
          omega
        exact go_tableOut 610 d_La_law_33 hout rfl (next R I L S U hi)
    · have hgt : nI X.1 - 6 < z := by rw [Int32.lt_iff_toInt_lt, hz, show (6 : Int32) = nI 6 from rfl, pk_sub_toInt (by omega) (by decide), nI_toInt (by omega)]; omega
      refine go_iload_n 3 d_La_law_18 rfl rfl ?_
      refine go_aload_n 0 d_La_law_19 rfl rfl ?_
      refine go_slen d_La_law_20 ?_
      refine go_bipush (v := 6) d_La_law_21 rfl ?_
      refine go_isub d_La_law_23 ?_
      refine go_icmp_gt 616 d_La_law_24 rfl (fun _ => ?_) (fun hn => absurd (hgt) hn)
      refine go_iconst (v := 1) d_La_law_616 rfl ?_
      exact go_zret d_La_law_617 rfl (Or.inr rfl) (hQ _)
theorem la_start {sh : Nat → Nat × Nat} {R : Nat → Nat → Option Nat} {I : Nat → Nat → Int32} {L : Nat → Nat → Int64} (hX0 : X.1 ≤ 3072) (hQ : ∀ M, Q (some (.int 1)) M) : gw_Go (y_La nm) (d + 40) 558 8997 0 [some (.ref 1048576), none, none, none] [] (0, sh, X, R, I, L) Q := by
  obtain ⟨e, he⟩ : ∃ e : Nat, e = 0 := ⟨0, rfl⟩
  refine go_bud (bc' := e + 557 + 1) (bs' := e + 8993 + gw_N 0) (by omega) (by show _ = e + 8993 + 4; omega) ?_
  refine go_new d_La_law_0 c_La_7 gw_k2CC (by decide) ?_
  refine go_dup d_La_law_3 rfl ?_
  refine go_bud (bc' := e + 25 + 532) (bs' := e + 5727 + 3266) (by omega) (by omega) ?_
  refine go_I0 (bc := e + 25) (bs := e + 5727) (mc := 532) (ms := 3266) d_La_law_4 k_La_9 (Nat.le_of_ble_eq_true rfl) (c_CC_init2 (d := d + 35) (by rw [gw_up_eq]) (fun sh1 R1 I1 L1 p1 p2 p3 p4 p5 => ?_))
  refine go_astore_n 1 d_La_law_7 rfl (Nat.le_of_ble_eq_true rfl) ?_
  refine go_bud (bc' := e + 24 + 1) (bs' := e + 5694 + gw_N 11) (by omega) (by show _ = e + 5694 + 33; omega) ?_
  refine go_new d_La_law_8 c_La_10 gw_k2Mo (by omega) ?_
  refine go_dup d_La_law_11 rfl ?_
  refine go_bud (bc' := e + 24) (bs' := e + 5694) (by omega) (by omega) ?_
  refine go_I0 (bc := e) (bs := e) (mc := 24) (ms := 5694) d_La_law_12 k_La_12 (Nat.le_of_ble_eq_true rfl) (c_Mo_init (d := d + 38) (by rw [gw_up_eq]) (by rw [gw_up_eq]) (fun sh2 R2 I2 L2 q1 q2 q3 q4 => ?_))
  refine go_astore_n 2 d_La_law_15 rfl (Nat.le_of_ble_eq_true rfl) ?_
  refine go_iconst (v := 0) d_La_law_16 rfl ?_
  refine go_istore_n 3 d_La_law_17 rfl (Nat.le_of_ble_eq_true rfl) ?_
  subst he
  have f : ∀ q, q < 533 → sh2 q = sh1 q ∧ R2 q = R1 q ∧ I2 q = I1 q := fun q hq => by
    obtain ⟨u1, u2, u3, u4⟩ := q4 q hq
    exact ⟨by rw [u1, gw_up_ne (by omega)], by rw [u2, gw_up_ne (by omega)], by rw [u3, gw_up_ne (by omega)]⟩
  exact la_loop hX0 hQ X.1 0 0 R2 I2 L2 _ _ (by omega) (by decide) rfl ⟨p1.moved (fun q hq => ⟨(f q hq).1, (f q hq).2.1⟩), p2.moved (fun q hq => ⟨(f q hq).1, (f q hq).2.1⟩), q1, p3.keptR (fun q hq => (f q (by omega)).2.1) (fun q hq => (f q (by omega)).2.2), q2, fun _ => iv1_0, ⟨0, 0, 0, 0, [], p4.kept (f _ (by decide)).2.2 (f _ (by decide)).2.2, q3⟩, by rw [(f _ (by decide)).2.2, p5], by rw [(f _ (by decide)).2.2, p5]⟩
end LB
