/-! Path -/
/-- a stack of symbols, its top first, laid from place 0 up -/
def sk_at (f : Nat → Int32) (g : Nat → Int64) : List ab_Sy → Prop
  | [] => True
  | v :: vs => sd_at (f vs.length) (g vs.length) v ∧ sk_at f g vs
theorem sk_at.up {f : Nat → Int32} {g : Nat → Int64} : ∀ {l : List ab_Sy} {k : Nat} {x : Int32} {v : Int64}, l.length ≤ k → sk_at f g l → sk_at (va_up f k x) (va_up g k v) l
  | [], _, _, _, _, _ => trivial
  | w :: vs, k, x, v, hk, h => ⟨by rw [List.length_cons] at hk; rw [gw_up_ne (by omega), gw_up_ne (by omega)]; exact h.1, sk_at.up (by rw [List.length_cons] at hk; omega) h.2⟩
theorem sk_at.cpy {f f' : Nat → Int32} {g g' : Nat → Int64} : ∀ {l : List ab_Sy}, (∀ j, j < l.length → f' j = f j ∧ g' j = g j) → sk_at f g l → sk_at f' g' l
  | [], _, _ => trivial
  | w :: vs, hj, h => ⟨by rw [(hj _ (by rw [List.length_cons]; omega)).1, (hj _ (by rw [List.length_cons]; omega)).2]; exact h.1, sk_at.cpy (fun j h1 => hj j (by rw [List.length_cons]; omega)) h.2⟩
def pt_Pa (sh : Nat → Nat × Nat) (R : Nat → Nat → Option Nat) (o : Nat) : Prop := sh o = (0, 7) ∧ pt_Sy sh R (o + 1) ∧ sh (o + 4) = (1, 6) ∧ sh (o + 5) = (2, 6) ∧ pt_Kn sh R (o + 6) ∧ sh (o + 8) = (5 + 4, 2) ∧ pt_Ba sh R (o + 9) ∧ pt_Ba sh R (o + 11) ∧ R o 0 = some (o + 1) ∧ R o 1 = some (o + 4) ∧ R o 2 = some (o + 5) ∧ R o 6 = some (o + 6) ∧ R o 7 = some (o + 8) ∧ R (o + 8) 0 = some (o + 9) ∧ R (o + 8) 1 = some (o + 11)
/-- the path at o: its place, how many instructions were made, stack, locals, least weights, balances -/
def pa_at (I : Nat → Nat → Int32) (L : Nat → Nat → Int64) (o : Nat) (p : Int32) (md : Nat) (st : List ab_Sy) (lo : Nat → ab_Sy) (C : sp_E) (b0 b1 : ab_Ba) : Prop := I o 3 = nI st.length ∧ I o 4 = p ∧ I o 5 = nI md ∧ sk_at (I (o + 4)) (L (o + 5)) st ∧ sy_at I L (o + 1) lo ∧ kn_at L (o + 6) C ∧ ba_at L (o + 9) b0 ∧ ba_at L (o + 11) b1
theorem sy_at.kept {I I' : Nat → Nat → Int32} {L L' : Nat → Nat → Int64} {o : Nat} {f : Nat → ab_Sy} (h : sy_at I L o f) (h1 : I' (o + 1) = I (o + 1)) (h2 : L' (o + 2) = L (o + 2)) : sy_at I' L' o f := fun j hj => by rw [h1, h2]; exact h j hj
theorem pa_at.kept {I I' : Nat → Nat → Int32} {L L' : Nat → Nat → Int64} {o md : Nat} {p : Int32} {st : List ab_Sy} {lo : Nat → ab_Sy} {C : sp_E} {b0 b1 : ab_Ba} (h : pa_at I L o p md st lo C b0 b1) (hI : ∀ q, o ≤ q → q < o + 13 → I' q = I q) (hL : ∀ q, o ≤ q → q < o + 13 → L' q = L q) : pa_at I' L' o p md st lo C b0 b1 := by
  obtain ⟨a1, a2, a3, a4, a5, a6, a7, a8⟩ := h
  refine ⟨by rw [hI o (by omega) (by omega)]; exact a1, by rw [hI o (by omega) (by omega)]; exact a2, by rw [hI o (by omega) (by omega)]; exact a3, by rw [hI (o + 4) (by omega) (by omega), hL (o + 5) (by omega) (by omega)]; exact a4, a5.kept (hI _ (by omega) (by omega)) (hL _ (by omega) (by omega)), a6.kept (hL _ (by omega) (by omega)), a7.kept (hL _ (by omega) (by omega)) (hL _ (by omega) (by omega)), a8.kept (hL _ (by omega) (by omega)) (hL _ (by omega) (by omega))⟩
theorem pa_at.drop {I : Nat → Nat → Int32} {L : Nat → Nat → Int64} {o md : Nat} {p : Int32} {y : ab_Sy} {st : List ab_Sy} {lo : Nat → ab_Sy} {C : sp_E} {b0 b1 : ab_Ba} (h : pa_at I L o p md (y :: st) lo C b0 b1) : pa_at (va_up I o (va_up (I o) 3 (nI st.length))) L o p md st lo C b0 b1 ∧ sd_at (I (o + 4) st.length) (L (o + 5) st.length) y := by
  obtain ⟨a1, a2, a3, a4, a5, a6, a7, a8⟩ := h
  exact ⟨⟨by rw [gw_up_eq, gw_up_eq], by rw [gw_up_eq, gw_up_ne (by omega)]; exact a2, by rw [gw_up_eq, gw_up_ne (by omega)]; exact a3, by rw [gw_up_ne (by omega)]; exact a4.2, a5.kept (gw_up_ne (by omega)) rfl, a6, a7, a8⟩, a4.1⟩
def sy_sum (x y : ab_Sy) : ab_Sy := match x, y with
  | some q, some r => if r.1 = 4 then some (q.1, q.2 + r.2) else if q.1 = 4 then some (r.1, q.2 + r.2) else none
  | _, _ => none
def sy_dif (x y : ab_Sy) : ab_Sy := match x, y with
  | some q, some r => if r.1 = 4 then some (q.1, q.2 - r.2) else if q.1 = r.1 then some (4, q.2 - r.2) else none
  | _, _ => none
def sy_up (nn : Int32) : ab_Sy → ab_Sy
  | none => none
  | some q => some (q.1, q.2 + nn.toInt64)
theorem sd_4 {x : Int32} {v : Int64} {y : ab_Sy} (h : sd_at x v y) : x = 4 ↔ ∃ q, y = some q ∧ q.1 = 4 := by
  cases y with
  | none => exact ⟨fun e => by rw [show x = -1 from h] at e; exact absurd e (by decide), fun ⟨q, e, _⟩ => by cases e⟩
  | some q => exact ⟨fun e => ⟨q, rfl, (nI_eq (b := 4) (by have := h.2.1; omega) (by decide)).mp (h.1.symm.trans e)⟩, fun ⟨r, e, e4⟩ => by cases e; rw [h.1, e4]; rfl⟩
theorem sd_sum1 {x z : Int32} {u v : Int64} {a b : ab_Sy} (ha : sd_at x u a) (hb : sd_at z v b) (h : z = 4) : sd_at x (u + v) (sy_sum a b) := by
  obtain ⟨r, rfl, h4⟩ := (sd_4 hb).mp h
  cases a with
  | none => exact ha
  | some q =>
    show sd_at _ _ (if r.1 = 4 then _ else _)
    rw [if_pos h4]
    exact ⟨ha.1, ha.2.1, by rw [ha.2.2, hb.2.2]⟩
theorem sd_sum2 {x z : Int32} {u v : Int64} {a b : ab_Sy} (ha : sd_at x u a) (hb : sd_at z v b) (h : ¬ z = 4) (h' : x = 4) : sd_at z (u + v) (sy_sum a b) := by
  obtain ⟨q, rfl, h4⟩ := (sd_4 ha).mp h'
  cases b with
  | none => exact hb
  | some r =>
    show sd_at _ _ (if r.1 = 4 then _ else if q.1 = 4 then _ else _)
    rw [if_neg (fun e => h ((sd_4 hb).mpr ⟨r, rfl, e⟩)), if_pos h4]
    exact ⟨hb.1, hb.2.1, by rw [ha.2.2, hb.2.2]⟩
theorem sd_sum3 {x z : Int32} {u v w : Int64} {a b : ab_Sy} (ha : sd_at x u a) (hb : sd_at z v b) (h : ¬ z = 4) (h' : ¬ x = 4) : sd_at (-1) w (sy_sum a b) := by
  cases a with
  | none => cases b <;> exact rfl
  | some q => cases b with
    | none => exact rfl
    | some r =>
      show sd_at _ _ (if r.1 = 4 then _ else if q.1 = 4 then _ else _)
      rw [if_neg (fun e => h ((sd_4 hb).mpr ⟨r, rfl, e⟩)), if_neg (fun e => h' ((sd_4 ha).mpr ⟨q, rfl, e⟩))]
      exact rfl
theorem sd_dif1 {x z : Int32} {u v : Int64} {a b : ab_Sy} (ha : sd_at x u a) (hb : sd_at z v b) (h : z = 4) : sd_at x (u - v) (sy_dif a b) := by
  obtain ⟨r, rfl, h4⟩ := (sd_4 hb).mp h
  cases a with
  | none => exact ha
  | some q =>
    show sd_at _ _ (if r.1 = 4 then _ else _)
    rw [if_pos h4]
    exact ⟨ha.1, ha.2.1, by rw [ha.2.2, hb.2.2]⟩
theorem sd_eq {x z : Int32} {u v : Int64} {q r : Nat × Int64} (ha : sd_at x u (some q)) (hb : sd_at z v (some r)) : x = z ↔ q.1 = r.1 := by
  rw [ha.1, hb.1]
  exact nI_eq (by have := ha.2.1; omega) (by have := hb.2.1; omega)
theorem sd_dif2 {x z : Int32} {u v : Int64} {a b : ab_Sy} (ha : sd_at x u a) (hb : sd_at z v b) (h : ¬ z = 4) (h' : x = z) (h1 : ¬ x = -1) : sd_at 4 (u - v) (sy_dif a b) := by
  cases a with
  | none => exact absurd ha h1
  | some q => cases b with
    | none => exact absurd (h'.trans hb) h1
    | some r =>
      show sd_at _ _ (if r.1 = 4 then _ else if q.1 = r.1 then _ else _)
      rw [if_neg (fun e => h ((sd_4 hb).mpr ⟨r, rfl, e⟩)), if_pos ((sd_eq ha hb).mp h')]
      exact ⟨rfl, by show 4 < 5; decide, by rw [ha.2.2, hb.2.2]⟩
theorem sd_dif3 {x z : Int32} {u v w : Int64} {a b : ab_Sy} (ha : sd_at x u a) (hb : sd_at z v b) (h : ¬ z = 4) (h' : ¬ x = z ∨ x = -1) : sd_at (-1) w (sy_dif a b) := by
  cases a with
  | none => cases b <;> exact rfl
  | some q => cases b with
    | none => exact rfl
    | some r =>
      show sd_at _ _ (if r.1 = 4 then _ else if q.1 = r.1 then _ else _)
      rw [if_neg (fun e => h ((sd_4 hb).mpr ⟨r, rfl, e⟩)), if_neg (fun e => by rcases h' with h' | h'; exact h' ((sd_eq ha hb).mpr e); cases (sd_none ha).mp h')]
      exact rfl
section PA
variable {d n : Nat} {sh : Nat → Nat × Nat} {X : Nat × (Nat → Int32)} {R : Nat → Nat → Option Nat} {I : Nat → Nat → Int32} {L : Nat → Nat → Int64} {Q : Option Value → gw_Mem → Prop} {o md : Nat} {p : Int32} {st : List ab_Sy} {lo : Nat → ab_Sy} {C : sp_E} {b0 b1 : ab_Ba}
theorem c_Pa_countInstruction (hp : pt_Pa sh R o) (ha : pa_at I L o p md st lo C b0 b1) (hQ : ∀ I' L', pa_at I' L' o (p + 1) (md + 1) st lo C (b0.1, b0.2 - 1) b1 → (∀ q, q ≠ o → I' q = I q) → (∀ q, q ≠ o + 9 → L' q = L q) → Q none (n, sh, X, R, I', L')) : gw_Call y_Pa_countInstruction d 0 0 [.ref o] (n, sh, X, R, I, L) Q := by
  obtain ⟨s0, s1, s4, s5, s6, s8, s9, s11, r0, r1, r2, r6, r7, r80, r81⟩ := hp
  obtain ⟨a1, a2, a3, a4, a5, a6, a7, a8⟩ := ha
  have s9' := s9.1
  refine gw_call o_Pa_countInstruction (Nat.le_of_ble_eq_true rfl) ?_
  refine go_aload_n 0 d_Pa_countInstruction_0 rfl rfl ?_
  refine go_dup d_Pa_countInstruction_1 rfl ?_
  refine go_getI d_Pa_countInstruction_2 f_Pa_47 (by assumption) ?_
  refine go_iconst (v := 1) d_Pa_countInstruction_5 rfl ?_
  refine go_iadd d_Pa_countInstruction_6 ?_
  refine go_putI d_Pa_countInstruction_7 f_Pa_47 (by assumption) ?_
  refine go_aload_n 0 d_Pa_countInstruction_10 rfl rfl ?_
  refine go_dup d_Pa_countInstruction_11 rfl ?_
  refine go_getI d_Pa_countInstruction_12 f_Pa_46 (by assumption) ?_
  refine go_iconst (v := 1) d_Pa_countInstruction_15 rfl ?_
  refine go_iadd d_Pa_countInstruction_16 ?_
  refine go_putI d_Pa_countInstruction_17 f_Pa_46 (by assumption) ?_
  refine go_aload_n 0 d_Pa_countInstruction_20 rfl rfl ?_
  refine go_getR d_Pa_countInstruction_21 f_Pa_35 (by assumption) (by assumption) ?_
  refine go_iconst (v := 0) d_Pa_countInstruction_24 rfl ?_
  refine go_aald (t := 5) (0) d_Pa_countInstruction_25 (by assumption) (by decide) (rfl) (by decide) (by decide) (by assumption) ?_
  refine go_dup d_Pa_countInstruction_26 rfl ?_
  refine go_getL d_Pa_countInstruction_27 f_Pa_90 (by assumption) ?_
  refine go_lconst (v := 1) d_Pa_countInstruction_30 rfl ?_
  refine go_lsub d_Pa_countInstruction_31 ?_
  refine go_putL d_Pa_countInstruction_32 f_Pa_90 (by assumption) ?_
  exact go_vret d_Pa_countInstruction_35 rfl (hQ _ _ ⟨by simp [va_up]; exact a1, by simp [va_up]; exact a2, by simp [va_up]; rw [a3, nI_succ], by rw [gw_up_ne (by omega), gw_up_ne (by omega), gw_up_ne (by omega)]; exact a4, a5.kept (by rw [gw_up_ne (by omega), gw_up_ne (by omega)]) (gw_up_ne (by omega)), a6.kept (gw_up_ne (by omega)), ⟨by rw [gw_up_eq, gw_up_eq, a7.1], fun a b hab hb => by rw [gw_up_ne (by omega)]; exact a7.2 a b hab hb⟩, a8.kept (gw_up_ne (by omega)) (gw_up_ne (by omega))⟩ (fun q hq => by rw [gw_up_ne hq, gw_up_ne hq]) (fun q hq => gw_up_ne hq))
theorem c_Pa_push {x : Int32} {v : Int64} {z : ab_Sy} (hp : pt_Pa sh R o) (ha : pa_at I L o p md st lo C b0 b1) (h6 : st.length < 6) (hz : sd_at x v z) (hQ : ∀ I' L', pa_at I' L' o p md (z :: st) lo C b0 b1 → (∀ q, q ≠ o → q ≠ o + 4 → I' q = I q) → (∀ q, q ≠ o + 5 → L' q = L q) → Q none (n, sh, X, R, I', L')) : gw_Call y_Pa_push d 0 0 [.ref o, .int x, .long v] (n, sh, X, R, I, L) Q := by
  obtain ⟨s0, s1, s4, s5, s6, s8, s9, s11, r0, r1, r2, r6, r7, r80, r81⟩ := hp
  obtain ⟨a1, a2, a3, a4, a5, a6, a7, a8⟩ := ha
  refine gw_call o_Pa_push (Nat.le_of_ble_eq_true rfl) ?_
  refine go_aload_n 0 d_Pa_push_0 rfl rfl ?_
  refine go_getI d_Pa_push_1 f_Pa_50 (by assumption) ?_
  refine go_bipush (v := 6) d_Pa_push_4 rfl ?_
  refine go_icmp_ge 39 d_Pa_push_6 rfl (fun hn => absurd hn (by rw [a1]; exact nI_ge (b := 6) h6 (by decide))) (fun _ => ?_)
  refine go_aload_n 0 d_Pa_push_9 rfl rfl ?_
  refine go_getR d_Pa_push_10 f_Pa_18 (by assumption) (by assumption) ?_
  refine go_aload_n 0 d_Pa_push_13 rfl rfl ?_
  refine go_getI d_Pa_push_14 f_Pa_50 (by assumption) ?_
  refine go_iload_n 1 d_Pa_push_17 rfl rfl ?_
  refine go_iast (st.length) d_Pa_push_18 (by assumption) (a1) (h6) (by decide) ?_
  refine go_aload_n 0 d_Pa_push_19 rfl rfl ?_
  refine go_getR d_Pa_push_20 f_Pa_22 (by assumption) (by assumption) ?_
  refine go_aload_n 0 d_Pa_push_23 rfl rfl ?_
  refine go_getI d_Pa_push_24 f_Pa_50 (by assumption) ?_
  refine go_lload_n 2 d_Pa_push_27 rfl rfl ?_
  refine go_last (st.length) d_Pa_push_28 (by assumption) (by rw [gw_up_ne (by omega)]; exact a1) (h6) (by decide) ?_
  refine go_aload_n 0 d_Pa_push_29 rfl rfl ?_
  refine go_dup d_Pa_push_30 rfl ?_
  refine go_getI d_Pa_push_31 f_Pa_50 (by assumption) ?_
  refine go_iconst (v := 1) d_Pa_push_34 rfl ?_
  refine go_iadd d_Pa_push_35 ?_
  refine go_putI d_Pa_push_36 f_Pa_50 (by assumption) ?_
  exact go_vret d_Pa_push_39 rfl (hQ _ _ ⟨by rw [gw_up_eq, gw_up_eq, gw_up_ne (by omega), a1, List.length_cons, nI_succ], by rw [gw_up_eq, gw_up_ne (by omega), gw_up_ne (by omega)]; exact a2, by rw [gw_up_eq, gw_up_ne (by omega), gw_up_ne (by omega)]; exact a3, by rw [gw_up_ne (by omega), gw_up_eq, gw_up_eq]; exact ⟨by rw [gw_up_eq, gw_up_eq]; exact hz, a4.up (Nat.le_refl _)⟩, a5.kept (by rw [gw_up_ne (by omega), gw_up_ne (by omega)]) (gw_up_ne (by omega)), a6.kept (gw_up_ne (by omega)), a7.kept (gw_up_ne (by omega)) (gw_up_ne (by omega)), a8.kept (gw_up_ne (by omega)) (gw_up_ne (by omega))⟩ (fun q h0 h4 => by rw [gw_up_ne h0, gw_up_ne h4]) (fun q hq => gw_up_ne hq))
theorem c_Pa_drop {c k : Nat} (s0 : sh o = (0, 7)) (h3 : I o 3 = nI (k + c)) (hk : k + c ≤ 6) (hQ : Q none (n, sh, X, R, va_up I o (va_up (I o) 3 (nI k)), L)) : gw_Call y_Pa_drop (d + 1) 0 0 [.ref o, .int (nI c)] (n, sh, X, R, I, L) Q := by
  refine gw_call o_Pa_drop (Nat.le_of_ble_eq_true rfl) ?_
  refine go_aload_n 0 d_Pa_drop_0 rfl rfl ?_
  refine go_aload_n 0 d_Pa_drop_1 rfl rfl ?_
  refine go_getI d_Pa_drop_2 f_Pa_50 (by assumption) ?_
  refine go_iload_n 1 d_Pa_drop_5 rfl rfl ?_
  refine go_isub d_Pa_drop_6 ?_
  refine go_iconst (v := 0) d_Pa_drop_7 rfl ?_
  refine go_max d_Pa_drop_8 j_Pa_94 gw_jm1 gw_jm2 gw_jm3 (Nat.le_of_ble_eq_true rfl) ?_
  rw [show (if I o 3 - nI c < (0 : Int32) then (0 : Int32) else I o 3 - nI c) = nI k by rw [h3, pk_sub (by omega), show k + c - c = k by omega, if_neg (nI_pos (by omega))]]
  refine go_putI d_Pa_drop_11 f_Pa_50 (by assumption) ?_
  exact go_vret d_Pa_drop_14 rfl (hQ)
theorem c_Pa_pushSum {x z : Int32} {a b : ab_Sy} (hp : pt_Pa sh R o) (ha : pa_at I L o p md st lo C b0 b1) (h6 : st.length + 1 < 6) (hx : sd_at x (L (o + 5) st.length) a) (hz : sd_at z (L (o + 5) (st.length + 1)) b) (hQ : ∀ I' L', pa_at I' L' o p md (sy_sum a b :: st) lo C b0 b1 → (∀ q, q ≠ o → q ≠ o + 4 → I' q = I q) → (∀ q, q ≠ o + 5 → L' q = L q) → Q none (n, sh, X, R, I', L')) : gw_Call y_Pa_pushSum (d + 1) 0 0 [.ref o, .int x, .int z] (n, sh, X, R, I, L) Q := by
  have hp0 := hp
  obtain ⟨s0, s1, s4, s5, s6, s8, s9, s11, r0, r1, r2, r6, r7, r80, r81⟩ := hp
  have a1 := ha.1
  refine gw_call o_Pa_pushSum (Nat.le_of_ble_eq_true rfl) ?_
  refine go_aload_n 0 d_Pa_pushSum_0 rfl rfl ?_
  refine go_getR d_Pa_pushSum_1 f_Pa_22 (by assumption) (by assumption) ?_
  refine go_aload_n 0 d_Pa_pushSum_4 rfl rfl ?_
  refine go_getI d_Pa_pushSum_5 f_Pa_50 (by assumption) ?_
  refine go_lald (st.length) d_Pa_pushSum_8 (by assumption) (a1) (by omega) (by decide) ?_
  refine go_aload_n 0 d_Pa_pushSum_9 rfl rfl ?_
  refine go_getR d_Pa_pushSum_10 f_Pa_22 (by assumption) (by assumption) ?_
  refine go_aload_n 0 d_Pa_pushSum_13 rfl rfl ?_
  refine go_getI d_Pa_pushSum_14 f_Pa_50 (by assumption) ?_
  refine go_iconst (v := 1) d_Pa_pushSum_17 rfl ?_
  refine go_iadd d_Pa_pushSum_18 ?_
  refine go_lald (st.length + 1) d_Pa_pushSum_19 (by assumption) (by rw [a1, nI_succ]) (by omega) (by decide) ?_
  refine go_ladd d_Pa_pushSum_20 ?_
  refine go_lstore_n 3 d_Pa_pushSum_21 rfl (Nat.le_of_ble_eq_true rfl) ?_
  refine go_iload_n 2 d_Pa_pushSum_22 rfl rfl ?_
  refine go_iconst (v := 4) d_Pa_pushSum_23 rfl ?_
  refine go_icmp_ne 36 d_Pa_pushSum_24 rfl (fun h24 => ?_) (fun h24 => ?_)
  · refine go_aload_n 0 d_Pa_pushSum_36 rfl rfl ?_
    refine go_iload_n 1 d_Pa_pushSum_37 rfl rfl ?_
    refine go_iconst (v := 4) d_Pa_pushSum_38 rfl ?_
    refine go_icmp_ne 46 d_Pa_pushSum_39 rfl (fun h39 => ?_) (fun h39 => ?_)
    · refine go_iconst (v := (-1)) d_Pa_pushSum_46 rfl ?_
      refine go_lload_n 3 d_Pa_pushSum_47 rfl rfl ?_
      refine go_V2 d_Pa_pushSum_48 k_Pa_100 (by assumption) (Nat.le_of_ble_eq_true rfl) (c_Pa_push hp0 ha (by omega) (by first | exact sd_sum2 hx hz h24 h39 | exact sd_sum3 hx hz h24 h39) (fun I1 L1 c1 c2 c3 => ?_))
      exact go_vret d_Pa_pushSum_51 rfl (hQ I1 L1 c1 c2 c3)
    · refine go_iload_n 2 d_Pa_pushSum_42 rfl rfl ?_
      refine go_goto 47 d_Pa_pushSum_43 rfl ?_
      refine go_lload_n 3 d_Pa_pushSum_47 rfl rfl ?_
      refine go_V2 d_Pa_pushSum_48 k_Pa_100 (by assumption) (Nat.le_of_ble_eq_true rfl) (c_Pa_push hp0 ha (by omega) (by first | exact sd_sum2 hx hz h24 h39 | exact sd_sum3 hx hz h24 h39) (fun I1 L1 c1 c2 c3 => ?_))
      exact go_vret d_Pa_pushSum_51 rfl (hQ I1 L1 c1 c2 c3)
  · refine go_aload_n 0 d_Pa_pushSum_27 rfl rfl ?_
    refine go_iload_n 1 d_Pa_pushSum_28 rfl rfl ?_
    refine go_lload_n 3 d_Pa_pushSum_29 rfl rfl ?_
    refine go_V2 d_Pa_pushSum_30 k_Pa_100 (by assumption) (Nat.le_of_ble_eq_true rfl) (c_Pa_push hp0 ha (by omega) (sd_sum1 hx hz h24) (fun I1 L1 c1 c2 c3 => ?_))
    refine go_goto 51 d_Pa_pushSum_33 rfl ?_
    exact go_vret d_Pa_pushSum_51 rfl (hQ I1 L1 c1 c2 c3)
theorem c_Pa_pushDifference {x z : Int32} {a b : ab_Sy} (hp : pt_Pa sh R o) (ha : pa_at I L o p md st lo C b0 b1) (h6 : st.length + 1 < 6) (hx : sd_at x (L (o + 5) st.length) a) (hz : sd_at z (L (o + 5) (st.length + 1)) b) (hQ : ∀ I' L', pa_at I' L' o p md (sy_dif a b :: st) lo C b0 b1 → (∀ q, q ≠ o → q ≠ o + 4 → I' q = I q) → (∀ q, q ≠ o + 5 → L' q = L q) → Q none (n, sh, X, R, I', L')) : gw_Call y_Pa_pushDifference (d + 1) 0 0 [.ref o, .int x, .int z] (n, sh, X, R, I, L) Q := by
  have hp0 := hp
  obtain ⟨s0, s1, s4, s5, s6, s8, s9, s11, r0, r1, r2, r6, r7, r80, r81⟩ := hp
  have a1 := ha.1
  refine gw_call o_Pa_pushDifference (Nat.le_of_ble_eq_true rfl) ?_
  refine go_aload_n 0 d_Pa_pushDifference_0 rfl rfl ?_
  refine go_getR d_Pa_pushDifference_1 f_Pa_22 (by assumption) (by assumption) ?_
  refine go_aload_n 0 d_Pa_pushDifference_4 rfl rfl ?_
  refine go_getI d_Pa_pushDifference_5 f_Pa_50 (by assumption) ?_
  refine go_lald (st.length) d_Pa_pushDifference_8 (by assumption) (a1) (by omega) (by decide) ?_
  refine go_aload_n 0 d_Pa_pushDifference_9 rfl rfl ?_
  refine go_getR d_Pa_pushDifference_10 f_Pa_22 (by assumption) (by assumption) ?_
  refine go_aload_n 0 d_Pa_pushDifference_13 rfl rfl ?_
  refine go_getI d_Pa_pushDifference_14 f_Pa_50 (by assumption) ?_
  refine go_iconst (v := 1) d_Pa_pushDifference_17 rfl ?_
  refine go_iadd d_Pa_pushDifference_18 ?_
  refine go_lald (st.length + 1) d_Pa_pushDifference_19 (by assumption) (by rw [a1, nI_succ]) (by omega) (by decide) ?_
  refine go_lsub d_Pa_pushDifference_20 ?_
  refine go_lstore_n 3 d_Pa_pushDifference_21 rfl (Nat.le_of_ble_eq_true rfl) ?_
  refine go_iload_n 2 d_Pa_pushDifference_22 rfl rfl ?_
  refine go_iconst (v := 4) d_Pa_pushDifference_23 rfl ?_
  refine go_icmp_ne 36 d_Pa_pushDifference_24 rfl (fun h24 => ?_) (fun h24 => ?_)
  · refine go_aload_n 0 d_Pa_pushDifference_36 rfl rfl ?_
    refine go_iload_n 1 d_Pa_pushDifference_37 rfl rfl ?_
    refine go_iload_n 2 d_Pa_pushDifference_38 rfl rfl ?_
    refine go_icmp_ne 51 d_Pa_pushDifference_39 rfl (fun h39 => ?_) (fun h39 => ?_)
    · refine go_iconst (v := (-1)) d_Pa_pushDifference_51 rfl ?_
      refine go_lload_n 3 d_Pa_pushDifference_52 rfl rfl ?_
      refine go_V2 d_Pa_pushDifference_53 k_Pa_100 (by assumption) (Nat.le_of_ble_eq_true rfl) (c_Pa_push hp0 ha (by omega) (by first | exact sd_dif2 hx hz h24 h39 h44 | exact sd_dif3 hx hz h24 (Or.inl h39) | exact sd_dif3 hx hz h24 (Or.inr h44)) (fun I1 L1 c1 c2 c3 => ?_))
      exact go_vret d_Pa_pushDifference_56 rfl (hQ I1 L1 c1 c2 c3)
    · refine go_iload_n 1 d_Pa_pushDifference_42 rfl rfl ?_
      refine go_iconst (v := (-1)) d_Pa_pushDifference_43 rfl ?_
      refine go_icmp_eq 51 d_Pa_pushDifference_44 rfl (fun h44 => ?_) (fun h44 => ?_)
      · refine go_iconst (v := (-1)) d_Pa_pushDifference_51 rfl ?_
        refine go_lload_n 3 d_Pa_pushDifference_52 rfl rfl ?_
        refine go_V2 d_Pa_pushDifference_53 k_Pa_100 (by assumption) (Nat.le_of_ble_eq_true rfl) (c_Pa_push hp0 ha (by omega) (by first | exact sd_dif2 hx hz h24 h39 h44 | exact sd_dif3 hx hz h24 (Or.inl h39) | exact sd_dif3 hx hz h24 (Or.inr h44)) (fun I1 L1 c1 c2 c3 => ?_))
        exact go_vret d_Pa_pushDifference_56 rfl (hQ I1 L1 c1 c2 c3)
      · refine go_iconst (v := 4) d_Pa_pushDifference_47 rfl ?_
        refine go_goto 52 d_Pa_pushDifference_48 rfl ?_
        refine go_lload_n 3 d_Pa_pushDifference_52 rfl rfl ?_
        refine go_V2 d_Pa_pushDifference_53 k_Pa_100 (by assumption) (Nat.le_of_ble_eq_true rfl) (c_Pa_push hp0 ha (by omega) (by first | exact sd_dif2 hx hz h24 h39 h44 | exact sd_dif3 hx hz h24 (Or.inl h39) | exact sd_dif3 hx hz h24 (Or.inr h44)) (fun I1 L1 c1 c2 c3 => ?_))
        exact go_vret d_Pa_pushDifference_56 rfl (hQ I1 L1 c1 c2 c3)
  · refine go_aload_n 0 d_Pa_pushDifference_27 rfl rfl ?_
    refine go_iload_n 1 d_Pa_pushDifference_28 rfl rfl ?_
    refine go_lload_n 3 d_Pa_pushDifference_29 rfl rfl ?_
    refine go_V2 d_Pa_pushDifference_30 k_Pa_100 (by assumption) (Nat.le_of_ble_eq_true rfl) (c_Pa_push hp0 ha (by omega) (sd_dif1 hx hz h24) (fun I1 L1 c1 c2 c3 => ?_))
    refine go_goto 56 d_Pa_pushDifference_33 rfl ?_
    exact go_vret d_Pa_pushDifference_56 rfl (hQ I1 L1 c1 c2 c3)
end PA
