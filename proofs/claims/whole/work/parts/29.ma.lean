/-! Frame and Machine: a run, step by step -/
/-- a stack, its top first, laid from place 0 up -/
def st_at (f : Nat → Int32) : List Int32 → Prop
  | [] => True
  | v :: vs => f vs.length = v ∧ st_at f vs
theorem st_at.up {f : Nat → Int32} : ∀ {l : List Int32} {k : Nat} {x : Int32}, l.length ≤ k → st_at f l → st_at (va_up f k x) l
  | [], _, _, _, _ => trivial
  | v :: vs, k, x, hk, h => ⟨by rw [gw_up_ne (by simp at hk; omega)]; exact h.1, st_at.up (by simp at hk; omega) h.2⟩
/-- a running method: its number, where it goes on, its stack, its locals -/
abbrev ab_Fr : Type := Nat × Int32 × List Int32 × (Nat → Int32)
def pt_Fr (sh : Nat → Nat × Nat) (R : Nat → Nat → Option Nat) (o : Nat) : Prop := sh o = (0, 5) ∧ sh (o + 1) = (1, 4) ∧ sh (o + 2) = (1, 6) ∧ R o 0 = some (o + 1) ∧ R o 1 = some (o + 2)
def fr_at (I : Nat → Nat → Int32) (o : Nat) (f : ab_Fr) : Prop := I o 2 = nI f.2.2.1.length ∧ f.2.2.1.length ≤ 6 ∧ I o 3 = nI f.1 ∧ I o 4 = f.2.1 ∧ st_at (I (o + 2)) f.2.2.1 ∧ ∀ j, j < 4 → I (o + 1) j = f.2.2.2 j
theorem fr_at.kept {I I' : Nat → Nat → Int32} {o : Nat} {f : ab_Fr} (h : fr_at I o f) (h0 : I' o = I o) (h1 : I' (o + 1) = I (o + 1)) (h2 : I' (o + 2) = I (o + 2)) : fr_at I' o f := by
  unfold fr_at
  rw [h0, h1, h2]
  exact h
theorem pt_Ma.fr {sh : Nat → Nat × Nat} {R : Nat → Nat → Option Nat} (h : pt_Ma sh R) {i : Nat} (hi : i < 4) : pt_Fr sh R (333 + 3 * i) := by
  obtain ⟨g1, g2, g3, g4, g5, g6⟩ := h.2.2.2.2.2.2 i hi
  exact ⟨g2, g3, g4, g5, g6⟩
section FR
variable {d n : Nat} {sh : Nat → Nat × Nat} {X : Nat × (Nat → Int32)} {R : Nat → Nat → Option Nat} {I : Nat → Nat → Int32} {L : Nat → Nat → Int64} {Q : Option Value → gw_Mem → Prop}
theorem c_Fr_push {o m : Nat} {p v : Int32} {st : List Int32} {loc : Nat → Int32} (hp : pt_Fr sh R o) (ha : fr_at I o (m, p, st, loc)) (h6 : st.length < 6) (hQ : ∀ I', fr_at I' o (m, p, v :: st, loc) → (∀ q, q ≠ o → q ≠ o + 2 → I' q = I q) → Q none (n, sh, X, R, I', L)) : gw_Call y_Fr_push d 0 0 [.ref o, .int v] (n, sh, X, R, I, L) Q := by
  obtain ⟨s0, s1, s2, r0, r1⟩ := hp
  obtain ⟨a1, a2, a3, a4, a5, a6⟩ := ha
  refine gw_call o_Fr_push (Nat.le_of_ble_eq_true rfl) ?_
  refine go_aload_n 0 d_Fr_push_0 rfl rfl ?_
  refine go_getI d_Fr_push_1 f_Fr_25 (by assumption) ?_
  refine go_bipush (v := 6) d_Fr_push_4 rfl ?_
  refine go_icmp_ge 29 d_Fr_push_6 rfl (fun hn => absurd hn (by rw [a1]; exact nI_ge (b := 6) h6 (by decide))) (fun _ => ?_)
  refine go_aload_n 0 d_Fr_push_9 rfl rfl ?_
  refine go_getR d_Fr_push_10 f_Fr_15 (by assumption) (by assumption) ?_
  refine go_aload_n 0 d_Fr_push_13 rfl rfl ?_
  refine go_getI d_Fr_push_14 f_Fr_25 (by assumption) ?_
  refine go_iload_n 1 d_Fr_push_17 rfl rfl ?_
  refine go_iast (st.length) d_Fr_push_18 (by assumption) (a1) (h6) (by decide) ?_
  refine go_aload_n 0 d_Fr_push_19 rfl rfl ?_
  refine go_dup d_Fr_push_20 rfl ?_
  refine go_getI d_Fr_push_21 f_Fr_25 (by assumption) ?_
  refine go_iconst (v := 1) d_Fr_push_24 rfl ?_
  refine go_iadd d_Fr_push_25 ?_
  refine go_putI d_Fr_push_26 f_Fr_25 (by assumption) ?_
  exact go_vret d_Fr_push_29 rfl (hQ _ ⟨by simp [va_up]; rw [show I o 2 = nI st.length from a1, nI_succ], by simp; omega, by simp [va_up]; exact a3, by simp [va_up]; exact a4, ⟨by simp [va_up], by simp only [show va_up (va_up I (o + 2) (va_up (I (o + 2)) st.length v)) o (va_up (va_up I (o + 2) (va_up (I (o + 2)) st.length v) o) 2 (va_up I (o + 2) (va_up (I (o + 2)) st.length v) o 2 + 1)) (o + 2) = va_up (I (o + 2)) st.length v by simp [va_up]]; exact a5.up (Nat.le_refl _)⟩, fun j hj => by simp [va_up]; exact a6 j hj⟩ (fun q g0 g1 => by simp [va_up, g0, g1]))
theorem c_Fr_pop {o m : Nat} {p v : Int32} {st : List Int32} {loc : Nat → Int32} (hp : pt_Fr sh R o) (ha : fr_at I o (m, p, v :: st, loc)) (hQ : ∀ I', fr_at I' o (m, p, st, loc) → (∀ q, q ≠ o → I' q = I q) → Q (some (.int v)) (n, sh, X, R, I', L)) : gw_Call y_Fr_pop d 0 0 [.ref o] (n, sh, X, R, I, L) Q := by
  obtain ⟨s0, s1, s2, r0, r1⟩ := hp
  obtain ⟨a1, a2, a3, a4, ⟨a5, a5'⟩, a6⟩ := ha
  have a1' : I o 2 = nI (st.length + 1) := a1
  have a2' : st.length + 1 ≤ 6 := a2
  refine gw_call o_Fr_pop (Nat.le_of_ble_eq_true rfl) ?_
  refine go_aload_n 0 d_Fr_pop_0 rfl rfl ?_
  refine go_getI d_Fr_pop_1 f_Fr_25 (by assumption) ?_
  refine go_if_gt 9 d_Fr_pop_4 rfl (fun _ => ?_) (fun hn => absurd (by rw [a1']; exact nI_lt (a := 0) (by omega) (by omega)) hn)
  refine go_aload_n 0 d_Fr_pop_9 rfl rfl ?_
  refine go_dup d_Fr_pop_10 rfl ?_
  refine go_getI d_Fr_pop_11 f_Fr_25 (by assumption) ?_
  refine go_iconst (v := 1) d_Fr_pop_14 rfl ?_
  refine go_isub d_Fr_pop_15 ?_
  refine go_putI d_Fr_pop_16 f_Fr_25 (by assumption) ?_
  refine go_aload_n 0 d_Fr_pop_19 rfl rfl ?_
  refine go_getR d_Fr_pop_20 f_Fr_15 (by assumption) (by assumption) ?_
  refine go_aload_n 0 d_Fr_pop_23 rfl rfl ?_
  refine go_getI d_Fr_pop_24 f_Fr_25 (by assumption) ?_
  refine go_iald (st.length) d_Fr_pop_27 (by assumption) (by simp [va_up]; rw [a1']; exact nI_pred _) (by omega) (by decide) ?_
  rw [show va_up I o (va_up (I o) 2 (I o 2 - 1)) (o + 2) st.length = v by simp [va_up]; exact a5]
  exact go_iret d_Fr_pop_28 rfl (hQ _ ⟨by simp [va_up]; rw [a1']; exact nI_pred _, by dsimp only; omega, by simp [va_up]; exact a3, by simp [va_up]; exact a4, by rw [gw_up_ne (by omega)]; exact a5', fun j hj => by simp [va_up]; exact a6 j hj⟩ (fun q g0 => by simp [va_up, g0]))
theorem c_Fr_enter {o m : Nat} {x y z : Int32} (hp : pt_Fr sh R o) (hQ : ∀ I', fr_at I' o (m, 0, [], ar_v x y z) → (∀ q, q ≠ o → q ≠ o + 1 → I' q = I q) → Q none (n, sh, X, R, I', L)) : gw_Call y_Fr_enter d 0 0 [.ref o, .int (nI m), .int x, .int y, .int z] (n, sh, X, R, I, L) Q := by
  obtain ⟨s0, s1, s2, r0, r1⟩ := hp
  refine gw_call o_Fr_enter (Nat.le_of_ble_eq_true rfl) ?_
  refine go_aload_n 0 d_Fr_enter_0 rfl rfl ?_
  refine go_iload_n 1 d_Fr_enter_1 rfl rfl ?_
  refine go_putI d_Fr_enter_2 f_Fr_18 (by assumption) ?_
  refine go_aload_n 0 d_Fr_enter_5 rfl rfl ?_
  refine go_iconst (v := 0) d_Fr_enter_6 rfl ?_
  refine go_putI d_Fr_enter_7 f_Fr_22 (by assumption) ?_
  refine go_aload_n 0 d_Fr_enter_10 rfl rfl ?_
  refine go_iconst (v := 0) d_Fr_enter_11 rfl ?_
  refine go_putI d_Fr_enter_12 f_Fr_25 (by assumption) ?_
  refine go_aload_n 0 d_Fr_enter_15 rfl rfl ?_
  refine go_getR d_Fr_enter_16 f_Fr_9 (by assumption) (by assumption) ?_
  refine go_iconst (v := 0) d_Fr_enter_19 rfl ?_
  refine go_iload_n 2 d_Fr_enter_20 rfl rfl ?_
  refine go_iast (0) d_Fr_enter_21 (by assumption) (rfl) (by decide) (by decide) ?_
  refine go_aload_n 0 d_Fr_enter_22 rfl rfl ?_
  refine go_getR d_Fr_enter_23 f_Fr_9 (by assumption) (by assumption) ?_
  refine go_iconst (v := 1) d_Fr_enter_26 rfl ?_
  refine go_iload_n 3 d_Fr_enter_27 rfl rfl ?_
  refine go_iast (1) d_Fr_enter_28 (by assumption) (rfl) (by decide) (by decide) ?_
  refine go_aload_n 0 d_Fr_enter_29 rfl rfl ?_
  refine go_getR d_Fr_enter_30 f_Fr_9 (by assumption) (by assumption) ?_
  refine go_iconst (v := 2) d_Fr_enter_33 rfl ?_
  refine go_iload d_Fr_enter_34 rfl ?_
  refine go_iast (2) d_Fr_enter_36 (by assumption) (rfl) (by decide) (by decide) ?_
  refine go_aload_n 0 d_Fr_enter_37 rfl rfl ?_
  refine go_getR d_Fr_enter_38 f_Fr_9 (by assumption) (by assumption) ?_
  refine go_iconst (v := 3) d_Fr_enter_41 rfl ?_
  refine go_iconst (v := 0) d_Fr_enter_42 rfl ?_
  refine go_iast (3) d_Fr_enter_43 (by assumption) (rfl) (by decide) (by decide) ?_
  exact go_vret d_Fr_enter_44 rfl (hQ _ ⟨by simp [va_up, nI_0], by simp, by simp [va_up], by simp [va_up], trivial, fun j hj => by rcases (show j = 0 ∨ j = 1 ∨ j = 2 ∨ j = 3 by omega) with rfl | rfl | rfl | rfl <;> simp [va_up, ar_v]⟩ (fun q g0 g1 => by simp [va_up, g0, g1]))
theorem c_Ma_pushSum {o m : Nat} {p a b : Int32} {st : List Int32} {loc : Nat → Int32} (hp : pt_Fr sh R o) (ha : fr_at I o (m, p, st, loc)) (h6 : st.length < 6) (hf : ¬ (-1000000 ≤ a + b ∧ a + b ≤ 1000000) → Q (some (.int 2)) (n, sh, X, R, I, L)) (hQ : (-1000000 ≤ a + b ∧ a + b ≤ 1000000) → ∀ I', fr_at I' o (m, p, (a + b) :: st, loc) → (∀ q, q ≠ o → q ≠ o + 2 → I' q = I q) → Q (some (.int 0)) (n, sh, X, R, I', L)) : gw_Call y_Ma_pushSum (d + 2) 0 0 [.ref o, .int a, .int b] (n, sh, X, R, I, L) Q := by
  have s0 := hp.1
  refine gw_call o_Ma_pushSum (Nat.le_of_ble_eq_true rfl) ?_
  refine go_iload_n 1 d_Ma_pushSum_0 rfl rfl ?_
  refine go_iload_n 2 d_Ma_pushSum_1 rfl rfl ?_
  refine go_iadd d_Ma_pushSum_2 ?_
  refine go_S1 d_Ma_pushSum_3 k_Ma_119 (Nat.le_of_ble_eq_true rfl) (c_CC_isValue (fun b1 hb1 => ?_))
  refine go_if_ne 11 d_Ma_pushSum_6 rfl (fun h6_ => ?_) (fun h6_ => ?_)
  · refine go_aload_n 0 d_Ma_pushSum_11 rfl rfl ?_
    refine go_iload_n 1 d_Ma_pushSum_12 rfl rfl ?_
    refine go_iload_n 2 d_Ma_pushSum_13 rfl rfl ?_
    refine go_iadd d_Ma_pushSum_14 ?_
    refine go_V1 d_Ma_pushSum_15 k_Ma_85 (by assumption) (Nat.le_of_ble_eq_true rfl) (c_Fr_push hp ha h6 (fun I1 c1 c2 => ?_))
    refine go_iconst (v := 0) d_Ma_pushSum_18 rfl ?_
    exact go_iret d_Ma_pushSum_19 rfl (hQ (hb1.mp (bI_n0.mp h6_)) I1 c1 c2)
  · refine go_iconst (v := 2) d_Ma_pushSum_9 rfl ?_
    exact go_iret d_Ma_pushSum_10 rfl (hf (fun h => by rw [hb1.mpr h] at h6_; exact absurd h6_ (by decide)))
theorem c_Ma_growLocal {o m j : Nat} {p a : Int32} {st : List Int32} {loc : Nat → Int32} (hp : pt_Fr sh R o) (ha : fr_at I o (m, p, st, loc)) (hj : j < 4) (hf : ¬ (-1000000 ≤ loc j + a ∧ loc j + a ≤ 1000000) → Q (some (.int 2)) (n, sh, X, R, I, L)) (hQ : (-1000000 ≤ loc j + a ∧ loc j + a ≤ 1000000) → ∀ I', fr_at I' o (m, p, st, va_up loc j (loc j + a)) → (∀ q, q ≠ o + 1 → I' q = I q) → Q (some (.int 0)) (n, sh, X, R, I', L)) : gw_Call y_Ma_growLocal (d + 2) 0 0 [.ref o, .int (nI j), .int a] (n, sh, X, R, I, L) Q := by
  obtain ⟨s0, s1, s2, r0, r1⟩ := hp
  obtain ⟨a1, a2, a3, a4, a5, a6⟩ := ha
  have a6j := a6 j hj
  refine gw_call o_Ma_growLocal (Nat.le_of_ble_eq_true rfl) ?_
  refine go_aload_n 0 d_Ma_growLocal_0 rfl rfl ?_
  refine go_getR d_Ma_growLocal_1 f_Ma_89 (by assumption) (by assumption) ?_
  refine go_iload_n 1 d_Ma_growLocal_4 rfl rfl ?_
  refine go_iald (j) d_Ma_growLocal_5 (by assumption) (rfl) (hj) (by decide) ?_
  refine go_iload_n 2 d_Ma_growLocal_6 rfl rfl ?_
  refine go_iadd d_Ma_growLocal_7 ?_
  rw [a6j]
  refine go_S1 d_Ma_growLocal_8 k_Ma_119 (Nat.le_of_ble_eq_true rfl) (c_CC_isValue (fun b1 hb1 => ?_))
  refine go_if_ne 16 d_Ma_growLocal_11 rfl (fun h11 => ?_) (fun h11 => ?_)
  · refine go_aload_n 0 d_Ma_growLocal_16 rfl rfl ?_
    refine go_getR d_Ma_growLocal_17 f_Ma_89 (by assumption) (by assumption) ?_
    refine go_iload_n 1 d_Ma_growLocal_20 rfl rfl ?_
    refine go_dup2 d_Ma_growLocal_21 rfl rfl ?_
    refine go_iald (j) d_Ma_growLocal_22 (by assumption) (rfl) (hj) (by decide) ?_
    refine go_iload_n 2 d_Ma_growLocal_23 rfl rfl ?_
    refine go_iadd d_Ma_growLocal_24 ?_
    rw [a6j]
    refine go_iast (j) d_Ma_growLocal_25 (by assumption) (rfl) (hj) (by decide) ?_
    refine go_iconst (v := 0) d_Ma_growLocal_26 rfl ?_
    exact go_iret d_Ma_growLocal_27 rfl (hQ (hb1.mp (bI_n0.mp h11)) _ ⟨by simp [va_up]; exact a1, a2, by simp [va_up]; exact a3, by simp [va_up]; exact a4, by rw [gw_up_ne (by omega)]; exact a5, fun i hi => by rw [gw_up_eq]; by_cases he : i = j; (subst he; simp [va_up]); (simp [va_up, he]; exact a6 i hi)⟩ (fun q g0 => by simp [va_up, g0]))
  · refine go_iconst (v := 2) d_Ma_growLocal_14 rfl ?_
    exact go_iret d_Ma_growLocal_15 rfl (hf (fun h => by rw [hb1.mpr h] at h11; exact absurd h11 (by decide)))
theorem c_Ma_goIf {o m : Nat} {p a x y : Int32} {b : Bool} {st : List Int32} {loc : Nat → Int32} (hp : pt_Fr sh R o) (ha : fr_at I o (m, p, y :: x :: st, loc)) (hQ : ∀ I', fr_at I' o (m, if decide (x < y) = b then a else p, st, loc) → (∀ q, q ≠ o → I' q = I q) → Q none (n, sh, X, R, I', L)) : gw_Call y_Ma_goIf (d + 1) 0 0 [.ref o, .int (bI b), .int a] (n, sh, X, R, I, L) Q := by
  have hp0 := hp
  obtain ⟨s0, s1, s2, r0, r1⟩ := hp
  refine gw_call o_Ma_goIf (Nat.le_of_ble_eq_true rfl) ?_
  by_cases hlt : x < y
  · have hd : decide (x < y) = true := by rw [decide_eq_true_iff]; exact hlt
    cases b with
    | true =>
      refine go_aload_n 0 d_Ma_goIf_0 rfl rfl ?_
      refine go_V0 d_Ma_goIf_1 k_Ma_92 (by assumption) (Nat.le_of_ble_eq_true rfl) (c_Fr_pop hp0 ha (fun I1 c1 c2 => ?_))
      refine go_istore_n 3 d_Ma_goIf_4 rfl (Nat.le_of_ble_eq_true rfl) ?_
      refine go_aload_n 0 d_Ma_goIf_5 rfl rfl ?_
      refine go_V0 d_Ma_goIf_6 k_Ma_92 (by assumption) (Nat.le_of_ble_eq_true rfl) (c_Fr_pop hp0 c1 (fun I2 c3 c4 => ?_))
      refine go_istore d_Ma_goIf_9 (Nat.le_of_ble_eq_true rfl) ?_
      refine go_iload d_Ma_goIf_11 rfl ?_
      refine go_iload_n 3 d_Ma_goIf_13 rfl rfl ?_
      refine go_icmp_ge 21 d_Ma_goIf_14 rfl (fun hn => absurd hn (Int32.not_le.mpr hlt)) (fun _ => ?_)
      refine go_iconst (v := 1) d_Ma_goIf_17 rfl ?_
      refine go_goto 22 d_Ma_goIf_18 rfl ?_
      refine go_iload_n 1 d_Ma_goIf_22 rfl rfl ?_
      refine go_icmp_ne 31 d_Ma_goIf_23 rfl (fun hn => absurd hn (by decide)) (fun _ => ?_)
      refine go_aload_n 0 d_Ma_goIf_26 rfl rfl ?_
      refine go_iload_n 2 d_Ma_goIf_27 rfl rfl ?_
      refine go_putI d_Ma_goIf_28 f_Ma_59 (by assumption) ?_
      exact go_vret d_Ma_goIf_31 rfl (hQ _ (by rw [hd]; exact ⟨by simp [va_up]; exact c3.1, c3.2.1, by simp [va_up]; exact c3.2.2.1, by simp [va_up], by rw [gw_up_ne (by omega)]; exact c3.2.2.2.2.1, fun j hj => by rw [gw_up_ne (by omega)]; exact c3.2.2.2.2.2 j hj⟩) (fun q hq => by rw [gw_up_ne hq, c4 q hq, c2 q hq]))
    | false =>
      refine go_aload_n 0 d_Ma_goIf_0 rfl rfl ?_
      refine go_V0 d_Ma_goIf_1 k_Ma_92 (by assumption) (Nat.le_of_ble_eq_true rfl) (c_Fr_pop hp0 ha (fun I1 c1 c2 => ?_))
      refine go_istore_n 3 d_Ma_goIf_4 rfl (Nat.le_of_ble_eq_true rfl) ?_
      refine go_aload_n 0 d_Ma_goIf_5 rfl rfl ?_
      refine go_V0 d_Ma_goIf_6 k_Ma_92 (by assumption) (Nat.le_of_ble_eq_true rfl) (c_Fr_pop hp0 c1 (fun I2 c3 c4 => ?_))
      refine go_istore d_Ma_goIf_9 (Nat.le_of_ble_eq_true rfl) ?_
      refine go_iload d_Ma_goIf_11 rfl ?_
      refine go_iload_n 3 d_Ma_goIf_13 rfl rfl ?_
      refine go_icmp_ge 21 d_Ma_goIf_14 rfl (fun hn => absurd hn (Int32.not_le.mpr hlt)) (fun _ => ?_)
      refine go_iconst (v := 1) d_Ma_goIf_17 rfl ?_
      refine go_goto 22 d_Ma_goIf_18 rfl ?_
      refine go_iload_n 1 d_Ma_goIf_22 rfl rfl ?_
      refine go_icmp_ne 31 d_Ma_goIf_23 rfl (fun _ => ?_) (fun hn => by first | exact absurd hn (by decide) | exact absurd (by decide) hn)
      exact go_vret d_Ma_goIf_31 rfl (hQ I2 (by rw [hd]; exact c3) (fun q hq => by rw [c4 q hq, c2 q hq]))
  · have hd : decide (x < y) = false := by rw [decide_eq_false_iff_not]; exact hlt
    cases b with
    | true =>
      refine go_aload_n 0 d_Ma_goIf_0 rfl rfl ?_
      refine go_V0 d_Ma_goIf_1 k_Ma_92 (by assumption) (Nat.le_of_ble_eq_true rfl) (c_Fr_pop hp0 ha (fun I1 c1 c2 => ?_))
      refine go_istore_n 3 d_Ma_goIf_4 rfl (Nat.le_of_ble_eq_true rfl) ?_
      refine go_aload_n 0 d_Ma_goIf_5 rfl rfl ?_
      refine go_V0 d_Ma_goIf_6 k_Ma_92 (by assumption) (Nat.le_of_ble_eq_true rfl) (c_Fr_pop hp0 c1 (fun I2 c3 c4 => ?_))
      refine go_istore d_Ma_goIf_9 (Nat.le_of_ble_eq_true rfl) ?_
      refine go_iload d_Ma_goIf_11 rfl ?_
      refine go_iload_n 3 d_Ma_goIf_13 rfl rfl ?_
      refine go_icmp_ge 21 d_Ma_goIf_14 rfl (fun _ => ?_) (fun hn => absurd (Int32.not_lt.mp hlt) hn)
      refine go_iconst (v := 0) d_Ma_goIf_21 rfl ?_
      refine go_iload_n 1 d_Ma_goIf_22 rfl rfl ?_
      refine go_icmp_ne 31 d_Ma_goIf_23 rfl (fun _ => ?_) (fun hn => by first | exact absurd hn (by decide) | exact absurd (by decide) hn)
      exact go_vret d_Ma_goIf_31 rfl (hQ I2 (by rw [hd]; exact c3) (fun q hq => by rw [c4 q hq, c2 q hq]))
    | false =>
      refine go_aload_n 0 d_Ma_goIf_0 rfl rfl ?_
      refine go_V0 d_Ma_goIf_1 k_Ma_92 (by assumption) (Nat.le_of_ble_eq_true rfl) (c_Fr_pop hp0 ha (fun I1 c1 c2 => ?_))
      refine go_istore_n 3 d_Ma_goIf_4 rfl (Nat.le_of_ble_eq_true rfl) ?_
      refine go_aload_n 0 d_Ma_goIf_5 rfl rfl ?_
      refine go_V0 d_Ma_goIf_6 k_Ma_92 (by assumption) (Nat.le_of_ble_eq_true rfl) (c_Fr_pop hp0 c1 (fun I2 c3 c4 => ?_))
      refine go_istore d_Ma_goIf_9 (Nat.le_of_ble_eq_true rfl) ?_
      refine go_iload d_Ma_goIf_11 rfl ?_
      refine go_iload_n 3 d_Ma_goIf_13 rfl rfl ?_
      refine go_icmp_ge 21 d_Ma_goIf_14 rfl (fun _ => ?_) (fun hn => absurd (Int32.not_lt.mp hlt) hn)
      refine go_iconst (v := 0) d_Ma_goIf_21 rfl ?_
      refine go_iload_n 1 d_Ma_goIf_22 rfl rfl ?_
      refine go_icmp_ne 31 d_Ma_goIf_23 rfl (fun hn => absurd hn (by decide)) (fun _ => ?_)
      refine go_aload_n 0 d_Ma_goIf_26 rfl rfl ?_
      refine go_iload_n 2 d_Ma_goIf_27 rfl rfl ?_
      refine go_putI d_Ma_goIf_28 f_Ma_59 (by assumption) ?_
      exact go_vret d_Ma_goIf_31 rfl (hQ _ (by rw [hd]; exact ⟨by simp [va_up]; exact c3.1, c3.2.1, by simp [va_up]; exact c3.2.2.1, by simp [va_up], by rw [gw_up_ne (by omega)]; exact c3.2.2.2.2.1, fun j hj => by rw [gw_up_ne (by omega)]; exact c3.2.2.2.2.2 j hj⟩) (fun q hq => by rw [gw_up_ne hq, c4 q hq, c2 q hq]))
end FR
