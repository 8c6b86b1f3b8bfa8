/-! the reference: the rows of its checker -/
def mo_e : Option Int → Int64
  | none => 1000000000000000
  | some x => Int64.ofInt x
theorem mo_far : (1000000000000000 : Int64).toInt = 1000000000000000 := by decide
theorem mo_lt {c : Option Int} (h : ∀ x, c = some x → kn_s x) : mo_e c < 1000000000000000 ↔ ∃ x, c = some x := by
  cases c with
  | none => exact ⟨fun hh => absurd hh (by decide), fun ⟨x, e⟩ => by cases e⟩
  | some x => exact ⟨fun _ => ⟨x, rfl⟩, fun _ => by
      show Int64.ofInt x < _
      rw [Int64.lt_iff_toInt_lt, kn_i (h x rfl), mo_far]
      have := (h x rfl).2
      omega⟩
/-- a symbol, as a row holds it -/
def ms_at (s x : Int64) : ab_Sy → Prop
  | none => s = -1
  | some q => s = lN q.1 ∧ q.1 < 5 ∧ x = q.2
theorem ms_neg {s x : Int64} {v : ab_Sy} (h : ms_at s x v) : s < 0 ↔ v = none := by
  cases v with
  | none => exact ⟨fun _ => rfl, fun _ => by rw [show s = -1 from h]; decide⟩
  | some q => exact ⟨fun hh => absurd hh (by rw [h.1]; exact fun h2 => absurd ((lN_lt (b := 0) (by have := h.2.1; omega) (by decide)).mp h2) (by omega)), fun e => by cases e⟩
theorem ms_some {s x : Int64} {v : ab_Sy} (h : ms_at s x v) (hs : ¬ s < 0) : ∃ q, v = some q ∧ s = lN q.1 ∧ q.1 < 5 ∧ x = q.2 := by
  cases v with
  | none => exact absurd ((ms_neg h).mpr rfl) hs
  | some q => exact ⟨q, rfl, h⟩
def mk_at (G : Nat → Int64) (B : Nat) : List ab_Sy → Prop
  | [] => True
  | v :: vs => ms_at (G (B + 12 + 2 * vs.length)) (G (B + 13 + 2 * vs.length)) v ∧ mk_at G B vs
def mb_at (G : Nat → Int64) (T N : Nat) (s : ab_Ba) : Prop := (∀ a b, a < 5 → b < 5 → G (T + 5 * a + b) = s.1 a b) ∧ G N = s.2
def me_tab (G : Nat → Int64) (B : Nat) (E : sp_E) : Prop := ∀ a b, a < 5 → b < 5 → G (B + 5 * a + b) = mo_e (E a b)
/-- a row: place, instructions made, stack, locals, facts, tables -/
def rw_at (G : Nat → Int64) (B : Nat) (p : Int32) (md : Nat) (st : List ab_Sy) (lo : Nat → ab_Sy) (E : sp_E) (b0 b1 : ab_Ba) : Prop := G B = p.toInt64 ∧ G (B + 1) = lN md ∧ G (B + 2) = lN st.length ∧ st.length ≤ 6 ∧ mk_at G B st ∧ (∀ j, j < 4 → ms_at (G (B + 4 + 2 * j)) (G (B + 5 + 2 * j)) (lo j)) ∧ lo 4 = some (4, 0) ∧ me_tab G (B + 24) E ∧ mb_at G (B + 49) (B + 99) b0 ∧ mb_at G (B + 74) (B + 100) b1
theorem mk_at.cpy {G G' : Nat → Int64} {B B' : Nat} : ∀ {st : List ab_Sy}, mk_at G B st → (∀ x x', (∃ j, j < 12 + 2 * st.length ∧ 12 ≤ j ∧ x = B + j ∧ x' = B' + j) → G' x' = G x) → mk_at G' B' st
  | [], _, _ => trivial
  | v :: vs, h, e => by
    rw [List.length_cons] at e
    refine ⟨?_, h.2.cpy (fun x x' ⟨j, h1, h2, h3, h4⟩ => e x x' ⟨j, by omega, h2, h3, h4⟩)⟩
    rw [e (B + 12 + 2 * vs.length) (B' + 12 + 2 * vs.length) ⟨12 + 2 * vs.length, by omega, by omega, by omega, by omega⟩, e (B + 13 + 2 * vs.length) (B' + 13 + 2 * vs.length) ⟨13 + 2 * vs.length, by omega, by omega, by omega, by omega⟩]
    exact h.1
theorem mb_at.cpy {G G' : Nat → Int64} {T N T' N' : Nat} {s : ab_Ba} (h : mb_at G T N s) (e1 : ∀ j, j < 25 → G' (T' + j) = G (T + j)) (e2 : G' N' = G N) : mb_at G' T' N' s := ⟨fun a b ha hb => by rw [Nat.add_assoc, e1 _ (by omega), ← Nat.add_assoc]; exact h.1 a b ha hb, e2.trans h.2⟩
theorem me_tab.cpy {G G' : Nat → Int64} {B B' : Nat} {E : sp_E} (h : me_tab G B E) (e1 : ∀ j, j < 25 → G' (B' + j) = G (B + j)) : me_tab G' B' E := fun a b ha hb => by rw [Nat.add_assoc, e1 _ (by omega), ← Nat.add_assoc]; exact h a b ha hb
theorem rw_at.cpy {G G' : Nat → Int64} {B B' : Nat} {p : Int32} {md : Nat} {st : List ab_Sy} {lo : Nat → ab_Sy} {E : sp_E} {b0 b1 : ab_Ba} (h : rw_at G B p md st lo E b0 b1) (e : ∀ j, j < 104 → G' (B' + j) = G (B + j)) : rw_at G' B' p md st lo E b0 b1 := by
  obtain ⟨a1, a2, a3, a4, a5, a6, a7, a8, a9, a10⟩ := h
  exact ⟨(e 0 (by decide)).trans a1, (e 1 (by decide)).trans a2, (e 2 (by decide)).trans a3, a4, a5.cpy (fun x x' ⟨j, h1, h2, h3, h4⟩ => by rw [h3, h4]; exact e j (by omega)), fun j hj => (by rw [Nat.add_assoc, e (4 + 2 * j) (by omega), ← Nat.add_assoc, Nat.add_assoc B' 5, e (5 + 2 * j) (by omega), ← Nat.add_assoc]; exact a6 j hj), a7, a8.cpy (fun j hj => by rw [Nat.add_assoc, e _ (by omega), Nat.add_assoc]), a9.cpy (fun j hj => by rw [Nat.add_assoc, e _ (by omega), Nat.add_assoc]) (e 99 (by decide)), a10.cpy (fun j hj => by rw [Nat.add_assoc, e _ (by omega), Nat.add_assoc]) (e 100 (by decide))⟩
theorem rw_at.kept {G G' : Nat → Int64} {B : Nat} {p : Int32} {md : Nat} {st : List ab_Sy} {lo : Nat → ab_Sy} {E : sp_E} {b0 b1 : ab_Ba} (h : rw_at G B p md st lo E b0 b1) (e : ∀ i, B ≤ i → i < B + 104 → G' i = G i) : rw_at G' B p md st lo E b0 b1 := h.cpy (fun j hj => e _ (by omega) (by omega))
theorem ix3 {r a : Nat} : (104 : Int32) * nI r + nI a = nI (104 * r + a) := ix (a := 104)
section MO
variable {d n : Nat} {sh : Nat → Nat × Nat} {X : Nat × (Nat → Int32)} {R : Nat → Nat → Option Nat} {I : Nat → Nat → Int32} {L : Nat → Nat → Int64} {Q : Option Value → gw_Mem → Prop}
theorem c_Mo_least {x y : Int64} {M : gw_Mem} (hQ : Q (some (.long (if x < y then x else y))) M) : gw_Call y_Mo_least d 0 0 [.long x, .long y] M Q := by
  refine gw_call o_Mo_least (Nat.le_of_ble_eq_true rfl) ?_
  refine go_lload_n 0 d_Mo_least_0 rfl rfl ?_
  refine go_lload_n 2 d_Mo_least_1 rfl rfl ?_
  refine go_lcmp_ge 10 d_Mo_least_2 d_Mo_least_3 rfl (fun h2 => ?_) (fun h2 => ?_)
  · refine go_lload_n 2 d_Mo_least_10 rfl rfl ?_
    exact go_lret d_Mo_least_11 rfl (by first | (rw [if_pos h2] at hQ; exact hQ) | (rw [if_neg h2] at hQ; exact hQ) | (rw [if_neg (Int64.not_lt.mpr h2)] at hQ; exact hQ) | (rw [if_pos (Int64.not_le.mp h2)] at hQ; exact hQ))
  · refine go_lload_n 0 d_Mo_least_6 rfl rfl ?_
    refine go_goto 11 d_Mo_least_7 rfl ?_
    exact go_lret d_Mo_least_11 rfl (by first | (rw [if_pos h2] at hQ; exact hQ) | (rw [if_neg h2] at hQ; exact hQ) | (rw [if_neg (Int64.not_lt.mpr h2)] at hQ; exact hQ) | (rw [if_pos (Int64.not_le.mp h2)] at hQ; exact hQ))
theorem c_Mo_pop {r md : Nat} {p : Int32} {v : ab_Sy} {st : List ab_Sy} {lo : Nat → ab_Sy} {E : sp_E} {b0 b1 : ab_Ba} (hp : pt_Mo sh R) (hr : r < 42) (h : rw_at (L 549) (104 * r) p md (v :: st) lo E b0 b1) (hQ : ∀ L', rw_at (L' 549) (104 * r) p md st lo E b0 b1 → ms_at (L' 549 (104 * r + 12 + 2 * st.length)) (L' 549 (104 * r + 13 + 2 * st.length)) v → (∀ i, i ≠ 104 * r + 2 → L' 549 i = L 549 i) → (∀ q, q ≠ 549 → L' q = L q) → Q (some (.int (nI (104 * r + 12 + 2 * st.length)))) (n, sh, X, R, I, L')) : gw_Call y_Mo_pop d 0 0 [.ref 533, .int (nI r)] (n, sh, X, R, I, L) Q := by
  obtain ⟨s533, s534, s535, s536, s537, s538, s539, s540, s541, s542, s543, s544, s545, s546, s547, s548, s549, s550, s551, s552, s553, s554, s555, s556, s557, r534, r535, r536, r537, r538, r539, r540, r541, r542, r543, r544, r545, r546, r547, r548, r549, r550, r551, r552, r553, r554, r555, r556, r557⟩ := hp
  obtain ⟨a1, a2, a3, a4, a5, a6, a7, a8, a9, a10⟩ := h
  have a3' : L 549 (104 * r + 2) = lN (st.length + 1) := a3
  have a4' : st.length + 1 ≤ 6 := a4
  have hd : lN (st.length + 1) - 1 = lN st.length := lN_sub (a := st.length + 1) (b := 1) (by omega)
  refine gw_call o_Mo_pop (Nat.le_of_ble_eq_true rfl) ?_
  refine go_bipush (v := 104) d_Mo_pop_0 rfl ?_
  refine go_iload_n 1 d_Mo_pop_2 rfl rfl ?_
  refine go_imul d_Mo_pop_3 ?_
  rw [show (104 : Int32) * nI r = nI (104 * r) from nI_mul 104 r]
  refine go_istore_n 2 d_Mo_pop_4 rfl (Nat.le_of_ble_eq_true rfl) ?_
  refine go_aload_n 0 d_Mo_pop_5 rfl rfl ?_
  refine go_getR d_Mo_pop_6 f_Mo_56 (by assumption) (by assumption) ?_
  refine go_iload_n 2 d_Mo_pop_9 rfl rfl ?_
  refine go_iconst (v := 2) d_Mo_pop_10 rfl ?_
  refine go_iadd d_Mo_pop_11 ?_
  refine go_dup2 d_Mo_pop_12 rfl rfl ?_
  refine go_lald (104 * r + 2) d_Mo_pop_13 (by assumption) (nI_add _ 2) (by omega) (by decide) ?_
  refine go_lconst (v := 1) d_Mo_pop_14 rfl ?_
  refine go_lsub d_Mo_pop_15 ?_
  rw [a3', hd]
  refine go_last (104 * r + 2) d_Mo_pop_16 (by assumption) (nI_add _ 2) (by omega) (by decide) ?_
  refine go_iload_n 2 d_Mo_pop_17 rfl rfl ?_
  refine go_bipush (v := 12) d_Mo_pop_18 rfl ?_
  refine go_iadd d_Mo_pop_20 ?_
  refine go_iconst (v := 2) d_Mo_pop_21 rfl ?_
  refine go_aload_n 0 d_Mo_pop_22 rfl rfl ?_
  refine go_getR d_Mo_pop_23 f_Mo_56 (by assumption) (by assumption) ?_
  refine go_iload_n 2 d_Mo_pop_26 rfl rfl ?_
  refine go_iconst (v := 2) d_Mo_pop_27 rfl ?_
  refine go_iadd d_Mo_pop_28 ?_
  refine go_lald (104 * r + 2) d_Mo_pop_29 (by assumption) (nI_add _ 2) (by omega) (by decide) ?_
  rw [up2_eq]
  refine go_l2i d_Mo_pop_30 (lN_i _) ?_
  refine go_imul d_Mo_pop_31 ?_
  refine go_iadd d_Mo_pop_32 ?_
  rw [show nI (104 * r) + 12 + 2 * nI st.length = nI (104 * r + 12 + 2 * st.length) by rw [show (2 : Int32) * nI st.length = nI (2 * st.length) from nI_mul 2 _, show nI (104 * r) + 12 = nI (104 * r + 12) from nI_add _ 12, nI_add]]
  exact go_iret d_Mo_pop_33 rfl (hQ _ ⟨by simp (disch := omega) only [up2_eq, up2_ne]; exact a1, by simp (disch := omega) only [up2_eq, up2_ne]; exact a2, by simp (disch := omega) only [up2_eq, up2_ne], by omega, a5.2.cpy (fun x x' ⟨j, h1, h2, h3, h4⟩ => by rw [h3, h4]; simp (disch := omega) only [up2_eq, up2_ne]), fun j hj => (by simp (disch := omega) only [up2_eq, up2_ne]; exact a6 j hj), a7, a8.cpy (fun j hj => by simp (disch := omega) only [up2_eq, up2_ne]), a9.cpy (fun j hj => by simp (disch := omega) only [up2_eq, up2_ne]) (by simp (disch := omega) only [up2_eq, up2_ne]), a10.cpy (fun j hj => by simp (disch := omega) only [up2_eq, up2_ne]) (by simp (disch := omega) only [up2_eq, up2_ne])⟩ (by simp (disch := omega) only [up2_eq, up2_ne]; exact a5.1) (fun i hi => by simp (disch := omega) only [up2_eq, up2_ne]) (fun q hq => gw_up_ne hq))
theorem c_Mo_push {r md : Nat} {p : Int32} {s x : Int64} {v : ab_Sy} {st : List ab_Sy} {lo : Nat → ab_Sy} {E : sp_E} {b0 b1 : ab_Ba} (hp : pt_Mo sh R) (hr : r < 42) (h : rw_at (L 549) (104 * r) p md st lo E b0 b1) (hl : st.length < 6) (hv : ms_at s x v) (hQ : ∀ L', rw_at (L' 549) (104 * r) p md (v :: st) lo E b0 b1 → (∀ i, i < 104 * r ∨ 104 * r + 104 ≤ i → L' 549 i = L 549 i) → (∀ q, q ≠ 549 → L' q = L q) → Q none (n, sh, X, R, I, L')) : gw_Call y_Mo_push d 0 0 [.ref 533, .int (nI r), .long s, .long x] (n, sh, X, R, I, L) Q := by
  obtain ⟨s533, s534, s535, s536, s537, s538, s539, s540, s541, s542, s543, s544, s545, s546, s547, s548, s549, s550, s551, s552, s553, s554, s555, s556, s557, r534, r535, r536, r537, r538, r539, r540, r541, r542, r543, r544, r545, r546, r547, r548, r549, r550, r551, r552, r553, r554, r555, r556, r557⟩ := hp
  obtain ⟨a1, a2, a3, a4, a5, a6, a7, a8, a9, a10⟩ := h
  refine gw_call o_Mo_push (Nat.le_of_ble_eq_true rfl) ?_
  refine go_bipush (v := 104) d_Mo_push_0 rfl ?_
  refine go_iload_n 1 d_Mo_push_2 rfl rfl ?_
  refine go_imul d_Mo_push_3 ?_
  rw [show (104 : Int32) * nI r = nI (104 * r) from nI_mul 104 r]
  refine go_istore d_Mo_push_4 (Nat.le_of_ble_eq_true rfl) ?_
  refine go_iload d_Mo_push_6 rfl ?_
  refine go_bipush (v := 12) d_Mo_push_8 rfl ?_
  refine go_iadd d_Mo_push_10 ?_
  refine go_iconst (v := 2) d_Mo_push_11 rfl ?_
  refine go_aload_n 0 d_Mo_push_12 rfl rfl ?_
  refine go_getR d_Mo_push_13 f_Mo_56 (by assumption) (by assumption) ?_
  refine go_iload d_Mo_push_16 rfl ?_
  refine go_iconst (v := 2) d_Mo_push_18 rfl ?_
  refine go_iadd d_Mo_push_19 ?_
  refine go_lald (104 * r + 2) d_Mo_push_20 (by assumption) (nI_add _ 2) (by omega) (by decide) ?_
  rw [a3]
  refine go_l2i d_Mo_push_21 (lN_i _) ?_
  refine go_imul d_Mo_push_22 ?_
  refine go_iadd d_Mo_push_23 ?_
  rw [show nI (104 * r) + 12 + 2 * nI st.length = nI (104 * r + 12 + 2 * st.length) by rw [show (2 : Int32) * nI st.length = nI (2 * st.length) from nI_mul 2 _, show nI (104 * r) + 12 = nI (104 * r + 12) from nI_add _ 12, nI_add]]
  refine go_istore d_Mo_push_24 (Nat.le_of_ble_eq_true rfl) ?_
  refine go_aload_n 0 d_Mo_push_26 rfl rfl ?_
  refine go_getR d_Mo_push_27 f_Mo_56 (by assumption) (by assumption) ?_
  refine go_iload d_Mo_push_30 rfl ?_
  refine go_lload_n 2 d_Mo_push_32 rfl rfl ?_
  refine go_last (104 * r + 12 + 2 * st.length) d_Mo_push_33 (by assumption) (rfl) (by omega) (by decide) ?_
  refine go_aload_n 0 d_Mo_push_34 rfl rfl ?_
  refine go_getR d_Mo_push_35 f_Mo_56 (by assumption) (by assumption) ?_
  refine go_iload d_Mo_push_38 rfl ?_
  refine go_iconst (v := 1) d_Mo_push_40 rfl ?_
  refine go_iadd d_Mo_push_41 ?_
  refine go_lload d_Mo_push_42 rfl ?_
  refine go_last (104 * r + 13 + 2 * st.length) d_Mo_push_44 (by assumption) ((nI_add _ 1).trans (congrArg nI (by omega))) (by omega) (by decide) ?_
  refine go_aload_n 0 d_Mo_push_45 rfl rfl ?_
  refine go_getR d_Mo_push_46 f_Mo_56 (by assumption) (by assumption) ?_
  refine go_iload d_Mo_push_49 rfl ?_
  refine go_iconst (v := 2) d_Mo_push_51 rfl ?_
  refine go_iadd d_Mo_push_52 ?_
  refine go_dup2 d_Mo_push_53 rfl rfl ?_
  refine go_lald (104 * r + 2) d_Mo_push_54 (by assumption) (nI_add _ 2) (by omega) (by decide) ?_
  refine go_lconst (v := 1) d_Mo_push_55 rfl ?_
  refine go_ladd d_Mo_push_56 ?_
  refine go_last (104 * r + 2) d_Mo_push_57 (by assumption) (nI_add _ 2) (by omega) (by decide) ?_
  exact go_vret d_Mo_push_58 rfl (hQ _ ⟨by simp (disch := omega) only [up2_eq, up2_ne]; exact a1, by simp (disch := omega) only [up2_eq, up2_ne]; exact a2, by simp (disch := omega) only [up2_eq, up2_ne]; rw [a3, lN_1]; rfl, by rw [List.length_cons]; omega, ⟨by simp (disch := omega) only [up2_eq, up2_ne]; exact hv, a5.cpy (fun x x' ⟨j, h1, h2, h3, h4⟩ => by rw [h3, h4]; simp (disch := omega) only [up2_eq, up2_ne])⟩, fun j hj => (by simp (disch := omega) only [up2_eq, up2_ne]; exact a6 j hj), a7, a8.cpy (fun j hj => by simp (disch := omega) only [up2_eq, up2_ne]), a9.cpy (fun j hj => by simp (disch := omega) only [up2_eq, up2_ne]) (by simp (disch := omega) only [up2_eq, up2_ne]), a10.cpy (fun j hj => by simp (disch := omega) only [up2_eq, up2_ne]) (by simp (disch := omega) only [up2_eq, up2_ne])⟩ (fun i hi => by simp (disch := omega) only [up2_eq, up2_ne]) (fun q hq => by rw [gw_up_ne hq, gw_up_ne hq, gw_up_ne hq]))
end MO
