/-! what the checker follows, and how large its numbers grow -/
def sb (N : Nat) (v : ab_Sy) : Prop := ∀ q, v = some q → -(N : Int) ≤ q.2.toInt ∧ q.2.toInt ≤ N
theorem sb.mono {N N' : Nat} {v : ab_Sy} (h : sb N v) (hn : N ≤ N') : sb N' v := fun q hq => by have := h q hq; omega
theorem sb_none {N : Nat} : sb N none := fun q hq => by cases hq
theorem l_add {x z : Int64} {N : Nat} (hN : N ≤ 1000000000000) (hx : -(N : Int) ≤ x.toInt ∧ x.toInt ≤ N) (hz : -(N : Int) ≤ z.toInt ∧ z.toInt ≤ N) : (x + z).toInt = x.toInt + z.toInt := by
  have h : x + z = Int64.ofInt (x.toInt + z.toInt) := by rw [Int64.ofInt_add, kn_of, kn_of]
  rw [h, kn_i (by unfold kn_s; omega)]
theorem l_sub {x z : Int64} {N : Nat} (hN : N ≤ 1000000000000) (hx : -(N : Int) ≤ x.toInt ∧ x.toInt ≤ N) (hz : -(N : Int) ≤ z.toInt ∧ z.toInt ≤ N) : (x - z).toInt = x.toInt - z.toInt := by
  have h : x - z = Int64.ofInt (x.toInt - z.toInt) := by rw [Int64.ofInt_sub, kn_of, kn_of]
  rw [h, kn_i (by unfold kn_s; omega)]
theorem sb_sum {N : Nat} {x y : ab_Sy} (hN : N ≤ 1000000000000) (hx : sb N x) (hy : sb N y) : sb (2 * N) (sy_sum x y) := by
  intro q hq
  cases x with
  | none => cases hq
  | some a => cases y with
    | none => cases hq
    | some b =>
      have h1 := hx a rfl
      have h2 := hy b rfl
      have h3 := l_add hN h1 h2
      unfold sy_sum at hq
      dsimp only at hq
      split at hq
      · cases hq; show _ ≤ (a.2 + b.2).toInt ∧ (a.2 + b.2).toInt ≤ _; omega
      · split at hq
        · cases hq; show _ ≤ (a.2 + b.2).toInt ∧ (a.2 + b.2).toInt ≤ _; omega
        · cases hq
theorem sb_dif {N : Nat} {x y : ab_Sy} (hN : N ≤ 1000000000000) (hx : sb N x) (hy : sb N y) : sb (2 * N) (sy_dif x y) := by
  intro q hq
  cases x with
  | none => cases hq
  | some a => cases y with
    | none => cases hq
    | some b =>
      have h1 := hx a rfl
      have h2 := hy b rfl
      have h3 := l_sub hN h1 h2
      unfold sy_dif at hq
      dsimp only at hq
      split at hq
      · cases hq; show _ ≤ (a.2 - b.2).toInt ∧ (a.2 - b.2).toInt ≤ _; omega
      · split at hq
        · cases hq; show _ ≤ (a.2 - b.2).toInt ∧ (a.2 - b.2).toInt ≤ _; omega
        · cases hq
theorem sb_up {N : Nat} {x : ab_Sy} {nn : Int32} (hN : N ≤ 1000000000000) (h1000 : 1000 ≤ N) (hn : -1000 ≤ nn.toInt ∧ nn.toInt ≤ 1000) (hx : sb N x) : sb (N + 1000) (sy_up nn x) := by
  intro q hq
  cases x with
  | none => cases hq
  | some a =>
    have h1 := hx a rfl
    have h2 : nn.toInt64.toInt = nn.toInt := Int32.toInt_toInt64 nn
    have h3 := l_add hN h1 (z := nn.toInt64) (by omega)
    cases hq
    show _ ≤ (a.2 + nn.toInt64).toInt ∧ (a.2 + nn.toInt64).toInt ≤ _
    omega
/-- stack and locals with numbers of at most N -/
def pa_bd (N : Nat) (st : List ab_Sy) (lo : Nat → ab_Sy) : Prop := (∀ v ∈ st, sb N v) ∧ ∀ j, j < 5 → sb N (lo j)
theorem pa_bd.mono {N N' : Nat} {st : List ab_Sy} {lo : Nat → ab_Sy} (h : pa_bd N st lo) (hn : N ≤ N') : pa_bd N' st lo := ⟨fun v hv => (h.1 v hv).mono hn, fun j hj => (h.2 j hj).mono hn⟩
theorem pa_bd.tail {N : Nat} {v : ab_Sy} {st : List ab_Sy} {lo : Nat → ab_Sy} (h : pa_bd N (v :: st) lo) : pa_bd N st lo := ⟨fun w hw => h.1 w (List.mem_cons_of_mem _ hw), h.2⟩
theorem pa_bd.head {N : Nat} {v : ab_Sy} {st : List ab_Sy} {lo : Nat → ab_Sy} (h : pa_bd N (v :: st) lo) : sb N v := h.1 v List.mem_cons_self
theorem pa_bd.cons {N : Nat} {v : ab_Sy} {st : List ab_Sy} {lo : Nat → ab_Sy} (h : pa_bd N st lo) (hv : sb N v) : pa_bd N (v :: st) lo := ⟨fun w hw => by rcases List.mem_cons.mp hw with rfl | hw; exact hv; exact h.1 w hw, h.2⟩
theorem pa_bd.set {N j : Nat} {v : ab_Sy} {st : List ab_Sy} {lo : Nat → ab_Sy} (h : pa_bd N st lo) (hv : sb N v) : pa_bd N st (va_up lo j v) := ⟨h.1, fun i hi => by by_cases he : i = j; (subst he; rw [gw_up_eq]; exact hv); (rw [gw_up_ne he]; exact h.2 i hi)⟩
def pa_B (md len : Nat) : Nat := 1000 * (md + 1) * 2 ^ ((md - len) / 2)
theorem pa_B_1 {md len : Nat} : 1000 ≤ pa_B md len := by
  unfold pa_B
  have h1 : 1 ≤ 2 ^ ((md - len) / 2) := Nat.one_le_two_pow
  exact Nat.le_trans (by omega : 1000 ≤ 1000 * (md + 1) * 1) (Nat.mul_le_mul_left _ h1)
theorem pa_B_s {md len len' : Nat} (h : len' ≤ len + 1) : pa_B md len + 1000 ≤ pa_B (md + 1) len' := by
  unfold pa_B
  have h0 : 2 ^ ((md - len) / 2) ≤ 2 ^ ((md + 1 - len') / 2) := Nat.pow_le_pow_right (by decide) (by omega)
  have h1 : 1 ≤ 2 ^ ((md + 1 - len') / 2) := Nat.one_le_two_pow
  have h2 := Nat.mul_le_mul_left (1000 * (md + 1)) h0
  have h3 : 1000 * (md + 1 + 1) * 2 ^ ((md + 1 - len') / 2) = 1000 * (md + 1) * 2 ^ ((md + 1 - len') / 2) + 1000 * 2 ^ ((md + 1 - len') / 2) := by rw [← Nat.add_mul]; congr 1
  rw [h3]
  have h4 := Nat.mul_le_mul_left 1000 h1
  omega
theorem pa_B_d {md len : Nat} (hl : len + 1 ≤ md) : 2 * pa_B md (len + 1) ≤ pa_B (md + 1) len := by
  unfold pa_B
  rw [show (md + 1 - len) / 2 = (md - (len + 1)) / 2 + 1 by omega, Nat.pow_succ]
  have h1 : 1000 * (md + 1) ≤ 1000 * (md + 1 + 1) := by omega
  have h2 := Nat.mul_le_mul_right (2 ^ ((md - (len + 1)) / 2)) h1
  have h3 := Nat.mul_le_mul_left 2 h2
  rw [← Nat.mul_assoc (1000 * (md + 1 + 1))]
  omega
theorem pa_B_m {md len : Nat} (h : md ≤ 40) : pa_B md len ≤ 45000000000 := by
  unfold pa_B
  have h0 : 2 ^ ((md - len) / 2) ≤ 2 ^ 20 := Nat.pow_le_pow_right (by decide) (by omega)
  have h1 : 1000 * (md + 1) ≤ 41000 := by omega
  exact Nat.le_trans (Nat.mul_le_mul h1 h0) (by decide)
theorem pa_do_bd {k md : Nat} {nn p : Int32} {st : List ab_Sy} {lo : Nat → ab_Sy} (h : pa_bd (pa_B md st.length) st lo) (hmd : md ≤ 40) (hlen : st.length ≤ md) (hn : -1000 ≤ nn.toInt ∧ nn.toInt ≤ 1000) (hk : k < 8 ∨ k = 13 ∨ k = 14) (q2 : rn_tk k ≤ st.length) (q4 : (k = 1 ∨ k = 2) → ∃ j, j < 4 ∧ nn = nI j) : pa_bd (pa_B (md + 1) (pa_do k nn p st lo).2.1.length) (pa_do k nn p st lo).2.1 (pa_do k nn p st lo).2.2 ∧ (pa_do k nn p st lo).2.1.length = st.length - rn_tk k + rn_pu k := by
  have hM := pa_B_m (len := st.length) hmd
  have h1 := pa_B_1 (md := md) (len := st.length)
  rcases (show k = 0 ∨ k = 1 ∨ k = 2 ∨ k = 3 ∨ k = 4 ∨ k = 5 ∨ k = 6 ∨ k = 7 ∨ k = 13 ∨ k = 14 by clear q4; omega) with rfl | rfl | rfl | rfl | rfl | rfl | rfl | rfl | rfl | rfl
  · refine ⟨(h.mono ?_).cons (fun q hq => ?_), rfl⟩
    · have := pa_B_s (md := md) (len := st.length) (len' := st.length + 1) (Nat.le_refl _)
      show pa_B md st.length ≤ pa_B (md + 1) (st.length + 1)
      omega
    · cases hq
      have h2 : nn.toInt64.toInt = nn.toInt := Int32.toInt_toInt64 nn
      have h3 := pa_B_1 (md := md + 1) (len := st.length + 1)
      show -((pa_B (md + 1) (st.length + 1) : Nat) : Int) ≤ nn.toInt64.toInt ∧ nn.toInt64.toInt ≤ ((pa_B (md + 1) (st.length + 1) : Nat) : Int)
      omega
  · obtain ⟨j, hj, rfl⟩ := q4 (Or.inl rfl)
    have hB := pa_B_s (md := md) (len := st.length) (len' := st.length + 1) (Nat.le_refl _)
    refine ⟨(h.mono (show pa_B md st.length ≤ pa_B (md + 1) (st.length + 1) by omega)).cons ?_, rfl⟩
    rw [nI_clamp (by omega)]
    exact (h.2 j (by omega)).mono (show pa_B md st.length ≤ pa_B (md + 1) (st.length + 1) by omega)
  · cases st with
    | nil => exact absurd q2 (by decide)
    | cons v st =>
      have hB := pa_B_s (md := md) (len := st.length + 1) (len' := st.length) (by omega)
      exact ⟨(h.tail.set h.head).mono (show pa_B md (st.length + 1) ≤ pa_B (md + 1) st.length by omega), rfl⟩
  · cases st with
    | nil => exact absurd q2 (by decide)
    | cons y st => cases st with
      | nil => exact absurd q2 (by simp [rn_tk])
      | cons x st =>
        have hB := pa_B_s (md := md) (len := st.length + 2) (len' := st.length + 1) (by omega)
        have hD := pa_B_d (md := md) (len := st.length + 1) hlen
        exact ⟨(h.tail.tail.mono (show pa_B md (st.length + 2) ≤ pa_B (md + 1) (st.length + 1) by omega)).cons ((sb_sum (N := pa_B md (st.length + 2)) (Nat.le_trans hM (by decide)) h.tail.head h.head).mono hD), rfl⟩
  · cases st with
    | nil => exact absurd q2 (by decide)
    | cons y st => cases st with
      | nil => exact absurd q2 (by simp [rn_tk])
      | cons x st =>
        have hB := pa_B_s (md := md) (len := st.length + 2) (len' := st.length + 1) (by omega)
        have hD := pa_B_d (md := md) (len := st.length + 1) hlen
        exact ⟨(h.tail.tail.mono (show pa_B md (st.length + 2) ≤ pa_B (md + 1) (st.length + 1) by omega)).cons ((sb_dif (N := pa_B md (st.length + 2)) (Nat.le_trans hM (by decide)) h.tail.head h.head).mono hD), rfl⟩
  · have hB := pa_B_s (md := md) (len := st.length) (len' := st.length) (by omega)
    exact ⟨(h.mono (show pa_B md st.length ≤ pa_B (md + 1) st.length by omega)).set ((sb_up (by omega) h1 hn (h.2 0 (by decide))).mono hB), by simp [pa_do, rn_tk, rn_pu]⟩
  · have hB := pa_B_s (md := md) (len := st.length) (len' := st.length) (by omega)
    exact ⟨(h.mono (show pa_B md st.length ≤ pa_B (md + 1) st.length by omega)).set ((sb_up (by omega) h1 hn (h.2 1 (by decide))).mono hB), by simp [pa_do, rn_tk, rn_pu]⟩
  · have hB := pa_B_s (md := md) (len := st.length) (len' := st.length) (by omega)
    exact ⟨h.mono (show pa_B md st.length ≤ pa_B (md + 1) st.length by omega), by simp [pa_do, rn_tk, rn_pu]⟩
  · have hB := pa_B_s (md := md) (len := st.length) (len' := st.length + 1) (Nat.le_refl _)
    exact ⟨(h.mono (show pa_B md st.length ≤ pa_B (md + 1) (st.length + 1) by omega)).cons sb_none, rfl⟩
  · cases st with
    | nil => exact absurd q2 (by decide)
    | cons v st =>
      have hB := pa_B_s (md := md) (len := st.length + 1) (len' := st.length) (by omega)
      exact ⟨h.tail.mono (show pa_B md (st.length + 1) ≤ pa_B (md + 1) st.length by omega), rfl⟩
/-- place, instructions made, stack, locals, what is known, the two balances -/
abbrev ab_Pa : Type := Int32 × Nat × List ab_Sy × (Nat → ab_Sy) × (sp_E × sp_E) × ab_Ba × ab_Ba
def ce_pa (go : ab_Pa → Nat → Int32 × Nat) (k : Option (sp_E × sp_E)) (p : Int32) (md : Nat) (st : List ab_Sy) (lo : Nat → ab_Sy) (b0 b1 : ab_Ba) (e : Nat) : Int32 × Nat := match k with
  | none => (0, e)
  | some s => go (p, md, st, lo, s, b0, b1) e
def ce_br (go : ab_Pa → Nat → Int32 × Nat) (near jump : Option (sp_E × sp_E)) (p pj : Int32) (md : Nat) (st : List ab_Sy) (lo : Nat → ab_Sy) (b0 b1 : ab_Ba) (e : Nat) : Int32 × Nat :=
  if (ce_pa go near p md st lo b0 b1 e).1 = 0 then ce_pa go jump pj md st lo b0 b1 (ce_pa go near p md st lo b0 b1 e).2 else ce_pa go near p md st lo b0 b1 e
/-- the first cut of a method -/
def cu_first (A : ab_Me) : ab_Cu := match A.2.1 with
  | [] => cu_0
  | c :: _ => c.2
/-- the cut at a place -/
def cu_of (l : List (Nat × ab_Cu)) (p : Int32) : Option ab_Cu := match l with
  | [] => none
  | c :: l => if nI c.1 = p then some c.2 else cu_of l p
/-- an instruction that cramps nothing, counted already -/
noncomputable def ce_do (go : ab_Pa → Nat → Int32 × Nat) (S : Nat → ab_Me) (k : Nat) (nn p : Int32) (md : Nat) (st : List ab_Sy) (lo : Nat → ab_Sy) (s : sp_E × sp_E) (b0 b1 : ab_Ba) (e : Nat) : Int32 × Nat := match k, st with
  | 12, st => ce_end e st lo s.2 b0 b1 none
  | 8, y :: x :: st => ce_br go (pa_lrn (pa_edge false x y) s) (pa_lrn (pa_edge true x y) s) p nn md st lo b0 b1 e
  | 9, y :: x :: st => ce_br go (pa_lrn (pa_edge true x y) s) (pa_lrn (pa_edge false x y) s) p nn md st lo b0 b1 e
  | 10, none :: _ => (5, e)
  | 10, some q :: st => cIf (∃ w, s.2 4 q.1 = some w ∧ w ≤ q.2.toInt) (go (p, md, st, lo, s, b0, (ba_T b1.1 q.1 4 (-1), b1.2 - (q.2 + 2))) e) (5, e)
  | 11, z :: y :: x :: st => cIf ((S nn.toNatClampNeg).2.2 = true ∧ kn_sh s.2 (ca_sy x y z) (cu_first (S nn.toNatClampNeg)).1 ∧ ¬ po_no (ca_sy x y z) (cu_first (S nn.toNatClampNeg)).2.1.2 ∧ ¬ po_no (ca_sy x y z) (cu_first (S nn.toNatClampNeg)).2.2.2) (go (p, md, none :: st, lo, s, ba_pot (ca_sy x y z) (-1 : Int32).toInt64 (cu_first (S nn.toNatClampNeg)).2.1 b0, ba_pot (ca_sy x y z) (-1 : Int32).toInt64 (cu_first (S nn.toNatClampNeg)).2.2 b1) e) (6, e)
  | k, st => go ((pa_do k nn p st lo).1, md, (pa_do k nn p st lo).2.1, (pa_do k nn p st lo).2.2, s, b0, b1) e
/-- what is wrong on a path and all that part from it, and how many have ended -/
noncomputable def ce_go (S : Nat → ab_Me) (m : Nat) : Nat → ab_Pa → Nat → Int32 × Nat
  | 0, _, e => (3, e)
  | f + 1, (p, md, st, lo, s, b0, b1), e => cIf (∃ q, q < (S m).1.length ∧ p = nI q)
    (match (if md = 0 then none else cu_of (S m).2.1 p) with
      | some A => ce_end e st lo s.2 b0 b1 (some A)
      | none => if 40 ≤ md then (3, e) else match (S m).1[p.toNatClampNeg]? with
        | none => (2, e)
        | some (k, nn) => cIf (rn_cr (fun j => (S j).1.length) k nn m st.length) (2, e) (ce_do (ce_go S m f) S k nn (p + 1) (md + 1) st lo s (b0.1, b0.2 - 1) b1 e)) (2, e)
