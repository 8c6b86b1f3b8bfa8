/-! the reference: accepted, bound, calls, feed, ran -/
def i_rg (x : Int32) : Prop := -1000000 ≤ x.toInt ∧ x.toInt ≤ 1000000
theorem i_rg_of {x : Int32} (h : -1000000 ≤ x ∧ x ≤ 1000000) : i_rg x := by
  have h1 := Int32.le_iff_toInt_le.mp h.1
  have h2 := Int32.le_iff_toInt_le.mp h.2
  rw [show (-1000000 : Int32).toInt = -1000000 by decide] at h1
  rw [show (1000000 : Int32).toInt = 1000000 by decide] at h2
  exact ⟨h1, h2⟩
theorem i_sub64 {u w : Int32} (hu : i_rg u) (hw : i_rg w) : u.toInt64 - w.toInt64 = (u - w).toInt64 := by
  obtain ⟨h1, h2⟩ := hu
  obtain ⟨h3, h4⟩ := hw
  have h5 : (u - w).toInt = u.toInt - w.toInt := by rw [Int32.toInt_sub]; exact Int.bmod_eq_of_le (by omega) (by omega)
  rw [i_64 u, i_64 w, i_64 (u - w), h5, Int64.ofInt_sub]
theorem i_le64 {u w : Int32} : u.toInt64 ≤ w.toInt64 ↔ u ≤ w := by rw [Int64.le_iff_toInt_le, Int32.toInt_toInt64, Int32.toInt_toInt64, Int32.le_iff_toInt_le]
theorem ar_rg {x y z : Int32} (hx : i_rg x) (hy : i_rg y) (hz : i_rg z) (j : Nat) : i_rg (ar_v x y z j) := by
  unfold ar_v
  split
  · exact hx
  · split
    · exact hy
    · split
      · exact hz
      · exact ⟨by decide, by decide⟩
section MO
variable {d n : Nat} {sh : Nat → Nat × Nat} {X : Nat × (Nat → Int32)} {R : Nat → Nat → Option Nat} {I : Nat → Nat → Int32} {L : Nat → Nat → Int64} {Q : Option Value → gw_Mem → Prop}
variable {U : Nat → ab_Me}
theorem c_Mo_accepted {x : Int32} (hp : pt_Mo sh R) (hc : mc_at I U) (hQ : ∀ b : Bool, (b = true ↔ ∃ k, k < 4 ∧ x = nI k ∧ (U k).2.2 = true) → Q (some (.int (bI b))) (n, sh, X, R, I, L)) : gw_Call y_Mo_accepted (d + 1) 0 0 [.ref 533, .int x] (n, sh, X, R, I, L) Q := by
  obtain ⟨s533, s534, s535, s536, s537, s538, s539, s540, s541, s542, s543, s544, s545, s546, s547, s548, s549, s550, s551, s552, s553, s554, s555, s556, s557, r534, r535, r536, r537, r538, r539, r540, r541, r542, r543, r544, r545, r546, r547, r548, r549, r550, r551, r552, r553, r554, r555, r556, r557⟩ := hp
  refine gw_call o_Mo_accepted (Nat.le_of_ble_eq_true rfl) ?_
  refine go_iload_n 1 d_Mo_accepted_0 rfl rfl ?_
  refine go_i2l d_Mo_accepted_1 (rfl) ?_
  refine go_lconst (v := 0) d_Mo_accepted_2 rfl ?_
  refine go_ldc2 d_Mo_accepted_3 i_Mo_84 ?_
  refine go_S3 d_Mo_accepted_6 k_Mo_86 (Nat.le_of_ble_eq_true rfl) (c_Mo_in (l := 0) (h := 3) rfl rfl (fun b1 k1 z1 => ?_))
  refine go_if_eq 41 d_Mo_accepted_9 rfl (fun h9 => ?_) (fun h9 => ?_)
  · refine go_iconst (v := 0) d_Mo_accepted_41 rfl ?_
    exact go_zret d_Mo_accepted_42 rfl (by first | exact Or.inl rfl | exact Or.inr rfl | assumption) (by first | exact hQ true ⟨fun _ => ⟨k, hk, rfl, bI_n0.mp (by rw [← g]; exact h34)⟩, fun _ => rfl⟩ | exact hQ false ⟨fun h => (by cases h), fun ⟨k', q1, q2, q3⟩ => absurd h9 (k1.mpr (by rw [q2]; exact m4 q1))⟩ | exact hQ false ⟨fun h => (by cases h), fun ⟨k', q1, q2, q3⟩ => by (have e := (nI_eq (by omega) (by omega)).mp q2; subst e; rw [g, q3] at h34; exact absurd h34 (by decide))⟩)
  · refine go_aload_n 0 d_Mo_accepted_12 rfl rfl ?_
    refine go_getR d_Mo_accepted_13 f_Mo_19 (by assumption) (by assumption) ?_
    refine go_iload_n 1 d_Mo_accepted_16 rfl rfl ?_
    refine go_i2l d_Mo_accepted_17 (rfl) ?_
    refine go_lconst (v := 0) d_Mo_accepted_18 rfl ?_
    refine go_ldc2 d_Mo_accepted_19 i_Mo_84 ?_
    refine go_S3 d_Mo_accepted_22 k_Mo_86 (Nat.le_of_ble_eq_true rfl) (c_Mo_in (l := 0) (h := 3) rfl rfl (fun b2 k2 z2 => ?_))
    refine go_if_eq 32 d_Mo_accepted_25 rfl (fun hn => absurd hn (k2.mpr (k1.mp h9))) (fun _ => ?_)
    obtain ⟨k, hk, rfl⟩ := m4' (k1.mp h9)
    have g := (hc k hk).2.2.2.1
    refine go_iload_n 1 d_Mo_accepted_28 rfl rfl ?_
    refine go_goto 33 d_Mo_accepted_29 rfl ?_
    refine go_zald (k) d_Mo_accepted_33 (by assumption) (rfl) (hk) (by decide) ?_
    refine go_if_eq 41 d_Mo_accepted_34 rfl (fun h34 => ?_) (fun h34 => ?_)
    · refine go_iconst (v := 0) d_Mo_accepted_41 rfl ?_
      exact go_zret d_Mo_accepted_42 rfl (by first | exact Or.inl rfl | exact Or.inr rfl | assumption) (by first | exact hQ true ⟨fun _ => ⟨k, hk, rfl, bI_n0.mp (by rw [← g]; exact h34)⟩, fun _ => rfl⟩ | exact hQ false ⟨fun h => (by cases h), fun ⟨k', q1, q2, q3⟩ => absurd h9 (k1.mpr (by rw [q2]; exact m4 q1))⟩ | exact hQ false ⟨fun h => (by cases h), fun ⟨k', q1, q2, q3⟩ => by (have e := (nI_eq (by omega) (by omega)).mp q2; subst e; rw [g, q3] at h34; exact absurd h34 (by decide))⟩)
    · refine go_iconst (v := 1) d_Mo_accepted_37 rfl ?_
      refine go_goto 42 d_Mo_accepted_38 rfl ?_
      exact go_zret d_Mo_accepted_42 rfl (by first | exact Or.inl rfl | exact Or.inr rfl | assumption) (by first | exact hQ true ⟨fun _ => ⟨k, hk, rfl, bI_n0.mp (by rw [← g]; exact h34)⟩, fun _ => rfl⟩ | exact hQ false ⟨fun h => (by cases h), fun ⟨k', q1, q2, q3⟩ => absurd h9 (k1.mpr (by rw [q2]; exact m4 q1))⟩ | exact hQ false ⟨fun h => (by cases h), fun ⟨k', q1, q2, q3⟩ => by (have e := (nI_eq (by omega) (by omega)).mp q2; subst e; rw [g, q3] at h34; exact absurd h34 (by decide))⟩)
theorem c_Mo_argument {v : Nat} {x y z : Int32} {M : gw_Mem} (hv : v < 5) (hQ : Q (some (.long (ar_v x y z v).toInt64)) M) : gw_Call y_Mo_argument d 0 0 [.int (nI v), .int x, .int y, .int z] M Q := by
  refine gw_call o_Mo_argument (Nat.le_of_ble_eq_true rfl) ?_
  rcases (show v = 0 ∨ v = 1 ∨ v = 2 ∨ v = 3 ∨ v = 4 by omega) with rfl | rfl | rfl | rfl | rfl
  · skip
    refine go_iload_n 0 d_Mo_argument_0 rfl rfl ?_
    refine go_if_ne 9 d_Mo_argument_1 rfl (fun hn => absurd hn (by decide)) (fun _ => ?_)
    refine go_iload_n 1 d_Mo_argument_4 rfl rfl ?_
    refine go_i2l d_Mo_argument_5 (rfl) ?_
    refine go_goto 30 d_Mo_argument_6 rfl ?_
    exact go_lret d_Mo_argument_30 rfl (hQ)
  · skip
    refine go_iload_n 0 d_Mo_argument_0 rfl rfl ?_
    refine go_if_ne 9 d_Mo_argument_1 rfl (fun _ => ?_) (fun hn => by first | exact absurd hn (by decide) | exact absurd (by decide) hn)
    refine go_iload_n 0 d_Mo_argument_9 rfl rfl ?_
    refine go_iconst (v := 1) d_Mo_argument_10 rfl ?_
    refine go_icmp_ne 19 d_Mo_argument_11 rfl (fun hn => absurd hn (by decide)) (fun _ => ?_)
    refine go_iload_n 2 d_Mo_argument_14 rfl rfl ?_
    refine go_i2l d_Mo_argument_15 (rfl) ?_
    refine go_goto 30 d_Mo_argument_16 rfl ?_
    exact go_lret d_Mo_argument_30 rfl (hQ)
  · skip
    refine go_iload_n 0 d_Mo_argument_0 rfl rfl ?_
    refine go_if_ne 9 d_Mo_argument_1 rfl (fun _ => ?_) (fun hn => by first | exact absurd hn (by decide) | exact absurd (by decide) hn)
    refine go_iload_n 0 d_Mo_argument_9 rfl rfl ?_
    refine go_iconst (v := 1) d_Mo_argument_10 rfl ?_
    refine go_icmp_ne 19 d_Mo_argument_11 rfl (fun _ => ?_) (fun hn => by first | exact absurd hn (by decide) | exact absurd (by decide) hn)
    refine go_iload_n 0 d_Mo_argument_19 rfl rfl ?_
    refine go_iconst (v := 2) d_Mo_argument_20 rfl ?_
    refine go_icmp_ne 29 d_Mo_argument_21 rfl (fun hn => absurd hn (by decide)) (fun _ => ?_)
    refine go_iload_n 3 d_Mo_argument_24 rfl rfl ?_
    refine go_i2l d_Mo_argument_25 (rfl) ?_
    refine go_goto 30 d_Mo_argument_26 rfl ?_
    exact go_lret d_Mo_argument_30 rfl (hQ)
  · skip
    refine go_iload_n 0 d_Mo_argument_0 rfl rfl ?_
    refine go_if_ne 9 d_Mo_argument_1 rfl (fun _ => ?_) (fun hn => by first | exact absurd hn (by decide) | exact absurd (by decide) hn)
    refine go_iload_n 0 d_Mo_argument_9 rfl rfl ?_
    refine go_iconst (v := 1) d_Mo_argument_10 rfl ?_
    refine go_icmp_ne 19 d_Mo_argument_11 rfl (fun _ => ?_) (fun hn => by first | exact absurd hn (by decide) | exact absurd (by decide) hn)
    refine go_iload_n 0 d_Mo_argument_19 rfl rfl ?_
    refine go_iconst (v := 2) d_Mo_argument_20 rfl ?_
    refine go_icmp_ne 29 d_Mo_argument_21 rfl (fun _ => ?_) (fun hn => by first | exact absurd hn (by decide) | exact absurd (by decide) hn)
    refine go_lconst (v := 0) d_Mo_argument_29 rfl ?_
    exact go_lret d_Mo_argument_30 rfl (hQ)
  · skip
    refine go_iload_n 0 d_Mo_argument_0 rfl rfl ?_
    refine go_if_ne 9 d_Mo_argument_1 rfl (fun _ => ?_) (fun hn => by first | exact absurd hn (by decide) | exact absurd (by decide) hn)
    refine go_iload_n 0 d_Mo_argument_9 rfl rfl ?_
    refine go_iconst (v := 1) d_Mo_argument_10 rfl ?_
    refine go_icmp_ne 19 d_Mo_argument_11 rfl (fun _ => ?_) (fun hn => by first | exact absurd hn (by decide) | exact absurd (by decide) hn)
    refine go_iload_n 0 d_Mo_argument_19 rfl rfl ?_
    refine go_iconst (v := 2) d_Mo_argument_20 rfl ?_
    refine go_icmp_ne 29 d_Mo_argument_21 rfl (fun _ => ?_) (fun hn => by first | exact absurd hn (by decide) | exact absurd (by decide) hn)
    refine go_lconst (v := 0) d_Mo_argument_29 rfl ?_
    exact go_lret d_Mo_argument_30 rfl (hQ)
theorem c_Mo_bound {x y a b c : Int32} (hp : pt_Mo sh R) (hc : mc_at I U) (h0 : ∀ k, k < 4 → ∃ A, (0, A) ∈ (U k).2.1)
    (hu : ∀ k, k < 4 → ∀ (i j : Nat) (e f : Nat × ab_Cu), (U k).2.1[i]? = some e → (U k).2.1[j]? = some f → nI e.1 = nI f.1 → i = j)
    (hf : ¬ (∃ k v A, k < 4 ∧ x = nI k ∧ v < 2 ∧ y = nI v ∧ (U k).2.2 = true ∧ ((-1000000 ≤ a ∧ a ≤ 1000000) ∧ (-1000000 ≤ b ∧ b ≤ 1000000) ∧ (-1000000 ≤ c ∧ c ≤ 1000000)) ∧ (0, A) ∈ (U k).2.1 ∧ cu_holds (ar_v a b c) A.1) → Q (some (.long (-1))) (n, sh, X, R, I, L))
    (hQ : ∀ k v A, k < 4 → x = nI k → v < 2 → y = nI v → (U k).2.2 = true → ((-1000000 ≤ a ∧ a ≤ 1000000) ∧ (-1000000 ≤ b ∧ b ≤ 1000000) ∧ (-1000000 ≤ c ∧ c ≤ 1000000)) → (0, A) ∈ (U k).2.1 → cu_holds (ar_v a b c) A.1 → Q (some (.long (po_val (ar_v a b c) (cu_pot v A).2 (cu_pot v A).1.toInt64))) (n, sh, X, R, I, L)) : gw_Call y_Mo_bound (d + 2) 0 0 [.ref 533, .int x, .int y, .int a, .int b, .int c] (n, sh, X, R, I, L) Q := by
  have hp0 := hp
  obtain ⟨s533, s534, s535, s536, s537, s538, s539, s540, s541, s542, s543, s544, s545, s546, s547, s548, s549, s550, s551, s552, s553, s554, s555, s556, s557, r534, r535, r536, r537, r538, r539, r540, r541, r542, r543, r544, r545, r546, r547, r548, r549, r550, r551, r552, r553, r554, r555, r556, r557⟩ := hp
  refine gw_call o_Mo_bound (Nat.le_of_ble_eq_true rfl) ?_
  -- the sum
  have sum : ∀ (k i v : Nat) (A : ab_Cu) (o10 : Option Value), k < 4 → i < 6 → x = nI k → v < 2 → y = nI v → (U k).2.2 = true → ((-1000000 ≤ a ∧ a ≤ 1000000) ∧ (-1000000 ≤ b ∧ b ≤ 1000000) ∧ (-1000000 ≤ c ∧ c ≤ 1000000)) → (0, A) ∈ (U k).2.1 → cu_holds (ar_v a b c) A.1 → mu_at I (6 * k + i) A → ∀ (ts : List (Nat × Nat × Nat)) (j : Nat) (z : Int32) (s : Int64) (o6 : Option Value), z = nI (3 * (2 * (6 * k + i) + v) + j) → j ≤ (cu_pot v A).2.length → (cu_pot v A).2.drop j = ts → po_val (ar_v a b c) (cu_pot v A).2 (cu_pot v A).1.toInt64 = po_val (ar_v a b c) ts s → gw_Go y_Mo_bound (d + 2) 0 0 192 [some (.ref 533), some (.int x), some (.int y), some (.int a), some (.int b), some (.int c), o6, some (.int (nI (6 * k + i))), some (.int (nI (2 * (6 * k + i) + v))), some (.long s), none, some (.int z)] [] (n, sh, X, R, I, L) Q := by
    intro k i v A o10 hk hi hx hv hy hacc hrg hA hh hu2 ts
    have up : mp_at I (2 * (6 * k + i) + v) (cu_pot v A) := by rcases (show v = 0 ∨ v = 1 by omega) with rfl | rfl; exact hu2.2.2.2.1; exact hu2.2.2.2.2
    obtain ⟨w1, w2, w3, w4⟩ := up
    have ra := i_rg_of hrg.1
    have rb := i_rg_of hrg.2.1
    have rc := i_rg_of hrg.2.2
    have fin := hQ k v A hk hx hv hy hacc hrg hA hh
    induction ts with
    | nil =>
      intro j z s o6 hz hj hd hs
      have hl := gw_dropE hd
      refine go_iload d_Mo_bound_192 rfl ?_
      refine go_iconst (v := 3) d_Mo_bound_194 rfl ?_
      refine go_iload d_Mo_bound_195 rfl ?_
      refine go_imul d_Mo_bound_197 ?_
      refine go_aload_n 0 d_Mo_bound_198 rfl rfl ?_
      refine go_getR d_Mo_bound_199 f_Mo_44 (by assumption) (by assumption) ?_
      refine go_iload d_Mo_bound_202 rfl ?_
      refine go_iald (2 * (6 * k + i) + v) d_Mo_bound_204 (by assumption) (rfl) (by omega) (by decide) ?_
      refine go_iadd d_Mo_bound_205 ?_
      refine go_icmp_ge 260 d_Mo_bound_206 rfl (fun _ => ?_) (fun hn => absurd (by rw [w2, hz, show (3 : Int32) * nI (2 * (6 * k + i) + v) + nI (cu_pot v A).2.length = nI (3 * (2 * (6 * k + i) + v) + (cu_pot v A).2.length) from ix (a := 3)]; exact (nI_leI (by omega) (by omega)).mpr (by omega)) hn)
      refine go_lload d_Mo_bound_260 rfl ?_
      exact go_lret d_Mo_bound_262 rfl (by rw [hs] at fin; exact fin)
    | cons t ts ih =>
      intro j z s o6 hz hj hd hs
      obtain ⟨hj1, hj2, hj3⟩ := gw_drop hd
      obtain ⟨t1, t2, t3, t4, t5⟩ := w4 j t hj2
      refine go_iload d_Mo_bound_192 rfl ?_
      refine go_iconst (v := 3) d_Mo_bound_194 rfl ?_
      refine go_iload d_Mo_bound_195 rfl ?_
      refine go_imul d_Mo_bound_197 ?_
      refine go_aload_n 0 d_Mo_bound_198 rfl rfl ?_
      refine go_getR d_Mo_bound_199 f_Mo_44 (by assumption) (by assumption) ?_
      refine go_iload d_Mo_bound_202 rfl ?_
      refine go_iald (2 * (6 * k + i) + v) d_Mo_bound_204 (by assumption) (rfl) (by omega) (by decide) ?_
      refine go_iadd d_Mo_bound_205 ?_
      refine go_icmp_ge 260 d_Mo_bound_206 rfl (fun hn => absurd hn (by rw [w2, hz, show (3 : Int32) * nI (2 * (6 * k + i) + v) + nI (cu_pot v A).2.length = nI (3 * (2 * (6 * k + i) + v) + (cu_pot v A).2.length) from ix (a := 3)]; exact nI_ge (by omega) (by omega))) (fun _ => ?_)
      refine go_lload d_Mo_bound_209 rfl ?_
      refine go_aload_n 0 d_Mo_bound_211 rfl rfl ?_
      refine go_getR d_Mo_bound_212 f_Mo_47 (by assumption) (by assumption) ?_
      refine go_iload d_Mo_bound_215 rfl ?_
      refine go_iald (3 * (2 * (6 * k + i) + v) + j) d_Mo_bound_217 (by assumption) (hz) (by omega) (by decide) ?_
      refine go_i2l d_Mo_bound_218 (rfl) ?_
      refine go_aload_n 0 d_Mo_bound_219 rfl rfl ?_
      refine go_getR d_Mo_bound_220 f_Mo_50 (by assumption) (by assumption) ?_
      refine go_iload d_Mo_bound_223 rfl ?_
      refine go_iald (3 * (2 * (6 * k + i) + v) + j) d_Mo_bound_225 (by assumption) (hz) (by omega) (by decide) ?_
      rw [t2]
      refine go_iload_n 3 d_Mo_bound_226 rfl rfl ?_
      refine go_iload d_Mo_bound_227 rfl ?_
      refine go_iload d_Mo_bound_229 rfl ?_
      refine go_S4 d_Mo_bound_231 k_Mo_228 (Nat.le_of_ble_eq_true rfl) (c_Mo_argument t4 ?_)
      refine go_aload_n 0 d_Mo_bound_234 rfl rfl ?_
      refine go_getR d_Mo_bound_235 f_Mo_53 (by assumption) (by assumption) ?_
      refine go_iload d_Mo_bound_238 rfl ?_
      refine go_iald (3 * (2 * (6 * k + i) + v) + j) d_Mo_bound_240 (by assumption) (hz) (by omega) (by decide) ?_
      rw [t3]
      refine go_iload_n 3 d_Mo_bound_241 rfl rfl ?_
      refine go_iload d_Mo_bound_242 rfl ?_
      refine go_iload d_Mo_bound_244 rfl ?_
      refine go_S4 d_Mo_bound_246 k_Mo_228 (Nat.le_of_ble_eq_true rfl) (c_Mo_argument t5 ?_)
      refine go_lsub d_Mo_bound_249 ?_
      refine go_lmul d_Mo_bound_250 ?_
      refine go_ladd d_Mo_bound_251 ?_
      refine go_lstore d_Mo_bound_252 (Nat.le_of_ble_eq_true rfl) ?_
      refine go_iinc d_Mo_bound_254 rfl rfl (Nat.le_of_ble_eq_true rfl) ?_
      refine go_goto 192 d_Mo_bound_257 rfl ?_
      exact ih (j + 1) _ _ _ (gw_inc hz) (by omega) hj3 (by rw [hs, t1]; show po_val _ ts _ = po_val _ ts _; rw [i_sub64 (ar_rg ra rb rc _) (ar_rg ra rb rc _)])
  have claims : ∀ (k i v : Nat) (A : ab_Cu), k < 4 → i < 6 → (U k).2.1[i]? = some (0, A) → x = nI k → v < 2 → y = nI v → (U k).2.2 = true → ((-1000000 ≤ a ∧ a ≤ 1000000) ∧ (-1000000 ≤ b ∧ b ≤ 1000000) ∧ (-1000000 ≤ c ∧ c ≤ 1000000)) → mu_at I (6 * k + i) A → ∀ (ts : List (Nat × Nat × Int32)) (j : Nat) (z : Int32) (o6 o9 o10 o11 : Option Value), z = nI (6 * (6 * k + i) + j) → j ≤ A.1.length → A.1.drop j = ts → (cu_holds (ar_v a b c) A.1 ↔ cu_holds (ar_v a b c) ts) → gw_Go y_Mo_bound (d + 2) 0 0 93 [some (.ref 533), some (.int x), some (.int y), some (.int a), some (.int b), some (.int c), o6, some (.int (nI (6 * k + i))), some (.int z), o9, o10, o11] [] (n, sh, X, R, I, L) Q := by
    intro k i v A hk hi he hx hv hy hacc hrg hu2 ts
    have hu3 := hu2
    obtain ⟨u1, u2, u3, u4, u5⟩ := hu2
    have ra := i_rg_of hrg.1
    have rb := i_rg_of hrg.2.1
    have rc := i_rg_of hrg.2.2
    have up : mp_at I (2 * (6 * k + i) + v) (cu_pot v A) := by rcases (show v = 0 ∨ v = 1 by omega) with rfl | rfl; exact u4; exact u5
    induction ts with
    | nil =>
      intro j z o6 o9 o10 o11 hz hj hd hs
      have hl := gw_dropE hd
      have e2 : (2 : Int32) * nI (6 * k + i) + y = nI (2 * (6 * k + i) + v) := by rw [hy]; exact ix (a := 2)
      refine go_iload d_Mo_bound_93 rfl ?_
      refine go_bipush (v := 6) d_Mo_bound_95 rfl ?_
      refine go_iload d_Mo_bound_97 rfl ?_
      refine go_imul d_Mo_bound_99 ?_
      refine go_aload_n 0 d_Mo_bound_100 rfl rfl ?_
      refine go_getR d_Mo_bound_101 f_Mo_29 (by assumption) (by assumption) ?_
      refine go_iload d_Mo_bound_104 rfl ?_
      refine go_iald (6 * k + i) d_Mo_bound_106 (by assumption) (rfl) (by omega) (by decide) ?_
      refine go_iadd d_Mo_bound_107 ?_
      refine go_icmp_ge 168 d_Mo_bound_108 rfl (fun _ => ?_) (fun hn => absurd (by rw [u1, hz, show (6 : Int32) * nI (6 * k + i) + nI A.1.length = nI (6 * (6 * k + i) + A.1.length) from ix (a := 6)]; exact (nI_leI (by omega) (by omega)).mpr (by omega)) hn)
      refine go_iconst (v := 2) d_Mo_bound_168 rfl ?_
      refine go_iload d_Mo_bound_169 rfl ?_
      refine go_imul d_Mo_bound_171 ?_
      refine go_iload_n 2 d_Mo_bound_172 rfl rfl ?_
      refine go_iadd d_Mo_bound_173 ?_
      rw [e2]
      refine go_istore d_Mo_bound_174 (Nat.le_of_ble_eq_true rfl) ?_
      refine go_aload_n 0 d_Mo_bound_176 rfl rfl ?_
      refine go_getR d_Mo_bound_177 f_Mo_41 (by assumption) (by assumption) ?_
      refine go_iload d_Mo_bound_180 rfl ?_
      refine go_iald (2 * (6 * k + i) + v) d_Mo_bound_182 (by assumption) (rfl) (by omega) (by decide) ?_
      refine go_i2l d_Mo_bound_183 (rfl) ?_
      refine go_lstore d_Mo_bound_184 (Nat.le_of_ble_eq_true rfl) ?_
      refine go_iconst (v := 3) d_Mo_bound_186 rfl ?_
      refine go_iload d_Mo_bound_187 rfl ?_
      refine go_imul d_Mo_bound_189 ?_
      refine go_istore d_Mo_bound_190 (Nat.le_of_ble_eq_true rfl) ?_
      exact sum k i v A none hk hi hx hv hy hacc hrg (List.mem_of_getElem? he) (hs.mpr (fun t ht => by cases ht)) hu3 _ 0 _ _ _ (nI_mul 3 _) (Nat.zero_le _) rfl (by rw [up.1]; rfl)
    | cons t ts ih =>
      intro j z o6 o9 o10 o11 hz hj hd hs
      obtain ⟨hj1, hj2, hj3⟩ := gw_drop hd
      obtain ⟨t1, t2, t3, t4, t5⟩ := u3 j t hj2
      have esub := i_sub64 (ar_rg ra rb rc t.1) (ar_rg ra rb rc t.2.1)
      refine go_iload d_Mo_bound_93 rfl ?_
      refine go_bipush (v := 6) d_Mo_bound_95 rfl ?_
      refine go_iload d_Mo_bound_97 rfl ?_
      refine go_imul d_Mo_bound_99 ?_
      refine go_aload_n 0 d_Mo_bound_100 rfl rfl ?_
      refine go_getR d_Mo_bound_101 f_Mo_29 (by assumption) (by assumption) ?_
      refine go_iload d_Mo_bound_104 rfl ?_
      refine go_iald (6 * k + i) d_Mo_bound_106 (by assumption) (rfl) (by omega) (by decide) ?_
      refine go_iadd d_Mo_bound_107 ?_
      refine go_icmp_ge 168 d_Mo_bound_108 rfl (fun hn => absurd hn (by rw [u1, hz, show (6 : Int32) * nI (6 * k + i) + nI A.1.length = nI (6 * (6 * k + i) + A.1.length) from ix (a := 6)]; exact nI_ge (by omega) (by omega))) (fun _ => ?_)
      refine go_aload_n 0 d_Mo_bound_111 rfl rfl ?_
      refine go_getR d_Mo_bound_112 f_Mo_32 (by assumption) (by assumption) ?_
      refine go_iload d_Mo_bound_115 rfl ?_
      refine go_iald (6 * (6 * k + i) + j) d_Mo_bound_117 (by assumption) (hz) (by omega) (by decide) ?_
      rw [t1]
      refine go_iload_n 3 d_Mo_bound_118 rfl rfl ?_
      refine go_iload d_Mo_bound_119 rfl ?_
      refine go_iload d_Mo_bound_121 rfl ?_
      refine go_S4 d_Mo_bound_123 k_Mo_228 (Nat.le_of_ble_eq_true rfl) (c_Mo_argument t4 ?_)
      refine go_aload_n 0 d_Mo_bound_126 rfl rfl ?_
      refine go_getR d_Mo_bound_127 f_Mo_35 (by assumption) (by assumption) ?_
      refine go_iload d_Mo_bound_130 rfl ?_
      refine go_iald (6 * (6 * k + i) + j) d_Mo_bound_132 (by assumption) (hz) (by omega) (by decide) ?_
      rw [t2]
      refine go_iload_n 3 d_Mo_bound_133 rfl rfl ?_
      refine go_iload d_Mo_bound_134 rfl ?_
      refine go_iload d_Mo_bound_136 rfl ?_
      refine go_S4 d_Mo_bound_138 k_Mo_228 (Nat.le_of_ble_eq_true rfl) (c_Mo_argument t5 ?_)
      refine go_lsub d_Mo_bound_141 ?_
      refine go_lstore d_Mo_bound_142 (Nat.le_of_ble_eq_true rfl) ?_
      refine go_lload d_Mo_bound_144 rfl ?_
      refine go_aload_n 0 d_Mo_bound_146 rfl rfl ?_
      refine go_getR d_Mo_bound_147 f_Mo_38 (by assumption) (by assumption) ?_
      refine go_iload d_Mo_bound_150 rfl ?_
      refine go_iald (6 * (6 * k + i) + j) d_Mo_bound_152 (by assumption) (hz) (by omega) (by decide) ?_
      refine go_i2l d_Mo_bound_153 (rfl) ?_
      refine go_lcmp_le 162 d_Mo_bound_154 d_Mo_bound_155 rfl (fun h154 => ?_) (fun h154 => ?_)
      · refine go_iinc d_Mo_bound_162 rfl rfl (Nat.le_of_ble_eq_true rfl) ?_
        refine go_goto 93 d_Mo_bound_165 rfl ?_
        exact ih (j + 1) _ _ _ _ _ (gw_inc hz) (by omega) hj3 ⟨fun h q hq => hs.mp h q (List.mem_cons_of_mem _ hq), fun h => hs.mpr (fun q hq => by rcases List.mem_cons.mp hq with rfl | hq; (rw [esub, t3] at h154; exact i_le64.mp (Int64.not_lt.mp h154)); exact h q hq)⟩
      · refine go_ldc2 d_Mo_bound_158 i_Mo_187 ?_
        exact go_lret d_Mo_bound_161 rfl (hf (fun ⟨k', v', A', q1, q2, q3, q4, q5, q6, q7, q8⟩ => by (have ek := (nI_eq (by omega) (by omega)).mp (q2.symm.trans hx); subst ek; have ee := cut_same (hu _ hk) he rfl q7 rfl; cases ee; have := hs.mp q8 t List.mem_cons_self; rw [esub, t3] at h154; exact absurd h154 (Int64.not_lt.mpr (i_le64.mpr this)))))
  have rest : ∀ (g : Int32) (o7 o8 o9 o10 o11 : Option Value), (g ≠ 0 ↔ ((-1000000 ≤ a ∧ a ≤ 1000000) ∧ (-1000000 ≤ b ∧ b ≤ 1000000) ∧ (-1000000 ≤ c ∧ c ≤ 1000000))) → gw_Go y_Mo_bound (d + 2) 0 0 51 [some (.ref 533), some (.int x), some (.int y), some (.int a), some (.int b), some (.int c), some (.int g), o7, o8, o9, o10, o11] [] (n, sh, X, R, I, L) Q := by
    intro g o7 o8 o9 o10 o11 hg
    refine go_aload_n 0 d_Mo_bound_51 rfl rfl ?_
    refine go_iload_n 1 d_Mo_bound_52 rfl rfl ?_
    refine go_V1 d_Mo_bound_53 k_Mo_226 (by assumption) (Nat.le_of_ble_eq_true rfl) (c_Mo_accepted hp0 hc (fun bb hb => ?_))
    refine go_if_eq 74 d_Mo_bound_56 rfl (fun h56 => ?_) (fun h56 => ?_)
    · refine go_ldc2 d_Mo_bound_74 i_Mo_187 ?_
      exact go_lret d_Mo_bound_77 rfl (hf (fun ⟨k', v', A', q1, q2, q3, q4, q5, q6, q7, q8⟩ => by first | exact absurd (hb.mpr ⟨k', q1, q2, q5⟩) (by rw [bI_0.mp h56]; decide) | exact k2.mpr (by rw [q4]; exact ⟨nI_pos' (by omega), (nI_leI (b := 1) (by omega) (by decide)).mpr (by omega)⟩) h66 | exact absurd h71 (fun hn => hn (hg.mpr q6)) | exact hg.mpr q6 h71))
    · refine go_iload_n 2 d_Mo_bound_59 rfl rfl ?_
      refine go_i2l d_Mo_bound_60 (rfl) ?_
      refine go_lconst (v := 0) d_Mo_bound_61 rfl ?_
      refine go_lconst (v := 1) d_Mo_bound_62 rfl ?_
      refine go_S3 d_Mo_bound_63 k_Mo_86 (Nat.le_of_ble_eq_true rfl) (c_Mo_in (l := 0) (h := 1) rfl rfl (fun b2 k2 z2 => ?_))
      refine go_if_eq 74 d_Mo_bound_66 rfl (fun h66 => ?_) (fun h66 => ?_)
      · refine go_ldc2 d_Mo_bound_74 i_Mo_187 ?_
        exact go_lret d_Mo_bound_77 rfl (hf (fun ⟨k', v', A', q1, q2, q3, q4, q5, q6, q7, q8⟩ => by first | exact absurd (hb.mpr ⟨k', q1, q2, q5⟩) (by rw [bI_0.mp h56]; decide) | exact k2.mpr (by rw [q4]; exact ⟨nI_pos' (by omega), (nI_leI (b := 1) (by omega) (by decide)).mpr (by omega)⟩) h66 | exact absurd h71 (fun hn => hn (hg.mpr q6)) | exact hg.mpr q6 h71))
      · refine go_iload d_Mo_bound_69 rfl ?_
        refine go_if_ne 78 d_Mo_bound_71 rfl (fun h71 => ?_) (fun h71 => ?_)
        · refine go_aload_n 0 d_Mo_bound_78 rfl rfl ?_
          refine go_iload_n 1 d_Mo_bound_79 rfl rfl ?_
          refine go_iconst (v := 0) d_Mo_bound_80 rfl ?_
          refine go_V2 d_Mo_bound_81 k_Mo_106 (by assumption) (Nat.le_of_ble_eq_true rfl) (c_Mo_cutAt hp0 hc (fun hno => ?hno) (fun k i e a1 a2 a3 a4 a5 => ?_))
          case hno =>
            obtain ⟨k, q1, q2, q3⟩ := hb.mp (bI_n0.mp h56)
            obtain ⟨A, hA⟩ := h0 k q1
            exact absurd ⟨k, (0, A), q1, q2, hA, rfl⟩ hno
          obtain ⟨k', q1, q2, q3⟩ := hb.mp (bI_n0.mp h56)
          have ek := (nI_eq (by omega) (by omega)).mp (q2.symm.trans a2)
          subst ek
          obtain ⟨v, hv, ev⟩ := nI_of2 (n := 1) (by decide) (Int32.not_lt.mpr (k2.mp h66).1) (k2.mp h66).2
          obtain ⟨A, hA⟩ := h0 k' q1
          have ee := cut_same (hu k' q1) a3 a4 hA rfl
          subst ee
          refine go_istore d_Mo_bound_84 (Nat.le_of_ble_eq_true rfl) ?_
          refine go_bipush (v := 6) d_Mo_bound_86 rfl ?_
          refine go_iload d_Mo_bound_88 rfl ?_
          refine go_imul d_Mo_bound_90 ?_
          refine go_istore d_Mo_bound_91 (Nat.le_of_ble_eq_true rfl) ?_
          exact claims k' i v A q1 a5 a3 q2 (by omega) ev q3 (hg.mp h71) ((hc k' q1).2.2.2.2.2.2 i _ a3).2 _ 0 _ _ _ _ _ (nI_mul 6 _) (Nat.zero_le _) rfl Iff.rfl
        · refine go_ldc2 d_Mo_bound_74 i_Mo_187 ?_
          exact go_lret d_Mo_bound_77 rfl (hf (fun ⟨k', v', A', q1, q2, q3, q4, q5, q6, q7, q8⟩ => by first | exact absurd (hb.mpr ⟨k', q1, q2, q5⟩) (by rw [bI_0.mp h56]; decide) | exact k2.mpr (by rw [q4]; exact ⟨nI_pos' (by omega), (nI_leI (b := 1) (by omega) (by decide)).mpr (by omega)⟩) h66 | exact absurd h71 (fun hn => hn (hg.mpr q6)) | exact hg.mpr q6 h71))
  refine go_iload_n 3 d_Mo_bound_0 rfl rfl ?_
  refine go_i2l d_Mo_bound_1 (rfl) ?_
  refine go_ldc2 d_Mo_bound_2 i_Mo_222 ?_
  refine go_ldc2 d_Mo_bound_5 i_Mo_224 ?_
  refine go_S3 d_Mo_bound_8 k_Mo_86 (Nat.le_of_ble_eq_true rfl) (c_Mo_in (l := -1000000) (h := 1000000) rfl rfl (fun b1 k1 z1 => ?_))
  refine go_if_eq 48 d_Mo_bound_11 rfl (fun h11 => ?_) (fun h11 => ?_)
  · refine go_iconst (v := 0) d_Mo_bound_48 rfl ?_
    refine go_istore d_Mo_bound_49 (Nat.le_of_ble_eq_true rfl) ?_
    exact rest _ _ _ _ _ _ (by first | exact ⟨fun _ => ⟨k1.mp h11, k2.mp h26, k3.mp h41⟩, fun _ => by decide⟩ | exact ⟨fun h => absurd rfl h, fun h => absurd h11 (k1.mpr h.1)⟩ | exact ⟨fun h => absurd rfl h, fun h => absurd h26 (k2.mpr h.2.1)⟩ | exact ⟨fun h => absurd rfl h, fun h => absurd h41 (k3.mpr h.2.2)⟩)
  · refine go_iload d_Mo_bound_14 rfl ?_
    refine go_i2l d_Mo_bound_16 (rfl) ?_
    refine go_ldc2 d_Mo_bound_17 i_Mo_222 ?_
    refine go_ldc2 d_Mo_bound_20 i_Mo_224 ?_
    refine go_S3 d_Mo_bound_23 k_Mo_86 (Nat.le_of_ble_eq_true rfl) (c_Mo_in (l := -1000000) (h := 1000000) rfl rfl (fun b2 k2 z2 => ?_))
    refine go_if_eq 48 d_Mo_bound_26 rfl (fun h26 => ?_) (fun h26 => ?_)
    · refine go_iconst (v := 0) d_Mo_bound_48 rfl ?_
      refine go_istore d_Mo_bound_49 (Nat.le_of_ble_eq_true rfl) ?_
      exact rest _ _ _ _ _ _ (by first | exact ⟨fun _ => ⟨k1.mp h11, k2.mp h26, k3.mp h41⟩, fun _ => by decide⟩ | exact ⟨fun h => absurd rfl h, fun h => absurd h11 (k1.mpr h.1)⟩ | exact ⟨fun h => absurd rfl h, fun h => absurd h26 (k2.mpr h.2.1)⟩ | exact ⟨fun h => absurd rfl h, fun h => absurd h41 (k3.mpr h.2.2)⟩)
    · refine go_iload d_Mo_bound_29 rfl ?_
      refine go_i2l d_Mo_bound_31 (rfl) ?_
      refine go_ldc2 d_Mo_bound_32 i_Mo_222 ?_
      refine go_ldc2 d_Mo_bound_35 i_Mo_224 ?_
      refine go_S3 d_Mo_bound_38 k_Mo_86 (Nat.le_of_ble_eq_true rfl) (c_Mo_in (l := -1000000) (h := 1000000) rfl rfl (fun b3 k3 z3 => ?_))
      refine go_if_eq 48 d_Mo_bound_41 rfl (fun h41 => ?_) (fun h41 => ?_)
      · refine go_iconst (v := 0) d_Mo_bound_48 rfl ?_
        refine go_istore d_Mo_bound_49 (Nat.le_of_ble_eq_true rfl) ?_
        exact rest _ _ _ _ _ _ (by first | exact ⟨fun _ => ⟨k1.mp h11, k2.mp h26, k3.mp h41⟩, fun _ => by decide⟩ | exact ⟨fun h => absurd rfl h, fun h => absurd h11 (k1.mpr h.1)⟩ | exact ⟨fun h => absurd rfl h, fun h => absurd h26 (k2.mpr h.2.1)⟩ | exact ⟨fun h => absurd rfl h, fun h => absurd h41 (k3.mpr h.2.2)⟩)
      · refine go_iconst (v := 1) d_Mo_bound_44 rfl ?_
        refine go_goto 49 d_Mo_bound_45 rfl ?_
        refine go_istore d_Mo_bound_49 (Nat.le_of_ble_eq_true rfl) ?_
        exact rest _ _ _ _ _ _ (by first | exact ⟨fun _ => ⟨k1.mp h11, k2.mp h26, k3.mp h41⟩, fun _ => by decide⟩ | exact ⟨fun h => absurd rfl h, fun h => absurd h11 (k1.mpr h.1)⟩ | exact ⟨fun h => absurd rfl h, fun h => absurd h26 (k2.mpr h.2.1)⟩ | exact ⟨fun h => absurd rfl h, fun h => absurd h41 (k3.mpr h.2.2)⟩)
def mr_at (I : Nat → Nat → Int32) (st wd mr rt : Int32) (inp : List Int32) : Prop := I 533 29 = st ∧ I 533 30 = wd ∧ I 533 31 = mr ∧ I 533 32 = rt ∧ I 533 21 = nI inp.length ∧ inp.length ≤ 12 ∧ ∀ (j : Nat) (v : Int32), inp[j]? = some v → I 552 j = v
theorem mr_at.kept {I I' : Nat → Nat → Int32} {st wd mr rt : Int32} {inp : List Int32} (h : mr_at I st wd mr rt inp) (h0 : ∀ i, (i = 21 ∨ (29 ≤ i ∧ i ≤ 32)) → I' 533 i = I 533 i) (h2 : I' 552 = I 552) : mr_at I' st wd mr rt inp := by
  unfold mr_at
  rw [h2, h0 29 (by omega), h0 30 (by omega), h0 31 (by omega), h0 32 (by omega), h0 21 (by omega)]
  exact h
theorem c_Mo_feed {v st wd mr rt : Int32} {inp : List Int32} (hp : pt_Mo sh R) (ha : mr_at I st wd mr rt inp) (hf : ¬ (inp.length < 12 ∧ -1000000 ≤ v ∧ v ≤ 1000000) → Q (some (.int 0)) (n, sh, X, R, I, L)) (hQ : inp.length < 12 → -1000000 ≤ v → v ≤ 1000000 → ∀ I', mr_at I' st wd mr rt (inp ++ [v]) → (∀ q, q ≠ 533 → q ≠ 552 → I' q = I q) → Q (some (.int 1)) (n, sh, X, R, I', L)) : gw_Call y_Mo_feed (d + 1) 0 0 [.ref 533, .int v] (n, sh, X, R, I, L) Q := by
  obtain ⟨s533, s534, s535, s536, s537, s538, s539, s540, s541, s542, s543, s544, s545, s546, s547, s548, s549, s550, s551, s552, s553, s554, s555, s556, s557, r534, r535, r536, r537, r538, r539, r540, r541, r542, r543, r544, r545, r546, r547, r548, r549, r550, r551, r552, r553, r554, r555, r556, r557⟩ := hp
  obtain ⟨a1, a2, a3, a4, a5, a6, a7⟩ := ha
  refine gw_call o_Mo_feed (Nat.le_of_ble_eq_true rfl) ?_
  refine go_aload_n 0 d_Mo_feed_0 rfl rfl ?_
  refine go_getI d_Mo_feed_1 f_Mo_238 (by assumption) ?_
  refine go_bipush (v := 12) d_Mo_feed_4 rfl ?_
  refine go_icmp_eq 23 d_Mo_feed_6 rfl (fun h6 => ?_) (fun h6 => ?_)
  · refine go_iconst (v := 0) d_Mo_feed_23 rfl ?_
    exact go_zret d_Mo_feed_24 rfl (by first | exact Or.inl rfl | exact Or.inr rfl | assumption) (hf (fun ⟨q1, q2, q3⟩ => by first | exact absurd ((nI_eq (b := 12) (by omega) (by decide)).mp (a5.symm.trans h6)) (by omega) | exact k1.mpr ⟨q2, q3⟩ h20))
  · refine go_iload_n 1 d_Mo_feed_9 rfl rfl ?_
    refine go_i2l d_Mo_feed_10 (rfl) ?_
    refine go_ldc2 d_Mo_feed_11 i_Mo_222 ?_
    refine go_ldc2 d_Mo_feed_14 i_Mo_224 ?_
    refine go_S3 d_Mo_feed_17 k_Mo_86 (Nat.le_of_ble_eq_true rfl) (c_Mo_in (l := -1000000) (h := 1000000) rfl rfl (fun b1 k1 z1 => ?_))
    refine go_if_ne 25 d_Mo_feed_20 rfl (fun h20 => ?_) (fun h20 => ?_)
    · have hlt : inp.length < 12 := by rcases Nat.lt_or_ge inp.length 12 with h | h; exact h; exact absurd (by rw [a5, show inp.length = 12 by omega]; rfl) h6
      refine go_aload_n 0 d_Mo_feed_25 rfl rfl ?_
      refine go_getR d_Mo_feed_26 f_Mo_66 (by assumption) (by assumption) ?_
      refine go_aload_n 0 d_Mo_feed_29 rfl rfl ?_
      refine go_getI d_Mo_feed_30 f_Mo_238 (by assumption) ?_
      refine go_iload_n 1 d_Mo_feed_33 rfl rfl ?_
      refine go_iast (inp.length) d_Mo_feed_34 (by assumption) (a5) (hlt) (by decide) ?_
      refine go_aload_n 0 d_Mo_feed_35 rfl rfl ?_
      refine go_dup d_Mo_feed_36 rfl ?_
      refine go_getI d_Mo_feed_37 f_Mo_238 (by assumption) ?_
      refine go_iconst (v := 1) d_Mo_feed_40 rfl ?_
      refine go_iadd d_Mo_feed_41 ?_
      refine go_putI d_Mo_feed_42 f_Mo_238 (by assumption) ?_
      refine go_iconst (v := 1) d_Mo_feed_45 rfl ?_
      exact go_zret d_Mo_feed_46 rfl (by first | exact Or.inl rfl | exact Or.inr rfl | assumption) (hQ hlt (k1.mp h20).1 (k1.mp h20).2 _ ⟨by simp (disch := omega) only [up2_eq, up2_ne]; exact a1, by simp (disch := omega) only [up2_eq, up2_ne]; exact a2, by simp (disch := omega) only [up2_eq, up2_ne]; exact a3, by simp (disch := omega) only [up2_eq, up2_ne]; exact a4, by simp (disch := omega) only [up2_eq, up2_ne]; rw [a5, List.length_append, nI_1]; rfl, by rw [List.length_append]; exact hlt, fun j w hw => by (rcases ap_or hw with ⟨h1, h2⟩ | ⟨rfl, rfl⟩; (simp (disch := omega) only [up2_eq, up2_ne]; exact a7 j w h2); simp (disch := omega) only [up2_eq, up2_ne])⟩ (fun q h1 h2 => by rw [gw_up_ne h1, gw_up_ne h2]))
    · refine go_iconst (v := 0) d_Mo_feed_23 rfl ?_
      exact go_zret d_Mo_feed_24 rfl (by first | exact Or.inl rfl | exact Or.inr rfl | assumption) (hf (fun ⟨q1, q2, q3⟩ => by first | exact absurd ((nI_eq (b := 12) (by omega) (by decide)).mp (a5.symm.trans h6)) (by omega) | exact k1.mpr ⟨q2, q3⟩ h20))
theorem c_Mo_ran {x st wd mr rt : Int32} {inp : List Int32} (hp : pt_Mo sh R) (ha : mr_at I st wd mr rt inp) (hQ : ∀ r : Int32, (x = 0 → r = st) → (x = 1 → r = wd) → (x = 2 → r = mr) → (x = 3 → r = rt) → (x ≠ 0 → x ≠ 1 → x ≠ 2 → x ≠ 3 → r = -1) → Q (some (.int r)) (n, sh, X, R, I, L)) : gw_Call y_Mo_ran d 0 0 [.ref 533, .int x] (n, sh, X, R, I, L) Q := by
  obtain ⟨s533, s534, s535, s536, s537, s538, s539, s540, s541, s542, s543, s544, s545, s546, s547, s548, s549, s550, s551, s552, s553, s554, s555, s556, s557, r534, r535, r536, r537, r538, r539, r540, r541, r542, r543, r544, r545, r546, r547, r548, r549, r550, r551, r552, r553, r554, r555, r556, r557⟩ := hp
  obtain ⟨a1, a2, a3, a4, a5, a6, a7⟩ := ha
  refine gw_call o_Mo_ran (Nat.le_of_ble_eq_true rfl) ?_
  refine go_iload_n 1 d_Mo_ran_0 rfl rfl ?_
  by_cases h0 : x = 0
  · subst h0
    refine go_tableIn 32 d_Mo_ran_1 (by decide) (by decide) rfl rfl ?_
    refine go_aload_n 0 d_Mo_ran_32 rfl rfl ?_
    refine go_getI d_Mo_ran_33 f_Mo_250 (by assumption) ?_
    exact go_iret d_Mo_ran_36 rfl (by rw [a1]; exact hQ st (fun _ => rfl) (fun h => absurd h (by decide)) (fun h => absurd h (by decide)) (fun h => absurd h (by decide)) (fun h => absurd rfl h))
  by_cases h1 : x = 1
  · subst h1
    refine go_tableIn 37 d_Mo_ran_1 (by decide) (by decide) rfl rfl ?_
    refine go_aload_n 0 d_Mo_ran_37 rfl rfl ?_
    refine go_getI d_Mo_ran_38 f_Mo_253 (by assumption) ?_
    exact go_iret d_Mo_ran_41 rfl (by rw [a2]; exact hQ wd (fun h => absurd h (by decide)) (fun _ => rfl) (fun h => absurd h (by decide)) (fun h => absurd h (by decide)) (fun _ h => absurd rfl h))
  by_cases h2 : x = 2
  · subst h2
    refine go_tableIn 42 d_Mo_ran_1 (by decide) (by decide) rfl rfl ?_
    refine go_aload_n 0 d_Mo_ran_42 rfl rfl ?_
    refine go_getI d_Mo_ran_43 f_Mo_244 (by assumption) ?_
    exact go_iret d_Mo_ran_46 rfl (by rw [a3]; exact hQ mr (fun h => absurd h (by decide)) (fun h => absurd h (by decide)) (fun _ => rfl) (fun h => absurd h (by decide)) (fun _ _ h => absurd rfl h))
  by_cases h3 : x = 3
  · subst h3
    refine go_tableIn 47 d_Mo_ran_1 (by decide) (by decide) rfl rfl ?_
    refine go_aload_n 0 d_Mo_ran_47 rfl rfl ?_
    refine go_getI d_Mo_ran_48 f_Mo_256 (by assumption) ?_
    exact go_iret d_Mo_ran_51 rfl (by rw [a4]; exact hQ rt (fun h => absurd h (by decide)) (fun h => absurd h (by decide)) (fun h => absurd h (by decide)) (fun _ => rfl) (fun _ _ _ h => absurd rfl h))
  · have hout : x.toInt < 0 ∨ 3 < x.toInt := by
      by_cases hh : x.toInt < 0 ∨ 3 < x.toInt
      · exact hh
      · exfalso
        have e0 : ¬ x.toInt = 0 := fun e => h0 (Int32.toInt_inj.mp (e.trans rfl))
        have e1 : ¬ x.toInt = 1 := fun e => h1 (Int32.toInt_inj.mp (e.trans rfl))
        have e2 : ¬ x.toInt = 2 := fun e => h2 (Int32.toInt_inj.mp (e.trans rfl))
        have e3 : ¬ x.toInt = 3 := fun e => h3 (Int32.toInt_inj.mp (e.trans rfl))
        omega
    refine go_tableOut 52 d_Mo_ran_1 hout rfl ?_
    refine go_iconst (v := (-1)) d_Mo_ran_52 rfl ?_
    exact go_iret d_Mo_ran_53 rfl (hQ (-1) (fun h => absurd h h0) (fun h => absurd h h1) (fun h => absurd h h2) (fun h => absurd h h3) (fun _ _ _ _ => rfl))
end MO
