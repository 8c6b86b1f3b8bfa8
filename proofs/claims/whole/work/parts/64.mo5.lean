/-! the reference: depth -/
theorem dp_b_iff {D : Nat → Nat} {m N : Nat} (hm : m < 5) : ∀ (l : List (Nat × Int32)) (b : Nat), dp_b D m l b ≤ N ↔ b ≤ N ∧ ∀ j, j < m → (∃ t ∈ l, t.1 = 11 ∧ t.2 = nI j) → D j ≤ N
  | [], b => ⟨fun h => ⟨h, fun j _ ⟨t, ht, _⟩ => by cases ht⟩, fun h => h.1⟩
  | t :: ts, b => by
    unfold dp_b
    rw [dp_b_iff hm ts]
    by_cases hc : t.1 = 11 ∧ ∃ j, j < m ∧ t.2 = nI j
    · rw [cIf_pos hc]
      obtain ⟨h11, j0, hj0, e0⟩ := hc
      have hcl : t.2.toNatClampNeg = j0 := by rw [e0]; exact nI_clamp (by omega)
      rw [hcl]
      constructor
      · intro ⟨h1, h2⟩
        refine ⟨by omega, fun j hj ⟨u, hu, hu1, hu2⟩ => ?_⟩
        rcases List.mem_cons.mp hu with rfl | hu
        · have : j0 = j := (nI_eq (by omega) (by omega)).mp (e0.symm.trans hu2)
          subst this
          omega
        · exact h2 j hj ⟨u, hu, hu1, hu2⟩
      · intro ⟨h1, h2⟩
        exact ⟨Nat.max_le.mpr ⟨h1, h2 j0 hj0 ⟨t, List.mem_cons_self, h11, e0⟩⟩, fun j hj ⟨u, hu, hu1, hu2⟩ => h2 j hj ⟨u, List.mem_cons_of_mem _ hu, hu1, hu2⟩⟩
    · rw [cIf_neg hc]
      constructor
      · intro ⟨h1, h2⟩
        refine ⟨h1, fun j hj ⟨u, hu, hu1, hu2⟩ => ?_⟩
        rcases List.mem_cons.mp hu with rfl | hu
        · exact absurd ⟨hu1, j, hj, hu2⟩ hc
        · exact h2 j hj ⟨u, hu, hu1, hu2⟩
      · intro ⟨h1, h2⟩
        exact ⟨h1, fun j hj ⟨u, hu, hu1, hu2⟩ => h2 j hj ⟨u, List.mem_cons_of_mem _ hu, hu1, hu2⟩⟩
theorem dp_D {code : Nat → List (Nat × Int32)} : ∀ (k j : Nat), j < k → dp_to code k j = dp_to code (j + 1) j
  | 0, j, h => by omega
  | k + 1, j, h => by
    by_cases he : j = k
    · subst he; rfl
    · show va_up (dp_to code k) k _ j = _
      rw [gw_up_ne he]
      exact dp_D k j (by omega)
/-- whether m calls j -/
def dp_c (l : List (Nat × Int32)) (j : Nat) : Prop := ∃ t ∈ l, t.1 = 11 ∧ t.2 = nI j
theorem dp_v {code : Nat → List (Nat × Int32)} {m : Nat} (hm : m < 4) (v : Nat) (h : ∀ N, v ≤ N ↔ ∀ j, j < m → dp_c (code m) j → dp_to code (j + 1) j ≤ N) : dp_to code (m + 1) m = if (code m).length = 0 then 0 else 1 + v := by
  show va_up (dp_to code m) m (dp_1 (dp_to code m) m (code m)) m = _
  rw [gw_up_eq]
  unfold dp_1
  by_cases hl : (code m).length = 0
  · rw [if_pos hl, if_pos hl]
  · rw [if_neg hl, if_neg hl]
    have key : ∀ N, dp_b (dp_to code m) m (code m) 0 ≤ N ↔ v ≤ N := fun N => by
      rw [dp_b_iff (by omega), h N]
      exact ⟨fun ⟨_, g⟩ j hj hc => by rw [← dp_D m j hj]; exact g j hj hc, fun g => ⟨Nat.zero_le _, fun j hj hc => by rw [dp_D m j hj]; exact g j hj hc⟩⟩
    have h1 := (key v).mpr (Nat.le_refl _)
    have h2 := (key _).mp (Nat.le_refl _)
    omega
def dp_w (code : Nat → List (Nat × Int32)) (m j w : Nat) : Prop := (dp_c (code m) j ∧ w = dp_to code (j + 1) j) ∨ (¬ dp_c (code m) j ∧ w = 0)
theorem dp_w_le {code : Nat → List (Nat × Int32)} {m j w N : Nat} (h : dp_w code m j w) : w ≤ N ↔ (dp_c (code m) j → dp_to code (j + 1) j ≤ N) := by
  rcases h with ⟨h1, h2⟩ | ⟨h1, h2⟩
  · rw [h2]; exact ⟨fun g _ => g, fun g => g h1⟩
  · rw [h2]; exact ⟨fun _ g => absurd g h1, fun _ => Nat.zero_le _⟩
theorem dp_v0 {code : Nat → List (Nat × Int32)} : dp_to code 1 0 = if (code 0).length = 0 then 0 else 1 + 0 := dp_v (by decide) 0 (fun N => ⟨fun _ j hj => by omega, fun _ => Nat.zero_le _⟩)
theorem dp_v1 {code : Nat → List (Nat × Int32)} {w : Nat} (h : dp_w code 1 0 w) : dp_to code 2 1 = if (code 1).length = 0 then 0 else 1 + w := dp_v (by decide) w (fun N => by
  rw [dp_w_le h]
  exact ⟨fun g j hj hc => by have : j = 0 := by omega
                             subst this; exact g hc, fun g hc => g 0 (by decide) hc⟩)
theorem dp_v2 {code : Nat → List (Nat × Int32)} {w0 w1 : Nat} (h0 : dp_w code 2 0 w0) (h1 : dp_w code 2 1 w1) : dp_to code 3 2 = if (code 2).length = 0 then 0 else 1 + max w0 w1 := dp_v (by decide) _ (fun N => by
  rw [Nat.max_le, dp_w_le h0, dp_w_le h1]
  constructor
  · intro ⟨a, b⟩ j hj hc
    rcases (show j = 0 ∨ j = 1 by omega) with rfl | rfl
    · exact a hc
    · exact b hc
  · intro g
    exact ⟨fun hc => g 0 (by decide) hc, fun hc => g 1 (by decide) hc⟩)
theorem dp_v3 {code : Nat → List (Nat × Int32)} {w0 w1 w2 : Nat} (h0 : dp_w code 3 0 w0) (h1 : dp_w code 3 1 w1) (h2 : dp_w code 3 2 w2) : dp_to code 4 3 = if (code 3).length = 0 then 0 else 1 + max (max w0 w1) w2 := dp_v (by decide) _ (fun N => by
  rw [Nat.max_le, Nat.max_le, dp_w_le h0, dp_w_le h1, dp_w_le h2]
  constructor
  · intro ⟨⟨a, b⟩, c⟩ j hj hc
    rcases (show j = 0 ∨ j = 1 ∨ j = 2 by omega) with rfl | rfl | rfl
    · exact a hc
    · exact b hc
    · exact c hc
  · intro g
    exact ⟨⟨fun hc => g 0 (by decide) hc, fun hc => g 1 (by decide) hc⟩, fun hc => g 2 (by decide) hc⟩)
section MO
variable {d n : Nat} {sh : Nat → Nat × Nat} {X : Nat × (Nat → Int32)} {R : Nat → Nat → Option Nat} {I : Nat → Nat → Int32} {L : Nat → Nat → Int64} {Q : Option Value → gw_Mem → Prop}
variable {U : Nat → ab_Me}
theorem c_Mo_greatest {a b : Nat} {M : gw_Mem} (ha : a < 100) (hb : b < 100) (hQ : Q (some (.int (nI (max a b)))) M) : gw_Call y_Mo_greatest d 0 0 [.int (nI a), .int (nI b)] M Q := by
  refine gw_call o_Mo_greatest (Nat.le_of_ble_eq_true rfl) ?_
  refine go_iload_n 0 d_Mo_greatest_0 rfl rfl ?_
  refine go_iload_n 1 d_Mo_greatest_1 rfl rfl ?_
  refine go_icmp_le 9 d_Mo_greatest_2 rfl (fun h2 => ?_) (fun h2 => ?_)
  · refine go_iload_n 1 d_Mo_greatest_9 rfl rfl ?_
    exact go_iret d_Mo_greatest_10 rfl (by first | (have := (nI_leI (by omega) (by omega)).mp h2; rw [Nat.max_eq_right this] at hQ; exact hQ) | (have : b ≤ a := Nat.le_of_not_le (fun h => h2 ((nI_leI (by omega) (by omega)).mpr h)); rw [Nat.max_eq_left this] at hQ; exact hQ))
  · refine go_iload_n 0 d_Mo_greatest_5 rfl rfl ?_
    refine go_goto 10 d_Mo_greatest_6 rfl ?_
    exact go_iret d_Mo_greatest_10 rfl (by first | (have := (nI_leI (by omega) (by omega)).mp h2; rw [Nat.max_eq_right this] at hQ; exact hQ) | (have : b ≤ a := Nat.le_of_not_le (fun h => h2 ((nI_leI (by omega) (by omega)).mpr h)); rw [Nat.max_eq_left this] at hQ; exact hQ))
theorem c_Mo_calls {m : Nat} {z : Int32} (hp : pt_Mo sh R) (hc : mc_at I U) (hm : m < 4) (hQ : ∀ b : Int32, (b ≠ 0 ↔ ∃ t ∈ (U m).1, t.1 = 11 ∧ t.2 = z) → Q (some (.int b)) (n, sh, X, R, I, L)) : gw_Call y_Mo_calls d 0 0 [.ref 533, .int (nI m), .int z] (n, sh, X, R, I, L) Q := by
  obtain ⟨s533, s534, s535, s536, s537, s538, s539, s540, s541, s542, s543, s544, s545, s546, s547, s548, s549, s550, s551, s552, s553, s554, s555, s556, s557, r534, r535, r536, r537, r538, r539, r540, r541, r542, r543, r544, r545, r546, r547, r548, r549, r550, r551, r552, r553, r554, r555, r556, r557⟩ := hp
  obtain ⟨a1, a2, a3, a4, a5, a6, a7⟩ := hc m hm
  refine gw_call o_Mo_calls (Nat.le_of_ble_eq_true rfl) ?_
  have loop : ∀ (ts : List (Nat × Int32)) (i : Nat) (x b : Int32), x = nI i → i ≤ (U m).1.length → (U m).1.drop i = ts → (b = 0 ∨ b = 1) → ((∃ t ∈ (U m).1, t.1 = 11 ∧ t.2 = z) ↔ (b ≠ 0 ∨ ∃ t ∈ ts, t.1 = 11 ∧ t.2 = z)) → gw_Go y_Mo_calls d 0 0 5 [some (.ref 533), some (.int (nI m)), some (.int z), some (.int b), some (.int x)] [] (n, sh, X, R, I, L) Q := by
    intro ts
    induction ts with
    | nil =>
      intro i x b hx hi hd hb hs
      have hl := gw_dropE hd
      refine go_iload d_Mo_calls_5 rfl ?_
      refine go_aload_n 0 d_Mo_calls_7 rfl rfl ?_
      refine go_getR d_Mo_calls_8 f_Mo_7 (by assumption) (by assumption) ?_
      refine go_iload_n 1 d_Mo_calls_11 rfl rfl ?_
      refine go_iald (m) d_Mo_calls_12 (by assumption) (rfl) (hm) (by decide) ?_
      refine go_icmp_ge 65 d_Mo_calls_13 rfl (fun _ => ?_) (fun hn => absurd (by rw [a1, hx]; exact (nI_leI (by omega) (by omega)).mpr hl) hn)
      refine go_iload_n 3 d_Mo_calls_65 rfl rfl ?_
      exact go_zret d_Mo_calls_66 rfl (hb) (hQ b (by rw [hs]; exact ⟨Or.inl, fun h => by rcases h with h | ⟨t, ht, _⟩; exact h; cases ht⟩))
    | cons t ts ih =>
      intro i x b hx hi hd hb hs
      obtain ⟨hj1, hj2, hj3⟩ := gw_drop hd
      obtain ⟨t1, t2, t3⟩ := a3 i t hj2
      refine go_iload d_Mo_calls_5 rfl ?_
      refine go_aload_n 0 d_Mo_calls_7 rfl rfl ?_
      refine go_getR d_Mo_calls_8 f_Mo_7 (by assumption) (by assumption) ?_
      refine go_iload_n 1 d_Mo_calls_11 rfl rfl ?_
      refine go_iald (m) d_Mo_calls_12 (by assumption) (rfl) (hm) (by decide) ?_
      refine go_icmp_ge 65 d_Mo_calls_13 rfl (fun hn => absurd hn (by rw [a1, hx]; exact nI_ge (by omega) (by omega))) (fun _ => ?_)
      refine go_iload_n 3 d_Mo_calls_16 rfl rfl ?_
      refine go_if_ne 53 d_Mo_calls_17 rfl (fun h17 => ?_) (fun h17 => ?_)
      · refine go_iconst (v := 1) d_Mo_calls_53 rfl ?_
        refine go_goto 58 d_Mo_calls_54 rfl ?_
        refine go_istore_n 3 d_Mo_calls_58 rfl (Nat.le_of_ble_eq_true rfl) ?_
        refine go_iinc d_Mo_calls_59 rfl rfl (Nat.le_of_ble_eq_true rfl) ?_
        refine go_goto 5 d_Mo_calls_62 rfl ?_
        exact ih (i + 1) _ _ (gw_inc hx) (by omega) hj3 (by first | exact Or.inl rfl | exact Or.inr rfl) (by first | exact hs.trans ⟨fun _ => Or.inl (by decide), fun _ => Or.inl h17⟩ | exact hs.trans ⟨fun _ => Or.inl (by decide), fun _ => Or.inr ⟨t, List.mem_cons_self, (nI_eq (b := 11) (by omega) (by decide)).mp (t1.symm.trans (Classical.byContradiction h34)), t2.symm.trans (Classical.byContradiction h50)⟩⟩ | exact hs.trans ⟨fun _ => Or.inl (by decide), fun _ => Or.inr ⟨t, List.mem_cons_self, (nI_eq (b := 11) (by omega) (by decide)).mp (t1.symm.trans h34), t2.symm.trans h50⟩⟩ | exact hs.trans ⟨fun h => by rcases h with h | ⟨u, hu, u1, u2⟩; exact absurd h17 h; rcases List.mem_cons.mp hu with rfl | hu; exact absurd (by rw [t1, u1]; rfl) h34; exact Or.inr ⟨u, hu, u1, u2⟩, fun h => by rcases h with h | ⟨u, hu, u1, u2⟩; exact absurd rfl h; exact Or.inr ⟨u, List.mem_cons_of_mem _ hu, u1, u2⟩⟩ | exact hs.trans ⟨fun h => by rcases h with h | ⟨u, hu, u1, u2⟩; exact absurd h17 h; rcases List.mem_cons.mp hu with rfl | hu; exact absurd (t2.trans u2) h50; exact Or.inr ⟨u, hu, u1, u2⟩, fun h => by rcases h with h | ⟨u, hu, u1, u2⟩; exact absurd rfl h; exact Or.inr ⟨u, List.mem_cons_of_mem _ hu, u1, u2⟩⟩)
      · refine go_aload_n 0 d_Mo_calls_20 rfl rfl ?_
        refine go_getR d_Mo_calls_21 f_Mo_13 (by assumption) (by assumption) ?_
        refine go_bipush (v := 24) d_Mo_calls_24 rfl ?_
        refine go_iload_n 1 d_Mo_calls_26 rfl rfl ?_
        refine go_imul d_Mo_calls_27 ?_
        refine go_iload d_Mo_calls_28 rfl ?_
        refine go_iadd d_Mo_calls_30 ?_
        refine go_iald (24 * m + i) d_Mo_calls_31 (by assumption) (by rw [hx]; exact ix (a := 24)) (by omega) (by decide) ?_
        refine go_bipush (v := 11) d_Mo_calls_32 rfl ?_
        refine go_icmp_ne 57 d_Mo_calls_34 rfl (fun h34 => ?_) (fun h34 => ?_)
        · refine go_iconst (v := 0) d_Mo_calls_57 rfl ?_
          refine go_istore_n 3 d_Mo_calls_58 rfl (Nat.le_of_ble_eq_true rfl) ?_
          refine go_iinc d_Mo_calls_59 rfl rfl (Nat.le_of_ble_eq_true rfl) ?_
          refine go_goto 5 d_Mo_calls_62 rfl ?_
          exact ih (i + 1) _ _ (gw_inc hx) (by omega) hj3 (by first | exact Or.inl rfl | exact Or.inr rfl) (by first | exact hs.trans ⟨fun _ => Or.inl (by decide), fun _ => Or.inl h17⟩ | exact hs.trans ⟨fun _ => Or.inl (by decide), fun _ => Or.inr ⟨t, List.mem_cons_self, (nI_eq (b := 11) (by omega) (by decide)).mp (t1.symm.trans (Classical.byContradiction h34)), t2.symm.trans (Classical.byContradiction h50)⟩⟩ | exact hs.trans ⟨fun _ => Or.inl (by decide), fun _ => Or.inr ⟨t, List.mem_cons_self, (nI_eq (b := 11) (by omega) (by decide)).mp (t1.symm.trans h34), t2.symm.trans h50⟩⟩ | exact hs.trans ⟨fun h => by rcases h with h | ⟨u, hu, u1, u2⟩; exact absurd h17 h; rcases List.mem_cons.mp hu with rfl | hu; exact absurd (by rw [t1, u1]; rfl) h34; exact Or.inr ⟨u, hu, u1, u2⟩, fun h => by rcases h with h | ⟨u, hu, u1, u2⟩; exact absurd rfl h; exact Or.inr ⟨u, List.mem_cons_of_mem _ hu, u1, u2⟩⟩ | exact hs.trans ⟨fun h => by rcases h with h | ⟨u, hu, u1, u2⟩; exact absurd h17 h; rcases List.mem_cons.mp hu with rfl | hu; exact absurd (t2.trans u2) h50; exact Or.inr ⟨u, hu, u1, u2⟩, fun h => by rcases h with h | ⟨u, hu, u1, u2⟩; exact absurd rfl h; exact Or.inr ⟨u, List.mem_cons_of_mem _ hu, u1, u2⟩⟩)
        · refine go_aload_n 0 d_Mo_calls_37 rfl rfl ?_
          refine go_getR d_Mo_calls_38 f_Mo_16 (by assumption) (by assumption) ?_
          refine go_bipush (v := 24) d_Mo_calls_41 rfl ?_
          refine go_iload_n 1 d_Mo_calls_43 rfl rfl ?_
          refine go_imul d_Mo_calls_44 ?_
          refine go_iload d_Mo_calls_45 rfl ?_
          refine go_iadd d_Mo_calls_47 ?_
          refine go_iald (24 * m + i) d_Mo_calls_48 (by assumption) (by rw [hx]; exact ix (a := 24)) (by omega) (by decide) ?_
          refine go_iload_n 2 d_Mo_calls_49 rfl rfl ?_
          refine go_icmp_ne 57 d_Mo_calls_50 rfl (fun h50 => ?_) (fun h50 => ?_)
          · refine go_iconst (v := 0) d_Mo_calls_57 rfl ?_
            refine go_istore_n 3 d_Mo_calls_58 rfl (Nat.le_of_ble_eq_true rfl) ?_
            refine go_iinc d_Mo_calls_59 rfl rfl (Nat.le_of_ble_eq_true rfl) ?_
            refine go_goto 5 d_Mo_calls_62 rfl ?_
            exact ih (i + 1) _ _ (gw_inc hx) (by omega) hj3 (by first | exact Or.inl rfl | exact Or.inr rfl) (by first | exact hs.trans ⟨fun _ => Or.inl (by decide), fun _ => Or.inl h17⟩ | exact hs.trans ⟨fun _ => Or.inl (by decide), fun _ => Or.inr ⟨t, List.mem_cons_self, (nI_eq (b := 11) (by omega) (by decide)).mp (t1.symm.trans (Classical.byContradiction h34)), t2.symm.trans (Classical.byContradiction h50)⟩⟩ | exact hs.trans ⟨fun _ => Or.inl (by decide), fun _ => Or.inr ⟨t, List.mem_cons_self, (nI_eq (b := 11) (by omega) (by decide)).mp (t1.symm.trans h34), t2.symm.trans h50⟩⟩ | exact hs.trans ⟨fun h => by rcases h with h | ⟨u, hu, u1, u2⟩; exact absurd h17 h; rcases List.mem_cons.mp hu with rfl | hu; exact absurd (by rw [t1, u1]; rfl) h34; exact Or.inr ⟨u, hu, u1, u2⟩, fun h => by rcases h with h | ⟨u, hu, u1, u2⟩; exact absurd rfl h; exact Or.inr ⟨u, List.mem_cons_of_mem _ hu, u1, u2⟩⟩ | exact hs.trans ⟨fun h => by rcases h with h | ⟨u, hu, u1, u2⟩; exact absurd h17 h; rcases List.mem_cons.mp hu with rfl | hu; exact absurd (t2.trans u2) h50; exact Or.inr ⟨u, hu, u1, u2⟩, fun h => by rcases h with h | ⟨u, hu, u1, u2⟩; exact absurd rfl h; exact Or.inr ⟨u, List.mem_cons_of_mem _ hu, u1, u2⟩⟩)
          · refine go_iconst (v := 1) d_Mo_calls_53 rfl ?_
            refine go_goto 58 d_Mo_calls_54 rfl ?_
            refine go_istore_n 3 d_Mo_calls_58 rfl (Nat.le_of_ble_eq_true rfl) ?_
            refine go_iinc d_Mo_calls_59 rfl rfl (Nat.le_of_ble_eq_true rfl) ?_
            refine go_goto 5 d_Mo_calls_62 rfl ?_
            exact ih (i + 1) _ _ (gw_inc hx) (by omega) hj3 (by first | exact Or.inl rfl | exact Or.inr rfl) (by first | exact hs.trans ⟨fun _ => Or.inl (by decide), fun _ => Or.inl h17⟩ | exact hs.trans ⟨fun _ => Or.inl (by decide), fun _ => Or.inr ⟨t, List.mem_cons_self, (nI_eq (b := 11) (by omega) (by decide)).mp (t1.symm.trans (Classical.byContradiction h34)), t2.symm.trans (Classical.byContradiction h50)⟩⟩ | exact hs.trans ⟨fun _ => Or.inl (by decide), fun _ => Or.inr ⟨t, List.mem_cons_self, (nI_eq (b := 11) (by omega) (by decide)).mp (t1.symm.trans h34), t2.symm.trans h50⟩⟩ | exact hs.trans ⟨fun h => by rcases h with h | ⟨u, hu, u1, u2⟩; exact absurd h17 h; rcases List.mem_cons.mp hu with rfl | hu; exact absurd (by rw [t1, u1]; rfl) h34; exact Or.inr ⟨u, hu, u1, u2⟩, fun h => by rcases h with h | ⟨u, hu, u1, u2⟩; exact absurd rfl h; exact Or.inr ⟨u, List.mem_cons_of_mem _ hu, u1, u2⟩⟩ | exact hs.trans ⟨fun h => by rcases h with h | ⟨u, hu, u1, u2⟩; exact absurd h17 h; rcases List.mem_cons.mp hu with rfl | hu; exact absurd (t2.trans u2) h50; exact Or.inr ⟨u, hu, u1, u2⟩, fun h => by rcases h with h | ⟨u, hu, u1, u2⟩; exact absurd rfl h; exact Or.inr ⟨u, List.mem_cons_of_mem _ hu, u1, u2⟩⟩)
  refine go_iconst (v := 0) d_Mo_calls_0 rfl ?_
  refine go_istore_n 3 d_Mo_calls_1 rfl (Nat.le_of_ble_eq_true rfl) ?_
  refine go_iconst (v := 0) d_Mo_calls_2 rfl ?_
  refine go_istore d_Mo_calls_3 (Nat.le_of_ble_eq_true rfl) ?_
  exact loop _ 0 _ _ rfl (Nat.zero_le _) rfl (Or.inl rfl) ⟨fun h => Or.inr h, fun h => by rcases h with h | h; exact absurd rfl h; exact h⟩
theorem c_Mo_depth {x : Int32} (hp : pt_Mo sh R) (hc : mc_at I U) (hf : ¬ (∃ k, k < 4 ∧ x = nI k) → Q (some (.int (-1))) (n, sh, X, R, I, L)) (hQ : ∀ k, k < 4 → x = nI k → Q (some (.int (nI (dp_to (fun j => (U j).1) (k + 1) k)))) (n, sh, X, R, I, L)) : gw_Call y_Mo_depth (d + 1) 0 0 [.ref 533, .int x] (n, sh, X, R, I, L) Q := by
  have hp0 := hp
  obtain ⟨s533, s534, s535, s536, s537, s538, s539, s540, s541, s542, s543, s544, s545, s546, s547, s548, s549, s550, s551, s552, s553, s554, s555, s556, s557, r534, r535, r536, r537, r538, r539, r540, r541, r542, r543, r544, r545, r546, r547, r548, r549, r550, r551, r552, r553, r554, r555, r556, r557⟩ := hp
  refine gw_call o_Mo_depth (Nat.le_of_ble_eq_true rfl) ?_
  have g0 := (hc 0 (by decide)).1
  have g1 := (hc 1 (by decide)).1
  have g2 := (hc 2 (by decide)).1
  have g3 := (hc 3 (by decide)).1
  have l0 := (hc 0 (by decide)).2.1
  have l1 := (hc 1 (by decide)).2.1
  have l2 := (hc 2 (by decide)).2.1
  have l3 := (hc 3 (by decide)).2.1
  have z0 : ∀ l : Nat, l ≤ 24 → (nI l = 0 ↔ l = 0) := fun l hl => nI_eq (b := 0) (by omega) (by decide)
  have top : ∀ j, j < 4 → dp_to (fun j => (U j).1) (j + 1) j ≤ 4 := fun j hj => by
    have e0 : dp_to (fun j => (U j).1) 1 0 ≤ 1 := by rw [dp_v0]; split <;> omega
    have w : ∀ m i N, dp_to (fun j => (U j).1) (i + 1) i ≤ N → ∃ w, dp_w (fun j => (U j).1) m i w ∧ w ≤ N := fun m i N h => by
      by_cases hcc : dp_c ((fun j => (U j).1) m) i
      · exact ⟨_, Or.inl ⟨hcc, rfl⟩, h⟩
      · exact ⟨0, Or.inr ⟨hcc, rfl⟩, Nat.zero_le _⟩
    obtain ⟨w10, a, b⟩ := w 1 0 1 e0
    have e1 : dp_to (fun j => (U j).1) 2 1 ≤ 2 := by rw [dp_v1 a]; split <;> omega
    obtain ⟨w20, a20, b20⟩ := w 2 0 1 e0
    obtain ⟨w21, a21, b21⟩ := w 2 1 2 e1
    have e2 : dp_to (fun j => (U j).1) 3 2 ≤ 3 := by rw [dp_v2 a20 a21]; split <;> omega
    obtain ⟨w30, a30, b30⟩ := w 3 0 1 e0
    obtain ⟨w31, a31, b31⟩ := w 3 1 2 e1
    obtain ⟨w32, a32, b32⟩ := w 3 2 3 e2
    have e3 : dp_to (fun j => (U j).1) 4 3 ≤ 4 := by rw [dp_v3 a30 a31 a32]; split <;> omega
    rcases (show j = 0 ∨ j = 1 ∨ j = 2 ∨ j = 3 by omega) with rfl | rfl | rfl | rfl
    · exact Nat.le_trans e0 (by decide)
    · exact Nat.le_trans e1 (by decide)
    · exact Nat.le_trans e2 (by decide)
    · exact e3
  have T0 : dp_to (fun j => (U j).1) 1 0 ≤ 4 := top 0 (by decide)
  have T1 : dp_to (fun j => (U j).1) 2 1 ≤ 4 := top 1 (by decide)
  have T2 : dp_to (fun j => (U j).1) 3 2 ≤ 4 := top 2 (by decide)
  have T3 : dp_to (fun j => (U j).1) 4 3 ≤ 4 := top 3 (by decide)
  have last : ∀ (k : Nat) (z : Int32) (o5 : Option Value), k < 4 → x = nI k → z = nI (dp_to (fun j => (U j).1) 4 3) → gw_Go y_Mo_depth (d + 1) 0 0 177 [some (.ref 533), some (.int (nI k)), some (.int (nI (dp_to (fun j => (U j).1) 1 0))), some (.int (nI (dp_to (fun j => (U j).1) 2 1))), some (.int (nI (dp_to (fun j => (U j).1) 3 2))), o5, some (.int z)] [] (n, sh, X, R, I, L) Q := by
    intro k z o5 hk hx hz
    have fin := hQ k hk hx
    rcases (show k = 0 ∨ k = 1 ∨ k = 2 ∨ k = 3 by omega) with rfl | rfl | rfl | rfl
    · skip
      refine go_iload_n 1 d_Mo_depth_177 rfl rfl ?_
      refine go_if_ne 185 d_Mo_depth_178 rfl (fun hn => absurd hn (by decide)) (fun _ => ?_)
      refine go_iload_n 2 d_Mo_depth_181 rfl rfl ?_
      refine go_goto 206 d_Mo_depth_182 rfl ?_
      exact go_iret d_Mo_depth_206 rfl (fin)
    · skip
      refine go_iload_n 1 d_Mo_depth_177 rfl rfl ?_
      refine go_if_ne 185 d_Mo_depth_178 rfl (fun _ => ?_) (fun hn => by first | exact absurd hn (by decide) | exact absurd (by decide) hn)
      refine go_iload_n 1 d_Mo_depth_185 rfl rfl ?_
      refine go_iconst (v := 1) d_Mo_depth_186 rfl ?_
      refine go_icmp_ne 194 d_Mo_depth_187 rfl (fun hn => absurd hn (by decide)) (fun _ => ?_)
      refine go_iload_n 3 d_Mo_depth_190 rfl rfl ?_
      refine go_goto 206 d_Mo_depth_191 rfl ?_
      exact go_iret d_Mo_depth_206 rfl (fin)
    · skip
      refine go_iload_n 1 d_Mo_depth_177 rfl rfl ?_
      refine go_if_ne 185 d_Mo_depth_178 rfl (fun _ => ?_) (fun hn => by first | exact absurd hn (by decide) | exact absurd (by decide) hn)
      refine go_iload_n 1 d_Mo_depth_185 rfl rfl ?_
      refine go_iconst (v := 1) d_Mo_depth_186 rfl ?_
      refine go_icmp_ne 194 d_Mo_depth_187 rfl (fun _ => ?_) (fun hn => by first | exact absurd hn (by decide) | exact absurd (by decide) hn)
      refine go_iload_n 1 d_Mo_depth_194 rfl rfl ?_
      refine go_iconst (v := 2) d_Mo_depth_195 rfl ?_
      refine go_icmp_ne 204 d_Mo_depth_196 rfl (fun hn => absurd hn (by decide)) (fun _ => ?_)
      refine go_iload d_Mo_depth_199 rfl ?_
      refine go_goto 206 d_Mo_depth_201 rfl ?_
      exact go_iret d_Mo_depth_206 rfl (fin)
    · skip
      refine go_iload_n 1 d_Mo_depth_177 rfl rfl ?_
      refine go_if_ne 185 d_Mo_depth_178 rfl (fun _ => ?_) (fun hn => by first | exact absurd hn (by decide) | exact absurd (by decide) hn)
      refine go_iload_n 1 d_Mo_depth_185 rfl rfl ?_
      refine go_iconst (v := 1) d_Mo_depth_186 rfl ?_
      refine go_icmp_ne 194 d_Mo_depth_187 rfl (fun _ => ?_) (fun hn => by first | exact absurd hn (by decide) | exact absurd (by decide) hn)
      refine go_iload_n 1 d_Mo_depth_194 rfl rfl ?_
      refine go_iconst (v := 2) d_Mo_depth_195 rfl ?_
      refine go_icmp_ne 204 d_Mo_depth_196 rfl (fun _ => ?_) (fun hn => by first | exact absurd hn (by decide) | exact absurd (by decide) hn)
      refine go_iload d_Mo_depth_204 rfl ?_
      exact go_iret d_Mo_depth_206 rfl (by rw [hz]; exact fin)
  have four : ∀ (k : Nat) (z : Int32) (o5 o6 : Option Value), k < 4 → x = nI k → z = nI (dp_to (fun j => (U j).1) 3 2) → gw_Go y_Mo_depth (d + 1) 0 0 107 [some (.ref 533), some (.int (nI k)), some (.int (nI (dp_to (fun j => (U j).1) 1 0))), some (.int (nI (dp_to (fun j => (U j).1) 2 1))), some (.int z), o5, o6] [] (n, sh, X, R, I, L) Q := by
    intro k z o5 o6 hk hx hz
    subst hz
    refine go_aload_n 0 d_Mo_depth_107 rfl rfl ?_
    refine go_iconst (v := 3) d_Mo_depth_108 rfl ?_
    refine go_iconst (v := 0) d_Mo_depth_109 rfl ?_
    refine go_V2 d_Mo_depth_110 k_Mo_232 (by assumption) (Nat.le_of_ble_eq_true rfl) (c_Mo_calls (m := 3) hp0 hc (by decide) (fun b0 k0 => ?_))
    refine go_if_eq 120 d_Mo_depth_113 rfl (fun h113 => ?_) (fun h113 => ?_)
    · refine go_iconst (v := nI 0) d_Mo_depth_120 rfl ?_
      refine go_aload_n 0 d_Mo_depth_121 rfl rfl ?_
      refine go_iconst (v := 3) d_Mo_depth_122 rfl ?_
      refine go_iconst (v := 1) d_Mo_depth_123 rfl ?_
      refine go_V2 d_Mo_depth_124 k_Mo_232 (by assumption) (Nat.le_of_ble_eq_true rfl) (c_Mo_calls (m := 3) hp0 hc (by decide) (fun b1 k1 => ?_))
      refine go_if_eq 134 d_Mo_depth_127 rfl (fun h127 => ?_) (fun h127 => ?_)
      · refine go_iconst (v := nI 0) d_Mo_depth_134 rfl ?_
        refine go_S2 d_Mo_depth_135 k_Mo_235 (Nat.le_of_ble_eq_true rfl) (c_Mo_greatest (by omega) (by omega) ?_)
        refine go_aload_n 0 d_Mo_depth_138 rfl rfl ?_
        refine go_iconst (v := 3) d_Mo_depth_139 rfl ?_
        refine go_iconst (v := 2) d_Mo_depth_140 rfl ?_
        refine go_V2 d_Mo_depth_141 k_Mo_232 (by assumption) (Nat.le_of_ble_eq_true rfl) (c_Mo_calls (m := 3) hp0 hc (by decide) (fun b2 k2 => ?_))
        refine go_if_eq 152 d_Mo_depth_144 rfl (fun h144 => ?_) (fun h144 => ?_)
        · refine go_iconst (v := nI 0) d_Mo_depth_152 rfl ?_
          refine go_S2 d_Mo_depth_153 k_Mo_235 (Nat.le_of_ble_eq_true rfl) (c_Mo_greatest (by omega) (by omega) ?_)
          refine go_istore d_Mo_depth_156 (Nat.le_of_ble_eq_true rfl) ?_
          have e3 := dp_v3 (code := fun j => (U j).1) (by first | exact Or.inl ⟨k0.mp h113, rfl⟩ | exact Or.inr ⟨fun hh => absurd h113 (k0.mpr hh), rfl⟩) (by first | exact Or.inl ⟨k1.mp h127, rfl⟩ | exact Or.inr ⟨fun hh => absurd h127 (k1.mpr hh), rfl⟩) (by first | exact Or.inl ⟨k2.mp h144, rfl⟩ | exact Or.inr ⟨fun hh => absurd h144 (k2.mpr hh), rfl⟩)
          refine go_aload_n 0 d_Mo_depth_158 rfl rfl ?_
          refine go_getR d_Mo_depth_159 f_Mo_7 (by assumption) (by assumption) ?_
          refine go_iconst (v := 3) d_Mo_depth_162 rfl ?_
          refine go_iald (3) d_Mo_depth_163 (by assumption) (rfl) (by decide) (by decide) ?_
          refine go_if_ne 171 d_Mo_depth_164 rfl (fun h164 => ?_) (fun h164 => ?_)
          · refine go_iconst (v := 1) d_Mo_depth_171 rfl ?_
            refine go_iload d_Mo_depth_172 rfl ?_
            refine go_iadd d_Mo_depth_174 ?_
            refine go_istore d_Mo_depth_175 (Nat.le_of_ble_eq_true rfl) ?_
            exact last k _ _ hk hx (by first | (rw [e3, if_pos ((z0 _ l3).mp (g3.symm.trans h164))]) | (rw [e3, if_neg (fun hh => h164 (g3.trans ((z0 _ l3).mpr hh)))]; exact nI_add 1 _))
          · refine go_iconst (v := nI 0) d_Mo_depth_167 rfl ?_
            refine go_goto 175 d_Mo_depth_168 rfl ?_
            refine go_istore d_Mo_depth_175 (Nat.le_of_ble_eq_true rfl) ?_
            exact last k _ _ hk hx (by first | (rw [e3, if_pos ((z0 _ l3).mp (g3.symm.trans h164))]) | (rw [e3, if_neg (fun hh => h164 (g3.trans ((z0 _ l3).mpr hh)))]; exact nI_add 1 _))
        · refine go_iload d_Mo_depth_147 rfl ?_
          refine go_goto 153 d_Mo_depth_149 rfl ?_
          refine go_S2 d_Mo_depth_153 k_Mo_235 (Nat.le_of_ble_eq_true rfl) (c_Mo_greatest (by omega) (by omega) ?_)
          refine go_istore d_Mo_depth_156 (Nat.le_of_ble_eq_true rfl) ?_
          have e3 := dp_v3 (code := fun j => (U j).1) (by first | exact Or.inl ⟨k0.mp h113, rfl⟩ | exact Or.inr ⟨fun hh => absurd h113 (k0.mpr hh), rfl⟩) (by first | exact Or.inl ⟨k1.mp h127, rfl⟩ | exact Or.inr ⟨fun hh => absurd h127 (k1.mpr hh), rfl⟩) (by first | exact Or.inl ⟨k2.mp h144, rfl⟩ | exact Or.inr ⟨fun hh => absurd h144 (k2.mpr hh), rfl⟩)
          refine go_aload_n 0 d_Mo_depth_158 rfl rfl ?_
          refine go_getR d_Mo_depth_159 f_Mo_7 (by assumption) (by assumption) ?_
          refine go_iconst (v := 3) d_Mo_depth_162 rfl ?_
          refine go_iald (3) d_Mo_depth_163 (by assumption) (rfl) (by decide) (by decide) ?_
          refine go_if_ne 171 d_Mo_depth_164 rfl (fun h164 => ?_) (fun h164 => ?_)
          · refine go_iconst (v := 1) d_Mo_depth_171 rfl ?_
            refine go_iload d_Mo_depth_172 rfl ?_
            refine go_iadd d_Mo_depth_174 ?_
            refine go_istore d_Mo_depth_175 (Nat.le_of_ble_eq_true rfl) ?_
            exact last k _ _ hk hx (by first | (rw [e3, if_pos ((z0 _ l3).mp (g3.symm.trans h164))]) | (rw [e3, if_neg (fun hh => h164 (g3.trans ((z0 _ l3).mpr hh)))]; exact nI_add 1 _))
          · refine go_iconst (v := nI 0) d_Mo_depth_167 rfl ?_
            refine go_goto 175 d_Mo_depth_168 rfl ?_
            refine go_istore d_Mo_depth_175 (Nat.le_of_ble_eq_true rfl) ?_
            exact last k _ _ hk hx (by first | (rw [e3, if_pos ((z0 _ l3).mp (g3.symm.trans h164))]) | (rw [e3, if_neg (fun hh => h164 (g3.trans ((z0 _ l3).mpr hh)))]; exact nI_add 1 _))
      · refine go_iload_n 3 d_Mo_depth_130 rfl rfl ?_
        refine go_goto 135 d_Mo_depth_131 rfl ?_
        refine go_S2 d_Mo_depth_135 k_Mo_235 (Nat.le_of_ble_eq_true rfl) (c_Mo_greatest (by omega) (by omega) ?_)
        refine go_aload_n 0 d_Mo_depth_138 rfl rfl ?_
        refine go_iconst (v := 3) d_Mo_depth_139 rfl ?_
        refine go_iconst (v := 2) d_Mo_depth_140 rfl ?_
        refine go_V2 d_Mo_depth_141 k_Mo_232 (by assumption) (Nat.le_of_ble_eq_true rfl) (c_Mo_calls (m := 3) hp0 hc (by decide) (fun b2 k2 => ?_))
        refine go_if_eq 152 d_Mo_depth_144 rfl (fun h144 => ?_) (fun h144 => ?_)
        · refine go_iconst (v := nI 0) d_Mo_depth_152 rfl ?_
          refine go_S2 d_Mo_depth_153 k_Mo_235 (Nat.le_of_ble_eq_true rfl) (c_Mo_greatest (by omega) (by omega) ?_)
          refine go_istore d_Mo_depth_156 (Nat.le_of_ble_eq_true rfl) ?_
          have e3 := dp_v3 (code := fun j => (U j).1) (by first | exact Or.inl ⟨k0.mp h113, rfl⟩ | exact Or.inr ⟨fun hh => absurd h113 (k0.mpr hh), rfl⟩) (by first | exact Or.inl ⟨k1.mp h127, rfl⟩ | exact Or.inr ⟨fun hh => absurd h127 (k1.mpr hh), rfl⟩) (by first | exact Or.inl ⟨k2.mp h144, rfl⟩ | exact Or.inr ⟨fun hh => absurd h144 (k2.mpr hh), rfl⟩)
          refine go_aload_n 0 d_Mo_depth_158 rfl rfl ?_
          refine go_getR d_Mo_depth_159 f_Mo_7 (by assumption) (by assumption) ?_
          refine go_iconst (v := 3) d_Mo_depth_162 rfl ?_
          refine go_iald (3) d_Mo_depth_163 (by assumption) (rfl) (by decide) (by decide) ?_
          refine go_if_ne 171 d_Mo_depth_164 rfl (fun h164 => ?_) (fun h164 => ?_)
          · refine go_iconst (v := 1) d_Mo_depth_171 rfl ?_
            refine go_iload d_Mo_depth_172 rfl ?_
            refine go_iadd d_Mo_depth_174 ?_
            refine go_istore d_Mo_depth_175 (Nat.le_of_ble_eq_true rfl) ?_
            exact last k _ _ hk hx (by first | (rw [e3, if_pos ((z0 _ l3).mp (g3.symm.trans h164))]) | (rw [e3, if_neg (fun hh => h164 (g3.trans ((z0 _ l3).mpr hh)))]; exact nI_add 1 _))
          · refine go_iconst (v := nI 0) d_Mo_depth_167 rfl ?_
            refine go_goto 175 d_Mo_depth_168 rfl ?_
            refine go_istore d_Mo_depth_175 (Nat.le_of_ble_eq_true rfl) ?_
            exact last k _ _ hk hx (by first | (rw [e3, if_pos ((z0 _ l3).mp (g3.symm.trans h164))]) | (rw [e3, if_neg (fun hh => h164 (g3.trans ((z0 _ l3).mpr hh)))]; exact nI_add 1 _))
        · refine go_iload d_Mo_depth_147 rfl ?_
          refine go_goto 153 d_Mo_depth_149 rfl ?_
          refine go_S2 d_Mo_depth_153 k_Mo_235 (Nat.le_of_ble_eq_true rfl) (c_Mo_greatest (by omega) (by omega) ?_)
          refine go_istore d_Mo_depth_156 (Nat.le_of_ble_eq_true rfl) ?_
          have e3 := dp_v3 (code := fun j => (U j).1) (by first | exact Or.inl ⟨k0.mp h113, rfl⟩ | exact Or.inr ⟨fun hh => absurd h113 (k0.mpr hh), rfl⟩) (by first | exact Or.inl ⟨k1.mp h127, rfl⟩ | exact Or.inr ⟨fun hh => absurd h127 (k1.mpr hh), rfl⟩) (by first | exact Or.inl ⟨k2.mp h144, rfl⟩ | exact Or.inr ⟨fun hh => absurd h144 (k2.mpr hh), rfl⟩)
          refine go_aload_n 0 d_Mo_depth_158 rfl rfl ?_
          refine go_getR d_Mo_depth_159 f_Mo_7 (by assumption) (by assumption) ?_
          refine go_iconst (v := 3) d_Mo_depth_162 rfl ?_
          refine go_iald (3) d_Mo_depth_163 (by assumption) (rfl) (by decide) (by decide) ?_
          refine go_if_ne 171 d_Mo_depth_164 rfl (fun h164 => ?_) (fun h164 => ?_)
          · refine go_iconst (v := 1) d_Mo_depth_171 rfl ?_
            refine go_iload d_Mo_depth_172 rfl ?_
            refine go_iadd d_Mo_depth_174 ?_
            refine go_istore d_Mo_depth_175 (Nat.le_of_ble_eq_true rfl) ?_
            exact last k _ _ hk hx (by first | (rw [e3, if_pos ((z0 _ l3).mp (g3.symm.trans h164))]) | (rw [e3, if_neg (fun hh => h164 (g3.trans ((z0 _ l3).mpr hh)))]; exact nI_add 1 _))
          · refine go_iconst (v := nI 0) d_Mo_depth_167 rfl ?_
            refine go_goto 175 d_Mo_depth_168 rfl ?_
            refine go_istore d_Mo_depth_175 (Nat.le_of_ble_eq_true rfl) ?_
            exact last k _ _ hk hx (by first | (rw [e3, if_pos ((z0 _ l3).mp (g3.symm.trans h164))]) | (rw [e3, if_neg (fun hh => h164 (g3.trans ((z0 _ l3).mpr hh)))]; exact nI_add 1 _))
    · refine go_iload_n 2 d_Mo_depth_116 rfl rfl ?_
      refine go_goto 121 d_Mo_depth_117 rfl ?_
      refine go_aload_n 0 d_Mo_depth_121 rfl rfl ?_
      refine go_iconst (v := 3) d_Mo_depth_122 rfl ?_
      refine go_iconst (v := 1) d_Mo_depth_123 rfl ?_
      refine go_V2 d_Mo_depth_124 k_Mo_232 (by assumption) (Nat.le_of_ble_eq_true rfl) (c_Mo_calls (m := 3) hp0 hc (by decide) (fun b1 k1 => ?_))
      refine go_if_eq 134 d_Mo_depth_127 rfl (fun h127 => ?_) (fun h127 => ?_)
      · refine go_iconst (v := nI 0) d_Mo_depth_134 rfl ?_
        refine go_S2 d_Mo_depth_135 k_Mo_235 (Nat.le_of_ble_eq_true rfl) (c_Mo_greatest (by omega) (by omega) ?_)
        refine go_aload_n 0 d_Mo_depth_138 rfl rfl ?_
        refine go_iconst (v := 3) d_Mo_depth_139 rfl ?_
        refine go_iconst (v := 2) d_Mo_depth_140 rfl ?_
        refine go_V2 d_Mo_depth_141 k_Mo_232 (by assumption) (Nat.le_of_ble_eq_true rfl) (c_Mo_calls (m := 3) hp0 hc (by decide) (fun b2 k2 => ?_))
        refine go_if_eq 152 d_Mo_depth_144 rfl (fun h144 => ?_) (fun h144 => ?_)
        · refine go_iconst (v := nI 0) d_Mo_depth_152 rfl ?_
          refine go_S2 d_Mo_depth_153 k_Mo_235 (Nat.le_of_ble_eq_true rfl) (c_Mo_greatest (by omega) (by omega) ?_)
          refine go_istore d_Mo_depth_156 (Nat.le_of_ble_eq_true rfl) ?_
          have e3 := dp_v3 (code := fun j => (U j).1) (by first | exact Or.inl ⟨k0.mp h113, rfl⟩ | exact Or.inr ⟨fun hh => absurd h113 (k0.mpr hh), rfl⟩) (by first | exact Or.inl ⟨k1.mp h127, rfl⟩ | exact Or.inr ⟨fun hh => absurd h127 (k1.mpr hh), rfl⟩) (by first | exact Or.inl ⟨k2.mp h144, rfl⟩ | exact Or.inr ⟨fun hh => absurd h144 (k2.mpr hh), rfl⟩)
          refine go_aload_n 0 d_Mo_depth_158 rfl rfl ?_
          refine go_getR d_Mo_depth_159 f_Mo_7 (by assumption) (by assumption) ?_
          refine go_iconst (v := 3) d_Mo_depth_162 rfl ?_
          refine go_iald (3) d_Mo_depth_163 (by assumption) (rfl) (by decide) (by decide) ?_
          refine go_if_ne 171 d_Mo_depth_164 rfl (fun h164 => ?_) (fun h164 => ?_)
          · refine go_iconst (v := 1) d_Mo_depth_171 rfl ?_
            refine go_iload d_Mo_depth_172 rfl ?_
            refine go_iadd d_Mo_depth_174 ?_
            refine go_istore d_Mo_depth_175 (Nat.le_of_ble_eq_true rfl) ?_
            exact last k _ _ hk hx (by first | (rw [e3, if_pos ((z0 _ l3).mp (g3.symm.trans h164))]) | (rw [e3, if_neg (fun hh => h164 (g3.trans ((z0 _ l3).mpr hh)))]; exact nI_add 1 _))
          · refine go_iconst (v := nI 0) d_Mo_depth_167 rfl ?_
            refine go_goto 175 d_Mo_depth_168 rfl ?_
            refine go_istore d_Mo_depth_175 (Nat.le_of_ble_eq_true rfl) ?_
            exact last k _ _ hk hx (by first | (rw [e3, if_pos ((z0 _ l3).mp (g3.symm.trans h164))]) | (rw [e3, if_neg (fun hh => h164 (g3.trans ((z0 _ l3).mpr hh)))]; exact nI_add 1 _))
        · refine go_iload d_Mo_depth_147 rfl ?_
          refine go_goto 153 d_Mo_depth_149 rfl ?_
          refine go_S2 d_Mo_depth_153 k_Mo_235 (Nat.le_of_ble_eq_true rfl) (c_Mo_greatest (by omega) (by omega) ?_)
          refine go_istore d_Mo_depth_156 (Nat.le_of_ble_eq_true rfl) ?_
          have e3 := dp_v3 (code := fun j => (U j).1) (by first | exact Or.inl ⟨k0.mp h113, rfl⟩ | exact Or.inr ⟨fun hh => absurd h113 (k0.mpr hh), rfl⟩) (by first | exact Or.inl ⟨k1.mp h127, rfl⟩ | exact Or.inr ⟨fun hh => absurd h127 (k1.mpr hh), rfl⟩) (by first | exact Or.inl ⟨k2.mp h144, rfl⟩ | exact Or.inr ⟨fun hh => absurd h144 (k2.mpr hh), rfl⟩)
          refine go_aload_n 0 d_Mo_depth_158 rfl rfl ?_
          refine go_getR d_Mo_depth_159 f_Mo_7 (by assumption) (by assumption) ?_
          refine go_iconst (v := 3) d_Mo_depth_162 rfl ?_
          refine go_iald (3) d_Mo_depth_163 (by assumption) (rfl) (by decide) (by decide) ?_
          refine go_if_ne 171 d_Mo_depth_164 rfl (fun h164 => ?_) (fun h164 => ?_)
          · refine go_iconst (v := 1) d_Mo_depth_171 rfl ?_
            refine go_iload d_Mo_depth_172 rfl ?_
            refine go_iadd d_Mo_depth_174 ?_
            refine go_istore d_Mo_depth_175 (Nat.le_of_ble_eq_true rfl) ?_
            exact last k _ _ hk hx (by first | (rw [e3, if_pos ((z0 _ l3).mp (g3.symm.trans h164))]) | (rw [e3, if_neg (fun hh => h164 (g3.trans ((z0 _ l3).mpr hh)))]; exact nI_add 1 _))
          · refine go_iconst (v := nI 0) d_Mo_depth_167 rfl ?_
            refine go_goto 175 d_Mo_depth_168 rfl ?_
            refine go_istore d_Mo_depth_175 (Nat.le_of_ble_eq_true rfl) ?_
            exact last k _ _ hk hx (by first | (rw [e3, if_pos ((z0 _ l3).mp (g3.symm.trans h164))]) | (rw [e3, if_neg (fun hh => h164 (g3.trans ((z0 _ l3).mpr hh)))]; exact nI_add 1 _))
      · refine go_iload_n 3 d_Mo_depth_130 rfl rfl ?_
        refine go_goto 135 d_Mo_depth_131 rfl ?_
        refine go_S2 d_Mo_depth_135 k_Mo_235 (Nat.le_of_ble_eq_true rfl) (c_Mo_greatest (by omega) (by omega) ?_)
        refine go_aload_n 0 d_Mo_depth_138 rfl rfl ?_
        refine go_iconst (v := 3) d_Mo_depth_139 rfl ?_
        refine go_iconst (v := 2) d_Mo_depth_140 rfl ?_
        refine go_V2 d_Mo_depth_141 k_Mo_232 (by assumption) (Nat.le_of_ble_eq_true rfl) (c_Mo_calls (m := 3) hp0 hc (by decide) (fun b2 k2 => ?_))
        refine go_if_eq 152 d_Mo_depth_144 rfl (fun h144 => ?_) (fun h144 => ?_)
        · refine go_iconst (v := nI 0) d_Mo_depth_152 rfl ?_
          refine go_S2 d_Mo_depth_153 k_Mo_235 (Nat.le_of_ble_eq_true rfl) (c_Mo_greatest (by omega) (by omega) ?_)
          refine go_istore d_Mo_depth_156 (Nat.le_of_ble_eq_true rfl) ?_
          have e3 := dp_v3 (code := fun j => (U j).1) (by first | exact Or.inl ⟨k0.mp h113, rfl⟩ | exact Or.inr ⟨fun hh => absurd h113 (k0.mpr hh), rfl⟩) (by first | exact Or.inl ⟨k1.mp h127, rfl⟩ | exact Or.inr ⟨fun hh => absurd h127 (k1.mpr hh), rfl⟩) (by first | exact Or.inl ⟨k2.mp h144, rfl⟩ | exact Or.inr ⟨fun hh => absurd h144 (k2.mpr hh), rfl⟩)
          refine go_aload_n 0 d_Mo_depth_158 rfl rfl ?_
          refine go_getR d_Mo_depth_159 f_Mo_7 (by assumption) (by assumption) ?_
          refine go_iconst (v := 3) d_Mo_depth_162 rfl ?_
          refine go_iald (3) d_Mo_depth_163 (by assumption) (rfl) (by decide) (by decide) ?_
          refine go_if_ne 171 d_Mo_depth_164 rfl (fun h164 => ?_) (fun h164 => ?_)
          · refine go_iconst (v := 1) d_Mo_depth_171 rfl ?_
            refine go_iload d_Mo_depth_172 rfl ?_
            refine go_iadd d_Mo_depth_174 ?_
            refine go_istore d_Mo_depth_175 (Nat.le_of_ble_eq_true rfl) ?_
            exact last k _ _ hk hx (by first | (rw [e3, if_pos ((z0 _ l3).mp (g3.symm.trans h164))]) | (rw [e3, if_neg (fun hh => h164 (g3.trans ((z0 _ l3).mpr hh)))]; exact nI_add 1 _))
          · refine go_iconst (v := nI 0) d_Mo_depth_167 rfl ?_
            refine go_goto 175 d_Mo_depth_168 rfl ?_
            refine go_istore d_Mo_depth_175 (Nat.le_of_ble_eq_true rfl) ?_
            exact last k _ _ hk hx (by first | (rw [e3, if_pos ((z0 _ l3).mp (g3.symm.trans h164))]) | (rw [e3, if_neg (fun hh => h164 (g3.trans ((z0 _ l3).mpr hh)))]; exact nI_add 1 _))
        · refine go_iload d_Mo_depth_147 rfl ?_
          refine go_goto 153 d_Mo_depth_149 rfl ?_
          refine go_S2 d_Mo_depth_153 k_Mo_235 (Nat.le_of_ble_eq_true rfl) (c_Mo_greatest (by omega) (by omega) ?_)
          refine go_istore d_Mo_depth_156 (Nat.le_of_ble_eq_true rfl) ?_
          have e3 := dp_v3 (code := fun j => (U j).1) (by first | exact Or.inl ⟨k0.mp h113, rfl⟩ | exact Or.inr ⟨fun hh => absurd h113 (k0.mpr hh), rfl⟩) (by first | exact Or.inl ⟨k1.mp h127, rfl⟩ | exact Or.inr ⟨fun hh => absurd h127 (k1.mpr hh), rfl⟩) (by first | exact Or.inl ⟨k2.mp h144, rfl⟩ | exact Or.inr ⟨fun hh => absurd h144 (k2.mpr hh), rfl⟩)
          refine go_aload_n 0 d_Mo_depth_158 rfl rfl ?_
          refine go_getR d_Mo_depth_159 f_Mo_7 (by assumption) (by assumption) ?_
          refine go_iconst (v := 3) d_Mo_depth_162 rfl ?_
          refine go_iald (3) d_Mo_depth_163 (by assumption) (rfl) (by decide) (by decide) ?_
          refine go_if_ne 171 d_Mo_depth_164 rfl (fun h164 => ?_) (fun h164 => ?_)
          · refine go_iconst (v := 1) d_Mo_depth_171 rfl ?_
            refine go_iload d_Mo_depth_172 rfl ?_
            refine go_iadd d_Mo_depth_174 ?_
            refine go_istore d_Mo_depth_175 (Nat.le_of_ble_eq_true rfl) ?_
            exact last k _ _ hk hx (by first | (rw [e3, if_pos ((z0 _ l3).mp (g3.symm.trans h164))]) | (rw [e3, if_neg (fun hh => h164 (g3.trans ((z0 _ l3).mpr hh)))]; exact nI_add 1 _))
          · refine go_iconst (v := nI 0) d_Mo_depth_167 rfl ?_
            refine go_goto 175 d_Mo_depth_168 rfl ?_
            refine go_istore d_Mo_depth_175 (Nat.le_of_ble_eq_true rfl) ?_
            exact last k _ _ hk hx (by first | (rw [e3, if_pos ((z0 _ l3).mp (g3.symm.trans h164))]) | (rw [e3, if_neg (fun hh => h164 (g3.trans ((z0 _ l3).mpr hh)))]; exact nI_add 1 _))
  have three : ∀ (k : Nat) (z : Int32) (o4 o5 o6 : Option Value), k < 4 → x = nI k → z = nI (dp_to (fun j => (U j).1) 2 1) → gw_Go y_Mo_depth (d + 1) 0 0 59 [some (.ref 533), some (.int (nI k)), some (.int (nI (dp_to (fun j => (U j).1) 1 0))), some (.int z), o4, o5, o6] [] (n, sh, X, R, I, L) Q := by
    intro k z o4 o5 o6 hk hx hz
    subst hz
    refine go_aload_n 0 d_Mo_depth_59 rfl rfl ?_
    refine go_getR d_Mo_depth_60 f_Mo_7 (by assumption) (by assumption) ?_
    refine go_iconst (v := 2) d_Mo_depth_63 rfl ?_
    refine go_iald (2) d_Mo_depth_64 (by assumption) (rfl) (by decide) (by decide) ?_
    refine go_if_ne 72 d_Mo_depth_65 rfl (fun h65 => ?_) (fun h65 => ?_)
    · refine go_iconst (v := 1) d_Mo_depth_72 rfl ?_
      refine go_aload_n 0 d_Mo_depth_73 rfl rfl ?_
      refine go_iconst (v := 2) d_Mo_depth_74 rfl ?_
      refine go_iconst (v := 0) d_Mo_depth_75 rfl ?_
      refine go_V2 d_Mo_depth_76 k_Mo_232 (by assumption) (Nat.le_of_ble_eq_true rfl) (c_Mo_calls (m := 2) hp0 hc (by decide) (fun b0 k0 => ?_))
      refine go_if_eq 86 d_Mo_depth_79 rfl (fun h79 => ?_) (fun h79 => ?_)
      · refine go_iconst (v := nI 0) d_Mo_depth_86 rfl ?_
        refine go_aload_n 0 d_Mo_depth_87 rfl rfl ?_
        refine go_iconst (v := 2) d_Mo_depth_88 rfl ?_
        refine go_iconst (v := 1) d_Mo_depth_89 rfl ?_
        refine go_V2 d_Mo_depth_90 k_Mo_232 (by assumption) (Nat.le_of_ble_eq_true rfl) (c_Mo_calls (m := 2) hp0 hc (by decide) (fun b1 k1 => ?_))
        refine go_if_eq 100 d_Mo_depth_93 rfl (fun h93 => ?_) (fun h93 => ?_)
        · refine go_iconst (v := nI 0) d_Mo_depth_100 rfl ?_
          refine go_S2 d_Mo_depth_101 k_Mo_235 (Nat.le_of_ble_eq_true rfl) (c_Mo_greatest (by omega) (by omega) ?_)
          refine go_iadd d_Mo_depth_104 ?_
          refine go_istore d_Mo_depth_105 (Nat.le_of_ble_eq_true rfl) ?_
          exact four k _ _ _ hk hx (by first | (have e := dp_v2 (code := fun j => (U j).1) (by first | exact Or.inl ⟨k0.mp h79, rfl⟩ | exact Or.inr ⟨fun hh => absurd h79 (k0.mpr hh), rfl⟩) (by first | exact Or.inl ⟨k1.mp h93, rfl⟩ | exact Or.inr ⟨fun hh => absurd h93 (k1.mpr hh), rfl⟩); rw [e, if_neg (fun hh => h65 (g2.trans ((z0 _ l2).mpr hh)))]; exact nI_add 1 _) | (have e := dp_v (code := fun j => (U j).1) (m := 2) (by decide) (dp_b (dp_to (fun j => (U j).1) 2) 2 (U 2).1 0) (fun N => by rw [dp_b_iff (by decide)]; exact ⟨fun ⟨_, g⟩ j hj hcc => by rw [← dp_D 2 j hj]; exact g j hj hcc, fun g => ⟨Nat.zero_le _, fun j hj hcc => by rw [dp_D 2 j hj]; exact g j hj hcc⟩⟩); rw [e, if_pos ((z0 _ l2).mp (g2.symm.trans h65))]))
        · refine go_iload_n 3 d_Mo_depth_96 rfl rfl ?_
          refine go_goto 101 d_Mo_depth_97 rfl ?_
          refine go_S2 d_Mo_depth_101 k_Mo_235 (Nat.le_of_ble_eq_true rfl) (c_Mo_greatest (by omega) (by omega) ?_)
          refine go_iadd d_Mo_depth_104 ?_
          refine go_istore d_Mo_depth_105 (Nat.le_of_ble_eq_true rfl) ?_
          exact four k _ _ _ hk hx (by first | (have e := dp_v2 (code := fun j => (U j).1) (by first | exact Or.inl ⟨k0.mp h79, rfl⟩ | exact Or.inr ⟨fun hh => absurd h79 (k0.mpr hh), rfl⟩) (by first | exact Or.inl ⟨k1.mp h93, rfl⟩ | exact Or.inr ⟨fun hh => absurd h93 (k1.mpr hh), rfl⟩); rw [e, if_neg (fun hh => h65 (g2.trans ((z0 _ l2).mpr hh)))]; exact nI_add 1 _) | (have e := dp_v (code := fun j => (U j).1) (m := 2) (by decide) (dp_b (dp_to (fun j => (U j).1) 2) 2 (U 2).1 0) (fun N => by rw [dp_b_iff (by decide)]; exact ⟨fun ⟨_, g⟩ j hj hcc => by rw [← dp_D 2 j hj]; exact g j hj hcc, fun g => ⟨Nat.zero_le _, fun j hj hcc => by rw [dp_D 2 j hj]; exact g j hj hcc⟩⟩); rw [e, if_pos ((z0 _ l2).mp (g2.symm.trans h65))]))
      · refine go_iload_n 2 d_Mo_depth_82 rfl rfl ?_
        refine go_goto 87 d_Mo_depth_83 rfl ?_
        refine go_aload_n 0 d_Mo_depth_87 rfl rfl ?_
        refine go_iconst (v := 2) d_Mo_depth_88 rfl ?_
        refine go_iconst (v := 1) d_Mo_depth_89 rfl ?_
        refine go_V2 d_Mo_depth_90 k_Mo_232 (by assumption) (Nat.le_of_ble_eq_true rfl) (c_Mo_calls (m := 2) hp0 hc (by decide) (fun b1 k1 => ?_))
        refine go_if_eq 100 d_Mo_depth_93 rfl (fun h93 => ?_) (fun h93 => ?_)
        · refine go_iconst (v := nI 0) d_Mo_depth_100 rfl ?_
          refine go_S2 d_Mo_depth_101 k_Mo_235 (Nat.le_of_ble_eq_true rfl) (c_Mo_greatest (by omega) (by omega) ?_)
          refine go_iadd d_Mo_depth_104 ?_
          refine go_istore d_Mo_depth_105 (Nat.le_of_ble_eq_true rfl) ?_
          exact four k _ _ _ hk hx (by first | (have e := dp_v2 (code := fun j => (U j).1) (by first | exact Or.inl ⟨k0.mp h79, rfl⟩ | exact Or.inr ⟨fun hh => absurd h79 (k0.mpr hh), rfl⟩) (by first | exact Or.inl ⟨k1.mp h93, rfl⟩ | exact Or.inr ⟨fun hh => absurd h93 (k1.mpr hh), rfl⟩); rw [e, if_neg (fun hh => h65 (g2.trans ((z0 _ l2).mpr hh)))]; exact nI_add 1 _) | (have e := dp_v (code := fun j => (U j).1) (m := 2) (by decide) (dp_b (dp_to (fun j => (U j).1) 2) 2 (U 2).1 0) (fun N => by rw [dp_b_iff (by decide)]; exact ⟨fun ⟨_, g⟩ j hj hcc => by rw [← dp_D 2 j hj]; exact g j hj hcc, fun g => ⟨Nat.zero_le _, fun j hj hcc => by rw [dp_D 2 j hj]; exact g j hj hcc⟩⟩); rw [e, if_pos ((z0 _ l2).mp (g2.symm.trans h65))]))
        · refine go_iload_n 3 d_Mo_depth_96 rfl rfl ?_
          refine go_goto 101 d_Mo_depth_97 rfl ?_
          refine go_S2 d_Mo_depth_101 k_Mo_235 (Nat.le_of_ble_eq_true rfl) (c_Mo_greatest (by omega) (by omega) ?_)
          refine go_iadd d_Mo_depth_104 ?_
          refine go_istore d_Mo_depth_105 (Nat.le_of_ble_eq_true rfl) ?_
          exact four k _ _ _ hk hx (by first | (have e := dp_v2 (code := fun j => (U j).1) (by first | exact Or.inl ⟨k0.mp h79, rfl⟩ | exact Or.inr ⟨fun hh => absurd h79 (k0.mpr hh), rfl⟩) (by first | exact Or.inl ⟨k1.mp h93, rfl⟩ | exact Or.inr ⟨fun hh => absurd h93 (k1.mpr hh), rfl⟩); rw [e, if_neg (fun hh => h65 (g2.trans ((z0 _ l2).mpr hh)))]; exact nI_add 1 _) | (have e := dp_v (code := fun j => (U j).1) (m := 2) (by decide) (dp_b (dp_to (fun j => (U j).1) 2) 2 (U 2).1 0) (fun N => by rw [dp_b_iff (by decide)]; exact ⟨fun ⟨_, g⟩ j hj hcc => by rw [← dp_D 2 j hj]; exact g j hj hcc, fun g => ⟨Nat.zero_le _, fun j hj hcc => by rw [dp_D 2 j hj]; exact g j hj hcc⟩⟩); rw [e, if_pos ((z0 _ l2).mp (g2.symm.trans h65))]))
    · refine go_iconst (v := nI 0) d_Mo_depth_68 rfl ?_
      refine go_goto 105 d_Mo_depth_69 rfl ?_
      refine go_istore d_Mo_depth_105 (Nat.le_of_ble_eq_true rfl) ?_
      exact four k _ _ _ hk hx (by first | (have e := dp_v2 (code := fun j => (U j).1) (by first | exact Or.inl ⟨k0.mp h79, rfl⟩ | exact Or.inr ⟨fun hh => absurd h79 (k0.mpr hh), rfl⟩) (by first | exact Or.inl ⟨k1.mp h93, rfl⟩ | exact Or.inr ⟨fun hh => absurd h93 (k1.mpr hh), rfl⟩); rw [e, if_neg (fun hh => h65 (g2.trans ((z0 _ l2).mpr hh)))]; exact nI_add 1 _) | (have e := dp_v (code := fun j => (U j).1) (m := 2) (by decide) (dp_b (dp_to (fun j => (U j).1) 2) 2 (U 2).1 0) (fun N => by rw [dp_b_iff (by decide)]; exact ⟨fun ⟨_, g⟩ j hj hcc => by rw [← dp_D 2 j hj]; exact g j hj hcc, fun g => ⟨Nat.zero_le _, fun j hj hcc => by rw [dp_D 2 j hj]; exact g j hj hcc⟩⟩); rw [e, if_pos ((z0 _ l2).mp (g2.symm.trans h65))]))
  have two : ∀ (k : Nat) (z : Int32) (o3 o4 o5 o6 : Option Value), k < 4 → x = nI k → z = nI (dp_to (fun j => (U j).1) 1 0) → gw_Go y_Mo_depth (d + 1) 0 0 29 [some (.ref 533), some (.int (nI k)), some (.int z), o3, o4, o5, o6] [] (n, sh, X, R, I, L) Q := by
    intro k z o3 o4 o5 o6 hk hx hz
    subst hz
    refine go_aload_n 0 d_Mo_depth_29 rfl rfl ?_
    refine go_getR d_Mo_depth_30 f_Mo_7 (by assumption) (by assumption) ?_
    refine go_iconst (v := 1) d_Mo_depth_33 rfl ?_
    refine go_iald (1) d_Mo_depth_34 (by assumption) (rfl) (by decide) (by decide) ?_
    refine go_if_ne 42 d_Mo_depth_35 rfl (fun h35 => ?_) (fun h35 => ?_)
    · refine go_iconst (v := 1) d_Mo_depth_42 rfl ?_
      refine go_aload_n 0 d_Mo_depth_43 rfl rfl ?_
      refine go_iconst (v := 1) d_Mo_depth_44 rfl ?_
      refine go_iconst (v := 0) d_Mo_depth_45 rfl ?_
      refine go_V2 d_Mo_depth_46 k_Mo_232 (by assumption) (Nat.le_of_ble_eq_true rfl) (c_Mo_calls (m := 1) hp0 hc (by decide) (fun b0 k0 => ?_))
      refine go_if_eq 56 d_Mo_depth_49 rfl (fun h49 => ?_) (fun h49 => ?_)
      · refine go_iconst (v := nI 0) d_Mo_depth_56 rfl ?_
        refine go_iadd d_Mo_depth_57 ?_
        refine go_istore_n 3 d_Mo_depth_58 rfl (Nat.le_of_ble_eq_true rfl) ?_
        exact three k _ _ _ _ hk hx (by first | (have e := dp_v1 (code := fun j => (U j).1) (by first | exact Or.inl ⟨k0.mp h49, rfl⟩ | exact Or.inr ⟨fun hh => absurd h49 (k0.mpr hh), rfl⟩); rw [e, if_neg (fun hh => h35 (g1.trans ((z0 _ l1).mpr hh)))]; exact nI_add 1 _) | (have e := dp_v (code := fun j => (U j).1) (m := 1) (by decide) (dp_b (dp_to (fun j => (U j).1) 1) 1 (U 1).1 0) (fun N => by rw [dp_b_iff (by decide)]; exact ⟨fun ⟨_, g⟩ j hj hcc => by rw [← dp_D 1 j hj]; exact g j hj hcc, fun g => ⟨Nat.zero_le _, fun j hj hcc => by rw [dp_D 1 j hj]; exact g j hj hcc⟩⟩); rw [e, if_pos ((z0 _ l1).mp (g1.symm.trans h35))]))
      · refine go_iload_n 2 d_Mo_depth_52 rfl rfl ?_
        refine go_goto 57 d_Mo_depth_53 rfl ?_
        refine go_iadd d_Mo_depth_57 ?_
        refine go_istore_n 3 d_Mo_depth_58 rfl (Nat.le_of_ble_eq_true rfl) ?_
        exact three k _ _ _ _ hk hx (by first | (have e := dp_v1 (code := fun j => (U j).1) (by first | exact Or.inl ⟨k0.mp h49, rfl⟩ | exact Or.inr ⟨fun hh => absurd h49 (k0.mpr hh), rfl⟩); rw [e, if_neg (fun hh => h35 (g1.trans ((z0 _ l1).mpr hh)))]; exact nI_add 1 _) | (have e := dp_v (code := fun j => (U j).1) (m := 1) (by decide) (dp_b (dp_to (fun j => (U j).1) 1) 1 (U 1).1 0) (fun N => by rw [dp_b_iff (by decide)]; exact ⟨fun ⟨_, g⟩ j hj hcc => by rw [← dp_D 1 j hj]; exact g j hj hcc, fun g => ⟨Nat.zero_le _, fun j hj hcc => by rw [dp_D 1 j hj]; exact g j hj hcc⟩⟩); rw [e, if_pos ((z0 _ l1).mp (g1.symm.trans h35))]))
    · refine go_iconst (v := nI 0) d_Mo_depth_38 rfl ?_
      refine go_goto 58 d_Mo_depth_39 rfl ?_
      refine go_istore_n 3 d_Mo_depth_58 rfl (Nat.le_of_ble_eq_true rfl) ?_
      exact three k _ _ _ _ hk hx (by first | (have e := dp_v1 (code := fun j => (U j).1) (by first | exact Or.inl ⟨k0.mp h49, rfl⟩ | exact Or.inr ⟨fun hh => absurd h49 (k0.mpr hh), rfl⟩); rw [e, if_neg (fun hh => h35 (g1.trans ((z0 _ l1).mpr hh)))]; exact nI_add 1 _) | (have e := dp_v (code := fun j => (U j).1) (m := 1) (by decide) (dp_b (dp_to (fun j => (U j).1) 1) 1 (U 1).1 0) (fun N => by rw [dp_b_iff (by decide)]; exact ⟨fun ⟨_, g⟩ j hj hcc => by rw [← dp_D 1 j hj]; exact g j hj hcc, fun g => ⟨Nat.zero_le _, fun j hj hcc => by rw [dp_D 1 j hj]; exact g j hj hcc⟩⟩); rw [e, if_pos ((z0 _ l1).mp (g1.symm.trans h35))]))
  refine go_iload_n 1 d_Mo_depth_0 rfl rfl ?_
  refine go_i2l d_Mo_depth_1 (rfl) ?_
  refine go_lconst (v := 0) d_Mo_depth_2 rfl ?_
  refine go_ldc2 d_Mo_depth_3 i_Mo_84 ?_
  refine go_S3 d_Mo_depth_6 k_Mo_86 (Nat.le_of_ble_eq_true rfl) (c_Mo_in (l := 0) (h := 3) rfl rfl (fun b1 k1 z1 => ?_))
  refine go_if_ne 14 d_Mo_depth_9 rfl (fun h9 => ?_) (fun h9 => ?_)
  · obtain ⟨k, hk, rfl⟩ := m4' (k1.mp h9)
    refine go_aload_n 0 d_Mo_depth_14 rfl rfl ?_
    refine go_getR d_Mo_depth_15 f_Mo_7 (by assumption) (by assumption) ?_
    refine go_iconst (v := 0) d_Mo_depth_18 rfl ?_
    refine go_iald (0) d_Mo_depth_19 (by assumption) (rfl) (by decide) (by decide) ?_
    refine go_if_ne 27 d_Mo_depth_20 rfl (fun h20 => ?_) (fun h20 => ?_)
    · refine go_iconst (v := 1) d_Mo_depth_27 rfl ?_
      refine go_istore_n 2 d_Mo_depth_28 rfl (Nat.le_of_ble_eq_true rfl) ?_
      exact two k _ _ _ _ _ hk rfl (by rw [dp_v0]; first | (rw [if_pos ((z0 _ l0).mp (g0.symm.trans h20))]; rfl) | (rw [if_neg (fun hh => h20 (g0.trans ((z0 _ l0).mpr hh)))]; rfl))
    · refine go_iconst (v := 0) d_Mo_depth_23 rfl ?_
      refine go_goto 28 d_Mo_depth_24 rfl ?_
      refine go_istore_n 2 d_Mo_depth_28 rfl (Nat.le_of_ble_eq_true rfl) ?_
      exact two k _ _ _ _ _ hk rfl (by rw [dp_v0]; first | (rw [if_pos ((z0 _ l0).mp (g0.symm.trans h20))]; rfl) | (rw [if_neg (fun hh => h20 (g0.trans ((z0 _ l0).mpr hh)))]; rfl))
  · refine go_iconst (v := (-1)) d_Mo_depth_12 rfl ?_
    exact go_iret d_Mo_depth_13 rfl (hf (fun ⟨k', q1, q2⟩ => k1.mpr (by rw [q2]; exact m4 q1) h9))
end MO
