/-! the reference: findBounds -/
def sp_f (B E : sp_E) (a b : Nat) : Nat → Option Int
  | 0 => B a b
  | x + 1 => sp_min (sp_f B E a b x) (sp_plus (B a x) (E x b))
theorem sp_f_0 {B E : sp_E} {a b : Nat} {v : Int} (h : B a b = some v) : ∀ n, ∃ m, sp_f B E a b n = some m ∧ m ≤ v
  | 0 => ⟨v, h, Int.le_refl _⟩
  | n + 1 => by
    obtain ⟨m, hm, hle⟩ := sp_f_0 h n
    obtain ⟨m', hm', hle'⟩ := sp_min_left (z := sp_plus (B a n) (E n b)) hm
    exact ⟨m', hm', by omega⟩
theorem sp_f_x {B E : sp_E} {a b x : Nat} {u v : Int} (hu : B a x = some u) (hv : E x b = some v) : ∀ n, x < n → ∃ m, sp_f B E a b n = some m ∧ m ≤ u + v
  | 0, h => by omega
  | n + 1, h => by
    by_cases hx : x = n
    · subst hx
      exact sp_min_right (by rw [hu, hv]; rfl)
    · obtain ⟨m, hm, hle⟩ := sp_f_x hu hv n (by omega)
      obtain ⟨m', hm', hle'⟩ := sp_min_left (z := sp_plus (B a n) (E n b)) hm
      exact ⟨m', hm', by omega⟩
theorem sp_f_of {B E : sp_E} {a b : Nat} : ∀ (n : Nat) {m : Int}, sp_f B E a b n = some m → B a b = some m ∨ ∃ x u v, x < n ∧ B a x = some u ∧ E x b = some v ∧ m = u + v
  | 0, m, h => Or.inl h
  | n + 1, m, h => by
    rcases (sp_min_some h).1 with h1 | h1
    · rcases sp_f_of n h1 with h2 | ⟨x, u, v, h2, h3⟩
      · exact Or.inl h2
      · exact Or.inr ⟨x, u, v, by omega, h3⟩
    · obtain ⟨u, v, h2, h3, h4⟩ := sp_plus_some h1
      exact Or.inr ⟨n, u, v, by omega, h2, h3, h4⟩
theorem sp_M_step {B E : sp_E} {t a b : Nat} (hB : ∀ a b, a < 5 → b < 5 → sp_M E t a b (B a b)) (ha : a < 5) (hb : b < 5) : sp_M E (t + 1) a b (sp_f B E a b 5) := by
  have hwalk : ∀ (k : Nat) (w : Int), k ≤ t + 1 → sp_W E k a b w → ∃ m, sp_f B E a b 5 = some m ∧ m ≤ w := by
    intro k w hk hw
    by_cases hkt : k ≤ t
    · have h1 := hB a b ha hb
      cases hc : B a b with
      | none => rw [hc] at h1; exact absurd hw (h1 k w hkt)
      | some v =>
        rw [hc] at h1
        obtain ⟨m, hm, hle⟩ := sp_f_0 (E := E) hc 5
        exact ⟨m, hm, by have := h1.2 k w hkt hw; omega⟩
    · have : k = t + 1 := by omega
      subst this
      obtain ⟨x, u, v, hx, -, hu, hv, rfl⟩ := hw
      have h1 := hB a x ha hx
      cases hc : B a x with
      | none => rw [hc] at h1; exact absurd hu (h1 t u (Nat.le_refl _))
      | some u' =>
        rw [hc] at h1
        obtain ⟨m, hm, hle⟩ := sp_f_x hc hv 5 hx
        exact ⟨m, hm, by have := h1.2 t u (Nat.le_refl _) hu; omega⟩
  cases hf : sp_f B E a b 5 with
  | none =>
    intro k w hk hw
    obtain ⟨m, hm, -⟩ := hwalk k w hk hw
    rw [hf] at hm
    cases hm
  | some m =>
    refine ⟨?_, fun k w hk hw => ?_⟩
    · rcases sp_f_of 5 hf with h1 | ⟨x, u, v, hx, hu, hv, hm⟩
      · have h2 := hB a b ha hb
        rw [h1] at h2
        obtain ⟨k, hk, hw⟩ := h2.1
        exact ⟨k, by omega, hw⟩
      · have h2 := hB a x ha hx
        rw [hu] at h2
        obtain ⟨k, hk, hw⟩ := h2.1
        exact ⟨k + 1, by omega, x, u, v, hx, hb, hw, hv, hm⟩
    · obtain ⟨m', hm', hle⟩ := hwalk k w hk hw
      rw [hf] at hm'
      cases hm'
      exact hle
def sp_1 (E : sp_E) : sp_E := fun a b => if a = b then sp_min (some 0) (E a b) else E a b
theorem sp_W_1 {E : sp_E} {a b : Nat} {w : Int} (h : sp_W E 1 a b w) : E a b = some w := by
  obtain ⟨x, u, v, hx, hb, ⟨rfl, -, rfl⟩, hv, rfl⟩ := h
  rw [hv, Int.zero_add]
theorem sp_M_1 {E : sp_E} {a b : Nat} (ha : a < 5) (hb : b < 5) : sp_M E 1 a b (sp_1 E a b) := by
  unfold sp_1
  by_cases hab : a = b
  · subst hab
    rw [if_pos rfl]
    obtain ⟨m, hm, hle⟩ := sp_min_left (z := E a a) (rfl : some (0 : Int) = some 0)
    rw [hm]
    obtain ⟨h1, h2, h3⟩ := sp_min_some hm
    refine ⟨?_, fun k w hk hw => ?_⟩
    · rcases h1 with h1 | h1
      · cases h1
        exact ⟨0, by omega, rfl, ha, rfl⟩
      · exact ⟨1, by omega, sp_W_one ha ha h1⟩
    · rcases (show k = 0 ∨ k = 1 by omega) with rfl | rfl
      · obtain ⟨-, -, rfl⟩ := hw
        exact hle
      · exact h3 w (sp_W_1 hw)
  · rw [if_neg hab]
    cases hE : E a b with
    | none =>
      intro k w hk hw
      rcases (show k = 0 ∨ k = 1 by omega) with rfl | rfl
      · exact hab hw.1
      · rw [sp_W_1 hw] at hE; cases hE
    | some v =>
      refine ⟨⟨1, by omega, sp_W_one ha hb hE⟩, fun k w hk hw => ?_⟩
      rcases (show k = 0 ∨ k = 1 by omega) with rfl | rfl
      · exact absurd hw.1 hab
      · have := sp_W_1 hw
        rw [hE] at this
        cases this
        exact Int.le_refl _
theorem mo_min {p q : Option Int} (hp : ∀ x, p = some x → kn_s x) (hq : ∀ x, q = some x → kn_s x) : (if mo_e p < mo_e q then mo_e p else mo_e q) = mo_e (sp_min p q) := by
  cases p with
  | none =>
    rw [if_neg]
    · rfl
    · cases q with
      | none => decide
      | some x =>
        show ¬ (1000000000000000 : Int64) < Int64.ofInt x
        rw [Int64.lt_iff_toInt_lt, kn_i (hq x rfl), mo_far]
        have := (hq x rfl).2
        omega
  | some x => cases q with
    | none =>
      rw [if_pos (show mo_e (some x) < mo_e none from (mo_lt hp).mpr ⟨x, rfl⟩)]
      rfl
    | some z =>
      show (if Int64.ofInt x < Int64.ofInt z then Int64.ofInt x else Int64.ofInt z) = Int64.ofInt (if z < x then z else x)
      by_cases h : x < z
      · rw [if_pos ((kn_lt (hp x rfl) (hq z rfl)).mpr h), if_neg (by omega)]
      · rw [if_neg (fun hh => h ((kn_lt (hp x rfl) (hq z rfl)).mp hh))]
        by_cases h2 : z < x
        · rw [if_pos h2]
        · rw [if_neg h2, show x = z by omega]
section MO
variable {d n : Nat} {sh : Nat → Nat × Nat} {X : Nat × (Nat → Int32)} {R : Nat → Nat → Option Nat} {I : Nat → Nat → Int32} {L : Nat → Nat → Int64} {Q : Option Value → gw_Mem → Prop}
theorem c_Mo_findBounds {r : Nat} {E : sp_E} (hp : pt_Mo sh R) (hr : r < 42) (hE : me_tab (L 549) (104 * r + 24) E) (hbd : ∀ a b v, E a b = some v → -100000000000 ≤ v ∧ v ≤ 100000000000) (hQ : ∀ (L' : Nat → Nat → Int64) (b : Int32) (M : sp_E), (∀ a b, a < 5 → b < 5 → sp_M E 5 a b (M a b)) → (∀ a b, a < 5 → b < 5 → L' 550 (5 * a + b) = mo_e (M a b)) → (b ≠ 0 ↔ ∀ a m, a < 5 → M a a = some m → 0 ≤ m) → (b = 0 ∨ b = 1) → (∀ q, q ≠ 550 → q ≠ 551 → L' q = L q) → Q (some (.int b)) (n, sh, X, R, I, L')) : gw_Call y_Mo_findBounds (d + 1) 0 0 [.ref 533, .int (nI r)] (n, sh, X, R, I, L) Q := by
  obtain ⟨s533, s534, s535, s536, s537, s538, s539, s540, s541, s542, s543, s544, s545, s546, s547, s548, s549, s550, s551, s552, s553, s554, s555, s556, s557, r534, r535, r536, r537, r538, r539, r540, r541, r542, r543, r544, r545, r546, r547, r548, r549, r550, r551, r552, r553, r554, r555, r556, r557⟩ := hp
  have hs : ∀ a b v, E a b = some v → kn_s v := fun a b v h => by have := hbd a b v h; exact ⟨by omega, by omega⟩
  have hMs : ∀ t a b v, t ≤ 5 → sp_M E t a b (some v) → -500000000000 ≤ v ∧ v ≤ 500000000000 := fun t a b v ht h => by
    obtain ⟨⟨k, hk, hw⟩, -⟩ := h
    have := kn_wbd hbd hw
    have hk5 : (k : Int) ≤ 5 := by omega
    omega
  refine gw_call o_Mo_findBounds (Nat.le_of_ble_eq_true rfl) ?_
  -- the last loop
  have last : ∀ (B : sp_E), (∀ a b, a < 5 → b < 5 → sp_M E 5 a b (B a b)) → ∀ (w a : Nat) (x g : Int32) (L1 : Nat → Nat → Int64) (o5 o6 o7 o8 o9 : Option Value), x = nI a → a + w = 5 → (g = 0 ∨ g = 1) → (g ≠ 0 ↔ ∀ j m, j < a → B j j = some m → 0 ≤ m) → (∀ a b, a < 5 → b < 5 → L1 550 (5 * a + b) = mo_e (B a b)) → (∀ q, q ≠ 550 → q ≠ 551 → L1 q = L q) → gw_Go y_Mo_findBounds (d + 1) 0 0 225 [some (.ref 533), some (.int (nI r)), some (.int (nI (104 * r + 24))), some (.int g), some (.int x), o5, o6, o7, o8, o9] [] (n, sh, X, R, I, L1) Q := by
    intro B hB w
    induction w with
    | zero =>
      intro a x g L1 o5 o6 o7 o8 o9 hx ha hg hg2 hL hfr
      have h5 : a = 5 := by omega
      subst h5
      refine go_iload d_Mo_findBounds_225 rfl ?_
      refine go_iconst (v := 5) d_Mo_findBounds_227 rfl ?_
      refine go_icmp_ge 262 d_Mo_findBounds_228 rfl (fun _ => ?_) (fun hn => absurd (by rw [hx]; decide) hn)
      refine go_iload_n 3 d_Mo_findBounds_262 rfl rfl ?_
      exact go_zret d_Mo_findBounds_263 rfl (hg) (hQ L1 g B hB hL (hg2.trans ⟨fun h a m ha => h a m ha, fun h a m ha => h a m ha⟩) hg hfr)
    | succ w ih =>
      intro a x g L1 o5 o6 o7 o8 o9 hx ha hg hg2 hL hfr
      have ha5 : a < 5 := by omega
      have hB1 := hB a a ha5 ha5
      obtain ⟨m, hm⟩ : ∃ m, B a a = some m := by
        cases hc : B a a with
        | none => rw [hc] at hB1; exact absurd ⟨rfl, ha5, rfl⟩ (hB1 0 0 (by omega))
        | some m => exact ⟨m, rfl⟩
      have hm0 : L1 550 (6 * a) = Int64.ofInt m := by rw [show 6 * a = 5 * a + a by omega, hL a a ha5 ha5, hm]; rfl
      have hms : kn_s m := by rw [hm] at hB1; have := hMs 5 a a m (by omega) hB1; exact ⟨by omega, by omega⟩
      have hneg : L1 550 (6 * a) < 0 ↔ m < 0 := by rw [hm0]; exact kn_lt (z := 0) hms ⟨by omega, by omega⟩
      refine go_iload d_Mo_findBounds_225 rfl ?_
      refine go_iconst (v := 5) d_Mo_findBounds_227 rfl ?_
      refine go_icmp_ge 262 d_Mo_findBounds_228 rfl (fun hn => absurd hn (by rw [hx]; exact nI_ge (b := 5) (by omega) (by decide))) (fun _ => ?_)
      refine go_iload_n 3 d_Mo_findBounds_231 rfl rfl ?_
      refine go_if_eq 254 d_Mo_findBounds_232 rfl (fun h232 => ?_) (fun h232 => ?_)
      · refine go_iconst (v := 0) d_Mo_findBounds_254 rfl ?_
        refine go_istore_n 3 d_Mo_findBounds_255 rfl (Nat.le_of_ble_eq_true rfl) ?_
        refine go_iinc d_Mo_findBounds_256 rfl rfl (Nat.le_of_ble_eq_true rfl) ?_
        refine go_goto 225 d_Mo_findBounds_259 rfl ?_
        exact ih (a + 1) _ _ L1 _ _ _ _ _ (gw_inc hx) (by omega) (by first | exact Or.inl rfl | exact Or.inr rfl) (by first | exact ⟨fun h => absurd rfl h, fun h => absurd h232 (hg2.mpr (fun j m' hj => h j m' (by omega)))⟩ | exact ⟨fun h => absurd rfl h, fun h => absurd (h a m (by omega) hm) (by have := hneg.mp h246; omega)⟩ | exact ⟨fun _ j m' hj hm' => by (by_cases he : j = a; (subst he; rw [hm] at hm'; cases hm'; exact Int.not_lt.mp (fun h => h246 (hneg.mpr h))); exact hg2.mp h232 j m' (by omega) hm'), fun _ => by decide⟩) hL hfr
      · refine go_aload_n 0 d_Mo_findBounds_235 rfl rfl ?_
        refine go_getR d_Mo_findBounds_236 f_Mo_60 (by assumption) (by assumption) ?_
        refine go_bipush (v := 6) d_Mo_findBounds_239 rfl ?_
        refine go_iload d_Mo_findBounds_241 rfl ?_
        refine go_imul d_Mo_findBounds_243 ?_
        refine go_lald (6 * a) d_Mo_findBounds_244 (by assumption) (by rw [hx]; exact nI_mul 6 a) (by omega) (by decide) ?_
        refine go_lconst (v := 0) d_Mo_findBounds_245 rfl ?_
        refine go_lcmp_lt 254 d_Mo_findBounds_246 d_Mo_findBounds_247 rfl (fun h246 => ?_) (fun h246 => ?_)
        · refine go_iconst (v := 0) d_Mo_findBounds_254 rfl ?_
          refine go_istore_n 3 d_Mo_findBounds_255 rfl (Nat.le_of_ble_eq_true rfl) ?_
          refine go_iinc d_Mo_findBounds_256 rfl rfl (Nat.le_of_ble_eq_true rfl) ?_
          refine go_goto 225 d_Mo_findBounds_259 rfl ?_
          exact ih (a + 1) _ _ L1 _ _ _ _ _ (gw_inc hx) (by omega) (by first | exact Or.inl rfl | exact Or.inr rfl) (by first | exact ⟨fun h => absurd rfl h, fun h => absurd h232 (hg2.mpr (fun j m' hj => h j m' (by omega)))⟩ | exact ⟨fun h => absurd rfl h, fun h => absurd (h a m (by omega) hm) (by have := hneg.mp h246; omega)⟩ | exact ⟨fun _ j m' hj hm' => by (by_cases he : j = a; (subst he; rw [hm] at hm'; cases hm'; exact Int.not_lt.mp (fun h => h246 (hneg.mpr h))); exact hg2.mp h232 j m' (by omega) hm'), fun _ => by decide⟩) hL hfr
        · refine go_iconst (v := 1) d_Mo_findBounds_250 rfl ?_
          refine go_goto 255 d_Mo_findBounds_251 rfl ?_
          refine go_istore_n 3 d_Mo_findBounds_255 rfl (Nat.le_of_ble_eq_true rfl) ?_
          refine go_iinc d_Mo_findBounds_256 rfl rfl (Nat.le_of_ble_eq_true rfl) ?_
          refine go_goto 225 d_Mo_findBounds_259 rfl ?_
          exact ih (a + 1) _ _ L1 _ _ _ _ _ (gw_inc hx) (by omega) (by first | exact Or.inl rfl | exact Or.inr rfl) (by first | exact ⟨fun h => absurd rfl h, fun h => absurd h232 (hg2.mpr (fun j m' hj => h j m' (by omega)))⟩ | exact ⟨fun h => absurd rfl h, fun h => absurd (h a m (by omega) hm) (by have := hneg.mp h246; omega)⟩ | exact ⟨fun _ j m' hj hm' => by (by_cases he : j = a; (subst he; rw [hm] at hm'; cases hm'; exact Int.not_lt.mp (fun h => h246 (hneg.mpr h))); exact hg2.mp h232 j m' (by omega) hm'), fun _ => by decide⟩) hL hfr
  -- copying back
  have copy : ∀ (t : Nat) (B' : sp_E) (L0 : Nat → Nat → Int64), (∀ (L1 : Nat → Nat → Int64) (x : Int32) (o4 o5 o6 o7 o8 o9 : Option Value), x = nI (t + 1) → (∀ a b, a < 5 → b < 5 → L1 550 (5 * a + b) = mo_e (B' a b)) → (∀ q, q ≠ 550 → q ≠ 551 → L1 q = L q) → gw_Go y_Mo_findBounds (d + 1) 0 0 60 [some (.ref 533), some (.int (nI r)), some (.int (nI (104 * r + 24))), some (.int x), o4, o5, o6, o7, o8, o9] [] (n, sh, X, R, I, L1) Q) → (∀ a b, a < 5 → b < 5 → L0 551 (5 * a + b) = mo_e (B' a b)) → ∀ (w k : Nat) (x : Int32) (L1 : Nat → Nat → Int64) (o5 o6 o7 o8 o9 : Option Value), x = nI k → k + w = 25 → (∀ j, j < k → L1 550 j = L0 551 j) → L1 551 = L0 551 → (∀ q, q ≠ 550 → q ≠ 551 → L1 q = L q) → gw_Go y_Mo_findBounds (d + 1) 0 0 187 [some (.ref 533), some (.int (nI r)), some (.int (nI (104 * r + 24))), some (.int (nI t)), some (.int x), o5, o6, o7, o8, o9] [] (n, sh, X, R, I, L1) Q := by
    intro t B' L0 next hL0 w
    induction w with
    | zero =>
      intro k x L1 o5 o6 o7 o8 o9 hx hk h1 h2 hfr
      have h25 : k = 25 := by omega
      subst h25
      refine go_iload d_Mo_findBounds_187 rfl ?_
      refine go_bipush (v := 25) d_Mo_findBounds_189 rfl ?_
      refine go_icmp_ge 214 d_Mo_findBounds_191 rfl (fun _ => ?_) (fun hn => absurd (by rw [hx]; decide) hn)
      refine go_iinc d_Mo_findBounds_214 rfl rfl (Nat.le_of_ble_eq_true rfl) ?_
      refine go_goto 60 d_Mo_findBounds_217 rfl ?_
      exact next L1 _ _ _ _ _ _ _ (gw_inc rfl) (fun a b ha hb => by rw [h1 _ (by omega)]; exact hL0 a b ha hb) hfr
    | succ w ih =>
      intro k x L1 o5 o6 o7 o8 o9 hx hk h1 h2 hfr
      refine go_iload d_Mo_findBounds_187 rfl ?_
      refine go_bipush (v := 25) d_Mo_findBounds_189 rfl ?_
      refine go_icmp_ge 214 d_Mo_findBounds_191 rfl (fun hn => absurd hn (by rw [hx]; exact nI_ge (b := 25) (by omega) (by decide))) (fun _ => ?_)
      refine go_aload_n 0 d_Mo_findBounds_194 rfl rfl ?_
      refine go_getR d_Mo_findBounds_195 f_Mo_60 (by assumption) (by assumption) ?_
      refine go_iload d_Mo_findBounds_198 rfl ?_
      refine go_aload_n 0 d_Mo_findBounds_200 rfl rfl ?_
      refine go_getR d_Mo_findBounds_201 f_Mo_63 (by assumption) (by assumption) ?_
      refine go_iload d_Mo_findBounds_204 rfl ?_
      refine go_lald (k) d_Mo_findBounds_206 (by assumption) (hx) (by omega) (by decide) ?_
      refine go_last (k) d_Mo_findBounds_207 (by assumption) (hx) (by omega) (by decide) ?_
      refine go_iinc d_Mo_findBounds_208 rfl rfl (Nat.le_of_ble_eq_true rfl) ?_
      refine go_goto 187 d_Mo_findBounds_211 rfl ?_
      exact ih (k + 1) _ _ _ _ _ _ _ (gw_inc hx) (by omega) (fun j hj => by by_cases he : j = k; (subst he; rw [up2_eq, h2]); (rw [up2_ne (Or.inr he)]; exact h1 j (by omega))) (by rw [gw_up_ne (by decide)]; exact h2) (fun q a b => by rw [gw_up_ne a]; exact hfr q a b)
  -- the rounds
  have rounds : ∀ (w t : Nat) (B : sp_E) (x : Int32) (L1 : Nat → Nat → Int64) (o4 o5 o6 o7 o8 o9 : Option Value), x = nI t → t + w = 4 → (∀ a b, a < 5 → b < 5 → sp_M E (t + 1) a b (B a b)) → (∀ a b, a < 5 → b < 5 → L1 550 (5 * a + b) = mo_e (B a b)) → (∀ q, q ≠ 550 → q ≠ 551 → L1 q = L q) → gw_Go y_Mo_findBounds (d + 1) 0 0 60 [some (.ref 533), some (.int (nI r)), some (.int (nI (104 * r + 24))), some (.int x), o4, o5, o6, o7, o8, o9] [] (n, sh, X, R, I, L1) Q := by
    intro w
    induction w with
    | zero =>
      intro t B x L1 o4 o5 o6 o7 o8 o9 hx ht hB hL hfr
      have h4 : t = 4 := by omega
      subst h4
      refine go_iload_n 3 d_Mo_findBounds_60 rfl rfl ?_
      refine go_iconst (v := 4) d_Mo_findBounds_61 rfl ?_
      refine go_icmp_ge 220 d_Mo_findBounds_62 rfl (fun _ => ?_) (fun hn => absurd (by rw [hx]; decide) hn)
      refine go_iconst (v := 1) d_Mo_findBounds_220 rfl ?_
      refine go_istore_n 3 d_Mo_findBounds_221 rfl (Nat.le_of_ble_eq_true rfl) ?_
      refine go_iconst (v := 0) d_Mo_findBounds_222 rfl ?_
      refine go_istore d_Mo_findBounds_223 (Nat.le_of_ble_eq_true rfl) ?_
      exact last B hB 5 0 _ _ L1 _ _ _ _ _ rfl rfl (Or.inr rfl) ⟨fun _ j m hj => by omega, fun _ => by decide⟩ hL hfr
    | succ w ihw =>
      intro t B x L1 o4 o5 o6 o7 o8 o9 hx ht hB hL hfr
      subst hx
      have hBs : ∀ a b v, a < 5 → b < 5 → B a b = some v → -500000000000 ≤ v ∧ v ≤ 500000000000 := fun a b v ha hb h => by have := hB a b ha hb; rw [h] at this; exact hMs (t + 1) a b v (by omega) this
      have hfs : ∀ a b x v, a < 5 → b < 5 → x ≤ 5 → sp_f B E a b x = some v → kn_s v := fun a b x v ha hb hx h => by
        rcases sp_f_of x h with h1 | ⟨z, u, u', hz, h1, h2, rfl⟩
        · have := hBs a b v ha hb h1
          exact ⟨by omega, by omega⟩
        · have q1 := hBs a z u ha (by omega) h1
          have q2 := hbd z b u' h2
          exact ⟨by omega, by omega⟩
      -- the entries of a round
      have ent : ∀ (v k : Nat) (x : Int32) (L2 : Nat → Nat → Int64) (o5 o6 o7 o8 o9 : Option Value), x = nI k → k + v = 25 → (∀ j, j < k → L2 551 j = mo_e (sp_f B E (j / 5) (j % 5) 5)) → L2 550 = L1 550 → (∀ q, q ≠ 550 → q ≠ 551 → L2 q = L q) → gw_Go y_Mo_findBounds (d + 1) 0 0 68 [some (.ref 533), some (.int (nI r)), some (.int (nI (104 * r + 24))), some (.int (nI t)), some (.int x), o5, o6, o7, o8, o9] [] (n, sh, X, R, I, L2) Q := by
        intro v
        induction v with
        | zero =>
          intro k x L2 o5 o6 o7 o8 o9 hx hk h1 h2 hfr2
          have h25 : k = 25 := by omega
          subst h25
          refine go_iload d_Mo_findBounds_68 rfl ?_
          refine go_bipush (v := 25) d_Mo_findBounds_70 rfl ?_
          refine go_icmp_ge 184 d_Mo_findBounds_72 rfl (fun _ => ?_) (fun hn => absurd (by rw [hx]; decide) hn)
          refine go_iconst (v := 0) d_Mo_findBounds_184 rfl ?_
          refine go_istore d_Mo_findBounds_185 (Nat.le_of_ble_eq_true rfl) ?_
          exact copy t (fun a b => sp_f B E a b 5) L2 (fun L3 y p4 p5 p6 p7 p8 p9 hy e1 e2 => ihw (t + 1) (fun a b => sp_f B E a b 5) y L3 p4 p5 p6 p7 p8 p9 hy (by omega) (fun a b ha hb => sp_M_step hB ha hb) e1 e2) (fun a b ha hb => by rw [h1 _ (by omega), show (5 * a + b) / 5 = a by omega, show (5 * a + b) % 5 = b by omega]) 25 0 _ L2 _ _ _ _ _ rfl rfl (fun j hj => by omega) rfl hfr2
        | succ v ihv =>
          intro k x L2 o5 o6 o7 o8 o9 hx hk h1 h2 hfr2
          subst hx
          have hk5 : k / 5 < 5 := by omega
          have hkm : k % 5 < 5 := by omega
          have ekd : nI k / 5 = nI (k / 5) := pk_div (d := 5) (by omega) (by decide) (by decide)
          have ekm : nI k - nI k / 5 * 5 = nI (k % 5) := pk_rem (d := 5) (by omega) (by decide) (by decide)
          -- one entry
          have edge : ∀ (u y : Nat) (z : Int32) (L3 : Nat → Nat → Int64) (p6 p7 p8 p9 : Option Value), z = nI y → y + u = 5 → L3 551 k = mo_e (sp_f B E (k / 5) (k % 5) y) → (∀ j, j < k → L3 551 j = mo_e (sp_f B E (j / 5) (j % 5) 5)) → L3 550 = L1 550 → (∀ q, q ≠ 550 → q ≠ 551 → L3 q = L q) → gw_Go y_Mo_findBounds (d + 1) 0 0 92 [some (.ref 533), some (.int (nI r)), some (.int (nI (104 * r + 24))), some (.int (nI t)), some (.int (nI k)), some (.int z), p6, p7, p8, p9] [] (n, sh, X, R, I, L3) Q := by
            intro u
            induction u with
            | zero =>
              intro y z L3 p6 p7 p8 p9 hz hy g1 g2 g3 g4
              have h5 : y = 5 := by omega
              subst h5
              refine go_iload d_Mo_findBounds_92 rfl ?_
              refine go_iconst (v := 5) d_Mo_findBounds_94 rfl ?_
              refine go_icmp_ge 178 d_Mo_findBounds_95 rfl (fun _ => ?_) (fun hn => absurd (by rw [hz]; decide) hn)
              refine go_iinc d_Mo_findBounds_178 rfl rfl (Nat.le_of_ble_eq_true rfl) ?_
              refine go_goto 68 d_Mo_findBounds_181 rfl ?_
              exact ihv (k + 1) _ L3 _ _ _ _ _ (gw_inc rfl) (by omega) (fun j hj => by by_cases he : j = k; (subst he; exact g1); exact g2 j (by omega)) g3 g4
            | succ u ihu =>
              intro y z L3 p6 p7 p8 p9 hz hy g1 g2 g3 g4
              have hy5 : y < 5 := by omega
              have e1 : L3 550 (5 * (k / 5) + y) = mo_e (B (k / 5) y) := by rw [g3]; exact hL _ _ hk5 hy5
              have e2 : L3 549 (104 * r + 24 + 5 * y + k % 5) = mo_e (E y (k % 5)) := by rw [g4 _ (by decide) (by decide)]; exact hE _ _ hy5 hkm
              have q1 : ∀ x, B (k / 5) y = some x → kn_s x := fun x h => by have := hBs _ _ x hk5 hy5 h; exact ⟨by omega, by omega⟩
              have q2 : ∀ x, E y (k % 5) = some x → kn_s x := fun x h => hs _ _ x h
              have q3 : ∀ x, sp_f B E (k / 5) (k % 5) y = some x → kn_s x := fun x h => hfs _ _ y x hk5 hkm (by omega) h
              have q4 : ∀ x, sp_f B E (k / 5) (k % 5) (y + 1) = some x → kn_s x := fun x h => hfs _ _ (y + 1) x hk5 hkm (by omega) h
              refine go_iload d_Mo_findBounds_92 rfl ?_
              refine go_iconst (v := 5) d_Mo_findBounds_94 rfl ?_
              refine go_icmp_ge 178 d_Mo_findBounds_95 rfl (fun hn => absurd hn (by rw [hz]; exact nI_ge (b := 5) (by omega) (by decide))) (fun _ => ?_)
              refine go_aload_n 0 d_Mo_findBounds_98 rfl rfl ?_
              refine go_getR d_Mo_findBounds_99 f_Mo_60 (by assumption) (by assumption) ?_
              refine go_iconst (v := 5) d_Mo_findBounds_102 rfl ?_
              refine go_iload d_Mo_findBounds_103 rfl ?_
              refine go_iconst (v := 5) d_Mo_findBounds_105 rfl ?_
              refine go_idiv d_Mo_findBounds_106 (by decide) ?_
              refine go_imul d_Mo_findBounds_107 ?_
              refine go_iload d_Mo_findBounds_108 rfl ?_
              refine go_iadd d_Mo_findBounds_110 ?_
              refine go_lald (5 * (k / 5) + y) d_Mo_findBounds_111 (by assumption) (by rw [hz, ekd]; exact ix (a := 5)) (by omega) (by decide) ?_
              rw [e1]
              refine go_lstore d_Mo_findBounds_112 (Nat.le_of_ble_eq_true rfl) ?_
              refine go_aload_n 0 d_Mo_findBounds_114 rfl rfl ?_
              refine go_getR d_Mo_findBounds_115 f_Mo_56 (by assumption) (by assumption) ?_
              refine go_iload_n 2 d_Mo_findBounds_118 rfl rfl ?_
              refine go_iconst (v := 5) d_Mo_findBounds_119 rfl ?_
              refine go_iload d_Mo_findBounds_120 rfl ?_
              refine go_imul d_Mo_findBounds_122 ?_
              refine go_iadd d_Mo_findBounds_123 ?_
              refine go_iload d_Mo_findBounds_124 rfl ?_
              refine go_iconst (v := 5) d_Mo_findBounds_126 rfl ?_
              refine go_irem d_Mo_findBounds_127 (by decide) ?_
              refine go_iadd d_Mo_findBounds_128 ?_
              refine go_lald (104 * r + 24 + 5 * y + k % 5) d_Mo_findBounds_129 (by assumption) (by rw [hz, ekm, show (5 : Int32) * nI y = nI (5 * y) from nI_mul 5 y, nI_add, nI_add]) (by omega) (by decide) ?_
              rw [e2]
              refine go_lstore d_Mo_findBounds_130 (Nat.le_of_ble_eq_true rfl) ?_
              refine go_lload d_Mo_findBounds_132 rfl ?_
              refine go_ldc2 d_Mo_findBounds_134 i_Mo_124 ?_
              refine go_lcmp_ge 172 d_Mo_findBounds_137 d_Mo_findBounds_138 rfl (fun h137 => ?_) (fun h137 => ?_)
              · refine go_iinc d_Mo_findBounds_172 rfl rfl (Nat.le_of_ble_eq_true rfl) ?_
                refine go_goto 92 d_Mo_findBounds_175 rfl ?_
                exact (by first | (obtain ⟨x1, hx1⟩ := (mo_lt q1).mp (by first | exact h137 | exact Int64.not_le.mp h137); obtain ⟨x2, hx2⟩ := (mo_lt q2).mp (by first | exact h146 | exact Int64.not_le.mp h146); have ep : mo_e (B (k / 5) y) + mo_e (E y (k % 5)) = mo_e (sp_plus (B (k / 5) y) (E y (k % 5))) := (by rw [hx1, hx2]; exact kn_add x1 x2); have eps : ∀ x, sp_plus (B (k / 5) y) (E y (k % 5)) = some x → kn_s x := (fun x h => by rw [hx1, hx2] at h; cases h; have w1 := hBs _ _ x1 hk5 hy5 hx1; have w2 := hbd _ _ x2 hx2; exact ⟨by omega, by omega⟩); exact ihu (y + 1) _ _ _ _ _ _ (gw_inc hz) (by omega) (by rw [up2_eq, ep, mo_min q3 eps]; rfl) (fun j hj => by rw [up2_ne (Or.inr (by omega))]; exact g2 j hj) (by rw [gw_up_ne (by decide)]; exact g3) (fun q a b => by rw [gw_up_ne b]; exact g4 q a b)) | (have e0 : sp_plus (B (k / 5) y) (E y (k % 5)) = none := (by first | (cases hb : B (k / 5) y with | none => rfl | some w => exact absurd ((mo_lt q1).mpr ⟨w, hb⟩) (by first | exact h137 | exact Int64.not_lt.mpr h137)) | (cases hb : E y (k % 5) with | none => (cases B (k / 5) y <;> rfl) | some w => exact absurd ((mo_lt q2).mpr ⟨w, hb⟩) (by first | exact h146 | exact Int64.not_lt.mpr h146))); exact ihu (y + 1) _ L3 _ _ _ _ (gw_inc hz) (by omega) (by rw [g1]; show _ = mo_e (sp_min _ _); rw [e0]; cases sp_f B E (k / 5) (k % 5) y <;> rfl) g2 g3 g4))
              · refine go_lload d_Mo_findBounds_141 rfl ?_
                refine go_ldc2 d_Mo_findBounds_143 i_Mo_124 ?_
                refine go_lcmp_ge 172 d_Mo_findBounds_146 d_Mo_findBounds_147 rfl (fun h146 => ?_) (fun h146 => ?_)
                · refine go_iinc d_Mo_findBounds_172 rfl rfl (Nat.le_of_ble_eq_true rfl) ?_
                  refine go_goto 92 d_Mo_findBounds_175 rfl ?_
                  exact (by first | (obtain ⟨x1, hx1⟩ := (mo_lt q1).mp (by first | exact h137 | exact Int64.not_le.mp h137); obtain ⟨x2, hx2⟩ := (mo_lt q2).mp (by first | exact h146 | exact Int64.not_le.mp h146); have ep : mo_e (B (k / 5) y) + mo_e (E y (k % 5)) = mo_e (sp_plus (B (k / 5) y) (E y (k % 5))) := (by rw [hx1, hx2]; exact kn_add x1 x2); have eps : ∀ x, sp_plus (B (k / 5) y) (E y (k % 5)) = some x → kn_s x := (fun x h => by rw [hx1, hx2] at h; cases h; have w1 := hBs _ _ x1 hk5 hy5 hx1; have w2 := hbd _ _ x2 hx2; exact ⟨by omega, by omega⟩); exact ihu (y + 1) _ _ _ _ _ _ (gw_inc hz) (by omega) (by rw [up2_eq, ep, mo_min q3 eps]; rfl) (fun j hj => by rw [up2_ne (Or.inr (by omega))]; exact g2 j hj) (by rw [gw_up_ne (by decide)]; exact g3) (fun q a b => by rw [gw_up_ne b]; exact g4 q a b)) | (have e0 : sp_plus (B (k / 5) y) (E y (k % 5)) = none := (by first | (cases hb : B (k / 5) y with | none => rfl | some w => exact absurd ((mo_lt q1).mpr ⟨w, hb⟩) (by first | exact h137 | exact Int64.not_lt.mpr h137)) | (cases hb : E y (k % 5) with | none => (cases B (k / 5) y <;> rfl) | some w => exact absurd ((mo_lt q2).mpr ⟨w, hb⟩) (by first | exact h146 | exact Int64.not_lt.mpr h146))); exact ihu (y + 1) _ L3 _ _ _ _ (gw_inc hz) (by omega) (by rw [g1]; show _ = mo_e (sp_min _ _); rw [e0]; cases sp_f B E (k / 5) (k % 5) y <;> rfl) g2 g3 g4))
                · refine go_aload_n 0 d_Mo_findBounds_150 rfl rfl ?_
                  refine go_getR d_Mo_findBounds_151 f_Mo_63 (by assumption) (by assumption) ?_
                  refine go_iload d_Mo_findBounds_154 rfl ?_
                  refine go_aload_n 0 d_Mo_findBounds_156 rfl rfl ?_
                  refine go_getR d_Mo_findBounds_157 f_Mo_63 (by assumption) (by assumption) ?_
                  refine go_iload d_Mo_findBounds_160 rfl ?_
                  refine go_lald (k) d_Mo_findBounds_162 (by assumption) (rfl) (by omega) (by decide) ?_
                  refine go_lload d_Mo_findBounds_163 rfl ?_
                  refine go_lload d_Mo_findBounds_165 rfl ?_
                  refine go_ladd d_Mo_findBounds_167 ?_
                  rw [g1]
                  refine go_S2 d_Mo_findBounds_168 k_Mo_120 (Nat.le_of_ble_eq_true rfl) (c_Mo_least ?_)
                  refine go_last (k) d_Mo_findBounds_171 (by assumption) (rfl) (by omega) (by decide) ?_
                  refine go_iinc d_Mo_findBounds_172 rfl rfl (Nat.le_of_ble_eq_true rfl) ?_
                  refine go_goto 92 d_Mo_findBounds_175 rfl ?_
                  exact (by first | (obtain ⟨x1, hx1⟩ := (mo_lt q1).mp (by first | exact h137 | exact Int64.not_le.mp h137); obtain ⟨x2, hx2⟩ := (mo_lt q2).mp (by first | exact h146 | exact Int64.not_le.mp h146); have ep : mo_e (B (k / 5) y) + mo_e (E y (k % 5)) = mo_e (sp_plus (B (k / 5) y) (E y (k % 5))) := (by rw [hx1, hx2]; exact kn_add x1 x2); have eps : ∀ x, sp_plus (B (k / 5) y) (E y (k % 5)) = some x → kn_s x := (fun x h => by rw [hx1, hx2] at h; cases h; have w1 := hBs _ _ x1 hk5 hy5 hx1; have w2 := hbd _ _ x2 hx2; exact ⟨by omega, by omega⟩); exact ihu (y + 1) _ _ _ _ _ _ (gw_inc hz) (by omega) (by rw [up2_eq, ep, mo_min q3 eps]; rfl) (fun j hj => by rw [up2_ne (Or.inr (by omega))]; exact g2 j hj) (by rw [gw_up_ne (by decide)]; exact g3) (fun q a b => by rw [gw_up_ne b]; exact g4 q a b)) | (have e0 : sp_plus (B (k / 5) y) (E y (k % 5)) = none := (by first | (cases hb : B (k / 5) y with | none => rfl | some w => exact absurd ((mo_lt q1).mpr ⟨w, hb⟩) (by first | exact h137 | exact Int64.not_lt.mpr h137)) | (cases hb : E y (k % 5) with | none => (cases B (k / 5) y <;> rfl) | some w => exact absurd ((mo_lt q2).mpr ⟨w, hb⟩) (by first | exact h146 | exact Int64.not_lt.mpr h146))); exact ihu (y + 1) _ L3 _ _ _ _ (gw_inc hz) (by omega) (by rw [g1]; show _ = mo_e (sp_min _ _); rw [e0]; cases sp_f B E (k / 5) (k % 5) y <;> rfl) g2 g3 g4))
          refine go_iload d_Mo_findBounds_68 rfl ?_
          refine go_bipush (v := 25) d_Mo_findBounds_70 rfl ?_
          refine go_icmp_ge 184 d_Mo_findBounds_72 rfl (fun hn => absurd hn (nI_ge (b := 25) (by omega) (by decide))) (fun _ => ?_)
          refine go_aload_n 0 d_Mo_findBounds_75 rfl rfl ?_
          refine go_getR d_Mo_findBounds_76 f_Mo_63 (by assumption) (by assumption) ?_
          refine go_iload d_Mo_findBounds_79 rfl ?_
          refine go_aload_n 0 d_Mo_findBounds_81 rfl rfl ?_
          refine go_getR d_Mo_findBounds_82 f_Mo_60 (by assumption) (by assumption) ?_
          refine go_iload d_Mo_findBounds_85 rfl ?_
          refine go_lald (k) d_Mo_findBounds_87 (by assumption) (rfl) (by omega) (by decide) ?_
          refine go_last (k) d_Mo_findBounds_88 (by assumption) (rfl) (by omega) (by decide) ?_
          refine go_iconst (v := 0) d_Mo_findBounds_89 rfl ?_
          refine go_istore d_Mo_findBounds_90 (Nat.le_of_ble_eq_true rfl) ?_
          exact edge 5 0 _ _ _ _ _ _ rfl rfl (by rw [up2_eq, h2]; have := hL (k / 5) (k % 5) hk5 hkm; rw [show 5 * (k / 5) + k % 5 = k by omega] at this; exact this) (fun j hj => by rw [up2_ne (Or.inr (by omega))]; exact h1 j hj) (by rw [gw_up_ne (by decide)]; exact h2) (fun q a b => by rw [gw_up_ne b]; exact hfr2 q a b)
      refine go_iload_n 3 d_Mo_findBounds_60 rfl rfl ?_
      refine go_iconst (v := 4) d_Mo_findBounds_61 rfl ?_
      refine go_icmp_ge 220 d_Mo_findBounds_62 rfl (fun hn => absurd hn (nI_ge (b := 4) (by omega) (by decide))) (fun _ => ?_)
      refine go_iconst (v := 0) d_Mo_findBounds_65 rfl ?_
      refine go_istore d_Mo_findBounds_66 (Nat.le_of_ble_eq_true rfl) ?_
      exact ent 25 0 _ L1 _ _ _ _ _ rfl rfl (fun j hj => by omega) rfl hfr
  -- the first table
  have init : ∀ (w k : Nat) (x : Int32) (L1 : Nat → Nat → Int64) (o4 o5 o6 o7 o8 o9 : Option Value), x = nI k → k + w = 25 → (∀ j, j < k → L1 550 j = mo_e (sp_1 E (j / 5) (j % 5))) → (∀ q, q ≠ 550 → q ≠ 551 → L1 q = L q) → gw_Go y_Mo_findBounds (d + 1) 0 0 10 [some (.ref 533), some (.int (nI r)), some (.int (nI (104 * r + 24))), some (.int x), o4, o5, o6, o7, o8, o9] [] (n, sh, X, R, I, L1) Q := by
    intro w
    induction w with
    | zero =>
      intro k x L1 o4 o5 o6 o7 o8 o9 hx hk h1 hfr
      have h25 : k = 25 := by omega
      subst h25
      refine go_iload_n 3 d_Mo_findBounds_10 rfl rfl ?_
      refine go_bipush (v := 25) d_Mo_findBounds_11 rfl ?_
      refine go_icmp_ge 58 d_Mo_findBounds_13 rfl (fun _ => ?_) (fun hn => absurd (by rw [hx]; decide) hn)
      refine go_iconst (v := 0) d_Mo_findBounds_58 rfl ?_
      refine go_istore_n 3 d_Mo_findBounds_59 rfl (Nat.le_of_ble_eq_true rfl) ?_
      exact rounds 4 0 (sp_1 E) _ L1 _ _ _ _ _ _ rfl rfl (fun a b ha hb => sp_M_1 ha hb) (fun a b ha hb => by rw [h1 _ (by omega), show (5 * a + b) / 5 = a by omega, show (5 * a + b) % 5 = b by omega]) hfr
    | succ w ih =>
      intro k x L1 o4 o5 o6 o7 o8 o9 hx hk h1 hfr
      subst hx
      have e6 : nI k - nI k / 6 * 6 = nI (k % 6) := pk_rem (d := 6) (by omega) (by decide) (by decide)
      have eE : L1 549 (104 * r + 24 + k) = mo_e (E (k / 5) (k % 5)) := by have := hE (k / 5) (k % 5) (by omega) (by omega); rw [hfr _ (by decide) (by decide), ← this]; exact congrArg _ (by omega)
      have hz : nI (k % 6) = 0 ↔ k / 5 = k % 5 := by rw [show (0 : Int32) = nI 0 from rfl, nI_eq (by omega) (by decide)]; omega
      refine go_iload_n 3 d_Mo_findBounds_10 rfl rfl ?_
      refine go_bipush (v := 25) d_Mo_findBounds_11 rfl ?_
      refine go_icmp_ge 58 d_Mo_findBounds_13 rfl (fun hn => absurd hn (nI_ge (b := 25) (by omega) (by decide))) (fun _ => ?_)
      refine go_aload_n 0 d_Mo_findBounds_16 rfl rfl ?_
      refine go_getR d_Mo_findBounds_17 f_Mo_60 (by assumption) (by assumption) ?_
      refine go_iload_n 3 d_Mo_findBounds_20 rfl rfl ?_
      refine go_iload_n 3 d_Mo_findBounds_21 rfl rfl ?_
      refine go_bipush (v := 6) d_Mo_findBounds_22 rfl ?_
      refine go_irem d_Mo_findBounds_24 (by decide) ?_
      rw [e6]
      refine go_if_ne 43 d_Mo_findBounds_25 rfl (fun h25 => ?_) (fun h25 => ?_)
      · refine go_aload_n 0 d_Mo_findBounds_43 rfl rfl ?_
        refine go_getR d_Mo_findBounds_44 f_Mo_56 (by assumption) (by assumption) ?_
        refine go_iload_n 2 d_Mo_findBounds_47 rfl rfl ?_
        refine go_iload_n 3 d_Mo_findBounds_48 rfl rfl ?_
        refine go_iadd d_Mo_findBounds_49 ?_
        refine go_lald (104 * r + 24 + k) d_Mo_findBounds_50 (by assumption) (nI_add _ _) (by omega) (by decide) ?_
        refine go_last (k) d_Mo_findBounds_51 (by assumption) (rfl) (by omega) (by decide) ?_
        refine go_iinc d_Mo_findBounds_52 rfl rfl (Nat.le_of_ble_eq_true rfl) ?_
        refine go_goto 10 d_Mo_findBounds_55 rfl ?_
        exact ih (k + 1) _ _ _ _ _ _ _ _ (gw_inc rfl) (by omega) (fun j hj => by (by_cases he : j = k; (subst he; rw [up2_eq]; unfold sp_1; first | (rw [if_neg (fun hh => h25 (hz.mpr hh)), eE]) | (rw [if_pos (hz.mp h25)]; exact mo_min (p := some 0) (fun x h => by cases h; exact ⟨by omega, by omega⟩) (fun x h => hs _ _ x h))); (rw [up2_ne (Or.inr he)]; exact h1 j (by omega)))) (fun q a b => by rw [gw_up_ne a]; exact hfr q a b)
      · refine go_lconst (v := 0) d_Mo_findBounds_28 rfl ?_
        refine go_aload_n 0 d_Mo_findBounds_29 rfl rfl ?_
        refine go_getR d_Mo_findBounds_30 f_Mo_56 (by assumption) (by assumption) ?_
        refine go_iload_n 2 d_Mo_findBounds_33 rfl rfl ?_
        refine go_iload_n 3 d_Mo_findBounds_34 rfl rfl ?_
        refine go_iadd d_Mo_findBounds_35 ?_
        refine go_lald (104 * r + 24 + k) d_Mo_findBounds_36 (by assumption) (nI_add _ _) (by omega) (by decide) ?_
        rw [eE]
        refine go_S2 d_Mo_findBounds_37 k_Mo_120 (Nat.le_of_ble_eq_true rfl) (c_Mo_least ?_)
        refine go_goto 51 d_Mo_findBounds_40 rfl ?_
        refine go_last (k) d_Mo_findBounds_51 (by assumption) (rfl) (by omega) (by decide) ?_
        refine go_iinc d_Mo_findBounds_52 rfl rfl (Nat.le_of_ble_eq_true rfl) ?_
        refine go_goto 10 d_Mo_findBounds_55 rfl ?_
        exact ih (k + 1) _ _ _ _ _ _ _ _ (gw_inc rfl) (by omega) (fun j hj => by (by_cases he : j = k; (subst he; rw [up2_eq]; unfold sp_1; first | (rw [if_neg (fun hh => h25 (hz.mpr hh)), eE]) | (rw [if_pos (hz.mp h25)]; exact mo_min (p := some 0) (fun x h => by cases h; exact ⟨by omega, by omega⟩) (fun x h => hs _ _ x h))); (rw [up2_ne (Or.inr he)]; exact h1 j (by omega)))) (fun q a b => by rw [gw_up_ne a]; exact hfr q a b)
  refine go_bipush (v := 104) d_Mo_findBounds_0 rfl ?_
  refine go_iload_n 1 d_Mo_findBounds_2 rfl rfl ?_
  refine go_imul d_Mo_findBounds_3 ?_
  refine go_bipush (v := 24) d_Mo_findBounds_4 rfl ?_
  refine go_iadd d_Mo_findBounds_6 ?_
  rw [show (104 : Int32) * nI r + 24 = nI (104 * r + 24) from ix3 (a := 24)]
  refine go_istore_n 2 d_Mo_findBounds_7 rfl (Nat.le_of_ble_eq_true rfl) ?_
  refine go_iconst (v := 0) d_Mo_findBounds_8 rfl ?_
  refine go_istore_n 3 d_Mo_findBounds_9 rfl (Nat.le_of_ble_eq_true rfl) ?_
  exact init 25 0 _ L _ _ _ _ _ _ rfl rfl (fun j hj => by omega) (fun _ _ _ => rfl)
end MO
